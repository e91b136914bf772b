/-! THE RELATION of the class' memory and the reference's: sheets have the same numbers; c i is the number of pages that sheet i belongs to -/
def r_fr (x : Nat) (y : Int32) : Prop := (x < 6 ∧ y = nI x) ∨ (¬ x < 6 ∧ y = -1)
def r_sl (x : Nat) (y : Int32) : Prop := (x < 32 ∧ y = nI x) ∨ (¬ x < 32 ∧ y = -1)
def r_sh (S : kw_S) (T : qw_S) (i : Nat) : Prop := S.1 10 i 1 = T.1 11 0 i ∧ S.1 10 i 2 = T.1 12 0 i ∧ r_fr (S.2 10 i 0) (T.1 13 0 i) ∧ r_sl (S.2 10 i 1) (T.1 14 0 i) ∧ ∀ w, w < 8 → S.1 11 i w = T.1 15 0 (8 * i + w)
/-- owners, is, counts in range -/
def r_C (c : Nat → Nat) (S : kw_S) (T : qw_S) : Prop := (∀ i, i < 32 → S.1 10 i 0 = nI (c i)) ∧ (∀ i, i < 34 → (T.1 10 0 i = 0 ↔ c i = 0)) ∧ (∀ i, 32 ≤ i → c i = 0) ∧ ∀ i, c i < 64
/-- frames and slots know their sheets, and the other way round; a free sheet has none -/
def r_F (c : Nat → Nat) (S : kw_S) : Prop := (∀ i, i < 32 → c i = 0 → ¬ S.2 10 i 0 < 6 ∧ ¬ S.2 10 i 1 < 32) ∧ (∀ f, f < 6 → S.2 5 0 f < 32 → S.2 10 (S.2 5 0 f) 0 = f) ∧ (∀ i, i < 32 → S.2 10 i 0 < 6 → S.2 5 0 (S.2 10 i 0) = i) ∧ (∀ t, t < 32 → S.2 6 0 t < 32 → S.2 10 (S.2 6 0 t) 1 = t) ∧ ∀ i, i < 32 → S.2 10 i 1 < 32 → S.2 6 0 (S.2 10 i 1) = i
/-- the hand, and what was counted -/
def r_N (S : kw_S) (T : qw_S) : Prop := S.2 2 0 0 % 6 = T.2 0 0 1 % 6 ∧ S.1 2 0 0 = T.1 17 0 7 ∧ S.1 2 0 1 = T.1 17 0 8 ∧ S.1 2 0 2 = T.1 17 0 9 ∧ S.1 2 0 3 = T.1 17 0 10
def r_M (c : Nat → Nat) (S : kw_S) (T : qw_S) : Prop := r_C c S T ∧ (∀ i, i < 32 → c i ≠ 0 → r_sh S T i) ∧ r_F c S ∧ r_N S T
theorem n_m1 {x : Nat} (h : x < 2 ^ 31) : ¬ nI x = -1 := by
  intro q
  have h1 := congrArg Int32.toInt q
  rw [nI_toInt h] at h1
  have h2 : (-1 : Int32).toInt = -1 := by decide
  omega
theorem n_neg : ((-1 : Int32) < 0) := by decide
theorem n_nn {x : Nat} (h : x < 2 ^ 31) : ¬ nI x < 0 := nI_pos h
theorem r_fr_f {x f : Nat} {y : Int32} (h : r_fr x y) (hf : f < 64) : y = nI f ↔ (x = f ∧ f < 6) := by
  rcases h with ⟨h1, rfl⟩ | ⟨h1, rfl⟩
  · rw [nI_eq (by omega) (by omega)]
    omega
  · constructor
    · intro q
      exact absurd q.symm (n_m1 (by omega))
    · intro q
      omega
theorem r_sl_f {x f : Nat} {y : Int32} (h : r_sl x y) (hf : f < 64) : y = nI f ↔ (x = f ∧ f < 32) := by
  rcases h with ⟨h1, rfl⟩ | ⟨h1, rfl⟩
  · rw [nI_eq (by omega) (by omega)]
    omega
  · constructor
    · intro q
      exact absurd q.symm (n_m1 (by omega))
    · intro q
      omega
theorem r_fr_neg {x : Nat} {y : Int32} (h : r_fr x y) : y < 0 ↔ ¬ x < 6 := by
  rcases h with ⟨h1, rfl⟩ | ⟨h1, rfl⟩
  · exact ⟨fun q => absurd q (n_nn (by omega)), fun q => absurd h1 q⟩
  · exact ⟨fun _ => h1, fun _ => n_neg⟩
theorem r_sl_neg {x : Nat} {y : Int32} (h : r_sl x y) : y < 0 ↔ ¬ x < 32 := by
  rcases h with ⟨h1, rfl⟩ | ⟨h1, rfl⟩
  · exact ⟨fun q => absurd q (n_nn (by omega)), fun q => absurd h1 q⟩
  · exact ⟨fun _ => h1, fun _ => n_neg⟩
theorem q_inL {T : qw_S} {f : Int32} {x : Nat} (hx : x < 34) (h1 : ¬ T.1 10 0 x = 0) (h2 : T.1 13 0 x = f) (hu : ∀ s, s < 34 → ¬ T.1 10 0 s = 0 → T.1 13 0 s = f → s = x) : ∀ n i, i + n = 34 → i ≤ x → k_Q_inFrame_L2 n i f T = nI x := by
  intro n
  induction n with
  | zero => exact fun i h h3 => absurd hx (by omega)
  | succ n ih =>
    intro i h h3
    by_cases e : i = x
    · subst e
      exact (if_neg h1).trans (if_pos h2)
    · have hn := ih (i + 1) (by omega) (by omega)
      by_cases g1 : T.1 10 0 i = 0
      · exact (if_pos g1).trans hn
      · have g2 : ¬ T.1 13 0 i = f := fun q => e (hu i (by omega) g1 q)
        exact (if_neg g1).trans ((if_neg g2).trans hn)
theorem q_inN {T : qw_S} {f : Int32} (hu : ∀ s, s < 34 → ¬ T.1 10 0 s = 0 → ¬ T.1 13 0 s = f) : ∀ n i, i + n = 34 → k_Q_inFrame_L2 n i f T = -1 := by
  intro n
  induction n with
  | zero => exact fun i h => rfl
  | succ n ih =>
    intro i h
    have hn := ih (i + 1) (by omega)
    by_cases g1 : T.1 10 0 i = 0
    · exact (if_pos g1).trans hn
    · exact (if_neg g1).trans ((if_neg (hu i (by omega) g1)).trans hn)
theorem q_slL {T : qw_S} {f : Int32} {x : Nat} (hx : x < 34) (h1 : ¬ T.1 10 0 x = 0) (h2 : T.1 14 0 x = f) : ∀ n i, i + n = 34 → i ≤ x → k_Q_isSlot_L2 n i f T = 1 := by
  intro n
  induction n with
  | zero => exact fun i h h3 => absurd hx (by omega)
  | succ n ih =>
    intro i h h3
    by_cases e : i = x
    · subst e
      exact (if_neg h1).trans (if_pos h2)
    · have hn := ih (i + 1) (by omega) (by omega)
      by_cases g1 : T.1 10 0 i = 0
      · exact (if_pos g1).trans hn
      · by_cases g2 : T.1 14 0 i = f
        · exact (if_neg g1).trans (if_pos g2)
        · exact (if_neg g1).trans ((if_neg g2).trans hn)
theorem q_slN {T : qw_S} {f : Int32} (hu : ∀ s, s < 34 → ¬ T.1 10 0 s = 0 → ¬ T.1 14 0 s = f) : ∀ n i, i + n = 34 → k_Q_isSlot_L2 n i f T = 0 := by
  intro n
  induction n with
  | zero => exact fun i h => rfl
  | succ n ih =>
    intro i h
    have hn := ih (i + 1) (by omega)
    by_cases g1 : T.1 10 0 i = 0
    · exact (if_pos g1).trans hn
    · exact (if_neg g1).trans ((if_neg (hu i (by omega) g1)).trans hn)
/-- a sheet in use is one of 32, and related -/
theorem r_use {c : Nat → Nat} {S : kw_S} {T : qw_S} (h : r_M c S T) {s : Nat} (hs : s < 34) (g : ¬ T.1 10 0 s = 0) : s < 32 ∧ c s ≠ 0 ∧ r_sh S T s := by
  have h1 : c s ≠ 0 := fun q => g ((h.1.2.1 s hs).mpr q)
  have h2 : s < 32 := by
    apply Nat.lt_of_not_le
    intro q
    exact h1 (h.1.2.2.1 s q)
  exact ⟨h2, h1, h.2.1 s h2 h1⟩
theorem r_inF {c : Nat → Nat} {S : kw_S} {T : qw_S} (h : r_M c S T) {f : Nat} (hf : f < 6) (g : S.2 5 0 f < 32) : c (S.2 5 0 f) ≠ 0 := by
  intro q
  have h1 := h.2.2.1.2.1 f hf g
  have h2 := (h.2.2.1.1 _ g q).1
  omega
theorem r_inFrame {c : Nat → Nat} {S : kw_S} {T : qw_S} (h : r_M c S T) {f : Nat} (hf : f < 6) : k_Q_inFrame T (nI f) = if S.2 5 0 f < 32 then nI (S.2 5 0 f) else -1 := by
  by_cases g : S.2 5 0 f < 32
  · rw [if_pos g]
    have hc := r_inF h hf g
    have hr := h.2.1 _ g hc
    refine q_inL (x := S.2 5 0 f) (by omega) (fun q => hc ((h.1.2.1 _ (by omega)).mp q)) ((r_fr_f hr.2.2.1 (by omega)).mpr ⟨h.2.2.1.2.1 f hf g, hf⟩) (fun s hs g1 g2 => ?_) 34 0 rfl (Nat.zero_le _)
    obtain ⟨h1, h2, h3⟩ := r_use h hs g1
    have h4 := ((r_fr_f h3.2.2.1 (by omega)).mp g2).1
    have h5 := h.2.2.1.2.2.1 s h1 (by omega)
    rw [h4] at h5
    exact h5.symm
  · rw [if_neg g]
    refine q_inN (fun s hs g1 g2 => ?_) 34 0 rfl
    obtain ⟨h1, h2, h3⟩ := r_use h hs g1
    have h4 := ((r_fr_f h3.2.2.1 (by omega)).mp g2).1
    have h5 := h.2.2.1.2.2.1 s h1 (by omega)
    rw [h4] at h5
    omega
theorem r_isSlot {c : Nat → Nat} {S : kw_S} {T : qw_S} (h : r_M c S T) {t : Nat} (ht : t < 64) : k_Q_isSlot T (nI t) = if t < 32 ∧ S.2 6 0 t < 32 then 1 else 0 := by
  by_cases g : t < 32 ∧ S.2 6 0 t < 32
  · rw [if_pos g]
    have h1 := h.2.2.1.2.2.2.1 t g.1 g.2
    have hc : c (S.2 6 0 t) ≠ 0 := fun q => by
      have := (h.2.2.1.1 _ g.2 q).2
      omega
    have hr := h.2.1 _ g.2 hc
    exact q_slL (x := S.2 6 0 t) (by omega) (fun q => hc ((h.1.2.1 _ (by omega)).mp q)) ((r_sl_f hr.2.2.2.1 ht).mpr ⟨h1, g.1⟩) 34 0 rfl (Nat.zero_le _)
  · rw [if_neg g]
    refine q_slN (fun s hs g1 g2 => ?_) 34 0 rfl
    obtain ⟨h1, h2, h3⟩ := r_use h hs g1
    obtain ⟨h4, h6⟩ := (r_sl_f h3.2.2.2.1 ht).mp g2
    have h5 := h.2.2.1.2.2.2.2 s h1 (by omega)
    rw [h4] at h5
    exact g ⟨h6, by omega⟩
/-- the first of n numbers that f sends to s, and how many -/
def r_cnt (f : Nat → Nat) (s : Nat) : Nat → Nat
  | 0 => 0
  | n + 1 => r_cnt f s n + (if f n = s then 1 else 0)
theorem r_cnt_le {f : Nat → Nat} {s : Nat} : ∀ n, r_cnt f s n ≤ n := by
  intro n
  induction n with
  | zero => exact Nat.le_refl 0
  | succ n ih =>
    unfold r_cnt
    split <;> omega
theorem qw_pg_eq {x s : Nat} (hs : s < 34) : qw_pg x = nI s ↔ x = s := by
  unfold qw_pg
  by_cases h : x < 34
  · rw [if_pos h, nI_eq (by omega) (by omega)]
  · rw [if_neg h]
    constructor
    · intro q
      exact absurd q.symm (n_m1 (by omega))
    · intro q
      omega
theorem r_cnt_split {f : Nat → Nat} {s : Nat} (m : Nat) : ∀ n i, i + n = m → r_cnt f s m = r_cnt f s i + (r_cnt f s m - r_cnt f s i) := by
  have mono : ∀ k i, r_cnt f s i ≤ r_cnt f s (i + k) := by
    intro k
    induction k with
    | zero => exact fun i => Nat.le_refl _
    | succ k ih =>
      intro i
      have := ih i
      show _ ≤ r_cnt f s (i + k) + _
      omega
  intro n i h
  have := mono n i
  rw [h] at this
  omega
theorem q_sharersL {T : qw_S} {s : Nat} (hs : s < 34) : ∀ n i m, i + n = 32 → m = r_cnt (T.2 9 0) s i → k_Q_sharers_L4 n i (nI s) (nI m) T = nI (r_cnt (T.2 9 0) s 32) := by
  intro n
  induction n with
  | zero =>
    intro i m h hm
    have e : i = 32 := by omega
    subst e
    rw [hm]
    rfl
  | succ n ih =>
    intro i m h hm
    by_cases g : T.2 9 0 i = s
    · have e : k_Q_sharers_L4 (n + 1) i (nI s) (nI m) T = k_Q_sharers_L4 n (i + 1) (nI s) (nI m + Int32.ofInt 1) T := if_pos ((qw_pg_eq hs).mpr g)
      rw [e, show nI m + Int32.ofInt 1 = nI (m + 1) from nI_1 m]
      refine ih (i + 1) (m + 1) (by omega) ?_
      show m + 1 = r_cnt (T.2 9 0) s i + _
      rw [if_pos g, hm]
    · have e : k_Q_sharers_L4 (n + 1) i (nI s) (nI m) T = k_Q_sharers_L4 n (i + 1) (nI s) (nI m) T := if_neg (fun q => g ((qw_pg_eq hs).mp q))
      rw [e]
      refine ih (i + 1) m (by omega) ?_
      show m = r_cnt (T.2 9 0) s i + _
      rw [if_neg g, hm]
      rfl
theorem q_sharers {T : qw_S} {s : Nat} (hs : s < 34) : k_Q_sharers T (nI s) = nI (r_cnt (T.2 9 0) s 32) := q_sharersL hs 32 0 0 rfl rfl
