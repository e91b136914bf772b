theorem k_fillL {q : Nat} {v : Int32} : ∀ n i (S : kw_S), (∀ a b d, (k_J_fill_AW_L5 n i q v S).1 a b d = if a = 11 ∧ b = q ∧ i ≤ d ∧ d < i + n then v else S.1 a b d) ∧ (k_J_fill_AW_L5 n i q v S).2 = S.2 := by
  intro n
  induction n with
  | zero =>
    intro i S
    refine ⟨fun a b d => ?_, rfl⟩
    rw [if_neg (fun z => by have := z.2.2; omega)]
    rfl
  | succ n ih =>
    intro i S
    obtain ⟨h1, h2⟩ := ih (i + 1) (kw_si S 11 q i v)
    refine ⟨fun a b d => ?_, h2⟩
    refine (h1 a b d).trans ?_
    rw [kw_si_at]
    by_cases g : a = 11 ∧ b = q
    · by_cases g2 : i + 1 ≤ d ∧ d < i + 1 + n
      · rw [if_pos ⟨g.1, g.2, g2⟩, if_pos ⟨g.1, g.2, by omega, by omega⟩]
      · rw [if_neg (fun z => g2 z.2.2)]
        by_cases g3 : d = i
        · rw [if_pos ⟨g.1, g.2, g3⟩, if_pos ⟨g.1, g.2, by omega, by omega⟩]
        · rw [if_neg (fun z => g3 z.2.2), if_neg (fun z => by have := z.2.2; omega)]
    · rw [if_neg (fun z => g ⟨z.1, z.2.1⟩), if_neg (fun z => g ⟨z.1, z.2.1⟩), if_neg (fun z => g ⟨z.1, z.2.1⟩)]
theorem q_fillL {s : Nat} : ∀ n i (T : qw_S), (k_Q_fresh_L57 n i s T).1 = nI s ∧ (∀ a b d, (k_Q_fresh_L57 n i s T).2.1 a b d = if a = 15 ∧ b = 0 ∧ i ≤ d ∧ d < i + n then 0 else T.1 a b d) ∧ (k_Q_fresh_L57 n i s T).2.2 = T.2 := by
  intro n
  induction n with
  | zero =>
    intro i S
    refine ⟨rfl, fun a b d => ?_, rfl⟩
    rw [if_neg (fun z => by have := z.2.2; omega)]
    rfl
  | succ n ih =>
    intro i S
    obtain ⟨h0, h1, h2⟩ := ih (i + 1) (qw_si S 15 0 i (0 : Int32))
    refine ⟨h0, fun a b d => ?_, h2⟩
    refine (h1 a b d).trans ?_
    rw [qw_si_at]
    by_cases g : a = 15 ∧ b = 0
    · by_cases g2 : i + 1 ≤ d ∧ d < i + 1 + n
      · rw [if_pos ⟨g.1, g.2, g2⟩, if_pos ⟨g.1, g.2, by omega, by omega⟩]
      · rw [if_neg (fun z => g2 z.2.2)]
        by_cases g3 : d = i
        · rw [if_pos ⟨g.1, g.2, g3⟩, if_pos ⟨g.1, g.2, by omega, by omega⟩]
        · rw [if_neg (fun z => g3 z.2.2), if_neg (fun z => by have := z.2.2; omega)]
    · rw [if_neg (fun z => g ⟨z.1, z.2.1⟩), if_neg (fun z => g ⟨z.1, z.2.1⟩), if_neg (fun z => g ⟨z.1, z.2.1⟩)]
theorem k_new {c : Nat → Nat} {S : kw_S} {s : Nat} (hC : ∀ i, i < 32 → S.1 10 i 0 = nI (c i)) (hC4 : ∀ i, c i < 64) (hs : s < 32) (hc : c s = 0) (hl : ∀ d, d < s → c d ≠ 0) : k_M_newSheet S = k_M_newSheet_J26 s S := by
  have key : ∀ n i, i + n = 31 → i ≤ s → k_M_newSheet_L2 n i S = k_M_newSheet_J26 s S := by
    intro n
    induction n with
    | zero =>
      intro i h hi
      rw [show s = i by omega]
      rfl
    | succ n ih =>
      intro i h hi
      by_cases e : i = s
      · subst e
        exact if_pos (by rw [hC i hs, hc]; decide)
      · refine (if_neg ?_).trans (ih (i + 1) (by omega) (by omega))
        rw [hC i (by omega)]
        have h1 := hl i (by omega)
        have h2 := hC4 i
        exact nI_nle (by omega) (by omega)
  exact key 31 0 rfl (Nat.zero_le _)
theorem q_new {c : Nat → Nat} {T : qw_S} {s : Nat} (hC : ∀ i, i < 34 → (T.1 10 0 i = 0 ↔ c i = 0)) (hs : s < 32) (hc : c s = 0) (hl : ∀ d, d < s → c d ≠ 0) : k_Q_fresh T = k_Q_fresh_J17 s T ∧ p_Q_fresh T := by
  have key : ∀ n i, i + n = 34 → i ≤ s → k_Q_fresh_L2 n i T = k_Q_fresh_J17 s T ∧ p_Q_fresh_L2 n i T := by
    intro n
    induction n with
    | zero =>
      intro i h hi
      omega
    | succ n ih =>
      intro i h hi
      by_cases e : i = s
      · subst e
        have g : T.1 10 0 i = 0 := (hC i (by omega)).mpr hc
        unfold k_Q_fresh_L2 p_Q_fresh_L2
        rw [if_pos g, if_pos g]
        exact ⟨rfl, trivial⟩
      · have g : ¬ T.1 10 0 i = 0 := fun q => hl i (by omega) ((hC i (by omega)).mp q)
        unfold k_Q_fresh_L2 p_Q_fresh_L2
        rw [if_neg g, if_neg g]
        exact ih (i + 1) (by omega) (by omega)
  exact key 34 0 rfl (Nat.zero_le _)
/-- the same sheet is made on both sides -/
theorem r_new {c : Nat → Nat} {S : kw_S} {T : qw_S} {s : Nat} (h : r_M c S T) (hz : r_Z (fun i => i < 32 ∧ c i = 0) S) (hs : s < 32) (hc : c s = 0) (hl : ∀ d, d < s → c d ≠ 0) : ∃ U V, k_M_newSheet S = (s, U) ∧ k_Q_fresh T = (nI s, V) ∧ p_Q_fresh T ∧ r_M (r_up c s 1) U V ∧ U.2 = S.2 ∧ V.2 = T.2 ∧ (∀ a, a ≠ 10 → a ≠ 11 → U.1 a = S.1 a) ∧ (∀ a, a < 10 ∨ 15 < a → V.1 a = T.1 a) ∧ (∀ a, U.1 10 a 1 = S.1 10 a 1 ∧ U.1 10 a 2 = S.1 10 a 2) := by
  obtain ⟨f1, f2⟩ := k_fillL (q := s) (v := (0 : Int32)) 8 0 S
  obtain ⟨g0, g1, g2⟩ := q_fillL (s := s) 8 (8 * s) (qw_si (qw_si (qw_si (qw_si (qw_si T 10 0 s (1 : Int32)) 11 0 s (0 : Int32)) 12 0 s (0 : Int32)) 13 0 s (-1 : Int32)) 14 0 s (-1 : Int32))
  obtain ⟨q1, q2⟩ := q_new h.1.2.1 hs hc hl
  have q3 : k_Q_fresh T = (nI s, (k_Q_fresh_J17 s T).2) := by
    rw [q1]
    exact Prod.ext g0 rfl
  refine ⟨kw_si (k_J_fill_AW_L5 8 0 s 0 S) 10 s 0 (1 : Int32), (k_Q_fresh_J17 s T).2, k_new h.1.1 h.1.2.2.2 hs hc hl, q3, q2, ?_, f2, g2, fun a a1 a2 => ?_, fun a ha => ?_, fun a => ?_⟩
  · have u10 : ∀ i j, (kw_si (k_J_fill_AW_L5 8 0 s 0 S) 10 s 0 (1 : Int32)).1 10 i j = if i = s ∧ j = 0 then 1 else S.1 10 i j := by
      intro i j
      rw [kw_si_at, f1, if_neg (c := 10 = 11 ∧ _) (fun z => absurd z.1 (by decide))]
      by_cases e : i = s ∧ j = 0
      · rw [if_pos ⟨rfl, e⟩, if_pos e]
      · rw [if_neg (fun z => e z.2), if_neg e]
    have u11 : ∀ i j, (kw_si (k_J_fill_AW_L5 8 0 s 0 S) 10 s 0 (1 : Int32)).1 11 i j = if i = s ∧ j < 8 then 0 else S.1 11 i j := by
      intro i j
      rw [kw_si_at, f1, if_neg (c := 11 = 10 ∧ _) (fun z => absurd z.1 (by decide))]
      by_cases e : i = s ∧ j < 8
      · rw [if_pos ⟨rfl, e.1, Nat.zero_le _, by omega⟩, if_pos e]
      · rw [if_neg (fun z => e ⟨z.2.1, by omega⟩), if_neg e]
    have v15 : ∀ d, (k_Q_fresh_J17 s T).2.1 15 0 d = if 8 * s ≤ d ∧ d < 8 * s + 8 then 0 else T.1 15 0 d := by
      intro d
      refine (g1 15 0 d).trans ?_
      rw [qw_si_nc (by decide), qw_si_nc (by decide), qw_si_nc (by decide), qw_si_nc (by decide), qw_si_nc (by decide)]
      by_cases e : 8 * s ≤ d ∧ d < 8 * s + 8
      · rw [if_pos ⟨rfl, rfl, e⟩, if_pos e]
      · rw [if_neg (fun z => e z.2.2), if_neg e]
    have vv : ∀ a d, a ≠ 15 → (k_Q_fresh_J17 s T).2.1 a 0 d = (qw_si (qw_si (qw_si (qw_si (qw_si T 10 0 s (1 : Int32)) 11 0 s (0 : Int32)) 12 0 s (0 : Int32)) 13 0 s (-1 : Int32)) 14 0 s (-1 : Int32)).1 a 0 d := fun a d ha => (g1 a 0 d).trans (if_neg (fun z => ha z.1))
    have v10 : ∀ d, (k_Q_fresh_J17 s T).2.1 10 0 d = if d = s then 1 else T.1 10 0 d := by
      intro d
      rw [vv 10 d (by decide), qw_si_nc (by decide), qw_si_nc (by decide), qw_si_nc (by decide), qw_si_nc (by decide), qw_si_at]
      by_cases e : d = s
      · rw [if_pos ⟨rfl, rfl, e⟩, if_pos e]
      · rw [if_neg (fun z => e z.2.2), if_neg e]
    have v11 : ∀ d, (k_Q_fresh_J17 s T).2.1 11 0 d = if d = s then 0 else T.1 11 0 d := by
      intro d
      rw [vv 11 d (by decide), qw_si_nc (by decide), qw_si_nc (by decide), qw_si_nc (by decide), qw_si_at, qw_si_nc (by decide)]
      by_cases e : d = s
      · rw [if_pos ⟨rfl, rfl, e⟩, if_pos e]
      · rw [if_neg (fun z => e z.2.2), if_neg e]
    have v12 : ∀ d, (k_Q_fresh_J17 s T).2.1 12 0 d = if d = s then 0 else T.1 12 0 d := by
      intro d
      rw [vv 12 d (by decide), qw_si_nc (by decide), qw_si_nc (by decide), qw_si_at, qw_si_nc (by decide), qw_si_nc (by decide)]
      by_cases e : d = s
      · rw [if_pos ⟨rfl, rfl, e⟩, if_pos e]
      · rw [if_neg (fun z => e z.2.2), if_neg e]
    have v13 : ∀ d, (k_Q_fresh_J17 s T).2.1 13 0 d = if d = s then -1 else T.1 13 0 d := by
      intro d
      rw [vv 13 d (by decide), qw_si_nc (by decide), qw_si_at, qw_si_nc (by decide), qw_si_nc (by decide), qw_si_nc (by decide)]
      by_cases e : d = s
      · rw [if_pos ⟨rfl, rfl, e⟩, if_pos e]
      · rw [if_neg (fun z => e z.2.2), if_neg e]
    have v14 : ∀ d, (k_Q_fresh_J17 s T).2.1 14 0 d = if d = s then -1 else T.1 14 0 d := by
      intro d
      rw [vv 14 d (by decide), qw_si_at, qw_si_nc (by decide), qw_si_nc (by decide), qw_si_nc (by decide), qw_si_nc (by decide)]
      by_cases e : d = s
      · rw [if_pos ⟨rfl, rfl, e⟩, if_pos e]
      · rw [if_neg (fun z => e z.2.2), if_neg e]
    have hfr := h.2.2.1.1 s hs hc
    have hzs := hz s ⟨hs, hc⟩
    obtain ⟨c1, c2, c3, c4⟩ := h.1
    refine ⟨⟨fun i hi => ?_, fun i hi => ?_, fun i hi => ?_, fun i => ?_⟩, fun i hi hci => ?_, ?_, ?_⟩
    · rw [u10]
      by_cases e : i = s
      · rw [if_pos ⟨e, rfl⟩, show r_up c s 1 i = 1 from if_pos e]
        decide
      · rw [if_neg (fun z => e z.1), show r_up c s 1 i = c i from if_neg e]
        exact c1 i hi
    · rw [v10]
      by_cases e : i = s
      · rw [if_pos e, show r_up c s 1 i = 1 from if_pos e]
        decide
      · rw [if_neg e, show r_up c s 1 i = c i from if_neg e]
        exact c2 i hi
    · rw [show r_up c s 1 i = c i from if_neg (by omega)]
      exact c3 i hi
    · have := c4 i
      show (if i = s then 1 else c i) < 64
      split <;> omega
    · unfold r_sh
      rw [u10, u10, v11, v12, v13, v14]
      rw [if_neg (c := i = s ∧ 1 = 0) (fun z => absurd z.2 (by decide)), if_neg (c := i = s ∧ 2 = 0) (fun z => absurd z.2 (by decide))]
      have e2 : (kw_si (k_J_fill_AW_L5 8 0 s 0 S) 10 s 0 (1 : Int32)).2 = S.2 := f2
      rw [e2]
      by_cases e : i = s
      · rw [if_pos e, if_pos e, if_pos e, if_pos e, e]
        refine ⟨hzs.1, hzs.2, Or.inr ⟨hfr.1, rfl⟩, Or.inr ⟨hfr.2, rfl⟩, fun w hw => ?_⟩
        rw [u11, v15, if_pos ⟨rfl, hw⟩, if_pos ⟨by omega, by omega⟩]
      · rw [if_neg e, if_neg e, if_neg e, if_neg e]
        rw [show r_up c s 1 i = c i from if_neg e] at hci
        obtain ⟨a1, a2, a3, a4, a5⟩ := h.2.1 i hi hci
        refine ⟨a1, a2, a3, a4, fun w hw => ?_⟩
        rw [u11, v15, if_neg (fun z => e z.1), if_neg (fun z => by omega)]
        exact a5 w hw
    · have e2 : (kw_si (k_J_fill_AW_L5 8 0 s 0 S) 10 s 0 (1 : Int32)).2 = S.2 := f2
      have hF := h.2.2.1
      unfold r_F at hF ⊢
      rw [e2]
      refine ⟨fun i hi hci => hF.1 i hi ?_, hF.2⟩
      by_cases e : i = s
      · rw [show r_up c s 1 i = 1 from if_pos e] at hci
        omega
      · rw [show r_up c s 1 i = c i from if_neg e] at hci
        exact hci
    · refine r_N_of h.2.2.2 (congrFun f2 2) (congrFun g2 0) (funext fun b => funext fun d => ?_) (funext fun b => funext fun d => ?_)
      · rw [kw_si_nc (by decide), f1, if_neg (fun z => absurd z.1 (by decide))]
      · refine (g1 17 b d).trans ((if_neg (fun z => absurd z.1 (by decide))).trans ?_)
        rw [qw_si_nc (by decide), qw_si_nc (by decide), qw_si_nc (by decide), qw_si_nc (by decide), qw_si_nc (by decide)]
  · funext b d
    rw [kw_si_nc a1, f1, if_neg (fun z => a2 z.1)]
  · funext b d
    refine (g1 a b d).trans ((if_neg (fun z => by have := z.1; omega)).trans ?_)
    rw [qw_si_nc (by omega), qw_si_nc (by omega), qw_si_nc (by omega), qw_si_nc (by omega), qw_si_nc (by omega)]
  · rw [kw_si_at, kw_si_at, f1, f1, if_neg (fun z => absurd z.2.2 (by decide)), if_neg (fun z => absurd z.1 (by decide)), if_neg (fun z => absurd z.2.2 (by decide)), if_neg (fun z => absurd z.1 (by decide))]
    exact ⟨rfl, rfl⟩
