theorem r_touch {S : kw_S} {T : qw_S} {x : Nat} {a p : Nat} {w : Int32} (h : r_P S T) (hc : r_c T x ≠ 0) : r_P (k_M_reach_J118 w x S).2 (k_Q_reach_J143 a w x T).2 ∧ (k_M_reach_J118 w x S).1 = x ∧ (k_Q_reach_J143 a w x T).1 = nI (8 * x + a % 8) ∧ g_K p S (k_M_reach_J118 w x S).2 ∧ g_Q p T (k_Q_reach_J143 a w x T).2 ∧ (k_M_reach_J118 w x S).2.2 = S.2 ∧ (k_Q_reach_J143 a w x T).2.2 = T.2 := by
  have hz : ¬ (fun i => i < 32 ∧ r_c T i = 0) x := fun q => hc q.2
  unfold k_M_reach_J118 k_Q_reach_J143
  dsimp only
  by_cases g : w = 0
  · rw [if_pos g, if_pos g]
    exact ⟨r_P_of (T := T) rfl (u_us h.1) (z_e h.2.1 hz) (r_pg_of h.2.2.1 rfl rfl) (r_fa_of h.2.2.2 (kw_si_nc (by decide)) (qw_si_nc (by decide))), rfl, rfl, g_K_i g_K_r (by omega), g_Q_i g_Q_r (by omega), rfl, rfl⟩
  · rw [if_neg g, if_neg g]
    exact ⟨r_P_of (T := T) rfl (u_ch (u_us h.1)) (z_e (z_e h.2.1 hz) hz) (r_pg_of h.2.2.1 rfl rfl) (r_fa_of h.2.2.2 (by rw [kw_si_nc (by decide), kw_si_nc (by decide)]) (by rw [qw_si_nc (by decide), qw_si_nc (by decide)])), rfl, rfl, g_K_i (g_K_i g_K_r (by omega)) (by omega), g_Q_i (g_Q_i g_Q_r (by omega)) (by omega), rfl, rfl⟩
theorem u_q9 {c : Nat → Nat} {S : kw_S} {T : qw_S} {j s : Nat} (h : r_M c S T) : r_M c S (qw_sn T 9 0 j s) :=
  ⟨h.1, h.2.1, h.2.2.1, r_N_of h.2.2.2 rfl (qw_sn_nc (by decide)) rfl rfl⟩
theorem u_k9 {c : Nat → Nat} {S : kw_S} {T : qw_S} {p k s : Nat} (h : r_M c S T) : r_M c (kw_sn S 9 p k s) T :=
  ⟨h.1, fun i hi hc => r_sh_of (h.2.1 i hi hc) rfl rfl (kw_sn_nc (by decide)) rfl rfl rfl rfl rfl, r_F_of h.2.2.1 (kw_sn_nc (by decide)) (kw_sn_nc (by decide)) (kw_sn_nc (by decide)), r_N_of h.2.2.2 (kw_sn_nc (by decide)) rfl rfl rfl⟩
/-- an owner less, who isn't the last -/
theorem u_own {c : Nat → Nat} {S : kw_S} {T : qw_S} {x m : Nat} (h : r_M c S T) (hx : x < 32) (hm : c x = m + 1) (hm2 : m ≠ 0) : r_M (r_up c x m) (kw_si S 10 x 0 (S.1 10 x 0 - (1 : Int32))) T := by
  obtain ⟨c1, c2, c3, c4⟩ := h.1
  have n0 : ∀ i, r_up c x m i = 0 ↔ c i = 0 := by
    intro i
    by_cases e : i = x
    · rw [show r_up c x m i = m from if_pos e, e]
      omega
    · rw [show r_up c x m i = c i from if_neg e]
  refine ⟨⟨fun i hi => ?_, fun i hi => (c2 i hi).trans (n0 i).symm, fun i hi => (n0 i).mpr (c3 i hi), fun i => ?_⟩, fun i hi hci => ?_, ?_, r_N_of h.2.2.2 rfl rfl (kw_si_nc (by decide)) rfl⟩
  · rw [kw_si_at]
    by_cases e : i = x
    · rw [if_pos ⟨rfl, e, rfl⟩, show r_up c x m i = m from if_pos e, c1 x hx, hm]
      exact nI_pred m
    · rw [if_neg (fun z => e z.2.1), show r_up c x m i = c i from if_neg e]
      exact c1 i hi
  · have h1 := c4 i
    have h2 := c4 x
    show (if i = x then m else c i) < 64
    split <;> omega
  · obtain ⟨a1, a2, a3, a4, a5⟩ := h.2.1 i hi (fun q => hci ((n0 i).mpr q))
    refine ⟨?_, ?_, a3, a4, fun w hw => ?_⟩
    · rw [kw_si_at, if_neg (fun z => absurd z.2.2 (by decide))]
      exact a1
    · rw [kw_si_at, if_neg (fun z => absurd z.2.2 (by decide))]
      exact a2
    · rw [kw_si_nc (by decide)]
      exact a5 w hw
  · have hF := h.2.2.1
    exact ⟨fun i hi hci => hF.1 i hi ((n0 i).mp hci), hF.2⟩
/-- the reference's copying of words -/
def q_cp : Nat → Nat → Nat → Nat → qw_S → qw_S
  | 0, _, _, _, T => T
  | n + 1, i, s, c, T => q_cp n (i + 1) s c (qw_si T 15 0 (8 * c + i) (T.1 15 0 (8 * s + i)))
theorem q_cpL {p a s c : Nat} {w : Int32} : ∀ n i (T : qw_S), k_Q_reach_L81 n i p a w s c T = k_Q_reach_L81 0 0 p a w s c (q_cp n i s c T) ∧ (p_Q_reach_L81 n i p a w s c T ↔ p_Q_reach_L81 0 0 p a w s c (q_cp n i s c T)) := by
  intro n
  induction n with
  | zero => exact fun i T => ⟨rfl, Iff.rfl⟩
  | succ n ih =>
    intro i T
    exact ih (i + 1) (qw_si T 15 0 (8 * c + i) (T.1 15 0 (8 * s + i)))
theorem q_cpA {s c : Nat} (hsc : s ≠ c) : ∀ n i (T : qw_S), i + n ≤ 8 → (∀ a b d, (q_cp n i s c T).1 a b d = if a = 15 ∧ b = 0 ∧ 8 * c + i ≤ d ∧ d < 8 * c + i + n then T.1 15 0 (8 * s + (d - 8 * c)) else T.1 a b d) ∧ (q_cp n i s c T).2 = T.2 := by
  intro n
  induction n with
  | zero =>
    intro i T _
    refine ⟨fun a b d => ?_, rfl⟩
    rw [if_neg (fun z => by have := z.2.2; omega)]
    rfl
  | succ n ih =>
    intro i T hn
    obtain ⟨h1, h2⟩ := ih (i + 1) (qw_si T 15 0 (8 * c + i) (T.1 15 0 (8 * s + i))) (by omega)
    refine ⟨fun a b d => ?_, h2⟩
    refine (h1 a b d).trans ?_
    rw [qw_si_at, qw_si_at]
    by_cases g : a = 15 ∧ b = 0
    · by_cases g2 : 8 * c + (i + 1) ≤ d ∧ d < 8 * c + (i + 1) + n
      · rw [if_pos ⟨g.1, g.2, g2⟩, if_neg (fun z => by have := z.2.2; omega), if_pos ⟨g.1, g.2, by omega, by omega⟩]
      · rw [if_neg (fun z => g2 z.2.2)]
        by_cases g3 : d = 8 * c + i
        · rw [if_pos ⟨g.1, g.2, g3⟩, if_pos ⟨g.1, g.2, by omega, by omega⟩, show d - 8 * c = i by omega]
        · rw [if_neg (fun z => g3 z.2.2), if_neg (fun z => by have := z.2.2; omega)]
    · rw [if_neg (fun z => g ⟨z.1, z.2.1⟩), if_neg (fun z => g ⟨z.1, z.2.1⟩), if_neg (fun z => g ⟨z.1, z.2.1⟩)]
theorem u_cpy {c : Nat → Nat} {U : kw_S} {V : qw_S} {x s : Nat} (h : r_M c U V) (hxs : x ≠ s) (hx : x < 32) (hcx : c x ≠ 0) : r_M c (kw_sr U 11 s (va_cpy (U.1 11 x) (U.1 11 s) 0 0 8)) (q_cp 8 0 x s V) := by
  obtain ⟨h1, h2⟩ := q_cpA hxs 8 0 V (Nat.le_refl _)
  have hn : ∀ a, a ≠ 15 → (q_cp 8 0 x s V).1 a = V.1 a := fun a ha => funext fun b => funext fun d => (h1 a b d).trans (if_neg (fun z => ha z.1))
  refine ⟨r_C_of h.1 (fun i _ => by rw [kw_sr_nc (by decide)]) (fun i _ => by rw [hn 10 (by decide)]), fun i hi hci => ?_, r_F_of h.2.2.1 rfl rfl rfl, r_N_of h.2.2.2 rfl (congrFun h2 0) (kw_sr_nc (by decide)) (hn 17 (by decide))⟩
  obtain ⟨a1, a2, a3, a4, a5⟩ := h.2.1 i hi hci
  refine ⟨?_, ?_, ?_, ?_, fun w hw => ?_⟩
  · rw [kw_sr_nc (by decide), hn 11 (by decide)]
    exact a1
  · rw [kw_sr_nc (by decide), hn 12 (by decide)]
    exact a2
  · rw [hn 13 (by decide)]
    exact a3
  · rw [hn 14 (by decide)]
    exact a4
  · rw [kw_sr_at, h1]
    by_cases e : i = s
    · rw [if_pos ⟨rfl, e⟩, if_pos ⟨rfl, rfl, by omega, by omega⟩, pk_cpy_in (Nat.zero_le _) (by omega), show 8 * i + w - 8 * s = w by omega, show 0 + (w - 0) = w by omega]
      exact (h.2.1 x hx hcx).2.2.2.2 w hw
    · rw [if_neg (fun z => e z.2), if_neg (fun z => by omega)]
      exact a5 w hw
/-- counts of entries after one entry was set -/
theorem r_c_set {F : Nat → Nat} {j s : Nat} (hj : j < 32) (i : Nat) : r_cnt (r_up F j s) i 32 + (if F j = i then 1 else 0) = r_cnt F i 32 + (if s = i then 1 else 0) := by
  have h := r_cnt_up (F := F) (j := j) (s := s) (i := i) 32
  simp only [hj, true_and] at h
  exact h
theorem qw_sn9 {T : qw_S} {j s : Nat} : (qw_sn T 9 0 j s).2 9 0 = r_up (T.2 9 0) j s := by
  funext d
  rw [qw_sn_at]
  by_cases e : d = j
  · rw [if_pos ⟨rfl, rfl, e⟩, show r_up (T.2 9 0) j s d = s from if_pos e]
  · rw [if_neg (fun z => e z.2.2), show r_up (T.2 9 0) j s d = T.2 9 0 d from if_neg e]
theorem r_pg_set {S U : kw_S} {T V : qw_S} {p k s : Nat} (h : r_pg S T) (hp : p < 4) (hk : k < 8) (hs : s < 32) (h1 : U.2 9 = S.2 9) (h2 : V.2 9 0 = r_up (T.2 9 0) (8 * p + k) s) : r_pg (kw_sn U 9 p k s) V := by
  intro q l hq hl
  rw [kw_sn_at, h1, h2]
  by_cases e : q = p ∧ l = k
  · rw [if_pos ⟨rfl, e⟩, show r_up (T.2 9 0) (8 * p + k) s (8 * q + l) = s from if_pos (by omega)]
    exact Or.inl ⟨hs, rfl⟩
  · rw [if_neg (fun z => e z.2), show r_up (T.2 9 0) (8 * p + k) s (8 * q + l) = T.2 9 0 (8 * q + l) from if_neg (fun z => e (by omega))]
    exact h q l hq hl
