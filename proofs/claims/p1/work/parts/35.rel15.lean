def r_pa (x y : Nat) : Prop := (x < 4 ∧ y = x) ∨ (¬ x < 4 ∧ ¬ y < 4)
/-- a process on both sides -/
def r_T (S : kw_S) (T : qw_S) (i : Nat) : Prop :=
  S.1 7 i 0 = T.1 1 0 i ∧ (S.1 7 i 0 = 0 → ¬ S.2 7 i 0 < 4) ∧ (S.1 7 i 0 ≠ 0 → r_pa (S.2 7 i 0) (T.2 3 0 i)) ∧ (S.1 7 i 0 ≠ 0 → S.1 7 i 0 ≠ 4 → S.1 7 i 1 = T.1 2 0 i ∧ S.1 7 i 2 = 0) ∧ (S.1 7 i 0 = 4 → S.1 7 i 2 = T.1 4 0 i) ∧ (S.1 7 i 0 = 2 → S.1 7 i 3 = T.1 5 0 i) ∧ S.1 7 i 5 = T.1 7 0 i ∧ (∀ r, r < 4 → S.1 8 i r = T.1 8 0 (4 * i + r)) ∧ (S.1 7 i 0 = 0 ∨ S.1 7 i 0 = 4 → ∀ k, k < 8 → ¬ S.2 9 i k < 32)
/-- what the machine itself keeps -/
def r_S (S : kw_S) (T : qw_S) : Prop :=
  S.1 0 0 0 = T.1 0 0 0 ∧ S.2 0 0 1 % 4 = T.2 0 0 0 % 4 ∧ (∃ d, d ≤ 4 ∧ S.1 0 0 3 = nI d ∧ T.1 0 0 1 = nI d) ∧ (S.1 0 0 4 = 0 ↔ T.1 0 0 2 = 0) ∧ S.1 0 0 1 = T.1 17 0 11 ∧ S.1 0 0 2 = T.1 17 0 13 ∧ S.2 0 0 0 = T.2 0 0 2 ∧ (∀ i, i < 40 → S.1 3 0 i = T.1 16 0 i) ∧ ∀ i, i < 40 → S.2 0 0 0 ≤ i → T.1 16 0 i = 0
def r_R (B : Nat) (S : kw_S) (T : qw_S) : Prop := r_P S T ∧ (∀ i, i < 4 → r_T S T i) ∧ r_S S T ∧ S.2 0 0 0 ≤ B
theorem r_S_of {S U : kw_S} {T V : qw_S} (h : r_S S T) (h1 : U.1 0 = S.1 0) (h2 : U.2 0 = S.2 0) (h3 : U.1 3 = S.1 3) (g1 : V.1 0 = T.1 0) (g2 : ∀ j, j ≠ 1 → V.2 0 0 j = T.2 0 0 j) (g3 : V.1 16 = T.1 16) (g4 : ∀ j, 10 < j → V.1 17 0 j = T.1 17 0 j) : r_S U V := by
  unfold r_S at h ⊢
  rw [h1, h2, h3, g1, g3, g2 0 (by decide), g2 2 (by decide), g4 11 (by decide), g4 13 (by decide)]
  exact h
theorem r_S_g {p : Nat} {S U : kw_S} {T V : qw_S} (h : r_S S T) (hk : g_K p S U) (hq : g_Q p T V) : r_S U V :=
  r_S_of h (hk.1 0 (by decide) (by decide) (by decide) (by decide)) (hk.2.2.1 0 (by decide) (by decide) (by decide) (by decide) (by decide)) (hk.1 3 (by decide) (by decide) (by decide) (by decide)) (hq.1 0 (by decide) (by decide)) hq.2.2.2 (hq.1 16 (by decide) (by decide)) (fun j hj => hq.2.1 j (Or.inr hj))
theorem r_T_g {p i : Nat} {S U : kw_S} {T V : qw_S} (h : r_T S T i) (hk : g_K p S U) (hq : g_Q p T V) (hp : i = p → ¬ (S.1 7 i 0 = 0 ∨ S.1 7 i 0 = 4)) : r_T U V i := by
  have k : ∀ j, j ≠ 4 → U.1 7 i j = S.1 7 i j := fun j hj => hk.2.1 i j (fun z => hj z.2)
  have k7 : U.2 7 = S.2 7 := hk.2.2.1 7 (by decide) (by decide) (by decide) (by decide) (by decide)
  have k8 : U.1 8 = S.1 8 := hk.1 8 (by decide) (by decide) (by decide) (by decide)
  have q : ∀ a, a < 10 → a ≠ 6 → V.1 a = T.1 a := fun a ha hb => hq.1 a (Or.inl ha) hb
  have q3 : V.2 3 = T.2 3 := hq.2.2.1 3 (by decide) (by decide)
  obtain ⟨h1, h2, h3, h4, h5, h6, h7, h8, h9⟩ := h
  unfold r_T
  rw [k 0 (by decide), k 1 (by decide), k 2 (by decide), k 3 (by decide), k 5 (by decide), k7, k8, q 1 (by decide) (by decide), q 2 (by decide) (by decide), q 4 (by decide) (by decide), q 5 (by decide) (by decide), q 7 (by decide) (by decide), q 8 (by decide) (by decide), q3]
  refine ⟨h1, h2, h3, h4, h5, h6, h7, h8, fun z k hk2 => ?_⟩
  by_cases e : i = p
  · exact absurd z (hp e)
  · rw [hk.2.2.2 i e]
    exact h9 z k hk2
/-- reaching a word of a living process keeps all -/
theorem r_R_reach {B : Nat} {S : kw_S} {T : qw_S} {p a : Nat} {w : Int32} (h : r_R B S T) (hp : p < 4) (ha : a < 64) (hl : S.1 7 p 0 ≠ 0 ∧ S.1 7 p 0 ≠ 4) : p_Q_reach T p a w ∧ ∃ x U V, k_M_reach S p (a / 8) w = (x, U) ∧ k_Q_reach T p a w = (nI (8 * x + a % 8), V) ∧ x < 32 ∧ r_R B U V ∧ g_K p S U ∧ g_Q p T V ∧ r_c V x ≠ 0 := by
  obtain ⟨h1, x, U, V, h2, h3, h4, h5, h6, h7, h8⟩ := r_reach (w := w) h.1 hp ha
  refine ⟨h1, x, U, V, h2, h3, h4, ⟨h5, fun i hi => r_T_g (h.2.1 i hi) h6 h7 (fun e q => ?_), r_S_g h.2.2.1 h6 h7, ?_⟩, h6, h7, h8⟩
  · rw [e] at q
    rcases q with q | q
    · exact hl.1 q
    · exact hl.2 q
  · rw [h6.2.2.1 0 (by decide) (by decide) (by decide) (by decide) (by decide)]
    exact h.2.2.2
theorem u_word {c : Nat → Nat} {S : kw_S} {T : qw_S} {x i : Nat} {v : Int32} (h : r_M c S T) (hi : i < 8) : r_M c (kw_si S 11 x i v) (qw_si T 15 0 (8 * x + i) v) := by
  refine ⟨r_C_of h.1 (fun i _ => by rw [kw_si_nc (by decide)]) (fun i _ => by rw [qw_si_nc (by decide)]), fun j hj hc => ?_, r_F_of h.2.2.1 rfl rfl rfl, r_N_of h.2.2.2 rfl rfl (kw_si_nc (by decide)) (qw_si_nc (by decide))⟩
  obtain ⟨a1, a2, a3, a4, a5⟩ := h.2.1 j hj hc
  refine ⟨?_, ?_, ?_, ?_, fun w hw => ?_⟩
  · rw [kw_si_nc (by decide), qw_si_nc (by decide)]
    exact a1
  · rw [kw_si_nc (by decide), qw_si_nc (by decide)]
    exact a2
  · rw [qw_si_nc (by decide)]
    exact a3
  · rw [qw_si_nc (by decide)]
    exact a4
  · rw [kw_si_at, qw_si_at]
    by_cases e : j = x ∧ w = i
    · rw [if_pos ⟨rfl, e⟩, if_pos ⟨rfl, rfl, by omega⟩]
    · rw [if_neg (fun z => e z.2), if_neg (fun z => e (by omega))]
      exact a5 w hw
theorem r_R_word {B : Nat} {S : kw_S} {T : qw_S} {x i : Nat} {v : Int32} (h : r_R B S T) (hi : i < 8) : r_R B (kw_si S 11 x i v) (qw_si T 15 0 (8 * x + i) v) := by
  have k : g_K 4 S (kw_si S 11 x i v) := g_K_i g_K_r (by omega)
  have q : g_Q 4 T (qw_si T 15 0 (8 * x + i) v) := g_Q_i g_Q_r (by omega)
  exact ⟨r_P_of (T := T) rfl (u_word h.1.1 hi) (z_k h.1.2.1 (by decide)) (r_pg_of h.1.2.2.1 rfl rfl) (r_fa_of h.1.2.2.2 (kw_si_nc (by decide)) (qw_si_nc (by decide))), fun j hj => r_T_g (h.2.1 j hj) k q (fun e => absurd e (by omega)), r_S_g h.2.2.1 k q, h.2.2.2⟩
