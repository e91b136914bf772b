theorem in_of {v : Int32} {N : Nat} (hN : N < 2 ^ 31) (h : ¬ k_Q_in v (nI N) = 0) : ∃ j, j < N ∧ v = nI j := by
  unfold k_Q_in at h
  by_cases h1 : v < 0
  · rw [if_pos h1] at h
    exact absurd rfl h
  · rw [if_neg h1] at h
    obtain ⟨j, hj, e⟩ := nI_of h1
    by_cases h2 : nI N ≤ v
    · rw [if_pos h2] at h
      exact absurd rfl h
    · rw [e] at h2
      refine ⟨j, ?_, e⟩
      apply Classical.byContradiction
      intro q
      exact h2 (nI_le (by omega) hj)
theorem in_yes {j N : Nat} (h : j < N) (hN : N < 2 ^ 31) : k_Q_in (nI j) (nI N) = 1 := by
  unfold k_Q_in
  rw [if_neg (nI_pos (by omega)), if_neg (nI_ge h hN)]
theorem r_there {B : Nat} {S : kw_S} {T : qw_S} (h : r_R B S T) (p : Int32) : k_K_isThere S p = k_Q_isThere T p := by
  unfold k_K_isThere k_Q_isThere
  dsimp only
  have e : k_K_isTask p = k_Q_in p 4 := rfl
  rw [e]
  by_cases g : k_Q_in p 4 = 0
  · rw [if_pos g, if_pos g]
  · obtain ⟨j, hj, e2⟩ := in_of (N := 4) (by decide) g
    rw [if_neg g, if_neg g, e2, nI_clamp (by omega), (h.2.1 j hj).1]
theorem r_alive {B : Nat} {S : kw_S} {T : qw_S} (h : r_R B S T) (p : Int32) : k_K_lives S p = k_Q_isAlive T p := by
  unfold k_K_lives k_Q_isAlive
  dsimp only
  rw [r_there h]
  by_cases g : k_Q_isThere T p = 0
  · rw [if_pos g, if_pos g]
  · rw [if_neg g, if_neg g]
    have g2 : ¬ k_Q_in p 4 = 0 := fun q => g (if_pos q)
    obtain ⟨j, hj, e2⟩ := in_of (N := 4) (by decide) g2
    rw [e2, nI_clamp (by omega), (h.2.1 j hj).1]
theorem k_there {S : kw_S} {p : Int32} (h : ¬ k_K_isThere S p = 0) : ∃ q, q < 4 ∧ p = nI q ∧ S.1 7 q 0 ≠ 0 := by
  have g2 : ¬ k_Q_in p 4 = 0 := fun q => h (if_pos q)
  obtain ⟨j, hj, e2⟩ := in_of (N := 4) (by decide) g2
  refine ⟨j, hj, e2, fun q => h ?_⟩
  unfold k_K_isThere
  dsimp only
  have e : k_K_isTask p = k_Q_in p 4 := rfl
  rw [e, if_neg g2, e2, nI_clamp (by omega), if_pos q]
theorem k_live {S : kw_S} {p : Int32} (h : ¬ k_K_lives S p = 0) : ∃ q, q < 4 ∧ p = nI q ∧ S.1 7 q 0 ≠ 0 ∧ S.1 7 q 0 ≠ 4 := by
  have g : ¬ k_K_isThere S p = 0 := fun q => h (if_pos q)
  obtain ⟨j, hj, e2, h3⟩ := k_there g
  refine ⟨j, hj, e2, h3, fun q => h ?_⟩
  unfold k_K_lives
  dsimp only
  rw [if_neg g, e2, nI_clamp (by omega), if_pos q]
/-- poke, on both sides -/
theorem r_poke {B : Nat} {S : kw_S} {T : qw_S} (h : r_R B S T) (p a w : Int32) : p_Q_poke T p a w ∧ (k_K_poke S p a w).1 = (k_Q_poke T p a w).1 ∧ r_R B (k_K_poke S p a w).2 (k_Q_poke T p a w).2 := by
  unfold k_K_poke k_Q_poke p_Q_poke
  dsimp only
  rw [← r_alive h]
  by_cases g : k_K_lives S p = 0
  · rw [if_pos g, if_pos g, if_pos g]
    exact ⟨trivial, rfl, h⟩
  · rw [if_neg g, if_neg g, if_neg g]
    have ea : k_K_isAddress a = k_Q_in a 64 := rfl
    rw [ea]
    by_cases g2 : k_Q_in a 64 = 0
    · rw [if_pos g2, if_pos g2, if_pos g2]
      exact ⟨trivial, rfl, h⟩
    · rw [if_neg g2, if_neg g2, if_neg g2]
      obtain ⟨q, hq, eq, hl⟩ := k_live g
      obtain ⟨b, hb, eb⟩ := in_of (N := 64) (by decide) g2
      rw [eq, eb, nI_clamp (by omega), nI_clamp (by omega)]
      obtain ⟨r1, x, U, V, r2, r3, r4, r5, _, _⟩ := r_R_reach (w := 1) h hq hb hl
      have hd := d_Q_reach (p := q) (a := b) (w := 1) (T := T)
      unfold k_M_write
      dsimp only
      rw [r3] at hd
      rw [r2, r3]
      have hc : (nI (8 * x + b % 8)).toNatClampNeg = 8 * x + b % 8 := nI_clamp (by omega)
      rw [hc]
      refine ⟨⟨r1, in_nI (by omega) (by decide), trivial⟩, ?_, r_R_word r5 (by omega)⟩
      rw [kw_si_nc (by decide), qw_si_nc (by decide), r5.1.1.2.2.2.2.1, h.1.1.2.2.2.2.1]
      exact d_Q_sub hd
/-- peek, on both sides -/
theorem r_peek {B : Nat} {S : kw_S} {T : qw_S} (h : r_R B S T) (p a : Int32) : k_K_peek S p a = k_Q_peek T p a := by
  unfold k_K_peek k_Q_peek
  dsimp only
  rw [← r_alive h]
  by_cases g : k_K_lives S p = 0
  · rw [if_pos g, if_pos g]
  · rw [if_neg g, if_neg g]
    have ea : k_K_isAddress a = k_Q_in a 64 := rfl
    rw [ea]
    by_cases g2 : k_Q_in a 64 = 0
    · rw [if_pos g2, if_pos g2]
    · rw [if_neg g2, if_neg g2]
      obtain ⟨q, hq, eq, hl⟩ := k_live g
      obtain ⟨b, hb, eb⟩ := in_of (N := 64) (by decide) g2
      rw [eq, eb, nI_clamp (by omega), nI_clamp (by omega)]
      by_cases g3 : S.2 9 q (b / 8) < 32
      · obtain ⟨t1, t2⟩ := r_pc h.1.2.2.1 hq (k := b / 8) (by omega) g3
        have gT : 0 ≤ qw_pg (T.2 9 0 (8 * q + b / 8)) := by
          rw [t1]
          unfold qw_pg
          rw [if_pos (by omega)]
          exact nI_pos' (by omega)
        rw [if_pos g3, if_pos gT, t1]
        exact (h.1.1.2.1 _ g3 t2).2.2.2.2 (b % 8) (by omega)
      · have gT : ¬ 0 ≤ qw_pg (T.2 9 0 (8 * q + b / 8)) := by
          rcases h.1.2.2.1 q (b / 8) hq (by omega) with z | z
          · exact absurd z.1 g3
          · unfold qw_pg
            rw [if_neg z.2]
            decide
        rw [if_neg g3, if_neg gT]
