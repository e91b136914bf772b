/-- printed, on both sides -/
theorem r_printed {B : Nat} {S : kw_S} {T : qw_S} (h : r_R B S T) (hB : B < 2 ^ 30) (k : Int32) : k_K_printed S k = k_Q_printed T k := by
  obtain ⟨_, _, _, _, _, _, s7, s8, s9⟩ := h.2.2.1
  have hc := h.2.2.2
  unfold k_K_printed k_Q_printed k_Q_in
  dsimp only
  by_cases g1 : k < 0
  · rw [if_pos g1, if_pos g1, if_pos rfl]
  · rw [if_neg g1, if_neg g1]
    by_cases g2 : (40 : Int32) ≤ k
    · rw [if_pos g2, if_pos g2, if_pos rfl]
    · rw [if_neg g2, if_neg g2, if_neg (show ¬ (1 : Int32) = 0 by decide)]
      obtain ⟨j, hj, e⟩ := nI_of g1
      have hj40 : j < 40 := by
        apply Classical.byContradiction
        intro q
        rw [e] at g2
        exact g2 (nI_le (a := 40) (by omega) hj)
      rw [e, nI_clamp hj]
      by_cases g3 : S.2 0 0 0 ≤ j
      · rw [if_pos (nI_le g3 hj)]
        exact (s9 j hj40 g3).symm
      · rw [if_neg (nI_ge (by omega) (by omega))]
        exact s8 j hj40
theorem r_present {B : Nat} {S : kw_S} {T : qw_S} (h : r_R B S T) : ∀ n i m, i + n = 4 → k_K_presentTasks_L4 n i m S = k_Q_count_L75 n i m T := by
  intro n
  induction n with
  | zero => exact fun i m _ => rfl
  | succ n ih =>
    intro i m hn
    have hs := (h.2.1 i (by omega)).1
    by_cases g : S.1 7 i 0 = 0
    · have e1 : k_K_presentTasks_L4 (n + 1) i m S = k_K_presentTasks_L4 n (i + 1) m S := if_pos g
      have e2 : k_Q_count_L75 (n + 1) i m T = k_Q_count_L75 n (i + 1) m T := if_pos (hs.symm.trans g)
      rw [e1, e2]
      exact ih _ _ (by omega)
    · have e1 : k_K_presentTasks_L4 (n + 1) i m S = k_K_presentTasks_L4 n (i + 1) (m + Int32.ofInt (1)) S := if_neg g
      have e2 : k_Q_count_L75 (n + 1) i m T = k_Q_count_L75 n (i + 1) (m + Int32.ofInt (1)) T := if_neg (fun q => g (hs.trans q))
      rw [e1, e2]
      exact ih _ _ (by omega)
theorem r_takenF {B : Nat} {S : kw_S} {T : qw_S} (h : r_R B S T) : ∀ n i m, i + n = 6 → k_M_taken_AF_L4 n i m S = k_Q_count_L112 n i m T := by
  intro n
  induction n with
  | zero => exact fun i m _ => rfl
  | succ n ih =>
    intro i m hn
    have hr := r_inFrame h.1.1 (f := i) (by omega)
    by_cases g : S.2 5 0 i < 32
    · rw [if_pos g] at hr
      have e1 : k_M_taken_AF_L4 (n + 1) i m S = k_M_taken_AF_L4 n (i + 1) (m + Int32.ofInt (1)) S := if_pos g
      have e2 : k_Q_count_L112 (n + 1) i m T = k_Q_count_L112 n (i + 1) (m + Int32.ofInt (1)) T := if_neg (by rw [hr]; exact n_nn (by omega))
      rw [e1, e2]
      exact ih _ _ (by omega)
    · rw [if_neg g] at hr
      have e1 : k_M_taken_AF_L4 (n + 1) i m S = k_M_taken_AF_L4 n (i + 1) m S := if_neg g
      have e2 : k_Q_count_L112 (n + 1) i m T = k_Q_count_L112 n (i + 1) m T := if_pos (by rw [hr]; exact n_neg)
      rw [e1, e2]
      exact ih _ _ (by omega)
theorem r_takenL {B : Nat} {S : kw_S} {T : qw_S} (h : r_R B S T) : ∀ n i m, i + n = 32 → k_M_taken_AL_L4 n i m S = k_Q_count_L139 n i m T := by
  intro n
  induction n with
  | zero => exact fun i m _ => rfl
  | succ n ih =>
    intro i m hn
    have hr := r_isSlot h.1.1 (t := i) (by omega)
    by_cases g : S.2 6 0 i < 32
    · rw [if_pos ⟨by omega, g⟩] at hr
      have e1 : k_M_taken_AL_L4 (n + 1) i m S = k_M_taken_AL_L4 n (i + 1) (m + Int32.ofInt (1)) S := if_pos g
      have e2 : k_Q_count_L139 (n + 1) i m T = k_Q_count_L139 n (i + 1) (m + Int32.ofInt (1)) T := if_neg (by rw [hr]; decide)
      rw [e1, e2]
      exact ih _ _ (by omega)
    · rw [if_neg (fun z => g z.2)] at hr
      have e1 : k_M_taken_AL_L4 (n + 1) i m S = k_M_taken_AL_L4 n (i + 1) m S := if_neg g
      have e2 : k_Q_count_L139 (n + 1) i m T = k_Q_count_L139 n (i + 1) m T := if_pos hr
      rw [e1, e2]
      exact ih _ _ (by omega)
/-- count, on both sides -/
theorem r_count {B : Nat} {S : kw_S} {T : qw_S} (h : r_R B S T) (w : Int32) : k_K_count S w = k_Q_count T w := by
  obtain ⟨s1, s2, ⟨d, hd, d1, d2⟩, s4, s5, s6, s7, s8, s9⟩ := h.2.2.1
  obtain ⟨n1, n2, n3, n4, n5⟩ := h.1.1.2.2.2
  by_cases g : k_Q_in w 14 = 0
  · have ne : ∀ j, j < 14 → ¬ w = nI j := fun j hj e => by
      rw [e, show (14 : Int32) = nI 14 from rfl, in_yes hj (by decide)] at g
      exact absurd g (by decide)
    have ek : k_K_count S w = -1 := by
      unfold k_K_count
      dsimp only
      rw [if_neg (show ¬ w = 0 from ne 0 (by decide)), if_neg (show ¬ w = 1 from ne 1 (by decide)), if_neg (show ¬ w = 2 from ne 2 (by decide)), if_neg (show ¬ w = 3 from ne 3 (by decide)), if_neg (show ¬ w = 4 from ne 4 (by decide)), if_neg (show ¬ w = 5 from ne 5 (by decide)), if_neg (show ¬ w = 6 from ne 6 (by decide)), if_neg (show ¬ w = 7 from ne 7 (by decide)), if_neg (show ¬ w = 8 from ne 8 (by decide)), if_neg (show ¬ w = 9 from ne 9 (by decide)), if_neg (show ¬ w = 10 from ne 10 (by decide)), if_neg (show ¬ w = 11 from ne 11 (by decide)), if_neg (show ¬ w = 12 from ne 12 (by decide)), if_neg (show ¬ w = 13 from ne 13 (by decide))]
    have eq : k_Q_count T w = -1 := by
      unfold k_Q_count
      rw [if_neg (show ¬ w = 0 from ne 0 (by decide)), if_neg (show ¬ w = 1 from ne 1 (by decide)), if_neg (show ¬ w = 2 from ne 2 (by decide)), if_neg (show ¬ w = 3 from ne 3 (by decide)), if_neg (show ¬ w = 4 from ne 4 (by decide)), if_neg (show ¬ w = 5 from ne 5 (by decide)), if_neg (show ¬ w = 6 from ne 6 (by decide)), if_neg (show ¬ w = 7 from ne 7 (by decide)), if_neg (show ¬ w = 8 from ne 8 (by decide)), if_neg (show ¬ w = 9 from ne 9 (by decide)), if_neg (show ¬ w = 10 from ne 10 (by decide)), if_neg (show ¬ w = 11 from ne 11 (by decide)), if_neg (show ¬ w = 12 from ne 12 (by decide))]
      unfold k_Q_count_J174
      dsimp only
      rw [if_pos g]
    rw [ek, eq]
  · obtain ⟨j, hj, e⟩ := in_of (N := 14) (by decide) g
    have hj2 : j = 0 ∨ j = 1 ∨ j = 2 ∨ j = 3 ∨ j = 4 ∨ j = 5 ∨ j = 6 ∨ j = 7 ∨ j = 8 ∨ j = 9 ∨ j = 10 ∨ j = 11 ∨ j = 12 ∨ j = 13 := by omega
    clear g hj
    rcases hj2 with rfl | rfl | rfl | rfl | rfl | rfl | rfl | rfl | rfl | rfl | rfl | rfl | rfl | rfl
    · have e' : w = 0 := e
      subst e'
      have e1 : k_K_count S 0 = S.1 0 0 0 := by
        unfold k_K_count
        dsimp only
        rw [if_pos rfl]
      have e2 : k_Q_count T 0 = T.1 0 0 0 := by
        unfold k_Q_count
        rw [if_pos rfl]
      rw [e1, e2]
      exact s1
    · have e' : w = 1 := e
      subst e'
      have e1 : k_K_count S 1 = k_K_presentTasks S := by
        unfold k_K_count
        dsimp only
        rw [if_neg (show ¬ (1 : Int32) = 0 by decide), if_pos rfl]
      have e2 : k_Q_count T 1 = k_Q_count_L75 4 0 (0 : Int32) T := by
        unfold k_Q_count
        rw [if_neg (show ¬ (1 : Int32) = 0 by decide), if_pos rfl]
      rw [e1, e2]
      exact r_present h 4 0 0 rfl
    · have e' : w = 2 := e
      subst e'
      have e1 : k_K_count S 2 = nI ((S.2 0 0 1) % 4) := by
        unfold k_K_count
        dsimp only
        rw [if_neg (show ¬ (2 : Int32) = 0 by decide), if_neg (show ¬ (2 : Int32) = 1 by decide), if_pos rfl]
      have e2 : k_Q_count T 2 = nI ((T.2 0 0 0) % 4) := by
        unfold k_Q_count
        rw [if_neg (show ¬ (2 : Int32) = 0 by decide), if_neg (show ¬ (2 : Int32) = 1 by decide), if_pos rfl]
      rw [e1, e2]
      rw [s2]
    · have e' : w = 3 := e
      subst e'
      have e1 : k_K_count S 3 = S.1 0 0 3 := by
        unfold k_K_count
        dsimp only
        rw [if_neg (show ¬ (3 : Int32) = 0 by decide), if_neg (show ¬ (3 : Int32) = 1 by decide), if_neg (show ¬ (3 : Int32) = 2 by decide), if_pos rfl]
      have e2 : k_Q_count T 3 = T.1 0 0 1 := by
        unfold k_Q_count
        rw [if_neg (show ¬ (3 : Int32) = 0 by decide), if_neg (show ¬ (3 : Int32) = 1 by decide), if_neg (show ¬ (3 : Int32) = 2 by decide), if_pos rfl]
      rw [e1, e2]
      rw [d1, d2]
    · have e' : w = 4 := e
      subst e'
      have e1 : k_K_count S 4 = k_M_taken_AF S := by
        unfold k_K_count
        dsimp only
        rw [if_neg (show ¬ (4 : Int32) = 0 by decide), if_neg (show ¬ (4 : Int32) = 1 by decide), if_neg (show ¬ (4 : Int32) = 2 by decide), if_neg (show ¬ (4 : Int32) = 3 by decide), if_pos rfl]
      have e2 : k_Q_count T 4 = k_Q_count_L112 6 0 (0 : Int32) T := by
        unfold k_Q_count
        rw [if_neg (show ¬ (4 : Int32) = 0 by decide), if_neg (show ¬ (4 : Int32) = 1 by decide), if_neg (show ¬ (4 : Int32) = 2 by decide), if_neg (show ¬ (4 : Int32) = 3 by decide), if_pos rfl]
      rw [e1, e2]
      exact r_takenF h 6 0 0 rfl
    · have e' : w = 5 := e
      subst e'
      have e1 : k_K_count S 5 = k_M_taken_AL S := by
        unfold k_K_count
        dsimp only
        rw [if_neg (show ¬ (5 : Int32) = 0 by decide), if_neg (show ¬ (5 : Int32) = 1 by decide), if_neg (show ¬ (5 : Int32) = 2 by decide), if_neg (show ¬ (5 : Int32) = 3 by decide), if_neg (show ¬ (5 : Int32) = 4 by decide), if_pos rfl]
      have e2 : k_Q_count T 5 = k_Q_count_L139 32 0 (0 : Int32) T := by
        unfold k_Q_count
        rw [if_neg (show ¬ (5 : Int32) = 0 by decide), if_neg (show ¬ (5 : Int32) = 1 by decide), if_neg (show ¬ (5 : Int32) = 2 by decide), if_neg (show ¬ (5 : Int32) = 3 by decide), if_neg (show ¬ (5 : Int32) = 4 by decide), if_pos rfl]
      rw [e1, e2]
      exact r_takenL h 32 0 0 rfl
    · have e' : w = 6 := e
      subst e'
      have e1 : k_K_count S 6 = nI ((S.2 2 0 0) % 6) := by
        unfold k_K_count
        dsimp only
        rw [if_neg (show ¬ (6 : Int32) = 0 by decide), if_neg (show ¬ (6 : Int32) = 1 by decide), if_neg (show ¬ (6 : Int32) = 2 by decide), if_neg (show ¬ (6 : Int32) = 3 by decide), if_neg (show ¬ (6 : Int32) = 4 by decide), if_neg (show ¬ (6 : Int32) = 5 by decide), if_pos rfl]
      have e2 : k_Q_count T 6 = nI ((T.2 0 0 1) % 6) := by
        unfold k_Q_count
        rw [if_neg (show ¬ (6 : Int32) = 0 by decide), if_neg (show ¬ (6 : Int32) = 1 by decide), if_neg (show ¬ (6 : Int32) = 2 by decide), if_neg (show ¬ (6 : Int32) = 3 by decide), if_neg (show ¬ (6 : Int32) = 4 by decide), if_neg (show ¬ (6 : Int32) = 5 by decide), if_pos rfl]
      rw [e1, e2]
      rw [n1]
    · have e' : w = 7 := e
      subst e'
      have e1 : k_K_count S 7 = S.1 2 0 0 := by
        unfold k_K_count
        dsimp only
        rw [if_neg (show ¬ (7 : Int32) = 0 by decide), if_neg (show ¬ (7 : Int32) = 1 by decide), if_neg (show ¬ (7 : Int32) = 2 by decide), if_neg (show ¬ (7 : Int32) = 3 by decide), if_neg (show ¬ (7 : Int32) = 4 by decide), if_neg (show ¬ (7 : Int32) = 5 by decide), if_neg (show ¬ (7 : Int32) = 6 by decide), if_pos rfl]
      have e2 : k_Q_count T 7 = T.1 17 0 7 := by
        unfold k_Q_count
        rw [if_neg (show ¬ (7 : Int32) = 0 by decide), if_neg (show ¬ (7 : Int32) = 1 by decide), if_neg (show ¬ (7 : Int32) = 2 by decide), if_neg (show ¬ (7 : Int32) = 3 by decide), if_neg (show ¬ (7 : Int32) = 4 by decide), if_neg (show ¬ (7 : Int32) = 5 by decide), if_neg (show ¬ (7 : Int32) = 6 by decide), if_pos rfl]
        unfold k_Q_count_J174
        dsimp only
        rw [if_neg (show ¬ k_Q_in (7 : Int32) 14 = 0 by decide)]
        rfl
      rw [e1, e2]
      exact n2
    · have e' : w = 8 := e
      subst e'
      have e1 : k_K_count S 8 = S.1 2 0 1 := by
        unfold k_K_count
        dsimp only
        rw [if_neg (show ¬ (8 : Int32) = 0 by decide), if_neg (show ¬ (8 : Int32) = 1 by decide), if_neg (show ¬ (8 : Int32) = 2 by decide), if_neg (show ¬ (8 : Int32) = 3 by decide), if_neg (show ¬ (8 : Int32) = 4 by decide), if_neg (show ¬ (8 : Int32) = 5 by decide), if_neg (show ¬ (8 : Int32) = 6 by decide), if_neg (show ¬ (8 : Int32) = 7 by decide), if_pos rfl]
      have e2 : k_Q_count T 8 = T.1 17 0 8 := by
        unfold k_Q_count
        rw [if_neg (show ¬ (8 : Int32) = 0 by decide), if_neg (show ¬ (8 : Int32) = 1 by decide), if_neg (show ¬ (8 : Int32) = 2 by decide), if_neg (show ¬ (8 : Int32) = 3 by decide), if_neg (show ¬ (8 : Int32) = 4 by decide), if_neg (show ¬ (8 : Int32) = 5 by decide), if_neg (show ¬ (8 : Int32) = 6 by decide), if_neg (show ¬ (8 : Int32) = 7 by decide), if_pos rfl]
        unfold k_Q_count_J174
        dsimp only
        rw [if_neg (show ¬ k_Q_in (8 : Int32) 14 = 0 by decide)]
        rfl
      rw [e1, e2]
      exact n3
    · have e' : w = 9 := e
      subst e'
      have e1 : k_K_count S 9 = S.1 2 0 2 := by
        unfold k_K_count
        dsimp only
        rw [if_neg (show ¬ (9 : Int32) = 0 by decide), if_neg (show ¬ (9 : Int32) = 1 by decide), if_neg (show ¬ (9 : Int32) = 2 by decide), if_neg (show ¬ (9 : Int32) = 3 by decide), if_neg (show ¬ (9 : Int32) = 4 by decide), if_neg (show ¬ (9 : Int32) = 5 by decide), if_neg (show ¬ (9 : Int32) = 6 by decide), if_neg (show ¬ (9 : Int32) = 7 by decide), if_neg (show ¬ (9 : Int32) = 8 by decide), if_pos rfl]
      have e2 : k_Q_count T 9 = T.1 17 0 9 := by
        unfold k_Q_count
        rw [if_neg (show ¬ (9 : Int32) = 0 by decide), if_neg (show ¬ (9 : Int32) = 1 by decide), if_neg (show ¬ (9 : Int32) = 2 by decide), if_neg (show ¬ (9 : Int32) = 3 by decide), if_neg (show ¬ (9 : Int32) = 4 by decide), if_neg (show ¬ (9 : Int32) = 5 by decide), if_neg (show ¬ (9 : Int32) = 6 by decide), if_neg (show ¬ (9 : Int32) = 7 by decide), if_neg (show ¬ (9 : Int32) = 8 by decide), if_pos rfl]
        unfold k_Q_count_J174
        dsimp only
        rw [if_neg (show ¬ k_Q_in (9 : Int32) 14 = 0 by decide)]
        rfl
      rw [e1, e2]
      exact n4
    · have e' : w = 10 := e
      subst e'
      have e1 : k_K_count S 10 = S.1 2 0 3 := by
        unfold k_K_count
        dsimp only
        rw [if_neg (show ¬ (10 : Int32) = 0 by decide), if_neg (show ¬ (10 : Int32) = 1 by decide), if_neg (show ¬ (10 : Int32) = 2 by decide), if_neg (show ¬ (10 : Int32) = 3 by decide), if_neg (show ¬ (10 : Int32) = 4 by decide), if_neg (show ¬ (10 : Int32) = 5 by decide), if_neg (show ¬ (10 : Int32) = 6 by decide), if_neg (show ¬ (10 : Int32) = 7 by decide), if_neg (show ¬ (10 : Int32) = 8 by decide), if_neg (show ¬ (10 : Int32) = 9 by decide), if_pos rfl]
      have e2 : k_Q_count T 10 = T.1 17 0 10 := by
        unfold k_Q_count
        rw [if_neg (show ¬ (10 : Int32) = 0 by decide), if_neg (show ¬ (10 : Int32) = 1 by decide), if_neg (show ¬ (10 : Int32) = 2 by decide), if_neg (show ¬ (10 : Int32) = 3 by decide), if_neg (show ¬ (10 : Int32) = 4 by decide), if_neg (show ¬ (10 : Int32) = 5 by decide), if_neg (show ¬ (10 : Int32) = 6 by decide), if_neg (show ¬ (10 : Int32) = 7 by decide), if_neg (show ¬ (10 : Int32) = 8 by decide), if_neg (show ¬ (10 : Int32) = 9 by decide), if_pos rfl]
        unfold k_Q_count_J174
        dsimp only
        rw [if_neg (show ¬ k_Q_in (10 : Int32) 14 = 0 by decide)]
        rfl
      rw [e1, e2]
      exact n5
    · have e' : w = 11 := e
      subst e'
      have e1 : k_K_count S 11 = S.1 0 0 1 := by
        unfold k_K_count
        dsimp only
        rw [if_neg (show ¬ (11 : Int32) = 0 by decide), if_neg (show ¬ (11 : Int32) = 1 by decide), if_neg (show ¬ (11 : Int32) = 2 by decide), if_neg (show ¬ (11 : Int32) = 3 by decide), if_neg (show ¬ (11 : Int32) = 4 by decide), if_neg (show ¬ (11 : Int32) = 5 by decide), if_neg (show ¬ (11 : Int32) = 6 by decide), if_neg (show ¬ (11 : Int32) = 7 by decide), if_neg (show ¬ (11 : Int32) = 8 by decide), if_neg (show ¬ (11 : Int32) = 9 by decide), if_neg (show ¬ (11 : Int32) = 10 by decide), if_pos rfl]
      have e2 : k_Q_count T 11 = T.1 17 0 11 := by
        unfold k_Q_count
        rw [if_neg (show ¬ (11 : Int32) = 0 by decide), if_neg (show ¬ (11 : Int32) = 1 by decide), if_neg (show ¬ (11 : Int32) = 2 by decide), if_neg (show ¬ (11 : Int32) = 3 by decide), if_neg (show ¬ (11 : Int32) = 4 by decide), if_neg (show ¬ (11 : Int32) = 5 by decide), if_neg (show ¬ (11 : Int32) = 6 by decide), if_neg (show ¬ (11 : Int32) = 7 by decide), if_neg (show ¬ (11 : Int32) = 8 by decide), if_neg (show ¬ (11 : Int32) = 9 by decide), if_neg (show ¬ (11 : Int32) = 10 by decide), if_pos rfl]
        unfold k_Q_count_J174
        dsimp only
        rw [if_neg (show ¬ k_Q_in (11 : Int32) 14 = 0 by decide)]
        rfl
      rw [e1, e2]
      exact s5
    · have e' : w = 12 := e
      subst e'
      have e1 : k_K_count S 12 = nI (S.2 0 0 0) := by
        unfold k_K_count
        dsimp only
        rw [if_neg (show ¬ (12 : Int32) = 0 by decide), if_neg (show ¬ (12 : Int32) = 1 by decide), if_neg (show ¬ (12 : Int32) = 2 by decide), if_neg (show ¬ (12 : Int32) = 3 by decide), if_neg (show ¬ (12 : Int32) = 4 by decide), if_neg (show ¬ (12 : Int32) = 5 by decide), if_neg (show ¬ (12 : Int32) = 6 by decide), if_neg (show ¬ (12 : Int32) = 7 by decide), if_neg (show ¬ (12 : Int32) = 8 by decide), if_neg (show ¬ (12 : Int32) = 9 by decide), if_neg (show ¬ (12 : Int32) = 10 by decide), if_neg (show ¬ (12 : Int32) = 11 by decide), if_pos rfl]
      have e2 : k_Q_count T 12 = nI (T.2 0 0 2) := by
        unfold k_Q_count
        rw [if_neg (show ¬ (12 : Int32) = 0 by decide), if_neg (show ¬ (12 : Int32) = 1 by decide), if_neg (show ¬ (12 : Int32) = 2 by decide), if_neg (show ¬ (12 : Int32) = 3 by decide), if_neg (show ¬ (12 : Int32) = 4 by decide), if_neg (show ¬ (12 : Int32) = 5 by decide), if_neg (show ¬ (12 : Int32) = 6 by decide), if_neg (show ¬ (12 : Int32) = 7 by decide), if_neg (show ¬ (12 : Int32) = 8 by decide), if_neg (show ¬ (12 : Int32) = 9 by decide), if_neg (show ¬ (12 : Int32) = 10 by decide), if_neg (show ¬ (12 : Int32) = 11 by decide), if_pos rfl]
      rw [e1, e2]
      rw [s7]
    · have e' : w = 13 := e
      subst e'
      have e1 : k_K_count S 13 = S.1 0 0 2 := by
        unfold k_K_count
        dsimp only
        rw [if_neg (show ¬ (13 : Int32) = 0 by decide), if_neg (show ¬ (13 : Int32) = 1 by decide), if_neg (show ¬ (13 : Int32) = 2 by decide), if_neg (show ¬ (13 : Int32) = 3 by decide), if_neg (show ¬ (13 : Int32) = 4 by decide), if_neg (show ¬ (13 : Int32) = 5 by decide), if_neg (show ¬ (13 : Int32) = 6 by decide), if_neg (show ¬ (13 : Int32) = 7 by decide), if_neg (show ¬ (13 : Int32) = 8 by decide), if_neg (show ¬ (13 : Int32) = 9 by decide), if_neg (show ¬ (13 : Int32) = 10 by decide), if_neg (show ¬ (13 : Int32) = 11 by decide), if_neg (show ¬ (13 : Int32) = 12 by decide), if_pos rfl]
      have e2 : k_Q_count T 13 = T.1 17 0 13 := by
        unfold k_Q_count
        rw [if_neg (show ¬ (13 : Int32) = 0 by decide), if_neg (show ¬ (13 : Int32) = 1 by decide), if_neg (show ¬ (13 : Int32) = 2 by decide), if_neg (show ¬ (13 : Int32) = 3 by decide), if_neg (show ¬ (13 : Int32) = 4 by decide), if_neg (show ¬ (13 : Int32) = 5 by decide), if_neg (show ¬ (13 : Int32) = 6 by decide), if_neg (show ¬ (13 : Int32) = 7 by decide), if_neg (show ¬ (13 : Int32) = 8 by decide), if_neg (show ¬ (13 : Int32) = 9 by decide), if_neg (show ¬ (13 : Int32) = 10 by decide), if_neg (show ¬ (13 : Int32) = 11 by decide), if_neg (show ¬ (13 : Int32) = 12 by decide)]
        unfold k_Q_count_J174
        dsimp only
        rw [if_neg (show ¬ k_Q_in (13 : Int32) 14 = 0 by decide)]
        rfl
      rw [e1, e2]
      exact s6
/-- page, on both sides: what is asked of an entry that holds the sheet x -/
theorem r_tell {S : kw_S} {T : qw_S} {x : Nat} (h : r_P S T) (hx : x < 32) (hc : r_c T x ≠ 0) : (if kw_fr (S.2 10 x 0) = -2 then (2 : Int32) else 1) = (if 0 ≤ T.1 13 0 x then (1 : Int32) else 2) ∧ kw_fr (S.2 10 x 0) = (if 0 ≤ T.1 13 0 x then T.1 13 0 x else -2) ∧ kw_sl (S.2 10 x 1) = (if 0 ≤ T.1 14 0 x then T.1 14 0 x else -2) ∧ S.1 10 x 1 = T.1 11 0 x ∧ S.1 10 x 2 = T.1 12 0 x ∧ S.1 10 x 0 = k_Q_sharers T (nI x) := by
  obtain ⟨a1, a2, a3, a4, _⟩ := h.1.2.1 x hx hc
  refine ⟨?_, ?_, ?_, a1, a2, ?_⟩
  · rcases a3 with ⟨b1, b2⟩ | ⟨b1, b2⟩
    · rw [if_neg (fun q => kw_fr2.mp q b1), b2, if_pos (nI_pos' (by omega))]
    · rw [if_pos (kw_fr2.mpr b1), b2, if_neg (by decide)]
  · rcases a3 with ⟨b1, b2⟩ | ⟨b1, b2⟩
    · rw [b2, if_pos (nI_pos' (by omega))]
      exact if_pos b1
    · rw [b2, if_neg (by decide)]
      exact if_neg b1
  · rcases a4 with ⟨b1, b2⟩ | ⟨b1, b2⟩
    · rw [b2, if_pos (nI_pos' (by omega))]
      exact if_pos b1
    · rw [b2, if_neg (by decide)]
      exact if_neg b1
  · rw [q_sharers (by omega), h.1.1.1 x hx, r_c_in hx]
theorem r_page {B : Nat} {S : kw_S} {T : qw_S} (h : r_R B S T) (p k w : Int32) : k_K_page S p k w = k_Q_page T p k w := by
  have et := r_there h p
  by_cases g : k_K_isThere S p = 0
  · have gT : k_Q_isThere T p = 0 := et.symm.trans g
    have e1 : k_K_page S p k w = -1 := if_pos g
    have e2 : k_Q_page T p k w = -1 := if_pos gT
    rw [e1, e2]
  · have gT : ¬ k_Q_isThere T p = 0 := fun q => g (et.trans q)
    obtain ⟨q, hq, rfl, _⟩ := k_there g
    by_cases gk : k_Q_in k 8 = 0
    · have e2 : k_Q_page T (nI q) k w = -1 := (if_neg gT).trans (if_pos gk)
      rw [e2]
      by_cases k1 : k < 0
      · exact (if_neg g).trans (if_pos k1)
      · by_cases k2 : (8 : Int32) ≤ k
        · exact (if_neg g).trans ((if_neg k1).trans (if_pos k2))
        · unfold k_Q_in at gk
          rw [if_neg k1, if_neg k2] at gk
          exact absurd gk (by decide)
    · obtain ⟨j, hj, rfl⟩ := in_of (N := 8) (by decide) gk
      have k1 : ¬ nI j < 0 := nI_pos (by omega)
      have k2 : ¬ (8 : Int32) ≤ nI j := nI_ge (b := 8) hj (by decide)
      by_cases gw : k_Q_in w 6 = 0
      · have e2 : k_Q_page T (nI q) (nI j) w = -1 := (if_neg gT).trans ((if_neg gk).trans (if_pos gw))
        rw [e2]
        by_cases w1 : w < 0
        · exact (if_neg g).trans ((if_neg k1).trans ((if_neg k2).trans (if_pos w1)))
        · by_cases w2 : w ≤ 5
          · obtain ⟨v, hv, rfl⟩ := nI_of w1
            unfold k_Q_in at gw
            have w3 : ¬ (6 : Int32) ≤ nI v := nI_ge (b := 6) (by
              apply Classical.byContradiction
              intro z
              exact nI_ge (a := 5) (by omega) hv w2) (by decide)
            rw [if_neg w1, if_neg w3] at gw
            exact absurd gw (by decide)
          · exact (if_neg g).trans ((if_neg k1).trans ((if_neg k2).trans ((if_neg w1).trans (if_neg w2))))
      · obtain ⟨v, hv, rfl⟩ := in_of (N := 6) (by decide) gw
        have w1 : ¬ nI v < 0 := nI_pos (by omega)
        have w2 : nI v ≤ (5 : Int32) := nI_le (b := 5) (by omega) (by decide)
        have ek : k_K_page S (nI q) (nI j) (nI v) = if S.2 9 q j < 32 then k_E_tell S (S.2 9 q j) (nI v) else if nI v = 1 then -2 else if nI v = 2 then -2 else 0 := by
          refine (if_neg g).trans ((if_neg k1).trans ((if_neg k2).trans ((if_neg w1).trans ((if_pos w2).trans ?_))))
          dsimp only
          rw [nI_clamp (by omega), nI_clamp (by omega)]
        rw [ek]
        unfold k_Q_page
        dsimp only
        rw [if_neg gT, if_neg gk, if_neg gw, nI_clamp (by omega), nI_clamp (by omega)]
        clear ek w1 w2 gw gk gT g et k1 k2
        have hv2 : v = 0 ∨ v = 1 ∨ v = 2 ∨ v = 3 ∨ v = 4 ∨ v = 5 := by omega
        by_cases gx : S.2 9 q j < 32
        · obtain ⟨t1, t2⟩ := r_pc h.1.2.2.1 hq hj gx
          obtain ⟨c1, c2, c3, c4, c5, c6⟩ := r_tell h.1 gx t2
          have gp : 0 ≤ qw_pg (S.2 9 q j) := by
            unfold qw_pg
            rw [if_pos (by omega)]
            exact nI_pos' (by omega)
          have gn : ¬ qw_pg (S.2 9 q j) < 0 := fun z => Int32.not_lt.mpr gp z
          have ep : qw_pg (S.2 9 q j) = nI (S.2 9 q j) := if_pos (by omega)
          rw [if_pos gx, t1]
          rcases hv2 with rfl | rfl | rfl | rfl | rfl | rfl
          · have e1 : k_E_tell S (S.2 9 q j) (nI 0) = (if kw_fr (S.2 10 (S.2 9 q j) 0) = -2 then (2 : Int32) else 1) := rfl
            rw [e1, c1, if_pos (show nI 0 = 0 from rfl), if_pos gp]
          · have e1 : k_E_tell S (S.2 9 q j) (nI 1) = kw_fr (S.2 10 (S.2 9 q j) 0) := rfl
            rw [e1, c2, if_neg (show ¬ nI 1 = 0 by decide), if_pos (show nI 1 = 1 from rfl), if_neg gn]
          · have e1 : k_E_tell S (S.2 9 q j) (nI 2) = kw_sl (S.2 10 (S.2 9 q j) 1) := rfl
            rw [e1, c3, if_neg (show ¬ nI 2 = 0 by decide), if_neg (show ¬ nI 2 = 1 by decide), if_pos (show nI 2 = 2 from rfl), if_neg gn]
          · have e1 : k_E_tell S (S.2 9 q j) (nI 3) = (if S.1 10 (S.2 9 q j) 1 = 0 then (0 : Int32) else 1) := rfl
            rw [e1, c4, if_neg (show ¬ nI 3 = 0 by decide), if_neg (show ¬ nI 3 = 1 by decide), if_neg (show ¬ nI 3 = 2 by decide), if_pos (show nI 3 = 3 from rfl), if_neg gn]
          · have e1 : k_E_tell S (S.2 9 q j) (nI 4) = (if S.1 10 (S.2 9 q j) 2 = 0 then (0 : Int32) else 1) := rfl
            rw [e1, c5, if_neg (show ¬ nI 4 = 0 by decide), if_neg (show ¬ nI 4 = 1 by decide), if_neg (show ¬ nI 4 = 2 by decide), if_neg (show ¬ nI 4 = 3 by decide), if_pos (show nI 4 = 4 from rfl), if_neg gn]
          · have e1 : k_E_tell S (S.2 9 q j) (nI 5) = S.1 10 (S.2 9 q j) 0 := rfl
            rw [e1, c6, if_neg (show ¬ nI 5 = 0 by decide), if_neg (show ¬ nI 5 = 1 by decide), if_neg (show ¬ nI 5 = 2 by decide), if_neg (show ¬ nI 5 = 3 by decide), if_neg (show ¬ nI 5 = 4 by decide), if_pos gp, ep]
        · have hy : ¬ T.2 9 0 (8 * q + j) < 34 := by
            rcases h.1.2.2.1 q j hq hj with z | z
            · exact absurd z.1 gx
            · exact z.2
          have ep : qw_pg (T.2 9 0 (8 * q + j)) = -1 := if_neg hy
          have gp : ¬ (0 : Int32) ≤ -1 := by decide
          have gn : (-1 : Int32) < 0 := by decide
          rw [if_neg gx, ep]
          rcases hv2 with rfl | rfl | rfl | rfl | rfl | rfl
          · rw [if_neg (show ¬ nI 0 = 1 by decide), if_neg (show ¬ nI 0 = 2 by decide), if_pos (show nI 0 = 0 from rfl), if_neg gp]
          · rw [if_pos (show nI 1 = 1 from rfl), if_neg (show ¬ nI 1 = 0 by decide), if_pos (show nI 1 = 1 from rfl), if_pos gn]
          · rw [if_neg (show ¬ nI 2 = 1 by decide), if_pos (show nI 2 = 2 from rfl), if_neg (show ¬ nI 2 = 0 by decide), if_neg (show ¬ nI 2 = 1 by decide), if_pos (show nI 2 = 2 from rfl), if_pos gn]
          · rw [if_neg (show ¬ nI 3 = 1 by decide), if_neg (show ¬ nI 3 = 2 by decide), if_neg (show ¬ nI 3 = 0 by decide), if_neg (show ¬ nI 3 = 1 by decide), if_neg (show ¬ nI 3 = 2 by decide), if_pos (show nI 3 = 3 from rfl), if_pos gn]
          · rw [if_neg (show ¬ nI 4 = 1 by decide), if_neg (show ¬ nI 4 = 2 by decide), if_neg (show ¬ nI 4 = 0 by decide), if_neg (show ¬ nI 4 = 1 by decide), if_neg (show ¬ nI 4 = 2 by decide), if_neg (show ¬ nI 4 = 3 by decide), if_pos (show nI 4 = 4 from rfl), if_pos gn]
          · rw [if_neg (show ¬ nI 5 = 1 by decide), if_neg (show ¬ nI 5 = 2 by decide), if_neg (show ¬ nI 5 = 0 by decide), if_neg (show ¬ nI 5 = 1 by decide), if_neg (show ¬ nI 5 = 2 by decide), if_neg (show ¬ nI 5 = 3 by decide), if_neg (show ¬ nI 5 = 4 by decide), if_neg gp]
