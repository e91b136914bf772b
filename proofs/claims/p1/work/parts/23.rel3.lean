theorem r_free {c : Nat → Nat} {S : kw_S} {T : qw_S} (h : r_M c S T) {e : Nat} (he : e < 32) (hs : ¬ S.2 10 e 1 < 32) : ∃ t, t < 32 ∧ ¬ S.2 6 0 t < 32 ∧ ∀ d, d < t → S.2 6 0 d < 32 := by
  have hex : ∃ t, t < 32 ∧ ¬ S.2 6 0 t < 32 := by
    apply Classical.byContradiction
    intro hn
    have all : ∀ t, t < 32 → S.2 6 0 t < 32 := fun t ht => Classical.byContradiction (fun q => hn ⟨t, ht, q⟩)
    obtain ⟨i, j, h1, h2, h3⟩ := pig 32 (fun t => if t < 32 then S.2 6 0 t else e) (fun t ht => by
      show (if t < 32 then S.2 6 0 t else e) < 32
      split
      · rename_i g
        exact all t g
      · exact he)
    have hi : i < 32 := by omega
    rw [if_pos hi] at h3
    have g1 := h.2.2.1.2.2.2.1 i hi (all i hi)
    by_cases hj : j < 32
    · rw [if_pos hj] at h3
      have g2 := h.2.2.1.2.2.2.1 j hj (all j hj)
      rw [h3] at g1
      omega
    · rw [if_neg hj] at h3
      rw [h3] at g1
      omega
  obtain ⟨t, ⟨h1, h2⟩, h3⟩ := pk_least (fun t => t < 32 ∧ ¬ S.2 6 0 t < 32) hex
  exact ⟨t, h1, h2, fun d hd => Classical.byContradiction (fun q => h3 d hd ⟨by omega, q⟩)⟩
theorem k_lfs {S : kw_S} {t : Nat} (ht : t < 32) (h1 : ¬ S.2 6 0 t < 32) (h2 : ∀ d, d < t → S.2 6 0 d < 32) : k_M_leastFreeSlot S = nI t := by
  have key : ∀ n i, i + n = 31 → i ≤ t → k_M_leastFreeSlot_L2 n i S = nI t := by
    intro n
    induction n with
    | zero =>
      intro i h hi
      rw [show t = i by omega]
      rfl
    | succ n ih =>
      intro i h hi
      by_cases e : i = t
      · subst e
        exact if_neg h1
      · exact (if_pos (h2 i (by omega))).trans (ih (i + 1) (by omega) (by omega))
  exact key 31 0 rfl (Nat.zero_le _)
theorem q_isSlot_cg {U T : qw_S} {x : Int32} (h10 : U.1 10 = T.1 10) (h14 : U.1 14 = T.1 14) : k_Q_isSlot U x = k_Q_isSlot T x := by
  have key : ∀ n i, k_Q_isSlot_L2 n i x U = k_Q_isSlot_L2 n i x T := by
    intro n
    induction n with
    | zero => exact fun i => rfl
    | succ n ih =>
      intro i
      unfold k_Q_isSlot_L2
      rw [h10, h14, ih (i + 1)]
  exact key 34 0
theorem q_inFrame_cg {U T : qw_S} {x : Int32} (h10 : U.1 10 = T.1 10) (h13 : U.1 13 = T.1 13) : k_Q_inFrame U x = k_Q_inFrame T x := by
  have key : ∀ n i, k_Q_inFrame_L2 n i x U = k_Q_inFrame_L2 n i x T := by
    intro n
    induction n with
    | zero => exact fun i => rfl
    | succ n ih =>
      intro i
      unfold k_Q_inFrame_L2
      rw [h10, h13, ih (i + 1)]
  exact key 34 0
theorem q_lfs {U : qw_S} {s t : Nat} (ht : t < 32) (h1 : k_Q_isSlot U (nI t) = 0) (h2 : ∀ d, d < t → ¬ k_Q_isSlot U (nI d) = 0) : ∀ n i, i + n = 64 → i ≤ t → k_Q_goesOut_L35 n i s U = k_Q_goesOut_J56 (qw_si U 14 0 s (nI t)) ∧ p_Q_goesOut_L35 n i s U := by
  intro n
  induction n with
  | zero => exact fun i h hi => absurd ht (by omega)
  | succ n ih =>
    intro i h hi
    by_cases e : i = t
    · subst e
      exact ⟨if_pos h1, by
        unfold p_Q_goesOut_L35
        dsimp only
        rw [if_pos h1]
        trivial⟩
    · obtain ⟨a, b⟩ := ih (i + 1) (by omega) (by omega)
      have g := h2 i (by omega)
      exact ⟨(if_neg g).trans a, by
        unfold p_Q_goesOut_L35
        dsimp only
        rw [if_neg g]
        exact b⟩
theorem r_goOut {c : Nat → Nat} {S : kw_S} {T : qw_S} {e f : Nat} (h : r_M c S T) (he : e < 32) (hf : S.2 10 e 0 = f) (hf6 : f < 6) : r_M c (k_M_goOut S e) (k_Q_goesOut T e) ∧ p_Q_goesOut T e := by
  have hce : c e ≠ 0 := fun q => (h.2.2.1.1 e he q).1 (by omega)
  obtain ⟨a1, a2, a3, a4, a5⟩ := h.2.1 e he hce
  have q12 : (qw_si T 13 0 e (-1 : Int32)).1 12 0 e = T.1 12 0 e := by rw [qw_si_nc (by decide)]
  unfold k_M_goOut k_Q_goesOut p_Q_goesOut
  dsimp only
  rw [q12]
  by_cases g : S.1 10 e 2 = 0
  · have gT : T.1 12 0 e = 0 := a2.symm.trans g
    rw [if_pos g, if_pos gT, if_pos gT]
    refine ⟨?_, trivial⟩
    have := u_out h hf hf6 he
    rw [← hf] at this
    exact this
  · have gT : ¬ T.1 12 0 e = 0 := fun q => g (a2.trans q)
    rw [if_neg g, if_neg gT, if_neg gT]
    have q14 : (qw_si (qw_si T 13 0 e (-1 : Int32)) 12 0 e (0 : Int32)).1 14 0 e = T.1 14 0 e := by rw [qw_si_nc (by decide), qw_si_nc (by decide)]
    rw [q14]
    have q17 : ∀ U : qw_S, U.1 17 = T.1 17 → k_Q_goesOut_J56 U = qw_si U 17 0 8 (T.1 17 0 8 + (1 : Int32)) := fun U hU => by
      unfold k_Q_goesOut_J56
      rw [hU]
    by_cases g2 : S.2 10 e 1 < 32
    · have g3 : ¬ kw_sl (S.2 10 e 1) = -2 := by
        rw [(kw_sl_lt g2).1]
        exact kw_n2 (by omega)
      have g4 : 0 ≤ T.1 14 0 e := by
        rcases a4 with ⟨_, q⟩ | ⟨q, _⟩
        · rw [q]
          exact nI_pos' (by omega)
        · exact absurd g2 q
      rw [if_neg g3, if_pos g4, if_pos g4]
      refine ⟨?_, trivial⟩
      rw [q17 _ (by rw [qw_si_nc (by decide), qw_si_nc (by decide)]), qw_si_comm (c := 12) (c2 := 17) (by decide), qw_si_comm (c := 13) (c2 := 17) (by decide), qw_si_comm (c := 13) (c2 := 12) (by decide)]
      have h1 := u_ch (e := e) (v := 0) (u_ct h 1 (by decide))
      have h2 := u_out h1 (e := e) (f := f) hf hf6 he
      rw [← hf] at h2
      exact h2
    · have g3 : kw_sl (S.2 10 e 1) = -2 := if_neg g2
      have g4 : ¬ 0 ≤ T.1 14 0 e := by
        rcases a4 with ⟨q, _⟩ | ⟨_, q⟩
        · exact absurd q g2
        · rw [q]
          decide
      rw [if_pos g3, if_neg g4, if_neg g4]
      obtain ⟨t, t1, t2, t3⟩ := r_free h he g2
      have hsl : ∀ d, k_Q_isSlot (qw_si (qw_si T 13 0 e (-1 : Int32)) 12 0 e (0 : Int32)) (nI d) = k_Q_isSlot T (nI d) := fun d => q_isSlot_cg (by rw [qw_si_nc (by decide), qw_si_nc (by decide)]) (by rw [qw_si_nc (by decide), qw_si_nc (by decide)])
      obtain ⟨l1, l2⟩ := q_lfs (U := qw_si (qw_si T 13 0 e (-1 : Int32)) 12 0 e (0 : Int32)) (s := e) t1 (by
        rw [hsl, r_isSlot h (by omega), if_neg (fun q => t2 q.2)]) (fun d hd => by
        rw [hsl, r_isSlot h (by omega), if_pos ⟨by omega, t3 d hd⟩]
        decide) 64 0 rfl (Nat.zero_le _)
      refine ⟨?_, l2⟩
      rw [l1, k_lfs t1 t2 t3, nI_clamp (by omega)]
      have q10 : (kw_sn S 10 e 1 t).2 10 e 1 = t := by rw [kw_sn_at, if_pos ⟨rfl, rfl, rfl⟩]
      rw [q10, q17 _ (by rw [qw_si_nc (by decide), qw_si_nc (by decide), qw_si_nc (by decide)])]
      rw [qw_si_comm (c := 12) (c2 := 14) (by decide), qw_si_comm (c := 13) (c2 := 14) (by decide), qw_si_comm (c := 12) (c2 := 17) (by decide), qw_si_comm (c := 13) (c2 := 17) (by decide), qw_si_comm (c := 13) (c2 := 12) (by decide)]
      have h0 := u_slot h t1 t2 g2 he hce
      have h1 := u_ch (e := e) (v := 0) (u_ct h0 1 (by decide))
      have hfr : (kw_si (kw_si (kw_sn (kw_sn S 10 e 1 t) 6 0 t e) 2 0 1 ((kw_sn (kw_sn S 10 e 1 t) 6 0 t e).1 2 0 1 + (1 : Int32))) 10 e 2 0).2 10 e 0 = f := by
        show (kw_sn (kw_sn S 10 e 1 t) 6 0 t e).2 10 e 0 = f
        rw [kw_sn_at, if_neg (by simp), kw_sn_at, if_neg (by simp)]
        exact hf
      have h2 := u_out h1 hfr hf6 he
      rw [← hfr] at h2
      have q8 : (qw_si T 14 0 e (nI t)).1 17 0 (7 + 1) = T.1 17 0 8 := by rw [qw_si_nc (by decide)]
      rw [q8] at h2
      exact h2
