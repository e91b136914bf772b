theorem qq_L24 : ∀ n (S : qw_S), p_Q_freeFrame_L24 n S → ∃ j, j < 6 ∧ (k_Q_freeFrame_L24 n S).1 = nI j := by
  intro n
  induction n with
  | zero => exact fun S h => False.elim h
  | succ n ih =>
    intro S h
    unfold p_Q_freeFrame_L24 at h
    unfold k_Q_freeFrame_L24
    dsimp only at h ⊢
    split
    · exact ⟨_, Nat.mod_lt _ (by decide), rfl⟩
    · rename_i hc
      exact ih _ (pp_neg hc h.2).2
