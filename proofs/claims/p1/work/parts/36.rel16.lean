/-- the reference's counts of faults stand -/
def h_Q (T U : qw_S) : Prop := U.1 6 = T.1 6 ∧ U.1 17 0 7 = T.1 17 0 7
theorem h_Q_r {T : qw_S} : h_Q T T := ⟨rfl, rfl⟩
theorem h_Q_t {T U V : qw_S} (h1 : h_Q T U) (h2 : h_Q U V) : h_Q T V := ⟨h2.1.trans h1.1, h2.2.trans h1.2⟩
theorem h_Q_i {T U : qw_S} {k i j : Nat} {v : Int32} (h : h_Q T U) (hk : k ≠ 6 ∧ k ≠ 17) : h_Q T (qw_si U k i j v) := h_Q_t h ⟨qw_si_nc (by omega), by rw [qw_si_nc (by omega)]⟩
theorem h_Q_c {T U : qw_S} {j : Nat} {v : Int32} (h : h_Q T U) (hk : j ≠ 7) : h_Q T (qw_si U 17 0 j v) := h_Q_t h ⟨qw_si_nc (by decide), by rw [qw_si_at, if_neg (fun z => hk z.2.2.symm)]⟩
theorem h_Q_n {T U : qw_S} {k i j v : Nat} (h : h_Q T U) : h_Q T (qw_sn U k i j v) := h
theorem h_Q_L35 {T : qw_S} {s : Nat} : ∀ n i U, h_Q T U → h_Q T (k_Q_goesOut_L35 n i s U) := by
  intro n
  induction n with
  | zero => exact fun i U h => h
  | succ n ih =>
    intro i U h
    unfold k_Q_goesOut_L35
    dsimp only
    split
    · exact h_Q_c (h_Q_i h (by omega)) (by omega)
    · exact ih _ _ h
set_option maxRecDepth 100000 in
theorem h_Q_goesOut {T U : qw_S} {s : Nat} (h : h_Q T U) : h_Q T (k_Q_goesOut U s) := by
  unfold k_Q_goesOut
  dsimp only
  split
  · exact h_Q_i h (by omega)
  · split
    · exact h_Q_c (h_Q_i (h_Q_i h (by omega)) (by omega)) (by omega)
    · exact h_Q_L35 64 0 _ (h_Q_i (h_Q_i h (by omega)) (by omega))
theorem h_Q_L24 {T : qw_S} : ∀ n U, h_Q T U → h_Q T (k_Q_freeFrame_L24 n U).2 := by
  intro n
  induction n with
  | zero => exact fun U h => h
  | succ n ih =>
    intro U h
    unfold k_Q_freeFrame_L24
    dsimp only
    split
    · exact h_Q_n (h_Q_goesOut h)
    · exact ih _ (h_Q_n (h_Q_i h (by omega)))
theorem h_Q_L2 {T : qw_S} : ∀ n i U, h_Q T U → h_Q T (k_Q_freeFrame_L2 n i U).2 := by
  intro n
  induction n with
  | zero => exact fun i U h => h_Q_L24 7 U h
  | succ n ih =>
    intro i U h
    unfold k_Q_freeFrame_L2
    dsimp only
    split
    · exact ih _ _ h
    · exact h
theorem h_Q_J55 {T U : qw_S} {s : Nat} (h : h_Q T U) : h_Q T (k_Q_bring_J55 s U) := h_Q_i (h_Q_L2 6 0 U h) (by omega)
theorem h_Q_L57 {T : qw_S} {s : Nat} : ∀ n i U, h_Q T U → h_Q T (k_Q_fresh_L57 n i s U).2 := by
  intro n
  induction n with
  | zero => exact fun i U h => h
  | succ n ih => exact fun i U h => ih (i + 1) _ (h_Q_i h (by omega))
theorem h_Q_fL2 {T : qw_S} : ∀ n i U, h_Q T U → h_Q T (k_Q_fresh_L2 n i U).2 := by
  intro n
  induction n with
  | zero => exact fun i U h => h
  | succ n ih =>
    intro i U h
    unfold k_Q_fresh_L2
    split
    · exact h_Q_L57 8 _ _ (h_Q_i (h_Q_i (h_Q_i (h_Q_i (h_Q_i h (by omega)) (by omega)) (by omega)) (by omega)) (by omega))
    · exact ih _ _ h
theorem h_Q_fresh {T U : qw_S} (h : h_Q T U) : h_Q T (k_Q_fresh U).2 := h_Q_fL2 34 0 U h
theorem h_Q_J143 {T U : qw_S} {a s : Nat} {w : Int32} (h : h_Q T U) : h_Q T (k_Q_reach_J143 a w s U).2 := by
  unfold k_Q_reach_J143
  dsimp only
  split
  · exact h_Q_i h (by omega)
  · exact h_Q_i (h_Q_i h (by omega)) (by omega)
theorem h_Q_b1 {T U : qw_S} {p s : Nat} (h : h_Q T U) : h_Q T (k_Q_bring U p s 1) := by
  unfold k_Q_bring
  split
  · rw [if_neg (by decide)]
    exact h_Q_J55 h
  · exact h
theorem h_Q_L81 {T : qw_S} {p a s c : Nat} {w : Int32} : ∀ n i U, h_Q T U → h_Q T (k_Q_reach_L81 n i p a w s c U).2 := by
  intro n
  induction n with
  | zero => exact fun i U h => h_Q_J143 (h_Q_b1 (h_Q_c h (by omega)))
  | succ n ih => exact fun i U h => ih (i + 1) _ (h_Q_i h (by omega))
/-- none or one fault, in both counts -/
def d_Q (p : Nat) (T U : qw_S) : Prop := (U.1 6 0 p = T.1 6 0 p ∧ U.1 17 0 7 = T.1 17 0 7) ∨ (U.1 6 0 p = T.1 6 0 p + 1 ∧ U.1 17 0 7 = T.1 17 0 7 + 1)
theorem d_Q_h {p : Nat} {T U V : qw_S} (h : d_Q p T U) (h2 : h_Q U V) : d_Q p T V := by
  unfold d_Q at h ⊢
  rw [h2.1, h2.2]
  exact h
theorem h_Q_d {p : Nat} {T U V : qw_S} (h : h_Q T U) (h2 : d_Q p U V) : d_Q p T V := by
  unfold d_Q at h2 ⊢
  rw [h.1, h.2] at h2
  exact h2
theorem d_Q_b0 {p s : Nat} {T : qw_S} : d_Q p T (k_Q_bring T p s 0) := by
  have e : d_Q p T (qw_si (qw_si T 17 0 7 (T.1 17 0 7 + (1 : Int32))) 6 0 p ((qw_si T 17 0 7 (T.1 17 0 7 + (1 : Int32))).1 6 0 p + (1 : Int32))) := by
    refine Or.inr ⟨?_, ?_⟩
    · rw [qw_si_at, if_pos ⟨rfl, rfl, rfl⟩, qw_si_nc (by decide)]
    · rw [qw_si_nc (by decide), qw_si_at, if_pos ⟨rfl, rfl, rfl⟩]
  unfold k_Q_bring
  dsimp only
  split
  · rw [if_pos rfl]
    split
    · exact d_Q_h e (h_Q_J55 h_Q_r)
    · exact d_Q_h e (h_Q_J55 (h_Q_c h_Q_r (by omega)))
  · exact Or.inl ⟨rfl, rfl⟩
theorem d_Q_J32 {p a : Nat} {w : Int32} {T : qw_S} : d_Q p T (k_Q_reach_J32 p a w T).2 := by
  unfold k_Q_reach_J32
  dsimp only
  split
  · exact d_Q_h d_Q_b0 (h_Q_J143 h_Q_r)
  · split
    · exact d_Q_h d_Q_b0 (h_Q_J143 h_Q_r)
    · exact d_Q_h d_Q_b0 (h_Q_L81 8 0 _ (h_Q_n (h_Q_fresh h_Q_r)))
theorem d_Q_reach {p a : Nat} {w : Int32} {T : qw_S} : d_Q p T (k_Q_reach T p a w).2 := by
  unfold k_Q_reach
  dsimp only
  split
  · exact d_Q_J32
  · exact h_Q_d (h_Q_n (h_Q_fresh h_Q_r)) d_Q_J32
theorem i_sub1 (x : Int32) : x + 1 - x = 1 := by
  rw [Int32.add_comm, Int32.add_sub_cancel]
theorem d_Q_sub {p : Nat} {T U : qw_S} (h : d_Q p T U) : U.1 17 0 7 - T.1 17 0 7 = U.1 6 0 p - T.1 6 0 p := by
  rcases h with h | h
  · rw [h.1, h.2, Int32.sub_self, Int32.sub_self]
  · rw [h.1, h.2, i_sub1, i_sub1]
