theorem r_chooseL {c : Nat → Nat} {S : kw_S} {T : qw_S} (h : r_M c S T) : ∀ n i, i + n = 6 → (∀ f, f < i → S.2 5 0 f < 32) → p_Q_freeFrame_L2 n i T ∧ r_Ch c S (k_M_chooseFrame_L2 n i S) (k_Q_freeFrame_L2 n i T) := by
  intro n
  induction n with
  | zero =>
    intro i hi hall
    exact r_clock 6 (Nat.le_refl _) 0 S T h (fun f hf => hall f (by omega)) (fun m hm => by omega)
  | succ n ih =>
    intro i hi hall
    have hi6 : i < 6 := by omega
    have hr := r_inFrame h hi6
    unfold p_Q_freeFrame_L2 k_M_chooseFrame_L2 k_Q_freeFrame_L2
    dsimp only
    rw [hr]
    by_cases g : S.2 5 0 i < 32
    · rw [if_pos g, if_pos g, if_pos (Int32.not_lt.mp (n_nn (by omega))), if_pos (Int32.not_lt.mp (n_nn (by omega)))]
      refine ih (i + 1) (by omega) (fun f hf => ?_)
      by_cases q : f = i
      · rw [q]; exact g
      · exact hall f (by omega)
    · rw [if_neg g, if_neg g, if_neg (by decide), if_neg (by decide)]
      refine ⟨trivial, i, hi6, rfl, rfl, ?_⟩
      have hc : (nI i).toNatClampNeg = i := nI_clamp (by omega)
      have e : k_ch (nI i, S) = S := by
        unfold k_ch
        dsimp only
        rw [hc, if_neg g]
      rw [e]
      exact ⟨h, g, fun e he => he⟩
theorem r_choose {c : Nat → Nat} {S : kw_S} {T : qw_S} (h : r_M c S T) : p_Q_freeFrame T ∧ r_Ch c S (k_M_chooseFrame S) (k_Q_freeFrame T) := r_chooseL h 6 0 rfl (fun f hf => absurd hf (Nat.not_lt_zero _))
/-- a sheet that lies nowhere is laid into a frame, on both sides -/
theorem r_layIn {c : Nat → Nat} {S : kw_S} {T : qw_S} {e : Nat} (h : r_M c S T) (he : e < 32) (hce : c e ≠ 0) (hfr : ¬ S.2 10 e 0 < 6) : p_Q_bring_J55 e T ∧ r_M c (k_M_layInFrame S e) (k_Q_bring_J55 e T) := by
  obtain ⟨h1, f, hf, a1, b1, hM, h5, h10⟩ := r_choose h
  refine ⟨⟨h1, trivial⟩, ?_⟩
  have hc : (nI f).toNatClampNeg = f := nI_clamp (by omega)
  have ek : k_M_layInFrame S e = k_M_layInFrame_J24 e f (k_ch (k_M_chooseFrame S)) := by
    unfold k_M_layInFrame k_ch
    dsimp only
    rw [a1, hc]
    by_cases g : (k_M_chooseFrame S).2.2 5 0 f < 32
    · rw [if_pos g, if_pos g]
    · rw [if_neg g, if_neg g]
  have eq : k_Q_bring_J55 e T = qw_si (k_Q_freeFrame T).2 13 0 e (k_Q_freeFrame T).1 := rfl
  rw [ek, eq, b1]
  exact u_in hM hf h5 (h10 e hfr) he hce
/-- what the work on frames and slots leaves as it was -/
def f_K (S U : kw_S) : Prop := (∀ a, a ≠ 2 → a ≠ 10 → U.1 a = S.1 a) ∧ ∀ a, a ≠ 2 → a ≠ 5 → a ≠ 6 → a ≠ 10 → U.2 a = S.2 a
def f_Q (T U : qw_S) : Prop := (∀ a, a < 11 ∨ a = 15 ∨ a = 16 → U.1 a = T.1 a) ∧ (∀ j, j < 7 ∨ 10 < j → U.1 17 0 j = T.1 17 0 j) ∧ (∀ a, a ≠ 0 → U.2 a = T.2 a) ∧ ∀ j, j ≠ 1 → U.2 0 0 j = T.2 0 0 j
theorem f_K_r {S : kw_S} : f_K S S := ⟨fun _ _ _ => rfl, fun _ _ _ _ _ => rfl⟩
theorem f_K_t {S U V : kw_S} (h1 : f_K S U) (h2 : f_K U V) : f_K S V := ⟨fun a a1 a2 => (h2.1 a a1 a2).trans (h1.1 a a1 a2), fun a a1 a2 a3 a4 => (h2.2 a a1 a2 a3 a4).trans (h1.2 a a1 a2 a3 a4)⟩
theorem f_K_i {S U : kw_S} {k i j : Nat} {v : Int32} (h : f_K S U) (hk : k = 2 ∨ k = 10) : f_K S (kw_si U k i j v) := f_K_t h ⟨fun a a1 a2 => kw_si_nc (by omega), fun a _ _ _ _ => rfl⟩
theorem f_K_n {S U : kw_S} {k i j v : Nat} (h : f_K S U) (hk : k = 2 ∨ k = 5 ∨ k = 6 ∨ k = 10) : f_K S (kw_sn U k i j v) := f_K_t h ⟨fun a a1 a2 => rfl, fun a _ _ _ _ => kw_sn_nc (by omega)⟩
theorem f_Q_r {T : qw_S} : f_Q T T := ⟨fun _ _ => rfl, fun _ _ => rfl, fun _ _ => rfl, fun _ _ => rfl⟩
theorem f_Q_t {T U V : qw_S} (h1 : f_Q T U) (h2 : f_Q U V) : f_Q T V := ⟨fun a a1 => (h2.1 a a1).trans (h1.1 a a1), fun a a1 => (h2.2.1 a a1).trans (h1.2.1 a a1), fun a a1 => (h2.2.2.1 a a1).trans (h1.2.2.1 a a1), fun a a1 => (h2.2.2.2 a a1).trans (h1.2.2.2 a a1)⟩
theorem f_Q_i {T U : qw_S} {k i j : Nat} {v : Int32} (h : f_Q T U) (hk : 10 < k ∧ k < 15) : f_Q T (qw_si U k i j v) := f_Q_t h ⟨fun a a1 => qw_si_nc (by omega), fun j _ => by rw [qw_si_nc (by omega)], fun a _ => rfl, fun a _ => rfl⟩
theorem f_Q_c {T U : qw_S} {j : Nat} {v : Int32} (h : f_Q T U) (hk : 6 < j ∧ j < 11) : f_Q T (qw_si U 17 0 j v) := f_Q_t h ⟨fun a a1 => qw_si_nc (by omega), fun k hk2 => by rw [qw_si_at, if_neg (fun z => by have := z.2.2; omega)], fun a _ => rfl, fun a _ => rfl⟩
theorem f_Q_h {T U : qw_S} {v : Nat} (h : f_Q T U) : f_Q T (qw_sn U 0 0 1 v) := f_Q_t h ⟨fun a a1 => rfl, fun k hk2 => rfl, fun a ha => qw_sn_nc ha, fun a ha => by rw [qw_sn_at, if_neg (fun z => ha z.2.2)]⟩
theorem f_K_J49 {S U : kw_S} {e : Nat} (h : f_K S U) : f_K S (k_M_goOut_J49 e U) := f_K_n (f_K_n h (by omega)) (by omega)
theorem f_K_J34 {S U : kw_S} {e : Nat} (h : f_K S U) : f_K S (k_M_goOut_J34 e U) := f_K_J49 (f_K_i (f_K_i h (by omega)) (by omega))
theorem f_K_goOut {S U : kw_S} {e : Nat} (h : f_K S U) : f_K S (k_M_goOut U e) := by
  unfold k_M_goOut
  dsimp only
  split
  · exact f_K_J49 h
  · split
    · exact f_K_J34 (f_K_n (f_K_n h (by omega)) (by omega))
    · exact f_K_J34 h
theorem f_K_L27 {S : kw_S} : ∀ n i U, f_K S U → f_K S (k_M_chooseFrame_L27 n i U).2 := by
  intro n
  induction n with
  | zero => exact fun i U h => f_K_n h (by omega)
  | succ n ih =>
    intro i U h
    unfold k_M_chooseFrame_L27
    dsimp only
    split
    · exact f_K_n h (by omega)
    · exact ih _ _ (f_K_n (f_K_i h (by omega)) (by omega))
theorem f_K_L2 {S : kw_S} : ∀ n i U, f_K S U → f_K S (k_M_chooseFrame_L2 n i U).2 := by
  intro n
  induction n with
  | zero => exact fun i U h => f_K_L27 6 0 U h
  | succ n ih =>
    intro i U h
    unfold k_M_chooseFrame_L2
    split
    · exact ih _ _ h
    · exact h
theorem f_K_layIn {S U : kw_S} {e : Nat} (h : f_K S U) : f_K S (k_M_layInFrame U e) := by
  have hc : f_K S (k_M_chooseFrame U).2 := f_K_L2 6 0 U h
  unfold k_M_layInFrame
  dsimp only
  split
  · exact f_K_n (f_K_n (f_K_goOut hc) (by omega)) (by omega)
  · exact f_K_n (f_K_n hc (by omega)) (by omega)
theorem f_Q_L35 {T : qw_S} {s : Nat} : ∀ n i U, f_Q T U → f_Q T (k_Q_goesOut_L35 n i s U) := by
  intro n
  induction n with
  | zero => exact fun i U h => h
  | succ n ih =>
    intro i U h
    unfold k_Q_goesOut_L35
    dsimp only
    split
    · exact f_Q_c (f_Q_i h (by omega)) (by omega)
    · exact ih _ _ h
set_option maxRecDepth 100000 in
theorem f_Q_goesOut {T U : qw_S} {s : Nat} (h : f_Q T U) : f_Q T (k_Q_goesOut U s) := by
  unfold k_Q_goesOut
  dsimp only
  split
  · exact f_Q_i h (by omega)
  · split
    · exact f_Q_c (f_Q_i (f_Q_i h (by omega)) (by omega)) (by omega)
    · exact f_Q_L35 64 0 _ (f_Q_i (f_Q_i h (by omega)) (by omega))
theorem f_Q_L24 {T : qw_S} : ∀ n U, f_Q T U → f_Q T (k_Q_freeFrame_L24 n U).2 := by
  intro n
  induction n with
  | zero => exact fun U h => h
  | succ n ih =>
    intro U h
    unfold k_Q_freeFrame_L24
    dsimp only
    split
    · exact f_Q_h (f_Q_goesOut h)
    · exact ih _ (f_Q_h (f_Q_i h (by omega)))
theorem f_Q_L2 {T : qw_S} : ∀ n i U, f_Q T U → f_Q T (k_Q_freeFrame_L2 n i U).2 := by
  intro n
  induction n with
  | zero => exact fun i U h => f_Q_L24 7 U h
  | succ n ih =>
    intro i U h
    unfold k_Q_freeFrame_L2
    dsimp only
    split
    · exact ih _ _ h
    · exact h
theorem f_Q_J55 {T U : qw_S} {s : Nat} (h : f_Q T U) : f_Q T (k_Q_bring_J55 s U) := f_Q_i (f_Q_L2 6 0 U h) (by omega)
