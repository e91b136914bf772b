theorem k_rs9 {S : kw_S} {p i : Nat} : (∀ k, k ≠ i → (k_rs S p i).2 9 p k = S.2 9 p k) ∧ ¬ (k_rs S p i).2 9 p i < 32 := by
  unfold k_rs
  by_cases g : S.2 9 p i < 32
  · rw [if_pos g]
    have fK : f_K (kw_sn S 9 p i 32) (k_M_release (kw_sn S 9 p i 32) (S.2 9 p i)) := f_K_rel f_K_r
    rw [fK.2 9 (by decide) (by decide) (by decide) (by decide)]
    refine ⟨fun k hk => ?_, ?_⟩
    · rw [kw_sn_at, if_neg (fun z => hk z.2.2)]
    · rw [kw_sn_is]
      decide
  · rw [if_neg g]
    exact ⟨fun _ _ => rfl, g⟩
theorem k_all9 {p : Nat} : ∀ n i (S : kw_S), i + n = 8 → (∀ k, k < i → ¬ S.2 9 p k < 32) → ∀ k, k < 8 → ¬ (k_M_releaseAll_L2 n i p S).2 9 p k < 32 := by
  intro n
  induction n with
  | zero =>
    intro i S hi h k hk
    exact h k (by omega)
  | succ n ih =>
    intro i S hi h
    have e : k_M_releaseAll_L2 (n + 1) i p S = k_M_releaseAll_L2 n (i + 1) p (k_rs S p i) := by
      unfold k_rs
      by_cases g : S.2 9 p i < 32
      · rw [if_pos g]
        exact if_pos g
      · rw [if_neg g]
        exact if_neg g
    rw [e]
    refine ih (i + 1) _ (by omega) (fun k hk => ?_)
    by_cases q : k = i
    · rw [q]
      exact k_rs9.2
    · rw [k_rs9.1 k q]
      exact h k (by omega)
/-- a process ends, on both sides -/
theorem r_end {B p : Nat} {S : kw_S} {T : qw_S} {x : Int32} (h : r_R B S T) (hp : p < 4) (hl : S.1 7 p 0 ≠ 0 ∧ S.1 7 p 0 ≠ 4) : r_R B (k_K_end S p x) (k_Q_ends T p x) := by
  obtain ⟨V, v1, v2, v3, v4⟩ := r_all (x := x) hp 8 0 S T rfl h.1
  have hR : r_R B (k_M_releaseAll S p) V := by
    refine ⟨v2, fun i hi => r_T_g (h.2.1 i hi) v3 v4 (fun e q => ?_), r_S_g h.2.2.1 v3 v4, ?_⟩
    · rw [e] at q
      rcases q with q | q
      · exact hl.1 q
      · exact hl.2 q
    · have e0 : (k_M_releaseAll S p).2 0 = S.2 0 := v3.2.2.1 0 (by decide) (by decide) (by decide) (by decide) (by decide)
      rw [e0]
      exact h.2.2.2
  have s1 : (k_M_releaseAll S p).1 7 p 0 = S.1 7 p 0 := v3.2.1 p 0 (fun z => absurd z.2 (by decide))
  have s9 : ∀ k, k < 8 → ¬ (k_M_releaseAll S p).2 9 p k < 32 := k_all9 8 0 S rfl (fun k hk => absurd hk (Nat.not_lt_zero _))
  obtain ⟨W, w1, w2, w3, w4⟩ := r_orph (x := x) hp 4 0 (k_M_releaseAll S p) V rfl hR (by rw [s1]; exact hl.2)
  have eT : k_Q_ends T p x = k_Q_ends_L29 0 0 p x W := v1.trans w1
  rw [eT]
  unfold k_K_end
  dsimp only
  have w5 : (k_K_orphanChildren (k_M_releaseAll S p) p).1 7 p 0 ≠ 0 := by
    have e : (k_K_orphanChildren (k_M_releaseAll S p) p).1 7 p 0 = S.1 7 p 0 := w3.trans s1
    rw [e]
    exact hl.1
  have w9 : ∀ k, k < 8 → ¬ (k_K_orphanChildren (k_M_releaseAll S p) p).2 9 p k < 32 := by
    have e : (k_K_orphanChildren (k_M_releaseAll S p) p).2 9 = (k_M_releaseAll S p).2 9 := w4
    rw [e]
    exact s9
  have w2b : r_R B (k_K_orphanChildren (k_M_releaseAll S p) p) W := w2
  generalize k_K_orphanChildren (k_M_releaseAll S p) p = X at w5 w9 w2b
  have hpa := (w2b.2.1 p hp).2.2.1 w5
  have eL : k_Q_ends_L29 0 0 p x W = (if 0 ≤ qw_pa (W.2 3 0 p) then (if (qw_si (qw_si W 1 0 p (4 : Int32)) 4 0 p x).1 1 0 (W.2 3 0 p) = (3 : Int32) then qw_si (qw_si (qw_si W 1 0 p (4 : Int32)) 4 0 p x) 1 0 (W.2 3 0 p) (1 : Int32) else qw_si (qw_si W 1 0 p (4 : Int32)) 4 0 p x) else qw_si (qw_si (qw_si W 1 0 p (4 : Int32)) 4 0 p x) 1 0 p (0 : Int32)) := rfl
  rw [eL]
  by_cases g : X.2 7 p 0 < 4
  · have e3 : W.2 3 0 p = X.2 7 p 0 := by
      rcases hpa with q | q
      · exact q.2
      · exact absurd g q.1
    have g1 : ¬ kw_pa (X.2 7 p 0) = -2 := by
      unfold kw_pa
      rw [if_pos g]
      exact n_m2 (by omega)
    have g2 : 0 ≤ qw_pa (X.2 7 p 0) := by
      unfold qw_pa
      rw [if_pos g]
      exact nI_pos' (by omega)
    rw [e3, if_neg g1, if_pos g2]
    have hd := v_dead (x := x) w2b hp w5 w9
    have es : (kw_si (kw_si X 7 p 0 (4 : Int32)) 7 p 2 x).2 7 p 0 = X.2 7 p 0 := rfl
    rw [es]
    have hq := (hd.2.1 (X.2 7 p 0) g).1
    by_cases gw : (kw_si (kw_si X 7 p 0 (4 : Int32)) 7 p 2 x).1 7 (X.2 7 p 0) 0 = 3
    · rw [if_pos gw, if_pos (hq.symm.trans gw)]
      exact v_wake hd g gw
    · rw [if_neg gw, if_neg (fun z => gw (hq.trans z))]
      exact hd
  · have e3 : ¬ W.2 3 0 p < 4 := by
      rcases hpa with q | q
      · exact absurd q.1 g
      · exact q.2
    have g2 : ¬ 0 ≤ qw_pa (W.2 3 0 p) := by
      unfold qw_pa
      rw [if_neg e3]
      decide
    rw [if_pos (kw_pa_no g), if_neg g2]
    exact v_left w2b hp w9
/-- kill, on both sides -/
theorem r_kill {B : Nat} {S : kw_S} {T : qw_S} (h : r_R B S T) (p : Int32) : (k_K_kill S p).1 = (k_Q_kill T p).1 ∧ r_R B (k_K_kill S p).2 (k_Q_kill T p).2 := by
  unfold k_K_kill k_Q_kill
  dsimp only
  rw [← r_alive h]
  by_cases g : k_K_lives S p = 0
  · rw [if_pos g, if_pos g]
    exact ⟨rfl, h⟩
  · rw [if_neg g, if_neg g]
    obtain ⟨q, hq, eq, hl⟩ := k_live g
    rw [eq, nI_clamp (by omega)]
    have e := r_end (x := (-9 : Int32)) h hq hl
    refine ⟨rfl, ?_⟩
    dsimp only
    exact e
