theorem kw_si_cj {S : kw_S} {c i j j2 : Nat} {v v2 : Int32} (h : j ≠ j2) : kw_si (kw_si S c i j v) c i j2 v2 = kw_si (kw_si S c i j2 v2) c i j v := by
  refine kw_ext (fun a b d => ?_) (fun a b d => rfl)
  rw [kw_si_at, kw_si_at, kw_si_at, kw_si_at]
  by_cases h1 : a = c ∧ b = i ∧ d = j
  · have h2 : ¬ (a = c ∧ b = i ∧ d = j2) := fun z => h (h1.2.2.symm.trans z.2.2)
    simp only [h1, h2, if_true, if_false]
    split
    · rename_i q
      exact absurd q.2.2 h
    · simp
  · simp only [h1, if_false]
theorem u_fin {c : Nat → Nat} {S : kw_S} {T V : qw_S} {e : Nat} (h : r_M c S T) (he : e < 32) (hf : ¬ S.2 10 e 0 < 6) (hs : ¬ S.2 10 e 1 < 32) (h10 : ∀ i, V.1 10 0 i = if i = e then 0 else T.1 10 0 i) (h11 : ∀ i, i ≠ e → V.1 11 0 i = T.1 11 0 i ∧ V.1 12 0 i = T.1 12 0 i ∧ V.1 13 0 i = T.1 13 0 i ∧ V.1 14 0 i = T.1 14 0 i) (h15 : V.1 15 = T.1 15) (h17 : V.1 17 = T.1 17) (h0 : V.2 0 = T.2 0) : r_M (r_up c e 0) (k_M_release_J68 e (kw_si S 10 e 0 (0 : Int32))) V := by
  have e1 : k_M_release_J68 e (kw_si S 10 e 0 (0 : Int32)) = kw_si (kw_si (kw_si S 10 e 1 (0 : Int32)) 10 e 2 (0 : Int32)) 10 e 0 (0 : Int32) := by
    show kw_si (kw_si (kw_si S 10 e 0 (0 : Int32)) 10 e 1 (0 : Int32)) 10 e 2 (0 : Int32) = _
    rw [kw_si_cj (j := 0) (j2 := 1) (by decide), kw_si_cj (j := 0) (j2 := 2) (by decide)]
  rw [e1]
  refine u_none (u_ch (v := (0 : Int32)) (u_us (e := e) (v := (0 : Int32)) h)) he hf hs (fun i => ?_) (fun i hi => ?_) ?_ ?_ h0
  · rw [qw_si_nc (by decide), qw_si_nc (by decide)]
    exact h10 i
  · obtain ⟨b1, b2, b3, b4⟩ := h11 i hi
    refine ⟨?_, ?_, ?_, ?_⟩
    · rw [qw_si_nc (by decide), qw_si_at, if_neg (fun z => hi z.2.2)]
      exact b1
    · rw [qw_si_at, if_neg (fun z => hi z.2.2), qw_si_nc (by decide)]
      exact b2
    · rw [qw_si_nc (by decide), qw_si_nc (by decide)]
      exact b3
    · rw [qw_si_nc (by decide), qw_si_nc (by decide)]
      exact b4
  · rw [qw_si_nc (by decide), qw_si_nc (by decide)]
    exact h15
  · rw [qw_si_nc (by decide), qw_si_nc (by decide)]
    exact h17
/-- release: an owner among several -/
theorem k_rel1 {S : kw_S} {e m : Nat} (ho : S.1 10 e 0 = nI (m + 1)) (hm : m ≠ 0) (hm2 : m < 64) : k_M_release S e = kw_si S 10 e 0 (S.1 10 e 0 - (1 : Int32)) := by
  have e1 : (kw_si S 10 e 0 (S.1 10 e 0 - (1 : Int32))).1 10 e 0 = nI m := by
    rw [kw_si_at, if_pos ⟨rfl, rfl, rfl⟩, ho]
    exact nI_pred m
  unfold k_M_release
  dsimp only
  rw [e1, if_neg (nI_nle (by omega) (by omega))]
/-- release: the last owner -/
theorem r_rel0 {c : Nat → Nat} {S : kw_S} {T : qw_S} {e : Nat} (h : r_M c S T) (he : e < 32) (hc : c e = 1) : r_M (r_up c e 0) (k_M_release S e) (qw_si T 10 0 e (0 : Int32)) := by
  have ho : S.1 10 e 0 - (1 : Int32) = 0 := by
    rw [h.1.1 e he, hc]
    decide
  have e1 : (kw_si S 10 e 0 (0 : Int32)).1 10 e 0 = 0 := by rw [kw_si_at, if_pos ⟨rfl, rfl, rfl⟩]
  have v10 : ∀ i, (qw_si T 10 0 e (0 : Int32)).1 10 0 i = if i = e then 0 else T.1 10 0 i := by
    intro i
    rw [qw_si_at]
    by_cases q : i = e
    · rw [if_pos ⟨rfl, rfl, q⟩, if_pos q]
    · rw [if_neg (fun z => q z.2.2), if_neg q]
  unfold k_M_release
  dsimp only
  rw [ho, e1, if_pos (by decide)]
  by_cases g : S.2 10 e 0 < 6
  · have h1 := u_out h rfl g he
    rw [if_neg (show ¬ kw_fr ((kw_si S 10 e 0 (0 : Int32)).2 10 e 0) = -2 from fun q => kw_fr2.mp q g)]
    have f0 : ¬ (kw_sn (kw_sn S 5 0 (S.2 10 e 0) 32) 10 e 0 6).2 10 e 0 < 6 := by
      rw [kw_sn_at, if_pos ⟨rfl, rfl, rfl⟩]
      decide
    have f1 : (kw_sn (kw_sn S 5 0 (S.2 10 e 0) 32) 10 e 0 6).2 10 e 1 = S.2 10 e 1 := by
      rw [kw_sn_at, if_neg (fun z => absurd z.2.2 (by decide)), kw_sn_nc (by decide)]
    show r_M _ (k_M_release_J43 e (kw_si (kw_sn (kw_sn S 5 0 (S.2 10 e 0) 32) 10 e 0 6) 10 e 0 (0 : Int32))) _
    generalize kw_sn (kw_sn S 5 0 (S.2 10 e 0) 32) 10 e 0 6 = S2 at h1 f0 f1
    unfold k_M_release_J43
    dsimp only
    by_cases gs : S2.2 10 e 1 < 32
    · have h2 := u_outS h1 rfl gs he
      rw [if_neg (show ¬ kw_sl ((kw_si S2 10 e 0 (0 : Int32)).2 10 e 1) = -2 from fun q => kw_sl2.mp q gs)]
      show r_M _ (k_M_release_J68 e (kw_si (kw_sn (kw_sn S2 6 0 (S2.2 10 e 1) 32) 10 e 1 32) 10 e 0 (0 : Int32))) _
      refine u_fin h2 he ?_ ?_ (fun i => ?_) (fun i hi => ?_) ?_ ?_ rfl
      · rw [kw_sn_at, if_neg (fun z => absurd z.2.2 (by decide)), kw_sn_nc (by decide)]
        exact f0
      · rw [kw_sn_at, if_pos ⟨rfl, rfl, rfl⟩]
        decide
      · rw [v10, qw_si_nc (by decide), qw_si_nc (by decide)]
      · refine ⟨?_, ?_, ?_, ?_⟩
        · rw [qw_si_nc (by decide), qw_si_nc (by decide), qw_si_nc (by decide)]
        · rw [qw_si_nc (by decide), qw_si_nc (by decide), qw_si_nc (by decide)]
        · rw [qw_si_nc (by decide), qw_si_nc (by decide), qw_si_at, if_neg (fun z => hi z.2.2)]
        · rw [qw_si_nc (by decide), qw_si_at, if_neg (fun z => hi z.2.2), qw_si_nc (by decide)]
      · rw [qw_si_nc (by decide), qw_si_nc (by decide), qw_si_nc (by decide)]
      · rw [qw_si_nc (by decide), qw_si_nc (by decide), qw_si_nc (by decide)]
    · rw [if_pos (show kw_sl ((kw_si S2 10 e 0 (0 : Int32)).2 10 e 1) = -2 from kw_sl2.mpr gs)]
      refine u_fin h1 he f0 gs (fun i => ?_) (fun i hi => ?_) ?_ ?_ rfl
      · rw [v10, qw_si_nc (by decide)]
      · refine ⟨?_, ?_, ?_, ?_⟩
        · rw [qw_si_nc (by decide), qw_si_nc (by decide)]
        · rw [qw_si_nc (by decide), qw_si_nc (by decide)]
        · rw [qw_si_nc (by decide), qw_si_at, if_neg (fun z => hi z.2.2)]
        · rw [qw_si_nc (by decide), qw_si_nc (by decide)]
      · rw [qw_si_nc (by decide), qw_si_nc (by decide)]
      · rw [qw_si_nc (by decide), qw_si_nc (by decide)]
  · rw [if_pos (show kw_fr ((kw_si S 10 e 0 (0 : Int32)).2 10 e 0) = -2 from kw_fr2.mpr g)]
    unfold k_M_release_J43
    dsimp only
    by_cases gs : S.2 10 e 1 < 32
    · have h2 := u_outS h rfl gs he
      rw [if_neg (show ¬ kw_sl ((kw_si S 10 e 0 (0 : Int32)).2 10 e 1) = -2 from fun q => kw_sl2.mp q gs)]
      show r_M _ (k_M_release_J68 e (kw_si (kw_sn (kw_sn S 6 0 (S.2 10 e 1) 32) 10 e 1 32) 10 e 0 (0 : Int32))) _
      refine u_fin h2 he ?_ ?_ (fun i => ?_) (fun i hi => ?_) ?_ ?_ rfl
      · rw [kw_sn_at, if_neg (fun z => absurd z.2.2 (by decide)), kw_sn_nc (by decide)]
        exact g
      · rw [kw_sn_at, if_pos ⟨rfl, rfl, rfl⟩]
        decide
      · rw [v10, qw_si_nc (by decide)]
      · refine ⟨?_, ?_, ?_, ?_⟩
        · rw [qw_si_nc (by decide), qw_si_nc (by decide)]
        · rw [qw_si_nc (by decide), qw_si_nc (by decide)]
        · rw [qw_si_nc (by decide), qw_si_nc (by decide)]
        · rw [qw_si_nc (by decide), qw_si_at, if_neg (fun z => hi z.2.2)]
      · rw [qw_si_nc (by decide), qw_si_nc (by decide)]
      · rw [qw_si_nc (by decide), qw_si_nc (by decide)]
    · rw [if_pos (show kw_sl ((kw_si S 10 e 0 (0 : Int32)).2 10 e 1) = -2 from kw_sl2.mpr gs)]
      refine u_fin h he g gs v10 (fun i hi => ?_) (qw_si_nc (by decide)) (qw_si_nc (by decide)) rfl
      refine ⟨?_, ?_, ?_, ?_⟩ <;> rw [qw_si_nc (by decide)]
