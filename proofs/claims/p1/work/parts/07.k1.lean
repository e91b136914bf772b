theorem kq_bool {x : Int32} (h : x = 0 ∨ x = 1) : narrow .boolean (.int x) = .int x := by
  rcases h with rfl | rfl <;> rfl
def k_K_isTask (p : Int32) : Int32 :=
  if p < 0 then
    (0 : Int32)
  else
    if (4 : Int32) ≤ p then
      (0 : Int32)
    else
      (1 : Int32)
set_option maxHeartbeats 4000000 in
set_option maxRecDepth 100000 in
theorem c_K_isTask {l : Launch} {D : va_G} {cI cT cS : ClassId} {ad : Nat → Nat} (hinj : wl_inj 83 ad) (S0 : kw_S) (p : Int32) : wl_Mi l y_K_isTask (Cond.code y_K_isTask b_K_isTask 1 (some .boolean) :: TT) (rm_ 0) D classes (kw_ty cI cT cS) 83 ad [.int p] (kw_C cI cT cS ad S0) (k_K_isTask p) (kw_C cI cT cS ad S0) := by
  intro sz
  refine wl_enter (own := R_K) rfl (by decide) (Nat.le_of_ble_eq_true rfl) hinj (fun p_ e_ s_ m_ below meth c_ ls hsz X hml hr hlocks hl hP hS => ?_)
  have hx := X.1
  have hb := X.2.1
  have hA : ∀ q, s_.heap.size ≤ q → (wl_A 83 ad s_.heap.size) q := fun q h => Or.inr h
  have hl : lv_has ls 1 [(0, .int p)] := hl
  refine lv_iload_n hx hb d_K_isTask_0 rfl (lv_at hl 0 rfl) ?_
  refine lv_if_lt (tgt := 13) hx hb d_K_isTask_1 (by decide) (fun c1 => ?_) (fun c1 => ?_)
  · skip
    refine lv_iconst (v := 0) hx hb d_K_isTask_13 (by decide) ?_
    have hE : k_K_isTask p = (0 : Int32) := by
      exact ((if_pos c1).trans rfl)
    rw [hE]
    exact wl_zret X hsz hr hlocks (kq_bool (Or.inl rfl)) hP hS d_K_isTask_14
  · skip
    refine lv_iload_n hx hb d_K_isTask_4 rfl (lv_at hl 0 rfl) ?_
    refine lv_iconst (v := 4) hx hb d_K_isTask_5 (by decide) ?_
    refine lv_icmp_ge (tgt := 13) hx hb d_K_isTask_6 (by decide) (fun c2 => ?_) (fun c2 => ?_)
    · skip
      refine lv_iconst (v := 0) hx hb d_K_isTask_13 (by decide) ?_
      have hE : k_K_isTask p = (0 : Int32) := by
        exact ((if_neg c1).trans ((if_pos c2).trans rfl))
      rw [hE]
      exact wl_zret X hsz hr hlocks (kq_bool (Or.inl rfl)) hP hS d_K_isTask_14
    · skip
      refine lv_iconst (v := 1) hx hb d_K_isTask_9 (by decide) ?_
      refine lv_goto (tgt := 14) hx hb d_K_isTask_10 (by decide) ?_
      have hE : k_K_isTask p = (1 : Int32) := by
        exact ((if_neg c1).trans ((if_neg c2).trans rfl))
      rw [hE]
      exact wl_zret X hsz hr hlocks (kq_bool (Or.inr rfl)) hP hS d_K_isTask_14
def k_K_isAddress (a : Int32) : Int32 :=
  if a < 0 then
    (0 : Int32)
  else
    if (64 : Int32) ≤ a then
      (0 : Int32)
    else
      (1 : Int32)
set_option maxHeartbeats 4000000 in
set_option maxRecDepth 100000 in
theorem c_K_isAddress {l : Launch} {D : va_G} {cI cT cS : ClassId} {ad : Nat → Nat} (hinj : wl_inj 83 ad) (S0 : kw_S) (a : Int32) : wl_Mi l y_K_isAddress (Cond.code y_K_isAddress b_K_isAddress 1 (some .boolean) :: TT) (rm_ 0) D classes (kw_ty cI cT cS) 83 ad [.int a] (kw_C cI cT cS ad S0) (k_K_isAddress a) (kw_C cI cT cS ad S0) := by
  intro sz
  refine wl_enter (own := R_K) rfl (by decide) (Nat.le_of_ble_eq_true rfl) hinj (fun p_ e_ s_ m_ below meth c_ ls hsz X hml hr hlocks hl hP hS => ?_)
  have hx := X.1
  have hb := X.2.1
  have hA : ∀ q, s_.heap.size ≤ q → (wl_A 83 ad s_.heap.size) q := fun q h => Or.inr h
  have hl : lv_has ls 1 [(0, .int a)] := hl
  refine lv_iload_n hx hb d_K_isAddress_0 rfl (lv_at hl 0 rfl) ?_
  refine lv_if_lt (tgt := 14) hx hb d_K_isAddress_1 (by decide) (fun c1 => ?_) (fun c1 => ?_)
  · skip
    refine lv_iconst (v := 0) hx hb d_K_isAddress_14 (by decide) ?_
    have hE : k_K_isAddress a = (0 : Int32) := by
      exact ((if_pos c1).trans rfl)
    rw [hE]
    exact wl_zret X hsz hr hlocks (kq_bool (Or.inl rfl)) hP hS d_K_isAddress_15
  · skip
    refine lv_iload_n hx hb d_K_isAddress_4 rfl (lv_at hl 0 rfl) ?_
    refine lv_bipush (v := 64) hx hb d_K_isAddress_5 (by decide) ?_
    refine lv_icmp_ge (tgt := 14) hx hb d_K_isAddress_7 (by decide) (fun c2 => ?_) (fun c2 => ?_)
    · skip
      refine lv_iconst (v := 0) hx hb d_K_isAddress_14 (by decide) ?_
      have hE : k_K_isAddress a = (0 : Int32) := by
        exact ((if_neg c1).trans ((if_pos c2).trans rfl))
      rw [hE]
      exact wl_zret X hsz hr hlocks (kq_bool (Or.inl rfl)) hP hS d_K_isAddress_15
    · skip
      refine lv_iconst (v := 1) hx hb d_K_isAddress_10 (by decide) ?_
      refine lv_goto (tgt := 15) hx hb d_K_isAddress_11 (by decide) ?_
      have hE : k_K_isAddress a = (1 : Int32) := by
        exact ((if_neg c1).trans ((if_neg c2).trans rfl))
      rw [hE]
      exact wl_zret X hsz hr hlocks (kq_bool (Or.inr rfl)) hP hS d_K_isAddress_15
theorem kq_isTask {p : Int32} (h : ¬ k_K_isTask p = 0) : p = nI p.toNatClampNeg ∧ p.toNatClampNeg < 4 := by
  unfold k_K_isTask at h
  by_cases h0 : p < 0
  · rw [if_pos h0] at h
    exact absurd rfl h
  · rw [if_neg h0] at h
    by_cases h1 : (4 : Int32) ≤ p
    · rw [if_pos h1] at h
      exact absurd rfl h
    · exact sk_rng 4 h0 h1 (by decide)
theorem kq_isAddress {p : Int32} (h : ¬ k_K_isAddress p = 0) : p = nI p.toNatClampNeg ∧ p.toNatClampNeg < 64 := by
  unfold k_K_isAddress at h
  by_cases h0 : p < 0
  · rw [if_pos h0] at h
    exact absurd rfl h
  · rw [if_neg h0] at h
    by_cases h1 : (64 : Int32) ≤ p
    · rw [if_pos h1] at h
      exact absurd rfl h
    · exact sk_rng 64 h0 h1 (by decide)
def k_K_isThere (S0 : kw_S) (p : Int32) : Int32 :=
  let r1 := k_K_isTask p
  if r1 = 0 then
    (0 : Int32)
  else
    if (S0.1 7 p.toNatClampNeg 0) = 0 then
      (0 : Int32)
    else
      (1 : Int32)
set_option maxHeartbeats 4000000 in
set_option maxRecDepth 100000 in
theorem c_K_isThere {l : Launch} {D : va_G} {cI cT cS : ClassId} {ad : Nat → Nat} (hinj : wl_inj 83 ad) (S0 : kw_S) (p : Int32) : wl_Mi l y_K_isThere (Cond.code y_K_isThere b_K_isThere 2 (some .boolean) :: TT) (rm_ 1) D classes (kw_ty cI cT cS) 83 ad [.ref (ad 0), .int p] (kw_C cI cT cS ad S0) (k_K_isThere S0 p) (kw_C cI cT cS ad S0) := by
  intro sz
  refine wl_enter (own := R_K) rfl (by decide) (Nat.le_of_ble_eq_true rfl) hinj (fun p_ e_ s_ m_ below meth c_ ls hsz X hml hr hlocks hl hP hS => ?_)
  have hx := X.1
  have hb := X.2.1
  have hA : ∀ q, s_.heap.size ≤ q → (wl_A 83 ad s_.heap.size) q := fun q h => Or.inr h
  have hl : lv_has ls 2 [(0, .ref (ad 0)), (1, .int p)] := hl
  refine lv_iload_n hx hb d_K_isThere_0 rfl (lv_at hl 1 rfl) ?_
  refine wl_goi1 (cf := kw_C cI cT cS ad) (r := k_K_isTask p) hS hA X.2.2.2.2.2.2 (wl_runS (As := [.int p]) (rest := []) X hml hl.1 hP g_TT (c_K_isTask hinj S0 p _) wv_K_82 (na := 1) (by decide +kernel) rfl ⟨Nat.le_of_ble_eq_true rfl, Nat.le_of_ble_eq_true rfl⟩ rfl (Nat.le_of_ble_eq_true rfl) d_K_isThere_1 ⟨Nat.le_refl _, Nat.le_refl _⟩) (fun r1 er1 H locs hP hS => ?_)
  refine lv_if_eq (tgt := 23) hx hb d_K_isThere_4 (by decide) (fun c2 => ?_) (fun c2 => ?_)
  · skip
    refine lv_iconst (v := 0) hx hb d_K_isThere_23 (by decide) ?_
    have hE : k_K_isThere S0 p = (0 : Int32) := by
      replace er1 := er1.symm
      subst er1
      exact ((if_pos c2).trans rfl)
    rw [hE]
    exact wl_zret X hsz hr hlocks (kq_bool (Or.inl rfl)) hP hS d_K_isThere_24
  · skip
    obtain ⟨hp1, hp2⟩ := kq_isTask (fun h => c2 (er1.trans h))
    refine lv_aload_n hx hb d_K_isThere_7 rfl (lv_at hl 0 rfl) ?_
    refine wl_get (v := .ref (ad 1)) X hP (i := 0) (by decide) (kw_cK ) rfl i_K 0 (by decide) lf_K_11 rfl d_K_isThere_8 ?_
    refine lv_iload_n hx hb d_K_isThere_11 rfl (lv_at hl 1 rfl) ?_
    refine wl_aald X hP (i := 1) (by decide) 1 (kw_cAT ) rfl (j := p.toNatClampNeg) hp1 hp2 (by decide) d_K_isThere_12 ?_
    refine wl_topv (y := .ref (ad (71 + 3 * p.toNatClampNeg))) rfl ?_
    refine wl_get (v := .int (S0.1 7 p.toNatClampNeg 0)) X hP (i := (71 + 3 * p.toNatClampNeg)) (by omega) (kw_cT (by omega)) rfl i_T 2 (by decide) lf_K_85 rfl d_K_isThere_13 ?_
    refine lv_if_eq (tgt := 23) hx hb d_K_isThere_16 (by decide) (fun c3 => ?_) (fun c3 => ?_)
    · skip
      refine lv_iconst (v := 0) hx hb d_K_isThere_23 (by decide) ?_
      have hE : k_K_isThere S0 p = (0 : Int32) := by
        replace er1 := er1.symm
        subst er1
        exact ((if_neg c2).trans ((if_pos c3).trans rfl))
      rw [hE]
      exact wl_zret X hsz hr hlocks (kq_bool (Or.inl rfl)) hP hS d_K_isThere_24
    · skip
      refine lv_iconst (v := 1) hx hb d_K_isThere_19 (by decide) ?_
      refine lv_goto (tgt := 24) hx hb d_K_isThere_20 (by decide) ?_
      have hE : k_K_isThere S0 p = (1 : Int32) := by
        replace er1 := er1.symm
        subst er1
        exact ((if_neg c2).trans ((if_neg c3).trans rfl))
      rw [hE]
      exact wl_zret X hsz hr hlocks (kq_bool (Or.inr rfl)) hP hS d_K_isThere_24
theorem kq_isThere {S : kw_S} {p : Int32} (h : ¬ k_K_isThere S p = 0) : p = nI p.toNatClampNeg ∧ p.toNatClampNeg < 4 := by
  unfold k_K_isThere at h
  by_cases h0 : k_K_isTask p = 0
  · exact absurd (if_pos h0) h
  · exact kq_isTask h0
def k_K_lives (S0 : kw_S) (p : Int32) : Int32 :=
  let r1 := k_K_isThere S0 p
  if r1 = 0 then
    (0 : Int32)
  else
    if (S0.1 7 p.toNatClampNeg 0) = (4 : Int32) then
      (0 : Int32)
    else
      (1 : Int32)
set_option maxHeartbeats 4000000 in
set_option maxRecDepth 100000 in
theorem c_K_lives {l : Launch} {D : va_G} {cI cT cS : ClassId} {ad : Nat → Nat} (hinj : wl_inj 83 ad) (S0 : kw_S) (p : Int32) : wl_Mi l y_K_lives (Cond.code y_K_lives b_K_lives 2 (some .boolean) :: TT) (rm_ 2) D classes (kw_ty cI cT cS) 83 ad [.ref (ad 0), .int p] (kw_C cI cT cS ad S0) (k_K_lives S0 p) (kw_C cI cT cS ad S0) := by
  intro sz
  refine wl_enter (own := R_K) rfl (by decide) (Nat.le_of_ble_eq_true rfl) hinj (fun p_ e_ s_ m_ below meth c_ ls hsz X hml hr hlocks hl hP hS => ?_)
  have hx := X.1
  have hb := X.2.1
  have hA : ∀ q, s_.heap.size ≤ q → (wl_A 83 ad s_.heap.size) q := fun q h => Or.inr h
  have hl : lv_has ls 2 [(0, .ref (ad 0)), (1, .int p)] := hl
  refine lv_aload_n hx hb d_K_lives_0 rfl (lv_at hl 0 rfl) ?_
  refine lv_iload_n hx hb d_K_lives_1 rfl (lv_at hl 1 rfl) ?_
  refine wl_goi1 (cf := kw_C cI cT cS ad) (r := k_K_isThere S0 p) hS hA X.2.2.2.2.2.2 (wl_runV (As := [.int p]) (rest := []) X hml hl.1 hP g_TT (c_K_isThere hinj S0 p _) (by decide) (kw_cK ) rfl wv_K_95 (na := 1) (by decide +kernel) rfl ⟨Nat.le_of_ble_eq_true rfl, Nat.le_of_ble_eq_true rfl⟩ rfl (Nat.le_of_ble_eq_true rfl) d_K_lives_2 ⟨Nat.le_refl _, Nat.le_refl _⟩) (fun r1 er1 H locs hP hS => ?_)
  refine lv_if_eq (tgt := 25) hx hb d_K_lives_5 (by decide) (fun c2 => ?_) (fun c2 => ?_)
  · skip
    refine lv_iconst (v := 0) hx hb d_K_lives_25 (by decide) ?_
    have hE : k_K_lives S0 p = (0 : Int32) := by
      replace er1 := er1.symm
      subst er1
      exact ((if_pos c2).trans rfl)
    rw [hE]
    exact wl_zret X hsz hr hlocks (kq_bool (Or.inl rfl)) hP hS d_K_lives_26
  · skip
    obtain ⟨hp1, hp2⟩ := kq_isThere (fun h => c2 (er1.trans h))
    refine lv_aload_n hx hb d_K_lives_8 rfl (lv_at hl 0 rfl) ?_
    refine wl_get (v := .ref (ad 1)) X hP (i := 0) (by decide) (kw_cK ) rfl i_K 0 (by decide) lf_K_11 rfl d_K_lives_9 ?_
    refine lv_iload_n hx hb d_K_lives_12 rfl (lv_at hl 1 rfl) ?_
    refine wl_aald X hP (i := 1) (by decide) 1 (kw_cAT ) rfl (j := p.toNatClampNeg) hp1 hp2 (by decide) d_K_lives_13 ?_
    refine wl_topv (y := .ref (ad (71 + 3 * p.toNatClampNeg))) rfl ?_
    refine wl_get (v := .int (S0.1 7 p.toNatClampNeg 0)) X hP (i := (71 + 3 * p.toNatClampNeg)) (by omega) (kw_cT (by omega)) rfl i_T 2 (by decide) lf_K_85 rfl d_K_lives_14 ?_
    refine lv_iconst (v := 4) hx hb d_K_lives_17 (by decide) ?_
    refine lv_icmp_eq (tgt := 25) hx hb d_K_lives_18 (by decide) (fun c3 => ?_) (fun c3 => ?_)
    · skip
      refine lv_iconst (v := 0) hx hb d_K_lives_25 (by decide) ?_
      have hE : k_K_lives S0 p = (0 : Int32) := by
        replace er1 := er1.symm
        subst er1
        exact ((if_neg c2).trans ((if_pos c3).trans rfl))
      rw [hE]
      exact wl_zret X hsz hr hlocks (kq_bool (Or.inl rfl)) hP hS d_K_lives_26
    · skip
      refine lv_iconst (v := 1) hx hb d_K_lives_21 (by decide) ?_
      refine lv_goto (tgt := 26) hx hb d_K_lives_22 (by decide) ?_
      have hE : k_K_lives S0 p = (1 : Int32) := by
        replace er1 := er1.symm
        subst er1
        exact ((if_neg c2).trans ((if_neg c3).trans rfl))
      rw [hE]
      exact wl_zret X hsz hr hlocks (kq_bool (Or.inr rfl)) hP hS d_K_lives_26
theorem kq_lives {S : kw_S} {p : Int32} (h : ¬ k_K_lives S p = 0) : p = nI p.toNatClampNeg ∧ p.toNatClampNeg < 4 := by
  unfold k_K_lives at h
  by_cases h0 : k_K_isThere S p = 0
  · exact absurd (if_pos h0) h
  · exact kq_isThere h0
def k_K_leastAbsent_L2 : Nat → Nat → kw_S → Int32
  | 0, i, S0 =>
    (-2 : Int32)
  | i_n + 1, i, S0 =>
    if (S0.1 7 i 0) = 0 then
      nI i
    else
      k_K_leastAbsent_L2 i_n (i + 1) S0
set_option maxHeartbeats 4000000 in
set_option maxRecDepth 100000 in
theorem c_K_leastAbsent_L2 {l : Launch} {D : va_G} {cI cT cS : ClassId} {ad : Nat → Nat} {p_ : Program} {e_ : Env} {s_ : State} {m_ : MethodId} {args : Array Value} {below : List Frame} {meth : Method} {c_ : Code} {sz : Nat} (hinj : wl_inj 83 ad) (X : wl_X p_ s_ m_ args c_ b_K_leastAbsent R_K TT D classes (kw_ty cI cT cS) 83 ad (wl_A 83 ad s_.heap.size)) (hsz : s_.heap.size = sz) (hml : c_.maxLocals = 2) (hr : meth.sig.returnType = some .int) (hlocks : meth.locks = false) :
    ∀ (i_n i : Nat) (S0 : kw_S) (h_i : i + i_n = 4) (H : Heap) (locs : List Loc) (ls : Array Slot), lv_has ls 2 [(0, .ref (ad 0)), (1, .int (nI i))] → va_P D classes (wl_W 83 ad (kw_C cI cT cS ad S0)) H → va_S (wl_A 83 ad s_.heap.size) s_.heap H locs → W p_ l e_ (rm_ 0) s_ m_ args below meth c_ H locs 0 0 (MQ below (wl_Qi D classes (kw_ty cI cT cS) 83 ad (k_K_leastAbsent_L2 i_n i S0) (kw_C cI cT cS ad S0) sz) args s_ 0 0 (wl_A 83 ad sz)) (F0 m_ 2 ls []) := by
  have hx := X.1
  have hb := X.2.1
  have hA : ∀ q, s_.heap.size ≤ q → (wl_A 83 ad s_.heap.size) q := fun q h => Or.inr h
  intro i_n
  induction i_n with
  | zero =>
    intro i S0 h_i H locs ls hl hP hS
    refine lv_iload_n hx hb d_K_leastAbsent_2 rfl (lv_at hl 1 rfl) ?_
    refine lv_iconst (v := 4) hx hb d_K_leastAbsent_3 (by decide) ?_
    refine lv_icmp_ge (tgt := 27) hx hb d_K_leastAbsent_4 (by decide) (fun c1 => ?_) (fun c1 => ?_)
    · skip
      refine lv_bipush (v := -2) hx hb d_K_leastAbsent_27 (by decide) ?_
      have hE : k_K_leastAbsent_L2 0 i S0 = (-2 : Int32) := by
        exact rfl
      rw [hE]
      exact wl_iret X hsz hr hlocks hP hS d_K_leastAbsent_29
    · exact absurd (sk_lhz h_i) c1
  | succ i_n ih =>
    intro i S0 h_i H locs ls hl hP hS
    refine lv_iload_n hx hb d_K_leastAbsent_2 rfl (lv_at hl 1 rfl) ?_
    refine lv_iconst (v := 4) hx hb d_K_leastAbsent_3 (by decide) ?_
    refine lv_icmp_ge (tgt := 27) hx hb d_K_leastAbsent_4 (by decide) (fun c101 => ?_) (fun c101 => ?_)
    · exact absurd c101 (sk_lhs h_i)
    · skip
      refine lv_aload_n hx hb d_K_leastAbsent_7 rfl (lv_at hl 0 rfl) ?_
      refine wl_get (v := .ref (ad 1)) X hP (i := 0) (by decide) (kw_cK ) rfl i_K 0 (by decide) lf_K_11 rfl d_K_leastAbsent_8 ?_
      refine lv_iload_n hx hb d_K_leastAbsent_11 rfl (lv_at hl 1 rfl) ?_
      refine wl_aald X hP (i := 1) (by decide) 1 (kw_cAT ) rfl (j := i) rfl (by omega) (by decide) d_K_leastAbsent_12 ?_
      refine wl_topv (y := .ref (ad (71 + 3 * i))) rfl ?_
      refine wl_get (v := .int (S0.1 7 i 0)) X hP (i := (71 + 3 * i)) (by omega) (kw_cT (by omega)) rfl i_T 2 (by decide) lf_K_85 rfl d_K_leastAbsent_13 ?_
      refine lv_if_ne (tgt := 21) hx hb d_K_leastAbsent_16 (by decide) (fun c102 => ?_) (fun c102 => ?_)
      · skip
        refine lv_iinc (v := nI (i + 1)) (lv' := [(1, .int (nI (i + 1))), (0, .ref (ad 0))]) hx hb d_K_leastAbsent_21 hl (k := 1) rfl (nI_1 _) (by decide) rfl (fun ls hl => ?_)
        refine lv_goto (tgt := 2) hx hb d_K_leastAbsent_24 (by decide) ?_
        have hE : k_K_leastAbsent_L2 (i_n + 1) i S0 = k_K_leastAbsent_L2 i_n (i + 1) S0 := by
          exact ((if_neg c102).trans rfl)
        rw [hE]
        exact ih (i + 1) S0 (by omega) _ _ _ (lv_sub hl [1, 0] rfl) hP hS
      · skip
        refine lv_iload_n hx hb d_K_leastAbsent_19 rfl (lv_at hl 1 rfl) ?_
        have hE : k_K_leastAbsent_L2 (i_n + 1) i S0 = nI i := by
          exact ((if_pos c102).trans rfl)
        rw [hE]
        exact wl_iret X hsz hr hlocks hP hS d_K_leastAbsent_20
def k_K_leastAbsent (S0 : kw_S) : Int32 :=
  k_K_leastAbsent_L2 4 0 S0
set_option maxHeartbeats 4000000 in
set_option maxRecDepth 100000 in
theorem c_K_leastAbsent {l : Launch} {D : va_G} {cI cT cS : ClassId} {ad : Nat → Nat} (hinj : wl_inj 83 ad) (S0 : kw_S)  : wl_Mi l y_K_leastAbsent (Cond.code y_K_leastAbsent b_K_leastAbsent 2 (some .int) :: TT) (rm_ 0) D classes (kw_ty cI cT cS) 83 ad [.ref (ad 0)] (kw_C cI cT cS ad S0) (k_K_leastAbsent S0) (kw_C cI cT cS ad S0) := by
  intro sz
  refine wl_enter (own := R_K) rfl (by decide) (Nat.le_of_ble_eq_true rfl) hinj (fun p_ e_ s_ m_ below meth c_ ls hsz X hml hr hlocks hl hP hS => ?_)
  have hx := X.1
  have hb := X.2.1
  have hA : ∀ q, s_.heap.size ≤ q → (wl_A 83 ad s_.heap.size) q := fun q h => Or.inr h
  have hl : lv_has ls 2 [(0, .ref (ad 0))] := hl
  refine lv_iconst (v := 0) hx hb d_K_leastAbsent_0 (by decide) ?_
  refine lv_istore_n (lv' := [(1, .int (0 : Int32)), (0, .ref (ad 0))]) hx hb d_K_leastAbsent_1 rfl hl (by decide) rfl (fun ls hl => ?_)
  have hE : k_K_leastAbsent S0 = k_K_leastAbsent_L2 4 0 S0 := by
    exact rfl
  rw [hE]
  exact c_K_leastAbsent_L2 hinj X hsz hml hr hlocks 4 0 S0 (by omega) _ _ _ (lv_sub hl [1, 0] rfl) hP hS
def k_K_presentTasks_L4 : Nat → Nat → Int32 → kw_S → Int32
  | 0, i, n, S0 =>
    n
  | i_n + 1, i, n, S0 =>
    if (S0.1 7 i 0) = 0 then
      k_K_presentTasks_L4 i_n (i + 1) n S0
    else
      let x103 := n + Int32.ofInt (1)
      k_K_presentTasks_L4 i_n (i + 1) x103 S0
set_option maxHeartbeats 4000000 in
set_option maxRecDepth 100000 in
theorem c_K_presentTasks_L4 {l : Launch} {D : va_G} {cI cT cS : ClassId} {ad : Nat → Nat} {p_ : Program} {e_ : Env} {s_ : State} {m_ : MethodId} {args : Array Value} {below : List Frame} {meth : Method} {c_ : Code} {sz : Nat} (hinj : wl_inj 83 ad) (X : wl_X p_ s_ m_ args c_ b_K_presentTasks R_K TT D classes (kw_ty cI cT cS) 83 ad (wl_A 83 ad s_.heap.size)) (hsz : s_.heap.size = sz) (hml : c_.maxLocals = 3) (hr : meth.sig.returnType = some .int) (hlocks : meth.locks = false) :
    ∀ (i_n i : Nat) (n : Int32) (S0 : kw_S) (h_i : i + i_n = 4) (H : Heap) (locs : List Loc) (ls : Array Slot), lv_has ls 3 [(0, .ref (ad 0)), (1, .int n), (2, .int (nI i))] → va_P D classes (wl_W 83 ad (kw_C cI cT cS ad S0)) H → va_S (wl_A 83 ad s_.heap.size) s_.heap H locs → W p_ l e_ (rm_ 0) s_ m_ args below meth c_ H locs 0 0 (MQ below (wl_Qi D classes (kw_ty cI cT cS) 83 ad (k_K_presentTasks_L4 i_n i n S0) (kw_C cI cT cS ad S0) sz) args s_ 0 0 (wl_A 83 ad sz)) (F0 m_ 4 ls []) := by
  have hx := X.1
  have hb := X.2.1
  have hA : ∀ q, s_.heap.size ≤ q → (wl_A 83 ad s_.heap.size) q := fun q h => Or.inr h
  intro i_n
  induction i_n with
  | zero =>
    intro i n S0 h_i H locs ls hl hP hS
    refine lv_iload_n hx hb d_K_presentTasks_4 rfl (lv_at hl 2 rfl) ?_
    refine lv_iconst (v := 4) hx hb d_K_presentTasks_5 (by decide) ?_
    refine lv_icmp_ge (tgt := 30) hx hb d_K_presentTasks_6 (by decide) (fun c1 => ?_) (fun c1 => ?_)
    · skip
      refine lv_iload_n hx hb d_K_presentTasks_30 rfl (lv_at hl 1 rfl) ?_
      have hE : k_K_presentTasks_L4 0 i n S0 = n := by
        exact rfl
      rw [hE]
      exact wl_iret X hsz hr hlocks hP hS d_K_presentTasks_31
    · exact absurd (sk_lhz h_i) c1
  | succ i_n ih =>
    intro i n S0 h_i H locs ls hl hP hS
    refine lv_iload_n hx hb d_K_presentTasks_4 rfl (lv_at hl 2 rfl) ?_
    refine lv_iconst (v := 4) hx hb d_K_presentTasks_5 (by decide) ?_
    refine lv_icmp_ge (tgt := 30) hx hb d_K_presentTasks_6 (by decide) (fun c101 => ?_) (fun c101 => ?_)
    · exact absurd c101 (sk_lhs h_i)
    · skip
      refine lv_aload_n hx hb d_K_presentTasks_9 rfl (lv_at hl 0 rfl) ?_
      refine wl_get (v := .ref (ad 1)) X hP (i := 0) (by decide) (kw_cK ) rfl i_K 0 (by decide) lf_K_11 rfl d_K_presentTasks_10 ?_
      refine lv_iload_n hx hb d_K_presentTasks_13 rfl (lv_at hl 2 rfl) ?_
      refine wl_aald X hP (i := 1) (by decide) 1 (kw_cAT ) rfl (j := i) rfl (by omega) (by decide) d_K_presentTasks_14 ?_
      refine wl_topv (y := .ref (ad (71 + 3 * i))) rfl ?_
      refine wl_get (v := .int (S0.1 7 i 0)) X hP (i := (71 + 3 * i)) (by omega) (kw_cT (by omega)) rfl i_T 2 (by decide) lf_K_85 rfl d_K_presentTasks_15 ?_
      refine lv_if_eq (tgt := 24) hx hb d_K_presentTasks_18 (by decide) (fun c102 => ?_) (fun c102 => ?_)
      · skip
        refine lv_iinc (v := nI (i + 1)) (lv' := [(2, .int (nI (i + 1))), (0, .ref (ad 0)), (1, .int n)]) hx hb d_K_presentTasks_24 hl (k := 2) rfl (nI_1 _) (by decide) rfl (fun ls hl => ?_)
        refine lv_goto (tgt := 4) hx hb d_K_presentTasks_27 (by decide) ?_
        have hE : k_K_presentTasks_L4 (i_n + 1) i n S0 = k_K_presentTasks_L4 i_n (i + 1) n S0 := by
          exact ((if_pos c102).trans rfl)
        rw [hE]
        exact ih (i + 1) n S0 (by omega) _ _ _ (lv_sub hl [1, 2, 0] rfl) hP hS
      · skip
        obtain ⟨x103, ex103⟩ : ∃ z : Int32, z = n + Int32.ofInt (1) := ⟨_, rfl⟩
        refine lv_iinc (v := x103) (lv' := [(1, .int x103), (0, .ref (ad 0)), (2, .int (nI i))]) hx hb d_K_presentTasks_21 hl (k := 1) rfl (ex103.symm) (by decide) rfl (fun ls hl => ?_)
        refine lv_iinc (v := nI (i + 1)) (lv' := [(2, .int (nI (i + 1))), (1, .int x103), (0, .ref (ad 0))]) hx hb d_K_presentTasks_24 hl (k := 2) rfl (nI_1 _) (by decide) rfl (fun ls hl => ?_)
        refine lv_goto (tgt := 4) hx hb d_K_presentTasks_27 (by decide) ?_
        have hE : k_K_presentTasks_L4 (i_n + 1) i n S0 = k_K_presentTasks_L4 i_n (i + 1) x103 S0 := by
          replace ex103 := ex103.symm
          subst ex103
          exact ((if_neg c102).trans rfl)
        rw [hE]
        exact ih (i + 1) x103 S0 (by omega) _ _ _ (lv_sub hl [2, 1, 0] rfl) hP hS
def k_K_presentTasks (S0 : kw_S) : Int32 :=
  k_K_presentTasks_L4 4 0 (0 : Int32) S0
set_option maxHeartbeats 4000000 in
set_option maxRecDepth 100000 in
theorem c_K_presentTasks {l : Launch} {D : va_G} {cI cT cS : ClassId} {ad : Nat → Nat} (hinj : wl_inj 83 ad) (S0 : kw_S)  : wl_Mi l y_K_presentTasks (Cond.code y_K_presentTasks b_K_presentTasks 3 (some .int) :: TT) (rm_ 0) D classes (kw_ty cI cT cS) 83 ad [.ref (ad 0)] (kw_C cI cT cS ad S0) (k_K_presentTasks S0) (kw_C cI cT cS ad S0) := by
  intro sz
  refine wl_enter (own := R_K) rfl (by decide) (Nat.le_of_ble_eq_true rfl) hinj (fun p_ e_ s_ m_ below meth c_ ls hsz X hml hr hlocks hl hP hS => ?_)
  have hx := X.1
  have hb := X.2.1
  have hA : ∀ q, s_.heap.size ≤ q → (wl_A 83 ad s_.heap.size) q := fun q h => Or.inr h
  have hl : lv_has ls 3 [(0, .ref (ad 0))] := hl
  refine lv_iconst (v := 0) hx hb d_K_presentTasks_0 (by decide) ?_
  refine lv_istore_n (lv' := [(1, .int (0 : Int32)), (0, .ref (ad 0))]) hx hb d_K_presentTasks_1 rfl hl (by decide) rfl (fun ls hl => ?_)
  refine lv_iconst (v := 0) hx hb d_K_presentTasks_2 (by decide) ?_
  refine lv_istore_n (lv' := [(2, .int (0 : Int32)), (1, .int (0 : Int32)), (0, .ref (ad 0))]) hx hb d_K_presentTasks_3 rfl hl (by decide) rfl (fun ls hl => ?_)
  have hE : k_K_presentTasks S0 = k_K_presentTasks_L4 4 0 (0 : Int32) S0 := by
    exact rfl
  rw [hE]
  exact c_K_presentTasks_L4 hinj X hsz hml hr hlocks 4 0 (0 : Int32) S0 (by omega) _ _ _ (lv_sub hl [2, 1, 0] rfl) hP hS
def k_K_wakeSleepers_L2 : Nat → Nat → kw_S → kw_S
  | 0, i, S0 =>
    S0
  | i_n + 1, i, S0 =>
    if (S0.1 7 i 0) = (2 : Int32) then
      let S103 := kw_si S0 7 i 3 ((S0.1 7 i 3) - (1 : Int32))
      if (S103.1 7 i 3) = 0 then
        let S105 := kw_si S103 7 i 0 (1 : Int32)
        k_K_wakeSleepers_L2 i_n (i + 1) S105
      else
        k_K_wakeSleepers_L2 i_n (i + 1) S103
    else
      k_K_wakeSleepers_L2 i_n (i + 1) S0
set_option maxHeartbeats 4000000 in
set_option maxRecDepth 100000 in
theorem c_K_wakeSleepers_L2 {l : Launch} {D : va_G} {cI cT cS : ClassId} {ad : Nat → Nat} {p_ : Program} {e_ : Env} {s_ : State} {m_ : MethodId} {args : Array Value} {below : List Frame} {meth : Method} {c_ : Code} {sz : Nat} (hinj : wl_inj 83 ad) (X : wl_X p_ s_ m_ args c_ b_K_wakeSleepers R_K TT D classes (kw_ty cI cT cS) 83 ad (wl_A 83 ad s_.heap.size)) (hsz : s_.heap.size = sz) (hml : c_.maxLocals = 3) (hr : meth.sig.returnType = none) (hlocks : meth.locks = false) :
    ∀ (i_n i : Nat) (S0 : kw_S) (h_i : i + i_n = 4) (H : Heap) (locs : List Loc) (ls : Array Slot), lv_has ls 3 [(0, .ref (ad 0)), (1, .int (nI i))] → va_P D classes (wl_W 83 ad (kw_C cI cT cS ad S0)) H → va_S (wl_A 83 ad s_.heap.size) s_.heap H locs → W p_ l e_ (rm_ 0) s_ m_ args below meth c_ H locs 0 0 (MQ below (wl_Qv D classes (kw_ty cI cT cS) 83 ad (kw_C cI cT cS ad (k_K_wakeSleepers_L2 i_n i S0)) sz) args s_ 0 0 (wl_A 83 ad sz)) (F0 m_ 2 ls []) := by
  have hx := X.1
  have hb := X.2.1
  have hA : ∀ q, s_.heap.size ≤ q → (wl_A 83 ad s_.heap.size) q := fun q h => Or.inr h
  intro i_n
  induction i_n with
  | zero =>
    intro i S0 h_i H locs ls hl hP hS
    refine lv_iload_n hx hb d_K_wakeSleepers_2 rfl (lv_at hl 1 rfl) ?_
    refine lv_iconst (v := 4) hx hb d_K_wakeSleepers_3 (by decide) ?_
    refine lv_icmp_ge (tgt := 50) hx hb d_K_wakeSleepers_4 (by decide) (fun c1 => ?_) (fun c1 => ?_)
    · skip
      have hE : k_K_wakeSleepers_L2 0 i S0 = S0 := by
        exact rfl
      rw [hE]
      exact wl_vret X hsz hr hlocks hP hS d_K_wakeSleepers_50
    · exact absurd (sk_lhz h_i) c1
  | succ i_n ih =>
    intro i S0 h_i H locs ls hl hP hS
    refine lv_iload_n hx hb d_K_wakeSleepers_2 rfl (lv_at hl 1 rfl) ?_
    refine lv_iconst (v := 4) hx hb d_K_wakeSleepers_3 (by decide) ?_
    refine lv_icmp_ge (tgt := 50) hx hb d_K_wakeSleepers_4 (by decide) (fun c101 => ?_) (fun c101 => ?_)
    · exact absurd c101 (sk_lhs h_i)
    · skip
      refine lv_aload_n hx hb d_K_wakeSleepers_7 rfl (lv_at hl 0 rfl) ?_
      refine wl_get (v := .ref (ad 1)) X hP (i := 0) (by decide) (kw_cK ) rfl i_K 0 (by decide) lf_K_11 rfl d_K_wakeSleepers_8 ?_
      refine lv_iload_n hx hb d_K_wakeSleepers_11 rfl (lv_at hl 1 rfl) ?_
      refine wl_aald X hP (i := 1) (by decide) 1 (kw_cAT ) rfl (j := i) rfl (by omega) (by decide) d_K_wakeSleepers_12 ?_
      refine wl_topv (y := .ref (ad (71 + 3 * i))) rfl ?_
      refine lv_astore_n (lv' := [(2, .ref (ad (71 + 3 * i))), (0, .ref (ad 0)), (1, .int (nI i))]) hx hb d_K_wakeSleepers_13 rfl hl (by decide) rfl (fun ls hl => ?_)
      refine lv_aload_n hx hb d_K_wakeSleepers_14 rfl (lv_at hl 0 rfl) ?_
      refine wl_get (v := .int (S0.1 7 i 0)) X hP (i := (71 + 3 * i)) (by omega) (kw_cT (by omega)) rfl i_T 2 (by decide) lf_K_85 rfl d_K_wakeSleepers_15 ?_
      refine lv_iconst (v := 2) hx hb d_K_wakeSleepers_18 (by decide) ?_
      refine lv_icmp_ne (tgt := 44) hx hb d_K_wakeSleepers_19 (by decide) (fun c102 => ?_) (fun c102 => ?_)
      · skip
        refine lv_iinc (v := nI (i + 1)) (lv' := [(1, .int (nI (i + 1))), (2, .ref (ad (71 + 3 * i))), (0, .ref (ad 0))]) hx hb d_K_wakeSleepers_44 hl (k := 2) rfl (nI_1 _) (by decide) rfl (fun ls hl => ?_)
        refine lv_goto (tgt := 2) hx hb d_K_wakeSleepers_47 (by decide) ?_
        have hE : k_K_wakeSleepers_L2 (i_n + 1) i S0 = k_K_wakeSleepers_L2 i_n (i + 1) S0 := by
          exact ((if_neg c102).trans rfl)
        rw [hE]
        exact ih (i + 1) S0 (by omega) _ _ _ (lv_sub hl [2, 0] rfl) hP hS
      · skip
        refine lv_aload_n hx hb d_K_wakeSleepers_22 rfl (lv_at hl 0 rfl) ?_
        refine lv_dup hx hb d_K_wakeSleepers_23 rfl ?_
        refine wl_get (v := .int (S0.1 7 i 3)) X hP (i := (71 + 3 * i)) (by omega) (kw_cT (by omega)) rfl i_T 6 (by decide) lf_K_133 rfl d_K_wakeSleepers_24 ?_
        refine lv_iconst (v := 1) hx hb d_K_wakeSleepers_27 (by decide) ?_
        refine lv_isub hx hb d_K_wakeSleepers_28 ?_
        refine wl_put X hP hS (i := (71 + 3 * i)) (by omega) (kw_cT (by omega)) rfl i_T ft_T ft_T_ok fn_T 6 (by decide) lf_K_133 rfl rfl rfl (Nat.le_of_ble_eq_true rfl) d_K_wakeSleepers_29 (kw_pT_sleepLeft (by omega)) (fun H locs hP hS => ?_)
        obtain ⟨S103, eS103⟩ : ∃ z, z = kw_si S0 7 i 3 ((S0.1 7 i 3) - (1 : Int32)) := ⟨_, rfl⟩
        rw [← eS103] at hP
        refine lv_aload_n hx hb d_K_wakeSleepers_32 rfl (lv_at hl 0 rfl) ?_
        refine wl_get (v := .int (S103.1 7 i 3)) X hP (i := (71 + 3 * i)) (by omega) (kw_cT (by omega)) rfl i_T 6 (by decide) lf_K_133 rfl d_K_wakeSleepers_33 ?_
        refine lv_if_ne (tgt := 44) hx hb d_K_wakeSleepers_36 (by decide) (fun c104 => ?_) (fun c104 => ?_)
        · skip
          refine lv_iinc (v := nI (i + 1)) (lv' := [(1, .int (nI (i + 1))), (2, .ref (ad (71 + 3 * i))), (0, .ref (ad 0))]) hx hb d_K_wakeSleepers_44 hl (k := 2) rfl (nI_1 _) (by decide) rfl (fun ls hl => ?_)
          refine lv_goto (tgt := 2) hx hb d_K_wakeSleepers_47 (by decide) ?_
          have hE : k_K_wakeSleepers_L2 (i_n + 1) i S0 = k_K_wakeSleepers_L2 i_n (i + 1) S103 := by
            replace eS103 := eS103.symm
            subst eS103
            exact ((if_pos c102).trans ((if_neg c104).trans rfl))
          rw [hE]
          exact ih (i + 1) S103 (by omega) _ _ _ (lv_sub hl [2, 0] rfl) hP hS
        · skip
          refine lv_aload_n hx hb d_K_wakeSleepers_39 rfl (lv_at hl 0 rfl) ?_
          refine lv_iconst (v := 1) hx hb d_K_wakeSleepers_40 (by decide) ?_
          refine wl_put X hP hS (i := (71 + 3 * i)) (by omega) (kw_cT (by omega)) rfl i_T ft_T ft_T_ok fn_T 2 (by decide) lf_K_85 rfl rfl rfl (Nat.le_of_ble_eq_true rfl) d_K_wakeSleepers_41 (kw_pT_state (by omega)) (fun H locs hP hS => ?_)
          obtain ⟨S105, eS105⟩ : ∃ z, z = kw_si S103 7 i 0 (1 : Int32) := ⟨_, rfl⟩
          rw [← eS105] at hP
          refine lv_iinc (v := nI (i + 1)) (lv' := [(1, .int (nI (i + 1))), (2, .ref (ad (71 + 3 * i))), (0, .ref (ad 0))]) hx hb d_K_wakeSleepers_44 hl (k := 2) rfl (nI_1 _) (by decide) rfl (fun ls hl => ?_)
          refine lv_goto (tgt := 2) hx hb d_K_wakeSleepers_47 (by decide) ?_
          have hE : k_K_wakeSleepers_L2 (i_n + 1) i S0 = k_K_wakeSleepers_L2 i_n (i + 1) S105 := by
            replace eS105 := eS105.symm
            subst eS105
            replace eS103 := eS103.symm
            subst eS103
            exact ((if_pos c102).trans ((if_pos c104).trans rfl))
          rw [hE]
          exact ih (i + 1) S105 (by omega) _ _ _ (lv_sub hl [2, 0] rfl) hP hS
def k_K_wakeSleepers (S0 : kw_S) : kw_S :=
  k_K_wakeSleepers_L2 4 0 S0
set_option maxHeartbeats 4000000 in
set_option maxRecDepth 100000 in
theorem c_K_wakeSleepers {l : Launch} {D : va_G} {cI cT cS : ClassId} {ad : Nat → Nat} (hinj : wl_inj 83 ad) (S0 : kw_S)  : wl_Mv l y_K_wakeSleepers (Cond.code y_K_wakeSleepers b_K_wakeSleepers 3 none :: TT) (rm_ 0) D classes (kw_ty cI cT cS) 83 ad [.ref (ad 0)] (kw_C cI cT cS ad S0)  (kw_C cI cT cS ad (k_K_wakeSleepers S0)) := by
  intro sz
  refine wl_enter (own := R_K) rfl (by decide) (Nat.le_of_ble_eq_true rfl) hinj (fun p_ e_ s_ m_ below meth c_ ls hsz X hml hr hlocks hl hP hS => ?_)
  have hx := X.1
  have hb := X.2.1
  have hA : ∀ q, s_.heap.size ≤ q → (wl_A 83 ad s_.heap.size) q := fun q h => Or.inr h
  have hl : lv_has ls 3 [(0, .ref (ad 0))] := hl
  refine lv_iconst (v := 0) hx hb d_K_wakeSleepers_0 (by decide) ?_
  refine lv_istore_n (lv' := [(1, .int (0 : Int32)), (0, .ref (ad 0))]) hx hb d_K_wakeSleepers_1 rfl hl (by decide) rfl (fun ls hl => ?_)
  have hE : k_K_wakeSleepers S0 = k_K_wakeSleepers_L2 4 0 S0 := by
    exact rfl
  rw [hE]
  exact c_K_wakeSleepers_L2 hinj X hsz hml hr hlocks 4 0 S0 (by omega) _ _ _ (lv_sub hl [1, 0] rfl) hP hS
def k_E_tell (S0 : kw_S) (self : Nat) (w : Int32) : Int32 :=
  if w = (0 : Int32) then
    if (kw_fr (S0.2 10 self 0)) = (-2 : Int32) then
      (2 : Int32)
    else
      (1 : Int32)
  else
    if w = (1 : Int32) then
      kw_fr (S0.2 10 self 0)
    else
      if w = (2 : Int32) then
        kw_sl (S0.2 10 self 1)
      else
        if w = (3 : Int32) then
          if (S0.1 10 self 1) = 0 then
            (0 : Int32)
          else
            (1 : Int32)
        else
          if w = (4 : Int32) then
            if (S0.1 10 self 2) = 0 then
              (0 : Int32)
            else
              (1 : Int32)
          else
            S0.1 10 self 0
set_option maxHeartbeats 4000000 in
set_option maxRecDepth 100000 in
theorem c_E_tell {l : Launch} {D : va_G} {cI cT cS : ClassId} {ad : Nat → Nat} (hinj : wl_inj 83 ad) (S0 : kw_S) (self : Nat) (h_self : self < 32) (w : Int32) : wl_Mi l y_E_tell (Cond.code y_E_tell b_E_tell 2 (some .int) :: TT) (rm_ 0) D classes (kw_ty cI cT cS) 83 ad [.ref (ad (6 + 2 * self)), .int w] (kw_C cI cT cS ad S0) (k_E_tell S0 self w) (kw_C cI cT cS ad S0) := by
  intro sz
  refine wl_enter (own := R_E) rfl (by decide) (Nat.le_of_ble_eq_true rfl) hinj (fun p_ e_ s_ m_ below meth c_ ls hsz X hml hr hlocks hl hP hS => ?_)
  have hx := X.1
  have hb := X.2.1
  have hA : ∀ q, s_.heap.size ≤ q → (wl_A 83 ad s_.heap.size) q := fun q h => Or.inr h
  have hl : lv_has ls 2 [(0, .ref (ad (6 + 2 * self))), (1, .int w)] := hl
  refine lv_iload_n hx hb d_E_tell_0 rfl (lv_at hl 1 rfl) ?_
  by_cases c1 : w = (0 : Int32)
  · refine wl_top c1 ?_
    refine lv_tableIn (tgt := 36) hx hb d_E_tell_1 (by decide) (by decide) rfl (by decide) ?_
    refine lv_aload_n hx hb d_E_tell_36 rfl (lv_at hl 0 rfl) ?_
    refine wl_get (v := .int (kw_fr (S0.2 10 self 0))) X hP (i := (6 + 2 * self)) (by omega) (kw_cE (by omega)) rfl i_E 2 (by decide) lf_E_15 rfl d_E_tell_37 ?_
    refine lv_bipush (v := -2) hx hb d_E_tell_40 (by decide) ?_
    refine lv_icmp_ne (tgt := 49) hx hb d_E_tell_42 (by decide) (fun c2 => ?_) (fun c2 => ?_)
    · skip
      refine lv_iconst (v := 1) hx hb d_E_tell_49 (by decide) ?_
      have hE : k_E_tell S0 self w = (1 : Int32) := by
        exact ((if_pos c1).trans ((if_neg c2).trans rfl))
      rw [hE]
      exact wl_iret X hsz hr hlocks hP hS d_E_tell_50
    · skip
      refine lv_iconst (v := 2) hx hb d_E_tell_45 (by decide) ?_
      refine lv_goto (tgt := 50) hx hb d_E_tell_46 (by decide) ?_
      have hE : k_E_tell S0 self w = (2 : Int32) := by
        exact ((if_pos c1).trans ((if_pos c2).trans rfl))
      rw [hE]
      exact wl_iret X hsz hr hlocks hP hS d_E_tell_50
  by_cases c3 : w = (1 : Int32)
  · refine wl_top c3 ?_
    refine lv_tableIn (tgt := 51) hx hb d_E_tell_1 (by decide) (by decide) rfl (by decide) ?_
    refine lv_aload_n hx hb d_E_tell_51 rfl (lv_at hl 0 rfl) ?_
    refine wl_get (v := .int (kw_fr (S0.2 10 self 0))) X hP (i := (6 + 2 * self)) (by omega) (kw_cE (by omega)) rfl i_E 2 (by decide) lf_E_15 rfl d_E_tell_52 ?_
    have hE : k_E_tell S0 self w = kw_fr (S0.2 10 self 0) := by
      exact ((if_neg c1).trans ((if_pos c3).trans rfl))
    rw [hE]
    exact wl_iret X hsz hr hlocks hP hS d_E_tell_55
  by_cases c4 : w = (2 : Int32)
  · refine wl_top c4 ?_
    refine lv_tableIn (tgt := 56) hx hb d_E_tell_1 (by decide) (by decide) rfl (by decide) ?_
    refine lv_aload_n hx hb d_E_tell_56 rfl (lv_at hl 0 rfl) ?_
    refine wl_get (v := .int (kw_sl (S0.2 10 self 1))) X hP (i := (6 + 2 * self)) (by omega) (kw_cE (by omega)) rfl i_E 3 (by decide) lf_E_19 rfl d_E_tell_57 ?_
    have hE : k_E_tell S0 self w = kw_sl (S0.2 10 self 1) := by
      exact ((if_neg c1).trans ((if_neg c3).trans ((if_pos c4).trans rfl)))
    rw [hE]
    exact wl_iret X hsz hr hlocks hP hS d_E_tell_60
  by_cases c5 : w = (3 : Int32)
  · refine wl_top c5 ?_
    refine lv_tableIn (tgt := 61) hx hb d_E_tell_1 (by decide) (by decide) rfl (by decide) ?_
    refine lv_aload_n hx hb d_E_tell_61 rfl (lv_at hl 0 rfl) ?_
    refine wl_get (v := .int (S0.1 10 self 1)) X hP (i := (6 + 2 * self)) (by omega) (kw_cE (by omega)) rfl i_E 4 (by decide) lf_E_22 rfl d_E_tell_62 ?_
    refine lv_if_eq (tgt := 72) hx hb d_E_tell_65 (by decide) (fun c6 => ?_) (fun c6 => ?_)
    · skip
      refine lv_iconst (v := 0) hx hb d_E_tell_72 (by decide) ?_
      have hE : k_E_tell S0 self w = (0 : Int32) := by
        exact ((if_neg c1).trans ((if_neg c3).trans ((if_neg c4).trans ((if_pos c5).trans ((if_pos c6).trans rfl)))))
      rw [hE]
      exact wl_iret X hsz hr hlocks hP hS d_E_tell_73
    · skip
      refine lv_iconst (v := 1) hx hb d_E_tell_68 (by decide) ?_
      refine lv_goto (tgt := 73) hx hb d_E_tell_69 (by decide) ?_
      have hE : k_E_tell S0 self w = (1 : Int32) := by
        exact ((if_neg c1).trans ((if_neg c3).trans ((if_neg c4).trans ((if_pos c5).trans ((if_neg c6).trans rfl)))))
      rw [hE]
      exact wl_iret X hsz hr hlocks hP hS d_E_tell_73
  by_cases c7 : w = (4 : Int32)
  · refine wl_top c7 ?_
    refine lv_tableIn (tgt := 74) hx hb d_E_tell_1 (by decide) (by decide) rfl (by decide) ?_
    refine lv_aload_n hx hb d_E_tell_74 rfl (lv_at hl 0 rfl) ?_
    refine wl_get (v := .int (S0.1 10 self 2)) X hP (i := (6 + 2 * self)) (by omega) (kw_cE (by omega)) rfl i_E 5 (by decide) lf_E_26 rfl d_E_tell_75 ?_
    refine lv_if_eq (tgt := 85) hx hb d_E_tell_78 (by decide) (fun c8 => ?_) (fun c8 => ?_)
    · skip
      refine lv_iconst (v := 0) hx hb d_E_tell_85 (by decide) ?_
      have hE : k_E_tell S0 self w = (0 : Int32) := by
        exact ((if_neg c1).trans ((if_neg c3).trans ((if_neg c4).trans ((if_neg c5).trans ((if_pos c7).trans ((if_pos c8).trans rfl))))))
      rw [hE]
      exact wl_iret X hsz hr hlocks hP hS d_E_tell_86
    · skip
      refine lv_iconst (v := 1) hx hb d_E_tell_81 (by decide) ?_
      refine lv_goto (tgt := 86) hx hb d_E_tell_82 (by decide) ?_
      have hE : k_E_tell S0 self w = (1 : Int32) := by
        exact ((if_neg c1).trans ((if_neg c3).trans ((if_neg c4).trans ((if_neg c5).trans ((if_pos c7).trans ((if_neg c8).trans rfl))))))
      rw [hE]
      exact wl_iret X hsz hr hlocks hP hS d_E_tell_86
  refine lv_tableOut (tgt := 87) hx hb d_E_tell_1 (by have := lv_neT c1 (a := 0) rfl; have := lv_neT c3 (a := 1) rfl; have := lv_neT c4 (a := 2) rfl; have := lv_neT c5 (a := 3) rfl; have := lv_neT c7 (a := 4) rfl; omega) (by decide) ?_
  refine lv_aload_n hx hb d_E_tell_87 rfl (lv_at hl 0 rfl) ?_
  refine wl_get (v := .int (S0.1 10 self 0)) X hP (i := (6 + 2 * self)) (by omega) (kw_cE (by omega)) rfl i_E 1 (by decide) lf_E_29 rfl d_E_tell_88 ?_
  have hE : k_E_tell S0 self w = S0.1 10 self 0 := by
    exact ((if_neg c1).trans ((if_neg c3).trans ((if_neg c4).trans ((if_neg c5).trans ((if_neg c7).trans rfl)))))
  rw [hE]
  exact wl_iret X hsz hr hlocks hP hS d_E_tell_91
def k_T_tell (S0 : kw_S) (self : Nat) (w : Int32) : Int32 :=
  if w = (0 : Int32) then
    S0.1 7 self 0
  else
    if w = (1 : Int32) then
      S0.1 7 self 1
    else
      if w = (2 : Int32) then
        kw_pa (S0.2 7 self 0)
      else
        if w = (3 : Int32) then
          S0.1 7 self 2
        else
          if w = (4 : Int32) then
            if (S0.1 7 self 0) = (2 : Int32) then
              S0.1 7 self 3
            else
              (0 : Int32)
          else
            if w = (5 : Int32) then
              S0.1 7 self 4
            else
              S0.1 7 self 5
set_option maxHeartbeats 4000000 in
set_option maxRecDepth 100000 in
theorem c_T_tell {l : Launch} {D : va_G} {cI cT cS : ClassId} {ad : Nat → Nat} (hinj : wl_inj 83 ad) (S0 : kw_S) (self : Nat) (h_self : self < 4) (w : Int32) : wl_Mi l y_T_tell (Cond.code y_T_tell b_T_tell 2 (some .int) :: TT) (rm_ 0) D classes (kw_ty cI cT cS) 83 ad [.ref (ad (71 + 3 * self)), .int w] (kw_C cI cT cS ad S0) (k_T_tell S0 self w) (kw_C cI cT cS ad S0) := by
  intro sz
  refine wl_enter (own := R_T) rfl (by decide) (Nat.le_of_ble_eq_true rfl) hinj (fun p_ e_ s_ m_ below meth c_ ls hsz X hml hr hlocks hl hP hS => ?_)
  have hx := X.1
  have hb := X.2.1
  have hA : ∀ q, s_.heap.size ≤ q → (wl_A 83 ad s_.heap.size) q := fun q h => Or.inr h
  have hl : lv_has ls 2 [(0, .ref (ad (71 + 3 * self))), (1, .int w)] := hl
  refine lv_iload_n hx hb d_T_tell_0 rfl (lv_at hl 1 rfl) ?_
  by_cases c1 : w = (0 : Int32)
  · refine wl_top c1 ?_
    refine lv_tableIn (tgt := 40) hx hb d_T_tell_1 (by decide) (by decide) rfl (by decide) ?_
    refine lv_aload_n hx hb d_T_tell_40 rfl (lv_at hl 0 rfl) ?_
    refine wl_get (v := .int (S0.1 7 self 0)) X hP (i := (71 + 3 * self)) (by omega) (kw_cT (by omega)) rfl i_T 2 (by decide) lf_T_21 rfl d_T_tell_41 ?_
    have hE : k_T_tell S0 self w = S0.1 7 self 0 := by
      exact ((if_pos c1).trans rfl)
    rw [hE]
    exact wl_iret X hsz hr hlocks hP hS d_T_tell_44
  by_cases c2 : w = (1 : Int32)
  · refine wl_top c2 ?_
    refine lv_tableIn (tgt := 45) hx hb d_T_tell_1 (by decide) (by decide) rfl (by decide) ?_
    refine lv_aload_n hx hb d_T_tell_45 rfl (lv_at hl 0 rfl) ?_
    refine wl_get (v := .int (S0.1 7 self 1)) X hP (i := (71 + 3 * self)) (by omega) (kw_cT (by omega)) rfl i_T 3 (by decide) lf_T_34 rfl d_T_tell_46 ?_
    have hE : k_T_tell S0 self w = S0.1 7 self 1 := by
      exact ((if_neg c1).trans ((if_pos c2).trans rfl))
    rw [hE]
    exact wl_iret X hsz hr hlocks hP hS d_T_tell_49
  by_cases c3 : w = (2 : Int32)
  · refine wl_top c3 ?_
    refine lv_tableIn (tgt := 50) hx hb d_T_tell_1 (by decide) (by decide) rfl (by decide) ?_
    refine lv_aload_n hx hb d_T_tell_50 rfl (lv_at hl 0 rfl) ?_
    refine wl_get (v := .int (kw_pa (S0.2 7 self 0))) X hP (i := (71 + 3 * self)) (by omega) (kw_cT (by omega)) rfl i_T 4 (by decide) lf_T_25 rfl d_T_tell_51 ?_
    have hE : k_T_tell S0 self w = kw_pa (S0.2 7 self 0) := by
      exact ((if_neg c1).trans ((if_neg c2).trans ((if_pos c3).trans rfl)))
    rw [hE]
    exact wl_iret X hsz hr hlocks hP hS d_T_tell_54
  by_cases c4 : w = (3 : Int32)
  · refine wl_top c4 ?_
    refine lv_tableIn (tgt := 55) hx hb d_T_tell_1 (by decide) (by decide) rfl (by decide) ?_
    refine lv_aload_n hx hb d_T_tell_55 rfl (lv_at hl 0 rfl) ?_
    refine wl_get (v := .int (S0.1 7 self 2)) X hP (i := (71 + 3 * self)) (by omega) (kw_cT (by omega)) rfl i_T 5 (by decide) lf_T_37 rfl d_T_tell_56 ?_
    have hE : k_T_tell S0 self w = S0.1 7 self 2 := by
      exact ((if_neg c1).trans ((if_neg c2).trans ((if_neg c3).trans ((if_pos c4).trans rfl))))
    rw [hE]
    exact wl_iret X hsz hr hlocks hP hS d_T_tell_59
  by_cases c5 : w = (4 : Int32)
  · refine wl_top c5 ?_
    refine lv_tableIn (tgt := 60) hx hb d_T_tell_1 (by decide) (by decide) rfl (by decide) ?_
    refine lv_aload_n hx hb d_T_tell_60 rfl (lv_at hl 0 rfl) ?_
    refine wl_get (v := .int (S0.1 7 self 0)) X hP (i := (71 + 3 * self)) (by omega) (kw_cT (by omega)) rfl i_T 2 (by decide) lf_T_21 rfl d_T_tell_61 ?_
    refine lv_iconst (v := 2) hx hb d_T_tell_64 (by decide) ?_
    refine lv_icmp_ne (tgt := 75) hx hb d_T_tell_65 (by decide) (fun c6 => ?_) (fun c6 => ?_)
    · skip
      refine lv_iconst (v := 0) hx hb d_T_tell_75 (by decide) ?_
      have hE : k_T_tell S0 self w = (0 : Int32) := by
        exact ((if_neg c1).trans ((if_neg c2).trans ((if_neg c3).trans ((if_neg c4).trans ((if_pos c5).trans ((if_neg c6).trans rfl))))))
      rw [hE]
      exact wl_iret X hsz hr hlocks hP hS d_T_tell_76
    · skip
      refine lv_aload_n hx hb d_T_tell_68 rfl (lv_at hl 0 rfl) ?_
      refine wl_get (v := .int (S0.1 7 self 3)) X hP (i := (71 + 3 * self)) (by omega) (kw_cT (by omega)) rfl i_T 6 (by decide) lf_T_40 rfl d_T_tell_69 ?_
      refine lv_goto (tgt := 76) hx hb d_T_tell_72 (by decide) ?_
      have hE : k_T_tell S0 self w = S0.1 7 self 3 := by
        exact ((if_neg c1).trans ((if_neg c2).trans ((if_neg c3).trans ((if_neg c4).trans ((if_pos c5).trans ((if_pos c6).trans rfl))))))
      rw [hE]
      exact wl_iret X hsz hr hlocks hP hS d_T_tell_76
  by_cases c7 : w = (5 : Int32)
  · refine wl_top c7 ?_
    refine lv_tableIn (tgt := 77) hx hb d_T_tell_1 (by decide) (by decide) rfl (by decide) ?_
    refine lv_aload_n hx hb d_T_tell_77 rfl (lv_at hl 0 rfl) ?_
    refine wl_get (v := .int (S0.1 7 self 4)) X hP (i := (71 + 3 * self)) (by omega) (kw_cT (by omega)) rfl i_T 7 (by decide) lf_T_43 rfl d_T_tell_78 ?_
    have hE : k_T_tell S0 self w = S0.1 7 self 4 := by
      exact ((if_neg c1).trans ((if_neg c2).trans ((if_neg c3).trans ((if_neg c4).trans ((if_neg c5).trans ((if_pos c7).trans rfl))))))
    rw [hE]
    exact wl_iret X hsz hr hlocks hP hS d_T_tell_81
  refine lv_tableOut (tgt := 82) hx hb d_T_tell_1 (by have := lv_neT c1 (a := 0) rfl; have := lv_neT c2 (a := 1) rfl; have := lv_neT c3 (a := 2) rfl; have := lv_neT c4 (a := 3) rfl; have := lv_neT c5 (a := 4) rfl; have := lv_neT c7 (a := 5) rfl; omega) (by decide) ?_
  refine lv_aload_n hx hb d_T_tell_82 rfl (lv_at hl 0 rfl) ?_
  refine wl_get (v := .int (S0.1 7 self 5)) X hP (i := (71 + 3 * self)) (by omega) (kw_cT (by omega)) rfl i_T 8 (by decide) lf_T_46 rfl d_T_tell_83 ?_
  have hE : k_T_tell S0 self w = S0.1 7 self 5 := by
    exact ((if_neg c1).trans ((if_neg c2).trans ((if_neg c3).trans ((if_neg c4).trans ((if_neg c5).trans ((if_neg c7).trans rfl))))))
  rw [hE]
  exact wl_iret X hsz hr hlocks hP hS d_T_tell_86
def k_J_fill_AR_L5 : Nat → Nat → Nat → Int32 → kw_S → kw_S
  | 0, i, q, v, S0 =>
    S0
  | i_n + 1, i, q, v, S0 =>
    let S102 := kw_si S0 8 q i v
    k_J_fill_AR_L5 i_n (i + 1) q v S102
set_option maxHeartbeats 4000000 in
set_option maxRecDepth 100000 in
theorem c_J_fill_AR_L5 {l : Launch} {D : va_G} {cI cT cS : ClassId} {ad : Nat → Nat} {p_ : Program} {e_ : Env} {s_ : State} {m_ : MethodId} {args : Array Value} {below : List Frame} {meth : Method} {c_ : Code} {sz : Nat} (hinj : wl_inj 83 ad) (X : wl_X p_ s_ m_ args c_ b_J_fill R_J TT D classes (kw_ty cI cT cS) 83 ad (wl_A 83 ad s_.heap.size)) (hsz : s_.heap.size = sz) (hml : c_.maxLocals = 4) (hr : meth.sig.returnType = none) (hlocks : meth.locks = false) :
    ∀ (i_n i : Nat) (q : Nat) (h_q : q < 4) (v : Int32) (S0 : kw_S) (h_i : i + i_n = 4) (H : Heap) (locs : List Loc) (ls : Array Slot), lv_has ls 4 [(0, .ref (ad (72 + 3 * q))), (1, .int v), (2, .int (nI i)), (3, .int (nI 4))] → va_P D classes (wl_W 83 ad (kw_C cI cT cS ad S0)) H → va_S (wl_A 83 ad s_.heap.size) s_.heap H locs → W p_ l e_ (rm_ 0) s_ m_ args below meth c_ H locs 0 0 (MQ below (wl_Qv D classes (kw_ty cI cT cS) 83 ad (kw_C cI cT cS ad (k_J_fill_AR_L5 i_n i q v S0)) sz) args s_ 0 0 (wl_A 83 ad sz)) (F0 m_ 5 ls []) := by
  have hx := X.1
  have hb := X.2.1
  have hA : ∀ q, s_.heap.size ≤ q → (wl_A 83 ad s_.heap.size) q := fun q h => Or.inr h
  intro i_n
  induction i_n with
  | zero =>
    intro i q h_q v S0 h_i H locs ls hl hP hS
    refine lv_iload_n hx hb d_J_fill_5 rfl (lv_at hl 2 rfl) ?_
    refine lv_iload_n hx hb d_J_fill_6 rfl (lv_at hl 3 rfl) ?_
    refine lv_icmp_ge (tgt := 20) hx hb d_J_fill_7 (by decide) (fun c1 => ?_) (fun c1 => ?_)
    · skip
      have hE : k_J_fill_AR_L5 0 i q v S0 = S0 := by
        exact rfl
      rw [hE]
      exact wl_vret X hsz hr hlocks hP hS d_J_fill_20
    · exact absurd (sk_lhz h_i) c1
  | succ i_n ih =>
    intro i q h_q v S0 h_i H locs ls hl hP hS
    refine lv_iload_n hx hb d_J_fill_5 rfl (lv_at hl 2 rfl) ?_
    refine lv_iload_n hx hb d_J_fill_6 rfl (lv_at hl 3 rfl) ?_
    refine lv_icmp_ge (tgt := 20) hx hb d_J_fill_7 (by decide) (fun c101 => ?_) (fun c101 => ?_)
    · exact absurd c101 (sk_lhs h_i)
    · skip
      refine lv_aload_n hx hb d_J_fill_10 rfl (lv_at hl 0 rfl) ?_
      refine lv_iload_n hx hb d_J_fill_11 rfl (lv_at hl 2 rfl) ?_
      refine lv_iload_n hx hb d_J_fill_12 rfl (lv_at hl 1 rfl) ?_
      refine wl_iast X hP hS (i := (72 + 3 * q)) (by omega) 0 (kw_cAR (by omega)) rfl (j := i) rfl (by omega) (by decide) d_J_fill_13 (kw_pAR (by omega)) (fun H locs hP hS => ?_)
      obtain ⟨S102, eS102⟩ : ∃ z, z = kw_si S0 8 q i v := ⟨_, rfl⟩
      rw [← eS102] at hP
      refine lv_iinc (v := nI (i + 1)) (lv' := [(2, .int (nI (i + 1))), (0, .ref (ad (72 + 3 * q))), (1, .int v), (3, .int (nI 4))]) hx hb d_J_fill_14 hl (k := 2) rfl (nI_1 _) (by decide) rfl (fun ls hl => ?_)
      refine lv_goto (tgt := 5) hx hb d_J_fill_17 (by decide) ?_
      have hE : k_J_fill_AR_L5 (i_n + 1) i q v S0 = k_J_fill_AR_L5 i_n (i + 1) q v S102 := by
        replace eS102 := eS102.symm
        subst eS102
        exact rfl
      rw [hE]
      exact ih (i + 1) q (by omega) v S102 (by omega) _ _ _ (lv_sub hl [1, 2, 0, 3] rfl) hP hS
def k_J_fill_AR (S0 : kw_S) (q : Nat) (v : Int32) : kw_S :=
  k_J_fill_AR_L5 4 0 q v S0
set_option maxHeartbeats 4000000 in
set_option maxRecDepth 100000 in
theorem c_J_fill_AR {l : Launch} {D : va_G} {cI cT cS : ClassId} {ad : Nat → Nat} (hinj : wl_inj 83 ad) (S0 : kw_S) (q : Nat) (h_q : q < 4) (v : Int32) : wl_Mv l y_J_fill (Cond.code y_J_fill b_J_fill 4 none :: TT) (rm_ 0) D classes (kw_ty cI cT cS) 83 ad [.ref (ad (72 + 3 * q)), .int v] (kw_C cI cT cS ad S0)  (kw_C cI cT cS ad (k_J_fill_AR S0 q v)) := by
  intro sz
  refine wl_enter (own := R_J) rfl (by decide) (Nat.le_of_ble_eq_true rfl) hinj (fun p_ e_ s_ m_ below meth c_ ls hsz X hml hr hlocks hl hP hS => ?_)
  have hx := X.1
  have hb := X.2.1
  have hA : ∀ q, s_.heap.size ≤ q → (wl_A 83 ad s_.heap.size) q := fun q h => Or.inr h
  have hl : lv_has ls 4 [(0, .ref (ad (72 + 3 * q))), (1, .int v)] := hl
  refine lv_iconst (v := 0) hx hb d_J_fill_0 (by decide) ?_
  refine lv_istore_n (lv' := [(2, .int (0 : Int32)), (0, .ref (ad (72 + 3 * q))), (1, .int v)]) hx hb d_J_fill_1 rfl hl (by decide) rfl (fun ls hl => ?_)
  refine lv_aload_n hx hb d_J_fill_2 rfl (lv_at hl 1 rfl) ?_
  refine wl_alen X hP (i := (72 + 3 * q)) (by omega) 0 (kw_cAR (by omega)) rfl d_J_fill_3 ?_
  refine wl_top (y := nI 4) rfl ?_
  refine lv_istore_n (lv' := [(3, .int (nI 4)), (2, .int (0 : Int32)), (0, .ref (ad (72 + 3 * q))), (1, .int v)]) hx hb d_J_fill_4 rfl hl (by decide) rfl (fun ls hl => ?_)
  have hE : k_J_fill_AR S0 q v = k_J_fill_AR_L5 4 0 q v S0 := by
    exact rfl
  rw [hE]
  exact c_J_fill_AR_L5 hinj X hsz hml hr hlocks 4 0 q (by omega) v S0 (by omega) _ _ _ (lv_sub hl [2, 3, 1, 0] rfl) hP hS
def k_J_fill_AW_L5 : Nat → Nat → Nat → Int32 → kw_S → kw_S
  | 0, i, q, v, S0 =>
    S0
  | i_n + 1, i, q, v, S0 =>
    let S102 := kw_si S0 11 q i v
    k_J_fill_AW_L5 i_n (i + 1) q v S102
set_option maxHeartbeats 4000000 in
set_option maxRecDepth 100000 in
theorem c_J_fill_AW_L5 {l : Launch} {D : va_G} {cI cT cS : ClassId} {ad : Nat → Nat} {p_ : Program} {e_ : Env} {s_ : State} {m_ : MethodId} {args : Array Value} {below : List Frame} {meth : Method} {c_ : Code} {sz : Nat} (hinj : wl_inj 83 ad) (X : wl_X p_ s_ m_ args c_ b_J_fill R_J TT D classes (kw_ty cI cT cS) 83 ad (wl_A 83 ad s_.heap.size)) (hsz : s_.heap.size = sz) (hml : c_.maxLocals = 4) (hr : meth.sig.returnType = none) (hlocks : meth.locks = false) :
    ∀ (i_n i : Nat) (q : Nat) (h_q : q < 32) (v : Int32) (S0 : kw_S) (h_i : i + i_n = 8) (H : Heap) (locs : List Loc) (ls : Array Slot), lv_has ls 4 [(0, .ref (ad (7 + 2 * q))), (1, .int v), (2, .int (nI i)), (3, .int (nI 8))] → va_P D classes (wl_W 83 ad (kw_C cI cT cS ad S0)) H → va_S (wl_A 83 ad s_.heap.size) s_.heap H locs → W p_ l e_ (rm_ 0) s_ m_ args below meth c_ H locs 0 0 (MQ below (wl_Qv D classes (kw_ty cI cT cS) 83 ad (kw_C cI cT cS ad (k_J_fill_AW_L5 i_n i q v S0)) sz) args s_ 0 0 (wl_A 83 ad sz)) (F0 m_ 5 ls []) := by
  have hx := X.1
  have hb := X.2.1
  have hA : ∀ q, s_.heap.size ≤ q → (wl_A 83 ad s_.heap.size) q := fun q h => Or.inr h
  intro i_n
  induction i_n with
  | zero =>
    intro i q h_q v S0 h_i H locs ls hl hP hS
    refine lv_iload_n hx hb d_J_fill_5 rfl (lv_at hl 2 rfl) ?_
    refine lv_iload_n hx hb d_J_fill_6 rfl (lv_at hl 3 rfl) ?_
    refine lv_icmp_ge (tgt := 20) hx hb d_J_fill_7 (by decide) (fun c1 => ?_) (fun c1 => ?_)
    · skip
      have hE : k_J_fill_AW_L5 0 i q v S0 = S0 := by
        exact rfl
      rw [hE]
      exact wl_vret X hsz hr hlocks hP hS d_J_fill_20
    · exact absurd (sk_lhz h_i) c1
  | succ i_n ih =>
    intro i q h_q v S0 h_i H locs ls hl hP hS
    refine lv_iload_n hx hb d_J_fill_5 rfl (lv_at hl 2 rfl) ?_
    refine lv_iload_n hx hb d_J_fill_6 rfl (lv_at hl 3 rfl) ?_
    refine lv_icmp_ge (tgt := 20) hx hb d_J_fill_7 (by decide) (fun c101 => ?_) (fun c101 => ?_)
    · exact absurd c101 (sk_lhs h_i)
    · skip
      refine lv_aload_n hx hb d_J_fill_10 rfl (lv_at hl 0 rfl) ?_
      refine lv_iload_n hx hb d_J_fill_11 rfl (lv_at hl 2 rfl) ?_
      refine lv_iload_n hx hb d_J_fill_12 rfl (lv_at hl 1 rfl) ?_
      refine wl_iast X hP hS (i := (7 + 2 * q)) (by omega) 0 (kw_cAW (by omega)) rfl (j := i) rfl (by omega) (by decide) d_J_fill_13 (kw_pAW (by omega)) (fun H locs hP hS => ?_)
      obtain ⟨S102, eS102⟩ : ∃ z, z = kw_si S0 11 q i v := ⟨_, rfl⟩
      rw [← eS102] at hP
      refine lv_iinc (v := nI (i + 1)) (lv' := [(2, .int (nI (i + 1))), (0, .ref (ad (7 + 2 * q))), (1, .int v), (3, .int (nI 8))]) hx hb d_J_fill_14 hl (k := 2) rfl (nI_1 _) (by decide) rfl (fun ls hl => ?_)
      refine lv_goto (tgt := 5) hx hb d_J_fill_17 (by decide) ?_
      have hE : k_J_fill_AW_L5 (i_n + 1) i q v S0 = k_J_fill_AW_L5 i_n (i + 1) q v S102 := by
        replace eS102 := eS102.symm
        subst eS102
        exact rfl
      rw [hE]
      exact ih (i + 1) q (by omega) v S102 (by omega) _ _ _ (lv_sub hl [1, 2, 0, 3] rfl) hP hS
def k_J_fill_AW (S0 : kw_S) (q : Nat) (v : Int32) : kw_S :=
  k_J_fill_AW_L5 8 0 q v S0
set_option maxHeartbeats 4000000 in
set_option maxRecDepth 100000 in
theorem c_J_fill_AW {l : Launch} {D : va_G} {cI cT cS : ClassId} {ad : Nat → Nat} (hinj : wl_inj 83 ad) (S0 : kw_S) (q : Nat) (h_q : q < 32) (v : Int32) : wl_Mv l y_J_fill (Cond.code y_J_fill b_J_fill 4 none :: TT) (rm_ 0) D classes (kw_ty cI cT cS) 83 ad [.ref (ad (7 + 2 * q)), .int v] (kw_C cI cT cS ad S0)  (kw_C cI cT cS ad (k_J_fill_AW S0 q v)) := by
  intro sz
  refine wl_enter (own := R_J) rfl (by decide) (Nat.le_of_ble_eq_true rfl) hinj (fun p_ e_ s_ m_ below meth c_ ls hsz X hml hr hlocks hl hP hS => ?_)
  have hx := X.1
  have hb := X.2.1
  have hA : ∀ q, s_.heap.size ≤ q → (wl_A 83 ad s_.heap.size) q := fun q h => Or.inr h
  have hl : lv_has ls 4 [(0, .ref (ad (7 + 2 * q))), (1, .int v)] := hl
  refine lv_iconst (v := 0) hx hb d_J_fill_0 (by decide) ?_
  refine lv_istore_n (lv' := [(2, .int (0 : Int32)), (0, .ref (ad (7 + 2 * q))), (1, .int v)]) hx hb d_J_fill_1 rfl hl (by decide) rfl (fun ls hl => ?_)
  refine lv_aload_n hx hb d_J_fill_2 rfl (lv_at hl 1 rfl) ?_
  refine wl_alen X hP (i := (7 + 2 * q)) (by omega) 0 (kw_cAW (by omega)) rfl d_J_fill_3 ?_
  refine wl_top (y := nI 8) rfl ?_
  refine lv_istore_n (lv' := [(3, .int (nI 8)), (2, .int (0 : Int32)), (0, .ref (ad (7 + 2 * q))), (1, .int v)]) hx hb d_J_fill_4 rfl hl (by decide) rfl (fun ls hl => ?_)
  have hE : k_J_fill_AW S0 q v = k_J_fill_AW_L5 8 0 q v S0 := by
    exact rfl
  rw [hE]
  exact c_J_fill_AW_L5 hinj X hsz hml hr hlocks 8 0 q (by omega) v S0 (by omega) _ _ _ (lv_sub hl [2, 3, 1, 0] rfl) hP hS
def k_T_begin (S0 : kw_S) (self : Nat) (q : Nat) : kw_S :=
  let S1 := k_J_fill_AR S0 self (0 : Int32)
  let S2 := kw_si S1 7 self 0 (1 : Int32)
  let S3 := kw_si S2 7 self 1 (0 : Int32)
  let S4 := kw_sn S3 7 self 0 q
  let S5 := kw_si S4 7 self 2 (0 : Int32)
  let S6 := kw_si S5 7 self 3 (0 : Int32)
  let S7 := kw_si S6 7 self 4 (0 : Int32)
  let S8 := kw_si S7 7 self 5 (0 : Int32)
  S8
set_option maxHeartbeats 4000000 in
set_option maxRecDepth 100000 in
theorem c_T_begin {l : Launch} {D : va_G} {cI cT cS : ClassId} {ad : Nat → Nat} (hinj : wl_inj 83 ad) (S0 : kw_S) (self : Nat) (h_self : self < 4) (x_q : Int32) (q : Nat) (e_q : x_q = kw_pa q) : wl_Mv l y_T_begin (Cond.code y_T_begin b_T_begin 2 none :: TT) (rm_ 1) D classes (kw_ty cI cT cS) 83 ad [.ref (ad (71 + 3 * self)), .int x_q] (kw_C cI cT cS ad S0)  (kw_C cI cT cS ad (k_T_begin S0 self q)) := by
  subst e_q
  intro sz
  refine wl_enter (own := R_T) rfl (by decide) (Nat.le_of_ble_eq_true rfl) hinj (fun p_ e_ s_ m_ below meth c_ ls hsz X hml hr hlocks hl hP hS => ?_)
  have hx := X.1
  have hb := X.2.1
  have hA : ∀ q, s_.heap.size ≤ q → (wl_A 83 ad s_.heap.size) q := fun q h => Or.inr h
  have hl : lv_has ls 2 [(0, .ref (ad (71 + 3 * self))), (1, .int (kw_pa q))] := hl
  refine lv_aload_n hx hb d_T_begin_0 rfl (lv_at hl 0 rfl) ?_
  refine wl_get (v := .ref (ad (72 + 3 * self))) X hP (i := (71 + 3 * self)) (by omega) (kw_cT (by omega)) rfl i_T 0 (by decide) lf_T_9 rfl d_T_begin_1 ?_
  refine lv_iconst (v := 0) hx hb d_T_begin_4 (by decide) ?_
  refine wl_gov2 (cf := kw_C cI cT cS ad) (S2 := k_J_fill_AR S0 self (0 : Int32)) hS hA X.2.2.2.2.2.2 (wl_runS (As := [.ref (ad (72 + 3 * self)), .int (0 : Int32)]) (rest := []) X hml hl.1 hP g_TT (c_J_fill_AR hinj S0 self (by omega) (0 : Int32) _) wv_T_28 (na := 2) (by decide +kernel) rfl ⟨Nat.le_of_ble_eq_true rfl, Nat.le_of_ble_eq_true rfl⟩ rfl (Nat.le_of_ble_eq_true rfl) d_T_begin_5 ⟨Nat.le_refl _, Nat.le_refl _⟩) (fun S1 eS1 H locs hP hS => ?_)
  refine lv_aload_n hx hb d_T_begin_8 rfl (lv_at hl 0 rfl) ?_
  refine lv_iconst (v := 1) hx hb d_T_begin_9 (by decide) ?_
  refine wl_put X hP hS (i := (71 + 3 * self)) (by omega) (kw_cT (by omega)) rfl i_T ft_T ft_T_ok fn_T 2 (by decide) lf_T_21 rfl rfl rfl (Nat.le_of_ble_eq_true rfl) d_T_begin_10 (kw_pT_state (by omega)) (fun H locs hP hS => ?_)
  obtain ⟨S2, eS2⟩ : ∃ z, z = kw_si S1 7 self 0 (1 : Int32) := ⟨_, rfl⟩
  rw [← eS2] at hP
  refine lv_aload_n hx hb d_T_begin_13 rfl (lv_at hl 0 rfl) ?_
  refine lv_iconst (v := 0) hx hb d_T_begin_14 (by decide) ?_
  refine wl_put X hP hS (i := (71 + 3 * self)) (by omega) (kw_cT (by omega)) rfl i_T ft_T ft_T_ok fn_T 3 (by decide) lf_T_34 rfl rfl rfl (Nat.le_of_ble_eq_true rfl) d_T_begin_15 (kw_pT_place (by omega)) (fun H locs hP hS => ?_)
  obtain ⟨S3, eS3⟩ : ∃ z, z = kw_si S2 7 self 1 (0 : Int32) := ⟨_, rfl⟩
  rw [← eS3] at hP
  refine lv_aload_n hx hb d_T_begin_18 rfl (lv_at hl 0 rfl) ?_
  refine lv_iload_n hx hb d_T_begin_19 rfl (lv_at hl 1 rfl) ?_
  refine wl_put X hP hS (i := (71 + 3 * self)) (by omega) (kw_cT (by omega)) rfl i_T ft_T ft_T_ok fn_T 4 (by decide) lf_T_25 rfl rfl rfl (Nat.le_of_ble_eq_true rfl) d_T_begin_20 (kw_pT_parent (x := q) (by omega) rfl) (fun H locs hP hS => ?_)
  obtain ⟨S4, eS4⟩ : ∃ z, z = kw_sn S3 7 self 0 q := ⟨_, rfl⟩
  rw [← eS4] at hP
  refine lv_aload_n hx hb d_T_begin_23 rfl (lv_at hl 0 rfl) ?_
  refine lv_iconst (v := 0) hx hb d_T_begin_24 (by decide) ?_
  refine wl_put X hP hS (i := (71 + 3 * self)) (by omega) (kw_cT (by omega)) rfl i_T ft_T ft_T_ok fn_T 5 (by decide) lf_T_37 rfl rfl rfl (Nat.le_of_ble_eq_true rfl) d_T_begin_25 (kw_pT_code (by omega)) (fun H locs hP hS => ?_)
  obtain ⟨S5, eS5⟩ : ∃ z, z = kw_si S4 7 self 2 (0 : Int32) := ⟨_, rfl⟩
  rw [← eS5] at hP
  refine lv_aload_n hx hb d_T_begin_28 rfl (lv_at hl 0 rfl) ?_
  refine lv_iconst (v := 0) hx hb d_T_begin_29 (by decide) ?_
  refine wl_put X hP hS (i := (71 + 3 * self)) (by omega) (kw_cT (by omega)) rfl i_T ft_T ft_T_ok fn_T 6 (by decide) lf_T_40 rfl rfl rfl (Nat.le_of_ble_eq_true rfl) d_T_begin_30 (kw_pT_sleepLeft (by omega)) (fun H locs hP hS => ?_)
  obtain ⟨S6, eS6⟩ : ∃ z, z = kw_si S5 7 self 3 (0 : Int32) := ⟨_, rfl⟩
  rw [← eS6] at hP
  refine lv_aload_n hx hb d_T_begin_33 rfl (lv_at hl 0 rfl) ?_
  refine lv_iconst (v := 0) hx hb d_T_begin_34 (by decide) ?_
  refine wl_put X hP hS (i := (71 + 3 * self)) (by omega) (kw_cT (by omega)) rfl i_T ft_T ft_T_ok fn_T 7 (by decide) lf_T_43 rfl rfl rfl (Nat.le_of_ble_eq_true rfl) d_T_begin_35 (kw_pT_faults (by omega)) (fun H locs hP hS => ?_)
  obtain ⟨S7, eS7⟩ : ∃ z, z = kw_si S6 7 self 4 (0 : Int32) := ⟨_, rfl⟩
  rw [← eS7] at hP
  refine lv_aload_n hx hb d_T_begin_38 rfl (lv_at hl 0 rfl) ?_
  refine lv_iconst (v := 0) hx hb d_T_begin_39 (by decide) ?_
  refine wl_put X hP hS (i := (71 + 3 * self)) (by omega) (kw_cT (by omega)) rfl i_T ft_T ft_T_ok fn_T 8 (by decide) lf_T_46 rfl rfl rfl (Nat.le_of_ble_eq_true rfl) d_T_begin_40 (kw_pT_begun (by omega)) (fun H locs hP hS => ?_)
  obtain ⟨S8, eS8⟩ : ∃ z, z = kw_si S7 7 self 5 (0 : Int32) := ⟨_, rfl⟩
  rw [← eS8] at hP
  have hE : k_T_begin S0 self q = S8 := by
    replace eS8 := eS8.symm
    subst eS8
    replace eS7 := eS7.symm
    subst eS7
    replace eS6 := eS6.symm
    subst eS6
    replace eS5 := eS5.symm
    subst eS5
    replace eS4 := eS4.symm
    subst eS4
    replace eS3 := eS3.symm
    subst eS3
    replace eS2 := eS2.symm
    subst eS2
    replace eS1 := eS1.symm
    subst eS1
    exact rfl
  rw [hE]
  exact wl_vret X hsz hr hlocks hP hS d_T_begin_43
def k_T_leave (S0 : kw_S) (self : Nat) : kw_S :=
  let S1 := kw_si S0 7 self 0 (0 : Int32)
  let S2 := kw_sn S1 7 self 0 4
  S2
set_option maxHeartbeats 4000000 in
set_option maxRecDepth 100000 in
theorem c_T_leave {l : Launch} {D : va_G} {cI cT cS : ClassId} {ad : Nat → Nat} (hinj : wl_inj 83 ad) (S0 : kw_S) (self : Nat) (h_self : self < 4) : wl_Mv l y_T_leave (Cond.code y_T_leave b_T_leave 1 none :: TT) (rm_ 0) D classes (kw_ty cI cT cS) 83 ad [.ref (ad (71 + 3 * self))] (kw_C cI cT cS ad S0)  (kw_C cI cT cS ad (k_T_leave S0 self)) := by
  intro sz
  refine wl_enter (own := R_T) rfl (by decide) (Nat.le_of_ble_eq_true rfl) hinj (fun p_ e_ s_ m_ below meth c_ ls hsz X hml hr hlocks hl hP hS => ?_)
  have hx := X.1
  have hb := X.2.1
  have hA : ∀ q, s_.heap.size ≤ q → (wl_A 83 ad s_.heap.size) q := fun q h => Or.inr h
  have hl : lv_has ls 1 [(0, .ref (ad (71 + 3 * self)))] := hl
  refine lv_aload_n hx hb d_T_leave_0 rfl (lv_at hl 0 rfl) ?_
  refine lv_iconst (v := 0) hx hb d_T_leave_1 (by decide) ?_
  refine wl_put X hP hS (i := (71 + 3 * self)) (by omega) (kw_cT (by omega)) rfl i_T ft_T ft_T_ok fn_T 2 (by decide) lf_T_21 rfl rfl rfl (Nat.le_of_ble_eq_true rfl) d_T_leave_2 (kw_pT_state (by omega)) (fun H locs hP hS => ?_)
  obtain ⟨S1, eS1⟩ : ∃ z, z = kw_si S0 7 self 0 (0 : Int32) := ⟨_, rfl⟩
  rw [← eS1] at hP
  refine lv_aload_n hx hb d_T_leave_5 rfl (lv_at hl 0 rfl) ?_
  refine lv_bipush (v := -2) hx hb d_T_leave_6 (by decide) ?_
  refine wl_put X hP hS (i := (71 + 3 * self)) (by omega) (kw_cT (by omega)) rfl i_T ft_T ft_T_ok fn_T 4 (by decide) lf_T_25 rfl rfl rfl (Nat.le_of_ble_eq_true rfl) d_T_leave_8 (kw_pT_parent (x := 4) (by omega) (by decide)) (fun H locs hP hS => ?_)
  obtain ⟨S2, eS2⟩ : ∃ z, z = kw_sn S1 7 self 0 4 := ⟨_, rfl⟩
  rw [← eS2] at hP
  have hE : k_T_leave S0 self = S2 := by
    replace eS2 := eS2.symm
    subst eS2
    replace eS1 := eS1.symm
    subst eS1
    exact rfl
  rw [hE]
  exact wl_vret X hsz hr hlocks hP hS d_T_leave_11
theorem kq_least {S : kw_S} : ∀ n i, i + n = 4 → k_K_leastAbsent_L2 n i S = -2 ∨ ∃ j, j < 4 ∧ k_K_leastAbsent_L2 n i S = nI j := by
  intro n
  induction n with
  | zero => exact fun i _ => Or.inl rfl
  | succ n ih =>
    intro i h
    by_cases h0 : S.1 7 i 0 = 0
    · exact Or.inr ⟨i, by omega, if_pos h0⟩
    · have e : k_K_leastAbsent_L2 (n + 1) i S = k_K_leastAbsent_L2 n (i + 1) S := if_neg h0
      rw [e]
      exact ih (i + 1) (by omega)
theorem kq_leastAbsent {S : kw_S} (h : ¬ k_K_leastAbsent S = -2) : k_K_leastAbsent S = nI (k_K_leastAbsent S).toNatClampNeg ∧ (k_K_leastAbsent S).toNatClampNeg < 4 := by
  rcases kq_least (S := S) 4 0 rfl with h1 | ⟨j, hj, h1⟩
  · exact absurd h1 h
  · have e : k_K_leastAbsent S = nI j := h1
    rw [e, nI_clamp (by omega)]
    exact ⟨rfl, hj⟩
def k_K_spawn (S0 : kw_S) : Int32 × kw_S :=
  let r1 := k_K_leastAbsent S0
  if r1 = (-2 : Int32) then
    ((-3 : Int32), S0)
  else
    let S3 := k_T_begin S0 r1.toNatClampNeg 4
    (r1, S3)
set_option maxHeartbeats 4000000 in
set_option maxRecDepth 100000 in
theorem c_K_spawn {l : Launch} {D : va_G} {cI cT cS : ClassId} {ad : Nat → Nat} (hinj : wl_inj 83 ad) (S0 : kw_S)  : wl_Mi l y_K_spawn (Cond.code y_K_spawn b_K_spawn 2 (some .int) :: TT) (rm_ 2) D classes (kw_ty cI cT cS) 83 ad [.ref (ad 0)] (kw_C cI cT cS ad S0) ((k_K_spawn S0).1) (kw_C cI cT cS ad ((k_K_spawn S0).2)) := by
  intro sz
  refine wl_enter (own := R_K) rfl (by decide) (Nat.le_of_ble_eq_true rfl) hinj (fun p_ e_ s_ m_ below meth c_ ls hsz X hml hr hlocks hl hP hS => ?_)
  have hx := X.1
  have hb := X.2.1
  have hA : ∀ q, s_.heap.size ≤ q → (wl_A 83 ad s_.heap.size) q := fun q h => Or.inr h
  have hl : lv_has ls 2 [(0, .ref (ad 0))] := hl
  refine lv_aload_n hx hb d_K_spawn_0 rfl (lv_at hl 0 rfl) ?_
  refine wl_goi1 (cf := kw_C cI cT cS ad) (r := k_K_leastAbsent S0) hS hA X.2.2.2.2.2.2 (wl_runV (As := []) (rest := []) X hml hl.1 hP g_TT (c_K_leastAbsent hinj S0 _) (by decide) (kw_cK ) rfl wv_K_31 (na := 0) (by decide +kernel) rfl ⟨Nat.le_of_ble_eq_true rfl, Nat.le_of_ble_eq_true rfl⟩ rfl (Nat.le_of_ble_eq_true rfl) d_K_spawn_1 ⟨Nat.le_refl _, Nat.le_refl _⟩) (fun r1 er1 H locs hP hS => ?_)
  refine lv_istore_n (lv' := [(1, .int r1), (0, .ref (ad 0))]) hx hb d_K_spawn_4 rfl hl (by decide) rfl (fun ls hl => ?_)
  refine lv_iload_n hx hb d_K_spawn_5 rfl (lv_at hl 0 rfl) ?_
  refine lv_bipush (v := -2) hx hb d_K_spawn_6 (by decide) ?_
  refine lv_icmp_ne (tgt := 14) hx hb d_K_spawn_8 (by decide) (fun c2 => ?_) (fun c2 => ?_)
  · skip
    obtain ⟨hp1, hp2⟩ := kq_leastAbsent (fun h => c2 (er1.trans h))
    rw [← er1] at hp1 hp2
    refine lv_aload_n hx hb d_K_spawn_14 rfl (lv_at hl 1 rfl) ?_
    refine wl_get (v := .ref (ad 1)) X hP (i := 0) (by decide) (kw_cK ) rfl i_K 0 (by decide) lf_K_11 rfl d_K_spawn_15 ?_
    refine lv_iload_n hx hb d_K_spawn_18 rfl (lv_at hl 0 rfl) ?_
    refine wl_aald X hP (i := 1) (by decide) 1 (kw_cAT ) rfl (j := r1.toNatClampNeg) hp1 hp2 (by decide) d_K_spawn_19 ?_
    refine wl_topv (y := .ref (ad (71 + 3 * r1.toNatClampNeg))) rfl ?_
    refine lv_bipush (v := -2) hx hb d_K_spawn_20 (by decide) ?_
    refine wl_gov2 (cf := kw_C cI cT cS ad) (S2 := k_T_begin S0 r1.toNatClampNeg 4) hS hA X.2.2.2.2.2.2 (wl_runV (As := [.int (-2 : Int32)]) (rest := []) X hml hl.1 hP g_TT (c_T_begin hinj S0 r1.toNatClampNeg (by omega) (-2 : Int32) 4 (by decide) _) (by omega) (kw_cT (by omega)) rfl wv_K_35 (na := 1) (by decide +kernel) rfl ⟨Nat.le_of_ble_eq_true rfl, Nat.le_of_ble_eq_true rfl⟩ rfl (Nat.le_of_ble_eq_true rfl) d_K_spawn_22 ⟨Nat.le_refl _, Nat.le_refl _⟩) (fun S3 eS3 H locs hP hS => ?_)
    refine lv_iload_n hx hb d_K_spawn_25 rfl (lv_at hl 0 rfl) ?_
    have hE : k_K_spawn S0 = (r1, S3) := by
      replace eS3 := eS3.symm
      subst eS3
      replace er1 := er1.symm
      subst er1
      exact ((if_neg c2).trans rfl)
    rw [hE]
    exact wl_iret X hsz hr hlocks hP hS d_K_spawn_26
  · skip
    refine lv_bipush (v := -3) hx hb d_K_spawn_11 (by decide) ?_
    have hE : k_K_spawn S0 = ((-3 : Int32), S0) := by
      replace er1 := er1.symm
      subst er1
      exact ((if_pos c2).trans rfl)
    rw [hE]
    exact wl_iret X hsz hr hlocks hP hS d_K_spawn_13
def k_K_sleep (S0 : kw_S) (t : Nat) (n : Int32) : kw_S :=
  if n < (1 : Int32) then
    S0
  else
    let S2 := kw_si S0 7 t 0 (2 : Int32)
    let S3 := kw_si S2 7 t 3 n
    S3
set_option maxHeartbeats 4000000 in
set_option maxRecDepth 100000 in
theorem c_K_sleep {l : Launch} {D : va_G} {cI cT cS : ClassId} {ad : Nat → Nat} (hinj : wl_inj 83 ad) (S0 : kw_S) (t : Nat) (h_t : t < 4) (n : Int32) : wl_Mv l y_K_sleep (Cond.code y_K_sleep b_K_sleep 3 none :: TT) (rm_ 0) D classes (kw_ty cI cT cS) 83 ad [.ref (ad 0), .ref (ad (71 + 3 * t)), .int n] (kw_C cI cT cS ad S0)  (kw_C cI cT cS ad (k_K_sleep S0 t n)) := by
  intro sz
  refine wl_enter (own := R_K) rfl (by decide) (Nat.le_of_ble_eq_true rfl) hinj (fun p_ e_ s_ m_ below meth c_ ls hsz X hml hr hlocks hl hP hS => ?_)
  have hx := X.1
  have hb := X.2.1
  have hA : ∀ q, s_.heap.size ≤ q → (wl_A 83 ad s_.heap.size) q := fun q h => Or.inr h
  have hl : lv_has ls 3 [(0, .ref (ad 0)), (1, .ref (ad (71 + 3 * t))), (2, .int n)] := hl
  refine lv_iload_n hx hb d_K_sleep_0 rfl (lv_at hl 2 rfl) ?_
  refine lv_iconst (v := 1) hx hb d_K_sleep_1 (by decide) ?_
  refine lv_icmp_lt (tgt := 15) hx hb d_K_sleep_2 (by decide) (fun c1 => ?_) (fun c1 => ?_)
  · skip
    have hE : k_K_sleep S0 t n = S0 := by
      exact ((if_pos c1).trans rfl)
    rw [hE]
    exact wl_vret X hsz hr hlocks hP hS d_K_sleep_15
  · skip
    refine lv_aload_n hx hb d_K_sleep_5 rfl (lv_at hl 1 rfl) ?_
    refine lv_iconst (v := 2) hx hb d_K_sleep_6 (by decide) ?_
    refine wl_put X hP hS (i := (71 + 3 * t)) (by omega) (kw_cT (by omega)) rfl i_T ft_T ft_T_ok fn_T 2 (by decide) lf_K_85 rfl rfl rfl (Nat.le_of_ble_eq_true rfl) d_K_sleep_7 (kw_pT_state (by omega)) (fun H locs hP hS => ?_)
    obtain ⟨S2, eS2⟩ : ∃ z, z = kw_si S0 7 t 0 (2 : Int32) := ⟨_, rfl⟩
    rw [← eS2] at hP
    refine lv_aload_n hx hb d_K_sleep_10 rfl (lv_at hl 1 rfl) ?_
    refine lv_iload_n hx hb d_K_sleep_11 rfl (lv_at hl 2 rfl) ?_
    refine wl_put X hP hS (i := (71 + 3 * t)) (by omega) (kw_cT (by omega)) rfl i_T ft_T ft_T_ok fn_T 6 (by decide) lf_K_133 rfl rfl rfl (Nat.le_of_ble_eq_true rfl) d_K_sleep_12 (kw_pT_sleepLeft (by omega)) (fun H locs hP hS => ?_)
    obtain ⟨S3, eS3⟩ : ∃ z, z = kw_si S2 7 t 3 n := ⟨_, rfl⟩
    rw [← eS3] at hP
    have hE : k_K_sleep S0 t n = S3 := by
      replace eS3 := eS3.symm
      subst eS3
      replace eS2 := eS2.symm
      subst eS2
      exact ((if_neg c1).trans rfl)
    rw [hE]
    exact wl_vret X hsz hr hlocks hP hS d_K_sleep_15
def k_K_orphanChildren_L2 : Nat → Nat → Nat → kw_S → kw_S
  | 0, i, p, S0 =>
    S0
  | i_n + 1, i, p, S0 =>
    if (kw_pa (S0.2 7 i 0)) = (nI p) then
      let S103 := kw_sn S0 7 i 0 4
      if (S103.1 7 i 0) = (4 : Int32) then
        let S105 := k_T_leave S103 i
        k_K_orphanChildren_L2 i_n (i + 1) p S105
      else
        k_K_orphanChildren_L2 i_n (i + 1) p S103
    else
      k_K_orphanChildren_L2 i_n (i + 1) p S0
set_option maxHeartbeats 4000000 in
set_option maxRecDepth 100000 in
theorem c_K_orphanChildren_L2 {l : Launch} {D : va_G} {cI cT cS : ClassId} {ad : Nat → Nat} {p_ : Program} {e_ : Env} {s_ : State} {m_ : MethodId} {args : Array Value} {below : List Frame} {meth : Method} {c_ : Code} {sz : Nat} (hinj : wl_inj 83 ad) (X : wl_X p_ s_ m_ args c_ b_K_orphanChildren R_K TT D classes (kw_ty cI cT cS) 83 ad (wl_A 83 ad s_.heap.size)) (hsz : s_.heap.size = sz) (hml : c_.maxLocals = 4) (hr : meth.sig.returnType = none) (hlocks : meth.locks = false) :
    ∀ (i_n i : Nat) (x_p : Int32) (p : Nat) (e_p : x_p = nI p) (h_p : p < 4) (S0 : kw_S) (h_i : i + i_n = 4) (H : Heap) (locs : List Loc) (ls : Array Slot), lv_has ls 4 [(0, .ref (ad 0)), (1, .int x_p), (2, .int (nI i))] → va_P D classes (wl_W 83 ad (kw_C cI cT cS ad S0)) H → va_S (wl_A 83 ad s_.heap.size) s_.heap H locs → W p_ l e_ (rm_ 1) s_ m_ args below meth c_ H locs 0 0 (MQ below (wl_Qv D classes (kw_ty cI cT cS) 83 ad (kw_C cI cT cS ad (k_K_orphanChildren_L2 i_n i p S0)) sz) args s_ 0 0 (wl_A 83 ad sz)) (F0 m_ 2 ls []) := by
  have hx := X.1
  have hb := X.2.1
  have hA : ∀ q, s_.heap.size ≤ q → (wl_A 83 ad s_.heap.size) q := fun q h => Or.inr h
  intro i_n
  induction i_n with
  | zero =>
    intro i x_p p e_p h_p S0 h_i H locs ls hl hP hS
    subst e_p
    refine lv_iload_n hx hb d_K_orphanChildren_2 rfl (lv_at hl 2 rfl) ?_
    refine lv_iconst (v := 4) hx hb d_K_orphanChildren_3 (by decide) ?_
    refine lv_icmp_ge (tgt := 46) hx hb d_K_orphanChildren_4 (by decide) (fun c1 => ?_) (fun c1 => ?_)
    · skip
      have hE : k_K_orphanChildren_L2 0 i p S0 = S0 := by
        exact rfl
      rw [hE]
      exact wl_vret X hsz hr hlocks hP hS d_K_orphanChildren_46
    · exact absurd (sk_lhz h_i) c1
  | succ i_n ih =>
    intro i x_p p e_p h_p S0 h_i H locs ls hl hP hS
    subst e_p
    refine lv_iload_n hx hb d_K_orphanChildren_2 rfl (lv_at hl 2 rfl) ?_
    refine lv_iconst (v := 4) hx hb d_K_orphanChildren_3 (by decide) ?_
    refine lv_icmp_ge (tgt := 46) hx hb d_K_orphanChildren_4 (by decide) (fun c101 => ?_) (fun c101 => ?_)
    · exact absurd c101 (sk_lhs h_i)
    · skip
      refine lv_aload_n hx hb d_K_orphanChildren_7 rfl (lv_at hl 0 rfl) ?_
      refine wl_get (v := .ref (ad 1)) X hP (i := 0) (by decide) (kw_cK ) rfl i_K 0 (by decide) lf_K_11 rfl d_K_orphanChildren_8 ?_
      refine lv_iload_n hx hb d_K_orphanChildren_11 rfl (lv_at hl 2 rfl) ?_
      refine wl_aald X hP (i := 1) (by decide) 1 (kw_cAT ) rfl (j := i) rfl (by omega) (by decide) d_K_orphanChildren_12 ?_
      refine wl_topv (y := .ref (ad (71 + 3 * i))) rfl ?_
      refine lv_astore_n (lv' := [(3, .ref (ad (71 + 3 * i))), (0, .ref (ad 0)), (1, .int (nI p)), (2, .int (nI i))]) hx hb d_K_orphanChildren_13 rfl hl (by decide) rfl (fun ls hl => ?_)
      refine lv_aload_n hx hb d_K_orphanChildren_14 rfl (lv_at hl 0 rfl) ?_
      refine wl_get (v := .int (kw_pa (S0.2 7 i 0))) X hP (i := (71 + 3 * i)) (by omega) (kw_cT (by omega)) rfl i_T 4 (by decide) lf_K_174 rfl d_K_orphanChildren_15 ?_
      refine lv_iload_n hx hb d_K_orphanChildren_18 rfl (lv_at hl 2 rfl) ?_
      refine lv_icmp_ne (tgt := 40) hx hb d_K_orphanChildren_19 (by decide) (fun c102 => ?_) (fun c102 => ?_)
      · skip
        refine lv_iinc (v := nI (i + 1)) (lv' := [(2, .int (nI (i + 1))), (3, .ref (ad (71 + 3 * i))), (0, .ref (ad 0)), (1, .int (nI p))]) hx hb d_K_orphanChildren_40 hl (k := 3) rfl (nI_1 _) (by decide) rfl (fun ls hl => ?_)
        refine lv_goto (tgt := 2) hx hb d_K_orphanChildren_43 (by decide) ?_
        have hE : k_K_orphanChildren_L2 (i_n + 1) i p S0 = k_K_orphanChildren_L2 i_n (i + 1) p S0 := by
          exact ((if_neg c102).trans rfl)
        rw [hE]
        exact ih (i + 1) (nI p) p rfl (by omega) S0 (by omega) _ _ _ (lv_sub hl [2, 3, 0] rfl) hP hS
      · skip
        refine lv_aload_n hx hb d_K_orphanChildren_22 rfl (lv_at hl 0 rfl) ?_
        refine lv_bipush (v := -2) hx hb d_K_orphanChildren_23 (by decide) ?_
        refine wl_put X hP hS (i := (71 + 3 * i)) (by omega) (kw_cT (by omega)) rfl i_T ft_T ft_T_ok fn_T 4 (by decide) lf_K_174 rfl rfl rfl (Nat.le_of_ble_eq_true rfl) d_K_orphanChildren_25 (kw_pT_parent (x := 4) (by omega) (by decide)) (fun H locs hP hS => ?_)
        obtain ⟨S103, eS103⟩ : ∃ z, z = kw_sn S0 7 i 0 4 := ⟨_, rfl⟩
        rw [← eS103] at hP
        refine lv_aload_n hx hb d_K_orphanChildren_28 rfl (lv_at hl 0 rfl) ?_
        refine wl_get (v := .int (S103.1 7 i 0)) X hP (i := (71 + 3 * i)) (by omega) (kw_cT (by omega)) rfl i_T 2 (by decide) lf_K_85 rfl d_K_orphanChildren_29 ?_
        refine lv_iconst (v := 4) hx hb d_K_orphanChildren_32 (by decide) ?_
        refine lv_icmp_ne (tgt := 40) hx hb d_K_orphanChildren_33 (by decide) (fun c104 => ?_) (fun c104 => ?_)
        · skip
          refine lv_iinc (v := nI (i + 1)) (lv' := [(2, .int (nI (i + 1))), (3, .ref (ad (71 + 3 * i))), (0, .ref (ad 0)), (1, .int (nI p))]) hx hb d_K_orphanChildren_40 hl (k := 3) rfl (nI_1 _) (by decide) rfl (fun ls hl => ?_)
          refine lv_goto (tgt := 2) hx hb d_K_orphanChildren_43 (by decide) ?_
          have hE : k_K_orphanChildren_L2 (i_n + 1) i p S0 = k_K_orphanChildren_L2 i_n (i + 1) p S103 := by
            replace eS103 := eS103.symm
            subst eS103
            exact ((if_pos c102).trans ((if_neg c104).trans rfl))
          rw [hE]
          exact ih (i + 1) (nI p) p rfl (by omega) S103 (by omega) _ _ _ (lv_sub hl [2, 3, 0] rfl) hP hS
        · skip
          refine lv_aload_n hx hb d_K_orphanChildren_36 rfl (lv_at hl 0 rfl) ?_
          refine wl_gov2 (cf := kw_C cI cT cS ad) (S2 := k_T_leave S103 i) hS hA X.2.2.2.2.2.2 (wl_runV (As := []) (rest := []) X hml hl.1 hP g_TT (c_T_leave hinj S103 i (by omega) _) (by omega) (kw_cT (by omega)) rfl wv_K_180 (na := 0) (by decide +kernel) rfl ⟨Nat.le_of_ble_eq_true rfl, Nat.le_of_ble_eq_true rfl⟩ rfl (Nat.le_of_ble_eq_true rfl) d_K_orphanChildren_37 ⟨Nat.le_refl _, Nat.le_refl _⟩) (fun S105 eS105 H locs hP hS => ?_)
          refine lv_iinc (v := nI (i + 1)) (lv' := [(2, .int (nI (i + 1))), (3, .ref (ad (71 + 3 * i))), (0, .ref (ad 0)), (1, .int (nI p))]) hx hb d_K_orphanChildren_40 hl (k := 3) rfl (nI_1 _) (by decide) rfl (fun ls hl => ?_)
          refine lv_goto (tgt := 2) hx hb d_K_orphanChildren_43 (by decide) ?_
          have hE : k_K_orphanChildren_L2 (i_n + 1) i p S0 = k_K_orphanChildren_L2 i_n (i + 1) p S105 := by
            replace eS105 := eS105.symm
            subst eS105
            replace eS103 := eS103.symm
            subst eS103
            exact ((if_pos c102).trans ((if_pos c104).trans rfl))
          rw [hE]
          exact ih (i + 1) (nI p) p rfl (by omega) S105 (by omega) _ _ _ (lv_sub hl [2, 3, 0] rfl) hP hS
def k_K_orphanChildren (S0 : kw_S) (p : Nat) : kw_S :=
  k_K_orphanChildren_L2 4 0 p S0
set_option maxHeartbeats 4000000 in
set_option maxRecDepth 100000 in
theorem c_K_orphanChildren {l : Launch} {D : va_G} {cI cT cS : ClassId} {ad : Nat → Nat} (hinj : wl_inj 83 ad) (S0 : kw_S) (x_p : Int32) (p : Nat) (e_p : x_p = nI p) (h_p : p < 4) : wl_Mv l y_K_orphanChildren (Cond.code y_K_orphanChildren b_K_orphanChildren 4 none :: TT) (rm_ 1) D classes (kw_ty cI cT cS) 83 ad [.ref (ad 0), .int x_p] (kw_C cI cT cS ad S0)  (kw_C cI cT cS ad (k_K_orphanChildren S0 p)) := by
  subst e_p
  intro sz
  refine wl_enter (own := R_K) rfl (by decide) (Nat.le_of_ble_eq_true rfl) hinj (fun p_ e_ s_ m_ below meth c_ ls hsz X hml hr hlocks hl hP hS => ?_)
  have hx := X.1
  have hb := X.2.1
  have hA : ∀ q, s_.heap.size ≤ q → (wl_A 83 ad s_.heap.size) q := fun q h => Or.inr h
  have hl : lv_has ls 4 [(0, .ref (ad 0)), (1, .int (nI p))] := hl
  refine lv_iconst (v := 0) hx hb d_K_orphanChildren_0 (by decide) ?_
  refine lv_istore_n (lv' := [(2, .int (0 : Int32)), (0, .ref (ad 0)), (1, .int (nI p))]) hx hb d_K_orphanChildren_1 rfl hl (by decide) rfl (fun ls hl => ?_)
  have hE : k_K_orphanChildren S0 p = k_K_orphanChildren_L2 4 0 p S0 := by
    exact rfl
  rw [hE]
  exact c_K_orphanChildren_L2 hinj X hsz hml hr hlocks 4 0 (nI p) p rfl (by omega) S0 (by omega) _ _ _ (lv_sub hl [1, 2, 0] rfl) hP hS
theorem kw_fr_in {x : Nat} (h : ¬ kw_fr x = -2) : kw_fr x = nI x ∧ x < 6 := by
  by_cases h1 : x < 6
  · exact ⟨if_pos h1, h1⟩
  · exact absurd (if_neg h1) h
theorem kw_n2 {x : Nat} (h : x < 64) : ¬ nI x = -2 := by
  intro q
  have h1 := congrArg Int32.toInt q
  rw [nI_toInt (by omega)] at h1
  have h2 : (-2 : Int32).toInt = -2 := by decide
  omega
theorem kw_fr_no {x : Nat} (h : kw_fr x = -2) : ¬ x < 6 := fun hlt => by
  have h1 : kw_fr x = nI x := if_pos hlt
  rw [h1] at h
  exact kw_n2 (by omega) h
theorem kw_fr_lt {x : Nat} (h : x < 6) : kw_fr x = nI x ∧ x < 6 := ⟨if_pos h, h⟩
theorem kw_sl_in {x : Nat} (h : ¬ kw_sl x = -2) : kw_sl x = nI x ∧ x < 32 := by
  by_cases h1 : x < 32
  · exact ⟨if_pos h1, h1⟩
  · exact absurd (if_neg h1) h
theorem kw_sl_lt {x : Nat} (h : x < 32) : kw_sl x = nI x ∧ x < 32 := ⟨if_pos h, h⟩
theorem kw_pa_in {x : Nat} (h : ¬ kw_pa x = -2) : kw_pa x = nI x ∧ x < 4 := by
  by_cases h1 : x < 4
  · exact ⟨if_pos h1, h1⟩
  · exact absurd (if_neg h1) h
/-- whoever lies in a frame knows it -/
def kw_FI (S : kw_S) : Prop := ∀ f, f < 6 → S.2 5 0 f < 32 → S.2 10 (S.2 5 0 f) 0 = f
theorem kw_FI_of {S S2 : kw_S} (h : kw_FI S) (h5 : S2.2 5 = S.2 5) (h10 : S2.2 10 = S.2 10) : kw_FI S2 := by
  intro f hf
  rw [h5, h10]
  exact h f hf
theorem kw_sn_nc {S : kw_S} {c i j v a : Nat} (h : a ≠ c) : (kw_sn S c i j v).2 a = S.2 a := funext fun _ => kw_sn_ne (fun q => h q.1)
theorem kw_si_nc {S : kw_S} {c i j a : Nat} {v : Int32} (h : a ≠ c) : (kw_si S c i j v).1 a = S.1 a := funext fun _ => kw_si_ne (fun q => h q.1)
theorem kw_sr_nc {S : kw_S} {c i a : Nat} {f : Nat → Int32} (h : a ≠ c) : (kw_sr S c i f).1 a = S.1 a := funext fun _ => kw_sr_ne (fun q => h q.1)
