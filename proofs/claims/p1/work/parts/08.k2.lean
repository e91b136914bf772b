def k_M_taken_AF_L4 : Nat → Nat → Int32 → kw_S → Int32
  | 0, i, n, S0 =>
    n
  | i_n + 1, i, n, S0 =>
    if S0.2 5 0 i < 32 then
      let x103 := n + Int32.ofInt (1)
      k_M_taken_AF_L4 i_n (i + 1) x103 S0
    else
      k_M_taken_AF_L4 i_n (i + 1) n S0
set_option maxHeartbeats 4000000 in
set_option maxRecDepth 100000 in
theorem c_M_taken_AF_L4 {l : Launch} {D : va_G} {cI cT cS : ClassId} {ad : Nat → Nat} {p_ : Program} {e_ : Env} {s_ : State} {m_ : MethodId} {args : Array Value} {below : List Frame} {meth : Method} {c_ : Code} {sz : Nat} (hinj : wl_inj 83 ad) (X : wl_X p_ s_ m_ args c_ b_M_taken R_M TT D classes (kw_ty cI cT cS) 83 ad (wl_A 83 ad s_.heap.size)) (hsz : s_.heap.size = sz) (hml : c_.maxLocals = 3) (hr : meth.sig.returnType = some .int) (hlocks : meth.locks = false) :
    ∀ (i_n i : Nat) (n : Int32) (S0 : kw_S) (h_i : i + i_n = 6) (H : Heap) (locs : List Loc) (ls : Array Slot), lv_has ls 3 [(0, .ref (ad 4)), (1, .int n), (2, .int (nI i))] → va_P D classes (wl_W 83 ad (kw_C cI cT cS ad S0)) H → va_S (wl_A 83 ad s_.heap.size) s_.heap H locs → W p_ l e_ (rm_ 0) s_ m_ args below meth c_ H locs 0 0 (MQ below (wl_Qi D classes (kw_ty cI cT cS) 83 ad (k_M_taken_AF_L4 i_n i n S0) (kw_C cI cT cS ad S0) sz) args s_ 0 0 (wl_A 83 ad sz)) (F0 m_ 4 ls []) := by
  have hx := X.1
  have hb := X.2.1
  have hA : ∀ q, s_.heap.size ≤ q → (wl_A 83 ad s_.heap.size) q := fun q h => Or.inr h
  intro i_n
  induction i_n with
  | zero =>
    intro i n S0 h_i H locs ls hl hP hS
    refine lv_iload_n hx hb d_M_taken_4 rfl (lv_at hl 2 rfl) ?_
    refine lv_aload_n hx hb d_M_taken_5 rfl (lv_at hl 0 rfl) ?_
    refine wl_alen X hP (i := 4) (by decide) 2 (kw_cAF ) rfl d_M_taken_6 ?_
    refine wl_top (y := nI 6) rfl ?_
    refine lv_icmp_ge (tgt := 25) hx hb d_M_taken_7 (by decide) (fun c1 => ?_) (fun c1 => ?_)
    · skip
      refine lv_iload_n hx hb d_M_taken_25 rfl (lv_at hl 1 rfl) ?_
      have hE : k_M_taken_AF_L4 0 i n S0 = n := by
        exact rfl
      rw [hE]
      exact wl_iret X hsz hr hlocks hP hS d_M_taken_26
    · exact absurd (sk_lhz h_i) c1
  | succ i_n ih =>
    intro i n S0 h_i H locs ls hl hP hS
    refine lv_iload_n hx hb d_M_taken_4 rfl (lv_at hl 2 rfl) ?_
    refine lv_aload_n hx hb d_M_taken_5 rfl (lv_at hl 0 rfl) ?_
    refine wl_alen X hP (i := 4) (by decide) 2 (kw_cAF ) rfl d_M_taken_6 ?_
    refine wl_top (y := nI 6) rfl ?_
    refine lv_icmp_ge (tgt := 25) hx hb d_M_taken_7 (by decide) (fun c101 => ?_) (fun c101 => ?_)
    · exact absurd c101 (sk_lhs h_i)
    · skip
      refine lv_aload_n hx hb d_M_taken_10 rfl (lv_at hl 0 rfl) ?_
      refine lv_iload_n hx hb d_M_taken_11 rfl (lv_at hl 2 rfl) ?_
      refine wl_aald X hP (i := 4) (by decide) 2 (kw_cAF ) rfl (j := i) rfl (by omega) (by decide) d_M_taken_12 ?_
      refine kw_caseE (fun h102 => ?_) (fun h102 => ?_)
      · skip
        refine lv_ifnull hx hb d_M_taken_13 ?_
        obtain ⟨x103, ex103⟩ : ∃ z : Int32, z = n + Int32.ofInt (1) := ⟨_, rfl⟩
        refine lv_iinc (v := x103) (lv' := [(1, .int x103), (0, .ref (ad 4)), (2, .int (nI i))]) hx hb d_M_taken_16 hl (k := 1) rfl (ex103.symm) (by decide) rfl (fun ls hl => ?_)
        refine lv_iinc (v := nI (i + 1)) (lv' := [(2, .int (nI (i + 1))), (1, .int x103), (0, .ref (ad 4))]) hx hb d_M_taken_19 hl (k := 2) rfl (nI_1 _) (by decide) rfl (fun ls hl => ?_)
        refine lv_goto (tgt := 4) hx hb d_M_taken_22 (by decide) ?_
        have hE : k_M_taken_AF_L4 (i_n + 1) i n S0 = k_M_taken_AF_L4 i_n (i + 1) x103 S0 := by
          replace ex103 := ex103.symm
          subst ex103
          exact ((if_pos h102).trans rfl)
        rw [hE]
        exact ih (i + 1) x103 S0 (by omega) _ _ _ (lv_sub hl [2, 1, 0] rfl) hP hS
      · skip
        refine lv_ifnullN (tgt := 19) hx hb d_M_taken_13 (by decide) ?_
        refine lv_iinc (v := nI (i + 1)) (lv' := [(2, .int (nI (i + 1))), (0, .ref (ad 4)), (1, .int n)]) hx hb d_M_taken_19 hl (k := 2) rfl (nI_1 _) (by decide) rfl (fun ls hl => ?_)
        refine lv_goto (tgt := 4) hx hb d_M_taken_22 (by decide) ?_
        have hE : k_M_taken_AF_L4 (i_n + 1) i n S0 = k_M_taken_AF_L4 i_n (i + 1) n S0 := by
          exact ((if_neg h102).trans rfl)
        rw [hE]
        exact ih (i + 1) n S0 (by omega) _ _ _ (lv_sub hl [1, 2, 0] rfl) hP hS
def k_M_taken_AF (S0 : kw_S) : Int32 :=
  k_M_taken_AF_L4 6 0 (0 : Int32) S0
set_option maxHeartbeats 4000000 in
set_option maxRecDepth 100000 in
theorem c_M_taken_AF {l : Launch} {D : va_G} {cI cT cS : ClassId} {ad : Nat → Nat} (hinj : wl_inj 83 ad) (S0 : kw_S)  : wl_Mi l y_M_taken (Cond.code y_M_taken b_M_taken 3 (some .int) :: TT) (rm_ 0) D classes (kw_ty cI cT cS) 83 ad [.ref (ad 4)] (kw_C cI cT cS ad S0) (k_M_taken_AF S0) (kw_C cI cT cS ad S0) := by
  intro sz
  refine wl_enter (own := R_M) rfl (by decide) (Nat.le_of_ble_eq_true rfl) hinj (fun p_ e_ s_ m_ below meth c_ ls hsz X hml hr hlocks hl hP hS => ?_)
  have hx := X.1
  have hb := X.2.1
  have hA : ∀ q, s_.heap.size ≤ q → (wl_A 83 ad s_.heap.size) q := fun q h => Or.inr h
  have hl : lv_has ls 3 [(0, .ref (ad 4))] := hl
  refine lv_iconst (v := 0) hx hb d_M_taken_0 (by decide) ?_
  refine lv_istore_n (lv' := [(1, .int (0 : Int32)), (0, .ref (ad 4))]) hx hb d_M_taken_1 rfl hl (by decide) rfl (fun ls hl => ?_)
  refine lv_iconst (v := 0) hx hb d_M_taken_2 (by decide) ?_
  refine lv_istore_n (lv' := [(2, .int (0 : Int32)), (1, .int (0 : Int32)), (0, .ref (ad 4))]) hx hb d_M_taken_3 rfl hl (by decide) rfl (fun ls hl => ?_)
  have hE : k_M_taken_AF S0 = k_M_taken_AF_L4 6 0 (0 : Int32) S0 := by
    exact rfl
  rw [hE]
  exact c_M_taken_AF_L4 hinj X hsz hml hr hlocks 6 0 (0 : Int32) S0 (by omega) _ _ _ (lv_sub hl [2, 1, 0] rfl) hP hS
def k_M_taken_AL_L4 : Nat → Nat → Int32 → kw_S → Int32
  | 0, i, n, S0 =>
    n
  | i_n + 1, i, n, S0 =>
    if S0.2 6 0 i < 32 then
      let x103 := n + Int32.ofInt (1)
      k_M_taken_AL_L4 i_n (i + 1) x103 S0
    else
      k_M_taken_AL_L4 i_n (i + 1) n S0
set_option maxHeartbeats 4000000 in
set_option maxRecDepth 100000 in
theorem c_M_taken_AL_L4 {l : Launch} {D : va_G} {cI cT cS : ClassId} {ad : Nat → Nat} {p_ : Program} {e_ : Env} {s_ : State} {m_ : MethodId} {args : Array Value} {below : List Frame} {meth : Method} {c_ : Code} {sz : Nat} (hinj : wl_inj 83 ad) (X : wl_X p_ s_ m_ args c_ b_M_taken R_M TT D classes (kw_ty cI cT cS) 83 ad (wl_A 83 ad s_.heap.size)) (hsz : s_.heap.size = sz) (hml : c_.maxLocals = 3) (hr : meth.sig.returnType = some .int) (hlocks : meth.locks = false) :
    ∀ (i_n i : Nat) (n : Int32) (S0 : kw_S) (h_i : i + i_n = 32) (H : Heap) (locs : List Loc) (ls : Array Slot), lv_has ls 3 [(0, .ref (ad 5)), (1, .int n), (2, .int (nI i))] → va_P D classes (wl_W 83 ad (kw_C cI cT cS ad S0)) H → va_S (wl_A 83 ad s_.heap.size) s_.heap H locs → W p_ l e_ (rm_ 0) s_ m_ args below meth c_ H locs 0 0 (MQ below (wl_Qi D classes (kw_ty cI cT cS) 83 ad (k_M_taken_AL_L4 i_n i n S0) (kw_C cI cT cS ad S0) sz) args s_ 0 0 (wl_A 83 ad sz)) (F0 m_ 4 ls []) := by
  have hx := X.1
  have hb := X.2.1
  have hA : ∀ q, s_.heap.size ≤ q → (wl_A 83 ad s_.heap.size) q := fun q h => Or.inr h
  intro i_n
  induction i_n with
  | zero =>
    intro i n S0 h_i H locs ls hl hP hS
    refine lv_iload_n hx hb d_M_taken_4 rfl (lv_at hl 2 rfl) ?_
    refine lv_aload_n hx hb d_M_taken_5 rfl (lv_at hl 0 rfl) ?_
    refine wl_alen X hP (i := 5) (by decide) 2 (kw_cAL ) rfl d_M_taken_6 ?_
    refine wl_top (y := nI 32) rfl ?_
    refine lv_icmp_ge (tgt := 25) hx hb d_M_taken_7 (by decide) (fun c1 => ?_) (fun c1 => ?_)
    · skip
      refine lv_iload_n hx hb d_M_taken_25 rfl (lv_at hl 1 rfl) ?_
      have hE : k_M_taken_AL_L4 0 i n S0 = n := by
        exact rfl
      rw [hE]
      exact wl_iret X hsz hr hlocks hP hS d_M_taken_26
    · exact absurd (sk_lhz h_i) c1
  | succ i_n ih =>
    intro i n S0 h_i H locs ls hl hP hS
    refine lv_iload_n hx hb d_M_taken_4 rfl (lv_at hl 2 rfl) ?_
    refine lv_aload_n hx hb d_M_taken_5 rfl (lv_at hl 0 rfl) ?_
    refine wl_alen X hP (i := 5) (by decide) 2 (kw_cAL ) rfl d_M_taken_6 ?_
    refine wl_top (y := nI 32) rfl ?_
    refine lv_icmp_ge (tgt := 25) hx hb d_M_taken_7 (by decide) (fun c101 => ?_) (fun c101 => ?_)
    · exact absurd c101 (sk_lhs h_i)
    · skip
      refine lv_aload_n hx hb d_M_taken_10 rfl (lv_at hl 0 rfl) ?_
      refine lv_iload_n hx hb d_M_taken_11 rfl (lv_at hl 2 rfl) ?_
      refine wl_aald X hP (i := 5) (by decide) 2 (kw_cAL ) rfl (j := i) rfl (by omega) (by decide) d_M_taken_12 ?_
      refine kw_caseE (fun h102 => ?_) (fun h102 => ?_)
      · skip
        refine lv_ifnull hx hb d_M_taken_13 ?_
        obtain ⟨x103, ex103⟩ : ∃ z : Int32, z = n + Int32.ofInt (1) := ⟨_, rfl⟩
        refine lv_iinc (v := x103) (lv' := [(1, .int x103), (0, .ref (ad 5)), (2, .int (nI i))]) hx hb d_M_taken_16 hl (k := 1) rfl (ex103.symm) (by decide) rfl (fun ls hl => ?_)
        refine lv_iinc (v := nI (i + 1)) (lv' := [(2, .int (nI (i + 1))), (1, .int x103), (0, .ref (ad 5))]) hx hb d_M_taken_19 hl (k := 2) rfl (nI_1 _) (by decide) rfl (fun ls hl => ?_)
        refine lv_goto (tgt := 4) hx hb d_M_taken_22 (by decide) ?_
        have hE : k_M_taken_AL_L4 (i_n + 1) i n S0 = k_M_taken_AL_L4 i_n (i + 1) x103 S0 := by
          replace ex103 := ex103.symm
          subst ex103
          exact ((if_pos h102).trans rfl)
        rw [hE]
        exact ih (i + 1) x103 S0 (by omega) _ _ _ (lv_sub hl [2, 1, 0] rfl) hP hS
      · skip
        refine lv_ifnullN (tgt := 19) hx hb d_M_taken_13 (by decide) ?_
        refine lv_iinc (v := nI (i + 1)) (lv' := [(2, .int (nI (i + 1))), (0, .ref (ad 5)), (1, .int n)]) hx hb d_M_taken_19 hl (k := 2) rfl (nI_1 _) (by decide) rfl (fun ls hl => ?_)
        refine lv_goto (tgt := 4) hx hb d_M_taken_22 (by decide) ?_
        have hE : k_M_taken_AL_L4 (i_n + 1) i n S0 = k_M_taken_AL_L4 i_n (i + 1) n S0 := by
          exact ((if_neg h102).trans rfl)
        rw [hE]
        exact ih (i + 1) n S0 (by omega) _ _ _ (lv_sub hl [1, 2, 0] rfl) hP hS
def k_M_taken_AL (S0 : kw_S) : Int32 :=
  k_M_taken_AL_L4 32 0 (0 : Int32) S0
set_option maxHeartbeats 4000000 in
set_option maxRecDepth 100000 in
theorem c_M_taken_AL {l : Launch} {D : va_G} {cI cT cS : ClassId} {ad : Nat → Nat} (hinj : wl_inj 83 ad) (S0 : kw_S)  : wl_Mi l y_M_taken (Cond.code y_M_taken b_M_taken 3 (some .int) :: TT) (rm_ 0) D classes (kw_ty cI cT cS) 83 ad [.ref (ad 5)] (kw_C cI cT cS ad S0) (k_M_taken_AL S0) (kw_C cI cT cS ad S0) := by
  intro sz
  refine wl_enter (own := R_M) rfl (by decide) (Nat.le_of_ble_eq_true rfl) hinj (fun p_ e_ s_ m_ below meth c_ ls hsz X hml hr hlocks hl hP hS => ?_)
  have hx := X.1
  have hb := X.2.1
  have hA : ∀ q, s_.heap.size ≤ q → (wl_A 83 ad s_.heap.size) q := fun q h => Or.inr h
  have hl : lv_has ls 3 [(0, .ref (ad 5))] := hl
  refine lv_iconst (v := 0) hx hb d_M_taken_0 (by decide) ?_
  refine lv_istore_n (lv' := [(1, .int (0 : Int32)), (0, .ref (ad 5))]) hx hb d_M_taken_1 rfl hl (by decide) rfl (fun ls hl => ?_)
  refine lv_iconst (v := 0) hx hb d_M_taken_2 (by decide) ?_
  refine lv_istore_n (lv' := [(2, .int (0 : Int32)), (1, .int (0 : Int32)), (0, .ref (ad 5))]) hx hb d_M_taken_3 rfl hl (by decide) rfl (fun ls hl => ?_)
  have hE : k_M_taken_AL S0 = k_M_taken_AL_L4 32 0 (0 : Int32) S0 := by
    exact rfl
  rw [hE]
  exact c_M_taken_AL_L4 hinj X hsz hml hr hlocks 32 0 (0 : Int32) S0 (by omega) _ _ _ (lv_sub hl [2, 1, 0] rfl) hP hS
def k_M_newSheet_J26 (i : Nat) (S0 : kw_S) : Nat × kw_S :=
  let S1 := k_J_fill_AW S0 i (0 : Int32)
  let S2 := kw_si S1 10 i 0 (1 : Int32)
  (i, S2)
set_option maxHeartbeats 4000000 in
set_option maxRecDepth 100000 in
theorem c_M_newSheet_J26 {l : Launch} {D : va_G} {cI cT cS : ClassId} {ad : Nat → Nat} {p_ : Program} {e_ : Env} {s_ : State} {m_ : MethodId} {args : Array Value} {below : List Frame} {meth : Method} {c_ : Code} {sz : Nat} (hinj : wl_inj 83 ad) (X : wl_X p_ s_ m_ args c_ b_M_newSheet R_M TT D classes (kw_ty cI cT cS) 83 ad (wl_A 83 ad s_.heap.size)) (hsz : s_.heap.size = sz) (hml : c_.maxLocals = 3) (hr : meth.sig.returnType = some (.object "SheetKernel$Sheet")) (hlocks : meth.locks = false) :
    ∀ (x_i : Int32) (i : Nat) (e_i : x_i = nI i) (h_i : i < 32) (S0 : kw_S) (H : Heap) (locs : List Loc) (ls : Array Slot), lv_has ls 3 [(0, .ref (ad 2)), (1, .int x_i)] → va_P D classes (wl_W 83 ad (kw_C cI cT cS ad S0)) H → va_S (wl_A 83 ad s_.heap.size) s_.heap H locs → W p_ l e_ (rm_ 1) s_ m_ args below meth c_ H locs 0 0 (MQ below (wl_Qr D classes (kw_ty cI cT cS) 83 ad (ad (6 + 2 * ((k_M_newSheet_J26 i S0).1))) (kw_C cI cT cS ad ((k_M_newSheet_J26 i S0).2)) sz) args s_ 0 0 (wl_A 83 ad sz)) (F0 m_ 26 ls []) := by
  have hx := X.1
  have hb := X.2.1
  have hA : ∀ q, s_.heap.size ≤ q → (wl_A 83 ad s_.heap.size) q := fun q h => Or.inr h
  intro x_i i e_i h_i S0 H locs ls hl hP hS
  subst e_i
  refine lv_aload_n hx hb d_M_newSheet_26 rfl (lv_at hl 0 rfl) ?_
  refine wl_get (v := .ref (ad 3)) X hP (i := 2) (by decide) (kw_cM ) rfl i_M 0 (by decide) lf_M_11 rfl d_M_newSheet_27 ?_
  refine lv_iload_n hx hb d_M_newSheet_30 rfl (lv_at hl 1 rfl) ?_
  refine wl_aald X hP (i := 3) (by decide) 2 (kw_cAS ) rfl (j := i) rfl (by omega) (by decide) d_M_newSheet_31 ?_
  refine wl_topv (y := .ref (ad (6 + 2 * i))) rfl ?_
  refine lv_astore_n (lv' := [(2, .ref (ad (6 + 2 * i))), (0, .ref (ad 2)), (1, .int (nI i))]) hx hb d_M_newSheet_32 rfl hl (by decide) rfl (fun ls hl => ?_)
  refine lv_aload_n hx hb d_M_newSheet_33 rfl (lv_at hl 0 rfl) ?_
  refine wl_get (v := .ref (ad (7 + 2 * i))) X hP (i := (6 + 2 * i)) (by omega) (kw_cE (by omega)) rfl i_E 0 (by decide) lf_M_28 rfl d_M_newSheet_34 ?_
  refine lv_iconst (v := 0) hx hb d_M_newSheet_37 (by decide) ?_
  refine wl_gov2 (cf := kw_C cI cT cS ad) (S2 := k_J_fill_AW S0 i (0 : Int32)) hS hA X.2.2.2.2.2.2 (wl_runS (As := [.ref (ad (7 + 2 * i)), .int (0 : Int32)]) (rest := []) X hml hl.1 hP g_TT (c_J_fill_AW hinj S0 i (by omega) (0 : Int32) _) wv_M_73 (na := 2) (by decide +kernel) rfl ⟨Nat.le_of_ble_eq_true rfl, Nat.le_of_ble_eq_true rfl⟩ rfl (Nat.le_of_ble_eq_true rfl) d_M_newSheet_38 ⟨Nat.le_refl _, Nat.le_refl _⟩) (fun S1 eS1 H locs hP hS => ?_)
  refine lv_aload_n hx hb d_M_newSheet_41 rfl (lv_at hl 0 rfl) ?_
  refine lv_iconst (v := 1) hx hb d_M_newSheet_42 (by decide) ?_
  refine wl_put X hP hS (i := (6 + 2 * i)) (by omega) (kw_cE (by omega)) rfl i_E ft_E ft_E_ok fn_E 1 (by decide) lf_M_59 rfl rfl rfl (Nat.le_of_ble_eq_true rfl) d_M_newSheet_43 (kw_pE_owners (by omega)) (fun H locs hP hS => ?_)
  obtain ⟨S2, eS2⟩ : ∃ z, z = kw_si S1 10 i 0 (1 : Int32) := ⟨_, rfl⟩
  rw [← eS2] at hP
  refine lv_aload_n hx hb d_M_newSheet_46 rfl (lv_at hl 0 rfl) ?_
  have hE : k_M_newSheet_J26 i S0 = (i, S2) := by
    replace eS2 := eS2.symm
    subst eS2
    replace eS1 := eS1.symm
    subst eS1
    exact rfl
  rw [hE]
  exact wl_aret X hsz hr hlocks hP hS d_M_newSheet_47
def k_M_newSheet_L2 : Nat → Nat → kw_S → Nat × kw_S
  | 0, i, S0 =>
    k_M_newSheet_J26 i S0
  | i_n + 1, i, S0 =>
    if (S0.1 10 i 0) ≤ 0 then
      k_M_newSheet_J26 i S0
    else
      k_M_newSheet_L2 i_n (i + 1) S0
set_option maxHeartbeats 4000000 in
set_option maxRecDepth 100000 in
theorem c_M_newSheet_L2 {l : Launch} {D : va_G} {cI cT cS : ClassId} {ad : Nat → Nat} {p_ : Program} {e_ : Env} {s_ : State} {m_ : MethodId} {args : Array Value} {below : List Frame} {meth : Method} {c_ : Code} {sz : Nat} (hinj : wl_inj 83 ad) (X : wl_X p_ s_ m_ args c_ b_M_newSheet R_M TT D classes (kw_ty cI cT cS) 83 ad (wl_A 83 ad s_.heap.size)) (hsz : s_.heap.size = sz) (hml : c_.maxLocals = 3) (hr : meth.sig.returnType = some (.object "SheetKernel$Sheet")) (hlocks : meth.locks = false) :
    ∀ (i_n i : Nat) (S0 : kw_S) (h_i : i + i_n = 31) (H : Heap) (locs : List Loc) (ls : Array Slot), lv_has ls 3 [(0, .ref (ad 2)), (1, .int (nI i))] → va_P D classes (wl_W 83 ad (kw_C cI cT cS ad S0)) H → va_S (wl_A 83 ad s_.heap.size) s_.heap H locs → W p_ l e_ (rm_ 1) s_ m_ args below meth c_ H locs 0 0 (MQ below (wl_Qr D classes (kw_ty cI cT cS) 83 ad (ad (6 + 2 * ((k_M_newSheet_L2 i_n i S0).1))) (kw_C cI cT cS ad ((k_M_newSheet_L2 i_n i S0).2)) sz) args s_ 0 0 (wl_A 83 ad sz)) (F0 m_ 2 ls []) := by
  have hx := X.1
  have hb := X.2.1
  have hA : ∀ q, s_.heap.size ≤ q → (wl_A 83 ad s_.heap.size) q := fun q h => Or.inr h
  intro i_n
  induction i_n with
  | zero =>
    intro i S0 h_i H locs ls hl hP hS
    refine lv_iload_n hx hb d_M_newSheet_2 rfl (lv_at hl 1 rfl) ?_
    refine lv_bipush (v := 31) hx hb d_M_newSheet_3 (by decide) ?_
    refine lv_icmp_ge (tgt := 26) hx hb d_M_newSheet_5 (by decide) (fun c1 => ?_) (fun c1 => ?_)
    · skip
      have hE : k_M_newSheet_L2 0 i S0 = k_M_newSheet_J26 i S0 := by
        exact rfl
      rw [hE]
      exact c_M_newSheet_J26 hinj X hsz hml hr hlocks (nI i) i rfl (by omega) S0 _ _ _ (lv_sub hl [0, 1] rfl) hP hS
    · exact absurd (sk_lhz h_i) c1
  | succ i_n ih =>
    intro i S0 h_i H locs ls hl hP hS
    refine lv_iload_n hx hb d_M_newSheet_2 rfl (lv_at hl 1 rfl) ?_
    refine lv_bipush (v := 31) hx hb d_M_newSheet_3 (by decide) ?_
    refine lv_icmp_ge (tgt := 26) hx hb d_M_newSheet_5 (by decide) (fun c101 => ?_) (fun c101 => ?_)
    · exact absurd c101 (sk_lhs h_i)
    · skip
      refine lv_aload_n hx hb d_M_newSheet_8 rfl (lv_at hl 0 rfl) ?_
      refine wl_get (v := .ref (ad 3)) X hP (i := 2) (by decide) (kw_cM ) rfl i_M 0 (by decide) lf_M_11 rfl d_M_newSheet_9 ?_
      refine lv_iload_n hx hb d_M_newSheet_12 rfl (lv_at hl 1 rfl) ?_
      refine wl_aald X hP (i := 3) (by decide) 2 (kw_cAS ) rfl (j := i) rfl (by omega) (by decide) d_M_newSheet_13 ?_
      refine wl_topv (y := .ref (ad (6 + 2 * i))) rfl ?_
      refine wl_get (v := .int (S0.1 10 i 0)) X hP (i := (6 + 2 * i)) (by omega) (kw_cE (by omega)) rfl i_E 1 (by decide) lf_M_59 rfl d_M_newSheet_14 ?_
      refine lv_if_le (tgt := 26) hx hb d_M_newSheet_17 (by decide) (fun c102 => ?_) (fun c102 => ?_)
      · skip
        have hE : k_M_newSheet_L2 (i_n + 1) i S0 = k_M_newSheet_J26 i S0 := by
          exact ((if_pos c102).trans rfl)
        rw [hE]
        exact c_M_newSheet_J26 hinj X hsz hml hr hlocks (nI i) i rfl (by omega) S0 _ _ _ (lv_sub hl [0, 1] rfl) hP hS
      · skip
        refine lv_iinc (v := nI (i + 1)) (lv' := [(1, .int (nI (i + 1))), (0, .ref (ad 2))]) hx hb d_M_newSheet_20 hl (k := 1) rfl (nI_1 _) (by decide) rfl (fun ls hl => ?_)
        refine lv_goto (tgt := 2) hx hb d_M_newSheet_23 (by decide) ?_
        have hE : k_M_newSheet_L2 (i_n + 1) i S0 = k_M_newSheet_L2 i_n (i + 1) S0 := by
          exact ((if_neg c102).trans rfl)
        rw [hE]
        exact ih (i + 1) S0 (by omega) _ _ _ (lv_sub hl [1, 0] rfl) hP hS
def k_M_newSheet (S0 : kw_S) : Nat × kw_S :=
  k_M_newSheet_L2 31 0 S0
set_option maxHeartbeats 4000000 in
set_option maxRecDepth 100000 in
theorem c_M_newSheet {l : Launch} {D : va_G} {cI cT cS : ClassId} {ad : Nat → Nat} (hinj : wl_inj 83 ad) (S0 : kw_S)  : wl_Mr l y_M_newSheet (Cond.code y_M_newSheet b_M_newSheet 3 (some (.object "SheetKernel$Sheet")) :: TT) (rm_ 1) D classes (kw_ty cI cT cS) 83 ad [.ref (ad 2)] (kw_C cI cT cS ad S0) (ad (6 + 2 * ((k_M_newSheet S0).1))) (kw_C cI cT cS ad ((k_M_newSheet S0).2)) := by
  intro sz
  refine wl_enter (own := R_M) rfl (by decide) (Nat.le_of_ble_eq_true rfl) hinj (fun p_ e_ s_ m_ below meth c_ ls hsz X hml hr hlocks hl hP hS => ?_)
  have hx := X.1
  have hb := X.2.1
  have hA : ∀ q, s_.heap.size ≤ q → (wl_A 83 ad s_.heap.size) q := fun q h => Or.inr h
  have hl : lv_has ls 3 [(0, .ref (ad 2))] := hl
  refine lv_iconst (v := 0) hx hb d_M_newSheet_0 (by decide) ?_
  refine lv_istore_n (lv' := [(1, .int (0 : Int32)), (0, .ref (ad 2))]) hx hb d_M_newSheet_1 rfl hl (by decide) rfl (fun ls hl => ?_)
  have hE : k_M_newSheet S0 = k_M_newSheet_L2 31 0 S0 := by
    exact rfl
  rw [hE]
  exact c_M_newSheet_L2 hinj X hsz hml hr hlocks 31 0 S0 (by omega) _ _ _ (lv_sub hl [1, 0] rfl) hP hS
theorem kq_newL {S : kw_S} : ∀ n i, i + n = 31 → (k_M_newSheet_L2 n i S).1 < 32 := by
  intro n
  induction n with
  | zero =>
    intro i h
    show i < 32
    omega
  | succ n ih =>
    intro i h
    by_cases h0 : S.1 10 i 0 ≤ 0
    · have e : k_M_newSheet_L2 (n + 1) i S = k_M_newSheet_J26 i S := if_pos h0
      rw [e]
      show i < 32
      omega
    · have e : k_M_newSheet_L2 (n + 1) i S = k_M_newSheet_L2 n (i + 1) S := if_neg h0
      rw [e]
      exact ih (i + 1) (by omega)
theorem kq_newSheet {S : kw_S} : (k_M_newSheet S).1 < 32 := kq_newL 31 0 rfl
def k_M_copyOf (S0 : kw_S) (e : Nat) : Nat × kw_S :=
  let r1 := (k_M_newSheet S0).1
  let S2 := (k_M_newSheet S0).2
  let S3 := kw_sr S2 11 r1 (va_cpy (S2.1 11 e) (S2.1 11 r1) 0 0 8)
  let S4 := kw_si S3 10 e 0 ((S3.1 10 e 0) - (1 : Int32))
  let S5 := kw_si S4 2 0 3 ((S4.1 2 0 3) + (1 : Int32))
  (r1, S5)
set_option maxHeartbeats 4000000 in
set_option maxRecDepth 100000 in
theorem c_M_copyOf {l : Launch} {D : va_G} {cI cT cS : ClassId} {ad : Nat → Nat} (hinj : wl_inj 83 ad) (S0 : kw_S) (e : Nat) (h_e : e < 32) : wl_Mr l y_M_copyOf (Cond.code y_M_copyOf b_M_copyOf 3 (some (.object "SheetKernel$Sheet")) :: TT) (rm_ 2) D classes (kw_ty cI cT cS) 83 ad [.ref (ad 2), .ref (ad (6 + 2 * e))] (kw_C cI cT cS ad S0) (ad (6 + 2 * ((k_M_copyOf S0 e).1))) (kw_C cI cT cS ad ((k_M_copyOf S0 e).2)) := by
  intro sz
  refine wl_enter (own := R_M) rfl (by decide) (Nat.le_of_ble_eq_true rfl) hinj (fun p_ e_ s_ m_ below meth c_ ls hsz X hml hr hlocks hl hP hS => ?_)
  have hx := X.1
  have hb := X.2.1
  have hA : ∀ q, s_.heap.size ≤ q → (wl_A 83 ad s_.heap.size) q := fun q h => Or.inr h
  have hl : lv_has ls 3 [(0, .ref (ad 2)), (1, .ref (ad (6 + 2 * e)))] := hl
  refine lv_aload_n hx hb d_M_copyOf_0 rfl (lv_at hl 0 rfl) ?_
  refine wl_gor2 (cf := kw_C cI cT cS ad) (pl := fun r => (6 + 2 * r)) (res := k_M_newSheet S0) hS hA X.2.2.2.2.2.2 (wl_runV (As := []) (rest := []) X hml hl.1 hP g_TT (c_M_newSheet hinj S0 _) (by decide) (kw_cM ) rfl wv_M_37 (na := 0) (by decide +kernel) rfl ⟨Nat.le_of_ble_eq_true rfl, Nat.le_of_ble_eq_true rfl⟩ rfl (Nat.le_of_ble_eq_true rfl) d_M_copyOf_1 ⟨Nat.le_refl _, Nat.le_refl _⟩) (fun r1 S2 er1 eS2 H locs hP hS => ?_)
  have hc_r : r1 < 32 := by
    rw [er1]
    exact kq_newSheet
  refine lv_astore_n (lv' := [(2, .ref (ad (6 + 2 * r1))), (0, .ref (ad 2)), (1, .ref (ad (6 + 2 * e)))]) hx hb d_M_copyOf_4 rfl hl (by decide) rfl (fun ls hl => ?_)
  refine lv_aload_n hx hb d_M_copyOf_5 rfl (lv_at hl 2 rfl) ?_
  refine wl_get (v := .ref (ad (7 + 2 * e))) X hP (i := (6 + 2 * e)) (by omega) (kw_cE (by omega)) rfl i_E 0 (by decide) lf_M_28 rfl d_M_copyOf_6 ?_
  refine lv_iconst (v := 0) hx hb d_M_copyOf_9 (by decide) ?_
  refine lv_aload_n hx hb d_M_copyOf_10 rfl (lv_at hl 0 rfl) ?_
  refine wl_get (v := .ref (ad (7 + 2 * r1))) X hP (i := (6 + 2 * r1)) (by omega) (kw_cE (by omega)) rfl i_E 0 (by decide) lf_M_28 rfl d_M_copyOf_11 ?_
  refine lv_iconst (v := 0) hx hb d_M_copyOf_14 (by decide) ?_
  refine lv_bipush (v := 8) hx hb d_M_copyOf_15 (by decide) ?_
  refine wl_copyi X (hml.trans hl.1.symm) hP hS (i0 := (7 + 2 * e)) (i1 := (7 + 2 * r1)) (by omega) (by omega) 0 (kw_cAW (by omega)) (kw_cAW (by omega)) rfl (k := 8) (by decide) (by decide) (by decide) w_copy (Nat.le_of_ble_eq_true rfl) (Nat.le_of_ble_eq_true rfl) d_M_copyOf_17 (kw_pfAW (by omega)) (fun H locs hP hS => ?_)
  obtain ⟨S3, eS3⟩ : ∃ z, z = kw_sr S2 11 r1 (va_cpy (S2.1 11 e) (S2.1 11 r1) 0 0 8) := ⟨_, rfl⟩
  rw [← eS3] at hP
  refine lv_aload_n hx hb d_M_copyOf_20 rfl (lv_at hl 2 rfl) ?_
  refine lv_dup hx hb d_M_copyOf_21 rfl ?_
  refine wl_get (v := .int (S3.1 10 e 0)) X hP (i := (6 + 2 * e)) (by omega) (kw_cE (by omega)) rfl i_E 1 (by decide) lf_M_59 rfl d_M_copyOf_22 ?_
  refine lv_iconst (v := 1) hx hb d_M_copyOf_25 (by decide) ?_
  refine lv_isub hx hb d_M_copyOf_26 ?_
  refine wl_put X hP hS (i := (6 + 2 * e)) (by omega) (kw_cE (by omega)) rfl i_E ft_E ft_E_ok fn_E 1 (by decide) lf_M_59 rfl rfl rfl (Nat.le_of_ble_eq_true rfl) d_M_copyOf_27 (kw_pE_owners (by omega)) (fun H locs hP hS => ?_)
  obtain ⟨S4, eS4⟩ : ∃ z, z = kw_si S3 10 e 0 ((S3.1 10 e 0) - (1 : Int32)) := ⟨_, rfl⟩
  rw [← eS4] at hP
  refine lv_aload_n hx hb d_M_copyOf_30 rfl (lv_at hl 1 rfl) ?_
  refine lv_dup hx hb d_M_copyOf_31 rfl ?_
  refine wl_get (v := .int (S4.1 2 0 3)) X hP (i := 2) (by decide) (kw_cM ) rfl i_M 7 (by decide) lf_M_85 rfl d_M_copyOf_32 ?_
  refine lv_iconst (v := 1) hx hb d_M_copyOf_35 (by decide) ?_
  refine lv_iadd hx hb d_M_copyOf_36 ?_
  refine wl_put X hP hS (i := 2) (by decide) (kw_cM ) rfl i_M ft_M ft_M_ok fn_M 7 (by decide) lf_M_85 rfl rfl rfl (Nat.le_of_ble_eq_true rfl) d_M_copyOf_37 (kw_pM_copies ) (fun H locs hP hS => ?_)
  obtain ⟨S5, eS5⟩ : ∃ z, z = kw_si S4 2 0 3 ((S4.1 2 0 3) + (1 : Int32)) := ⟨_, rfl⟩
  rw [← eS5] at hP
  refine lv_aload_n hx hb d_M_copyOf_40 rfl (lv_at hl 0 rfl) ?_
  have hE : k_M_copyOf S0 e = (r1, S5) := by
    replace eS5 := eS5.symm
    subst eS5
    replace eS4 := eS4.symm
    subst eS4
    replace eS3 := eS3.symm
    subst eS3
    replace eS2 := eS2.symm
    subst eS2
    replace er1 := er1.symm
    subst er1
    exact rfl
  rw [hE]
  exact wl_aret X hsz hr hlocks hP hS d_M_copyOf_41
def k_M_leastFreeSlot_L2 : Nat → Nat → kw_S → Int32
  | 0, i, S0 =>
    nI i
  | i_n + 1, i, S0 =>
    if S0.2 6 0 i < 32 then
      k_M_leastFreeSlot_L2 i_n (i + 1) S0
    else
      nI i
set_option maxHeartbeats 4000000 in
set_option maxRecDepth 100000 in
theorem c_M_leastFreeSlot_L2 {l : Launch} {D : va_G} {cI cT cS : ClassId} {ad : Nat → Nat} {p_ : Program} {e_ : Env} {s_ : State} {m_ : MethodId} {args : Array Value} {below : List Frame} {meth : Method} {c_ : Code} {sz : Nat} (hinj : wl_inj 83 ad) (X : wl_X p_ s_ m_ args c_ b_M_leastFreeSlot R_M TT D classes (kw_ty cI cT cS) 83 ad (wl_A 83 ad s_.heap.size)) (hsz : s_.heap.size = sz) (hml : c_.maxLocals = 2) (hr : meth.sig.returnType = some .int) (hlocks : meth.locks = false) :
    ∀ (i_n i : Nat) (S0 : kw_S) (h_i : i + i_n = 31) (H : Heap) (locs : List Loc) (ls : Array Slot), lv_has ls 2 [(0, .ref (ad 2)), (1, .int (nI i))] → va_P D classes (wl_W 83 ad (kw_C cI cT cS ad S0)) H → va_S (wl_A 83 ad s_.heap.size) s_.heap H locs → W p_ l e_ (rm_ 0) s_ m_ args below meth c_ H locs 0 0 (MQ below (wl_Qi D classes (kw_ty cI cT cS) 83 ad (k_M_leastFreeSlot_L2 i_n i S0) (kw_C cI cT cS ad S0) sz) args s_ 0 0 (wl_A 83 ad sz)) (F0 m_ 2 ls []) := by
  have hx := X.1
  have hb := X.2.1
  have hA : ∀ q, s_.heap.size ≤ q → (wl_A 83 ad s_.heap.size) q := fun q h => Or.inr h
  intro i_n
  induction i_n with
  | zero =>
    intro i S0 h_i H locs ls hl hP hS
    refine lv_iload_n hx hb d_M_leastFreeSlot_2 rfl (lv_at hl 1 rfl) ?_
    refine lv_bipush (v := 31) hx hb d_M_leastFreeSlot_3 (by decide) ?_
    refine lv_icmp_ge (tgt := 23) hx hb d_M_leastFreeSlot_5 (by decide) (fun c1 => ?_) (fun c1 => ?_)
    · skip
      refine lv_iload_n hx hb d_M_leastFreeSlot_23 rfl (lv_at hl 1 rfl) ?_
      have hE : k_M_leastFreeSlot_L2 0 i S0 = nI i := by
        exact rfl
      rw [hE]
      exact wl_iret X hsz hr hlocks hP hS d_M_leastFreeSlot_24
    · exact absurd (sk_lhz h_i) c1
  | succ i_n ih =>
    intro i S0 h_i H locs ls hl hP hS
    refine lv_iload_n hx hb d_M_leastFreeSlot_2 rfl (lv_at hl 1 rfl) ?_
    refine lv_bipush (v := 31) hx hb d_M_leastFreeSlot_3 (by decide) ?_
    refine lv_icmp_ge (tgt := 23) hx hb d_M_leastFreeSlot_5 (by decide) (fun c101 => ?_) (fun c101 => ?_)
    · exact absurd c101 (sk_lhs h_i)
    · skip
      refine lv_aload_n hx hb d_M_leastFreeSlot_8 rfl (lv_at hl 0 rfl) ?_
      refine wl_get (v := .ref (ad 5)) X hP (i := 2) (by decide) (kw_cM ) rfl i_M 2 (by decide) lf_M_20 rfl d_M_leastFreeSlot_9 ?_
      refine lv_iload_n hx hb d_M_leastFreeSlot_12 rfl (lv_at hl 1 rfl) ?_
      refine wl_aald X hP (i := 5) (by decide) 2 (kw_cAL ) rfl (j := i) rfl (by omega) (by decide) d_M_leastFreeSlot_13 ?_
      refine kw_caseE (fun h102 => ?_) (fun h102 => ?_)
      · skip
        refine lv_ifnull hx hb d_M_leastFreeSlot_14 ?_
        refine lv_iinc (v := nI (i + 1)) (lv' := [(1, .int (nI (i + 1))), (0, .ref (ad 2))]) hx hb d_M_leastFreeSlot_17 hl (k := 1) rfl (nI_1 _) (by decide) rfl (fun ls hl => ?_)
        refine lv_goto (tgt := 2) hx hb d_M_leastFreeSlot_20 (by decide) ?_
        have hE : k_M_leastFreeSlot_L2 (i_n + 1) i S0 = k_M_leastFreeSlot_L2 i_n (i + 1) S0 := by
          exact ((if_pos h102).trans rfl)
        rw [hE]
        exact ih (i + 1) S0 (by omega) _ _ _ (lv_sub hl [1, 0] rfl) hP hS
      · skip
        refine lv_ifnullN (tgt := 23) hx hb d_M_leastFreeSlot_14 (by decide) ?_
        refine lv_iload_n hx hb d_M_leastFreeSlot_23 rfl (lv_at hl 1 rfl) ?_
        have hE : k_M_leastFreeSlot_L2 (i_n + 1) i S0 = nI i := by
          exact ((if_neg h102).trans rfl)
        rw [hE]
        exact wl_iret X hsz hr hlocks hP hS d_M_leastFreeSlot_24
def k_M_leastFreeSlot (S0 : kw_S) : Int32 :=
  k_M_leastFreeSlot_L2 31 0 S0
set_option maxHeartbeats 4000000 in
set_option maxRecDepth 100000 in
theorem c_M_leastFreeSlot {l : Launch} {D : va_G} {cI cT cS : ClassId} {ad : Nat → Nat} (hinj : wl_inj 83 ad) (S0 : kw_S)  : wl_Mi l y_M_leastFreeSlot (Cond.code y_M_leastFreeSlot b_M_leastFreeSlot 2 (some .int) :: TT) (rm_ 0) D classes (kw_ty cI cT cS) 83 ad [.ref (ad 2)] (kw_C cI cT cS ad S0) (k_M_leastFreeSlot S0) (kw_C cI cT cS ad S0) := by
  intro sz
  refine wl_enter (own := R_M) rfl (by decide) (Nat.le_of_ble_eq_true rfl) hinj (fun p_ e_ s_ m_ below meth c_ ls hsz X hml hr hlocks hl hP hS => ?_)
  have hx := X.1
  have hb := X.2.1
  have hA : ∀ q, s_.heap.size ≤ q → (wl_A 83 ad s_.heap.size) q := fun q h => Or.inr h
  have hl : lv_has ls 2 [(0, .ref (ad 2))] := hl
  refine lv_iconst (v := 0) hx hb d_M_leastFreeSlot_0 (by decide) ?_
  refine lv_istore_n (lv' := [(1, .int (0 : Int32)), (0, .ref (ad 2))]) hx hb d_M_leastFreeSlot_1 rfl hl (by decide) rfl (fun ls hl => ?_)
  have hE : k_M_leastFreeSlot S0 = k_M_leastFreeSlot_L2 31 0 S0 := by
    exact rfl
  rw [hE]
  exact c_M_leastFreeSlot_L2 hinj X hsz hml hr hlocks 31 0 S0 (by omega) _ _ _ (lv_sub hl [1, 0] rfl) hP hS
theorem kq_freeL {S : kw_S} : ∀ n i, i + n = 31 → ∃ j, j < 32 ∧ k_M_leastFreeSlot_L2 n i S = nI j := by
  intro n
  induction n with
  | zero => exact fun i h => ⟨i, by omega, rfl⟩
  | succ n ih =>
    intro i h
    by_cases h0 : S.2 6 0 i < 32
    · have e : k_M_leastFreeSlot_L2 (n + 1) i S = k_M_leastFreeSlot_L2 n (i + 1) S := if_pos h0
      rw [e]
      exact ih (i + 1) (by omega)
    · exact ⟨i, by omega, if_neg h0⟩
theorem kq_leastFreeSlot {S : kw_S} : k_M_leastFreeSlot S = nI (k_M_leastFreeSlot S).toNatClampNeg ∧ (k_M_leastFreeSlot S).toNatClampNeg < 32 := by
  obtain ⟨j, hj, h⟩ := kq_freeL (S := S) 31 0 rfl
  have e : k_M_leastFreeSlot S = nI j := h
  rw [e, nI_clamp (by omega)]
  exact ⟨rfl, hj⟩
def k_M_goOut_J49 (e : Nat) (S0 : kw_S) : kw_S :=
  let S1 := kw_sn S0 5 0 (S0.2 10 e 0) 32
  let S2 := kw_sn S1 10 e 0 6
  S2
set_option maxHeartbeats 4000000 in
set_option maxRecDepth 100000 in
theorem c_M_goOut_J49 {l : Launch} {D : va_G} {cI cT cS : ClassId} {ad : Nat → Nat} {p_ : Program} {e_ : Env} {s_ : State} {m_ : MethodId} {args : Array Value} {below : List Frame} {meth : Method} {c_ : Code} {sz : Nat} (hinj : wl_inj 83 ad) (X : wl_X p_ s_ m_ args c_ b_M_goOut R_M TT D classes (kw_ty cI cT cS) 83 ad (wl_A 83 ad s_.heap.size)) (hsz : s_.heap.size = sz) (hml : c_.maxLocals = 2) (hr : meth.sig.returnType = none) (hlocks : meth.locks = false) :
    ∀ (e : Nat) (h_e : e < 32) (S0 : kw_S) (hf : S0.2 10 e 0 < 6) (H : Heap) (locs : List Loc) (ls : Array Slot), lv_has ls 2 [(0, .ref (ad 2)), (1, .ref (ad (6 + 2 * e)))] → va_P D classes (wl_W 83 ad (kw_C cI cT cS ad S0)) H → va_S (wl_A 83 ad s_.heap.size) s_.heap H locs → W p_ l e_ (rm_ 1) s_ m_ args below meth c_ H locs 0 0 (MQ below (wl_Qv D classes (kw_ty cI cT cS) 83 ad (kw_C cI cT cS ad (k_M_goOut_J49 e S0)) sz) args s_ 0 0 (wl_A 83 ad sz)) (F0 m_ 49 ls []) := by
  have hx := X.1
  have hb := X.2.1
  have hA : ∀ q, s_.heap.size ≤ q → (wl_A 83 ad s_.heap.size) q := fun q h => Or.inr h
  intro e h_e S0 hf H locs ls hl hP hS
  refine lv_aload_n hx hb d_M_goOut_49 rfl (lv_at hl 0 rfl) ?_
  refine wl_get (v := .ref (ad 4)) X hP (i := 2) (by decide) (kw_cM ) rfl i_M 1 (by decide) lf_M_17 rfl d_M_goOut_50 ?_
  refine lv_aload_n hx hb d_M_goOut_53 rfl (lv_at hl 1 rfl) ?_
  refine wl_get (v := .int (kw_fr (S0.2 10 e 0))) X hP (i := (6 + 2 * e)) (by omega) (kw_cE (by omega)) rfl i_E 2 (by decide) lf_M_41 rfl d_M_goOut_54 ?_
  refine lv_null hx hb d_M_goOut_57 ?_
  refine wl_aastN X hP hS (i := 4) (by decide) 2 (kw_cAF ) rfl (j := (S0.2 10 e 0)) (kw_fr_lt hf).1 (kw_fr_lt hf).2 (by decide) d_M_goOut_58 (kw_pnAF ) (fun H locs hP hS => ?_)
  obtain ⟨S1, eS1⟩ : ∃ z, z = kw_sn S0 5 0 (S0.2 10 e 0) 32 := ⟨_, rfl⟩
  rw [← eS1] at hP
  refine lv_aload_n hx hb d_M_goOut_59 rfl (lv_at hl 1 rfl) ?_
  refine lv_bipush (v := -2) hx hb d_M_goOut_60 (by decide) ?_
  refine wl_put X hP hS (i := (6 + 2 * e)) (by omega) (kw_cE (by omega)) rfl i_E ft_E ft_E_ok fn_E 2 (by decide) lf_M_41 rfl rfl rfl (Nat.le_of_ble_eq_true rfl) d_M_goOut_62 (kw_pE_frame (x := 6) (by omega) (by decide)) (fun H locs hP hS => ?_)
  obtain ⟨S2, eS2⟩ : ∃ z, z = kw_sn S1 10 e 0 6 := ⟨_, rfl⟩
  rw [← eS2] at hP
  have hE : k_M_goOut_J49 e S0 = S2 := by
    replace eS2 := eS2.symm
    subst eS2
    replace eS1 := eS1.symm
    subst eS1
    exact rfl
  rw [hE]
  exact wl_vret X hsz hr hlocks hP hS d_M_goOut_65
def k_M_goOut_J34 (e : Nat) (S0 : kw_S) : kw_S :=
  let S1 := kw_si S0 2 0 1 ((S0.1 2 0 1) + (1 : Int32))
  let S2 := kw_si S1 10 e 2 (0 : Int32)
  k_M_goOut_J49 e S2
set_option maxHeartbeats 4000000 in
set_option maxRecDepth 100000 in
theorem c_M_goOut_J34 {l : Launch} {D : va_G} {cI cT cS : ClassId} {ad : Nat → Nat} {p_ : Program} {e_ : Env} {s_ : State} {m_ : MethodId} {args : Array Value} {below : List Frame} {meth : Method} {c_ : Code} {sz : Nat} (hinj : wl_inj 83 ad) (X : wl_X p_ s_ m_ args c_ b_M_goOut R_M TT D classes (kw_ty cI cT cS) 83 ad (wl_A 83 ad s_.heap.size)) (hsz : s_.heap.size = sz) (hml : c_.maxLocals = 2) (hr : meth.sig.returnType = none) (hlocks : meth.locks = false) :
    ∀ (e : Nat) (h_e : e < 32) (S0 : kw_S) (hf : S0.2 10 e 0 < 6) (H : Heap) (locs : List Loc) (ls : Array Slot), lv_has ls 2 [(0, .ref (ad 2)), (1, .ref (ad (6 + 2 * e)))] → va_P D classes (wl_W 83 ad (kw_C cI cT cS ad S0)) H → va_S (wl_A 83 ad s_.heap.size) s_.heap H locs → W p_ l e_ (rm_ 1) s_ m_ args below meth c_ H locs 0 0 (MQ below (wl_Qv D classes (kw_ty cI cT cS) 83 ad (kw_C cI cT cS ad (k_M_goOut_J34 e S0)) sz) args s_ 0 0 (wl_A 83 ad sz)) (F0 m_ 34 ls []) := by
  have hx := X.1
  have hb := X.2.1
  have hA : ∀ q, s_.heap.size ≤ q → (wl_A 83 ad s_.heap.size) q := fun q h => Or.inr h
  intro e h_e S0 hf H locs ls hl hP hS
  refine lv_aload_n hx hb d_M_goOut_34 rfl (lv_at hl 0 rfl) ?_
  refine lv_dup hx hb d_M_goOut_35 rfl ?_
  refine wl_get (v := .int (S0.1 2 0 1)) X hP (i := 2) (by decide) (kw_cM ) rfl i_M 5 (by decide) lf_M_101 rfl d_M_goOut_36 ?_
  refine lv_iconst (v := 1) hx hb d_M_goOut_39 (by decide) ?_
  refine lv_iadd hx hb d_M_goOut_40 ?_
  refine wl_put X hP hS (i := 2) (by decide) (kw_cM ) rfl i_M ft_M ft_M_ok fn_M 5 (by decide) lf_M_101 rfl rfl rfl (Nat.le_of_ble_eq_true rfl) d_M_goOut_41 (kw_pM_written ) (fun H locs hP hS => ?_)
  obtain ⟨S1, eS1⟩ : ∃ z, z = kw_si S0 2 0 1 ((S0.1 2 0 1) + (1 : Int32)) := ⟨_, rfl⟩
  rw [← eS1] at hP
  refine lv_aload_n hx hb d_M_goOut_44 rfl (lv_at hl 1 rfl) ?_
  refine lv_iconst (v := 0) hx hb d_M_goOut_45 (by decide) ?_
  refine wl_put X hP hS (i := (6 + 2 * e)) (by omega) (kw_cE (by omega)) rfl i_E ft_E ft_E_ok fn_E 5 (by decide) lf_M_70 rfl rfl rfl (Nat.le_of_ble_eq_true rfl) d_M_goOut_46 (kw_pE_changed (by omega)) (fun H locs hP hS => ?_)
  obtain ⟨S2, eS2⟩ : ∃ z, z = kw_si S1 10 e 2 (0 : Int32) := ⟨_, rfl⟩
  rw [← eS2] at hP
  have hE : k_M_goOut_J34 e S0 = k_M_goOut_J49 e S2 := by
    replace eS2 := eS2.symm
    subst eS2
    replace eS1 := eS1.symm
    subst eS1
    exact rfl
  rw [hE]
  exact c_M_goOut_J49 hinj X hsz hml hr hlocks e (by omega) S2 (by subst_vars; simpa [kw_sn_at, kw_si_o] using hf) _ _ _ (lv_sub hl [0, 1] rfl) hP hS
def k_M_goOut (S0 : kw_S) (e : Nat) : kw_S :=
  if (S0.1 10 e 2) = 0 then
    k_M_goOut_J49 e S0
  else
    if (kw_sl (S0.2 10 e 1)) = (-2 : Int32) then
      let r3 := k_M_leastFreeSlot S0
      let S4 := kw_sn S0 10 e 1 r3.toNatClampNeg
      let S5 := kw_sn S4 6 0 (S4.2 10 e 1) e
      k_M_goOut_J34 e S5
    else
      k_M_goOut_J34 e S0
set_option maxHeartbeats 4000000 in
set_option maxRecDepth 100000 in
theorem c_M_goOut {l : Launch} {D : va_G} {cI cT cS : ClassId} {ad : Nat → Nat} (hinj : wl_inj 83 ad) (S0 : kw_S) (e : Nat) (h_e : e < 32) (hf : S0.2 10 e 0 < 6) : wl_Mv l y_M_goOut (Cond.code y_M_goOut b_M_goOut 2 none :: TT) (rm_ 1) D classes (kw_ty cI cT cS) 83 ad [.ref (ad 2), .ref (ad (6 + 2 * e))] (kw_C cI cT cS ad S0)  (kw_C cI cT cS ad (k_M_goOut S0 e)) := by
  intro sz
  refine wl_enter (own := R_M) rfl (by decide) (Nat.le_of_ble_eq_true rfl) hinj (fun p_ e_ s_ m_ below meth c_ ls hsz X hml hr hlocks hl hP hS => ?_)
  have hx := X.1
  have hb := X.2.1
  have hA : ∀ q, s_.heap.size ≤ q → (wl_A 83 ad s_.heap.size) q := fun q h => Or.inr h
  have hl : lv_has ls 2 [(0, .ref (ad 2)), (1, .ref (ad (6 + 2 * e)))] := hl
  refine lv_aload_n hx hb d_M_goOut_0 rfl (lv_at hl 1 rfl) ?_
  refine wl_get (v := .int (S0.1 10 e 2)) X hP (i := (6 + 2 * e)) (by omega) (kw_cE (by omega)) rfl i_E 5 (by decide) lf_M_70 rfl d_M_goOut_1 ?_
  refine lv_if_eq (tgt := 49) hx hb d_M_goOut_4 (by decide) (fun c1 => ?_) (fun c1 => ?_)
  · skip
    have hE : k_M_goOut S0 e = k_M_goOut_J49 e S0 := by
      exact ((if_pos c1).trans rfl)
    rw [hE]
    exact c_M_goOut_J49 hinj X hsz hml hr hlocks e (by omega) S0 (by subst_vars; simpa [kw_sn_at, kw_si_o] using hf) _ _ _ (lv_sub hl [0, 1] rfl) hP hS
  · skip
    refine lv_aload_n hx hb d_M_goOut_7 rfl (lv_at hl 1 rfl) ?_
    refine wl_get (v := .int (kw_sl (S0.2 10 e 1))) X hP (i := (6 + 2 * e)) (by omega) (kw_cE (by omega)) rfl i_E 3 (by decide) lf_M_49 rfl d_M_goOut_8 ?_
    refine lv_bipush (v := -2) hx hb d_M_goOut_11 (by decide) ?_
    refine lv_icmp_ne (tgt := 34) hx hb d_M_goOut_13 (by decide) (fun c2 => ?_) (fun c2 => ?_)
    · skip
      have hE : k_M_goOut S0 e = k_M_goOut_J34 e S0 := by
        exact ((if_neg c1).trans ((if_neg c2).trans rfl))
      rw [hE]
      exact c_M_goOut_J34 hinj X hsz hml hr hlocks e (by omega) S0 (by subst_vars; simpa [kw_sn_at, kw_si_o] using hf) _ _ _ (lv_sub hl [0, 1] rfl) hP hS
    · skip
      refine lv_aload_n hx hb d_M_goOut_16 rfl (lv_at hl 1 rfl) ?_
      refine lv_aload_n hx hb d_M_goOut_17 rfl (lv_at hl 0 rfl) ?_
      refine wl_goi1 (cf := kw_C cI cT cS ad) (r := k_M_leastFreeSlot S0) hS hA X.2.2.2.2.2.2 (wl_runV (As := []) (rest := [.ref (ad (6 + 2 * e))]) X hml hl.1 hP g_TT (c_M_leastFreeSlot hinj S0 _) (by decide) (kw_cM ) rfl wv_M_98 (na := 0) (by decide +kernel) rfl ⟨Nat.le_of_ble_eq_true rfl, Nat.le_of_ble_eq_true rfl⟩ rfl (Nat.le_of_ble_eq_true rfl) d_M_goOut_18 ⟨Nat.le_refl _, Nat.le_refl _⟩) (fun r3 er3 H locs hP hS => ?_)
      obtain ⟨hs1, hs2⟩ := kq_leastFreeSlot (S := S0)
      rw [← er3] at hs1 hs2
      refine wl_put X hP hS (i := (6 + 2 * e)) (by omega) (kw_cE (by omega)) rfl i_E ft_E ft_E_ok fn_E 3 (by decide) lf_M_49 rfl rfl rfl (Nat.le_of_ble_eq_true rfl) d_M_goOut_21 (kw_pE_slot (x := r3.toNatClampNeg) (by omega) (by unfold kw_sl; rw [if_pos (by omega)] <;> exact hs1)) (fun H locs hP hS => ?_)
      obtain ⟨S4, eS4⟩ : ∃ z, z = kw_sn S0 10 e 1 r3.toNatClampNeg := ⟨_, rfl⟩
      rw [← eS4] at hP
      refine lv_aload_n hx hb d_M_goOut_24 rfl (lv_at hl 0 rfl) ?_
      refine wl_get (v := .ref (ad 5)) X hP (i := 2) (by decide) (kw_cM ) rfl i_M 2 (by decide) lf_M_20 rfl d_M_goOut_25 ?_
      refine lv_aload_n hx hb d_M_goOut_28 rfl (lv_at hl 1 rfl) ?_
      refine wl_get (v := .int (kw_sl (S4.2 10 e 1))) X hP (i := (6 + 2 * e)) (by omega) (kw_cE (by omega)) rfl i_E 3 (by decide) lf_M_49 rfl d_M_goOut_29 ?_
      refine lv_aload_n hx hb d_M_goOut_32 rfl (lv_at hl 1 rfl) ?_
      have hq : S4.2 10 e 1 < 32 := by
        rw [eS4, kw_sn_at, if_pos ⟨rfl, rfl, rfl⟩]
        exact hs2
      refine wl_aast X hP hS (i := 5) (by decide) 2 (r := (R_E, F_E, 6)) (kw_cAL ) rfl (j := (S4.2 10 e 1)) (kw_sl_lt hq).1 (kw_sl_lt hq).2 (by decide) (k := (6 + 2 * e)) (by omega) (kw_cE (by omega)) rfl d_M_goOut_33 (kw_prAL  (by omega)) (fun H locs hP hS => ?_)
      obtain ⟨S5, eS5⟩ : ∃ z, z = kw_sn S4 6 0 (S4.2 10 e 1) e := ⟨_, rfl⟩
      rw [← eS5] at hP
      have hE : k_M_goOut S0 e = k_M_goOut_J34 e S5 := by
        replace eS5 := eS5.symm
        subst eS5
        replace eS4 := eS4.symm
        subst eS4
        replace er3 := er3.symm
        subst er3
        exact ((if_neg c1).trans ((if_pos c2).trans rfl))
      rw [hE]
      exact c_M_goOut_J34 hinj X hsz hml hr hlocks e (by omega) S5 (by subst_vars; simpa [kw_sn_at, kw_si_o] using hf) _ _ _ (lv_sub hl [0, 1] rfl) hP hS
def k_M_chooseFrame_J80  (S0 : kw_S) : Int32 × kw_S :=
  let x1 := nI ((S0.2 2 0 0) % 6)
  let S2 := kw_sn S0 2 0 0 ((((S0.2 2 0 0) % 6) + 1) % 6)
  (x1, S2)
set_option maxHeartbeats 4000000 in
set_option maxRecDepth 100000 in
theorem c_M_chooseFrame_J80 {l : Launch} {D : va_G} {cI cT cS : ClassId} {ad : Nat → Nat} {p_ : Program} {e_ : Env} {s_ : State} {m_ : MethodId} {args : Array Value} {below : List Frame} {meth : Method} {c_ : Code} {sz : Nat} (hinj : wl_inj 83 ad) (X : wl_X p_ s_ m_ args c_ b_M_chooseFrame R_M TT D classes (kw_ty cI cT cS) 83 ad (wl_A 83 ad s_.heap.size)) (hsz : s_.heap.size = sz) (hml : c_.maxLocals = 2) (hr : meth.sig.returnType = some .int) (hlocks : meth.locks = false) :
    ∀ (S0 : kw_S) (H : Heap) (locs : List Loc) (ls : Array Slot), lv_has ls 2 [(0, .ref (ad 2))] → va_P D classes (wl_W 83 ad (kw_C cI cT cS ad S0)) H → va_S (wl_A 83 ad s_.heap.size) s_.heap H locs → W p_ l e_ (rm_ 0) s_ m_ args below meth c_ H locs 0 0 (MQ below (wl_Qi D classes (kw_ty cI cT cS) 83 ad ((k_M_chooseFrame_J80 S0).1) (kw_C cI cT cS ad ((k_M_chooseFrame_J80 S0).2)) sz) args s_ 0 0 (wl_A 83 ad sz)) (F0 m_ 80 ls []) := by
  have hx := X.1
  have hb := X.2.1
  have hA : ∀ q, s_.heap.size ≤ q → (wl_A 83 ad s_.heap.size) q := fun q h => Or.inr h
  intro S0 H locs ls hl hP hS
  refine lv_aload_n hx hb d_M_chooseFrame_80 rfl (lv_at hl 0 rfl) ?_
  refine wl_get (v := .int (nI ((S0.2 2 0 0) % 6))) X hP (i := 2) (by decide) (kw_cM ) rfl i_M 3 (by decide) lf_M_95 rfl d_M_chooseFrame_81 ?_
  refine lv_topi (fun x1 ex1 => ?_)
  refine lv_istore_n (lv' := [(1, .int x1), (0, .ref (ad 2))]) hx hb d_M_chooseFrame_84 rfl hl (by decide) rfl (fun ls hl => ?_)
  refine lv_aload_n hx hb d_M_chooseFrame_85 rfl (lv_at hl 1 rfl) ?_
  refine lv_aload_n hx hb d_M_chooseFrame_86 rfl (lv_at hl 1 rfl) ?_
  refine wl_get (v := .int (nI ((S0.2 2 0 0) % 6))) X hP (i := 2) (by decide) (kw_cM ) rfl i_M 3 (by decide) lf_M_95 rfl d_M_chooseFrame_87 ?_
  refine lv_iconst (v := 1) hx hb d_M_chooseFrame_90 (by decide) ?_
  refine lv_iadd hx hb d_M_chooseFrame_91 ?_
  refine lv_bipush (v := 6) hx hb d_M_chooseFrame_92 (by decide) ?_
  refine lv_irem hx hb d_M_chooseFrame_94 (by decide) ?_
  refine wl_put X hP hS (i := 2) (by decide) (kw_cM ) rfl i_M ft_M ft_M_ok fn_M 3 (by decide) lf_M_95 rfl rfl rfl (Nat.le_of_ble_eq_true rfl) d_M_chooseFrame_95 (kw_pM_hand (x := ((((S0.2 2 0 0) % 6) + 1) % 6))  (by rw [Nat.mod_eq_of_lt (show ((((S0.2 2 0 0) % 6) + 1) % 6) < 6 by omega)] <;> exact ((congr (congrArg (fun (a b : Int32) => a - a / b * b) (show (nI ((S0.2 2 0 0) % 6)) + (1 : Int32) = nI (((S0.2 2 0 0) % 6) + 1) from (show (nI ((S0.2 2 0 0) % 6)) + (1 : Int32) = nI (((S0.2 2 0 0) % 6) + 1) from nI_add ((S0.2 2 0 0) % 6) 1))) (show (6 : Int32) = nI 6 from rfl)).trans (pk_rem (a := (((S0.2 2 0 0) % 6) + 1)) (d := 6) (by omega) (by omega) (by omega))))) (fun H locs hP hS => ?_)
  obtain ⟨S2, eS2⟩ : ∃ z, z = kw_sn S0 2 0 0 ((((S0.2 2 0 0) % 6) + 1) % 6) := ⟨_, rfl⟩
  rw [← eS2] at hP
  refine lv_iload_n hx hb d_M_chooseFrame_98 rfl (lv_at hl 0 rfl) ?_
  have hE : k_M_chooseFrame_J80 S0 = (x1, S2) := by
    replace eS2 := eS2.symm
    subst eS2
    replace ex1 := ex1.symm
    subst ex1
    exact rfl
  rw [hE]
  exact wl_iret X hsz hr hlocks hP hS d_M_chooseFrame_99
def k_M_chooseFrame_L27 : Nat → Nat → kw_S → Int32 × kw_S
  | 0, i, S0 =>
    k_M_chooseFrame_J80 S0
  | i_n + 1, i, S0 =>
    if (S0.1 10 (S0.2 5 0 ((S0.2 2 0 0) % 6)) 1) = 0 then
      k_M_chooseFrame_J80 S0
    else
      let S105 := kw_si S0 10 (S0.2 5 0 ((S0.2 2 0 0) % 6)) 1 (0 : Int32)
      let S106 := kw_sn S105 2 0 0 ((((S105.2 2 0 0) % 6) + 1) % 6)
      k_M_chooseFrame_L27 i_n (i + 1) S106
set_option maxHeartbeats 4000000 in
set_option maxRecDepth 100000 in
theorem c_M_chooseFrame_L27 {l : Launch} {D : va_G} {cI cT cS : ClassId} {ad : Nat → Nat} {p_ : Program} {e_ : Env} {s_ : State} {m_ : MethodId} {args : Array Value} {below : List Frame} {meth : Method} {c_ : Code} {sz : Nat} (hinj : wl_inj 83 ad) (X : wl_X p_ s_ m_ args c_ b_M_chooseFrame R_M TT D classes (kw_ty cI cT cS) 83 ad (wl_A 83 ad s_.heap.size)) (hsz : s_.heap.size = sz) (hml : c_.maxLocals = 2) (hr : meth.sig.returnType = some .int) (hlocks : meth.locks = false) :
    ∀ (i_n i : Nat) (S0 : kw_S) (h_i : i + i_n = 6) (hF : ∀ f, f < 6 → S0.2 5 0 f < 32) (H : Heap) (locs : List Loc) (ls : Array Slot), lv_has ls 2 [(0, .ref (ad 2)), (1, .int (nI i))] → va_P D classes (wl_W 83 ad (kw_C cI cT cS ad S0)) H → va_S (wl_A 83 ad s_.heap.size) s_.heap H locs → W p_ l e_ (rm_ 0) s_ m_ args below meth c_ H locs 0 0 (MQ below (wl_Qi D classes (kw_ty cI cT cS) 83 ad ((k_M_chooseFrame_L27 i_n i S0).1) (kw_C cI cT cS ad ((k_M_chooseFrame_L27 i_n i S0).2)) sz) args s_ 0 0 (wl_A 83 ad sz)) (F0 m_ 27 ls []) := by
  have hx := X.1
  have hb := X.2.1
  have hA : ∀ q, s_.heap.size ≤ q → (wl_A 83 ad s_.heap.size) q := fun q h => Or.inr h
  intro i_n
  induction i_n with
  | zero =>
    intro i S0 h_i hF H locs ls hl hP hS
    refine lv_iload_n hx hb d_M_chooseFrame_27 rfl (lv_at hl 1 rfl) ?_
    refine lv_bipush (v := 6) hx hb d_M_chooseFrame_28 (by decide) ?_
    refine lv_icmp_ge (tgt := 80) hx hb d_M_chooseFrame_30 (by decide) (fun c1 => ?_) (fun c1 => ?_)
    · skip
      have hE : k_M_chooseFrame_L27 0 i S0 = k_M_chooseFrame_J80 S0 := by
        exact rfl
      rw [hE]
      exact c_M_chooseFrame_J80 hinj X hsz hml hr hlocks S0 _ _ _ (lv_sub hl [0] rfl) hP hS
    · exact absurd (sk_lhz h_i) c1
  | succ i_n ih =>
    intro i S0 h_i hF H locs ls hl hP hS
    refine lv_iload_n hx hb d_M_chooseFrame_27 rfl (lv_at hl 1 rfl) ?_
    refine lv_bipush (v := 6) hx hb d_M_chooseFrame_28 (by decide) ?_
    refine lv_icmp_ge (tgt := 80) hx hb d_M_chooseFrame_30 (by decide) (fun c101 => ?_) (fun c101 => ?_)
    · exact absurd c101 (sk_lhs h_i)
    · skip
      refine lv_aload_n hx hb d_M_chooseFrame_33 rfl (lv_at hl 0 rfl) ?_
      refine wl_get (v := .ref (ad 4)) X hP (i := 2) (by decide) (kw_cM ) rfl i_M 1 (by decide) lf_M_17 rfl d_M_chooseFrame_34 ?_
      refine lv_aload_n hx hb d_M_chooseFrame_37 rfl (lv_at hl 0 rfl) ?_
      refine wl_get (v := .int (nI ((S0.2 2 0 0) % 6))) X hP (i := 2) (by decide) (kw_cM ) rfl i_M 3 (by decide) lf_M_95 rfl d_M_chooseFrame_38 ?_
      refine wl_aald X hP (i := 4) (by decide) 2 (kw_cAF ) rfl (j := ((S0.2 2 0 0) % 6)) rfl (by omega) (by decide) d_M_chooseFrame_41 ?_
      have hn102 : S0.2 5 0 ((S0.2 2 0 0) % 6) < 32 := (hF _ (by omega))
      refine wl_topv (y := .ref (ad (6 + 2 * (S0.2 5 0 ((S0.2 2 0 0) % 6))))) (kw_nnE hn102) ?_
      refine wl_get (v := .int (S0.1 10 (S0.2 5 0 ((S0.2 2 0 0) % 6)) 1)) X hP (i := (6 + 2 * (S0.2 5 0 ((S0.2 2 0 0) % 6)))) (by omega) (kw_cE (by omega)) rfl i_E 4 (by decide) lf_M_66 rfl d_M_chooseFrame_42 ?_
      refine lv_if_eq (tgt := 80) hx hb d_M_chooseFrame_45 (by decide) (fun c103 => ?_) (fun c103 => ?_)
      · skip
        have hE : k_M_chooseFrame_L27 (i_n + 1) i S0 = k_M_chooseFrame_J80 S0 := by
          exact ((if_pos c103).trans rfl)
        rw [hE]
        exact c_M_chooseFrame_J80 hinj X hsz hml hr hlocks S0 _ _ _ (lv_sub hl [0] rfl) hP hS
      · skip
        refine lv_aload_n hx hb d_M_chooseFrame_48 rfl (lv_at hl 0 rfl) ?_
        refine wl_get (v := .ref (ad 4)) X hP (i := 2) (by decide) (kw_cM ) rfl i_M 1 (by decide) lf_M_17 rfl d_M_chooseFrame_49 ?_
        refine lv_aload_n hx hb d_M_chooseFrame_52 rfl (lv_at hl 0 rfl) ?_
        refine wl_get (v := .int (nI ((S0.2 2 0 0) % 6))) X hP (i := 2) (by decide) (kw_cM ) rfl i_M 3 (by decide) lf_M_95 rfl d_M_chooseFrame_53 ?_
        refine wl_aald X hP (i := 4) (by decide) 2 (kw_cAF ) rfl (j := ((S0.2 2 0 0) % 6)) rfl (by omega) (by decide) d_M_chooseFrame_56 ?_
        have hn104 : S0.2 5 0 ((S0.2 2 0 0) % 6) < 32 := (hF _ (by omega))
        refine wl_topv (y := .ref (ad (6 + 2 * (S0.2 5 0 ((S0.2 2 0 0) % 6))))) (kw_nnE hn104) ?_
        refine lv_iconst (v := 0) hx hb d_M_chooseFrame_57 (by decide) ?_
        refine wl_put X hP hS (i := (6 + 2 * (S0.2 5 0 ((S0.2 2 0 0) % 6)))) (by omega) (kw_cE (by omega)) rfl i_E ft_E ft_E_ok fn_E 4 (by decide) lf_M_66 rfl rfl rfl (Nat.le_of_ble_eq_true rfl) d_M_chooseFrame_58 (kw_pE_used (by omega)) (fun H locs hP hS => ?_)
        obtain ⟨S105, eS105⟩ : ∃ z, z = kw_si S0 10 (S0.2 5 0 ((S0.2 2 0 0) % 6)) 1 (0 : Int32) := ⟨_, rfl⟩
        rw [← eS105] at hP
        refine lv_aload_n hx hb d_M_chooseFrame_61 rfl (lv_at hl 0 rfl) ?_
        refine lv_aload_n hx hb d_M_chooseFrame_62 rfl (lv_at hl 0 rfl) ?_
        refine wl_get (v := .int (nI ((S105.2 2 0 0) % 6))) X hP (i := 2) (by decide) (kw_cM ) rfl i_M 3 (by decide) lf_M_95 rfl d_M_chooseFrame_63 ?_
        refine lv_iconst (v := 1) hx hb d_M_chooseFrame_66 (by decide) ?_
        refine lv_iadd hx hb d_M_chooseFrame_67 ?_
        refine lv_bipush (v := 6) hx hb d_M_chooseFrame_68 (by decide) ?_
        refine lv_irem hx hb d_M_chooseFrame_70 (by decide) ?_
        refine wl_put X hP hS (i := 2) (by decide) (kw_cM ) rfl i_M ft_M ft_M_ok fn_M 3 (by decide) lf_M_95 rfl rfl rfl (Nat.le_of_ble_eq_true rfl) d_M_chooseFrame_71 (kw_pM_hand (x := ((((S105.2 2 0 0) % 6) + 1) % 6))  (by rw [Nat.mod_eq_of_lt (show ((((S105.2 2 0 0) % 6) + 1) % 6) < 6 by omega)] <;> exact ((congr (congrArg (fun (a b : Int32) => a - a / b * b) (show (nI ((S105.2 2 0 0) % 6)) + (1 : Int32) = nI (((S105.2 2 0 0) % 6) + 1) from (show (nI ((S105.2 2 0 0) % 6)) + (1 : Int32) = nI (((S105.2 2 0 0) % 6) + 1) from nI_add ((S105.2 2 0 0) % 6) 1))) (show (6 : Int32) = nI 6 from rfl)).trans (pk_rem (a := (((S105.2 2 0 0) % 6) + 1)) (d := 6) (by omega) (by omega) (by omega))))) (fun H locs hP hS => ?_)
        obtain ⟨S106, eS106⟩ : ∃ z, z = kw_sn S105 2 0 0 ((((S105.2 2 0 0) % 6) + 1) % 6) := ⟨_, rfl⟩
        rw [← eS106] at hP
        refine lv_iinc (v := nI (i + 1)) (lv' := [(1, .int (nI (i + 1))), (0, .ref (ad 2))]) hx hb d_M_chooseFrame_74 hl (k := 1) rfl (nI_1 _) (by decide) rfl (fun ls hl => ?_)
        refine lv_goto (tgt := 27) hx hb d_M_chooseFrame_77 (by decide) ?_
        have hE : k_M_chooseFrame_L27 (i_n + 1) i S0 = k_M_chooseFrame_L27 i_n (i + 1) S106 := by
          replace eS106 := eS106.symm
          subst eS106
          replace eS105 := eS105.symm
          subst eS105
          exact ((if_neg c103).trans rfl)
        rw [hE]
        exact ih (i + 1) S106 (by omega) (fun f hf => by subst_vars; simpa [kw_sn_at, kw_si_o] using hF f hf) _ _ _ (lv_sub hl [1, 0] rfl) hP hS
def k_M_chooseFrame_L2 : Nat → Nat → kw_S → Int32 × kw_S
  | 0, i, S0 =>
    k_M_chooseFrame_L27 6 0 S0
  | i_n + 1, i, S0 =>
    if S0.2 5 0 i < 32 then
      k_M_chooseFrame_L2 i_n (i + 1) S0
    else
      (nI i, S0)
set_option maxHeartbeats 4000000 in
set_option maxRecDepth 100000 in
theorem c_M_chooseFrame_L2 {l : Launch} {D : va_G} {cI cT cS : ClassId} {ad : Nat → Nat} {p_ : Program} {e_ : Env} {s_ : State} {m_ : MethodId} {args : Array Value} {below : List Frame} {meth : Method} {c_ : Code} {sz : Nat} (hinj : wl_inj 83 ad) (X : wl_X p_ s_ m_ args c_ b_M_chooseFrame R_M TT D classes (kw_ty cI cT cS) 83 ad (wl_A 83 ad s_.heap.size)) (hsz : s_.heap.size = sz) (hml : c_.maxLocals = 2) (hr : meth.sig.returnType = some .int) (hlocks : meth.locks = false) :
    ∀ (i_n i : Nat) (S0 : kw_S) (h_i : i + i_n = 6) (hG : ∀ f, f < i → S0.2 5 0 f < 32) (H : Heap) (locs : List Loc) (ls : Array Slot), lv_has ls 2 [(0, .ref (ad 2)), (1, .int (nI i))] → va_P D classes (wl_W 83 ad (kw_C cI cT cS ad S0)) H → va_S (wl_A 83 ad s_.heap.size) s_.heap H locs → W p_ l e_ (rm_ 0) s_ m_ args below meth c_ H locs 0 0 (MQ below (wl_Qi D classes (kw_ty cI cT cS) 83 ad ((k_M_chooseFrame_L2 i_n i S0).1) (kw_C cI cT cS ad ((k_M_chooseFrame_L2 i_n i S0).2)) sz) args s_ 0 0 (wl_A 83 ad sz)) (F0 m_ 2 ls []) := by
  have hx := X.1
  have hb := X.2.1
  have hA : ∀ q, s_.heap.size ≤ q → (wl_A 83 ad s_.heap.size) q := fun q h => Or.inr h
  intro i_n
  induction i_n with
  | zero =>
    intro i S0 h_i hG H locs ls hl hP hS
    refine lv_iload_n hx hb d_M_chooseFrame_2 rfl (lv_at hl 1 rfl) ?_
    refine lv_bipush (v := 6) hx hb d_M_chooseFrame_3 (by decide) ?_
    refine lv_icmp_ge (tgt := 25) hx hb d_M_chooseFrame_5 (by decide) (fun c1 => ?_) (fun c1 => ?_)
    · skip
      refine lv_iconst (v := 0) hx hb d_M_chooseFrame_25 (by decide) ?_
      refine lv_istore_n (lv' := [(1, .int (0 : Int32)), (0, .ref (ad 2))]) hx hb d_M_chooseFrame_26 rfl hl (by decide) rfl (fun ls hl => ?_)
      have hE : k_M_chooseFrame_L2 0 i S0 = k_M_chooseFrame_L27 6 0 S0 := by
        exact rfl
      rw [hE]
      exact c_M_chooseFrame_L27 hinj X hsz hml hr hlocks 6 0 S0 (by omega) (fun f hf => hG f (by omega)) _ _ _ (lv_sub hl [1, 0] rfl) hP hS
    · exact absurd (sk_lhz h_i) c1
  | succ i_n ih =>
    intro i S0 h_i hG H locs ls hl hP hS
    refine lv_iload_n hx hb d_M_chooseFrame_2 rfl (lv_at hl 1 rfl) ?_
    refine lv_bipush (v := 6) hx hb d_M_chooseFrame_3 (by decide) ?_
    refine lv_icmp_ge (tgt := 25) hx hb d_M_chooseFrame_5 (by decide) (fun c101 => ?_) (fun c101 => ?_)
    · exact absurd c101 (sk_lhs h_i)
    · skip
      refine lv_aload_n hx hb d_M_chooseFrame_8 rfl (lv_at hl 0 rfl) ?_
      refine wl_get (v := .ref (ad 4)) X hP (i := 2) (by decide) (kw_cM ) rfl i_M 1 (by decide) lf_M_17 rfl d_M_chooseFrame_9 ?_
      refine lv_iload_n hx hb d_M_chooseFrame_12 rfl (lv_at hl 1 rfl) ?_
      refine wl_aald X hP (i := 4) (by decide) 2 (kw_cAF ) rfl (j := i) rfl (by omega) (by decide) d_M_chooseFrame_13 ?_
      refine kw_caseE (fun h102 => ?_) (fun h102 => ?_)
      · skip
        refine lv_ifnonnull (tgt := 19) hx hb d_M_chooseFrame_14 (by decide) ?_
        refine lv_iinc (v := nI (i + 1)) (lv' := [(1, .int (nI (i + 1))), (0, .ref (ad 2))]) hx hb d_M_chooseFrame_19 hl (k := 1) rfl (nI_1 _) (by decide) rfl (fun ls hl => ?_)
        refine lv_goto (tgt := 2) hx hb d_M_chooseFrame_22 (by decide) ?_
        have hE : k_M_chooseFrame_L2 (i_n + 1) i S0 = k_M_chooseFrame_L2 i_n (i + 1) S0 := by
          exact ((if_pos h102).trans rfl)
        rw [hE]
        exact ih (i + 1) S0 (by omega) (lt_s (p := fun f => S0.2 5 0 f < 32) hG h102) _ _ _ (lv_sub hl [1, 0] rfl) hP hS
      · skip
        refine lv_ifnonnullN hx hb d_M_chooseFrame_14 ?_
        refine lv_iload_n hx hb d_M_chooseFrame_17 rfl (lv_at hl 1 rfl) ?_
        have hE : k_M_chooseFrame_L2 (i_n + 1) i S0 = (nI i, S0) := by
          exact ((if_neg h102).trans rfl)
        rw [hE]
        exact wl_iret X hsz hr hlocks hP hS d_M_chooseFrame_18
def k_M_chooseFrame (S0 : kw_S) : Int32 × kw_S :=
  k_M_chooseFrame_L2 6 0 S0
set_option maxHeartbeats 4000000 in
set_option maxRecDepth 100000 in
theorem c_M_chooseFrame {l : Launch} {D : va_G} {cI cT cS : ClassId} {ad : Nat → Nat} (hinj : wl_inj 83 ad) (S0 : kw_S)  : wl_Mi l y_M_chooseFrame (Cond.code y_M_chooseFrame b_M_chooseFrame 2 (some .int) :: TT) (rm_ 0) D classes (kw_ty cI cT cS) 83 ad [.ref (ad 2)] (kw_C cI cT cS ad S0) ((k_M_chooseFrame S0).1) (kw_C cI cT cS ad ((k_M_chooseFrame S0).2)) := by
  intro sz
  refine wl_enter (own := R_M) rfl (by decide) (Nat.le_of_ble_eq_true rfl) hinj (fun p_ e_ s_ m_ below meth c_ ls hsz X hml hr hlocks hl hP hS => ?_)
  have hx := X.1
  have hb := X.2.1
  have hA : ∀ q, s_.heap.size ≤ q → (wl_A 83 ad s_.heap.size) q := fun q h => Or.inr h
  have hl : lv_has ls 2 [(0, .ref (ad 2))] := hl
  refine lv_iconst (v := 0) hx hb d_M_chooseFrame_0 (by decide) ?_
  refine lv_istore_n (lv' := [(1, .int (0 : Int32)), (0, .ref (ad 2))]) hx hb d_M_chooseFrame_1 rfl hl (by decide) rfl (fun ls hl => ?_)
  have hE : k_M_chooseFrame S0 = k_M_chooseFrame_L2 6 0 S0 := by
    exact rfl
  rw [hE]
  exact c_M_chooseFrame_L2 hinj X hsz hml hr hlocks 6 0 S0 (by omega) (fun f hf => absurd hf (Nat.not_lt_zero f)) _ _ _ (lv_sub hl [1, 0] rfl) hP hS
def k_M_release_J68 (e : Nat) (S0 : kw_S) : kw_S :=
  let S1 := kw_si S0 10 e 1 (0 : Int32)
  let S2 := kw_si S1 10 e 2 (0 : Int32)
  S2
set_option maxHeartbeats 4000000 in
set_option maxRecDepth 100000 in
theorem c_M_release_J68 {l : Launch} {D : va_G} {cI cT cS : ClassId} {ad : Nat → Nat} {p_ : Program} {e_ : Env} {s_ : State} {m_ : MethodId} {args : Array Value} {below : List Frame} {meth : Method} {c_ : Code} {sz : Nat} (hinj : wl_inj 83 ad) (X : wl_X p_ s_ m_ args c_ b_M_release R_M TT D classes (kw_ty cI cT cS) 83 ad (wl_A 83 ad s_.heap.size)) (hsz : s_.heap.size = sz) (hml : c_.maxLocals = 2) (hr : meth.sig.returnType = none) (hlocks : meth.locks = false) :
    ∀ (e : Nat) (h_e : e < 32) (S0 : kw_S) (H : Heap) (locs : List Loc) (ls : Array Slot), lv_has ls 2 [(0, .ref (ad 2)), (1, .ref (ad (6 + 2 * e)))] → va_P D classes (wl_W 83 ad (kw_C cI cT cS ad S0)) H → va_S (wl_A 83 ad s_.heap.size) s_.heap H locs → W p_ l e_ (rm_ 0) s_ m_ args below meth c_ H locs 0 0 (MQ below (wl_Qv D classes (kw_ty cI cT cS) 83 ad (kw_C cI cT cS ad (k_M_release_J68 e S0)) sz) args s_ 0 0 (wl_A 83 ad sz)) (F0 m_ 68 ls []) := by
  have hx := X.1
  have hb := X.2.1
  have hA : ∀ q, s_.heap.size ≤ q → (wl_A 83 ad s_.heap.size) q := fun q h => Or.inr h
  intro e h_e S0 H locs ls hl hP hS
  refine lv_aload_n hx hb d_M_release_68 rfl (lv_at hl 1 rfl) ?_
  refine lv_iconst (v := 0) hx hb d_M_release_69 (by decide) ?_
  refine wl_put X hP hS (i := (6 + 2 * e)) (by omega) (kw_cE (by omega)) rfl i_E ft_E ft_E_ok fn_E 4 (by decide) lf_M_66 rfl rfl rfl (Nat.le_of_ble_eq_true rfl) d_M_release_70 (kw_pE_used (by omega)) (fun H locs hP hS => ?_)
  obtain ⟨S1, eS1⟩ : ∃ z, z = kw_si S0 10 e 1 (0 : Int32) := ⟨_, rfl⟩
  rw [← eS1] at hP
  refine lv_aload_n hx hb d_M_release_73 rfl (lv_at hl 1 rfl) ?_
  refine lv_iconst (v := 0) hx hb d_M_release_74 (by decide) ?_
  refine wl_put X hP hS (i := (6 + 2 * e)) (by omega) (kw_cE (by omega)) rfl i_E ft_E ft_E_ok fn_E 5 (by decide) lf_M_70 rfl rfl rfl (Nat.le_of_ble_eq_true rfl) d_M_release_75 (kw_pE_changed (by omega)) (fun H locs hP hS => ?_)
  obtain ⟨S2, eS2⟩ : ∃ z, z = kw_si S1 10 e 2 (0 : Int32) := ⟨_, rfl⟩
  rw [← eS2] at hP
  have hE : k_M_release_J68 e S0 = S2 := by
    replace eS2 := eS2.symm
    subst eS2
    replace eS1 := eS1.symm
    subst eS1
    exact rfl
  rw [hE]
  exact wl_vret X hsz hr hlocks hP hS d_M_release_78
def k_M_release_J43 (e : Nat) (S0 : kw_S) : kw_S :=
  if (kw_sl (S0.2 10 e 1)) = (-2 : Int32) then
    k_M_release_J68 e S0
  else
    let S2 := kw_sn S0 6 0 (S0.2 10 e 1) 32
    let S3 := kw_sn S2 10 e 1 32
    k_M_release_J68 e S3
set_option maxHeartbeats 4000000 in
set_option maxRecDepth 100000 in
theorem c_M_release_J43 {l : Launch} {D : va_G} {cI cT cS : ClassId} {ad : Nat → Nat} {p_ : Program} {e_ : Env} {s_ : State} {m_ : MethodId} {args : Array Value} {below : List Frame} {meth : Method} {c_ : Code} {sz : Nat} (hinj : wl_inj 83 ad) (X : wl_X p_ s_ m_ args c_ b_M_release R_M TT D classes (kw_ty cI cT cS) 83 ad (wl_A 83 ad s_.heap.size)) (hsz : s_.heap.size = sz) (hml : c_.maxLocals = 2) (hr : meth.sig.returnType = none) (hlocks : meth.locks = false) :
    ∀ (e : Nat) (h_e : e < 32) (S0 : kw_S) (H : Heap) (locs : List Loc) (ls : Array Slot), lv_has ls 2 [(0, .ref (ad 2)), (1, .ref (ad (6 + 2 * e)))] → va_P D classes (wl_W 83 ad (kw_C cI cT cS ad S0)) H → va_S (wl_A 83 ad s_.heap.size) s_.heap H locs → W p_ l e_ (rm_ 0) s_ m_ args below meth c_ H locs 0 0 (MQ below (wl_Qv D classes (kw_ty cI cT cS) 83 ad (kw_C cI cT cS ad (k_M_release_J43 e S0)) sz) args s_ 0 0 (wl_A 83 ad sz)) (F0 m_ 43 ls []) := by
  have hx := X.1
  have hb := X.2.1
  have hA : ∀ q, s_.heap.size ≤ q → (wl_A 83 ad s_.heap.size) q := fun q h => Or.inr h
  intro e h_e S0 H locs ls hl hP hS
  refine lv_aload_n hx hb d_M_release_43 rfl (lv_at hl 1 rfl) ?_
  refine wl_get (v := .int (kw_sl (S0.2 10 e 1))) X hP (i := (6 + 2 * e)) (by omega) (kw_cE (by omega)) rfl i_E 3 (by decide) lf_M_49 rfl d_M_release_44 ?_
  refine lv_bipush (v := -2) hx hb d_M_release_47 (by decide) ?_
  refine lv_icmp_eq (tgt := 68) hx hb d_M_release_49 (by decide) (fun c1 => ?_) (fun c1 => ?_)
  · skip
    have hE : k_M_release_J43 e S0 = k_M_release_J68 e S0 := by
      exact ((if_pos c1).trans rfl)
    rw [hE]
    exact c_M_release_J68 hinj X hsz hml hr hlocks e (by omega) S0 _ _ _ (lv_sub hl [0, 1] rfl) hP hS
  · skip
    refine lv_aload_n hx hb d_M_release_52 rfl (lv_at hl 0 rfl) ?_
    refine wl_get (v := .ref (ad 5)) X hP (i := 2) (by decide) (kw_cM ) rfl i_M 2 (by decide) lf_M_20 rfl d_M_release_53 ?_
    refine lv_aload_n hx hb d_M_release_56 rfl (lv_at hl 1 rfl) ?_
    refine wl_get (v := .int (kw_sl (S0.2 10 e 1))) X hP (i := (6 + 2 * e)) (by omega) (kw_cE (by omega)) rfl i_E 3 (by decide) lf_M_49 rfl d_M_release_57 ?_
    refine lv_null hx hb d_M_release_60 ?_
    refine wl_aastN X hP hS (i := 5) (by decide) 2 (kw_cAL ) rfl (j := (S0.2 10 e 1)) (kw_sl_in c1).1 (kw_sl_in c1).2 (by decide) d_M_release_61 (kw_pnAL ) (fun H locs hP hS => ?_)
    obtain ⟨S2, eS2⟩ : ∃ z, z = kw_sn S0 6 0 (S0.2 10 e 1) 32 := ⟨_, rfl⟩
    rw [← eS2] at hP
    refine lv_aload_n hx hb d_M_release_62 rfl (lv_at hl 1 rfl) ?_
    refine lv_bipush (v := -2) hx hb d_M_release_63 (by decide) ?_
    refine wl_put X hP hS (i := (6 + 2 * e)) (by omega) (kw_cE (by omega)) rfl i_E ft_E ft_E_ok fn_E 3 (by decide) lf_M_49 rfl rfl rfl (Nat.le_of_ble_eq_true rfl) d_M_release_65 (kw_pE_slot (x := 32) (by omega) (by decide)) (fun H locs hP hS => ?_)
    obtain ⟨S3, eS3⟩ : ∃ z, z = kw_sn S2 10 e 1 32 := ⟨_, rfl⟩
    rw [← eS3] at hP
    have hE : k_M_release_J43 e S0 = k_M_release_J68 e S3 := by
      replace eS3 := eS3.symm
      subst eS3
      replace eS2 := eS2.symm
      subst eS2
      exact ((if_neg c1).trans rfl)
    rw [hE]
    exact c_M_release_J68 hinj X hsz hml hr hlocks e (by omega) S3 _ _ _ (lv_sub hl [0, 1] rfl) hP hS
def k_M_release (S0 : kw_S) (e : Nat) : kw_S :=
  let S1 := kw_si S0 10 e 0 ((S0.1 10 e 0) - (1 : Int32))
  if (S1.1 10 e 0) ≤ 0 then
    if (kw_fr (S1.2 10 e 0)) = (-2 : Int32) then
      k_M_release_J43 e S1
    else
      let S4 := kw_sn S1 5 0 (S1.2 10 e 0) 32
      let S5 := kw_sn S4 10 e 0 6
      k_M_release_J43 e S5
  else
    S1
set_option maxHeartbeats 4000000 in
set_option maxRecDepth 100000 in
theorem c_M_release {l : Launch} {D : va_G} {cI cT cS : ClassId} {ad : Nat → Nat} (hinj : wl_inj 83 ad) (S0 : kw_S) (e : Nat) (h_e : e < 32) : wl_Mv l y_M_release (Cond.code y_M_release b_M_release 2 none :: TT) (rm_ 0) D classes (kw_ty cI cT cS) 83 ad [.ref (ad 2), .ref (ad (6 + 2 * e))] (kw_C cI cT cS ad S0)  (kw_C cI cT cS ad (k_M_release S0 e)) := by
  intro sz
  refine wl_enter (own := R_M) rfl (by decide) (Nat.le_of_ble_eq_true rfl) hinj (fun p_ e_ s_ m_ below meth c_ ls hsz X hml hr hlocks hl hP hS => ?_)
  have hx := X.1
  have hb := X.2.1
  have hA : ∀ q, s_.heap.size ≤ q → (wl_A 83 ad s_.heap.size) q := fun q h => Or.inr h
  have hl : lv_has ls 2 [(0, .ref (ad 2)), (1, .ref (ad (6 + 2 * e)))] := hl
  refine lv_aload_n hx hb d_M_release_0 rfl (lv_at hl 1 rfl) ?_
  refine lv_dup hx hb d_M_release_1 rfl ?_
  refine wl_get (v := .int (S0.1 10 e 0)) X hP (i := (6 + 2 * e)) (by omega) (kw_cE (by omega)) rfl i_E 1 (by decide) lf_M_59 rfl d_M_release_2 ?_
  refine lv_iconst (v := 1) hx hb d_M_release_5 (by decide) ?_
  refine lv_isub hx hb d_M_release_6 ?_
  refine wl_put X hP hS (i := (6 + 2 * e)) (by omega) (kw_cE (by omega)) rfl i_E ft_E ft_E_ok fn_E 1 (by decide) lf_M_59 rfl rfl rfl (Nat.le_of_ble_eq_true rfl) d_M_release_7 (kw_pE_owners (by omega)) (fun H locs hP hS => ?_)
  obtain ⟨S1, eS1⟩ : ∃ z, z = kw_si S0 10 e 0 ((S0.1 10 e 0) - (1 : Int32)) := ⟨_, rfl⟩
  rw [← eS1] at hP
  refine lv_aload_n hx hb d_M_release_10 rfl (lv_at hl 1 rfl) ?_
  refine wl_get (v := .int (S1.1 10 e 0)) X hP (i := (6 + 2 * e)) (by omega) (kw_cE (by omega)) rfl i_E 1 (by decide) lf_M_59 rfl d_M_release_11 ?_
  refine lv_if_le (tgt := 18) hx hb d_M_release_14 (by decide) (fun c2 => ?_) (fun c2 => ?_)
  · skip
    refine lv_aload_n hx hb d_M_release_18 rfl (lv_at hl 1 rfl) ?_
    refine wl_get (v := .int (kw_fr (S1.2 10 e 0))) X hP (i := (6 + 2 * e)) (by omega) (kw_cE (by omega)) rfl i_E 2 (by decide) lf_M_41 rfl d_M_release_19 ?_
    refine lv_bipush (v := -2) hx hb d_M_release_22 (by decide) ?_
    refine lv_icmp_eq (tgt := 43) hx hb d_M_release_24 (by decide) (fun c3 => ?_) (fun c3 => ?_)
    · skip
      have hE : k_M_release S0 e = k_M_release_J43 e S1 := by
        replace eS1 := eS1.symm
        subst eS1
        exact ((if_pos c2).trans ((if_pos c3).trans rfl))
      rw [hE]
      exact c_M_release_J43 hinj X hsz hml hr hlocks e (by omega) S1 _ _ _ (lv_sub hl [0, 1] rfl) hP hS
    · skip
      refine lv_aload_n hx hb d_M_release_27 rfl (lv_at hl 0 rfl) ?_
      refine wl_get (v := .ref (ad 4)) X hP (i := 2) (by decide) (kw_cM ) rfl i_M 1 (by decide) lf_M_17 rfl d_M_release_28 ?_
      refine lv_aload_n hx hb d_M_release_31 rfl (lv_at hl 1 rfl) ?_
      refine wl_get (v := .int (kw_fr (S1.2 10 e 0))) X hP (i := (6 + 2 * e)) (by omega) (kw_cE (by omega)) rfl i_E 2 (by decide) lf_M_41 rfl d_M_release_32 ?_
      refine lv_null hx hb d_M_release_35 ?_
      refine wl_aastN X hP hS (i := 4) (by decide) 2 (kw_cAF ) rfl (j := (S1.2 10 e 0)) (kw_fr_in c3).1 (kw_fr_in c3).2 (by decide) d_M_release_36 (kw_pnAF ) (fun H locs hP hS => ?_)
      obtain ⟨S4, eS4⟩ : ∃ z, z = kw_sn S1 5 0 (S1.2 10 e 0) 32 := ⟨_, rfl⟩
      rw [← eS4] at hP
      refine lv_aload_n hx hb d_M_release_37 rfl (lv_at hl 1 rfl) ?_
      refine lv_bipush (v := -2) hx hb d_M_release_38 (by decide) ?_
      refine wl_put X hP hS (i := (6 + 2 * e)) (by omega) (kw_cE (by omega)) rfl i_E ft_E ft_E_ok fn_E 2 (by decide) lf_M_41 rfl rfl rfl (Nat.le_of_ble_eq_true rfl) d_M_release_40 (kw_pE_frame (x := 6) (by omega) (by decide)) (fun H locs hP hS => ?_)
      obtain ⟨S5, eS5⟩ : ∃ z, z = kw_sn S4 10 e 0 6 := ⟨_, rfl⟩
      rw [← eS5] at hP
      have hE : k_M_release S0 e = k_M_release_J43 e S5 := by
        replace eS5 := eS5.symm
        subst eS5
        replace eS4 := eS4.symm
        subst eS4
        replace eS1 := eS1.symm
        subst eS1
        exact ((if_pos c2).trans ((if_neg c3).trans rfl))
      rw [hE]
      exact c_M_release_J43 hinj X hsz hml hr hlocks e (by omega) S5 _ _ _ (lv_sub hl [0, 1] rfl) hP hS
  · skip
    have hE : k_M_release S0 e = S1 := by
      replace eS1 := eS1.symm
      subst eS1
      exact ((if_neg c2).trans rfl)
    rw [hE]
    exact wl_vret X hsz hr hlocks hP hS d_M_release_17
def k_M_releaseAll_L2 : Nat → Nat → Nat → kw_S → kw_S
  | 0, i, p, S0 =>
    S0
  | i_n + 1, i, p, S0 =>
    if S0.2 9 p i < 32 then
      let S103 := kw_sn S0 9 p i 32
      let S104 := k_M_release S103 (S0.2 9 p i)
      k_M_releaseAll_L2 i_n (i + 1) p S104
    else
      k_M_releaseAll_L2 i_n (i + 1) p S0
set_option maxHeartbeats 4000000 in
set_option maxRecDepth 100000 in
theorem c_M_releaseAll_L2 {l : Launch} {D : va_G} {cI cT cS : ClassId} {ad : Nat → Nat} {p_ : Program} {e_ : Env} {s_ : State} {m_ : MethodId} {args : Array Value} {below : List Frame} {meth : Method} {c_ : Code} {sz : Nat} (hinj : wl_inj 83 ad) (X : wl_X p_ s_ m_ args c_ b_M_releaseAll R_M TT D classes (kw_ty cI cT cS) 83 ad (wl_A 83 ad s_.heap.size)) (hsz : s_.heap.size = sz) (hml : c_.maxLocals = 4) (hr : meth.sig.returnType = none) (hlocks : meth.locks = false) :
    ∀ (i_n i : Nat) (p : Nat) (h_p : p < 4) (S0 : kw_S) (h_i : i + i_n = 8) (H : Heap) (locs : List Loc) (ls : Array Slot), lv_has ls 4 [(0, .ref (ad 2)), (1, .ref (ad (71 + 3 * p))), (2, .int (nI i))] → va_P D classes (wl_W 83 ad (kw_C cI cT cS ad S0)) H → va_S (wl_A 83 ad s_.heap.size) s_.heap H locs → W p_ l e_ (rm_ 1) s_ m_ args below meth c_ H locs 0 0 (MQ below (wl_Qv D classes (kw_ty cI cT cS) 83 ad (kw_C cI cT cS ad (k_M_releaseAll_L2 i_n i p S0)) sz) args s_ 0 0 (wl_A 83 ad sz)) (F0 m_ 2 ls []) := by
  have hx := X.1
  have hb := X.2.1
  have hA : ∀ q, s_.heap.size ≤ q → (wl_A 83 ad s_.heap.size) q := fun q h => Or.inr h
  intro i_n
  induction i_n with
  | zero =>
    intro i p h_p S0 h_i H locs ls hl hP hS
    refine lv_iload_n hx hb d_M_releaseAll_2 rfl (lv_at hl 2 rfl) ?_
    refine lv_bipush (v := 8) hx hb d_M_releaseAll_3 (by decide) ?_
    refine lv_icmp_ge (tgt := 37) hx hb d_M_releaseAll_5 (by decide) (fun c1 => ?_) (fun c1 => ?_)
    · skip
      have hE : k_M_releaseAll_L2 0 i p S0 = S0 := by
        exact rfl
      rw [hE]
      exact wl_vret X hsz hr hlocks hP hS d_M_releaseAll_37
    · exact absurd (sk_lhz h_i) c1
  | succ i_n ih =>
    intro i p h_p S0 h_i H locs ls hl hP hS
    refine lv_iload_n hx hb d_M_releaseAll_2 rfl (lv_at hl 2 rfl) ?_
    refine lv_bipush (v := 8) hx hb d_M_releaseAll_3 (by decide) ?_
    refine lv_icmp_ge (tgt := 37) hx hb d_M_releaseAll_5 (by decide) (fun c101 => ?_) (fun c101 => ?_)
    · exact absurd c101 (sk_lhs h_i)
    · skip
      refine lv_aload_n hx hb d_M_releaseAll_8 rfl (lv_at hl 1 rfl) ?_
      refine wl_get (v := .ref (ad (73 + 3 * p))) X hP (i := (71 + 3 * p)) (by omega) (kw_cT (by omega)) rfl i_T 1 (by decide) lf_M_32 rfl d_M_releaseAll_9 ?_
      refine lv_iload_n hx hb d_M_releaseAll_12 rfl (lv_at hl 2 rfl) ?_
      refine wl_aald X hP (i := (73 + 3 * p)) (by omega) 2 (kw_cAP (by omega)) rfl (j := i) rfl (by omega) (by decide) d_M_releaseAll_13 ?_
      refine kw_caseE (fun h102 => ?_) (fun h102 => ?_)
      · skip
        refine lv_astore_n (lv' := [(3, .ref (ad (6 + 2 * (S0.2 9 p i)))), (0, .ref (ad 2)), (1, .ref (ad (71 + 3 * p))), (2, .int (nI i))]) hx hb d_M_releaseAll_14 rfl hl (by decide) rfl (fun ls hl => ?_)
        refine lv_aload_n hx hb d_M_releaseAll_15 rfl (lv_at hl 0 rfl) ?_
        refine lv_ifnull hx hb d_M_releaseAll_16 ?_
        refine lv_aload_n hx hb d_M_releaseAll_19 rfl (lv_at hl 2 rfl) ?_
        refine wl_get (v := .ref (ad (73 + 3 * p))) X hP (i := (71 + 3 * p)) (by omega) (kw_cT (by omega)) rfl i_T 1 (by decide) lf_M_32 rfl d_M_releaseAll_20 ?_
        refine lv_iload_n hx hb d_M_releaseAll_23 rfl (lv_at hl 3 rfl) ?_
        refine lv_null hx hb d_M_releaseAll_24 ?_
        refine wl_aastN X hP hS (i := (73 + 3 * p)) (by omega) 2 (kw_cAP (by omega)) rfl (j := i) rfl (by omega) (by decide) d_M_releaseAll_25 (kw_pnAP (by omega)) (fun H locs hP hS => ?_)
        obtain ⟨S103, eS103⟩ : ∃ z, z = kw_sn S0 9 p i 32 := ⟨_, rfl⟩
        rw [← eS103] at hP
        refine lv_aload_n hx hb d_M_releaseAll_26 rfl (lv_at hl 1 rfl) ?_
        refine lv_aload_n hx hb d_M_releaseAll_27 rfl (lv_at hl 0 rfl) ?_
        refine wl_gov2 (cf := kw_C cI cT cS ad) (S2 := k_M_release S103 (S0.2 9 p i)) hS hA X.2.2.2.2.2.2 (wl_runV (As := [.ref (ad (6 + 2 * (S0.2 9 p i)))]) (rest := []) X hml hl.1 hP g_TT (c_M_release hinj S103 (S0.2 9 p i) (by omega) _) (by decide) (kw_cM ) rfl wv_M_104 (na := 1) (by decide +kernel) rfl ⟨Nat.le_of_ble_eq_true rfl, Nat.le_of_ble_eq_true rfl⟩ rfl (Nat.le_of_ble_eq_true rfl) d_M_releaseAll_28 ⟨Nat.le_refl _, Nat.le_refl _⟩) (fun S104 eS104 H locs hP hS => ?_)
        refine lv_iinc (v := nI (i + 1)) (lv' := [(2, .int (nI (i + 1))), (3, .ref (ad (6 + 2 * (S0.2 9 p i)))), (0, .ref (ad 2)), (1, .ref (ad (71 + 3 * p)))]) hx hb d_M_releaseAll_31 hl (k := 3) rfl (nI_1 _) (by decide) rfl (fun ls hl => ?_)
        refine lv_goto (tgt := 2) hx hb d_M_releaseAll_34 (by decide) ?_
        have hE : k_M_releaseAll_L2 (i_n + 1) i p S0 = k_M_releaseAll_L2 i_n (i + 1) p S104 := by
          replace eS104 := eS104.symm
          subst eS104
          replace eS103 := eS103.symm
          subst eS103
          exact ((if_pos h102).trans rfl)
        rw [hE]
        exact ih (i + 1) p (by omega) S104 (by omega) _ _ _ (lv_sub hl [2, 3, 0] rfl) hP hS
      · skip
        refine lv_astore_nN (lv' := [(3, .null), (0, .ref (ad 2)), (1, .ref (ad (71 + 3 * p))), (2, .int (nI i))]) hx hb d_M_releaseAll_14 rfl hl (by decide) rfl (fun ls hl => ?_)
        refine lv_aload_nN hx hb d_M_releaseAll_15 rfl (lv_at hl 0 rfl) ?_
        refine lv_ifnullN (tgt := 31) hx hb d_M_releaseAll_16 (by decide) ?_
        refine lv_iinc (v := nI (i + 1)) (lv' := [(2, .int (nI (i + 1))), (3, .null), (0, .ref (ad 2)), (1, .ref (ad (71 + 3 * p)))]) hx hb d_M_releaseAll_31 hl (k := 3) rfl (nI_1 _) (by decide) rfl (fun ls hl => ?_)
        refine lv_goto (tgt := 2) hx hb d_M_releaseAll_34 (by decide) ?_
        have hE : k_M_releaseAll_L2 (i_n + 1) i p S0 = k_M_releaseAll_L2 i_n (i + 1) p S0 := by
          exact ((if_neg h102).trans rfl)
        rw [hE]
        exact ih (i + 1) p (by omega) S0 (by omega) _ _ _ (lv_sub hl [2, 3, 0] rfl) hP hS
def k_M_releaseAll (S0 : kw_S) (p : Nat) : kw_S :=
  k_M_releaseAll_L2 8 0 p S0
set_option maxHeartbeats 4000000 in
set_option maxRecDepth 100000 in
theorem c_M_releaseAll {l : Launch} {D : va_G} {cI cT cS : ClassId} {ad : Nat → Nat} (hinj : wl_inj 83 ad) (S0 : kw_S) (p : Nat) (h_p : p < 4) : wl_Mv l y_M_releaseAll (Cond.code y_M_releaseAll b_M_releaseAll 4 none :: TT) (rm_ 1) D classes (kw_ty cI cT cS) 83 ad [.ref (ad 2), .ref (ad (71 + 3 * p))] (kw_C cI cT cS ad S0)  (kw_C cI cT cS ad (k_M_releaseAll S0 p)) := by
  intro sz
  refine wl_enter (own := R_M) rfl (by decide) (Nat.le_of_ble_eq_true rfl) hinj (fun p_ e_ s_ m_ below meth c_ ls hsz X hml hr hlocks hl hP hS => ?_)
  have hx := X.1
  have hb := X.2.1
  have hA : ∀ q, s_.heap.size ≤ q → (wl_A 83 ad s_.heap.size) q := fun q h => Or.inr h
  have hl : lv_has ls 4 [(0, .ref (ad 2)), (1, .ref (ad (71 + 3 * p)))] := hl
  refine lv_iconst (v := 0) hx hb d_M_releaseAll_0 (by decide) ?_
  refine lv_istore_n (lv' := [(2, .int (0 : Int32)), (0, .ref (ad 2)), (1, .ref (ad (71 + 3 * p)))]) hx hb d_M_releaseAll_1 rfl hl (by decide) rfl (fun ls hl => ?_)
  have hE : k_M_releaseAll S0 p = k_M_releaseAll_L2 8 0 p S0 := by
    exact rfl
  rw [hE]
  exact c_M_releaseAll_L2 hinj X hsz hml hr hlocks 8 0 p (by omega) S0 (by omega) _ _ _ (lv_sub hl [1, 2, 0] rfl) hP hS
