def kw_T3 (S : kw_S) : Int32 × kw_S := k_K_giveTurn (k_K_wakeSleepers (kw_si S 0 0 0 (S.1 0 0 0 + (1 : Int32))))
/-- what n ticks need: whoever does an instruction has room for a print, and the frames know their sheets -/
def kw_RI : Nat → kw_S → Prop
  | 0, _ => True
  | n + 1, S => if (kw_T3 S).1 = 0 then kw_RI n (kw_si (kw_T3 S).2 0 0 1 ((kw_T3 S).2.1 0 0 1 + (1 : Int32))) else (((kw_T3 S).2.2 0 0 0 < 2 ^ 30 ∧ kw_FI (kw_T3 S).2) ∧ kw_RI n (k_K_doInstruction (kw_T3 S).2 ((kw_T3 S).2.2 0 0 1 % 4)))
theorem kw_RI_i {n : Nat} {S : kw_S} (h : kw_RI (n + 1) S) (c : (kw_T3 S).1 = 0) : kw_RI n (kw_si (kw_T3 S).2 0 0 1 ((kw_T3 S).2.1 0 0 1 + (1 : Int32))) := by
  unfold kw_RI at h
  rw [if_pos c] at h
  exact h
theorem kw_RI_b {n : Nat} {S : kw_S} (h : kw_RI (n + 1) S) (c : ¬ (kw_T3 S).1 = 0) : ((kw_T3 S).2.2 0 0 0 < 2 ^ 30 ∧ kw_FI (kw_T3 S).2) ∧ kw_RI n (k_K_doInstruction (kw_T3 S).2 ((kw_T3 S).2.2 0 0 1 % 4)) := by
  unfold kw_RI at h
  rw [if_neg c] at h
  exact h
theorem kq_run {n : Int32} (h0 : ¬ n < 1) (h1 : n ≤ 40) : n = nI n.toNatClampNeg ∧ n.toNatClampNeg < 41 := by
  have a0 : ¬ n < 0 := fun h => h0 (Int32.lt_trans h (by decide))
  have a1 : ¬ nI 41 ≤ n := fun h => absurd (Int32.le_trans h h1) (by decide)
  exact sk_rng 41 a0 a1 (by decide)
def k_K_run_L17 : Nat → Nat → Nat → Int32 → kw_S → Int32 × kw_S
  | 0, i, n, b, S0 =>
    (b, S0)
  | i_n + 1, i, n, b, S0 =>
    let S102 := kw_si S0 0 0 0 ((S0.1 0 0 0) + (1 : Int32))
    let S103 := k_K_wakeSleepers S102
    let r104 := (k_K_giveTurn S103).1
    let S105 := (k_K_giveTurn S103).2
    if r104 = 0 then
      let S107 := kw_si S105 0 0 1 ((S105.1 0 0 1) + (1 : Int32))
      k_K_run_L17 i_n (i + 1) n b S107
    else
      let S108 := k_K_doInstruction S105 ((S105.2 0 0 1) % 4)
      let x109 := b + Int32.ofInt (1)
      k_K_run_L17 i_n (i + 1) n x109 S108
set_option maxHeartbeats 4000000 in
set_option maxRecDepth 100000 in
theorem c_K_run_L17 {l : Launch} {D : va_G} {cI cT cS : ClassId} {ad : Nat → Nat} {p_ : Program} {e_ : Env} {s_ : State} {m_ : MethodId} {args : Array Value} {below : List Frame} {meth : Method} {c_ : Code} {sz : Nat} (hinj : wl_inj 83 ad) (X : wl_X p_ s_ m_ args c_ b_K_run R_K TT D classes (kw_ty cI cT cS) 83 ad (wl_A 83 ad s_.heap.size)) (hsz : s_.heap.size = sz) (hml : c_.maxLocals = 4) (hr : meth.sig.returnType = some .int) (hlocks : meth.locks = false) :
    ∀ (i_n i : Nat) (x_n : Int32) (n : Nat) (e_n : x_n = nI n) (h_n : n < 41) (b : Int32) (S0 : kw_S) (h_i : i + i_n = n) (hK : kw_RI i_n S0) (H : Heap) (locs : List Loc) (ls : Array Slot), lv_has ls 4 [(0, .ref (ad 0)), (1, .int x_n), (2, .int b), (3, .int (nI i))] → va_P D classes (wl_W 83 ad (kw_C cI cT cS ad S0)) H → va_S (wl_A 83 ad s_.heap.size) s_.heap H locs → W p_ l e_ (rm_ 7) s_ m_ args below meth c_ H locs 0 0 (MQ below (wl_Qi D classes (kw_ty cI cT cS) 83 ad ((k_K_run_L17 i_n i n b S0).1) (kw_C cI cT cS ad ((k_K_run_L17 i_n i n b S0).2)) sz) args s_ 0 0 (wl_A 83 ad sz)) (F0 m_ 17 ls []) := by
  have hx := X.1
  have hb := X.2.1
  have hA : ∀ q, s_.heap.size ≤ q → (wl_A 83 ad s_.heap.size) q := fun q h => Or.inr h
  intro i_n
  induction i_n with
  | zero =>
    intro i x_n n e_n h_n b S0 h_i hK H locs ls hl hP hS
    subst e_n
    refine lv_iload_n hx hb d_K_run_17 rfl (lv_at hl 3 rfl) ?_
    refine lv_iload_n hx hb d_K_run_18 rfl (lv_at hl 1 rfl) ?_
    refine lv_icmp_ge (tgt := 73) hx hb d_K_run_19 (by decide) (fun c1 => ?_) (fun c1 => ?_)
    · skip
      refine lv_iload_n hx hb d_K_run_73 rfl (lv_at hl 2 rfl) ?_
      have hE : k_K_run_L17 0 i n b S0 = (b, S0) := by
        exact rfl
      rw [hE]
      exact wl_iret X hsz hr hlocks hP hS d_K_run_74
    · exact absurd (sk_lhz h_i (by omega)) c1
  | succ i_n ih =>
    intro i x_n n e_n h_n b S0 h_i hK H locs ls hl hP hS
    subst e_n
    refine lv_iload_n hx hb d_K_run_17 rfl (lv_at hl 3 rfl) ?_
    refine lv_iload_n hx hb d_K_run_18 rfl (lv_at hl 1 rfl) ?_
    refine lv_icmp_ge (tgt := 73) hx hb d_K_run_19 (by decide) (fun c101 => ?_) (fun c101 => ?_)
    · exact absurd c101 (sk_lhs h_i (by omega))
    · skip
      refine lv_aload_n hx hb d_K_run_22 rfl (lv_at hl 0 rfl) ?_
      refine lv_dup hx hb d_K_run_23 rfl ?_
      refine wl_get (v := .int (S0.1 0 0 0)) X hP (i := 0) (by decide) (kw_cK ) rfl i_K 4 (by decide) lf_K_66 rfl d_K_run_24 ?_
      refine lv_iconst (v := 1) hx hb d_K_run_27 (by decide) ?_
      refine lv_iadd hx hb d_K_run_28 ?_
      refine wl_put X hP hS (i := 0) (by decide) (kw_cK ) rfl i_K ft_K ft_K_ok fn_K 4 (by decide) lf_K_66 rfl rfl rfl (Nat.le_of_ble_eq_true rfl) d_K_run_29 (kw_pK_time ) (fun H locs hP hS => ?_)
      obtain ⟨S102, eS102⟩ : ∃ z, z = kw_si S0 0 0 0 ((S0.1 0 0 0) + (1 : Int32)) := ⟨_, rfl⟩
      rw [← eS102] at hP
      refine lv_aload_n hx hb d_K_run_32 rfl (lv_at hl 0 rfl) ?_
      refine wl_gov2 (cf := kw_C cI cT cS ad) (S2 := k_K_wakeSleepers S102) hS hA X.2.2.2.2.2.2 (wl_runV (As := []) (rest := []) X hml hl.1 hP g_TT (c_K_wakeSleepers hinj S102 _) (by decide) (kw_cK ) rfl wv_K_69 (na := 0) (by decide +kernel) rfl ⟨Nat.le_of_ble_eq_true rfl, Nat.le_of_ble_eq_true rfl⟩ rfl (Nat.le_of_ble_eq_true rfl) d_K_run_33 ⟨Nat.le_refl _, Nat.le_refl _⟩) (fun S103 eS103 H locs hP hS => ?_)
      refine lv_aload_n hx hb d_K_run_36 rfl (lv_at hl 0 rfl) ?_
      refine wl_goi2 (cf := kw_C cI cT cS ad) (res := k_K_giveTurn S103) hS hA X.2.2.2.2.2.2 (wl_runV (As := []) (rest := []) X hml hl.1 hP g_TT (c_K_giveTurn hinj S103 _) (by decide) (kw_cK ) rfl wv_K_72 (na := 0) (by decide +kernel) rfl ⟨Nat.le_of_ble_eq_true rfl, Nat.le_of_ble_eq_true rfl⟩ rfl (Nat.le_of_ble_eq_true rfl) d_K_run_37 ⟨Nat.le_refl _, Nat.le_refl _⟩) (fun r104 S105 er104 eS105 H locs hP hS => ?_)
      refine lv_if_eq (tgt := 57) hx hb d_K_run_40 (by decide) (fun c106 => ?_) (fun c106 => ?_)
      · skip
        have hK3 : kw_RI i_n (kw_si S105 0 0 1 (S105.1 0 0 1 + (1 : Int32))) := by
          have h9 := er104.symm.trans c106
          clear c106
          subst_vars
          exact kw_RI_i hK h9
        refine lv_aload_n hx hb d_K_run_57 rfl (lv_at hl 0 rfl) ?_
        refine lv_dup hx hb d_K_run_58 rfl ?_
        refine wl_get (v := .int (S105.1 0 0 1)) X hP (i := 0) (by decide) (kw_cK ) rfl i_K 5 (by decide) lf_K_79 rfl d_K_run_59 ?_
        refine lv_iconst (v := 1) hx hb d_K_run_62 (by decide) ?_
        refine lv_iadd hx hb d_K_run_63 ?_
        refine wl_put X hP hS (i := 0) (by decide) (kw_cK ) rfl i_K ft_K ft_K_ok fn_K 5 (by decide) lf_K_79 rfl rfl rfl (Nat.le_of_ble_eq_true rfl) d_K_run_64 (kw_pK_idleTicks ) (fun H locs hP hS => ?_)
        obtain ⟨S107, eS107⟩ : ∃ z, z = kw_si S105 0 0 1 ((S105.1 0 0 1) + (1 : Int32)) := ⟨_, rfl⟩
        rw [← eS107] at hP
        refine lv_iinc (v := nI (i + 1)) (lv' := [(3, .int (nI (i + 1))), (0, .ref (ad 0)), (1, .int (nI n)), (2, .int b)]) hx hb d_K_run_67 hl (k := 3) rfl (nI_1 _) (by decide) rfl (fun ls hl => ?_)
        refine lv_goto (tgt := 17) hx hb d_K_run_70 (by decide) ?_
        have hE : k_K_run_L17 (i_n + 1) i n b S0 = k_K_run_L17 i_n (i + 1) n b S107 := by
          replace eS107 := eS107.symm
          subst eS107
          replace eS105 := eS105.symm
          subst eS105
          replace er104 := er104.symm
          subst er104
          replace eS103 := eS103.symm
          subst eS103
          replace eS102 := eS102.symm
          subst eS102
          exact ((if_pos c106).trans rfl)
        rw [hE]
        exact ih (i + 1) (nI n) n rfl (by omega) b S107 (by omega) (by first | (rw [eS107]; exact hK2.2) | (rw [eS107]; exact hK3)) _ _ _ (lv_sub hl [1, 2, 3, 0] rfl) hP hS
      · skip
        have hK2 : ((S105.2 0 0 0 < 2 ^ 30 ∧ kw_FI S105) ∧ kw_RI i_n (k_K_doInstruction S105 (S105.2 0 0 1 % 4))) := by
          have h9 := c106
          subst_vars
          exact kw_RI_b hK h9
        refine lv_aload_n hx hb d_K_run_43 rfl (lv_at hl 0 rfl) ?_
        refine lv_aload_n hx hb d_K_run_44 rfl (lv_at hl 0 rfl) ?_
        refine wl_get (v := .int (nI ((S105.2 0 0 1) % 4))) X hP (i := 0) (by decide) (kw_cK ) rfl i_K 7 (by decide) lf_K_26 rfl d_K_run_45 ?_
        refine wl_gov2 (cf := kw_C cI cT cS ad) (S2 := k_K_doInstruction S105 ((S105.2 0 0 1) % 4)) hS hA X.2.2.2.2.2.2 (wl_runV (As := [.int (nI ((S105.2 0 0 1) % 4))]) (rest := []) X hml hl.1 hP g_TT (c_K_doInstruction hinj S105 (nI ((S105.2 0 0 1) % 4)) ((S105.2 0 0 1) % 4) rfl (by omega) hK2.1.1 hK2.1.2 _) (by decide) (kw_cK ) rfl wv_K_76 (na := 1) (by decide +kernel) rfl ⟨Nat.le_of_ble_eq_true rfl, Nat.le_of_ble_eq_true rfl⟩ rfl (Nat.le_of_ble_eq_true rfl) d_K_run_48 ⟨Nat.le_refl _, Nat.le_refl _⟩) (fun S108 eS108 H locs hP hS => ?_)
        obtain ⟨x109, ex109⟩ : ∃ z : Int32, z = b + Int32.ofInt (1) := ⟨_, rfl⟩
        refine lv_iinc (v := x109) (lv' := [(2, .int x109), (0, .ref (ad 0)), (1, .int (nI n)), (3, .int (nI i))]) hx hb d_K_run_51 hl (k := 2) rfl (ex109.symm) (by decide) rfl (fun ls hl => ?_)
        refine lv_goto (tgt := 67) hx hb d_K_run_54 (by decide) ?_
        refine lv_iinc (v := nI (i + 1)) (lv' := [(3, .int (nI (i + 1))), (2, .int x109), (0, .ref (ad 0)), (1, .int (nI n))]) hx hb d_K_run_67 hl (k := 3) rfl (nI_1 _) (by decide) rfl (fun ls hl => ?_)
        refine lv_goto (tgt := 17) hx hb d_K_run_70 (by decide) ?_
        have hE : k_K_run_L17 (i_n + 1) i n b S0 = k_K_run_L17 i_n (i + 1) n x109 S108 := by
          replace ex109 := ex109.symm
          subst ex109
          replace eS108 := eS108.symm
          subst eS108
          replace eS105 := eS105.symm
          subst eS105
          replace er104 := er104.symm
          subst er104
          replace eS103 := eS103.symm
          subst eS103
          replace eS102 := eS102.symm
          subst eS102
          exact ((if_neg c106).trans rfl)
        rw [hE]
        exact ih (i + 1) (nI n) n rfl (by omega) x109 S108 (by omega) (by first | (rw [eS108]; exact hK2.2) | (rw [eS108]; exact hK3)) _ _ _ (lv_sub hl [2, 3, 1, 0] rfl) hP hS
def k_K_run (S0 : kw_S) (n : Int32) : Int32 × kw_S :=
  if n < (1 : Int32) then
    ((-1 : Int32), S0)
  else
    if n ≤ (40 : Int32) then
      k_K_run_L17 (n.toNatClampNeg - 0) 0 n.toNatClampNeg (0 : Int32) S0
    else
      ((-1 : Int32), S0)
set_option maxHeartbeats 4000000 in
set_option maxRecDepth 100000 in
theorem c_K_run {l : Launch} {D : va_G} {cI cT cS : ClassId} {ad : Nat → Nat} (hinj : wl_inj 83 ad) (S0 : kw_S) (n : Int32) (hK : ¬ n < 1 → n ≤ 40 → kw_RI n.toNatClampNeg S0) : wl_Mi l y_K_run (Cond.code y_K_run b_K_run 4 (some .int) :: TT) (rm_ 7) D classes (kw_ty cI cT cS) 83 ad [.ref (ad 0), .int n] (kw_C cI cT cS ad S0) ((k_K_run S0 n).1) (kw_C cI cT cS ad ((k_K_run S0 n).2)) := by
  intro sz
  refine wl_enter (own := R_K) rfl (by decide) (Nat.le_of_ble_eq_true rfl) hinj (fun p_ e_ s_ m_ below meth c_ ls hsz X hml hr hlocks hl hP hS => ?_)
  have hx := X.1
  have hb := X.2.1
  have hA : ∀ q, s_.heap.size ≤ q → (wl_A 83 ad s_.heap.size) q := fun q h => Or.inr h
  have hl : lv_has ls 4 [(0, .ref (ad 0)), (1, .int n)] := hl
  refine lv_iload_n hx hb d_K_run_0 rfl (lv_at hl 1 rfl) ?_
  refine lv_iconst (v := 1) hx hb d_K_run_1 (by decide) ?_
  refine lv_icmp_lt (tgt := 11) hx hb d_K_run_2 (by decide) (fun c1 => ?_) (fun c1 => ?_)
  · skip
    refine lv_iconst (v := -1) hx hb d_K_run_11 (by decide) ?_
    have hE : k_K_run S0 n = ((-1 : Int32), S0) := by
      exact ((if_pos c1).trans rfl)
    rw [hE]
    exact wl_iret X hsz hr hlocks hP hS d_K_run_12
  · skip
    refine lv_iload_n hx hb d_K_run_5 rfl (lv_at hl 1 rfl) ?_
    refine lv_bipush (v := 40) hx hb d_K_run_6 (by decide) ?_
    refine lv_icmp_le (tgt := 13) hx hb d_K_run_8 (by decide) (fun c2 => ?_) (fun c2 => ?_)
    · skip
      obtain ⟨hn1, hn2⟩ := kq_run c1 c2
      have hK := hK c1 c2
      refine lv_iconst (v := 0) hx hb d_K_run_13 (by decide) ?_
      refine lv_istore_n (lv' := [(2, .int (0 : Int32)), (0, .ref (ad 0)), (1, .int n)]) hx hb d_K_run_14 rfl hl (by decide) rfl (fun ls hl => ?_)
      refine lv_iconst (v := 0) hx hb d_K_run_15 (by decide) ?_
      refine lv_istore_n (lv' := [(3, .int (0 : Int32)), (2, .int (0 : Int32)), (0, .ref (ad 0)), (1, .int n)]) hx hb d_K_run_16 rfl hl (by decide) rfl (fun ls hl => ?_)
      have hE : k_K_run S0 n = k_K_run_L17 (n.toNatClampNeg - 0) 0 n.toNatClampNeg (0 : Int32) S0 := by
        exact ((if_neg c1).trans ((if_pos c2).trans rfl))
      rw [hE]
      exact c_K_run_L17 hinj X hsz hml hr hlocks (n.toNatClampNeg - 0) 0 n n.toNatClampNeg hn1 (by omega) (0 : Int32) S0 (by omega) hK _ _ _ (lv_sub hl [2, 3, 1, 0] rfl) hP hS
    · skip
      refine lv_iconst (v := -1) hx hb d_K_run_11 (by decide) ?_
      have hE : k_K_run S0 n = ((-1 : Int32), S0) := by
        exact ((if_neg c1).trans ((if_neg c2).trans rfl))
      rw [hE]
      exact wl_iret X hsz hr hlocks hP hS d_K_run_12
