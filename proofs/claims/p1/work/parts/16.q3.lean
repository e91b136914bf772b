def k_Q_waits_L5 : Nat → Nat → Nat → Nat → Int32 → qw_S → Int32 × qw_S
  | 0, i, p, r, b, S0 =>
    if b = 0 then
      let S3 := qw_si S0 8 0 r (-2 : Int32)
      if b = 0 then
        ((1 : Int32), S3)
      else
        ((0 : Int32), S3)
    else
      let S5 := qw_si S0 1 0 p (3 : Int32)
      if b = 0 then
        ((1 : Int32), S5)
      else
        ((0 : Int32), S5)
  | i_n + 1, i, p, r, b, S0 =>
    if (S0.1 1 0 i) = 0 then
      k_Q_waits_L5 i_n (i + 1) p r b S0
    else
      if (qw_pa (S0.2 3 0 i)) = (nI p) then
        if (S0.1 1 0 i) = (4 : Int32) then
          let S105 := qw_si S0 1 0 i (0 : Int32)
          let S106 := qw_si S105 8 0 r (S105.1 4 0 i)
          ((1 : Int32), S106)
        else
          k_Q_waits_L5 i_n (i + 1) p r (1 : Int32) S0
      else
        k_Q_waits_L5 i_n (i + 1) p r b S0
set_option maxHeartbeats 4000000 in
set_option maxRecDepth 100000 in
theorem c_Q_waits_L5 {l : Launch} {D : va_G} {cI cZ : ClassId} {ad : Nat → Nat} {p_ : Program} {e_ : Env} {s_ : State} {m_ : MethodId} {args : Array Value} {below : List Frame} {meth : Method} {c_ : Code} {sz : Nat} (hinj : wl_inj 18 ad) (X : wl_X p_ s_ m_ args c_ b_Q_waits R_Q TT D classes (qw_ty cI cZ) 18 ad (wl_A 18 ad s_.heap.size)) (hsz : s_.heap.size = sz) (hml : c_.maxLocals = 5) (hr : meth.sig.returnType = some .boolean) (hlocks : meth.locks = false) :
    ∀ (i_n i : Nat) (x_p : Int32) (p : Nat) (e_p : x_p = nI p) (h_p : p < 4) (x_r : Int32) (r : Nat) (e_r : x_r = nI r) (h_r : r < 16) (b : Int32) (S0 : qw_S) (h_i : i + i_n = 4) (H : Heap) (locs : List Loc) (ls : Array Slot), lv_has ls 5 [(0, .ref (ad 0)), (1, .int x_p), (2, .int x_r), (3, .int b), (4, .int (nI i))] → va_P D classes (wl_W 18 ad (qw_C cI cZ ad S0)) H → va_S (wl_A 18 ad s_.heap.size) s_.heap H locs → W p_ l e_ (rm_ 0) s_ m_ args below meth c_ H locs 0 0 (MQ below (wl_Qi D classes (qw_ty cI cZ) 18 ad ((k_Q_waits_L5 i_n i p r b S0).1) (qw_C cI cZ ad ((k_Q_waits_L5 i_n i p r b S0).2)) sz) args s_ 0 0 (wl_A 18 ad sz)) (F0 m_ 5 ls []) := by
  have hx := X.1
  have hb := X.2.1
  have hA : ∀ q, s_.heap.size ≤ q → (wl_A 18 ad s_.heap.size) q := fun q h => Or.inr h
  intro i_n
  induction i_n with
  | zero =>
    intro i x_p p e_p h_p x_r r e_r h_r b S0 h_i H locs ls hl hP hS
    subst e_p
    subst e_r
    refine lv_iload hx hb d_Q_waits_5 (lv_at hl 4 rfl) ?_
    refine lv_iconst (v := 4) hx hb d_Q_waits_7 (by decide) ?_
    refine lv_icmp_ge (tgt := 80) hx hb d_Q_waits_8 (by decide) (fun c1 => ?_) (fun c1 => ?_)
    · skip
      refine lv_iload_n hx hb d_Q_waits_80 rfl (lv_at hl 3 rfl) ?_
      refine lv_if_eq (tgt := 94) hx hb d_Q_waits_81 (by decide) (fun c2 => ?_) (fun c2 => ?_)
      · skip
        refine lv_aload_n hx hb d_Q_waits_94 rfl (lv_at hl 0 rfl) ?_
        refine wl_get (v := .ref (ad 8)) X hP (i := 0) (by decide) (qw_cQ ) rfl i_Q 7 (by decide) lf_Q_31 rfl d_Q_waits_95 ?_
        refine lv_iload_n hx hb d_Q_waits_98 rfl (lv_at hl 2 rfl) ?_
        refine lv_bipush (v := -2) hx hb d_Q_waits_99 (by decide) ?_
        refine wl_iast X hP hS (i := 8) (by decide) 0 (qw_cregister ) rfl (j := r) rfl (by omega) (by decide) d_Q_waits_101 (qw_pregister ) (fun H locs hP hS => ?_)
        obtain ⟨S3, eS3⟩ : ∃ z, z = qw_si S0 8 0 r (-2 : Int32) := ⟨_, rfl⟩
        rw [← eS3] at hP
        refine lv_iload_n hx hb d_Q_waits_102 rfl (lv_at hl 3 rfl) ?_
        refine lv_if_ne (tgt := 110) hx hb d_Q_waits_103 (by decide) (fun c4 => ?_) (fun c4 => ?_)
        · skip
          refine lv_iconst (v := 0) hx hb d_Q_waits_110 (by decide) ?_
          have hE : k_Q_waits_L5 0 i p r b S0 = ((0 : Int32), S3) := by
            replace eS3 := eS3.symm
            subst eS3
            exact ((if_pos c2).trans ((if_neg c4).trans rfl))
          rw [hE]
          exact wl_zret X hsz hr hlocks (kq_bool (Or.inl rfl)) hP hS d_Q_waits_111
        · skip
          refine lv_iconst (v := 1) hx hb d_Q_waits_106 (by decide) ?_
          refine lv_goto (tgt := 111) hx hb d_Q_waits_107 (by decide) ?_
          have hE : k_Q_waits_L5 0 i p r b S0 = ((1 : Int32), S3) := by
            replace eS3 := eS3.symm
            subst eS3
            exact ((if_pos c2).trans ((if_pos c4).trans rfl))
          rw [hE]
          exact wl_zret X hsz hr hlocks (kq_bool (Or.inr rfl)) hP hS d_Q_waits_111
      · skip
        refine lv_aload_n hx hb d_Q_waits_84 rfl (lv_at hl 0 rfl) ?_
        refine wl_get (v := .ref (ad 1)) X hP (i := 0) (by decide) (qw_cQ ) rfl i_Q 0 (by decide) lf_Q_7 rfl d_Q_waits_85 ?_
        refine lv_iload_n hx hb d_Q_waits_88 rfl (lv_at hl 1 rfl) ?_
        refine lv_iconst (v := 3) hx hb d_Q_waits_89 (by decide) ?_
        refine wl_iast X hP hS (i := 1) (by decide) 0 (qw_cstate ) rfl (j := p) rfl (by omega) (by decide) d_Q_waits_90 (qw_pstate ) (fun H locs hP hS => ?_)
        obtain ⟨S5, eS5⟩ : ∃ z, z = qw_si S0 1 0 p (3 : Int32) := ⟨_, rfl⟩
        rw [← eS5] at hP
        refine lv_goto (tgt := 102) hx hb d_Q_waits_91 (by decide) ?_
        refine lv_iload_n hx hb d_Q_waits_102 rfl (lv_at hl 3 rfl) ?_
        refine lv_if_ne (tgt := 110) hx hb d_Q_waits_103 (by decide) (fun c6 => ?_) (fun c6 => ?_)
        · skip
          refine lv_iconst (v := 0) hx hb d_Q_waits_110 (by decide) ?_
          have hE : k_Q_waits_L5 0 i p r b S0 = ((0 : Int32), S5) := by
            replace eS5 := eS5.symm
            subst eS5
            exact ((if_neg c2).trans ((if_neg c6).trans rfl))
          rw [hE]
          exact wl_zret X hsz hr hlocks (kq_bool (Or.inl rfl)) hP hS d_Q_waits_111
        · skip
          refine lv_iconst (v := 1) hx hb d_Q_waits_106 (by decide) ?_
          refine lv_goto (tgt := 111) hx hb d_Q_waits_107 (by decide) ?_
          have hE : k_Q_waits_L5 0 i p r b S0 = ((1 : Int32), S5) := by
            replace eS5 := eS5.symm
            subst eS5
            exact ((if_neg c2).trans ((if_pos c6).trans rfl))
          rw [hE]
          exact wl_zret X hsz hr hlocks (kq_bool (Or.inr rfl)) hP hS d_Q_waits_111
    · exact absurd (sk_lhz h_i) c1
  | succ i_n ih =>
    intro i x_p p e_p h_p x_r r e_r h_r b S0 h_i H locs ls hl hP hS
    subst e_p
    subst e_r
    refine lv_iload hx hb d_Q_waits_5 (lv_at hl 4 rfl) ?_
    refine lv_iconst (v := 4) hx hb d_Q_waits_7 (by decide) ?_
    refine lv_icmp_ge (tgt := 80) hx hb d_Q_waits_8 (by decide) (fun c101 => ?_) (fun c101 => ?_)
    · exact absurd c101 (sk_lhs h_i)
    · skip
      refine lv_aload_n hx hb d_Q_waits_11 rfl (lv_at hl 0 rfl) ?_
      refine wl_get (v := .ref (ad 1)) X hP (i := 0) (by decide) (qw_cQ ) rfl i_Q 0 (by decide) lf_Q_7 rfl d_Q_waits_12 ?_
      refine lv_iload hx hb d_Q_waits_15 (lv_at hl 4 rfl) ?_
      refine wl_iald X hP (i := 1) (by decide) 0 (qw_cstate ) rfl (j := i) rfl (by omega) (by decide) d_Q_waits_17 ?_
      refine lv_if_eq (tgt := 74) hx hb d_Q_waits_18 (by decide) (fun c102 => ?_) (fun c102 => ?_)
      · skip
        refine lv_iinc (v := nI (i + 1)) (lv' := [(4, .int (nI (i + 1))), (0, .ref (ad 0)), (1, .int (nI p)), (2, .int (nI r)), (3, .int b)]) hx hb d_Q_waits_74 hl (k := 4) rfl (nI_1 _) (by decide) rfl (fun ls hl => ?_)
        refine lv_goto (tgt := 5) hx hb d_Q_waits_77 (by decide) ?_
        have hE : k_Q_waits_L5 (i_n + 1) i p r b S0 = k_Q_waits_L5 i_n (i + 1) p r b S0 := by
          exact ((if_pos c102).trans rfl)
        rw [hE]
        exact ih (i + 1) (nI p) p rfl (by omega) (nI r) r rfl (by omega) b S0 (by omega) _ _ _ (lv_sub hl [1, 2, 3, 4, 0] rfl) hP hS
      · skip
        refine lv_aload_n hx hb d_Q_waits_21 rfl (lv_at hl 0 rfl) ?_
        refine wl_get (v := .ref (ad 3)) X hP (i := 0) (by decide) (qw_cQ ) rfl i_Q 2 (by decide) lf_Q_16 rfl d_Q_waits_22 ?_
        refine lv_iload hx hb d_Q_waits_25 (lv_at hl 4 rfl) ?_
        refine wl_iald X hP (i := 3) (by decide) 0 (qw_cparent ) rfl (j := i) rfl (by omega) (by decide) d_Q_waits_27 ?_
        refine lv_iload_n hx hb d_Q_waits_28 rfl (lv_at hl 1 rfl) ?_
        refine lv_icmp_eq (tgt := 35) hx hb d_Q_waits_29 (by decide) (fun c103 => ?_) (fun c103 => ?_)
        · skip
          refine lv_iconst (v := 1) hx hb d_Q_waits_35 (by decide) ?_
          refine lv_istore_n (lv' := [(3, .int (1 : Int32)), (0, .ref (ad 0)), (1, .int (nI p)), (2, .int (nI r)), (4, .int (nI i))]) hx hb d_Q_waits_36 rfl hl (by decide) rfl (fun ls hl => ?_)
          refine lv_aload_n hx hb d_Q_waits_37 rfl (lv_at hl 1 rfl) ?_
          refine wl_get (v := .ref (ad 1)) X hP (i := 0) (by decide) (qw_cQ ) rfl i_Q 0 (by decide) lf_Q_7 rfl d_Q_waits_38 ?_
          refine lv_iload hx hb d_Q_waits_41 (lv_at hl 4 rfl) ?_
          refine wl_iald X hP (i := 1) (by decide) 0 (qw_cstate ) rfl (j := i) rfl (by omega) (by decide) d_Q_waits_43 ?_
          refine lv_iconst (v := 4) hx hb d_Q_waits_44 (by decide) ?_
          refine lv_icmp_eq (tgt := 51) hx hb d_Q_waits_45 (by decide) (fun c104 => ?_) (fun c104 => ?_)
          · skip
            refine lv_aload_n hx hb d_Q_waits_51 rfl (lv_at hl 1 rfl) ?_
            refine wl_get (v := .ref (ad 1)) X hP (i := 0) (by decide) (qw_cQ ) rfl i_Q 0 (by decide) lf_Q_7 rfl d_Q_waits_52 ?_
            refine lv_iload hx hb d_Q_waits_55 (lv_at hl 4 rfl) ?_
            refine lv_iconst (v := 0) hx hb d_Q_waits_57 (by decide) ?_
            refine wl_iast X hP hS (i := 1) (by decide) 0 (qw_cstate ) rfl (j := i) rfl (by omega) (by decide) d_Q_waits_58 (qw_pstate ) (fun H locs hP hS => ?_)
            obtain ⟨S105, eS105⟩ : ∃ z, z = qw_si S0 1 0 i (0 : Int32) := ⟨_, rfl⟩
            rw [← eS105] at hP
            refine lv_aload_n hx hb d_Q_waits_59 rfl (lv_at hl 1 rfl) ?_
            refine wl_get (v := .ref (ad 8)) X hP (i := 0) (by decide) (qw_cQ ) rfl i_Q 7 (by decide) lf_Q_31 rfl d_Q_waits_60 ?_
            refine lv_iload_n hx hb d_Q_waits_63 rfl (lv_at hl 3 rfl) ?_
            refine lv_aload_n hx hb d_Q_waits_64 rfl (lv_at hl 1 rfl) ?_
            refine wl_get (v := .ref (ad 4)) X hP (i := 0) (by decide) (qw_cQ ) rfl i_Q 3 (by decide) lf_Q_19 rfl d_Q_waits_65 ?_
            refine lv_iload hx hb d_Q_waits_68 (lv_at hl 4 rfl) ?_
            refine wl_iald X hP (i := 4) (by decide) 0 (qw_ccode ) rfl (j := i) rfl (by omega) (by decide) d_Q_waits_70 ?_
            refine wl_iast X hP hS (i := 8) (by decide) 0 (qw_cregister ) rfl (j := r) rfl (by omega) (by decide) d_Q_waits_71 (qw_pregister ) (fun H locs hP hS => ?_)
            obtain ⟨S106, eS106⟩ : ∃ z, z = qw_si S105 8 0 r (S105.1 4 0 i) := ⟨_, rfl⟩
            rw [← eS106] at hP
            refine lv_iconst (v := 1) hx hb d_Q_waits_72 (by decide) ?_
            have hE : k_Q_waits_L5 (i_n + 1) i p r b S0 = ((1 : Int32), S106) := by
              replace eS106 := eS106.symm
              subst eS106
              replace eS105 := eS105.symm
              subst eS105
              exact ((if_neg c102).trans ((if_pos c103).trans ((if_pos c104).trans rfl)))
            rw [hE]
            exact wl_zret X hsz hr hlocks (kq_bool (Or.inr rfl)) hP hS d_Q_waits_73
          · skip
            refine lv_goto (tgt := 74) hx hb d_Q_waits_48 (by decide) ?_
            refine lv_iinc (v := nI (i + 1)) (lv' := [(4, .int (nI (i + 1))), (3, .int (1 : Int32)), (0, .ref (ad 0)), (1, .int (nI p)), (2, .int (nI r))]) hx hb d_Q_waits_74 hl (k := 4) rfl (nI_1 _) (by decide) rfl (fun ls hl => ?_)
            refine lv_goto (tgt := 5) hx hb d_Q_waits_77 (by decide) ?_
            have hE : k_Q_waits_L5 (i_n + 1) i p r b S0 = k_Q_waits_L5 i_n (i + 1) p r (1 : Int32) S0 := by
              exact ((if_neg c102).trans ((if_pos c103).trans ((if_neg c104).trans rfl)))
            rw [hE]
            exact ih (i + 1) (nI p) p rfl (by omega) (nI r) r rfl (by omega) (1 : Int32) S0 (by omega) _ _ _ (lv_sub hl [2, 3, 4, 1, 0] rfl) hP hS
        · skip
          refine lv_goto (tgt := 74) hx hb d_Q_waits_32 (by decide) ?_
          refine lv_iinc (v := nI (i + 1)) (lv' := [(4, .int (nI (i + 1))), (0, .ref (ad 0)), (1, .int (nI p)), (2, .int (nI r)), (3, .int b)]) hx hb d_Q_waits_74 hl (k := 4) rfl (nI_1 _) (by decide) rfl (fun ls hl => ?_)
          refine lv_goto (tgt := 5) hx hb d_Q_waits_77 (by decide) ?_
          have hE : k_Q_waits_L5 (i_n + 1) i p r b S0 = k_Q_waits_L5 i_n (i + 1) p r b S0 := by
            exact ((if_neg c102).trans ((if_neg c103).trans rfl))
          rw [hE]
          exact ih (i + 1) (nI p) p rfl (by omega) (nI r) r rfl (by omega) b S0 (by omega) _ _ _ (lv_sub hl [1, 2, 3, 4, 0] rfl) hP hS
def k_Q_waits (S0 : qw_S) (p : Nat) (r : Nat) : Int32 × qw_S :=
  k_Q_waits_L5 4 0 p r (0 : Int32) S0
set_option maxHeartbeats 4000000 in
set_option maxRecDepth 100000 in
theorem c_Q_waits {l : Launch} {D : va_G} {cI cZ : ClassId} {ad : Nat → Nat} (hinj : wl_inj 18 ad) (S0 : qw_S) (x_p : Int32) (p : Nat) (e_p : x_p = nI p) (h_p : p < 4) (x_r : Int32) (r : Nat) (e_r : x_r = nI r) (h_r : r < 16) : wl_Mi l y_Q_waits (Cond.code y_Q_waits b_Q_waits 5 (some .boolean) :: TT) (rm_ 0) D classes (qw_ty cI cZ) 18 ad [.ref (ad 0), .int x_p, .int x_r] (qw_C cI cZ ad S0) ((k_Q_waits S0 p r).1) (qw_C cI cZ ad ((k_Q_waits S0 p r).2)) := by
  subst e_p
  subst e_r
  intro sz
  refine wl_enter (own := R_Q) rfl (by decide) (Nat.le_of_ble_eq_true rfl) hinj (fun p_ e_ s_ m_ below meth c_ ls hsz X hml hr hlocks hl hP hS => ?_)
  have hx := X.1
  have hb := X.2.1
  have hA : ∀ q, s_.heap.size ≤ q → (wl_A 18 ad s_.heap.size) q := fun q h => Or.inr h
  have hl : lv_has ls 5 [(0, .ref (ad 0)), (1, .int (nI p)), (2, .int (nI r))] := hl
  refine lv_iconst (v := 0) hx hb d_Q_waits_0 (by decide) ?_
  refine lv_istore_n (lv' := [(3, .int (0 : Int32)), (0, .ref (ad 0)), (1, .int (nI p)), (2, .int (nI r))]) hx hb d_Q_waits_1 rfl hl (by decide) rfl (fun ls hl => ?_)
  refine lv_iconst (v := 0) hx hb d_Q_waits_2 (by decide) ?_
  refine lv_istore (lv' := [(4, .int (0 : Int32)), (3, .int (0 : Int32)), (0, .ref (ad 0)), (1, .int (nI p)), (2, .int (nI r))]) hx hb d_Q_waits_3 hl (by decide) rfl (fun ls hl => ?_)
  have hE : k_Q_waits S0 p r = k_Q_waits_L5 4 0 p r (0 : Int32) S0 := by
    exact rfl
  rw [hE]
  exact c_Q_waits_L5 hinj X hsz hml hr hlocks 4 0 (nI p) p rfl (by omega) (nI r) r rfl (by omega) (0 : Int32) S0 (by omega) _ _ _ (lv_sub hl [2, 3, 4, 1, 0] rfl) hP hS
def k_Q_fork_L53 : Nat → Nat → Nat → Nat → Nat → qw_S → Int32 × qw_S
  | 0, i, p, r, q, S0 =>
    let S2 := qw_si S0 8 0 ((4 * q) + r) (-1 : Int32)
    let S3 := qw_si S2 2 0 q (S2.1 2 0 p)
    (nI q, S3)
  | i_n + 1, i, p, r, q, S0 =>
    let S102 := qw_sn S0 9 0 ((8 * q) + i) (S0.2 9 0 ((8 * p) + i))
    k_Q_fork_L53 i_n (i + 1) p r q S102
set_option maxHeartbeats 4000000 in
set_option maxRecDepth 100000 in
theorem c_Q_fork_L53 {l : Launch} {D : va_G} {cI cZ : ClassId} {ad : Nat → Nat} {p_ : Program} {e_ : Env} {s_ : State} {m_ : MethodId} {args : Array Value} {below : List Frame} {meth : Method} {c_ : Code} {sz : Nat} (hinj : wl_inj 18 ad) (X : wl_X p_ s_ m_ args c_ b_Q_fork R_Q TT D classes (qw_ty cI cZ) 18 ad (wl_A 18 ad s_.heap.size)) (hsz : s_.heap.size = sz) (hml : c_.maxLocals = 5) (hr : meth.sig.returnType = some .int) (hlocks : meth.locks = false) :
    ∀ (i_n i : Nat) (x_p : Int32) (p : Nat) (e_p : x_p = nI p) (h_p : p < 4) (x_r : Int32) (r : Nat) (e_r : x_r = nI r) (h_r : r < 4) (x_q : Int32) (q : Nat) (e_q : x_q = nI q) (h_q : q < 4) (S0 : qw_S) (h_i : i + i_n = 8) (H : Heap) (locs : List Loc) (ls : Array Slot), lv_has ls 5 [(0, .ref (ad 0)), (1, .int x_p), (2, .int x_r), (3, .int x_q), (4, .int (nI i))] → va_P D classes (wl_W 18 ad (qw_C cI cZ ad S0)) H → va_S (wl_A 18 ad s_.heap.size) s_.heap H locs → W p_ l e_ (rm_ 1) s_ m_ args below meth c_ H locs 0 0 (MQ below (wl_Qi D classes (qw_ty cI cZ) 18 ad ((k_Q_fork_L53 i_n i p r q S0).1) (qw_C cI cZ ad ((k_Q_fork_L53 i_n i p r q S0).2)) sz) args s_ 0 0 (wl_A 18 ad sz)) (F0 m_ 53 ls []) := by
  have hx := X.1
  have hb := X.2.1
  have hA : ∀ q, s_.heap.size ≤ q → (wl_A 18 ad s_.heap.size) q := fun q h => Or.inr h
  intro i_n
  induction i_n with
  | zero =>
    intro i x_p p e_p h_p x_r r e_r h_r x_q q e_q h_q S0 h_i H locs ls hl hP hS
    subst e_p
    subst e_r
    subst e_q
    refine lv_iload hx hb d_Q_fork_53 (lv_at hl 4 rfl) ?_
    refine lv_bipush (v := 8) hx hb d_Q_fork_55 (by decide) ?_
    refine lv_icmp_ge (tgt := 90) hx hb d_Q_fork_57 (by decide) (fun c1 => ?_) (fun c1 => ?_)
    · skip
      refine lv_aload_n hx hb d_Q_fork_90 rfl (lv_at hl 0 rfl) ?_
      refine wl_get (v := .ref (ad 8)) X hP (i := 0) (by decide) (qw_cQ ) rfl i_Q 7 (by decide) lf_Q_31 rfl d_Q_fork_91 ?_
      refine lv_iconst (v := 4) hx hb d_Q_fork_94 (by decide) ?_
      refine lv_iload_n hx hb d_Q_fork_95 rfl (lv_at hl 3 rfl) ?_
      refine lv_imul hx hb d_Q_fork_96 ?_
      refine lv_iload_n hx hb d_Q_fork_97 rfl (lv_at hl 2 rfl) ?_
      refine lv_iadd hx hb d_Q_fork_98 ?_
      refine lv_iconst (v := -1) hx hb d_Q_fork_99 (by decide) ?_
      refine wl_iast X hP hS (i := 8) (by decide) 0 (qw_cregister ) rfl (j := ((4 * q) + r)) ((congr (congrArg (fun (a b : Int32) => a + b) (show (4 : Int32) * (nI q) = nI (4 * q) from (show (4 : Int32) * (nI q) = nI (4 * q) from pk_mul 4 q))) (show nI r = nI r from rfl)).trans (nI_add (4 * q) r)) (by omega) (by decide) d_Q_fork_100 (qw_pregister ) (fun H locs hP hS => ?_)
      obtain ⟨S2, eS2⟩ : ∃ z, z = qw_si S0 8 0 ((4 * q) + r) (-1 : Int32) := ⟨_, rfl⟩
      rw [← eS2] at hP
      refine lv_aload_n hx hb d_Q_fork_101 rfl (lv_at hl 0 rfl) ?_
      refine wl_get (v := .ref (ad 2)) X hP (i := 0) (by decide) (qw_cQ ) rfl i_Q 1 (by decide) lf_Q_13 rfl d_Q_fork_102 ?_
      refine lv_iload_n hx hb d_Q_fork_105 rfl (lv_at hl 3 rfl) ?_
      refine lv_aload_n hx hb d_Q_fork_106 rfl (lv_at hl 0 rfl) ?_
      refine wl_get (v := .ref (ad 2)) X hP (i := 0) (by decide) (qw_cQ ) rfl i_Q 1 (by decide) lf_Q_13 rfl d_Q_fork_107 ?_
      refine lv_iload_n hx hb d_Q_fork_110 rfl (lv_at hl 1 rfl) ?_
      refine wl_iald X hP (i := 2) (by decide) 0 (qw_cplace ) rfl (j := p) rfl (by omega) (by decide) d_Q_fork_111 ?_
      refine wl_iast X hP hS (i := 2) (by decide) 0 (qw_cplace ) rfl (j := q) rfl (by omega) (by decide) d_Q_fork_112 (qw_pplace ) (fun H locs hP hS => ?_)
      obtain ⟨S3, eS3⟩ : ∃ z, z = qw_si S2 2 0 q (S2.1 2 0 p) := ⟨_, rfl⟩
      rw [← eS3] at hP
      refine lv_iload_n hx hb d_Q_fork_113 rfl (lv_at hl 3 rfl) ?_
      have hE : k_Q_fork_L53 0 i p r q S0 = (nI q, S3) := by
        replace eS3 := eS3.symm
        subst eS3
        replace eS2 := eS2.symm
        subst eS2
        exact rfl
      rw [hE]
      exact wl_iret X hsz hr hlocks hP hS d_Q_fork_114
    · exact absurd (sk_lhz h_i) c1
  | succ i_n ih =>
    intro i x_p p e_p h_p x_r r e_r h_r x_q q e_q h_q S0 h_i H locs ls hl hP hS
    subst e_p
    subst e_r
    subst e_q
    refine lv_iload hx hb d_Q_fork_53 (lv_at hl 4 rfl) ?_
    refine lv_bipush (v := 8) hx hb d_Q_fork_55 (by decide) ?_
    refine lv_icmp_ge (tgt := 90) hx hb d_Q_fork_57 (by decide) (fun c101 => ?_) (fun c101 => ?_)
    · exact absurd c101 (sk_lhs h_i)
    · skip
      refine lv_aload_n hx hb d_Q_fork_60 rfl (lv_at hl 0 rfl) ?_
      refine wl_get (v := .ref (ad 9)) X hP (i := 0) (by decide) (qw_cQ ) rfl i_Q 8 (by decide) lf_Q_34 rfl d_Q_fork_61 ?_
      refine lv_bipush (v := 8) hx hb d_Q_fork_64 (by decide) ?_
      refine lv_iload_n hx hb d_Q_fork_66 rfl (lv_at hl 3 rfl) ?_
      refine lv_imul hx hb d_Q_fork_67 ?_
      refine lv_iload hx hb d_Q_fork_68 (lv_at hl 4 rfl) ?_
      refine lv_iadd hx hb d_Q_fork_70 ?_
      refine lv_aload_n hx hb d_Q_fork_71 rfl (lv_at hl 0 rfl) ?_
      refine wl_get (v := .ref (ad 9)) X hP (i := 0) (by decide) (qw_cQ ) rfl i_Q 8 (by decide) lf_Q_34 rfl d_Q_fork_72 ?_
      refine lv_bipush (v := 8) hx hb d_Q_fork_75 (by decide) ?_
      refine lv_iload_n hx hb d_Q_fork_77 rfl (lv_at hl 1 rfl) ?_
      refine lv_imul hx hb d_Q_fork_78 ?_
      refine lv_iload hx hb d_Q_fork_79 (lv_at hl 4 rfl) ?_
      refine lv_iadd hx hb d_Q_fork_81 ?_
      refine wl_iald X hP (i := 9) (by decide) 0 (qw_cpage ) rfl (j := ((8 * p) + i)) ((congr (congrArg (fun (a b : Int32) => a + b) (show (8 : Int32) * (nI p) = nI (8 * p) from (show (8 : Int32) * (nI p) = nI (8 * p) from pk_mul 8 p))) (show nI i = nI i from rfl)).trans (nI_add (8 * p) i)) (by omega) (by decide) d_Q_fork_82 ?_
      refine wl_iast X hP hS (i := 9) (by decide) 0 (qw_cpage ) rfl (j := ((8 * q) + i)) ((congr (congrArg (fun (a b : Int32) => a + b) (show (8 : Int32) * (nI q) = nI (8 * q) from (show (8 : Int32) * (nI q) = nI (8 * q) from pk_mul 8 q))) (show nI i = nI i from rfl)).trans (nI_add (8 * q) i)) (by omega) (by decide) d_Q_fork_83 (qw_ppage (x := (S0.2 9 0 ((8 * p) + i)))  rfl) (fun H locs hP hS => ?_)
      obtain ⟨S102, eS102⟩ : ∃ z, z = qw_sn S0 9 0 ((8 * q) + i) (S0.2 9 0 ((8 * p) + i)) := ⟨_, rfl⟩
      rw [← eS102] at hP
      refine lv_iinc (v := nI (i + 1)) (lv' := [(4, .int (nI (i + 1))), (0, .ref (ad 0)), (1, .int (nI p)), (2, .int (nI r)), (3, .int (nI q))]) hx hb d_Q_fork_84 hl (k := 4) rfl (nI_1 _) (by decide) rfl (fun ls hl => ?_)
      refine lv_goto (tgt := 53) hx hb d_Q_fork_87 (by decide) ?_
      have hE : k_Q_fork_L53 (i_n + 1) i p r q S0 = k_Q_fork_L53 i_n (i + 1) p r q S102 := by
        replace eS102 := eS102.symm
        subst eS102
        exact rfl
      rw [hE]
      exact ih (i + 1) (nI p) p rfl (by omega) (nI r) r rfl (by omega) (nI q) q rfl (by omega) S102 (by omega) _ _ _ (lv_sub hl [1, 2, 3, 4, 0] rfl) hP hS
def k_Q_fork_L16 : Nat → Nat → Nat → Nat → Nat → qw_S → Int32 × qw_S
  | 0, i, p, r, q, S0 =>
    k_Q_fork_L53 8 0 p r q S0
  | i_n + 1, i, p, r, q, S0 =>
    let S102 := qw_si S0 8 0 ((4 * q) + i) (S0.1 8 0 ((4 * p) + i))
    k_Q_fork_L16 i_n (i + 1) p r q S102
set_option maxHeartbeats 4000000 in
set_option maxRecDepth 100000 in
theorem c_Q_fork_L16 {l : Launch} {D : va_G} {cI cZ : ClassId} {ad : Nat → Nat} {p_ : Program} {e_ : Env} {s_ : State} {m_ : MethodId} {args : Array Value} {below : List Frame} {meth : Method} {c_ : Code} {sz : Nat} (hinj : wl_inj 18 ad) (X : wl_X p_ s_ m_ args c_ b_Q_fork R_Q TT D classes (qw_ty cI cZ) 18 ad (wl_A 18 ad s_.heap.size)) (hsz : s_.heap.size = sz) (hml : c_.maxLocals = 5) (hr : meth.sig.returnType = some .int) (hlocks : meth.locks = false) :
    ∀ (i_n i : Nat) (x_p : Int32) (p : Nat) (e_p : x_p = nI p) (h_p : p < 4) (x_r : Int32) (r : Nat) (e_r : x_r = nI r) (h_r : r < 4) (x_q : Int32) (q : Nat) (e_q : x_q = nI q) (h_q : q < 4) (S0 : qw_S) (h_i : i + i_n = 4) (H : Heap) (locs : List Loc) (ls : Array Slot), lv_has ls 5 [(0, .ref (ad 0)), (1, .int x_p), (2, .int x_r), (3, .int x_q), (4, .int (nI i))] → va_P D classes (wl_W 18 ad (qw_C cI cZ ad S0)) H → va_S (wl_A 18 ad s_.heap.size) s_.heap H locs → W p_ l e_ (rm_ 1) s_ m_ args below meth c_ H locs 0 0 (MQ below (wl_Qi D classes (qw_ty cI cZ) 18 ad ((k_Q_fork_L16 i_n i p r q S0).1) (qw_C cI cZ ad ((k_Q_fork_L16 i_n i p r q S0).2)) sz) args s_ 0 0 (wl_A 18 ad sz)) (F0 m_ 16 ls []) := by
  have hx := X.1
  have hb := X.2.1
  have hA : ∀ q, s_.heap.size ≤ q → (wl_A 18 ad s_.heap.size) q := fun q h => Or.inr h
  intro i_n
  induction i_n with
  | zero =>
    intro i x_p p e_p h_p x_r r e_r h_r x_q q e_q h_q S0 h_i H locs ls hl hP hS
    subst e_p
    subst e_r
    subst e_q
    refine lv_iload hx hb d_Q_fork_16 (lv_at hl 4 rfl) ?_
    refine lv_iconst (v := 4) hx hb d_Q_fork_18 (by decide) ?_
    refine lv_icmp_ge (tgt := 50) hx hb d_Q_fork_19 (by decide) (fun c1 => ?_) (fun c1 => ?_)
    · skip
      refine lv_iconst (v := 0) hx hb d_Q_fork_50 (by decide) ?_
      refine lv_istore (lv' := [(4, .int (0 : Int32)), (0, .ref (ad 0)), (1, .int (nI p)), (2, .int (nI r)), (3, .int (nI q))]) hx hb d_Q_fork_51 hl (by decide) rfl (fun ls hl => ?_)
      have hE : k_Q_fork_L16 0 i p r q S0 = k_Q_fork_L53 8 0 p r q S0 := by
        exact rfl
      rw [hE]
      exact c_Q_fork_L53 hinj X hsz hml hr hlocks 8 0 (nI p) p rfl (by omega) (nI r) r rfl (by omega) (nI q) q rfl (by omega) S0 (by omega) _ _ _ (lv_sub hl [1, 2, 3, 4, 0] rfl) hP hS
    · exact absurd (sk_lhz h_i) c1
  | succ i_n ih =>
    intro i x_p p e_p h_p x_r r e_r h_r x_q q e_q h_q S0 h_i H locs ls hl hP hS
    subst e_p
    subst e_r
    subst e_q
    refine lv_iload hx hb d_Q_fork_16 (lv_at hl 4 rfl) ?_
    refine lv_iconst (v := 4) hx hb d_Q_fork_18 (by decide) ?_
    refine lv_icmp_ge (tgt := 50) hx hb d_Q_fork_19 (by decide) (fun c101 => ?_) (fun c101 => ?_)
    · exact absurd c101 (sk_lhs h_i)
    · skip
      refine lv_aload_n hx hb d_Q_fork_22 rfl (lv_at hl 0 rfl) ?_
      refine wl_get (v := .ref (ad 8)) X hP (i := 0) (by decide) (qw_cQ ) rfl i_Q 7 (by decide) lf_Q_31 rfl d_Q_fork_23 ?_
      refine lv_iconst (v := 4) hx hb d_Q_fork_26 (by decide) ?_
      refine lv_iload_n hx hb d_Q_fork_27 rfl (lv_at hl 3 rfl) ?_
      refine lv_imul hx hb d_Q_fork_28 ?_
      refine lv_iload hx hb d_Q_fork_29 (lv_at hl 4 rfl) ?_
      refine lv_iadd hx hb d_Q_fork_31 ?_
      refine lv_aload_n hx hb d_Q_fork_32 rfl (lv_at hl 0 rfl) ?_
      refine wl_get (v := .ref (ad 8)) X hP (i := 0) (by decide) (qw_cQ ) rfl i_Q 7 (by decide) lf_Q_31 rfl d_Q_fork_33 ?_
      refine lv_iconst (v := 4) hx hb d_Q_fork_36 (by decide) ?_
      refine lv_iload_n hx hb d_Q_fork_37 rfl (lv_at hl 1 rfl) ?_
      refine lv_imul hx hb d_Q_fork_38 ?_
      refine lv_iload hx hb d_Q_fork_39 (lv_at hl 4 rfl) ?_
      refine lv_iadd hx hb d_Q_fork_41 ?_
      refine wl_iald X hP (i := 8) (by decide) 0 (qw_cregister ) rfl (j := ((4 * p) + i)) ((congr (congrArg (fun (a b : Int32) => a + b) (show (4 : Int32) * (nI p) = nI (4 * p) from (show (4 : Int32) * (nI p) = nI (4 * p) from pk_mul 4 p))) (show nI i = nI i from rfl)).trans (nI_add (4 * p) i)) (by omega) (by decide) d_Q_fork_42 ?_
      refine wl_iast X hP hS (i := 8) (by decide) 0 (qw_cregister ) rfl (j := ((4 * q) + i)) ((congr (congrArg (fun (a b : Int32) => a + b) (show (4 : Int32) * (nI q) = nI (4 * q) from (show (4 : Int32) * (nI q) = nI (4 * q) from pk_mul 4 q))) (show nI i = nI i from rfl)).trans (nI_add (4 * q) i)) (by omega) (by decide) d_Q_fork_43 (qw_pregister ) (fun H locs hP hS => ?_)
      obtain ⟨S102, eS102⟩ : ∃ z, z = qw_si S0 8 0 ((4 * q) + i) (S0.1 8 0 ((4 * p) + i)) := ⟨_, rfl⟩
      rw [← eS102] at hP
      refine lv_iinc (v := nI (i + 1)) (lv' := [(4, .int (nI (i + 1))), (0, .ref (ad 0)), (1, .int (nI p)), (2, .int (nI r)), (3, .int (nI q))]) hx hb d_Q_fork_44 hl (k := 4) rfl (nI_1 _) (by decide) rfl (fun ls hl => ?_)
      refine lv_goto (tgt := 16) hx hb d_Q_fork_47 (by decide) ?_
      have hE : k_Q_fork_L16 (i_n + 1) i p r q S0 = k_Q_fork_L16 i_n (i + 1) p r q S102 := by
        replace eS102 := eS102.symm
        subst eS102
        exact rfl
      rw [hE]
      exact ih (i + 1) (nI p) p rfl (by omega) (nI r) r rfl (by omega) (nI q) q rfl (by omega) S102 (by omega) _ _ _ (lv_sub hl [1, 2, 3, 4, 0] rfl) hP hS
def k_Q_fork (S0 : qw_S) (p : Nat) (r : Nat) : Int32 × qw_S :=
  let r1 := (k_Q_begin S0 p).1
  let S2 := (k_Q_begin S0 p).2
  if 0 ≤ r1 then
    k_Q_fork_L16 4 0 p r r1.toNatClampNeg S2
  else
    ((-2 : Int32), S2)
set_option maxHeartbeats 4000000 in
set_option maxRecDepth 100000 in
theorem c_Q_fork {l : Launch} {D : va_G} {cI cZ : ClassId} {ad : Nat → Nat} (hinj : wl_inj 18 ad) (S0 : qw_S) (x_p : Int32) (p : Nat) (e_p : x_p = nI p) (h_p : p < 4) (x_r : Int32) (r : Nat) (e_r : x_r = nI r) (h_r : r < 4) : wl_Mi l y_Q_fork (Cond.code y_Q_fork b_Q_fork 5 (some .int) :: TT) (rm_ 1) D classes (qw_ty cI cZ) 18 ad [.ref (ad 0), .int x_p, .int x_r] (qw_C cI cZ ad S0) ((k_Q_fork S0 p r).1) (qw_C cI cZ ad ((k_Q_fork S0 p r).2)) := by
  subst e_p
  subst e_r
  intro sz
  refine wl_enter (own := R_Q) rfl (by decide) (Nat.le_of_ble_eq_true rfl) hinj (fun p_ e_ s_ m_ below meth c_ ls hsz X hml hr hlocks hl hP hS => ?_)
  have hx := X.1
  have hb := X.2.1
  have hA : ∀ q, s_.heap.size ≤ q → (wl_A 18 ad s_.heap.size) q := fun q h => Or.inr h
  have hl : lv_has ls 5 [(0, .ref (ad 0)), (1, .int (nI p)), (2, .int (nI r))] := hl
  refine lv_aload_n hx hb d_Q_fork_0 rfl (lv_at hl 0 rfl) ?_
  refine lv_iload_n hx hb d_Q_fork_1 rfl (lv_at hl 1 rfl) ?_
  refine wl_goi2 (cf := qw_C cI cZ ad) (res := k_Q_begin S0 p) hS hA X.2.2.2.2.2.2 (wl_runV (As := [.int (nI p)]) (rest := []) X hml hl.1 hP g_TT (c_Q_begin hinj S0 (nI p) p (by unfold qw_pa; rw [if_pos (by omega)] <;> exact rfl) _) (by decide) (qw_cQ ) rfl wv_Q_102 (na := 1) (by decide +kernel) rfl ⟨Nat.le_of_ble_eq_true rfl, Nat.le_of_ble_eq_true rfl⟩ rfl (Nat.le_of_ble_eq_true rfl) d_Q_fork_2 ⟨Nat.le_refl _, Nat.le_refl _⟩) (fun r1 S2 er1 eS2 H locs hP hS => ?_)
  refine lv_istore_n (lv' := [(3, .int r1), (0, .ref (ad 0)), (1, .int (nI p)), (2, .int (nI r))]) hx hb d_Q_fork_5 rfl hl (by decide) rfl (fun ls hl => ?_)
  refine lv_iload_n hx hb d_Q_fork_6 rfl (lv_at hl 0 rfl) ?_
  refine lv_if_ge (tgt := 13) hx hb d_Q_fork_7 (by decide) (fun c3 => ?_) (fun c3 => ?_)
  · skip
    obtain ⟨hq1, hq2⟩ := qq_begin (by rw [← er1]; exact c3)
    rw [← er1] at hq1 hq2
    refine lv_iconst (v := 0) hx hb d_Q_fork_13 (by decide) ?_
    refine lv_istore (lv' := [(4, .int (0 : Int32)), (3, .int r1), (0, .ref (ad 0)), (1, .int (nI p)), (2, .int (nI r))]) hx hb d_Q_fork_14 hl (by decide) rfl (fun ls hl => ?_)
    have hE : k_Q_fork S0 p r = k_Q_fork_L16 4 0 p r r1.toNatClampNeg S2 := by
      replace eS2 := eS2.symm
      subst eS2
      replace er1 := er1.symm
      subst er1
      exact ((if_pos c3).trans rfl)
    rw [hE]
    exact c_Q_fork_L16 hinj X hsz hml hr hlocks 4 0 (nI p) p rfl (by omega) (nI r) r rfl (by omega) r1 r1.toNatClampNeg hq1 (by omega) S2 (by omega) _ _ _ (lv_sub hl [2, 3, 4, 1, 0] rfl) hP hS
  · skip
    refine lv_bipush (v := -2) hx hb d_Q_fork_10 (by decide) ?_
    have hE : k_Q_fork S0 p r = ((-2 : Int32), S2) := by
      replace eS2 := eS2.symm
      subst eS2
      replace er1 := er1.symm
      subst er1
      exact ((if_neg c3).trans rfl)
    rw [hE]
    exact wl_iret X hsz hr hlocks hP hS d_Q_fork_12
def k_Q_calls_J35 (p : Nat) (r : Nat) (n : Int32) (old : Int32) (S0 : qw_S) : Int32 × qw_S :=
  let S1 := qw_si S0 2 0 p ((S0.1 2 0 p) + (1 : Int32))
  if n = (0 : Int32) then
    if (40 : Int32) ≤ (nI (S1.2 0 0 2)) then
      let S4 := qw_sn S1 0 0 2 ((S1.2 0 0 2) + 1)
      ((1 : Int32), S4)
    else
      let S6 := qw_si S1 16 0 (S1.2 0 0 2) old
      let S7 := qw_sn S6 0 0 2 ((S6.2 0 0 2) + 1)
      ((1 : Int32), S7)
  else
    if n = (1 : Int32) then
      let r9 := (k_Q_fork S1 p (r % 4)).1
      let S10 := (k_Q_fork S1 p (r % 4)).2
      let S11 := qw_si S10 8 0 r r9
      ((1 : Int32), S11)
    else
      if n = (2 : Int32) then
        let S13 := qw_si S1 0 0 2 (1 : Int32)
        ((1 : Int32), S13)
      else
        if n = (3 : Int32) then
          if (1 : Int32) ≤ old then
            let S16 := qw_si S1 1 0 p (2 : Int32)
            let S17 := qw_si S16 5 0 p old
            ((1 : Int32), S17)
          else
            ((1 : Int32), S1)
        else
          if n = (4 : Int32) then
            ((1 : Int32), S1)
          else
            if n = (5 : Int32) then
              let S20 := qw_si S1 8 0 r (nI p)
              ((1 : Int32), S20)
            else
              ((1 : Int32), S1)
def p_Q_calls_J35 (p : Nat) (r : Nat) (n : Int32) (old : Int32) (S0 : qw_S) : Prop :=
  let S1 := qw_si S0 2 0 p ((S0.1 2 0 p) + (1 : Int32))
  if n = (0 : Int32) then
    if (40 : Int32) ≤ (nI (S1.2 0 0 2)) then
      let S4 := qw_sn S1 0 0 2 ((S1.2 0 0 2) + 1)
      True
    else
      (S1.2 0 0 2 < 2 ^ 30) ∧
      (let S6 := qw_si S1 16 0 (S1.2 0 0 2) old
      let S7 := qw_sn S6 0 0 2 ((S6.2 0 0 2) + 1)
      True)
  else
    if n = (1 : Int32) then
      let r9 := (k_Q_fork S1 p (r % 4)).1
      let S10 := (k_Q_fork S1 p (r % 4)).2
      let S11 := qw_si S10 8 0 r r9
      True
    else
      if n = (2 : Int32) then
        let S13 := qw_si S1 0 0 2 (1 : Int32)
        True
      else
        if n = (3 : Int32) then
          if (1 : Int32) ≤ old then
            let S16 := qw_si S1 1 0 p (2 : Int32)
            let S17 := qw_si S16 5 0 p old
            True
          else
            True
        else
          if n = (4 : Int32) then
            True
          else
            if n = (5 : Int32) then
              let S20 := qw_si S1 8 0 r (nI p)
              True
            else
              True
set_option maxHeartbeats 4000000 in
set_option maxRecDepth 100000 in
theorem c_Q_calls_J35 {l : Launch} {D : va_G} {cI cZ : ClassId} {ad : Nat → Nat} {p_ : Program} {e_ : Env} {s_ : State} {m_ : MethodId} {args : Array Value} {below : List Frame} {meth : Method} {c_ : Code} {sz : Nat} (hinj : wl_inj 18 ad) (X : wl_X p_ s_ m_ args c_ b_Q_calls R_Q TT D classes (qw_ty cI cZ) 18 ad (wl_A 18 ad s_.heap.size)) (hsz : s_.heap.size = sz) (hml : c_.maxLocals = 5) (hr : meth.sig.returnType = some .boolean) (hlocks : meth.locks = false) :
    ∀ (x_p : Int32) (p : Nat) (e_p : x_p = nI p) (h_p : p < 4) (x_r : Int32) (r : Nat) (e_r : x_r = nI r) (h_r : r < 16) (n : Int32) (old : Int32) (S0 : qw_S) (hp0 : p_Q_calls_J35 p r n old S0) (H : Heap) (locs : List Loc) (ls : Array Slot), lv_has ls 5 [(0, .ref (ad 0)), (1, .int x_p), (2, .int x_r), (3, .int n), (4, .int old)] → va_P D classes (wl_W 18 ad (qw_C cI cZ ad S0)) H → va_S (wl_A 18 ad s_.heap.size) s_.heap H locs → W p_ l e_ (rm_ 2) s_ m_ args below meth c_ H locs 0 0 (MQ below (wl_Qi D classes (qw_ty cI cZ) 18 ad ((k_Q_calls_J35 p r n old S0).1) (qw_C cI cZ ad ((k_Q_calls_J35 p r n old S0).2)) sz) args s_ 0 0 (wl_A 18 ad sz)) (F0 m_ 35 ls []) := by
  have hx := X.1
  have hb := X.2.1
  have hA : ∀ q, s_.heap.size ≤ q → (wl_A 18 ad s_.heap.size) q := fun q h => Or.inr h
  intro x_p p e_p h_p x_r r e_r h_r n old S0 hp0 H locs ls hl hP hS
  subst e_p
  subst e_r
  refine lv_aload_n hx hb d_Q_calls_35 rfl (lv_at hl 0 rfl) ?_
  refine wl_get (v := .ref (ad 2)) X hP (i := 0) (by decide) (qw_cQ ) rfl i_Q 1 (by decide) lf_Q_13 rfl d_Q_calls_36 ?_
  refine lv_iload_n hx hb d_Q_calls_39 rfl (lv_at hl 1 rfl) ?_
  refine lv_dup2_11 hx hb d_Q_calls_40 rfl rfl ?_
  refine wl_iald X hP (i := 2) (by decide) 0 (qw_cplace ) rfl (j := p) rfl (by omega) (by decide) d_Q_calls_41 ?_
  refine lv_iconst (v := 1) hx hb d_Q_calls_42 (by decide) ?_
  refine lv_iadd hx hb d_Q_calls_43 ?_
  refine wl_iast X hP hS (i := 2) (by decide) 0 (qw_cplace ) rfl (j := p) rfl (by omega) (by decide) d_Q_calls_44 (qw_pplace ) (fun H locs hP hS => ?_)
  obtain ⟨S1, eS1⟩ : ∃ z, z = qw_si S0 2 0 p ((S0.1 2 0 p) + (1 : Int32)) := ⟨_, rfl⟩
  rw [← eS1] at hP
  refine lv_iload_n hx hb d_Q_calls_45 rfl (lv_at hl 3 rfl) ?_
  by_cases c2 : n = (0 : Int32)
  · refine wl_top c2 ?_
    refine lv_tableIn (tgt := 84) hx hb d_Q_calls_46 (by decide) (by decide) rfl (by decide) ?_
    refine lv_aload_n hx hb d_Q_calls_84 rfl (lv_at hl 0 rfl) ?_
    refine wl_get (v := .int (nI (S1.2 0 0 2))) X hP (i := 0) (by decide) (qw_cQ ) rfl i_Q 21 (by decide) lf_Q_143 rfl d_Q_calls_85 ?_
    refine lv_bipush (v := 40) hx hb d_Q_calls_88 (by decide) ?_
    refine lv_icmp_ge (tgt := 104) hx hb d_Q_calls_90 (by decide) (fun c3 => ?_) (fun c3 => ?_)
    · skip
      refine lv_aload_n hx hb d_Q_calls_104 rfl (lv_at hl 0 rfl) ?_
      refine lv_dup hx hb d_Q_calls_105 rfl ?_
      refine wl_get (v := .int (nI (S1.2 0 0 2))) X hP (i := 0) (by decide) (qw_cQ ) rfl i_Q 21 (by decide) lf_Q_143 rfl d_Q_calls_106 ?_
      refine lv_iconst (v := 1) hx hb d_Q_calls_109 (by decide) ?_
      refine lv_iadd hx hb d_Q_calls_110 ?_
      refine wl_put X hP hS (i := 0) (by decide) (qw_cQ ) rfl i_Q ft_Q ft_Q_ok fn_Q 21 (by decide) lf_Q_143 rfl rfl rfl (Nat.le_of_ble_eq_true rfl) d_Q_calls_111 (qw_pQ_print (x := ((S1.2 0 0 2) + 1))  (show (nI (S1.2 0 0 2)) + (1 : Int32) = nI ((S1.2 0 0 2) + 1) from nI_add (S1.2 0 0 2) 1)) (fun H locs hP hS => ?_)
      obtain ⟨S4, eS4⟩ : ∃ z, z = qw_sn S1 0 0 2 ((S1.2 0 0 2) + 1) := ⟨_, rfl⟩
      rw [← eS4] at hP
      refine lv_goto (tgt := 179) hx hb d_Q_calls_114 (by decide) ?_
      refine lv_iconst (v := 1) hx hb d_Q_calls_179 (by decide) ?_
      have hE : k_Q_calls_J35 p r n old S0 = ((1 : Int32), S4) := by
        replace eS4 := eS4.symm
        subst eS4
        replace eS1 := eS1.symm
        subst eS1
        exact ((if_pos c2).trans ((if_pos c3).trans rfl))
      rw [hE]
      exact wl_zret X hsz hr hlocks (kq_bool (Or.inr rfl)) hP hS d_Q_calls_180
    · skip
      refine lv_aload_n hx hb d_Q_calls_93 rfl (lv_at hl 0 rfl) ?_
      refine wl_get (v := .ref (ad 16)) X hP (i := 0) (by decide) (qw_cQ ) rfl i_Q 15 (by decide) lf_Q_56 rfl d_Q_calls_94 ?_
      refine lv_aload_n hx hb d_Q_calls_97 rfl (lv_at hl 0 rfl) ?_
      refine wl_get (v := .int (nI (S1.2 0 0 2))) X hP (i := 0) (by decide) (qw_cQ ) rfl i_Q 21 (by decide) lf_Q_143 rfl d_Q_calls_98 ?_
      refine lv_iload hx hb d_Q_calls_101 (lv_at hl 4 rfl) ?_
      have ob5 : S1.2 0 0 2 < 2 ^ 30 := by
        replace eS1 := eS1.symm
        subst eS1
        exact And.left (pp_neg c3 (pp_pos c2 hp0))
      refine wl_iast X hP hS (i := 16) (by decide) 0 (qw_coutput ) rfl (j := (S1.2 0 0 2)) rfl (kq_lt40 ob5 c3) (by decide) d_Q_calls_103 (qw_poutput ) (fun H locs hP hS => ?_)
      obtain ⟨S6, eS6⟩ : ∃ z, z = qw_si S1 16 0 (S1.2 0 0 2) old := ⟨_, rfl⟩
      rw [← eS6] at hP
      refine lv_aload_n hx hb d_Q_calls_104 rfl (lv_at hl 0 rfl) ?_
      refine lv_dup hx hb d_Q_calls_105 rfl ?_
      refine wl_get (v := .int (nI (S6.2 0 0 2))) X hP (i := 0) (by decide) (qw_cQ ) rfl i_Q 21 (by decide) lf_Q_143 rfl d_Q_calls_106 ?_
      refine lv_iconst (v := 1) hx hb d_Q_calls_109 (by decide) ?_
      refine lv_iadd hx hb d_Q_calls_110 ?_
      refine wl_put X hP hS (i := 0) (by decide) (qw_cQ ) rfl i_Q ft_Q ft_Q_ok fn_Q 21 (by decide) lf_Q_143 rfl rfl rfl (Nat.le_of_ble_eq_true rfl) d_Q_calls_111 (qw_pQ_print (x := ((S6.2 0 0 2) + 1))  (show (nI (S6.2 0 0 2)) + (1 : Int32) = nI ((S6.2 0 0 2) + 1) from nI_add (S6.2 0 0 2) 1)) (fun H locs hP hS => ?_)
      obtain ⟨S7, eS7⟩ : ∃ z, z = qw_sn S6 0 0 2 ((S6.2 0 0 2) + 1) := ⟨_, rfl⟩
      rw [← eS7] at hP
      refine lv_goto (tgt := 179) hx hb d_Q_calls_114 (by decide) ?_
      refine lv_iconst (v := 1) hx hb d_Q_calls_179 (by decide) ?_
      have hE : k_Q_calls_J35 p r n old S0 = ((1 : Int32), S7) := by
        replace eS7 := eS7.symm
        subst eS7
        replace eS6 := eS6.symm
        subst eS6
        replace eS1 := eS1.symm
        subst eS1
        exact ((if_pos c2).trans ((if_neg c3).trans rfl))
      rw [hE]
      exact wl_zret X hsz hr hlocks (kq_bool (Or.inr rfl)) hP hS d_Q_calls_180
  by_cases c8 : n = (1 : Int32)
  · refine wl_top c8 ?_
    refine lv_tableIn (tgt := 117) hx hb d_Q_calls_46 (by decide) (by decide) rfl (by decide) ?_
    refine lv_aload_n hx hb d_Q_calls_117 rfl (lv_at hl 0 rfl) ?_
    refine wl_get (v := .ref (ad 8)) X hP (i := 0) (by decide) (qw_cQ ) rfl i_Q 7 (by decide) lf_Q_31 rfl d_Q_calls_118 ?_
    refine lv_iload_n hx hb d_Q_calls_121 rfl (lv_at hl 2 rfl) ?_
    refine lv_aload_n hx hb d_Q_calls_122 rfl (lv_at hl 0 rfl) ?_
    refine lv_iload_n hx hb d_Q_calls_123 rfl (lv_at hl 1 rfl) ?_
    refine lv_iload_n hx hb d_Q_calls_124 rfl (lv_at hl 2 rfl) ?_
    refine lv_iconst (v := 4) hx hb d_Q_calls_125 (by decide) ?_
    refine lv_irem hx hb d_Q_calls_126 (by decide) ?_
    refine wl_goi2 (cf := qw_C cI cZ ad) (res := k_Q_fork S1 p (r % 4)) hS hA X.2.2.2.2.2.2 (wl_runV (As := [.int (nI p), .int ((nI r) - (nI r) / (4 : Int32) * (4 : Int32))]) (rest := [.int (nI r), .ref (ad 8)]) X hml hl.1 hP g_TT (c_Q_fork hinj S1 (nI p) p rfl (by omega) ((nI r) - (nI r) / (4 : Int32) * (4 : Int32)) (r % 4) (show (nI r) - (nI r) / (4 : Int32) * (4 : Int32) = nI (r % 4) from pk_rem (a := r) (d := 4) (by omega) (by omega) (by omega)) (by omega) _) (by decide) (qw_cQ ) rfl wv_Q_146 (na := 2) (by decide +kernel) rfl ⟨Nat.le_of_ble_eq_true rfl, Nat.le_of_ble_eq_true rfl⟩ rfl (Nat.le_of_ble_eq_true rfl) d_Q_calls_127 ⟨Nat.le_refl _, Nat.le_refl _⟩) (fun r9 S10 er9 eS10 H locs hP hS => ?_)
    refine wl_iast X hP hS (i := 8) (by decide) 0 (qw_cregister ) rfl (j := r) rfl (by omega) (by decide) d_Q_calls_130 (qw_pregister ) (fun H locs hP hS => ?_)
    obtain ⟨S11, eS11⟩ : ∃ z, z = qw_si S10 8 0 r r9 := ⟨_, rfl⟩
    rw [← eS11] at hP
    refine lv_goto (tgt := 179) hx hb d_Q_calls_131 (by decide) ?_
    refine lv_iconst (v := 1) hx hb d_Q_calls_179 (by decide) ?_
    have hE : k_Q_calls_J35 p r n old S0 = ((1 : Int32), S11) := by
      replace eS11 := eS11.symm
      subst eS11
      replace eS10 := eS10.symm
      subst eS10
      replace er9 := er9.symm
      subst er9
      replace eS1 := eS1.symm
      subst eS1
      exact ((if_neg c2).trans ((if_pos c8).trans rfl))
    rw [hE]
    exact wl_zret X hsz hr hlocks (kq_bool (Or.inr rfl)) hP hS d_Q_calls_180
  by_cases c12 : n = (2 : Int32)
  · refine wl_top c12 ?_
    refine lv_tableIn (tgt := 134) hx hb d_Q_calls_46 (by decide) (by decide) rfl (by decide) ?_
    refine lv_aload_n hx hb d_Q_calls_134 rfl (lv_at hl 0 rfl) ?_
    refine lv_iconst (v := 1) hx hb d_Q_calls_135 (by decide) ?_
    refine wl_put X hP hS (i := 0) (by decide) (qw_cQ ) rfl i_Q ft_Q ft_Q_ok fn_Q 22 (by decide) lf_Q_126 rfl rfl rfl (Nat.le_of_ble_eq_true rfl) d_Q_calls_136 (qw_pQ_over ) (fun H locs hP hS => ?_)
    obtain ⟨S13, eS13⟩ : ∃ z, z = qw_si S1 0 0 2 (1 : Int32) := ⟨_, rfl⟩
    rw [← eS13] at hP
    refine lv_goto (tgt := 179) hx hb d_Q_calls_139 (by decide) ?_
    refine lv_iconst (v := 1) hx hb d_Q_calls_179 (by decide) ?_
    have hE : k_Q_calls_J35 p r n old S0 = ((1 : Int32), S13) := by
      replace eS13 := eS13.symm
      subst eS13
      replace eS1 := eS1.symm
      subst eS1
      exact ((if_neg c2).trans ((if_neg c8).trans ((if_pos c12).trans rfl)))
    rw [hE]
    exact wl_zret X hsz hr hlocks (kq_bool (Or.inr rfl)) hP hS d_Q_calls_180
  by_cases c14 : n = (3 : Int32)
  · refine wl_top c14 ?_
    refine lv_tableIn (tgt := 142) hx hb d_Q_calls_46 (by decide) (by decide) rfl (by decide) ?_
    refine lv_iload hx hb d_Q_calls_142 (lv_at hl 4 rfl) ?_
    refine lv_iconst (v := 1) hx hb d_Q_calls_144 (by decide) ?_
    refine lv_icmp_ge (tgt := 151) hx hb d_Q_calls_145 (by decide) (fun c15 => ?_) (fun c15 => ?_)
    · skip
      refine lv_aload_n hx hb d_Q_calls_151 rfl (lv_at hl 0 rfl) ?_
      refine wl_get (v := .ref (ad 1)) X hP (i := 0) (by decide) (qw_cQ ) rfl i_Q 0 (by decide) lf_Q_7 rfl d_Q_calls_152 ?_
      refine lv_iload_n hx hb d_Q_calls_155 rfl (lv_at hl 1 rfl) ?_
      refine lv_iconst (v := 2) hx hb d_Q_calls_156 (by decide) ?_
      refine wl_iast X hP hS (i := 1) (by decide) 0 (qw_cstate ) rfl (j := p) rfl (by omega) (by decide) d_Q_calls_157 (qw_pstate ) (fun H locs hP hS => ?_)
      obtain ⟨S16, eS16⟩ : ∃ z, z = qw_si S1 1 0 p (2 : Int32) := ⟨_, rfl⟩
      rw [← eS16] at hP
      refine lv_aload_n hx hb d_Q_calls_158 rfl (lv_at hl 0 rfl) ?_
      refine wl_get (v := .ref (ad 5)) X hP (i := 0) (by decide) (qw_cQ ) rfl i_Q 4 (by decide) lf_Q_22 rfl d_Q_calls_159 ?_
      refine lv_iload_n hx hb d_Q_calls_162 rfl (lv_at hl 1 rfl) ?_
      refine lv_iload hx hb d_Q_calls_163 (lv_at hl 4 rfl) ?_
      refine wl_iast X hP hS (i := 5) (by decide) 0 (qw_cwake ) rfl (j := p) rfl (by omega) (by decide) d_Q_calls_165 (qw_pwake ) (fun H locs hP hS => ?_)
      obtain ⟨S17, eS17⟩ : ∃ z, z = qw_si S16 5 0 p old := ⟨_, rfl⟩
      rw [← eS17] at hP
      refine lv_goto (tgt := 179) hx hb d_Q_calls_166 (by decide) ?_
      refine lv_iconst (v := 1) hx hb d_Q_calls_179 (by decide) ?_
      have hE : k_Q_calls_J35 p r n old S0 = ((1 : Int32), S17) := by
        replace eS17 := eS17.symm
        subst eS17
        replace eS16 := eS16.symm
        subst eS16
        replace eS1 := eS1.symm
        subst eS1
        exact ((if_neg c2).trans ((if_neg c8).trans ((if_neg c12).trans ((if_pos c14).trans ((if_pos c15).trans rfl)))))
      rw [hE]
      exact wl_zret X hsz hr hlocks (kq_bool (Or.inr rfl)) hP hS d_Q_calls_180
    · skip
      refine lv_goto (tgt := 179) hx hb d_Q_calls_148 (by decide) ?_
      refine lv_iconst (v := 1) hx hb d_Q_calls_179 (by decide) ?_
      have hE : k_Q_calls_J35 p r n old S0 = ((1 : Int32), S1) := by
        replace eS1 := eS1.symm
        subst eS1
        exact ((if_neg c2).trans ((if_neg c8).trans ((if_neg c12).trans ((if_pos c14).trans ((if_neg c15).trans rfl)))))
      rw [hE]
      exact wl_zret X hsz hr hlocks (kq_bool (Or.inr rfl)) hP hS d_Q_calls_180
  by_cases c18 : n = (4 : Int32)
  · refine wl_top c18 ?_
    refine lv_tableIn (tgt := 179) hx hb d_Q_calls_46 (by decide) (by decide) rfl (by decide) ?_
    refine lv_iconst (v := 1) hx hb d_Q_calls_179 (by decide) ?_
    have hE : k_Q_calls_J35 p r n old S0 = ((1 : Int32), S1) := by
      replace eS1 := eS1.symm
      subst eS1
      exact ((if_neg c2).trans ((if_neg c8).trans ((if_neg c12).trans ((if_neg c14).trans ((if_pos c18).trans rfl)))))
    rw [hE]
    exact wl_zret X hsz hr hlocks (kq_bool (Or.inr rfl)) hP hS d_Q_calls_180
  by_cases c19 : n = (5 : Int32)
  · refine wl_top c19 ?_
    refine lv_tableIn (tgt := 169) hx hb d_Q_calls_46 (by decide) (by decide) rfl (by decide) ?_
    refine lv_aload_n hx hb d_Q_calls_169 rfl (lv_at hl 0 rfl) ?_
    refine wl_get (v := .ref (ad 8)) X hP (i := 0) (by decide) (qw_cQ ) rfl i_Q 7 (by decide) lf_Q_31 rfl d_Q_calls_170 ?_
    refine lv_iload_n hx hb d_Q_calls_173 rfl (lv_at hl 2 rfl) ?_
    refine lv_iload_n hx hb d_Q_calls_174 rfl (lv_at hl 1 rfl) ?_
    refine wl_iast X hP hS (i := 8) (by decide) 0 (qw_cregister ) rfl (j := r) rfl (by omega) (by decide) d_Q_calls_175 (qw_pregister ) (fun H locs hP hS => ?_)
    obtain ⟨S20, eS20⟩ : ∃ z, z = qw_si S1 8 0 r (nI p) := ⟨_, rfl⟩
    rw [← eS20] at hP
    refine lv_goto (tgt := 179) hx hb d_Q_calls_176 (by decide) ?_
    refine lv_iconst (v := 1) hx hb d_Q_calls_179 (by decide) ?_
    have hE : k_Q_calls_J35 p r n old S0 = ((1 : Int32), S20) := by
      replace eS20 := eS20.symm
      subst eS20
      replace eS1 := eS1.symm
      subst eS1
      exact ((if_neg c2).trans ((if_neg c8).trans ((if_neg c12).trans ((if_neg c14).trans ((if_neg c18).trans ((if_pos c19).trans rfl))))))
    rw [hE]
    exact wl_zret X hsz hr hlocks (kq_bool (Or.inr rfl)) hP hS d_Q_calls_180
  refine lv_tableOut (tgt := 179) hx hb d_Q_calls_46 (by have := lv_neT c2 (a := 0) rfl; have := lv_neT c8 (a := 1) rfl; have := lv_neT c12 (a := 2) rfl; have := lv_neT c14 (a := 3) rfl; have := lv_neT c18 (a := 4) rfl; have := lv_neT c19 (a := 5) rfl; omega) (by decide) ?_
  refine lv_iconst (v := 1) hx hb d_Q_calls_179 (by decide) ?_
  have hE : k_Q_calls_J35 p r n old S0 = ((1 : Int32), S1) := by
    replace eS1 := eS1.symm
    subst eS1
    exact ((if_neg c2).trans ((if_neg c8).trans ((if_neg c12).trans ((if_neg c14).trans ((if_neg c18).trans ((if_neg c19).trans rfl))))))
  rw [hE]
  exact wl_zret X hsz hr hlocks (kq_bool (Or.inr rfl)) hP hS d_Q_calls_180
def k_Q_calls (S0 : qw_S) (p : Nat) (r : Nat) (n : Int32) : Int32 × qw_S :=
  let r1 := k_Q_in n (6 : Int32)
  if r1 = 0 then
    ((0 : Int32), S0)
  else
    let x3 := S0.1 8 0 r
    if n = (4 : Int32) then
      let r5 := (k_Q_waits S0 p r).1
      let S6 := (k_Q_waits S0 p r).2
      if r5 = 0 then
        ((1 : Int32), S6)
      else
        k_Q_calls_J35 p r n x3 S6
    else
      k_Q_calls_J35 p r n x3 S0
def p_Q_calls (S0 : qw_S) (p : Nat) (r : Nat) (n : Int32) : Prop :=
  let r1 := k_Q_in n (6 : Int32)
  if r1 = 0 then
    True
  else
    let x3 := S0.1 8 0 r
    if n = (4 : Int32) then
      let r5 := (k_Q_waits S0 p r).1
      let S6 := (k_Q_waits S0 p r).2
      if r5 = 0 then
        True
      else
        p_Q_calls_J35 p r n x3 S6
    else
      p_Q_calls_J35 p r n x3 S0
set_option maxHeartbeats 4000000 in
set_option maxRecDepth 100000 in
theorem c_Q_calls {l : Launch} {D : va_G} {cI cZ : ClassId} {ad : Nat → Nat} (hinj : wl_inj 18 ad) (S0 : qw_S) (x_p : Int32) (p : Nat) (e_p : x_p = nI p) (h_p : p < 4) (x_r : Int32) (r : Nat) (e_r : x_r = nI r) (h_r : r < 16) (n : Int32) (hp0 : p_Q_calls S0 p r n) : wl_Mi l y_Q_calls (Cond.code y_Q_calls b_Q_calls 5 (some .boolean) :: TT) (rm_ 2) D classes (qw_ty cI cZ) 18 ad [.ref (ad 0), .int x_p, .int x_r, .int n] (qw_C cI cZ ad S0) ((k_Q_calls S0 p r n).1) (qw_C cI cZ ad ((k_Q_calls S0 p r n).2)) := by
  subst e_p
  subst e_r
  intro sz
  refine wl_enter (own := R_Q) rfl (by decide) (Nat.le_of_ble_eq_true rfl) hinj (fun p_ e_ s_ m_ below meth c_ ls hsz X hml hr hlocks hl hP hS => ?_)
  have hx := X.1
  have hb := X.2.1
  have hA : ∀ q, s_.heap.size ≤ q → (wl_A 18 ad s_.heap.size) q := fun q h => Or.inr h
  have hl : lv_has ls 5 [(0, .ref (ad 0)), (1, .int (nI p)), (2, .int (nI r)), (3, .int n)] := hl
  refine lv_iload_n hx hb d_Q_calls_0 rfl (lv_at hl 3 rfl) ?_
  refine lv_bipush (v := 6) hx hb d_Q_calls_1 (by decide) ?_
  refine wl_goi1 (cf := qw_C cI cZ ad) (r := k_Q_in n (6 : Int32)) hS hA X.2.2.2.2.2.2 (wl_runS (As := [.int n, .int (6 : Int32)]) (rest := []) X hml hl.1 hP g_TT (c_Q_in hinj S0 n (6 : Int32) _) wv_Q_95 (na := 2) (by decide +kernel) rfl ⟨Nat.le_of_ble_eq_true rfl, Nat.le_of_ble_eq_true rfl⟩ rfl (Nat.le_of_ble_eq_true rfl) d_Q_calls_3 ⟨Nat.le_refl _, Nat.le_refl _⟩) (fun r1 er1 H locs hP hS => ?_)
  refine lv_if_ne (tgt := 11) hx hb d_Q_calls_6 (by decide) (fun c2 => ?_) (fun c2 => ?_)
  · skip
    refine lv_aload_n hx hb d_Q_calls_11 rfl (lv_at hl 0 rfl) ?_
    refine wl_get (v := .ref (ad 8)) X hP (i := 0) (by decide) (qw_cQ ) rfl i_Q 7 (by decide) lf_Q_31 rfl d_Q_calls_12 ?_
    refine lv_iload_n hx hb d_Q_calls_15 rfl (lv_at hl 2 rfl) ?_
    refine wl_iald X hP (i := 8) (by decide) 0 (qw_cregister ) rfl (j := r) rfl (by omega) (by decide) d_Q_calls_16 ?_
    refine lv_topi (fun x3 ex3 => ?_)
    refine lv_istore (lv' := [(4, .int x3), (0, .ref (ad 0)), (1, .int (nI p)), (2, .int (nI r)), (3, .int n)]) hx hb d_Q_calls_17 hl (by decide) rfl (fun ls hl => ?_)
    refine lv_iload_n hx hb d_Q_calls_19 rfl (lv_at hl 4 rfl) ?_
    refine lv_iconst (v := 4) hx hb d_Q_calls_20 (by decide) ?_
    refine lv_icmp_ne (tgt := 35) hx hb d_Q_calls_21 (by decide) (fun c4 => ?_) (fun c4 => ?_)
    · skip
      have hE : k_Q_calls S0 p r n = k_Q_calls_J35 p r n x3 S0 := by
        replace ex3 := ex3.symm
        subst ex3
        replace er1 := er1.symm
        subst er1
        exact ((if_neg c2).trans ((if_neg c4).trans rfl))
      rw [hE]
      exact c_Q_calls_J35 hinj X hsz hml hr hlocks (nI p) p rfl (by omega) (nI r) r rfl (by omega) n x3 S0 (by replace ex3 := ex3.symm; subst ex3; replace er1 := er1.symm; subst er1; exact (pp_neg c4 (pp_neg c2 hp0))) _ _ _ (lv_sub hl [1, 2, 3, 4, 0] rfl) hP hS
    · skip
      refine lv_aload_n hx hb d_Q_calls_24 rfl (lv_at hl 1 rfl) ?_
      refine lv_iload_n hx hb d_Q_calls_25 rfl (lv_at hl 2 rfl) ?_
      refine lv_iload_n hx hb d_Q_calls_26 rfl (lv_at hl 3 rfl) ?_
      refine wl_goi2 (cf := qw_C cI cZ ad) (res := k_Q_waits S0 p r) hS hA X.2.2.2.2.2.2 (wl_runV (As := [.int (nI p), .int (nI r)]) (rest := []) X hml hl.1 hP g_TT (c_Q_waits hinj S0 (nI p) p rfl (by omega) (nI r) r rfl (by omega) _) (by decide) (qw_cQ ) rfl wv_Q_140 (na := 2) (by decide +kernel) rfl ⟨Nat.le_of_ble_eq_true rfl, Nat.le_of_ble_eq_true rfl⟩ rfl (Nat.le_of_ble_eq_true rfl) d_Q_calls_27 ⟨Nat.le_refl _, Nat.le_refl _⟩) (fun r5 S6 er5 eS6 H locs hP hS => ?_)
      refine lv_if_ne (tgt := 35) hx hb d_Q_calls_30 (by decide) (fun c7 => ?_) (fun c7 => ?_)
      · skip
        have hE : k_Q_calls S0 p r n = k_Q_calls_J35 p r n x3 S6 := by
          replace eS6 := eS6.symm
          subst eS6
          replace er5 := er5.symm
          subst er5
          replace ex3 := ex3.symm
          subst ex3
          replace er1 := er1.symm
          subst er1
          exact ((if_neg c2).trans ((if_pos c4).trans ((if_neg c7).trans rfl)))
        rw [hE]
        exact c_Q_calls_J35 hinj X hsz hml hr hlocks (nI p) p rfl (by omega) (nI r) r rfl (by omega) n x3 S6 (by replace eS6 := eS6.symm; subst eS6; replace er5 := er5.symm; subst er5; replace ex3 := ex3.symm; subst ex3; replace er1 := er1.symm; subst er1; exact (pp_neg c7 (pp_pos c4 (pp_neg c2 hp0)))) _ _ _ (lv_sub hl [1, 2, 3, 4, 0] rfl) hP hS
      · skip
        refine lv_iconst (v := 1) hx hb d_Q_calls_33 (by decide) ?_
        have hE : k_Q_calls S0 p r n = ((1 : Int32), S6) := by
          replace eS6 := eS6.symm
          subst eS6
          replace er5 := er5.symm
          subst er5
          replace ex3 := ex3.symm
          subst ex3
          replace er1 := er1.symm
          subst er1
          exact ((if_neg c2).trans ((if_pos c4).trans ((if_pos c7).trans rfl)))
        rw [hE]
        exact wl_zret X hsz hr hlocks (kq_bool (Or.inr rfl)) hP hS d_Q_calls_34
  · skip
    refine lv_iconst (v := 0) hx hb d_Q_calls_9 (by decide) ?_
    have hE : k_Q_calls S0 p r n = ((0 : Int32), S0) := by
      replace er1 := er1.symm
      subst er1
      exact ((if_pos c2).trans rfl)
    rw [hE]
    exact wl_zret X hsz hr hlocks (kq_bool (Or.inl rfl)) hP hS d_Q_calls_10
theorem qq_calls35 {p r : Nat} {n old : Int32} {S : qw_S} : (k_Q_calls_J35 p r n old S).1 = 0 ∨ (k_Q_calls_J35 p r n old S).1 = 1 := by
  unfold k_Q_calls_J35
  dsimp only
  repeat' split
  all_goals exact Or.inr rfl
theorem qq_callsb {p r : Nat} {n : Int32} {S : qw_S} : (k_Q_calls S p r n).1 = 0 ∨ (k_Q_calls S p r n).1 = 1 := by
  unfold k_Q_calls
  dsimp only
  repeat' split
  all_goals first | exact Or.inl rfl | exact Or.inr rfl | exact qq_calls35
def k_Q_does_J329 (p : Nat) (nx : Int32) (S0 : qw_S) : Int32 × qw_S :=
  let S1 := qw_si S0 2 0 p nx
  ((1 : Int32), S1)
set_option maxHeartbeats 4000000 in
set_option maxRecDepth 100000 in
theorem c_Q_does_J329 {l : Launch} {D : va_G} {cI cZ : ClassId} {ad : Nat → Nat} {p_ : Program} {e_ : Env} {s_ : State} {m_ : MethodId} {args : Array Value} {below : List Frame} {meth : Method} {c_ : Code} {sz : Nat} (hinj : wl_inj 18 ad) (X : wl_X p_ s_ m_ args c_ b_Q_does R_Q TT D classes (qw_ty cI cZ) 18 ad (wl_A 18 ad s_.heap.size)) (hsz : s_.heap.size = sz) (hml : c_.maxLocals = 9) (hr : meth.sig.returnType = some .boolean) (hlocks : meth.locks = false) :
    ∀ (x_p : Int32) (p : Nat) (e_p : x_p = nI p) (h_p : p < 4) (nx : Int32) (S0 : qw_S) (H : Heap) (locs : List Loc) (ls : Array Slot), lv_has ls 9 [(0, .ref (ad 0)), (1, .int x_p), (8, .int nx)] → va_P D classes (wl_W 18 ad (qw_C cI cZ ad S0)) H → va_S (wl_A 18 ad s_.heap.size) s_.heap H locs → W p_ l e_ (rm_ 5) s_ m_ args below meth c_ H locs 0 0 (MQ below (wl_Qi D classes (qw_ty cI cZ) 18 ad ((k_Q_does_J329 p nx S0).1) (qw_C cI cZ ad ((k_Q_does_J329 p nx S0).2)) sz) args s_ 0 0 (wl_A 18 ad sz)) (F0 m_ 329 ls []) := by
  have hx := X.1
  have hb := X.2.1
  have hA : ∀ q, s_.heap.size ≤ q → (wl_A 18 ad s_.heap.size) q := fun q h => Or.inr h
  intro x_p p e_p h_p nx S0 H locs ls hl hP hS
  subst e_p
  refine lv_aload_n hx hb d_Q_does_329 rfl (lv_at hl 0 rfl) ?_
  refine wl_get (v := .ref (ad 2)) X hP (i := 0) (by decide) (qw_cQ ) rfl i_Q 1 (by decide) lf_Q_13 rfl d_Q_does_330 ?_
  refine lv_iload_n hx hb d_Q_does_333 rfl (lv_at hl 1 rfl) ?_
  refine lv_iload hx hb d_Q_does_334 (lv_at hl 2 rfl) ?_
  refine wl_iast X hP hS (i := 2) (by decide) 0 (qw_cplace ) rfl (j := p) rfl (by omega) (by decide) d_Q_does_336 (qw_pplace ) (fun H locs hP hS => ?_)
  obtain ⟨S1, eS1⟩ : ∃ z, z = qw_si S0 2 0 p nx := ⟨_, rfl⟩
  rw [← eS1] at hP
  refine lv_iconst (v := 1) hx hb d_Q_does_337 (by decide) ?_
  have hE : k_Q_does_J329 p nx S0 = ((1 : Int32), S1) := by
    replace eS1 := eS1.symm
    subst eS1
    exact rfl
  rw [hE]
  exact wl_zret X hsz hr hlocks (kq_bool (Or.inr rfl)) hP hS d_Q_does_338
def k_Q_does_J131 (p : Nat) (op : Int32) (r : Nat) (s : Int32) (n : Int32) (old : Int32) (S0 : qw_S) : Int32 × qw_S :=
  let x1 := (S0.1 2 0 p) + (1 : Int32)
  if op = (0 : Int32) then
    let S3 := k_Q_ends S0 p old
    ((1 : Int32), S3)
  else
    if op = (1 : Int32) then
      let S5 := qw_si S0 8 0 r n
      k_Q_does_J329 p x1 S5
    else
      if op = (2 : Int32) then
        let S7 := qw_si S0 8 0 r (old + s)
        k_Q_does_J329 p x1 S7
      else
        if op = (3 : Int32) then
          let S9 := qw_si S0 8 0 r (old - s)
          k_Q_does_J329 p x1 S9
        else
          if op = (4 : Int32) then
            let r12 := (k_Q_reach S0 p ((s + n).toNatClampNeg) (0 : Int32)).1
            let S13 := (k_Q_reach S0 p ((s + n).toNatClampNeg) (0 : Int32)).2
            let S15 := qw_si S13 8 0 r (S13.1 15 0 r12.toNatClampNeg)
            k_Q_does_J329 p x1 S15
          else
            if op = (5 : Int32) then
              let r18 := (k_Q_reach S0 p ((s + n).toNatClampNeg) (1 : Int32)).1
              let S19 := (k_Q_reach S0 p ((s + n).toNatClampNeg) (1 : Int32)).2
              let S21 := qw_si S19 15 0 r18.toNatClampNeg old
              k_Q_does_J329 p x1 S21
            else
              if op = (6 : Int32) then
                if old = 0 then
                  k_Q_does_J329 p n S0
                else
                  k_Q_does_J329 p x1 S0
              else
                if op = (7 : Int32) then
                  k_Q_does_J329 p n S0
                else
                  if s ≤ old then
                    let S26 := qw_si S0 8 0 r (0 : Int32)
                    k_Q_does_J329 p x1 S26
                  else
                    let S27 := qw_si S0 8 0 r (1 : Int32)
                    k_Q_does_J329 p x1 S27
def p_Q_does_J131 (p : Nat) (op : Int32) (r : Nat) (s : Int32) (n : Int32) (old : Int32) (S0 : qw_S) : Prop :=
  let x1 := (S0.1 2 0 p) + (1 : Int32)
  if op = (0 : Int32) then
    let S3 := k_Q_ends S0 p old
    True
  else
    if op = (1 : Int32) then
      let S5 := qw_si S0 8 0 r n
      True
    else
      if op = (2 : Int32) then
        let S7 := qw_si S0 8 0 r (old + s)
        True
      else
        if op = (3 : Int32) then
          let S9 := qw_si S0 8 0 r (old - s)
          True
        else
          if op = (4 : Int32) then
            (p_Q_reach S0 p ((s + n).toNatClampNeg) (0 : Int32)) ∧
            (let r12 := (k_Q_reach S0 p ((s + n).toNatClampNeg) (0 : Int32)).1
            let S13 := (k_Q_reach S0 p ((s + n).toNatClampNeg) (0 : Int32)).2
            (in_ r12 272) ∧
            (let S15 := qw_si S13 8 0 r (S13.1 15 0 r12.toNatClampNeg)
            True))
          else
            if op = (5 : Int32) then
              (p_Q_reach S0 p ((s + n).toNatClampNeg) (1 : Int32)) ∧
              (let r18 := (k_Q_reach S0 p ((s + n).toNatClampNeg) (1 : Int32)).1
              let S19 := (k_Q_reach S0 p ((s + n).toNatClampNeg) (1 : Int32)).2
              (in_ r18 272) ∧
              (let S21 := qw_si S19 15 0 r18.toNatClampNeg old
              True))
            else
              if op = (6 : Int32) then
                if old = 0 then
                  True
                else
                  True
              else
                if op = (7 : Int32) then
                  True
                else
                  if s ≤ old then
                    let S26 := qw_si S0 8 0 r (0 : Int32)
                    True
                  else
                    let S27 := qw_si S0 8 0 r (1 : Int32)
                    True
set_option maxHeartbeats 4000000 in
set_option maxRecDepth 100000 in
theorem c_Q_does_J131 {l : Launch} {D : va_G} {cI cZ : ClassId} {ad : Nat → Nat} {p_ : Program} {e_ : Env} {s_ : State} {m_ : MethodId} {args : Array Value} {below : List Frame} {meth : Method} {c_ : Code} {sz : Nat} (hinj : wl_inj 18 ad) (X : wl_X p_ s_ m_ args c_ b_Q_does R_Q TT D classes (qw_ty cI cZ) 18 ad (wl_A 18 ad s_.heap.size)) (hsz : s_.heap.size = sz) (hml : c_.maxLocals = 9) (hr : meth.sig.returnType = some .boolean) (hlocks : meth.locks = false) :
    ∀ (x_p : Int32) (p : Nat) (e_p : x_p = nI p) (h_p : p < 4) (op : Int32) (x_r : Int32) (r : Nat) (e_r : x_r = nI r) (h_r : r < 16) (s : Int32) (n : Int32) (old : Int32) (S0 : qw_S) (hn : (op = 4 ∨ op = 5) → in_ (s + n) 64) (hp0 : p_Q_does_J131 p op r s n old S0) (H : Heap) (locs : List Loc) (ls : Array Slot), lv_has ls 9 [(0, .ref (ad 0)), (1, .int x_p), (3, .int op), (4, .int x_r), (5, .int s), (6, .int n), (7, .int old)] → va_P D classes (wl_W 18 ad (qw_C cI cZ ad S0)) H → va_S (wl_A 18 ad s_.heap.size) s_.heap H locs → W p_ l e_ (rm_ 5) s_ m_ args below meth c_ H locs 0 0 (MQ below (wl_Qi D classes (qw_ty cI cZ) 18 ad ((k_Q_does_J131 p op r s n old S0).1) (qw_C cI cZ ad ((k_Q_does_J131 p op r s n old S0).2)) sz) args s_ 0 0 (wl_A 18 ad sz)) (F0 m_ 131 ls []) := by
  have hx := X.1
  have hb := X.2.1
  have hA : ∀ q, s_.heap.size ≤ q → (wl_A 18 ad s_.heap.size) q := fun q h => Or.inr h
  intro x_p p e_p h_p op x_r r e_r h_r s n old S0 hn hp0 H locs ls hl hP hS
  subst e_p
  subst e_r
  refine lv_aload_n hx hb d_Q_does_131 rfl (lv_at hl 0 rfl) ?_
  refine wl_get (v := .ref (ad 2)) X hP (i := 0) (by decide) (qw_cQ ) rfl i_Q 1 (by decide) lf_Q_13 rfl d_Q_does_132 ?_
  refine lv_iload_n hx hb d_Q_does_135 rfl (lv_at hl 1 rfl) ?_
  refine wl_iald X hP (i := 2) (by decide) 0 (qw_cplace ) rfl (j := p) rfl (by omega) (by decide) d_Q_does_136 ?_
  refine lv_iconst (v := 1) hx hb d_Q_does_137 (by decide) ?_
  refine lv_iadd hx hb d_Q_does_138 ?_
  refine lv_topi (fun x1 ex1 => ?_)
  refine lv_istore (lv' := [(8, .int x1), (0, .ref (ad 0)), (1, .int (nI p)), (3, .int op), (4, .int (nI r)), (5, .int s), (6, .int n), (7, .int old)]) hx hb d_Q_does_139 hl (by decide) rfl (fun ls hl => ?_)
  refine lv_iload_n hx hb d_Q_does_141 rfl (lv_at hl 3 rfl) ?_
  by_cases c2 : op = (0 : Int32)
  · refine wl_top c2 ?_
    refine lv_tableIn (tgt := 188) hx hb d_Q_does_142 (by decide) (by decide) rfl (by decide) ?_
    refine lv_aload_n hx hb d_Q_does_188 rfl (lv_at hl 1 rfl) ?_
    refine lv_iload_n hx hb d_Q_does_189 rfl (lv_at hl 2 rfl) ?_
    refine lv_iload hx hb d_Q_does_190 (lv_at hl 7 rfl) ?_
    refine wl_gov2 (cf := qw_C cI cZ ad) (S2 := k_Q_ends S0 p old) hS hA X.2.2.2.2.2.2 (wl_runV (As := [.int (nI p), .int old]) (rest := []) X hml hl.1 hP g_TT (c_Q_ends hinj S0 (nI p) p rfl (by omega) old _) (by decide) (qw_cQ ) rfl wv_Q_115 (na := 2) (by decide +kernel) rfl ⟨Nat.le_of_ble_eq_true rfl, Nat.le_of_ble_eq_true rfl⟩ rfl (Nat.le_of_ble_eq_true rfl) d_Q_does_192 ⟨Nat.le_refl _, Nat.le_refl _⟩) (fun S3 eS3 H locs hP hS => ?_)
    refine lv_iconst (v := 1) hx hb d_Q_does_195 (by decide) ?_
    have hE : k_Q_does_J131 p op r s n old S0 = ((1 : Int32), S3) := by
      replace eS3 := eS3.symm
      subst eS3
      replace ex1 := ex1.symm
      subst ex1
      exact ((if_pos c2).trans rfl)
    rw [hE]
    exact wl_zret X hsz hr hlocks (kq_bool (Or.inr rfl)) hP hS d_Q_does_196
  by_cases c4 : op = (1 : Int32)
  · refine wl_top c4 ?_
    refine lv_tableIn (tgt := 197) hx hb d_Q_does_142 (by decide) (by decide) rfl (by decide) ?_
    refine lv_aload_n hx hb d_Q_does_197 rfl (lv_at hl 1 rfl) ?_
    refine wl_get (v := .ref (ad 8)) X hP (i := 0) (by decide) (qw_cQ ) rfl i_Q 7 (by decide) lf_Q_31 rfl d_Q_does_198 ?_
    refine lv_iload hx hb d_Q_does_201 (lv_at hl 4 rfl) ?_
    refine lv_iload hx hb d_Q_does_203 (lv_at hl 6 rfl) ?_
    refine wl_iast X hP hS (i := 8) (by decide) 0 (qw_cregister ) rfl (j := r) rfl (by omega) (by decide) d_Q_does_205 (qw_pregister ) (fun H locs hP hS => ?_)
    obtain ⟨S5, eS5⟩ : ∃ z, z = qw_si S0 8 0 r n := ⟨_, rfl⟩
    rw [← eS5] at hP
    refine lv_goto (tgt := 329) hx hb d_Q_does_206 (by decide) ?_
    have hE : k_Q_does_J131 p op r s n old S0 = k_Q_does_J329 p x1 S5 := by
      replace eS5 := eS5.symm
      subst eS5
      replace ex1 := ex1.symm
      subst ex1
      exact ((if_neg c2).trans ((if_pos c4).trans rfl))
    rw [hE]
    exact c_Q_does_J329 hinj X hsz hml hr hlocks (nI p) p rfl (by omega) x1 S5 _ _ _ (lv_sub hl [1, 2, 0] rfl) hP hS
  by_cases c6 : op = (2 : Int32)
  · refine wl_top c6 ?_
    refine lv_tableIn (tgt := 209) hx hb d_Q_does_142 (by decide) (by decide) rfl (by decide) ?_
    refine lv_aload_n hx hb d_Q_does_209 rfl (lv_at hl 1 rfl) ?_
    refine wl_get (v := .ref (ad 8)) X hP (i := 0) (by decide) (qw_cQ ) rfl i_Q 7 (by decide) lf_Q_31 rfl d_Q_does_210 ?_
    refine lv_iload hx hb d_Q_does_213 (lv_at hl 4 rfl) ?_
    refine lv_iload hx hb d_Q_does_215 (lv_at hl 7 rfl) ?_
    refine lv_iload hx hb d_Q_does_217 (lv_at hl 5 rfl) ?_
    refine lv_iadd hx hb d_Q_does_219 ?_
    refine wl_iast X hP hS (i := 8) (by decide) 0 (qw_cregister ) rfl (j := r) rfl (by omega) (by decide) d_Q_does_220 (qw_pregister ) (fun H locs hP hS => ?_)
    obtain ⟨S7, eS7⟩ : ∃ z, z = qw_si S0 8 0 r (old + s) := ⟨_, rfl⟩
    rw [← eS7] at hP
    refine lv_goto (tgt := 329) hx hb d_Q_does_221 (by decide) ?_
    have hE : k_Q_does_J131 p op r s n old S0 = k_Q_does_J329 p x1 S7 := by
      replace eS7 := eS7.symm
      subst eS7
      replace ex1 := ex1.symm
      subst ex1
      exact ((if_neg c2).trans ((if_neg c4).trans ((if_pos c6).trans rfl)))
    rw [hE]
    exact c_Q_does_J329 hinj X hsz hml hr hlocks (nI p) p rfl (by omega) x1 S7 _ _ _ (lv_sub hl [1, 2, 0] rfl) hP hS
  by_cases c8 : op = (3 : Int32)
  · refine wl_top c8 ?_
    refine lv_tableIn (tgt := 224) hx hb d_Q_does_142 (by decide) (by decide) rfl (by decide) ?_
    refine lv_aload_n hx hb d_Q_does_224 rfl (lv_at hl 1 rfl) ?_
    refine wl_get (v := .ref (ad 8)) X hP (i := 0) (by decide) (qw_cQ ) rfl i_Q 7 (by decide) lf_Q_31 rfl d_Q_does_225 ?_
    refine lv_iload hx hb d_Q_does_228 (lv_at hl 4 rfl) ?_
    refine lv_iload hx hb d_Q_does_230 (lv_at hl 7 rfl) ?_
    refine lv_iload hx hb d_Q_does_232 (lv_at hl 5 rfl) ?_
    refine lv_isub hx hb d_Q_does_234 ?_
    refine wl_iast X hP hS (i := 8) (by decide) 0 (qw_cregister ) rfl (j := r) rfl (by omega) (by decide) d_Q_does_235 (qw_pregister ) (fun H locs hP hS => ?_)
    obtain ⟨S9, eS9⟩ : ∃ z, z = qw_si S0 8 0 r (old - s) := ⟨_, rfl⟩
    rw [← eS9] at hP
    refine lv_goto (tgt := 329) hx hb d_Q_does_236 (by decide) ?_
    have hE : k_Q_does_J131 p op r s n old S0 = k_Q_does_J329 p x1 S9 := by
      replace eS9 := eS9.symm
      subst eS9
      replace ex1 := ex1.symm
      subst ex1
      exact ((if_neg c2).trans ((if_neg c4).trans ((if_neg c6).trans ((if_pos c8).trans rfl))))
    rw [hE]
    exact c_Q_does_J329 hinj X hsz hml hr hlocks (nI p) p rfl (by omega) x1 S9 _ _ _ (lv_sub hl [1, 2, 0] rfl) hP hS
  by_cases c10 : op = (4 : Int32)
  · refine wl_top c10 ?_
    refine lv_tableIn (tgt := 239) hx hb d_Q_does_142 (by decide) (by decide) rfl (by decide) ?_
    obtain ⟨ha1, ha2⟩ := hn (Or.inl c10)
    refine lv_aload_n hx hb d_Q_does_239 rfl (lv_at hl 1 rfl) ?_
    refine wl_get (v := .ref (ad 8)) X hP (i := 0) (by decide) (qw_cQ ) rfl i_Q 7 (by decide) lf_Q_31 rfl d_Q_does_240 ?_
    refine lv_iload hx hb d_Q_does_243 (lv_at hl 4 rfl) ?_
    refine lv_aload_n hx hb d_Q_does_245 rfl (lv_at hl 1 rfl) ?_
    refine wl_get (v := .ref (ad 15)) X hP (i := 0) (by decide) (qw_cQ ) rfl i_Q 14 (by decide) lf_Q_53 rfl d_Q_does_246 ?_
    refine lv_aload_n hx hb d_Q_does_249 rfl (lv_at hl 1 rfl) ?_
    refine lv_iload_n hx hb d_Q_does_250 rfl (lv_at hl 2 rfl) ?_
    refine lv_iload hx hb d_Q_does_251 (lv_at hl 5 rfl) ?_
    refine lv_iload hx hb d_Q_does_253 (lv_at hl 6 rfl) ?_
    refine lv_iadd hx hb d_Q_does_255 ?_
    refine lv_iconst (v := 0) hx hb d_Q_does_256 (by decide) ?_
    have ob11 : p_Q_reach S0 p ((s + n).toNatClampNeg) (0 : Int32) := by
      replace ex1 := ex1.symm
      subst ex1
      exact And.left (pp_pos c10 (pp_neg c8 (pp_neg c6 (pp_neg c4 (pp_neg c2 hp0)))))
    refine wl_goi2 (cf := qw_C cI cZ ad) (res := k_Q_reach S0 p ((s + n).toNatClampNeg) (0 : Int32)) hS hA X.2.2.2.2.2.2 (wl_runV (As := [.int (nI p), .int (s + n), .int (0 : Int32)]) (rest := [.ref (ad 15), .int (nI r), .ref (ad 8)]) X hml hl.1 hP g_TT (c_Q_reach hinj S0 (nI p) p rfl (by omega) (s + n) ((s + n).toNatClampNeg) ha1 (by omega) (0 : Int32) ob11 _) (by decide) (qw_cQ ) rfl wv_Q_108 (na := 3) (by decide +kernel) rfl ⟨Nat.le_of_ble_eq_true rfl, Nat.le_of_ble_eq_true rfl⟩ rfl (Nat.le_of_ble_eq_true rfl) d_Q_does_257 ⟨Nat.le_refl _, Nat.le_refl _⟩) (fun r12 S13 er12 eS13 H locs hP hS => ?_)
    have ob14 : in_ r12 272 := by
      replace eS13 := eS13.symm
      subst eS13
      replace er12 := er12.symm
      subst er12
      replace ex1 := ex1.symm
      subst ex1
      exact And.left (And.right (pp_pos c10 (pp_neg c8 (pp_neg c6 (pp_neg c4 (pp_neg c2 hp0))))))
    obtain ⟨ob14_1, ob14_2⟩ := ob14
    refine wl_iald X hP (i := 15) (by decide) 0 (qw_cword ) rfl (j := r12.toNatClampNeg) ob14_1 (by omega) (by decide) d_Q_does_260 ?_
    refine wl_iast X hP hS (i := 8) (by decide) 0 (qw_cregister ) rfl (j := r) rfl (by omega) (by decide) d_Q_does_261 (qw_pregister ) (fun H locs hP hS => ?_)
    obtain ⟨S15, eS15⟩ : ∃ z, z = qw_si S13 8 0 r (S13.1 15 0 r12.toNatClampNeg) := ⟨_, rfl⟩
    rw [← eS15] at hP
    refine lv_goto (tgt := 329) hx hb d_Q_does_262 (by decide) ?_
    have hE : k_Q_does_J131 p op r s n old S0 = k_Q_does_J329 p x1 S15 := by
      replace eS15 := eS15.symm
      subst eS15
      replace eS13 := eS13.symm
      subst eS13
      replace er12 := er12.symm
      subst er12
      replace ex1 := ex1.symm
      subst ex1
      exact ((if_neg c2).trans ((if_neg c4).trans ((if_neg c6).trans ((if_neg c8).trans ((if_pos c10).trans rfl)))))
    rw [hE]
    exact c_Q_does_J329 hinj X hsz hml hr hlocks (nI p) p rfl (by omega) x1 S15 _ _ _ (lv_sub hl [1, 2, 0] rfl) hP hS
  by_cases c16 : op = (5 : Int32)
  · refine wl_top c16 ?_
    refine lv_tableIn (tgt := 265) hx hb d_Q_does_142 (by decide) (by decide) rfl (by decide) ?_
    obtain ⟨ha1, ha2⟩ := hn (Or.inr c16)
    refine lv_aload_n hx hb d_Q_does_265 rfl (lv_at hl 1 rfl) ?_
    refine wl_get (v := .ref (ad 15)) X hP (i := 0) (by decide) (qw_cQ ) rfl i_Q 14 (by decide) lf_Q_53 rfl d_Q_does_266 ?_
    refine lv_aload_n hx hb d_Q_does_269 rfl (lv_at hl 1 rfl) ?_
    refine lv_iload_n hx hb d_Q_does_270 rfl (lv_at hl 2 rfl) ?_
    refine lv_iload hx hb d_Q_does_271 (lv_at hl 5 rfl) ?_
    refine lv_iload hx hb d_Q_does_273 (lv_at hl 6 rfl) ?_
    refine lv_iadd hx hb d_Q_does_275 ?_
    refine lv_iconst (v := 1) hx hb d_Q_does_276 (by decide) ?_
    have ob17 : p_Q_reach S0 p ((s + n).toNatClampNeg) (1 : Int32) := by
      replace ex1 := ex1.symm
      subst ex1
      exact And.left (pp_pos c16 (pp_neg c10 (pp_neg c8 (pp_neg c6 (pp_neg c4 (pp_neg c2 hp0))))))
    refine wl_goi2 (cf := qw_C cI cZ ad) (res := k_Q_reach S0 p ((s + n).toNatClampNeg) (1 : Int32)) hS hA X.2.2.2.2.2.2 (wl_runV (As := [.int (nI p), .int (s + n), .int (1 : Int32)]) (rest := [.ref (ad 15)]) X hml hl.1 hP g_TT (c_Q_reach hinj S0 (nI p) p rfl (by omega) (s + n) ((s + n).toNatClampNeg) ha1 (by omega) (1 : Int32) ob17 _) (by decide) (qw_cQ ) rfl wv_Q_108 (na := 3) (by decide +kernel) rfl ⟨Nat.le_of_ble_eq_true rfl, Nat.le_of_ble_eq_true rfl⟩ rfl (Nat.le_of_ble_eq_true rfl) d_Q_does_277 ⟨Nat.le_refl _, Nat.le_refl _⟩) (fun r18 S19 er18 eS19 H locs hP hS => ?_)
    refine lv_iload hx hb d_Q_does_280 (lv_at hl 7 rfl) ?_
    have ob20 : in_ r18 272 := by
      replace eS19 := eS19.symm
      subst eS19
      replace er18 := er18.symm
      subst er18
      replace ex1 := ex1.symm
      subst ex1
      exact And.left (And.right (pp_pos c16 (pp_neg c10 (pp_neg c8 (pp_neg c6 (pp_neg c4 (pp_neg c2 hp0)))))))
    obtain ⟨ob20_1, ob20_2⟩ := ob20
    refine wl_iast X hP hS (i := 15) (by decide) 0 (qw_cword ) rfl (j := r18.toNatClampNeg) ob20_1 (by omega) (by decide) d_Q_does_282 (qw_pword ) (fun H locs hP hS => ?_)
    obtain ⟨S21, eS21⟩ : ∃ z, z = qw_si S19 15 0 r18.toNatClampNeg old := ⟨_, rfl⟩
    rw [← eS21] at hP
    refine lv_goto (tgt := 329) hx hb d_Q_does_283 (by decide) ?_
    have hE : k_Q_does_J131 p op r s n old S0 = k_Q_does_J329 p x1 S21 := by
      replace eS21 := eS21.symm
      subst eS21
      replace eS19 := eS19.symm
      subst eS19
      replace er18 := er18.symm
      subst er18
      replace ex1 := ex1.symm
      subst ex1
      exact ((if_neg c2).trans ((if_neg c4).trans ((if_neg c6).trans ((if_neg c8).trans ((if_neg c10).trans ((if_pos c16).trans rfl))))))
    rw [hE]
    exact c_Q_does_J329 hinj X hsz hml hr hlocks (nI p) p rfl (by omega) x1 S21 _ _ _ (lv_sub hl [1, 2, 0] rfl) hP hS
  by_cases c22 : op = (6 : Int32)
  · refine wl_top c22 ?_
    refine lv_tableIn (tgt := 286) hx hb d_Q_does_142 (by decide) (by decide) rfl (by decide) ?_
    refine lv_iload hx hb d_Q_does_286 (lv_at hl 7 rfl) ?_
    refine lv_if_ne (tgt := 296) hx hb d_Q_does_288 (by decide) (fun c23 => ?_) (fun c23 => ?_)
    · skip
      refine lv_iload hx hb d_Q_does_296 (lv_at hl 0 rfl) ?_
      refine lv_istore (lv' := [(8, .int x1), (0, .ref (ad 0)), (1, .int (nI p)), (3, .int op), (4, .int (nI r)), (5, .int s), (6, .int n), (7, .int old)]) hx hb d_Q_does_298 hl (by decide) rfl (fun ls hl => ?_)
      refine lv_goto (tgt := 329) hx hb d_Q_does_300 (by decide) ?_
      have hE : k_Q_does_J131 p op r s n old S0 = k_Q_does_J329 p x1 S0 := by
        replace ex1 := ex1.symm
        subst ex1
        exact ((if_neg c2).trans ((if_neg c4).trans ((if_neg c6).trans ((if_neg c8).trans ((if_neg c10).trans ((if_neg c16).trans ((if_pos c22).trans ((if_neg c23).trans rfl))))))))
      rw [hE]
      exact c_Q_does_J329 hinj X hsz hml hr hlocks (nI p) p rfl (by omega) x1 S0 _ _ _ (lv_sub hl [1, 2, 0] rfl) hP hS
    · skip
      refine lv_iload hx hb d_Q_does_291 (lv_at hl 6 rfl) ?_
      refine lv_goto (tgt := 298) hx hb d_Q_does_293 (by decide) ?_
      refine lv_istore (lv' := [(8, .int n), (0, .ref (ad 0)), (1, .int (nI p)), (3, .int op), (4, .int (nI r)), (5, .int s), (6, .int n), (7, .int old)]) hx hb d_Q_does_298 hl (by decide) rfl (fun ls hl => ?_)
      refine lv_goto (tgt := 329) hx hb d_Q_does_300 (by decide) ?_
      have hE : k_Q_does_J131 p op r s n old S0 = k_Q_does_J329 p n S0 := by
        replace ex1 := ex1.symm
        subst ex1
        exact ((if_neg c2).trans ((if_neg c4).trans ((if_neg c6).trans ((if_neg c8).trans ((if_neg c10).trans ((if_neg c16).trans ((if_pos c22).trans ((if_pos c23).trans rfl))))))))
      rw [hE]
      exact c_Q_does_J329 hinj X hsz hml hr hlocks (nI p) p rfl (by omega) n S0 _ _ _ (lv_sub hl [1, 2, 0] rfl) hP hS
  by_cases c24 : op = (7 : Int32)
  · refine wl_top c24 ?_
    refine lv_tableIn (tgt := 303) hx hb d_Q_does_142 (by decide) (by decide) rfl (by decide) ?_
    refine lv_iload hx hb d_Q_does_303 (lv_at hl 6 rfl) ?_
    refine lv_istore (lv' := [(8, .int n), (0, .ref (ad 0)), (1, .int (nI p)), (3, .int op), (4, .int (nI r)), (5, .int s), (6, .int n), (7, .int old)]) hx hb d_Q_does_305 hl (by decide) rfl (fun ls hl => ?_)
    refine lv_goto (tgt := 329) hx hb d_Q_does_307 (by decide) ?_
    have hE : k_Q_does_J131 p op r s n old S0 = k_Q_does_J329 p n S0 := by
      replace ex1 := ex1.symm
      subst ex1
      exact ((if_neg c2).trans ((if_neg c4).trans ((if_neg c6).trans ((if_neg c8).trans ((if_neg c10).trans ((if_neg c16).trans ((if_neg c22).trans ((if_pos c24).trans rfl))))))))
    rw [hE]
    exact c_Q_does_J329 hinj X hsz hml hr hlocks (nI p) p rfl (by omega) n S0 _ _ _ (lv_sub hl [1, 2, 0] rfl) hP hS
  refine lv_tableOut (tgt := 310) hx hb d_Q_does_142 (by have := lv_neT c2 (a := 0) rfl; have := lv_neT c4 (a := 1) rfl; have := lv_neT c6 (a := 2) rfl; have := lv_neT c8 (a := 3) rfl; have := lv_neT c10 (a := 4) rfl; have := lv_neT c16 (a := 5) rfl; have := lv_neT c22 (a := 6) rfl; have := lv_neT c24 (a := 7) rfl; omega) (by decide) ?_
  refine lv_aload_n hx hb d_Q_does_310 rfl (lv_at hl 1 rfl) ?_
  refine wl_get (v := .ref (ad 8)) X hP (i := 0) (by decide) (qw_cQ ) rfl i_Q 7 (by decide) lf_Q_31 rfl d_Q_does_311 ?_
  refine lv_iload hx hb d_Q_does_314 (lv_at hl 4 rfl) ?_
  refine lv_iload hx hb d_Q_does_316 (lv_at hl 7 rfl) ?_
  refine lv_iload hx hb d_Q_does_318 (lv_at hl 5 rfl) ?_
  refine lv_icmp_ge (tgt := 327) hx hb d_Q_does_320 (by decide) (fun c25 => ?_) (fun c25 => ?_)
  · skip
    refine lv_iconst (v := 0) hx hb d_Q_does_327 (by decide) ?_
    refine wl_iast X hP hS (i := 8) (by decide) 0 (qw_cregister ) rfl (j := r) rfl (by omega) (by decide) d_Q_does_328 (qw_pregister ) (fun H locs hP hS => ?_)
    obtain ⟨S26, eS26⟩ : ∃ z, z = qw_si S0 8 0 r (0 : Int32) := ⟨_, rfl⟩
    rw [← eS26] at hP
    have hE : k_Q_does_J131 p op r s n old S0 = k_Q_does_J329 p x1 S26 := by
      replace eS26 := eS26.symm
      subst eS26
      replace ex1 := ex1.symm
      subst ex1
      exact ((if_neg c2).trans ((if_neg c4).trans ((if_neg c6).trans ((if_neg c8).trans ((if_neg c10).trans ((if_neg c16).trans ((if_neg c22).trans ((if_neg c24).trans ((if_pos c25).trans rfl)))))))))
    rw [hE]
    exact c_Q_does_J329 hinj X hsz hml hr hlocks (nI p) p rfl (by omega) x1 S26 _ _ _ (lv_sub hl [1, 2, 0] rfl) hP hS
  · skip
    refine lv_iconst (v := 1) hx hb d_Q_does_323 (by decide) ?_
    refine lv_goto (tgt := 328) hx hb d_Q_does_324 (by decide) ?_
    refine wl_iast X hP hS (i := 8) (by decide) 0 (qw_cregister ) rfl (j := r) rfl (by omega) (by decide) d_Q_does_328 (qw_pregister ) (fun H locs hP hS => ?_)
    obtain ⟨S27, eS27⟩ : ∃ z, z = qw_si S0 8 0 r (1 : Int32) := ⟨_, rfl⟩
    rw [← eS27] at hP
    have hE : k_Q_does_J131 p op r s n old S0 = k_Q_does_J329 p x1 S27 := by
      replace eS27 := eS27.symm
      subst eS27
      replace ex1 := ex1.symm
      subst ex1
      exact ((if_neg c2).trans ((if_neg c4).trans ((if_neg c6).trans ((if_neg c8).trans ((if_neg c10).trans ((if_neg c16).trans ((if_neg c22).trans ((if_neg c24).trans ((if_neg c25).trans rfl)))))))))
    rw [hE]
    exact c_Q_does_J329 hinj X hsz hml hr hlocks (nI p) p rfl (by omega) x1 S27 _ _ _ (lv_sub hl [1, 2, 0] rfl) hP hS
def k_Q_does (S0 : qw_S) (p : Nat) : Int32 × qw_S :=
  let r1 := k_Q_in (S0.1 2 0 p) (64 : Int32)
  if r1 = 0 then
    ((0 : Int32), S0)
  else
    let r4 := (k_Q_reach S0 p ((S0.1 2 0 p).toNatClampNeg) (0 : Int32)).1
    let S5 := (k_Q_reach S0 p ((S0.1 2 0 p).toNatClampNeg) (0 : Int32)).2
    let x7 := S5.1 15 0 r4.toNatClampNeg
    let x8 := x7 &&& (15 : Int32)
    let x9 := S5.1 8 0 ((4 * p) + (kw_rs x7))
    let x10 := x7 >>> ((8 : Int32) &&& 31)
    let x11 := S5.1 8 0 ((4 * p) + (kw_rr x7))
    if x8 = (8 : Int32) then
      let r21 := (k_Q_calls S5 p ((4 * p) + (kw_rr x7)) x10).1
      let S22 := (k_Q_calls S5 p ((4 * p) + (kw_rr x7)) x10).2
      (r21, S22)
    else
      if x8 ≤ (9 : Int32) then
        if x8 = (4 : Int32) then
          let r15 := k_Q_in (x9 + x10) (64 : Int32)
          if r15 = 0 then
            ((0 : Int32), S5)
          else
            k_Q_does_J131 p x8 ((4 * p) + (kw_rr x7)) x9 x10 x11 S5
        else
          if x8 = (5 : Int32) then
            let r18 := k_Q_in (x9 + x10) (64 : Int32)
            if r18 = 0 then
              ((0 : Int32), S5)
            else
              k_Q_does_J131 p x8 ((4 * p) + (kw_rr x7)) x9 x10 x11 S5
          else
            k_Q_does_J131 p x8 ((4 * p) + (kw_rr x7)) x9 x10 x11 S5
      else
        ((0 : Int32), S5)
def p_Q_does (S0 : qw_S) (p : Nat) : Prop :=
  let r1 := k_Q_in (S0.1 2 0 p) (64 : Int32)
  if r1 = 0 then
    True
  else
    (p_Q_reach S0 p ((S0.1 2 0 p).toNatClampNeg) (0 : Int32)) ∧
    (let r4 := (k_Q_reach S0 p ((S0.1 2 0 p).toNatClampNeg) (0 : Int32)).1
    let S5 := (k_Q_reach S0 p ((S0.1 2 0 p).toNatClampNeg) (0 : Int32)).2
    (in_ r4 272) ∧
    (let x7 := S5.1 15 0 r4.toNatClampNeg
    let x8 := x7 &&& (15 : Int32)
    let x9 := S5.1 8 0 ((4 * p) + (kw_rs x7))
    let x10 := x7 >>> ((8 : Int32) &&& 31)
    let x11 := S5.1 8 0 ((4 * p) + (kw_rr x7))
    if x8 = (8 : Int32) then
      (p_Q_calls S5 p ((4 * p) + (kw_rr x7)) x10) ∧
      (let r21 := (k_Q_calls S5 p ((4 * p) + (kw_rr x7)) x10).1
      let S22 := (k_Q_calls S5 p ((4 * p) + (kw_rr x7)) x10).2
      True)
    else
      if x8 ≤ (9 : Int32) then
        if x8 = (4 : Int32) then
          let r15 := k_Q_in (x9 + x10) (64 : Int32)
          if r15 = 0 then
            True
          else
            p_Q_does_J131 p x8 ((4 * p) + (kw_rr x7)) x9 x10 x11 S5
        else
          if x8 = (5 : Int32) then
            let r18 := k_Q_in (x9 + x10) (64 : Int32)
            if r18 = 0 then
              True
            else
              p_Q_does_J131 p x8 ((4 * p) + (kw_rr x7)) x9 x10 x11 S5
          else
            p_Q_does_J131 p x8 ((4 * p) + (kw_rr x7)) x9 x10 x11 S5
      else
        True))
set_option maxHeartbeats 4000000 in
set_option maxRecDepth 100000 in
theorem c_Q_does {l : Launch} {D : va_G} {cI cZ : ClassId} {ad : Nat → Nat} (hinj : wl_inj 18 ad) (S0 : qw_S) (x_p : Int32) (p : Nat) (e_p : x_p = nI p) (h_p : p < 4) (hp0 : p_Q_does S0 p) : wl_Mi l y_Q_does (Cond.code y_Q_does b_Q_does 9 (some .boolean) :: TT) (rm_ 5) D classes (qw_ty cI cZ) 18 ad [.ref (ad 0), .int x_p] (qw_C cI cZ ad S0) ((k_Q_does S0 p).1) (qw_C cI cZ ad ((k_Q_does S0 p).2)) := by
  subst e_p
  intro sz
  refine wl_enter (own := R_Q) rfl (by decide) (Nat.le_of_ble_eq_true rfl) hinj (fun p_ e_ s_ m_ below meth c_ ls hsz X hml hr hlocks hl hP hS => ?_)
  have hx := X.1
  have hb := X.2.1
  have hA : ∀ q, s_.heap.size ≤ q → (wl_A 18 ad s_.heap.size) q := fun q h => Or.inr h
  have hl : lv_has ls 9 [(0, .ref (ad 0)), (1, .int (nI p))] := hl
  refine lv_aload_n hx hb d_Q_does_0 rfl (lv_at hl 0 rfl) ?_
  refine wl_get (v := .ref (ad 2)) X hP (i := 0) (by decide) (qw_cQ ) rfl i_Q 1 (by decide) lf_Q_13 rfl d_Q_does_1 ?_
  refine lv_iload_n hx hb d_Q_does_4 rfl (lv_at hl 1 rfl) ?_
  refine wl_iald X hP (i := 2) (by decide) 0 (qw_cplace ) rfl (j := p) rfl (by omega) (by decide) d_Q_does_5 ?_
  refine lv_bipush (v := 64) hx hb d_Q_does_6 (by decide) ?_
  refine wl_goi1 (cf := qw_C cI cZ ad) (r := k_Q_in (S0.1 2 0 p) (64 : Int32)) hS hA X.2.2.2.2.2.2 (wl_runS (As := [.int (S0.1 2 0 p), .int (64 : Int32)]) (rest := []) X hml hl.1 hP g_TT (c_Q_in hinj S0 (S0.1 2 0 p) (64 : Int32) _) wv_Q_95 (na := 2) (by decide +kernel) rfl ⟨Nat.le_of_ble_eq_true rfl, Nat.le_of_ble_eq_true rfl⟩ rfl (Nat.le_of_ble_eq_true rfl) d_Q_does_8 ⟨Nat.le_refl _, Nat.le_refl _⟩) (fun r1 er1 H locs hP hS => ?_)
  refine lv_if_ne (tgt := 16) hx hb d_Q_does_11 (by decide) (fun c2 => ?_) (fun c2 => ?_)
  · skip
    obtain ⟨ha1, ha2⟩ := qq_in 64 (fun h => c2 (er1.trans h)) rfl (by decide)
    refine lv_aload_n hx hb d_Q_does_16 rfl (lv_at hl 0 rfl) ?_
    refine wl_get (v := .ref (ad 15)) X hP (i := 0) (by decide) (qw_cQ ) rfl i_Q 14 (by decide) lf_Q_53 rfl d_Q_does_17 ?_
    refine lv_aload_n hx hb d_Q_does_20 rfl (lv_at hl 0 rfl) ?_
    refine lv_iload_n hx hb d_Q_does_21 rfl (lv_at hl 1 rfl) ?_
    refine lv_aload_n hx hb d_Q_does_22 rfl (lv_at hl 0 rfl) ?_
    refine wl_get (v := .ref (ad 2)) X hP (i := 0) (by decide) (qw_cQ ) rfl i_Q 1 (by decide) lf_Q_13 rfl d_Q_does_23 ?_
    refine lv_iload_n hx hb d_Q_does_26 rfl (lv_at hl 1 rfl) ?_
    refine wl_iald X hP (i := 2) (by decide) 0 (qw_cplace ) rfl (j := p) rfl (by omega) (by decide) d_Q_does_27 ?_
    refine lv_iconst (v := 0) hx hb d_Q_does_28 (by decide) ?_
    have ob3 : p_Q_reach S0 p ((S0.1 2 0 p).toNatClampNeg) (0 : Int32) := by
      replace er1 := er1.symm
      subst er1
      exact And.left (pp_neg c2 hp0)
    refine wl_goi2 (cf := qw_C cI cZ ad) (res := k_Q_reach S0 p ((S0.1 2 0 p).toNatClampNeg) (0 : Int32)) hS hA X.2.2.2.2.2.2 (wl_runV (As := [.int (nI p), .int (S0.1 2 0 p), .int (0 : Int32)]) (rest := [.ref (ad 15)]) X hml hl.1 hP g_TT (c_Q_reach hinj S0 (nI p) p rfl (by omega) (S0.1 2 0 p) ((S0.1 2 0 p).toNatClampNeg) ha1 (by omega) (0 : Int32) ob3 _) (by decide) (qw_cQ ) rfl wv_Q_108 (na := 3) (by decide +kernel) rfl ⟨Nat.le_of_ble_eq_true rfl, Nat.le_of_ble_eq_true rfl⟩ rfl (Nat.le_of_ble_eq_true rfl) d_Q_does_29 ⟨Nat.le_refl _, Nat.le_refl _⟩) (fun r4 S5 er4 eS5 H locs hP hS => ?_)
    have ob6 : in_ r4 272 := by
      replace eS5 := eS5.symm
      subst eS5
      replace er4 := er4.symm
      subst er4
      replace er1 := er1.symm
      subst er1
      exact And.left (And.right (pp_neg c2 hp0))
    obtain ⟨ob6_1, ob6_2⟩ := ob6
    refine wl_iald X hP (i := 15) (by decide) 0 (qw_cword ) rfl (j := r4.toNatClampNeg) ob6_1 (by omega) (by decide) d_Q_does_32 ?_
    refine lv_topi (fun x7 ex7 => ?_)
    refine lv_istore_n (lv' := [(2, .int x7), (0, .ref (ad 0)), (1, .int (nI p))]) hx hb d_Q_does_33 rfl hl (by decide) rfl (fun ls hl => ?_)
    refine lv_iload_n hx hb d_Q_does_34 rfl (lv_at hl 0 rfl) ?_
    refine lv_bipush (v := 15) hx hb d_Q_does_35 (by decide) ?_
    refine lv_iand hx hb d_Q_does_37 ?_
    refine lv_topi (fun x8 ex8 => ?_)
    refine lv_istore_n (lv' := [(3, .int x8), (2, .int x7), (0, .ref (ad 0)), (1, .int (nI p))]) hx hb d_Q_does_38 rfl hl (by decide) rfl (fun ls hl => ?_)
    refine lv_iconst (v := 4) hx hb d_Q_does_39 (by decide) ?_
    refine lv_iload_n hx hb d_Q_does_40 rfl (lv_at hl 3 rfl) ?_
    refine lv_imul hx hb d_Q_does_41 ?_
    refine lv_iload_n hx hb d_Q_does_42 rfl (lv_at hl 1 rfl) ?_
    refine lv_iconst (v := 4) hx hb d_Q_does_43 (by decide) ?_
    refine lv_ishr hx hb d_Q_does_44 ?_
    refine lv_iconst (v := 3) hx hb d_Q_does_45 (by decide) ?_
    refine lv_iand hx hb d_Q_does_46 ?_
    have hrr := (kw_rr_eq x7).2
    refine wl_top (kw_rr_eq x7).1 ?_
    refine lv_iadd hx hb d_Q_does_47 ?_
    refine wl_top (y := nI ((4 * p) + (kw_rr x7))) ((congr (congrArg (fun (a b : Int32) => a + b) (show (4 : Int32) * (nI p) = nI (4 * p) from (show (4 : Int32) * (nI p) = nI (4 * p) from pk_mul 4 p))) (show nI (kw_rr x7) = nI (kw_rr x7) from rfl)).trans (nI_add (4 * p) (kw_rr x7))) ?_
    refine lv_istore (lv' := [(4, .int (nI ((4 * p) + (kw_rr x7)))), (3, .int x8), (2, .int x7), (0, .ref (ad 0)), (1, .int (nI p))]) hx hb d_Q_does_48 hl (by decide) rfl (fun ls hl => ?_)
    refine lv_aload_n hx hb d_Q_does_50 rfl (lv_at hl 3 rfl) ?_
    refine wl_get (v := .ref (ad 8)) X hP (i := 0) (by decide) (qw_cQ ) rfl i_Q 7 (by decide) lf_Q_31 rfl d_Q_does_51 ?_
    refine lv_iconst (v := 4) hx hb d_Q_does_54 (by decide) ?_
    refine lv_iload_n hx hb d_Q_does_55 rfl (lv_at hl 4 rfl) ?_
    refine lv_imul hx hb d_Q_does_56 ?_
    refine lv_iload_n hx hb d_Q_does_57 rfl (lv_at hl 2 rfl) ?_
    refine lv_bipush (v := 6) hx hb d_Q_does_58 (by decide) ?_
    refine lv_ishr hx hb d_Q_does_60 ?_
    refine lv_iconst (v := 3) hx hb d_Q_does_61 (by decide) ?_
    refine lv_iand hx hb d_Q_does_62 ?_
    have hrs := (kw_rs_eq x7).2
    refine wl_top (kw_rs_eq x7).1 ?_
    refine lv_iadd hx hb d_Q_does_63 ?_
    refine wl_iald X hP (i := 8) (by decide) 0 (qw_cregister ) rfl (j := ((4 * p) + (kw_rs x7))) ((congr (congrArg (fun (a b : Int32) => a + b) (show (4 : Int32) * (nI p) = nI (4 * p) from (show (4 : Int32) * (nI p) = nI (4 * p) from pk_mul 4 p))) (show nI (kw_rs x7) = nI (kw_rs x7) from rfl)).trans (nI_add (4 * p) (kw_rs x7))) (by omega) (by decide) d_Q_does_64 ?_
    refine lv_topi (fun x9 ex9 => ?_)
    refine lv_istore (lv' := [(5, .int x9), (4, .int (nI ((4 * p) + (kw_rr x7)))), (3, .int x8), (2, .int x7), (0, .ref (ad 0)), (1, .int (nI p))]) hx hb d_Q_does_65 hl (by decide) rfl (fun ls hl => ?_)
    refine lv_iload_n hx hb d_Q_does_67 rfl (lv_at hl 3 rfl) ?_
    refine lv_bipush (v := 8) hx hb d_Q_does_68 (by decide) ?_
    refine lv_ishr hx hb d_Q_does_70 ?_
    refine lv_topi (fun x10 ex10 => ?_)
    refine lv_istore (lv' := [(6, .int x10), (5, .int x9), (4, .int (nI ((4 * p) + (kw_rr x7)))), (3, .int x8), (2, .int x7), (0, .ref (ad 0)), (1, .int (nI p))]) hx hb d_Q_does_71 hl (by decide) rfl (fun ls hl => ?_)
    refine lv_aload_n hx hb d_Q_does_73 rfl (lv_at hl 5 rfl) ?_
    refine wl_get (v := .ref (ad 8)) X hP (i := 0) (by decide) (qw_cQ ) rfl i_Q 7 (by decide) lf_Q_31 rfl d_Q_does_74 ?_
    refine lv_iload hx hb d_Q_does_77 (lv_at hl 2 rfl) ?_
    refine wl_iald X hP (i := 8) (by decide) 0 (qw_cregister ) rfl (j := ((4 * p) + (kw_rr x7))) rfl (by omega) (by decide) d_Q_does_79 ?_
    refine lv_topi (fun x11 ex11 => ?_)
    refine lv_istore (lv' := [(7, .int x11), (6, .int x10), (5, .int x9), (4, .int (nI ((4 * p) + (kw_rr x7)))), (3, .int x8), (2, .int x7), (0, .ref (ad 0)), (1, .int (nI p))]) hx hb d_Q_does_80 hl (by decide) rfl (fun ls hl => ?_)
    refine lv_iload_n hx hb d_Q_does_82 rfl (lv_at hl 4 rfl) ?_
    refine lv_bipush (v := 8) hx hb d_Q_does_83 (by decide) ?_
    refine lv_icmp_ne (tgt := 98) hx hb d_Q_does_85 (by decide) (fun c12 => ?_) (fun c12 => ?_)
    · skip
      refine lv_iload_n hx hb d_Q_does_98 rfl (lv_at hl 4 rfl) ?_
      refine lv_bipush (v := 9) hx hb d_Q_does_99 (by decide) ?_
      refine lv_icmp_le (tgt := 106) hx hb d_Q_does_101 (by decide) (fun c13 => ?_) (fun c13 => ?_)
      · skip
        refine lv_iload_n hx hb d_Q_does_106 rfl (lv_at hl 4 rfl) ?_
        refine lv_iconst (v := 4) hx hb d_Q_does_107 (by decide) ?_
        refine lv_icmp_eq (tgt := 116) hx hb d_Q_does_108 (by decide) (fun c14 => ?_) (fun c14 => ?_)
        · skip
          refine lv_iload hx hb d_Q_does_116 (lv_at hl 2 rfl) ?_
          refine lv_iload hx hb d_Q_does_118 (lv_at hl 1 rfl) ?_
          refine lv_iadd hx hb d_Q_does_120 ?_
          refine lv_bipush (v := 64) hx hb d_Q_does_121 (by decide) ?_
          refine wl_goi1 (cf := qw_C cI cZ ad) (r := k_Q_in (x9 + x10) (64 : Int32)) hS hA X.2.2.2.2.2.2 (wl_runS (As := [.int (x9 + x10), .int (64 : Int32)]) (rest := []) X hml hl.1 hP g_TT (c_Q_in hinj S5 (x9 + x10) (64 : Int32) _) wv_Q_95 (na := 2) (by decide +kernel) rfl ⟨Nat.le_of_ble_eq_true rfl, Nat.le_of_ble_eq_true rfl⟩ rfl (Nat.le_of_ble_eq_true rfl) d_Q_does_123 ⟨Nat.le_refl _, Nat.le_refl _⟩) (fun r15 er15 H locs hP hS => ?_)
          refine lv_if_ne (tgt := 131) hx hb d_Q_does_126 (by decide) (fun c16 => ?_) (fun c16 => ?_)
          · skip
            have hin := qq_in 64 (fun h => c16 (er15.trans h)) rfl (by decide)
            have hE : k_Q_does S0 p = k_Q_does_J131 p x8 ((4 * p) + (kw_rr x7)) x9 x10 x11 S5 := by
              replace er15 := er15.symm
              subst er15
              replace ex11 := ex11.symm
              subst ex11
              replace ex10 := ex10.symm
              subst ex10
              replace ex9 := ex9.symm
              subst ex9
              replace ex8 := ex8.symm
              subst ex8
              replace ex7 := ex7.symm
              subst ex7
              replace eS5 := eS5.symm
              subst eS5
              replace er4 := er4.symm
              subst er4
              replace er1 := er1.symm
              subst er1
              exact ((if_neg c2).trans ((if_neg c12).trans ((if_pos c13).trans ((if_pos c14).trans ((if_neg c16).trans rfl)))))
            rw [hE]
            exact c_Q_does_J131 hinj X hsz hml hr hlocks (nI p) p rfl (by omega) x8 (nI ((4 * p) + (kw_rr x7))) ((4 * p) + (kw_rr x7)) rfl (by omega) x9 x10 x11 S5 (by first | exact fun _ => hin | exact fun h => h.elim (fun q => absurd q c14) (fun q => absurd q c16)) (by replace er15 := er15.symm; subst er15; replace ex11 := ex11.symm; subst ex11; replace ex10 := ex10.symm; subst ex10; replace ex9 := ex9.symm; subst ex9; replace ex8 := ex8.symm; subst ex8; replace ex7 := ex7.symm; subst ex7; replace eS5 := eS5.symm; subst eS5; replace er4 := er4.symm; subst er4; replace er1 := er1.symm; subst er1; exact (pp_neg c16 (pp_pos c14 (pp_pos c13 (pp_neg c12 (And.right (And.right (pp_neg c2 hp0)))))))) _ _ _ (lv_sub hl [6, 7, 4, 3, 2, 1, 0] rfl) hP hS
          · skip
            refine lv_iconst (v := 0) hx hb d_Q_does_129 (by decide) ?_
            have hE : k_Q_does S0 p = ((0 : Int32), S5) := by
              replace er15 := er15.symm
              subst er15
              replace ex11 := ex11.symm
              subst ex11
              replace ex10 := ex10.symm
              subst ex10
              replace ex9 := ex9.symm
              subst ex9
              replace ex8 := ex8.symm
              subst ex8
              replace ex7 := ex7.symm
              subst ex7
              replace eS5 := eS5.symm
              subst eS5
              replace er4 := er4.symm
              subst er4
              replace er1 := er1.symm
              subst er1
              exact ((if_neg c2).trans ((if_neg c12).trans ((if_pos c13).trans ((if_pos c14).trans ((if_pos c16).trans rfl)))))
            rw [hE]
            exact wl_zret X hsz hr hlocks (kq_bool (Or.inl rfl)) hP hS d_Q_does_130
        · skip
          refine lv_iload_n hx hb d_Q_does_111 rfl (lv_at hl 4 rfl) ?_
          refine lv_iconst (v := 5) hx hb d_Q_does_112 (by decide) ?_
          refine lv_icmp_ne (tgt := 131) hx hb d_Q_does_113 (by decide) (fun c17 => ?_) (fun c17 => ?_)
          · skip
            have hE : k_Q_does S0 p = k_Q_does_J131 p x8 ((4 * p) + (kw_rr x7)) x9 x10 x11 S5 := by
              replace ex11 := ex11.symm
              subst ex11
              replace ex10 := ex10.symm
              subst ex10
              replace ex9 := ex9.symm
              subst ex9
              replace ex8 := ex8.symm
              subst ex8
              replace ex7 := ex7.symm
              subst ex7
              replace eS5 := eS5.symm
              subst eS5
              replace er4 := er4.symm
              subst er4
              replace er1 := er1.symm
              subst er1
              exact ((if_neg c2).trans ((if_neg c12).trans ((if_pos c13).trans ((if_neg c14).trans ((if_neg c17).trans rfl)))))
            rw [hE]
            exact c_Q_does_J131 hinj X hsz hml hr hlocks (nI p) p rfl (by omega) x8 (nI ((4 * p) + (kw_rr x7))) ((4 * p) + (kw_rr x7)) rfl (by omega) x9 x10 x11 S5 (by first | exact fun _ => hin | exact fun h => h.elim (fun q => absurd q c14) (fun q => absurd q c17)) (by replace ex11 := ex11.symm; subst ex11; replace ex10 := ex10.symm; subst ex10; replace ex9 := ex9.symm; subst ex9; replace ex8 := ex8.symm; subst ex8; replace ex7 := ex7.symm; subst ex7; replace eS5 := eS5.symm; subst eS5; replace er4 := er4.symm; subst er4; replace er1 := er1.symm; subst er1; exact (pp_neg c17 (pp_neg c14 (pp_pos c13 (pp_neg c12 (And.right (And.right (pp_neg c2 hp0)))))))) _ _ _ (lv_sub hl [6, 7, 4, 3, 2, 1, 0] rfl) hP hS
          · skip
            refine lv_iload hx hb d_Q_does_116 (lv_at hl 2 rfl) ?_
            refine lv_iload hx hb d_Q_does_118 (lv_at hl 1 rfl) ?_
            refine lv_iadd hx hb d_Q_does_120 ?_
            refine lv_bipush (v := 64) hx hb d_Q_does_121 (by decide) ?_
            refine wl_goi1 (cf := qw_C cI cZ ad) (r := k_Q_in (x9 + x10) (64 : Int32)) hS hA X.2.2.2.2.2.2 (wl_runS (As := [.int (x9 + x10), .int (64 : Int32)]) (rest := []) X hml hl.1 hP g_TT (c_Q_in hinj S5 (x9 + x10) (64 : Int32) _) wv_Q_95 (na := 2) (by decide +kernel) rfl ⟨Nat.le_of_ble_eq_true rfl, Nat.le_of_ble_eq_true rfl⟩ rfl (Nat.le_of_ble_eq_true rfl) d_Q_does_123 ⟨Nat.le_refl _, Nat.le_refl _⟩) (fun r18 er18 H locs hP hS => ?_)
            refine lv_if_ne (tgt := 131) hx hb d_Q_does_126 (by decide) (fun c19 => ?_) (fun c19 => ?_)
            · skip
              have hin := qq_in 64 (fun h => c19 (er18.trans h)) rfl (by decide)
              have hE : k_Q_does S0 p = k_Q_does_J131 p x8 ((4 * p) + (kw_rr x7)) x9 x10 x11 S5 := by
                replace er18 := er18.symm
                subst er18
                replace ex11 := ex11.symm
                subst ex11
                replace ex10 := ex10.symm
                subst ex10
                replace ex9 := ex9.symm
                subst ex9
                replace ex8 := ex8.symm
                subst ex8
                replace ex7 := ex7.symm
                subst ex7
                replace eS5 := eS5.symm
                subst eS5
                replace er4 := er4.symm
                subst er4
                replace er1 := er1.symm
                subst er1
                exact ((if_neg c2).trans ((if_neg c12).trans ((if_pos c13).trans ((if_neg c14).trans ((if_pos c17).trans ((if_neg c19).trans rfl))))))
              rw [hE]
              exact c_Q_does_J131 hinj X hsz hml hr hlocks (nI p) p rfl (by omega) x8 (nI ((4 * p) + (kw_rr x7))) ((4 * p) + (kw_rr x7)) rfl (by omega) x9 x10 x11 S5 (by first | exact fun _ => hin | exact fun h => h.elim (fun q => absurd q c17) (fun q => absurd q c19)) (by replace er18 := er18.symm; subst er18; replace ex11 := ex11.symm; subst ex11; replace ex10 := ex10.symm; subst ex10; replace ex9 := ex9.symm; subst ex9; replace ex8 := ex8.symm; subst ex8; replace ex7 := ex7.symm; subst ex7; replace eS5 := eS5.symm; subst eS5; replace er4 := er4.symm; subst er4; replace er1 := er1.symm; subst er1; exact (pp_neg c19 (pp_pos c17 (pp_neg c14 (pp_pos c13 (pp_neg c12 (And.right (And.right (pp_neg c2 hp0))))))))) _ _ _ (lv_sub hl [6, 7, 4, 3, 2, 1, 0] rfl) hP hS
            · skip
              refine lv_iconst (v := 0) hx hb d_Q_does_129 (by decide) ?_
              have hE : k_Q_does S0 p = ((0 : Int32), S5) := by
                replace er18 := er18.symm
                subst er18
                replace ex11 := ex11.symm
                subst ex11
                replace ex10 := ex10.symm
                subst ex10
                replace ex9 := ex9.symm
                subst ex9
                replace ex8 := ex8.symm
                subst ex8
                replace ex7 := ex7.symm
                subst ex7
                replace eS5 := eS5.symm
                subst eS5
                replace er4 := er4.symm
                subst er4
                replace er1 := er1.symm
                subst er1
                exact ((if_neg c2).trans ((if_neg c12).trans ((if_pos c13).trans ((if_neg c14).trans ((if_pos c17).trans ((if_pos c19).trans rfl))))))
              rw [hE]
              exact wl_zret X hsz hr hlocks (kq_bool (Or.inl rfl)) hP hS d_Q_does_130
      · skip
        refine lv_iconst (v := 0) hx hb d_Q_does_104 (by decide) ?_
        have hE : k_Q_does S0 p = ((0 : Int32), S5) := by
          replace ex11 := ex11.symm
          subst ex11
          replace ex10 := ex10.symm
          subst ex10
          replace ex9 := ex9.symm
          subst ex9
          replace ex8 := ex8.symm
          subst ex8
          replace ex7 := ex7.symm
          subst ex7
          replace eS5 := eS5.symm
          subst eS5
          replace er4 := er4.symm
          subst er4
          replace er1 := er1.symm
          subst er1
          exact ((if_neg c2).trans ((if_neg c12).trans ((if_neg c13).trans rfl)))
        rw [hE]
        exact wl_zret X hsz hr hlocks (kq_bool (Or.inl rfl)) hP hS d_Q_does_105
    · skip
      refine lv_aload_n hx hb d_Q_does_88 rfl (lv_at hl 6 rfl) ?_
      refine lv_iload_n hx hb d_Q_does_89 rfl (lv_at hl 7 rfl) ?_
      refine lv_iload hx hb d_Q_does_90 (lv_at hl 3 rfl) ?_
      refine lv_iload hx hb d_Q_does_92 (lv_at hl 1 rfl) ?_
      have ob20 : p_Q_calls S5 p ((4 * p) + (kw_rr x7)) x10 := by
        replace ex11 := ex11.symm
        subst ex11
        replace ex10 := ex10.symm
        subst ex10
        replace ex9 := ex9.symm
        subst ex9
        replace ex8 := ex8.symm
        subst ex8
        replace ex7 := ex7.symm
        subst ex7
        replace eS5 := eS5.symm
        subst eS5
        replace er4 := er4.symm
        subst er4
        replace er1 := er1.symm
        subst er1
        exact And.left (pp_pos c12 (And.right (And.right (pp_neg c2 hp0))))
      refine wl_goi2 (cf := qw_C cI cZ ad) (res := k_Q_calls S5 p ((4 * p) + (kw_rr x7)) x10) hS hA X.2.2.2.2.2.2 (wl_runV (As := [.int (nI p), .int (nI ((4 * p) + (kw_rr x7))), .int x10]) (rest := []) X hml hl.1 hP g_TT (c_Q_calls hinj S5 (nI p) p rfl (by omega) (nI ((4 * p) + (kw_rr x7))) ((4 * p) + (kw_rr x7)) rfl (by omega) x10 ob20 _) (by decide) (qw_cQ ) rfl wv_Q_136 (na := 3) (by decide +kernel) rfl ⟨Nat.le_of_ble_eq_true rfl, Nat.le_of_ble_eq_true rfl⟩ rfl (Nat.le_of_ble_eq_true rfl) d_Q_does_94 ⟨Nat.le_refl _, Nat.le_refl _⟩) (fun r21 S22 er21 eS22 H locs hP hS => ?_)
      have hE : k_Q_does S0 p = (r21, S22) := by
        replace eS22 := eS22.symm
        subst eS22
        replace er21 := er21.symm
        subst er21
        replace ex11 := ex11.symm
        subst ex11
        replace ex10 := ex10.symm
        subst ex10
        replace ex9 := ex9.symm
        subst ex9
        replace ex8 := ex8.symm
        subst ex8
        replace ex7 := ex7.symm
        subst ex7
        replace eS5 := eS5.symm
        subst eS5
        replace er4 := er4.symm
        subst er4
        replace er1 := er1.symm
        subst er1
        exact ((if_neg c2).trans ((if_pos c12).trans rfl))
      rw [hE]
      exact wl_zret X hsz hr hlocks (kq_bool (by rw [er21]; exact qq_callsb)) hP hS d_Q_does_97
  · skip
    refine lv_iconst (v := 0) hx hb d_Q_does_14 (by decide) ?_
    have hE : k_Q_does S0 p = ((0 : Int32), S0) := by
      replace er1 := er1.symm
      subst er1
      exact ((if_pos c2).trans rfl)
    rw [hE]
    exact wl_zret X hsz hr hlocks (kq_bool (Or.inl rfl)) hP hS d_Q_does_15
def qw_tn (x : Nat) : Int32 := if x < 4 then nI x else -1
theorem qw_tn_ge {x : Nat} (h : 0 ≤ qw_tn x) : qw_tn x = nI x ∧ x < 4 := by
  by_cases h1 : x < 4
  · exact ⟨if_pos h1, h1⟩
  · have e : qw_tn x = -1 := if_neg h1
    rw [e] at h
    exact absurd h (by decide)
def k_Q_tick_J162  (S0 : qw_S) : Int32 × qw_S :=
  let S1 := qw_si S0 0 0 1 ((S0.1 0 0 1) + (1 : Int32))
  let S2 := qw_si S1 7 0 ((S1.2 0 0 0) % 4) ((S1.1 7 0 ((S1.2 0 0 0) % 4)) + (1 : Int32))
  let r4 := (k_Q_does S2 ((S2.2 0 0 0) % 4)).1
  let S5 := (k_Q_does S2 ((S2.2 0 0 0) % 4)).2
  if r4 = 0 then
    let S7 := qw_si S5 17 0 13 ((S5.1 17 0 13) + (1 : Int32))
    let S8 := k_Q_ends S7 ((S7.2 0 0 0) % 4) (-99 : Int32)
    ((1 : Int32), S8)
  else
    ((1 : Int32), S5)
def p_Q_tick_J162  (S0 : qw_S) : Prop :=
  let S1 := qw_si S0 0 0 1 ((S0.1 0 0 1) + (1 : Int32))
  let S2 := qw_si S1 7 0 ((S1.2 0 0 0) % 4) ((S1.1 7 0 ((S1.2 0 0 0) % 4)) + (1 : Int32))
  (p_Q_does S2 ((S2.2 0 0 0) % 4)) ∧
  (let r4 := (k_Q_does S2 ((S2.2 0 0 0) % 4)).1
  let S5 := (k_Q_does S2 ((S2.2 0 0 0) % 4)).2
  if r4 = 0 then
    let S7 := qw_si S5 17 0 13 ((S5.1 17 0 13) + (1 : Int32))
    let S8 := k_Q_ends S7 ((S7.2 0 0 0) % 4) (-99 : Int32)
    True
  else
    True)
set_option maxHeartbeats 4000000 in
set_option maxRecDepth 100000 in
theorem c_Q_tick_J162 {l : Launch} {D : va_G} {cI cZ : ClassId} {ad : Nat → Nat} {p_ : Program} {e_ : Env} {s_ : State} {m_ : MethodId} {args : Array Value} {below : List Frame} {meth : Method} {c_ : Code} {sz : Nat} (hinj : wl_inj 18 ad) (X : wl_X p_ s_ m_ args c_ b_Q_tick R_Q TT D classes (qw_ty cI cZ) 18 ad (wl_A 18 ad s_.heap.size)) (hsz : s_.heap.size = sz) (hml : c_.maxLocals = 3) (hr : meth.sig.returnType = some .boolean) (hlocks : meth.locks = false) :
    ∀ (S0 : qw_S) (hp0 : p_Q_tick_J162 S0) (H : Heap) (locs : List Loc) (ls : Array Slot), lv_has ls 3 [(0, .ref (ad 0))] → va_P D classes (wl_W 18 ad (qw_C cI cZ ad S0)) H → va_S (wl_A 18 ad s_.heap.size) s_.heap H locs → W p_ l e_ (rm_ 6) s_ m_ args below meth c_ H locs 0 0 (MQ below (wl_Qi D classes (qw_ty cI cZ) 18 ad ((k_Q_tick_J162 S0).1) (qw_C cI cZ ad ((k_Q_tick_J162 S0).2)) sz) args s_ 0 0 (wl_A 18 ad sz)) (F0 m_ 162 ls []) := by
  have hx := X.1
  have hb := X.2.1
  have hA : ∀ q, s_.heap.size ≤ q → (wl_A 18 ad s_.heap.size) q := fun q h => Or.inr h
  intro S0 hp0 H locs ls hl hP hS
  refine lv_aload_n hx hb d_Q_tick_162 rfl (lv_at hl 0 rfl) ?_
  refine lv_dup hx hb d_Q_tick_163 rfl ?_
  refine wl_get (v := .int (S0.1 0 0 1)) X hP (i := 0) (by decide) (qw_cQ ) rfl i_Q 19 (by decide) lf_Q_130 rfl d_Q_tick_164 ?_
  refine lv_iconst (v := 1) hx hb d_Q_tick_167 (by decide) ?_
  refine lv_iadd hx hb d_Q_tick_168 ?_
  refine wl_put X hP hS (i := 0) (by decide) (qw_cQ ) rfl i_Q ft_Q ft_Q_ok fn_Q 19 (by decide) lf_Q_130 rfl rfl rfl (Nat.le_of_ble_eq_true rfl) d_Q_tick_169 (qw_pQ_inTurn ) (fun H locs hP hS => ?_)
  obtain ⟨S1, eS1⟩ : ∃ z, z = qw_si S0 0 0 1 ((S0.1 0 0 1) + (1 : Int32)) := ⟨_, rfl⟩
  rw [← eS1] at hP
  refine lv_aload_n hx hb d_Q_tick_172 rfl (lv_at hl 0 rfl) ?_
  refine wl_get (v := .ref (ad 7)) X hP (i := 0) (by decide) (qw_cQ ) rfl i_Q 6 (by decide) lf_Q_28 rfl d_Q_tick_173 ?_
  refine lv_aload_n hx hb d_Q_tick_176 rfl (lv_at hl 0 rfl) ?_
  refine wl_get (v := .int (nI ((S1.2 0 0 0) % 4))) X hP (i := 0) (by decide) (qw_cQ ) rfl i_Q 18 (by decide) lf_Q_62 rfl d_Q_tick_177 ?_
  refine lv_dup2_11 hx hb d_Q_tick_180 rfl rfl ?_
  refine wl_iald X hP (i := 7) (by decide) 0 (qw_cbegun ) rfl (j := ((S1.2 0 0 0) % 4)) rfl (by omega) (by decide) d_Q_tick_181 ?_
  refine lv_iconst (v := 1) hx hb d_Q_tick_182 (by decide) ?_
  refine lv_iadd hx hb d_Q_tick_183 ?_
  refine wl_iast X hP hS (i := 7) (by decide) 0 (qw_cbegun ) rfl (j := ((S1.2 0 0 0) % 4)) rfl (by omega) (by decide) d_Q_tick_184 (qw_pbegun ) (fun H locs hP hS => ?_)
  obtain ⟨S2, eS2⟩ : ∃ z, z = qw_si S1 7 0 ((S1.2 0 0 0) % 4) ((S1.1 7 0 ((S1.2 0 0 0) % 4)) + (1 : Int32)) := ⟨_, rfl⟩
  rw [← eS2] at hP
  refine lv_aload_n hx hb d_Q_tick_185 rfl (lv_at hl 0 rfl) ?_
  refine lv_aload_n hx hb d_Q_tick_186 rfl (lv_at hl 0 rfl) ?_
  refine wl_get (v := .int (nI ((S2.2 0 0 0) % 4))) X hP (i := 0) (by decide) (qw_cQ ) rfl i_Q 18 (by decide) lf_Q_62 rfl d_Q_tick_187 ?_
  have ob3 : p_Q_does S2 ((S2.2 0 0 0) % 4) := by
    replace eS2 := eS2.symm
    subst eS2
    replace eS1 := eS1.symm
    subst eS1
    exact And.left hp0
  refine wl_goi2 (cf := qw_C cI cZ ad) (res := k_Q_does S2 ((S2.2 0 0 0) % 4)) hS hA X.2.2.2.2.2.2 (wl_runV (As := [.int (nI ((S2.2 0 0 0) % 4))]) (rest := []) X hml hl.1 hP g_TT (c_Q_does hinj S2 (nI ((S2.2 0 0 0) % 4)) ((S2.2 0 0 0) % 4) rfl (by omega) ob3 _) (by decide) (qw_cQ ) rfl wv_Q_133 (na := 1) (by decide +kernel) rfl ⟨Nat.le_of_ble_eq_true rfl, Nat.le_of_ble_eq_true rfl⟩ rfl (Nat.le_of_ble_eq_true rfl) d_Q_tick_190 ⟨Nat.le_refl _, Nat.le_refl _⟩) (fun r4 S5 er4 eS5 H locs hP hS => ?_)
  refine lv_if_ne (tgt := 217) hx hb d_Q_tick_193 (by decide) (fun c6 => ?_) (fun c6 => ?_)
  · skip
    refine lv_iconst (v := 1) hx hb d_Q_tick_217 (by decide) ?_
    have hE : k_Q_tick_J162 S0 = ((1 : Int32), S5) := by
      replace eS5 := eS5.symm
      subst eS5
      replace er4 := er4.symm
      subst er4
      replace eS2 := eS2.symm
      subst eS2
      replace eS1 := eS1.symm
      subst eS1
      exact ((if_neg c6).trans rfl)
    rw [hE]
    exact wl_zret X hsz hr hlocks (kq_bool (Or.inr rfl)) hP hS d_Q_tick_218
  · skip
    refine lv_aload_n hx hb d_Q_tick_196 rfl (lv_at hl 0 rfl) ?_
    refine wl_get (v := .ref (ad 17)) X hP (i := 0) (by decide) (qw_cQ ) rfl i_Q 16 (by decide) lf_Q_59 rfl d_Q_tick_197 ?_
    refine lv_bipush (v := 13) hx hb d_Q_tick_200 (by decide) ?_
    refine lv_dup2_11 hx hb d_Q_tick_202 rfl rfl ?_
    refine wl_iald X hP (i := 17) (by decide) 0 (qw_ccounts ) rfl (j := 13) rfl (by omega) (by decide) d_Q_tick_203 ?_
    refine lv_iconst (v := 1) hx hb d_Q_tick_204 (by decide) ?_
    refine lv_iadd hx hb d_Q_tick_205 ?_
    refine wl_iast X hP hS (i := 17) (by decide) 0 (qw_ccounts ) rfl (j := 13) rfl (by omega) (by decide) d_Q_tick_206 (qw_pcounts ) (fun H locs hP hS => ?_)
    obtain ⟨S7, eS7⟩ : ∃ z, z = qw_si S5 17 0 13 ((S5.1 17 0 13) + (1 : Int32)) := ⟨_, rfl⟩
    rw [← eS7] at hP
    refine lv_aload_n hx hb d_Q_tick_207 rfl (lv_at hl 0 rfl) ?_
    refine lv_aload_n hx hb d_Q_tick_208 rfl (lv_at hl 0 rfl) ?_
    refine wl_get (v := .int (nI ((S7.2 0 0 0) % 4))) X hP (i := 0) (by decide) (qw_cQ ) rfl i_Q 18 (by decide) lf_Q_62 rfl d_Q_tick_209 ?_
    refine lv_bipush (v := -99) hx hb d_Q_tick_212 (by decide) ?_
    refine wl_gov2 (cf := qw_C cI cZ ad) (S2 := k_Q_ends S7 ((S7.2 0 0 0) % 4) (-99 : Int32)) hS hA X.2.2.2.2.2.2 (wl_runV (As := [.int (nI ((S7.2 0 0 0) % 4)), .int (-99 : Int32)]) (rest := []) X hml hl.1 hP g_TT (c_Q_ends hinj S7 (nI ((S7.2 0 0 0) % 4)) ((S7.2 0 0 0) % 4) rfl (by omega) (-99 : Int32) _) (by decide) (qw_cQ ) rfl wv_Q_115 (na := 2) (by decide +kernel) rfl ⟨Nat.le_of_ble_eq_true rfl, Nat.le_of_ble_eq_true rfl⟩ rfl (Nat.le_of_ble_eq_true rfl) d_Q_tick_214 ⟨Nat.le_refl _, Nat.le_refl _⟩) (fun S8 eS8 H locs hP hS => ?_)
    refine lv_iconst (v := 1) hx hb d_Q_tick_217 (by decide) ?_
    have hE : k_Q_tick_J162 S0 = ((1 : Int32), S8) := by
      replace eS8 := eS8.symm
      subst eS8
      replace eS7 := eS7.symm
      subst eS7
      replace eS5 := eS5.symm
      subst eS5
      replace er4 := er4.symm
      subst er4
      replace eS2 := eS2.symm
      subst eS2
      replace eS1 := eS1.symm
      subst eS1
      exact ((if_pos c6).trans rfl)
    rw [hE]
    exact wl_zret X hsz hr hlocks (kq_bool (Or.inr rfl)) hP hS d_Q_tick_218
def k_Q_tick_L94 : Nat → Nat → qw_S → Int32 × qw_S
  | 0, q, S0 =>
    if 0 ≤ (qw_tn q) then
      let S3 := qw_sn S0 0 0 0 q
      let S4 := qw_si S3 0 0 1 (0 : Int32)
      let S5 := qw_si S4 0 0 2 (0 : Int32)
      k_Q_tick_J162 S5
    else
      let S6 := qw_si S0 17 0 11 ((S0.1 17 0 11) + (1 : Int32))
      ((0 : Int32), S6)
  | i_n + 1, q, S0 =>
    if (S0.1 1 0 ((((S0.2 0 0 0) % 4) + (i_n + 1)) % 4)) = (1 : Int32) then
      let x103 := ((nI ((S0.2 0 0 0) % 4)) + (nI (i_n + 1))) - ((nI ((S0.2 0 0 0) % 4)) + (nI (i_n + 1))) / (4 : Int32) * (4 : Int32)
      k_Q_tick_L94 i_n ((((S0.2 0 0 0) % 4) + (i_n + 1)) % 4) S0
    else
      k_Q_tick_L94 i_n q S0
def p_Q_tick_L94 : Nat → Nat → qw_S → Prop
  | 0, q, S0 =>
    if 0 ≤ (qw_tn q) then
      let S3 := qw_sn S0 0 0 0 q
      let S4 := qw_si S3 0 0 1 (0 : Int32)
      let S5 := qw_si S4 0 0 2 (0 : Int32)
      p_Q_tick_J162 S5
    else
      let S6 := qw_si S0 17 0 11 ((S0.1 17 0 11) + (1 : Int32))
      True
  | i_n + 1, q, S0 =>
    if (S0.1 1 0 ((((S0.2 0 0 0) % 4) + (i_n + 1)) % 4)) = (1 : Int32) then
      let x103 := ((nI ((S0.2 0 0 0) % 4)) + (nI (i_n + 1))) - ((nI ((S0.2 0 0 0) % 4)) + (nI (i_n + 1))) / (4 : Int32) * (4 : Int32)
      p_Q_tick_L94 i_n ((((S0.2 0 0 0) % 4) + (i_n + 1)) % 4) S0
    else
      p_Q_tick_L94 i_n q S0
set_option maxHeartbeats 4000000 in
set_option maxRecDepth 100000 in
theorem c_Q_tick_L94 {l : Launch} {D : va_G} {cI cZ : ClassId} {ad : Nat → Nat} {p_ : Program} {e_ : Env} {s_ : State} {m_ : MethodId} {args : Array Value} {below : List Frame} {meth : Method} {c_ : Code} {sz : Nat} (hinj : wl_inj 18 ad) (X : wl_X p_ s_ m_ args c_ b_Q_tick R_Q TT D classes (qw_ty cI cZ) 18 ad (wl_A 18 ad s_.heap.size)) (hsz : s_.heap.size = sz) (hml : c_.maxLocals = 3) (hr : meth.sig.returnType = some .boolean) (hlocks : meth.locks = false) :
    ∀ (i_n : Nat) (x_q : Int32) (q : Nat) (e_q : x_q = qw_tn q) (S0 : qw_S) (h_i : i_n ≤ 4) (hp0 : p_Q_tick_L94 i_n q S0) (H : Heap) (locs : List Loc) (ls : Array Slot), lv_has ls 3 [(0, .ref (ad 0)), (1, .int x_q), (2, .int (nI i_n))] → va_P D classes (wl_W 18 ad (qw_C cI cZ ad S0)) H → va_S (wl_A 18 ad s_.heap.size) s_.heap H locs → W p_ l e_ (rm_ 6) s_ m_ args below meth c_ H locs 0 0 (MQ below (wl_Qi D classes (qw_ty cI cZ) 18 ad ((k_Q_tick_L94 i_n q S0).1) (qw_C cI cZ ad ((k_Q_tick_L94 i_n q S0).2)) sz) args s_ 0 0 (wl_A 18 ad sz)) (F0 m_ 94 ls []) := by
  have hx := X.1
  have hb := X.2.1
  have hA : ∀ q, s_.heap.size ≤ q → (wl_A 18 ad s_.heap.size) q := fun q h => Or.inr h
  intro i_n
  induction i_n with
  | zero =>
    intro x_q q e_q S0 h_i hp0 H locs ls hl hP hS
    subst e_q
    refine lv_iload_n hx hb d_Q_tick_94 rfl (lv_at hl 2 rfl) ?_
    refine lv_if_le (tgt := 130) hx hb d_Q_tick_95 (by decide) (fun c1 => ?_) (fun c1 => ?_)
    · skip
      refine lv_iload_n hx hb d_Q_tick_130 rfl (lv_at hl 1 rfl) ?_
      refine lv_if_ge (tgt := 147) hx hb d_Q_tick_131 (by decide) (fun c2 => ?_) (fun c2 => ?_)
      · skip
        refine lv_aload_n hx hb d_Q_tick_147 rfl (lv_at hl 0 rfl) ?_
        refine lv_iload_n hx hb d_Q_tick_148 rfl (lv_at hl 1 rfl) ?_
        obtain ⟨hq1, hq2⟩ := qw_tn_ge c2
        refine wl_put X hP hS (i := 0) (by decide) (qw_cQ ) rfl i_Q ft_Q ft_Q_ok fn_Q 18 (by decide) lf_Q_62 rfl rfl rfl (Nat.le_of_ble_eq_true rfl) d_Q_tick_149 (qw_pQ_turn (x := q)  (by rw [Nat.mod_eq_of_lt (show q < 4 by omega)] <;> exact hq1)) (fun H locs hP hS => ?_)
        obtain ⟨S3, eS3⟩ : ∃ z, z = qw_sn S0 0 0 0 q := ⟨_, rfl⟩
        rw [← eS3] at hP
        refine lv_aload_n hx hb d_Q_tick_152 rfl (lv_at hl 0 rfl) ?_
        refine lv_iconst (v := 0) hx hb d_Q_tick_153 (by decide) ?_
        refine wl_put X hP hS (i := 0) (by decide) (qw_cQ ) rfl i_Q ft_Q ft_Q_ok fn_Q 19 (by decide) lf_Q_130 rfl rfl rfl (Nat.le_of_ble_eq_true rfl) d_Q_tick_154 (qw_pQ_inTurn ) (fun H locs hP hS => ?_)
        obtain ⟨S4, eS4⟩ : ∃ z, z = qw_si S3 0 0 1 (0 : Int32) := ⟨_, rfl⟩
        rw [← eS4] at hP
        refine lv_aload_n hx hb d_Q_tick_157 rfl (lv_at hl 0 rfl) ?_
        refine lv_iconst (v := 0) hx hb d_Q_tick_158 (by decide) ?_
        refine wl_put X hP hS (i := 0) (by decide) (qw_cQ ) rfl i_Q ft_Q ft_Q_ok fn_Q 22 (by decide) lf_Q_126 rfl rfl rfl (Nat.le_of_ble_eq_true rfl) d_Q_tick_159 (qw_pQ_over ) (fun H locs hP hS => ?_)
        obtain ⟨S5, eS5⟩ : ∃ z, z = qw_si S4 0 0 2 (0 : Int32) := ⟨_, rfl⟩
        rw [← eS5] at hP
        have hE : k_Q_tick_L94 0 q S0 = k_Q_tick_J162 S5 := by
          replace eS5 := eS5.symm
          subst eS5
          replace eS4 := eS4.symm
          subst eS4
          replace eS3 := eS3.symm
          subst eS3
          exact ((if_pos c2).trans rfl)
        rw [hE]
        exact c_Q_tick_J162 hinj X hsz hml hr hlocks S5 (by replace eS5 := eS5.symm; subst eS5; replace eS4 := eS4.symm; subst eS4; replace eS3 := eS3.symm; subst eS3; exact (pp_pos c2 hp0)) _ _ _ (lv_sub hl [0] rfl) hP hS
      · skip
        refine lv_aload_n hx hb d_Q_tick_134 rfl (lv_at hl 0 rfl) ?_
        refine wl_get (v := .ref (ad 17)) X hP (i := 0) (by decide) (qw_cQ ) rfl i_Q 16 (by decide) lf_Q_59 rfl d_Q_tick_135 ?_
        refine lv_bipush (v := 11) hx hb d_Q_tick_138 (by decide) ?_
        refine lv_dup2_11 hx hb d_Q_tick_140 rfl rfl ?_
        refine wl_iald X hP (i := 17) (by decide) 0 (qw_ccounts ) rfl (j := 11) rfl (by omega) (by decide) d_Q_tick_141 ?_
        refine lv_iconst (v := 1) hx hb d_Q_tick_142 (by decide) ?_
        refine lv_iadd hx hb d_Q_tick_143 ?_
        refine wl_iast X hP hS (i := 17) (by decide) 0 (qw_ccounts ) rfl (j := 11) rfl (by omega) (by decide) d_Q_tick_144 (qw_pcounts ) (fun H locs hP hS => ?_)
        obtain ⟨S6, eS6⟩ : ∃ z, z = qw_si S0 17 0 11 ((S0.1 17 0 11) + (1 : Int32)) := ⟨_, rfl⟩
        rw [← eS6] at hP
        refine lv_iconst (v := 0) hx hb d_Q_tick_145 (by decide) ?_
        have hE : k_Q_tick_L94 0 q S0 = ((0 : Int32), S6) := by
          replace eS6 := eS6.symm
          subst eS6
          exact ((if_neg c2).trans rfl)
        rw [hE]
        exact wl_zret X hsz hr hlocks (kq_bool (Or.inl rfl)) hP hS d_Q_tick_146
    · exact absurd (by decide) c1
  | succ i_n ih =>
    intro x_q q e_q S0 h_i hp0 H locs ls hl hP hS
    subst e_q
    refine lv_iload_n hx hb d_Q_tick_94 rfl (lv_at hl 2 rfl) ?_
    refine lv_if_le (tgt := 130) hx hb d_Q_tick_95 (by decide) (fun c101 => ?_) (fun c101 => ?_)
    · exact absurd c101 (nI_nle (by omega) (by omega))
    · skip
      refine lv_aload_n hx hb d_Q_tick_98 rfl (lv_at hl 0 rfl) ?_
      refine wl_get (v := .ref (ad 1)) X hP (i := 0) (by decide) (qw_cQ ) rfl i_Q 0 (by decide) lf_Q_7 rfl d_Q_tick_99 ?_
      refine lv_aload_n hx hb d_Q_tick_102 rfl (lv_at hl 0 rfl) ?_
      refine wl_get (v := .int (nI ((S0.2 0 0 0) % 4))) X hP (i := 0) (by decide) (qw_cQ ) rfl i_Q 18 (by decide) lf_Q_62 rfl d_Q_tick_103 ?_
      refine lv_iload_n hx hb d_Q_tick_106 rfl (lv_at hl 2 rfl) ?_
      refine lv_iadd hx hb d_Q_tick_107 ?_
      refine lv_iconst (v := 4) hx hb d_Q_tick_108 (by decide) ?_
      refine lv_irem hx hb d_Q_tick_109 (by decide) ?_
      refine wl_iald X hP (i := 1) (by decide) 0 (qw_cstate ) rfl (j := ((((S0.2 0 0 0) % 4) + (i_n + 1)) % 4)) ((congr (congrArg (fun (a b : Int32) => a - a / b * b) (show (nI ((S0.2 0 0 0) % 4)) + (nI (i_n + 1)) = nI (((S0.2 0 0 0) % 4) + (i_n + 1)) from (show (nI ((S0.2 0 0 0) % 4)) + (nI (i_n + 1)) = nI (((S0.2 0 0 0) % 4) + (i_n + 1)) from nI_add ((S0.2 0 0 0) % 4) (i_n + 1)))) (show (4 : Int32) = nI 4 from rfl)).trans (pk_rem (a := (((S0.2 0 0 0) % 4) + (i_n + 1))) (d := 4) (by omega) (by omega) (by omega))) (by omega) (by decide) d_Q_tick_110 ?_
      refine lv_iconst (v := 1) hx hb d_Q_tick_111 (by decide) ?_
      refine lv_icmp_ne (tgt := 124) hx hb d_Q_tick_112 (by decide) (fun c102 => ?_) (fun c102 => ?_)
      · skip
        refine lv_iinc (v := nI i_n) (lv' := [(2, .int (nI i_n)), (0, .ref (ad 0)), (1, .int (qw_tn q))]) hx hb d_Q_tick_124 hl (k := 2) rfl (pk_m1 _) (by decide) rfl (fun ls hl => ?_)
        refine lv_goto (tgt := 94) hx hb d_Q_tick_127 (by decide) ?_
        have hE : k_Q_tick_L94 (i_n + 1) q S0 = k_Q_tick_L94 i_n q S0 := by
          exact ((if_neg c102).trans rfl)
        rw [hE]
        exact ih (qw_tn q) q rfl S0 (by omega) (by  exact (pp_neg c102 hp0)) _ _ _ (lv_sub hl [1, 2, 0] rfl) hP hS
      · skip
        refine lv_aload_n hx hb d_Q_tick_115 rfl (lv_at hl 0 rfl) ?_
        refine wl_get (v := .int (nI ((S0.2 0 0 0) % 4))) X hP (i := 0) (by decide) (qw_cQ ) rfl i_Q 18 (by decide) lf_Q_62 rfl d_Q_tick_116 ?_
        refine lv_iload_n hx hb d_Q_tick_119 rfl (lv_at hl 2 rfl) ?_
        refine lv_iadd hx hb d_Q_tick_120 ?_
        refine lv_iconst (v := 4) hx hb d_Q_tick_121 (by decide) ?_
        refine lv_irem hx hb d_Q_tick_122 (by decide) ?_
        refine lv_topi (fun x103 ex103 => ?_)
        refine lv_istore_n (lv' := [(1, .int x103), (0, .ref (ad 0)), (2, .int (nI (i_n + 1)))]) hx hb d_Q_tick_123 rfl hl (by decide) rfl (fun ls hl => ?_)
        refine lv_iinc (v := nI i_n) (lv' := [(2, .int (nI i_n)), (1, .int x103), (0, .ref (ad 0))]) hx hb d_Q_tick_124 hl (k := 2) rfl (pk_m1 _) (by decide) rfl (fun ls hl => ?_)
        refine lv_goto (tgt := 94) hx hb d_Q_tick_127 (by decide) ?_
        have hE : k_Q_tick_L94 (i_n + 1) q S0 = k_Q_tick_L94 i_n ((((S0.2 0 0 0) % 4) + (i_n + 1)) % 4) S0 := by
          replace ex103 := ex103.symm
          subst ex103
          exact ((if_pos c102).trans rfl)
        rw [hE]
        exact ih x103 ((((S0.2 0 0 0) % 4) + (i_n + 1)) % 4) (by unfold qw_tn; rw [if_pos (by omega)] <;> exact (ex103.trans ((congr (congrArg (fun (a b : Int32) => a - a / b * b) (show (nI ((S0.2 0 0 0) % 4)) + (nI (i_n + 1)) = nI (((S0.2 0 0 0) % 4) + (i_n + 1)) from (show (nI ((S0.2 0 0 0) % 4)) + (nI (i_n + 1)) = nI (((S0.2 0 0 0) % 4) + (i_n + 1)) from nI_add ((S0.2 0 0 0) % 4) (i_n + 1)))) (show (4 : Int32) = nI 4 from rfl)).trans (pk_rem (a := (((S0.2 0 0 0) % 4) + (i_n + 1))) (d := 4) (by omega) (by omega) (by omega))))) S0 (by omega) (by replace ex103 := ex103.symm; subst ex103; exact (pp_pos c102 hp0)) _ _ _ (lv_sub hl [2, 1, 0] rfl) hP hS
def k_Q_tick_L12 : Nat → Nat → qw_S → Int32 × qw_S
  | 0, i, S0 =>
    if (S0.1 1 0 ((S0.2 0 0 0) % 4)) = (1 : Int32) then
      if (S0.1 0 0 2) = 0 then
        if (S0.1 0 0 1) = (4 : Int32) then
          k_Q_tick_L94 4 4 S0
        else
          k_Q_tick_J162 S0
      else
        k_Q_tick_L94 4 4 S0
    else
      k_Q_tick_L94 4 4 S0
  | i_n + 1, i, S0 =>
    if (S0.1 1 0 i) = (2 : Int32) then
      let S103 := qw_si S0 5 0 i ((S0.1 5 0 i) - (1 : Int32))
      if (S103.1 5 0 i) = 0 then
        let S105 := qw_si S103 1 0 i (1 : Int32)
        k_Q_tick_L12 i_n (i + 1) S105
      else
        k_Q_tick_L12 i_n (i + 1) S103
    else
      k_Q_tick_L12 i_n (i + 1) S0
def p_Q_tick_L12 : Nat → Nat → qw_S → Prop
  | 0, i, S0 =>
    if (S0.1 1 0 ((S0.2 0 0 0) % 4)) = (1 : Int32) then
      if (S0.1 0 0 2) = 0 then
        if (S0.1 0 0 1) = (4 : Int32) then
          p_Q_tick_L94 4 4 S0
        else
          p_Q_tick_J162 S0
      else
        p_Q_tick_L94 4 4 S0
    else
      p_Q_tick_L94 4 4 S0
  | i_n + 1, i, S0 =>
    if (S0.1 1 0 i) = (2 : Int32) then
      let S103 := qw_si S0 5 0 i ((S0.1 5 0 i) - (1 : Int32))
      if (S103.1 5 0 i) = 0 then
        let S105 := qw_si S103 1 0 i (1 : Int32)
        p_Q_tick_L12 i_n (i + 1) S105
      else
        p_Q_tick_L12 i_n (i + 1) S103
    else
      p_Q_tick_L12 i_n (i + 1) S0
set_option maxHeartbeats 4000000 in
set_option maxRecDepth 100000 in
theorem c_Q_tick_L12 {l : Launch} {D : va_G} {cI cZ : ClassId} {ad : Nat → Nat} {p_ : Program} {e_ : Env} {s_ : State} {m_ : MethodId} {args : Array Value} {below : List Frame} {meth : Method} {c_ : Code} {sz : Nat} (hinj : wl_inj 18 ad) (X : wl_X p_ s_ m_ args c_ b_Q_tick R_Q TT D classes (qw_ty cI cZ) 18 ad (wl_A 18 ad s_.heap.size)) (hsz : s_.heap.size = sz) (hml : c_.maxLocals = 3) (hr : meth.sig.returnType = some .boolean) (hlocks : meth.locks = false) :
    ∀ (i_n i : Nat) (S0 : qw_S) (h_i : i + i_n = 4) (hp0 : p_Q_tick_L12 i_n i S0) (H : Heap) (locs : List Loc) (ls : Array Slot), lv_has ls 3 [(0, .ref (ad 0)), (1, .int (nI i))] → va_P D classes (wl_W 18 ad (qw_C cI cZ ad S0)) H → va_S (wl_A 18 ad s_.heap.size) s_.heap H locs → W p_ l e_ (rm_ 6) s_ m_ args below meth c_ H locs 0 0 (MQ below (wl_Qi D classes (qw_ty cI cZ) 18 ad ((k_Q_tick_L12 i_n i S0).1) (qw_C cI cZ ad ((k_Q_tick_L12 i_n i S0).2)) sz) args s_ 0 0 (wl_A 18 ad sz)) (F0 m_ 12 ls []) := by
  have hx := X.1
  have hb := X.2.1
  have hA : ∀ q, s_.heap.size ≤ q → (wl_A 18 ad s_.heap.size) q := fun q h => Or.inr h
  intro i_n
  induction i_n with
  | zero =>
    intro i S0 h_i hp0 H locs ls hl hP hS
    refine lv_iload_n hx hb d_Q_tick_12 rfl (lv_at hl 1 rfl) ?_
    refine lv_iconst (v := 4) hx hb d_Q_tick_13 (by decide) ?_
    refine lv_icmp_ge (tgt := 62) hx hb d_Q_tick_14 (by decide) (fun c1 => ?_) (fun c1 => ?_)
    · skip
      refine lv_aload_n hx hb d_Q_tick_62 rfl (lv_at hl 0 rfl) ?_
      refine wl_get (v := .ref (ad 1)) X hP (i := 0) (by decide) (qw_cQ ) rfl i_Q 0 (by decide) lf_Q_7 rfl d_Q_tick_63 ?_
      refine lv_aload_n hx hb d_Q_tick_66 rfl (lv_at hl 0 rfl) ?_
      refine wl_get (v := .int (nI ((S0.2 0 0 0) % 4))) X hP (i := 0) (by decide) (qw_cQ ) rfl i_Q 18 (by decide) lf_Q_62 rfl d_Q_tick_67 ?_
      refine wl_iald X hP (i := 1) (by decide) 0 (qw_cstate ) rfl (j := ((S0.2 0 0 0) % 4)) rfl (by omega) (by decide) d_Q_tick_70 ?_
      refine lv_iconst (v := 1) hx hb d_Q_tick_71 (by decide) ?_
      refine lv_icmp_ne (tgt := 90) hx hb d_Q_tick_72 (by decide) (fun c2 => ?_) (fun c2 => ?_)
      · skip
        refine lv_iconst (v := -1) hx hb d_Q_tick_90 (by decide) ?_
        refine lv_istore_n (lv' := [(1, .int (-1 : Int32)), (0, .ref (ad 0))]) hx hb d_Q_tick_91 rfl hl (by decide) rfl (fun ls hl => ?_)
        refine lv_iconst (v := 4) hx hb d_Q_tick_92 (by decide) ?_
        refine lv_istore_n (lv' := [(2, .int (4 : Int32)), (1, .int (-1 : Int32)), (0, .ref (ad 0))]) hx hb d_Q_tick_93 rfl hl (by decide) rfl (fun ls hl => ?_)
        have hE : k_Q_tick_L12 0 i S0 = k_Q_tick_L94 4 4 S0 := by
          exact ((if_neg c2).trans rfl)
        rw [hE]
        exact c_Q_tick_L94 hinj X hsz hml hr hlocks 4 (-1 : Int32) 4 (by decide) S0 (by omega) (by  exact (pp_neg c2 hp0)) _ _ _ (lv_sub hl [2, 1, 0] rfl) hP hS
      · skip
        refine lv_aload_n hx hb d_Q_tick_75 rfl (lv_at hl 0 rfl) ?_
        refine wl_get (v := .int (S0.1 0 0 2)) X hP (i := 0) (by decide) (qw_cQ ) rfl i_Q 22 (by decide) lf_Q_126 rfl d_Q_tick_76 ?_
        refine lv_if_ne (tgt := 90) hx hb d_Q_tick_79 (by decide) (fun c3 => ?_) (fun c3 => ?_)
        · skip
          refine lv_iconst (v := -1) hx hb d_Q_tick_90 (by decide) ?_
          refine lv_istore_n (lv' := [(1, .int (-1 : Int32)), (0, .ref (ad 0))]) hx hb d_Q_tick_91 rfl hl (by decide) rfl (fun ls hl => ?_)
          refine lv_iconst (v := 4) hx hb d_Q_tick_92 (by decide) ?_
          refine lv_istore_n (lv' := [(2, .int (4 : Int32)), (1, .int (-1 : Int32)), (0, .ref (ad 0))]) hx hb d_Q_tick_93 rfl hl (by decide) rfl (fun ls hl => ?_)
          have hE : k_Q_tick_L12 0 i S0 = k_Q_tick_L94 4 4 S0 := by
            exact ((if_pos c2).trans ((if_neg c3).trans rfl))
          rw [hE]
          exact c_Q_tick_L94 hinj X hsz hml hr hlocks 4 (-1 : Int32) 4 (by decide) S0 (by omega) (by  exact (pp_neg c3 (pp_pos c2 hp0))) _ _ _ (lv_sub hl [2, 1, 0] rfl) hP hS
        · skip
          refine lv_aload_n hx hb d_Q_tick_82 rfl (lv_at hl 0 rfl) ?_
          refine wl_get (v := .int (S0.1 0 0 1)) X hP (i := 0) (by decide) (qw_cQ ) rfl i_Q 19 (by decide) lf_Q_130 rfl d_Q_tick_83 ?_
          refine lv_iconst (v := 4) hx hb d_Q_tick_86 (by decide) ?_
          refine lv_icmp_ne (tgt := 162) hx hb d_Q_tick_87 (by decide) (fun c4 => ?_) (fun c4 => ?_)
          · skip
            have hE : k_Q_tick_L12 0 i S0 = k_Q_tick_J162 S0 := by
              exact ((if_pos c2).trans ((if_pos c3).trans ((if_neg c4).trans rfl)))
            rw [hE]
            exact c_Q_tick_J162 hinj X hsz hml hr hlocks S0 (by  exact (pp_neg c4 (pp_pos c3 (pp_pos c2 hp0)))) _ _ _ (lv_sub hl [0] rfl) hP hS
          · skip
            refine lv_iconst (v := -1) hx hb d_Q_tick_90 (by decide) ?_
            refine lv_istore_n (lv' := [(1, .int (-1 : Int32)), (0, .ref (ad 0))]) hx hb d_Q_tick_91 rfl hl (by decide) rfl (fun ls hl => ?_)
            refine lv_iconst (v := 4) hx hb d_Q_tick_92 (by decide) ?_
            refine lv_istore_n (lv' := [(2, .int (4 : Int32)), (1, .int (-1 : Int32)), (0, .ref (ad 0))]) hx hb d_Q_tick_93 rfl hl (by decide) rfl (fun ls hl => ?_)
            have hE : k_Q_tick_L12 0 i S0 = k_Q_tick_L94 4 4 S0 := by
              exact ((if_pos c2).trans ((if_pos c3).trans ((if_pos c4).trans rfl)))
            rw [hE]
            exact c_Q_tick_L94 hinj X hsz hml hr hlocks 4 (-1 : Int32) 4 (by decide) S0 (by omega) (by  exact (pp_pos c4 (pp_pos c3 (pp_pos c2 hp0)))) _ _ _ (lv_sub hl [2, 1, 0] rfl) hP hS
    · exact absurd (sk_lhz h_i) c1
  | succ i_n ih =>
    intro i S0 h_i hp0 H locs ls hl hP hS
    refine lv_iload_n hx hb d_Q_tick_12 rfl (lv_at hl 1 rfl) ?_
    refine lv_iconst (v := 4) hx hb d_Q_tick_13 (by decide) ?_
    refine lv_icmp_ge (tgt := 62) hx hb d_Q_tick_14 (by decide) (fun c101 => ?_) (fun c101 => ?_)
    · exact absurd c101 (sk_lhs h_i)
    · skip
      refine lv_aload_n hx hb d_Q_tick_17 rfl (lv_at hl 0 rfl) ?_
      refine wl_get (v := .ref (ad 1)) X hP (i := 0) (by decide) (qw_cQ ) rfl i_Q 0 (by decide) lf_Q_7 rfl d_Q_tick_18 ?_
      refine lv_iload_n hx hb d_Q_tick_21 rfl (lv_at hl 1 rfl) ?_
      refine wl_iald X hP (i := 1) (by decide) 0 (qw_cstate ) rfl (j := i) rfl (by omega) (by decide) d_Q_tick_22 ?_
      refine lv_iconst (v := 2) hx hb d_Q_tick_23 (by decide) ?_
      refine lv_icmp_eq (tgt := 30) hx hb d_Q_tick_24 (by decide) (fun c102 => ?_) (fun c102 => ?_)
      · skip
        refine lv_aload_n hx hb d_Q_tick_30 rfl (lv_at hl 0 rfl) ?_
        refine wl_get (v := .ref (ad 5)) X hP (i := 0) (by decide) (qw_cQ ) rfl i_Q 4 (by decide) lf_Q_22 rfl d_Q_tick_31 ?_
        refine lv_iload_n hx hb d_Q_tick_34 rfl (lv_at hl 1 rfl) ?_
        refine lv_dup2_11 hx hb d_Q_tick_35 rfl rfl ?_
        refine wl_iald X hP (i := 5) (by decide) 0 (qw_cwake ) rfl (j := i) rfl (by omega) (by decide) d_Q_tick_36 ?_
        refine lv_iconst (v := 1) hx hb d_Q_tick_37 (by decide) ?_
        refine lv_isub hx hb d_Q_tick_38 ?_
        refine wl_iast X hP hS (i := 5) (by decide) 0 (qw_cwake ) rfl (j := i) rfl (by omega) (by decide) d_Q_tick_39 (qw_pwake ) (fun H locs hP hS => ?_)
        obtain ⟨S103, eS103⟩ : ∃ z, z = qw_si S0 5 0 i ((S0.1 5 0 i) - (1 : Int32)) := ⟨_, rfl⟩
        rw [← eS103] at hP
        refine lv_aload_n hx hb d_Q_tick_40 rfl (lv_at hl 0 rfl) ?_
        refine wl_get (v := .ref (ad 5)) X hP (i := 0) (by decide) (qw_cQ ) rfl i_Q 4 (by decide) lf_Q_22 rfl d_Q_tick_41 ?_
        refine lv_iload_n hx hb d_Q_tick_44 rfl (lv_at hl 1 rfl) ?_
        refine wl_iald X hP (i := 5) (by decide) 0 (qw_cwake ) rfl (j := i) rfl (by omega) (by decide) d_Q_tick_45 ?_
        refine lv_if_ne (tgt := 56) hx hb d_Q_tick_46 (by decide) (fun c104 => ?_) (fun c104 => ?_)
        · skip
          refine lv_iinc (v := nI (i + 1)) (lv' := [(1, .int (nI (i + 1))), (0, .ref (ad 0))]) hx hb d_Q_tick_56 hl (k := 1) rfl (nI_1 _) (by decide) rfl (fun ls hl => ?_)
          refine lv_goto (tgt := 12) hx hb d_Q_tick_59 (by decide) ?_
          have hE : k_Q_tick_L12 (i_n + 1) i S0 = k_Q_tick_L12 i_n (i + 1) S103 := by
            replace eS103 := eS103.symm
            subst eS103
            exact ((if_pos c102).trans ((if_neg c104).trans rfl))
          rw [hE]
          exact ih (i + 1) S103 (by omega) (by replace eS103 := eS103.symm; subst eS103; exact (pp_neg c104 (pp_pos c102 hp0))) _ _ _ (lv_sub hl [1, 0] rfl) hP hS
        · skip
          refine lv_aload_n hx hb d_Q_tick_49 rfl (lv_at hl 0 rfl) ?_
          refine wl_get (v := .ref (ad 1)) X hP (i := 0) (by decide) (qw_cQ ) rfl i_Q 0 (by decide) lf_Q_7 rfl d_Q_tick_50 ?_
          refine lv_iload_n hx hb d_Q_tick_53 rfl (lv_at hl 1 rfl) ?_
          refine lv_iconst (v := 1) hx hb d_Q_tick_54 (by decide) ?_
          refine wl_iast X hP hS (i := 1) (by decide) 0 (qw_cstate ) rfl (j := i) rfl (by omega) (by decide) d_Q_tick_55 (qw_pstate ) (fun H locs hP hS => ?_)
          obtain ⟨S105, eS105⟩ : ∃ z, z = qw_si S103 1 0 i (1 : Int32) := ⟨_, rfl⟩
          rw [← eS105] at hP
          refine lv_iinc (v := nI (i + 1)) (lv' := [(1, .int (nI (i + 1))), (0, .ref (ad 0))]) hx hb d_Q_tick_56 hl (k := 1) rfl (nI_1 _) (by decide) rfl (fun ls hl => ?_)
          refine lv_goto (tgt := 12) hx hb d_Q_tick_59 (by decide) ?_
          have hE : k_Q_tick_L12 (i_n + 1) i S0 = k_Q_tick_L12 i_n (i + 1) S105 := by
            replace eS105 := eS105.symm
            subst eS105
            replace eS103 := eS103.symm
            subst eS103
            exact ((if_pos c102).trans ((if_pos c104).trans rfl))
          rw [hE]
          exact ih (i + 1) S105 (by omega) (by replace eS105 := eS105.symm; subst eS105; replace eS103 := eS103.symm; subst eS103; exact (pp_pos c104 (pp_pos c102 hp0))) _ _ _ (lv_sub hl [1, 0] rfl) hP hS
      · skip
        refine lv_goto (tgt := 56) hx hb d_Q_tick_27 (by decide) ?_
        refine lv_iinc (v := nI (i + 1)) (lv' := [(1, .int (nI (i + 1))), (0, .ref (ad 0))]) hx hb d_Q_tick_56 hl (k := 1) rfl (nI_1 _) (by decide) rfl (fun ls hl => ?_)
        refine lv_goto (tgt := 12) hx hb d_Q_tick_59 (by decide) ?_
        have hE : k_Q_tick_L12 (i_n + 1) i S0 = k_Q_tick_L12 i_n (i + 1) S0 := by
          exact ((if_neg c102).trans rfl)
        rw [hE]
        exact ih (i + 1) S0 (by omega) (by  exact (pp_neg c102 hp0)) _ _ _ (lv_sub hl [1, 0] rfl) hP hS
def k_Q_tick (S0 : qw_S) : Int32 × qw_S :=
  let S1 := qw_si S0 0 0 0 ((S0.1 0 0 0) + (1 : Int32))
  k_Q_tick_L12 4 0 S1
def p_Q_tick (S0 : qw_S) : Prop :=
  let S1 := qw_si S0 0 0 0 ((S0.1 0 0 0) + (1 : Int32))
  p_Q_tick_L12 4 0 S1
set_option maxHeartbeats 4000000 in
set_option maxRecDepth 100000 in
theorem c_Q_tick {l : Launch} {D : va_G} {cI cZ : ClassId} {ad : Nat → Nat} (hinj : wl_inj 18 ad) (S0 : qw_S)  (hp0 : p_Q_tick S0) : wl_Mi l y_Q_tick (Cond.code y_Q_tick b_Q_tick 3 (some .boolean) :: TT) (rm_ 6) D classes (qw_ty cI cZ) 18 ad [.ref (ad 0)] (qw_C cI cZ ad S0) ((k_Q_tick S0).1) (qw_C cI cZ ad ((k_Q_tick S0).2)) := by
  intro sz
  refine wl_enter (own := R_Q) rfl (by decide) (Nat.le_of_ble_eq_true rfl) hinj (fun p_ e_ s_ m_ below meth c_ ls hsz X hml hr hlocks hl hP hS => ?_)
  have hx := X.1
  have hb := X.2.1
  have hA : ∀ q, s_.heap.size ≤ q → (wl_A 18 ad s_.heap.size) q := fun q h => Or.inr h
  have hl : lv_has ls 3 [(0, .ref (ad 0))] := hl
  refine lv_aload_n hx hb d_Q_tick_0 rfl (lv_at hl 0 rfl) ?_
  refine lv_dup hx hb d_Q_tick_1 rfl ?_
  refine wl_get (v := .int (S0.1 0 0 0)) X hP (i := 0) (by decide) (qw_cQ ) rfl i_Q 17 (by decide) lf_Q_123 rfl d_Q_tick_2 ?_
  refine lv_iconst (v := 1) hx hb d_Q_tick_5 (by decide) ?_
  refine lv_iadd hx hb d_Q_tick_6 ?_
  refine wl_put X hP hS (i := 0) (by decide) (qw_cQ ) rfl i_Q ft_Q ft_Q_ok fn_Q 17 (by decide) lf_Q_123 rfl rfl rfl (Nat.le_of_ble_eq_true rfl) d_Q_tick_7 (qw_pQ_time ) (fun H locs hP hS => ?_)
  obtain ⟨S1, eS1⟩ : ∃ z, z = qw_si S0 0 0 0 ((S0.1 0 0 0) + (1 : Int32)) := ⟨_, rfl⟩
  rw [← eS1] at hP
  refine lv_iconst (v := 0) hx hb d_Q_tick_10 (by decide) ?_
  refine lv_istore_n (lv' := [(1, .int (0 : Int32)), (0, .ref (ad 0))]) hx hb d_Q_tick_11 rfl hl (by decide) rfl (fun ls hl => ?_)
  have hE : k_Q_tick S0 = k_Q_tick_L12 4 0 S1 := by
    replace eS1 := eS1.symm
    subst eS1
    exact rfl
  rw [hE]
  exact c_Q_tick_L12 hinj X hsz hml hr hlocks 4 0 S1 (by omega) (by replace eS1 := eS1.symm; subst eS1; exact hp0) _ _ _ (lv_sub hl [1, 0] rfl) hP hS
def k_Q_run_L17 : Nat → Nat → Nat → Int32 → qw_S → Int32 × qw_S
  | 0, i, n, b, S0 =>
    (b, S0)
  | i_n + 1, i, n, b, S0 =>
    let r103 := (k_Q_tick S0).1
    let S104 := (k_Q_tick S0).2
    if r103 = 0 then
      k_Q_run_L17 i_n (i + 1) n b S104
    else
      let x106 := b + Int32.ofInt (1)
      k_Q_run_L17 i_n (i + 1) n x106 S104
def p_Q_run_L17 : Nat → Nat → Nat → Int32 → qw_S → Prop
  | 0, i, n, b, S0 =>
    True
  | i_n + 1, i, n, b, S0 =>
    (p_Q_tick S0) ∧
    (let r103 := (k_Q_tick S0).1
    let S104 := (k_Q_tick S0).2
    if r103 = 0 then
      p_Q_run_L17 i_n (i + 1) n b S104
    else
      let x106 := b + Int32.ofInt (1)
      p_Q_run_L17 i_n (i + 1) n x106 S104)
set_option maxHeartbeats 4000000 in
set_option maxRecDepth 100000 in
theorem c_Q_run_L17 {l : Launch} {D : va_G} {cI cZ : ClassId} {ad : Nat → Nat} {p_ : Program} {e_ : Env} {s_ : State} {m_ : MethodId} {args : Array Value} {below : List Frame} {meth : Method} {c_ : Code} {sz : Nat} (hinj : wl_inj 18 ad) (X : wl_X p_ s_ m_ args c_ b_Q_run R_Q TT D classes (qw_ty cI cZ) 18 ad (wl_A 18 ad s_.heap.size)) (hsz : s_.heap.size = sz) (hml : c_.maxLocals = 4) (hr : meth.sig.returnType = some .int) (hlocks : meth.locks = false) :
    ∀ (i_n i : Nat) (x_n : Int32) (n : Nat) (e_n : x_n = nI n) (h_n : n < 41) (b : Int32) (S0 : qw_S) (h_i : i + i_n = n) (hp0 : p_Q_run_L17 i_n i n b S0) (H : Heap) (locs : List Loc) (ls : Array Slot), lv_has ls 4 [(0, .ref (ad 0)), (1, .int x_n), (2, .int b), (3, .int (nI i))] → va_P D classes (wl_W 18 ad (qw_C cI cZ ad S0)) H → va_S (wl_A 18 ad s_.heap.size) s_.heap H locs → W p_ l e_ (rm_ 7) s_ m_ args below meth c_ H locs 0 0 (MQ below (wl_Qi D classes (qw_ty cI cZ) 18 ad ((k_Q_run_L17 i_n i n b S0).1) (qw_C cI cZ ad ((k_Q_run_L17 i_n i n b S0).2)) sz) args s_ 0 0 (wl_A 18 ad sz)) (F0 m_ 17 ls []) := by
  have hx := X.1
  have hb := X.2.1
  have hA : ∀ q, s_.heap.size ≤ q → (wl_A 18 ad s_.heap.size) q := fun q h => Or.inr h
  intro i_n
  induction i_n with
  | zero =>
    intro i x_n n e_n h_n b S0 h_i hp0 H locs ls hl hP hS
    subst e_n
    refine lv_iload_n hx hb d_Q_run_17 rfl (lv_at hl 3 rfl) ?_
    refine lv_iload_n hx hb d_Q_run_18 rfl (lv_at hl 1 rfl) ?_
    refine lv_icmp_ge (tgt := 38) hx hb d_Q_run_19 (by decide) (fun c1 => ?_) (fun c1 => ?_)
    · skip
      refine lv_iload_n hx hb d_Q_run_38 rfl (lv_at hl 2 rfl) ?_
      have hE : k_Q_run_L17 0 i n b S0 = (b, S0) := by
        exact rfl
      rw [hE]
      exact wl_iret X hsz hr hlocks hP hS d_Q_run_39
    · exact absurd (sk_lhz h_i (by omega)) c1
  | succ i_n ih =>
    intro i x_n n e_n h_n b S0 h_i hp0 H locs ls hl hP hS
    subst e_n
    refine lv_iload_n hx hb d_Q_run_17 rfl (lv_at hl 3 rfl) ?_
    refine lv_iload_n hx hb d_Q_run_18 rfl (lv_at hl 1 rfl) ?_
    refine lv_icmp_ge (tgt := 38) hx hb d_Q_run_19 (by decide) (fun c101 => ?_) (fun c101 => ?_)
    · exact absurd c101 (sk_lhs h_i (by omega))
    · skip
      refine lv_aload_n hx hb d_Q_run_22 rfl (lv_at hl 0 rfl) ?_
      have ob102 : p_Q_tick S0 := by
        exact And.left hp0
      refine wl_goi2 (cf := qw_C cI cZ ad) (res := k_Q_tick S0) hS hA X.2.2.2.2.2.2 (wl_runV (As := []) (rest := []) X hml hl.1 hP g_TT (c_Q_tick hinj S0 ob102 _) (by decide) (qw_cQ ) rfl wv_Q_119 (na := 0) (by decide +kernel) rfl ⟨Nat.le_of_ble_eq_true rfl, Nat.le_of_ble_eq_true rfl⟩ rfl (Nat.le_of_ble_eq_true rfl) d_Q_run_23 ⟨Nat.le_refl _, Nat.le_refl _⟩) (fun r103 S104 er103 eS104 H locs hP hS => ?_)
      refine lv_if_eq (tgt := 32) hx hb d_Q_run_26 (by decide) (fun c105 => ?_) (fun c105 => ?_)
      · skip
        refine lv_iinc (v := nI (i + 1)) (lv' := [(3, .int (nI (i + 1))), (0, .ref (ad 0)), (1, .int (nI n)), (2, .int b)]) hx hb d_Q_run_32 hl (k := 3) rfl (nI_1 _) (by decide) rfl (fun ls hl => ?_)
        refine lv_goto (tgt := 17) hx hb d_Q_run_35 (by decide) ?_
        have hE : k_Q_run_L17 (i_n + 1) i n b S0 = k_Q_run_L17 i_n (i + 1) n b S104 := by
          replace eS104 := eS104.symm
          subst eS104
          replace er103 := er103.symm
          subst er103
          exact ((if_pos c105).trans rfl)
        rw [hE]
        exact ih (i + 1) (nI n) n rfl (by omega) b S104 (by omega) (by replace eS104 := eS104.symm; subst eS104; replace er103 := er103.symm; subst er103; exact (pp_pos c105 (And.right hp0))) _ _ _ (lv_sub hl [1, 2, 3, 0] rfl) hP hS
      · skip
        obtain ⟨x106, ex106⟩ : ∃ z : Int32, z = b + Int32.ofInt (1) := ⟨_, rfl⟩
        refine lv_iinc (v := x106) (lv' := [(2, .int x106), (0, .ref (ad 0)), (1, .int (nI n)), (3, .int (nI i))]) hx hb d_Q_run_29 hl (k := 2) rfl (ex106.symm) (by decide) rfl (fun ls hl => ?_)
        refine lv_iinc (v := nI (i + 1)) (lv' := [(3, .int (nI (i + 1))), (2, .int x106), (0, .ref (ad 0)), (1, .int (nI n))]) hx hb d_Q_run_32 hl (k := 3) rfl (nI_1 _) (by decide) rfl (fun ls hl => ?_)
        refine lv_goto (tgt := 17) hx hb d_Q_run_35 (by decide) ?_
        have hE : k_Q_run_L17 (i_n + 1) i n b S0 = k_Q_run_L17 i_n (i + 1) n x106 S104 := by
          replace ex106 := ex106.symm
          subst ex106
          replace eS104 := eS104.symm
          subst eS104
          replace er103 := er103.symm
          subst er103
          exact ((if_neg c105).trans rfl)
        rw [hE]
        exact ih (i + 1) (nI n) n rfl (by omega) x106 S104 (by omega) (by replace ex106 := ex106.symm; subst ex106; replace eS104 := eS104.symm; subst eS104; replace er103 := er103.symm; subst er103; exact (pp_neg c105 (And.right hp0))) _ _ _ (lv_sub hl [2, 3, 1, 0] rfl) hP hS
def k_Q_run (S0 : qw_S) (n : Int32) : Int32 × qw_S :=
  if n < (1 : Int32) then
    ((-1 : Int32), S0)
  else
    if n ≤ (40 : Int32) then
      k_Q_run_L17 (n.toNatClampNeg - 0) 0 n.toNatClampNeg (0 : Int32) S0
    else
      ((-1 : Int32), S0)
def p_Q_run (S0 : qw_S) (n : Int32) : Prop :=
  if n < (1 : Int32) then
    True
  else
    if n ≤ (40 : Int32) then
      p_Q_run_L17 (n.toNatClampNeg - 0) 0 n.toNatClampNeg (0 : Int32) S0
    else
      True
set_option maxHeartbeats 4000000 in
set_option maxRecDepth 100000 in
theorem c_Q_run {l : Launch} {D : va_G} {cI cZ : ClassId} {ad : Nat → Nat} (hinj : wl_inj 18 ad) (S0 : qw_S) (n : Int32) (hp0 : p_Q_run S0 n) : wl_Mi l y_Q_run (Cond.code y_Q_run b_Q_run 4 (some .int) :: TT) (rm_ 7) D classes (qw_ty cI cZ) 18 ad [.ref (ad 0), .int n] (qw_C cI cZ ad S0) ((k_Q_run S0 n).1) (qw_C cI cZ ad ((k_Q_run S0 n).2)) := by
  intro sz
  refine wl_enter (own := R_Q) rfl (by decide) (Nat.le_of_ble_eq_true rfl) hinj (fun p_ e_ s_ m_ below meth c_ ls hsz X hml hr hlocks hl hP hS => ?_)
  have hx := X.1
  have hb := X.2.1
  have hA : ∀ q, s_.heap.size ≤ q → (wl_A 18 ad s_.heap.size) q := fun q h => Or.inr h
  have hl : lv_has ls 4 [(0, .ref (ad 0)), (1, .int n)] := hl
  refine lv_iload_n hx hb d_Q_run_0 rfl (lv_at hl 1 rfl) ?_
  refine lv_iconst (v := 1) hx hb d_Q_run_1 (by decide) ?_
  refine lv_icmp_lt (tgt := 11) hx hb d_Q_run_2 (by decide) (fun c1 => ?_) (fun c1 => ?_)
  · skip
    refine lv_iconst (v := -1) hx hb d_Q_run_11 (by decide) ?_
    have hE : k_Q_run S0 n = ((-1 : Int32), S0) := by
      exact ((if_pos c1).trans rfl)
    rw [hE]
    exact wl_iret X hsz hr hlocks hP hS d_Q_run_12
  · skip
    refine lv_iload_n hx hb d_Q_run_5 rfl (lv_at hl 1 rfl) ?_
    refine lv_bipush (v := 40) hx hb d_Q_run_6 (by decide) ?_
    refine lv_icmp_le (tgt := 13) hx hb d_Q_run_8 (by decide) (fun c2 => ?_) (fun c2 => ?_)
    · skip
      obtain ⟨hn1, hn2⟩ := kq_run c1 c2
      refine lv_iconst (v := 0) hx hb d_Q_run_13 (by decide) ?_
      refine lv_istore_n (lv' := [(2, .int (0 : Int32)), (0, .ref (ad 0)), (1, .int n)]) hx hb d_Q_run_14 rfl hl (by decide) rfl (fun ls hl => ?_)
      refine lv_iconst (v := 0) hx hb d_Q_run_15 (by decide) ?_
      refine lv_istore_n (lv' := [(3, .int (0 : Int32)), (2, .int (0 : Int32)), (0, .ref (ad 0)), (1, .int n)]) hx hb d_Q_run_16 rfl hl (by decide) rfl (fun ls hl => ?_)
      have hE : k_Q_run S0 n = k_Q_run_L17 (n.toNatClampNeg - 0) 0 n.toNatClampNeg (0 : Int32) S0 := by
        exact ((if_neg c1).trans ((if_pos c2).trans rfl))
      rw [hE]
      exact c_Q_run_L17 hinj X hsz hml hr hlocks (n.toNatClampNeg - 0) 0 n n.toNatClampNeg hn1 (by omega) (0 : Int32) S0 (by omega) (by  exact (pp_pos c2 (pp_neg c1 hp0))) _ _ _ (lv_sub hl [2, 3, 1, 0] rfl) hP hS
    · skip
      refine lv_iconst (v := -1) hx hb d_Q_run_11 (by decide) ?_
      have hE : k_Q_run S0 n = ((-1 : Int32), S0) := by
        exact ((if_neg c1).trans ((if_neg c2).trans rfl))
      rw [hE]
      exact wl_iret X hsz hr hlocks hP hS d_Q_run_12
