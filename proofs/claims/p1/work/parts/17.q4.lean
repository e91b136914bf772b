theorem qq_px {p w : Int32} {a j : Nat} (h1 : p = nI a) (h2 : w - 10 = nI j) : (4 : Int32) * p + w - 10 = nI (4 * a + j) := by
  have e : (4 : Int32) * p + w - 10 = (4 : Int32) * p + (w - 10) := by rw [Int32.sub_eq_add_neg, Int32.sub_eq_add_neg, Int32.add_assoc]
  rw [e, h1, h2]
  exact (congrArg (fun z => z + nI j) (pk_mul 4 a)).trans (nI_add (4 * a) j)
def k_Q_process_J30 (p : Int32) (w : Int32) (S0 : qw_S) : Int32 :=
  if (S0.1 1 0 p.toNatClampNeg) = 0 then
    (0 : Int32)
  else
    if w < (10 : Int32) then
      if w = (0 : Int32) then
        S0.1 1 0 p.toNatClampNeg
      else
        if w = (1 : Int32) then
          S0.1 2 0 p.toNatClampNeg
        else
          if w = (2 : Int32) then
            qw_pa (S0.2 3 0 p.toNatClampNeg)
          else
            if w = (3 : Int32) then
              if (S0.1 1 0 p.toNatClampNeg) = (4 : Int32) then
                S0.1 4 0 p.toNatClampNeg
              else
                (0 : Int32)
            else
              if w = (4 : Int32) then
                if (S0.1 1 0 p.toNatClampNeg) = (2 : Int32) then
                  S0.1 5 0 p.toNatClampNeg
                else
                  (0 : Int32)
              else
                if w = (5 : Int32) then
                  S0.1 6 0 p.toNatClampNeg
                else
                  S0.1 7 0 p.toNatClampNeg
    else
      S0.1 8 0 (4 * p.toNatClampNeg + (w - 10).toNatClampNeg)
set_option maxHeartbeats 4000000 in
set_option maxRecDepth 100000 in
theorem c_Q_process_J30 {l : Launch} {D : va_G} {cI cZ : ClassId} {ad : Nat → Nat} {p_ : Program} {e_ : Env} {s_ : State} {m_ : MethodId} {args : Array Value} {below : List Frame} {meth : Method} {c_ : Code} {sz : Nat} (hinj : wl_inj 18 ad) (X : wl_X p_ s_ m_ args c_ b_Q_process R_Q TT D classes (qw_ty cI cZ) 18 ad (wl_A 18 ad s_.heap.size)) (hsz : s_.heap.size = sz) (hml : c_.maxLocals = 3) (hr : meth.sig.returnType = some .int) (hlocks : meth.locks = false) :
    ∀ (p : Int32) (w : Int32) (S0 : qw_S) (hp : in_ p 4) (hw : ¬ w < 10 → in_ (w - 10) 4) (H : Heap) (locs : List Loc) (ls : Array Slot), lv_has ls 3 [(0, .ref (ad 0)), (1, .int p), (2, .int w)] → va_P D classes (wl_W 18 ad (qw_C cI cZ ad S0)) H → va_S (wl_A 18 ad s_.heap.size) s_.heap H locs → W p_ l e_ (rm_ 1) s_ m_ args below meth c_ H locs 0 0 (MQ below (wl_Qi D classes (qw_ty cI cZ) 18 ad (k_Q_process_J30 p w S0) (qw_C cI cZ ad S0) sz) args s_ 0 0 (wl_A 18 ad sz)) (F0 m_ 30 ls []) := by
  have hx := X.1
  have hb := X.2.1
  have hA : ∀ q, s_.heap.size ≤ q → (wl_A 18 ad s_.heap.size) q := fun q h => Or.inr h
  intro p w S0 hp hw H locs ls hl hP hS
  refine lv_aload_n hx hb d_Q_process_30 rfl (lv_at hl 0 rfl) ?_
  refine wl_get (v := .ref (ad 1)) X hP (i := 0) (by decide) (qw_cQ ) rfl i_Q 0 (by decide) lf_Q_7 rfl d_Q_process_31 ?_
  obtain ⟨hp1, hp2⟩ := hp
  refine lv_iload_n hx hb d_Q_process_34 rfl (lv_at hl 1 rfl) ?_
  refine wl_iald X hP (i := 1) (by decide) 0 (qw_cstate ) rfl (j := p.toNatClampNeg) hp1 (by omega) (by decide) d_Q_process_35 ?_
  refine lv_if_ne (tgt := 41) hx hb d_Q_process_36 (by decide) (fun c1 => ?_) (fun c1 => ?_)
  · skip
    refine lv_iload_n hx hb d_Q_process_41 rfl (lv_at hl 2 rfl) ?_
    refine lv_bipush (v := 10) hx hb d_Q_process_42 (by decide) ?_
    refine lv_icmp_lt (tgt := 61) hx hb d_Q_process_44 (by decide) (fun c2 => ?_) (fun c2 => ?_)
    · skip
      refine lv_iload_n hx hb d_Q_process_61 rfl (lv_at hl 2 rfl) ?_
      by_cases c3 : w = (0 : Int32)
      · refine wl_top c3 ?_
        refine lv_tableIn (tgt := 100) hx hb d_Q_process_62 (by decide) (by decide) rfl (by decide) ?_
        refine lv_aload_n hx hb d_Q_process_100 rfl (lv_at hl 0 rfl) ?_
        refine wl_get (v := .ref (ad 1)) X hP (i := 0) (by decide) (qw_cQ ) rfl i_Q 0 (by decide) lf_Q_7 rfl d_Q_process_101 ?_
        refine lv_iload_n hx hb d_Q_process_104 rfl (lv_at hl 1 rfl) ?_
        refine wl_iald X hP (i := 1) (by decide) 0 (qw_cstate ) rfl (j := p.toNatClampNeg) hp1 (by omega) (by decide) d_Q_process_105 ?_
        have hE : k_Q_process_J30 p w S0 = S0.1 1 0 p.toNatClampNeg := by
          exact ((if_neg c1).trans ((if_pos c2).trans ((if_pos c3).trans rfl)))
        rw [hE]
        exact wl_iret X hsz hr hlocks hP hS d_Q_process_106
      by_cases c4 : w = (1 : Int32)
      · refine wl_top c4 ?_
        refine lv_tableIn (tgt := 107) hx hb d_Q_process_62 (by decide) (by decide) rfl (by decide) ?_
        refine lv_aload_n hx hb d_Q_process_107 rfl (lv_at hl 0 rfl) ?_
        refine wl_get (v := .ref (ad 2)) X hP (i := 0) (by decide) (qw_cQ ) rfl i_Q 1 (by decide) lf_Q_13 rfl d_Q_process_108 ?_
        refine lv_iload_n hx hb d_Q_process_111 rfl (lv_at hl 1 rfl) ?_
        refine wl_iald X hP (i := 2) (by decide) 0 (qw_cplace ) rfl (j := p.toNatClampNeg) hp1 (by omega) (by decide) d_Q_process_112 ?_
        have hE : k_Q_process_J30 p w S0 = S0.1 2 0 p.toNatClampNeg := by
          exact ((if_neg c1).trans ((if_pos c2).trans ((if_neg c3).trans ((if_pos c4).trans rfl))))
        rw [hE]
        exact wl_iret X hsz hr hlocks hP hS d_Q_process_113
      by_cases c5 : w = (2 : Int32)
      · refine wl_top c5 ?_
        refine lv_tableIn (tgt := 114) hx hb d_Q_process_62 (by decide) (by decide) rfl (by decide) ?_
        refine lv_aload_n hx hb d_Q_process_114 rfl (lv_at hl 0 rfl) ?_
        refine wl_get (v := .ref (ad 3)) X hP (i := 0) (by decide) (qw_cQ ) rfl i_Q 2 (by decide) lf_Q_16 rfl d_Q_process_115 ?_
        refine lv_iload_n hx hb d_Q_process_118 rfl (lv_at hl 1 rfl) ?_
        refine wl_iald X hP (i := 3) (by decide) 0 (qw_cparent ) rfl (j := p.toNatClampNeg) hp1 (by omega) (by decide) d_Q_process_119 ?_
        have hE : k_Q_process_J30 p w S0 = qw_pa (S0.2 3 0 p.toNatClampNeg) := by
          exact ((if_neg c1).trans ((if_pos c2).trans ((if_neg c3).trans ((if_neg c4).trans ((if_pos c5).trans rfl)))))
        rw [hE]
        exact wl_iret X hsz hr hlocks hP hS d_Q_process_120
      by_cases c6 : w = (3 : Int32)
      · refine wl_top c6 ?_
        refine lv_tableIn (tgt := 121) hx hb d_Q_process_62 (by decide) (by decide) rfl (by decide) ?_
        refine lv_aload_n hx hb d_Q_process_121 rfl (lv_at hl 0 rfl) ?_
        refine wl_get (v := .ref (ad 1)) X hP (i := 0) (by decide) (qw_cQ ) rfl i_Q 0 (by decide) lf_Q_7 rfl d_Q_process_122 ?_
        refine lv_iload_n hx hb d_Q_process_125 rfl (lv_at hl 1 rfl) ?_
        refine wl_iald X hP (i := 1) (by decide) 0 (qw_cstate ) rfl (j := p.toNatClampNeg) hp1 (by omega) (by decide) d_Q_process_126 ?_
        refine lv_iconst (v := 4) hx hb d_Q_process_127 (by decide) ?_
        refine lv_icmp_ne (tgt := 140) hx hb d_Q_process_128 (by decide) (fun c7 => ?_) (fun c7 => ?_)
        · skip
          refine lv_iconst (v := 0) hx hb d_Q_process_140 (by decide) ?_
          have hE : k_Q_process_J30 p w S0 = (0 : Int32) := by
            exact ((if_neg c1).trans ((if_pos c2).trans ((if_neg c3).trans ((if_neg c4).trans ((if_neg c5).trans ((if_pos c6).trans ((if_neg c7).trans rfl)))))))
          rw [hE]
          exact wl_iret X hsz hr hlocks hP hS d_Q_process_141
        · skip
          refine lv_aload_n hx hb d_Q_process_131 rfl (lv_at hl 0 rfl) ?_
          refine wl_get (v := .ref (ad 4)) X hP (i := 0) (by decide) (qw_cQ ) rfl i_Q 3 (by decide) lf_Q_19 rfl d_Q_process_132 ?_
          refine lv_iload_n hx hb d_Q_process_135 rfl (lv_at hl 1 rfl) ?_
          refine wl_iald X hP (i := 4) (by decide) 0 (qw_ccode ) rfl (j := p.toNatClampNeg) hp1 (by omega) (by decide) d_Q_process_136 ?_
          refine lv_goto (tgt := 141) hx hb d_Q_process_137 (by decide) ?_
          have hE : k_Q_process_J30 p w S0 = S0.1 4 0 p.toNatClampNeg := by
            exact ((if_neg c1).trans ((if_pos c2).trans ((if_neg c3).trans ((if_neg c4).trans ((if_neg c5).trans ((if_pos c6).trans ((if_pos c7).trans rfl)))))))
          rw [hE]
          exact wl_iret X hsz hr hlocks hP hS d_Q_process_141
      by_cases c8 : w = (4 : Int32)
      · refine wl_top c8 ?_
        refine lv_tableIn (tgt := 142) hx hb d_Q_process_62 (by decide) (by decide) rfl (by decide) ?_
        refine lv_aload_n hx hb d_Q_process_142 rfl (lv_at hl 0 rfl) ?_
        refine wl_get (v := .ref (ad 1)) X hP (i := 0) (by decide) (qw_cQ ) rfl i_Q 0 (by decide) lf_Q_7 rfl d_Q_process_143 ?_
        refine lv_iload_n hx hb d_Q_process_146 rfl (lv_at hl 1 rfl) ?_
        refine wl_iald X hP (i := 1) (by decide) 0 (qw_cstate ) rfl (j := p.toNatClampNeg) hp1 (by omega) (by decide) d_Q_process_147 ?_
        refine lv_iconst (v := 2) hx hb d_Q_process_148 (by decide) ?_
        refine lv_icmp_ne (tgt := 161) hx hb d_Q_process_149 (by decide) (fun c9 => ?_) (fun c9 => ?_)
        · skip
          refine lv_iconst (v := 0) hx hb d_Q_process_161 (by decide) ?_
          have hE : k_Q_process_J30 p w S0 = (0 : Int32) := by
            exact ((if_neg c1).trans ((if_pos c2).trans ((if_neg c3).trans ((if_neg c4).trans ((if_neg c5).trans ((if_neg c6).trans ((if_pos c8).trans ((if_neg c9).trans rfl))))))))
          rw [hE]
          exact wl_iret X hsz hr hlocks hP hS d_Q_process_162
        · skip
          refine lv_aload_n hx hb d_Q_process_152 rfl (lv_at hl 0 rfl) ?_
          refine wl_get (v := .ref (ad 5)) X hP (i := 0) (by decide) (qw_cQ ) rfl i_Q 4 (by decide) lf_Q_22 rfl d_Q_process_153 ?_
          refine lv_iload_n hx hb d_Q_process_156 rfl (lv_at hl 1 rfl) ?_
          refine wl_iald X hP (i := 5) (by decide) 0 (qw_cwake ) rfl (j := p.toNatClampNeg) hp1 (by omega) (by decide) d_Q_process_157 ?_
          refine lv_goto (tgt := 162) hx hb d_Q_process_158 (by decide) ?_
          have hE : k_Q_process_J30 p w S0 = S0.1 5 0 p.toNatClampNeg := by
            exact ((if_neg c1).trans ((if_pos c2).trans ((if_neg c3).trans ((if_neg c4).trans ((if_neg c5).trans ((if_neg c6).trans ((if_pos c8).trans ((if_pos c9).trans rfl))))))))
          rw [hE]
          exact wl_iret X hsz hr hlocks hP hS d_Q_process_162
      by_cases c10 : w = (5 : Int32)
      · refine wl_top c10 ?_
        refine lv_tableIn (tgt := 163) hx hb d_Q_process_62 (by decide) (by decide) rfl (by decide) ?_
        refine lv_aload_n hx hb d_Q_process_163 rfl (lv_at hl 0 rfl) ?_
        refine wl_get (v := .ref (ad 6)) X hP (i := 0) (by decide) (qw_cQ ) rfl i_Q 5 (by decide) lf_Q_25 rfl d_Q_process_164 ?_
        refine lv_iload_n hx hb d_Q_process_167 rfl (lv_at hl 1 rfl) ?_
        refine wl_iald X hP (i := 6) (by decide) 0 (qw_cfaults ) rfl (j := p.toNatClampNeg) hp1 (by omega) (by decide) d_Q_process_168 ?_
        have hE : k_Q_process_J30 p w S0 = S0.1 6 0 p.toNatClampNeg := by
          exact ((if_neg c1).trans ((if_pos c2).trans ((if_neg c3).trans ((if_neg c4).trans ((if_neg c5).trans ((if_neg c6).trans ((if_neg c8).trans ((if_pos c10).trans rfl))))))))
        rw [hE]
        exact wl_iret X hsz hr hlocks hP hS d_Q_process_169
      refine lv_tableOut (tgt := 170) hx hb d_Q_process_62 (by have := lv_neT c3 (a := 0) rfl; have := lv_neT c4 (a := 1) rfl; have := lv_neT c5 (a := 2) rfl; have := lv_neT c6 (a := 3) rfl; have := lv_neT c8 (a := 4) rfl; have := lv_neT c10 (a := 5) rfl; omega) (by decide) ?_
      refine lv_aload_n hx hb d_Q_process_170 rfl (lv_at hl 0 rfl) ?_
      refine wl_get (v := .ref (ad 7)) X hP (i := 0) (by decide) (qw_cQ ) rfl i_Q 6 (by decide) lf_Q_28 rfl d_Q_process_171 ?_
      refine lv_iload_n hx hb d_Q_process_174 rfl (lv_at hl 1 rfl) ?_
      refine wl_iald X hP (i := 7) (by decide) 0 (qw_cbegun ) rfl (j := p.toNatClampNeg) hp1 (by omega) (by decide) d_Q_process_175 ?_
      have hE : k_Q_process_J30 p w S0 = S0.1 7 0 p.toNatClampNeg := by
        exact ((if_neg c1).trans ((if_pos c2).trans ((if_neg c3).trans ((if_neg c4).trans ((if_neg c5).trans ((if_neg c6).trans ((if_neg c8).trans ((if_neg c10).trans rfl))))))))
      rw [hE]
      exact wl_iret X hsz hr hlocks hP hS d_Q_process_176
    · skip
      obtain ⟨hw1, hw2⟩ := hw c2
      refine lv_aload_n hx hb d_Q_process_47 rfl (lv_at hl 0 rfl) ?_
      refine wl_get (v := .ref (ad 8)) X hP (i := 0) (by decide) (qw_cQ ) rfl i_Q 7 (by decide) lf_Q_31 rfl d_Q_process_48 ?_
      refine lv_iconst (v := 4) hx hb d_Q_process_51 (by decide) ?_
      refine lv_iload_n hx hb d_Q_process_52 rfl (lv_at hl 1 rfl) ?_
      refine lv_imul hx hb d_Q_process_53 ?_
      refine lv_iload_n hx hb d_Q_process_54 rfl (lv_at hl 2 rfl) ?_
      refine lv_iadd hx hb d_Q_process_55 ?_
      refine lv_bipush (v := 10) hx hb d_Q_process_56 (by decide) ?_
      refine lv_isub hx hb d_Q_process_58 ?_
      refine wl_iald X hP (i := 8) (by decide) 0 (qw_cregister ) rfl (j := (4 * p.toNatClampNeg + (w - 10).toNatClampNeg)) (qq_px hp1 hw1) (by omega) (by decide) d_Q_process_59 ?_
      have hE : k_Q_process_J30 p w S0 = S0.1 8 0 (4 * p.toNatClampNeg + (w - 10).toNatClampNeg) := by
        exact ((if_neg c1).trans ((if_neg c2).trans rfl))
      rw [hE]
      exact wl_iret X hsz hr hlocks hP hS d_Q_process_60
  · skip
    refine lv_iconst (v := 0) hx hb d_Q_process_39 (by decide) ?_
    have hE : k_Q_process_J30 p w S0 = (0 : Int32) := by
      exact ((if_pos c1).trans rfl)
    rw [hE]
    exact wl_iret X hsz hr hlocks hP hS d_Q_process_40
def k_Q_process (S0 : qw_S) (p : Int32) (w : Int32) : Int32 :=
  let r1 := k_Q_in p (4 : Int32)
  if r1 = 0 then
    (-1 : Int32)
  else
    let r3 := k_Q_in w (7 : Int32)
    if r3 = 0 then
      let r5 := k_Q_in (w - (10 : Int32)) (4 : Int32)
      if r5 = 0 then
        (-1 : Int32)
      else
        k_Q_process_J30 p w S0
    else
      k_Q_process_J30 p w S0
set_option maxHeartbeats 4000000 in
set_option maxRecDepth 100000 in
theorem c_Q_process {l : Launch} {D : va_G} {cI cZ : ClassId} {ad : Nat → Nat} (hinj : wl_inj 18 ad) (S0 : qw_S) (p : Int32) (w : Int32) : wl_Mi l y_Q_process (Cond.code y_Q_process b_Q_process 3 (some .int) :: TT) (rm_ 1) D classes (qw_ty cI cZ) 18 ad [.ref (ad 0), .int p, .int w] (qw_C cI cZ ad S0) (k_Q_process S0 p w) (qw_C cI cZ ad S0) := by
  intro sz
  refine wl_enter (own := R_Q) rfl (by decide) (Nat.le_of_ble_eq_true rfl) hinj (fun p_ e_ s_ m_ below meth c_ ls hsz X hml hr hlocks hl hP hS => ?_)
  have hx := X.1
  have hb := X.2.1
  have hA : ∀ q, s_.heap.size ≤ q → (wl_A 18 ad s_.heap.size) q := fun q h => Or.inr h
  have hl : lv_has ls 3 [(0, .ref (ad 0)), (1, .int p), (2, .int w)] := hl
  refine lv_iload_n hx hb d_Q_process_0 rfl (lv_at hl 1 rfl) ?_
  refine lv_iconst (v := 4) hx hb d_Q_process_1 (by decide) ?_
  refine wl_goi1 (cf := qw_C cI cZ ad) (r := k_Q_in p (4 : Int32)) hS hA X.2.2.2.2.2.2 (wl_runS (As := [.int p, .int (4 : Int32)]) (rest := []) X hml hl.1 hP g_TT (c_Q_in hinj S0 p (4 : Int32) _) wv_Q_95 (na := 2) (by decide +kernel) rfl ⟨Nat.le_of_ble_eq_true rfl, Nat.le_of_ble_eq_true rfl⟩ rfl (Nat.le_of_ble_eq_true rfl) d_Q_process_2 ⟨Nat.le_refl _, Nat.le_refl _⟩) (fun r1 er1 H locs hP hS => ?_)
  refine lv_if_eq (tgt := 28) hx hb d_Q_process_5 (by decide) (fun c2 => ?_) (fun c2 => ?_)
  · skip
    refine lv_iconst (v := -1) hx hb d_Q_process_28 (by decide) ?_
    have hE : k_Q_process S0 p w = (-1 : Int32) := by
      replace er1 := er1.symm
      subst er1
      exact ((if_pos c2).trans rfl)
    rw [hE]
    exact wl_iret X hsz hr hlocks hP hS d_Q_process_29
  · skip
    have hp3 := qq_in 4 (fun h => c2 (er1.trans h)) rfl (by decide)
    refine lv_iload_n hx hb d_Q_process_8 rfl (lv_at hl 2 rfl) ?_
    refine lv_bipush (v := 7) hx hb d_Q_process_9 (by decide) ?_
    refine wl_goi1 (cf := qw_C cI cZ ad) (r := k_Q_in w (7 : Int32)) hS hA X.2.2.2.2.2.2 (wl_runS (As := [.int w, .int (7 : Int32)]) (rest := []) X hml hl.1 hP g_TT (c_Q_in hinj S0 w (7 : Int32) _) wv_Q_95 (na := 2) (by decide +kernel) rfl ⟨Nat.le_of_ble_eq_true rfl, Nat.le_of_ble_eq_true rfl⟩ rfl (Nat.le_of_ble_eq_true rfl) d_Q_process_11 ⟨Nat.le_refl _, Nat.le_refl _⟩) (fun r3 er3 H locs hP hS => ?_)
    refine lv_if_ne (tgt := 30) hx hb d_Q_process_14 (by decide) (fun c4 => ?_) (fun c4 => ?_)
    · skip
      have hw3 := qq_in 7 (fun h => c4 (er3.trans h)) rfl (by decide)
      have hE : k_Q_process S0 p w = k_Q_process_J30 p w S0 := by
        replace er3 := er3.symm
        subst er3
        replace er1 := er1.symm
        subst er1
        exact ((if_neg c2).trans ((if_neg c4).trans rfl))
      rw [hE]
      exact c_Q_process_J30 hinj X hsz hml hr hlocks p w S0 hp3 (by first | exact fun _ => hw4 | exact fun h => absurd (by rw [hw3.1]; exact nI_lt (b := 10) (by omega) (by decide)) h) _ _ _ (lv_sub hl [0, 1, 2] rfl) hP hS
    · skip
      refine lv_iload_n hx hb d_Q_process_17 rfl (lv_at hl 2 rfl) ?_
      refine lv_bipush (v := 10) hx hb d_Q_process_18 (by decide) ?_
      refine lv_isub hx hb d_Q_process_20 ?_
      refine lv_iconst (v := 4) hx hb d_Q_process_21 (by decide) ?_
      refine wl_goi1 (cf := qw_C cI cZ ad) (r := k_Q_in (w - (10 : Int32)) (4 : Int32)) hS hA X.2.2.2.2.2.2 (wl_runS (As := [.int (w - (10 : Int32)), .int (4 : Int32)]) (rest := []) X hml hl.1 hP g_TT (c_Q_in hinj S0 (w - (10 : Int32)) (4 : Int32) _) wv_Q_95 (na := 2) (by decide +kernel) rfl ⟨Nat.le_of_ble_eq_true rfl, Nat.le_of_ble_eq_true rfl⟩ rfl (Nat.le_of_ble_eq_true rfl) d_Q_process_22 ⟨Nat.le_refl _, Nat.le_refl _⟩) (fun r5 er5 H locs hP hS => ?_)
      refine lv_if_ne (tgt := 30) hx hb d_Q_process_25 (by decide) (fun c6 => ?_) (fun c6 => ?_)
      · skip
        have hw4 := qq_in 4 (fun h => c6 (er5.trans h)) rfl (by decide)
        have hE : k_Q_process S0 p w = k_Q_process_J30 p w S0 := by
          replace er5 := er5.symm
          subst er5
          replace er3 := er3.symm
          subst er3
          replace er1 := er1.symm
          subst er1
          exact ((if_neg c2).trans ((if_pos c4).trans ((if_neg c6).trans rfl)))
        rw [hE]
        exact c_Q_process_J30 hinj X hsz hml hr hlocks p w S0 hp3 (by first | exact fun _ => hw4 | exact fun h => absurd (by rw [hw3.1]; exact nI_lt (b := 10) (by omega) (by decide)) h) _ _ _ (lv_sub hl [0, 1, 2] rfl) hP hS
      · skip
        refine lv_iconst (v := -1) hx hb d_Q_process_28 (by decide) ?_
        have hE : k_Q_process S0 p w = (-1 : Int32) := by
          replace er5 := er5.symm
          subst er5
          replace er3 := er3.symm
          subst er3
          replace er1 := er1.symm
          subst er1
          exact ((if_neg c2).trans ((if_pos c4).trans ((if_pos c6).trans rfl)))
        rw [hE]
        exact wl_iret X hsz hr hlocks hP hS d_Q_process_29
def k_Q_page (S0 : qw_S) (p : Int32) (k : Int32) (w : Int32) : Int32 :=
  let r1 := k_Q_isThere S0 p
  if r1 = 0 then
    (-1 : Int32)
  else
    let r3 := k_Q_in k (8 : Int32)
    if r3 = 0 then
      (-1 : Int32)
    else
      let r5 := k_Q_in w (6 : Int32)
      if r5 = 0 then
        (-1 : Int32)
      else
        if w = (0 : Int32) then
          if 0 ≤ (qw_pg (S0.2 9 0 ((8 * p.toNatClampNeg) + k.toNatClampNeg))) then
            if 0 ≤ (S0.1 13 0 (S0.2 9 0 ((8 * p.toNatClampNeg) + k.toNatClampNeg))) then
              (1 : Int32)
            else
              (2 : Int32)
          else
            (0 : Int32)
        else
          if w = (1 : Int32) then
            if (qw_pg (S0.2 9 0 ((8 * p.toNatClampNeg) + k.toNatClampNeg))) < 0 then
              (-2 : Int32)
            else
              if 0 ≤ (S0.1 13 0 (S0.2 9 0 ((8 * p.toNatClampNeg) + k.toNatClampNeg))) then
                S0.1 13 0 (S0.2 9 0 ((8 * p.toNatClampNeg) + k.toNatClampNeg))
              else
                (-2 : Int32)
          else
            if w = (2 : Int32) then
              if (qw_pg (S0.2 9 0 ((8 * p.toNatClampNeg) + k.toNatClampNeg))) < 0 then
                (-2 : Int32)
              else
                if 0 ≤ (S0.1 14 0 (S0.2 9 0 ((8 * p.toNatClampNeg) + k.toNatClampNeg))) then
                  S0.1 14 0 (S0.2 9 0 ((8 * p.toNatClampNeg) + k.toNatClampNeg))
                else
                  (-2 : Int32)
            else
              if w = (3 : Int32) then
                if (qw_pg (S0.2 9 0 ((8 * p.toNatClampNeg) + k.toNatClampNeg))) < 0 then
                  (0 : Int32)
                else
                  if (S0.1 11 0 (S0.2 9 0 ((8 * p.toNatClampNeg) + k.toNatClampNeg))) = 0 then
                    (0 : Int32)
                  else
                    (1 : Int32)
              else
                if w = (4 : Int32) then
                  if (qw_pg (S0.2 9 0 ((8 * p.toNatClampNeg) + k.toNatClampNeg))) < 0 then
                    (0 : Int32)
                  else
                    if (S0.1 12 0 (S0.2 9 0 ((8 * p.toNatClampNeg) + k.toNatClampNeg))) = 0 then
                      (0 : Int32)
                    else
                      (1 : Int32)
                else
                  if 0 ≤ (qw_pg (S0.2 9 0 ((8 * p.toNatClampNeg) + k.toNatClampNeg))) then
                    let r23 := k_Q_sharers S0 (qw_pg (S0.2 9 0 ((8 * p.toNatClampNeg) + k.toNatClampNeg)))
                    r23
                  else
                    (0 : Int32)
set_option maxHeartbeats 4000000 in
set_option maxRecDepth 100000 in
theorem c_Q_page {l : Launch} {D : va_G} {cI cZ : ClassId} {ad : Nat → Nat} (hinj : wl_inj 18 ad) (S0 : qw_S) (p : Int32) (k : Int32) (w : Int32) : wl_Mi l y_Q_page (Cond.code y_Q_page b_Q_page 5 (some .int) :: TT) (rm_ 2) D classes (qw_ty cI cZ) 18 ad [.ref (ad 0), .int p, .int k, .int w] (qw_C cI cZ ad S0) (k_Q_page S0 p k w) (qw_C cI cZ ad S0) := by
  intro sz
  refine wl_enter (own := R_Q) rfl (by decide) (Nat.le_of_ble_eq_true rfl) hinj (fun p_ e_ s_ m_ below meth c_ ls hsz X hml hr hlocks hl hP hS => ?_)
  have hx := X.1
  have hb := X.2.1
  have hA : ∀ q, s_.heap.size ≤ q → (wl_A 18 ad s_.heap.size) q := fun q h => Or.inr h
  have hl : lv_has ls 5 [(0, .ref (ad 0)), (1, .int p), (2, .int k), (3, .int w)] := hl
  refine lv_aload_n hx hb d_Q_page_0 rfl (lv_at hl 0 rfl) ?_
  refine lv_iload_n hx hb d_Q_page_1 rfl (lv_at hl 1 rfl) ?_
  refine wl_goi1 (cf := qw_C cI cZ ad) (r := k_Q_isThere S0 p) hS hA X.2.2.2.2.2.2 (wl_runV (As := [.int p]) (rest := []) X hml hl.1 hP g_TT (c_Q_isThere hinj S0 p _) (by decide) (qw_cQ ) rfl wv_Q_99 (na := 1) (by decide +kernel) rfl ⟨Nat.le_of_ble_eq_true rfl, Nat.le_of_ble_eq_true rfl⟩ rfl (Nat.le_of_ble_eq_true rfl) d_Q_page_2 ⟨Nat.le_refl _, Nat.le_refl _⟩) (fun r1 er1 H locs hP hS => ?_)
  refine lv_if_eq (tgt := 26) hx hb d_Q_page_5 (by decide) (fun c2 => ?_) (fun c2 => ?_)
  · skip
    refine lv_iconst (v := -1) hx hb d_Q_page_26 (by decide) ?_
    have hE : k_Q_page S0 p k w = (-1 : Int32) := by
      replace er1 := er1.symm
      subst er1
      exact ((if_pos c2).trans rfl)
    rw [hE]
    exact wl_iret X hsz hr hlocks hP hS d_Q_page_27
  · skip
    obtain ⟨hp1, hp2⟩ := qq_isThere (fun h => c2 (er1.trans h))
    refine lv_iload_n hx hb d_Q_page_8 rfl (lv_at hl 2 rfl) ?_
    refine lv_bipush (v := 8) hx hb d_Q_page_9 (by decide) ?_
    refine wl_goi1 (cf := qw_C cI cZ ad) (r := k_Q_in k (8 : Int32)) hS hA X.2.2.2.2.2.2 (wl_runS (As := [.int k, .int (8 : Int32)]) (rest := []) X hml hl.1 hP g_TT (c_Q_in hinj S0 k (8 : Int32) _) wv_Q_95 (na := 2) (by decide +kernel) rfl ⟨Nat.le_of_ble_eq_true rfl, Nat.le_of_ble_eq_true rfl⟩ rfl (Nat.le_of_ble_eq_true rfl) d_Q_page_11 ⟨Nat.le_refl _, Nat.le_refl _⟩) (fun r3 er3 H locs hP hS => ?_)
    refine lv_if_eq (tgt := 26) hx hb d_Q_page_14 (by decide) (fun c4 => ?_) (fun c4 => ?_)
    · skip
      refine lv_iconst (v := -1) hx hb d_Q_page_26 (by decide) ?_
      have hE : k_Q_page S0 p k w = (-1 : Int32) := by
        replace er3 := er3.symm
        subst er3
        replace er1 := er1.symm
        subst er1
        exact ((if_neg c2).trans ((if_pos c4).trans rfl))
      rw [hE]
      exact wl_iret X hsz hr hlocks hP hS d_Q_page_27
    · skip
      obtain ⟨hk1, hk2⟩ := qq_in 8 (fun h => c4 (er3.trans h)) rfl (by decide)
      refine lv_iload_n hx hb d_Q_page_17 rfl (lv_at hl 3 rfl) ?_
      refine lv_bipush (v := 6) hx hb d_Q_page_18 (by decide) ?_
      refine wl_goi1 (cf := qw_C cI cZ ad) (r := k_Q_in w (6 : Int32)) hS hA X.2.2.2.2.2.2 (wl_runS (As := [.int w, .int (6 : Int32)]) (rest := []) X hml hl.1 hP g_TT (c_Q_in hinj S0 w (6 : Int32) _) wv_Q_95 (na := 2) (by decide +kernel) rfl ⟨Nat.le_of_ble_eq_true rfl, Nat.le_of_ble_eq_true rfl⟩ rfl (Nat.le_of_ble_eq_true rfl) d_Q_page_20 ⟨Nat.le_refl _, Nat.le_refl _⟩) (fun r5 er5 H locs hP hS => ?_)
      refine lv_if_ne (tgt := 28) hx hb d_Q_page_23 (by decide) (fun c6 => ?_) (fun c6 => ?_)
      · skip
        refine lv_aload_n hx hb d_Q_page_28 rfl (lv_at hl 0 rfl) ?_
        refine wl_get (v := .ref (ad 9)) X hP (i := 0) (by decide) (qw_cQ ) rfl i_Q 8 (by decide) lf_Q_34 rfl d_Q_page_29 ?_
        refine lv_bipush (v := 8) hx hb d_Q_page_32 (by decide) ?_
        refine lv_iload_n hx hb d_Q_page_34 rfl (lv_at hl 1 rfl) ?_
        refine lv_imul hx hb d_Q_page_35 ?_
        refine lv_iload_n hx hb d_Q_page_36 rfl (lv_at hl 2 rfl) ?_
        refine lv_iadd hx hb d_Q_page_37 ?_
        refine wl_iald X hP (i := 9) (by decide) 0 (qw_cpage ) rfl (j := ((8 * p.toNatClampNeg) + k.toNatClampNeg)) ((congr (congrArg (fun (a b : Int32) => a + b) (show (8 : Int32) * p = nI (8 * p.toNatClampNeg) from ((congr (congrArg (fun (a b : Int32) => a * b) (show (8 : Int32) = nI 8 from rfl)) (show p = nI p.toNatClampNeg from hp1)).trans (pk_mul 8 p.toNatClampNeg)))) (show k = nI k.toNatClampNeg from hk1)).trans (nI_add (8 * p.toNatClampNeg) k.toNatClampNeg)) (by omega) (by decide) d_Q_page_38 ?_
        refine lv_istore (lv' := [(4, .int (qw_pg (S0.2 9 0 ((8 * p.toNatClampNeg) + k.toNatClampNeg)))), (0, .ref (ad 0)), (1, .int p), (2, .int k), (3, .int w)]) hx hb d_Q_page_39 hl (by decide) rfl (fun ls hl => ?_)
        refine lv_iload_n hx hb d_Q_page_41 rfl (lv_at hl 4 rfl) ?_
        by_cases c7 : w = (0 : Int32)
        · refine wl_top c7 ?_
          refine lv_tableIn (tgt := 76) hx hb d_Q_page_42 (by decide) (by decide) rfl (by decide) ?_
          refine lv_iload hx hb d_Q_page_76 (lv_at hl 0 rfl) ?_
          refine lv_if_ge (tgt := 85) hx hb d_Q_page_78 (by decide) (fun c8 => ?_) (fun c8 => ?_)
          · skip
            refine lv_aload_n hx hb d_Q_page_85 rfl (lv_at hl 1 rfl) ?_
            refine wl_get (v := .ref (ad 13)) X hP (i := 0) (by decide) (qw_cQ ) rfl i_Q 12 (by decide) lf_Q_47 rfl d_Q_page_86 ?_
            refine lv_iload hx hb d_Q_page_89 (lv_at hl 0 rfl) ?_
            refine wl_iald X hP (i := 13) (by decide) 0 (qw_cframe ) rfl (j := (S0.2 9 0 ((8 * p.toNatClampNeg) + k.toNatClampNeg))) (qw_pg_ge c8).1 (qw_pg_ge c8).2 (by decide) d_Q_page_91 ?_
            refine lv_if_ge (tgt := 99) hx hb d_Q_page_92 (by decide) (fun c9 => ?_) (fun c9 => ?_)
            · skip
              refine lv_iconst (v := 1) hx hb d_Q_page_99 (by decide) ?_
              have hE : k_Q_page S0 p k w = (1 : Int32) := by
                replace er5 := er5.symm
                subst er5
                replace er3 := er3.symm
                subst er3
                replace er1 := er1.symm
                subst er1
                exact ((if_neg c2).trans ((if_neg c4).trans ((if_neg c6).trans ((if_pos c7).trans ((if_pos c8).trans ((if_pos c9).trans rfl))))))
              rw [hE]
              exact wl_iret X hsz hr hlocks hP hS d_Q_page_100
            · skip
              refine lv_iconst (v := 2) hx hb d_Q_page_95 (by decide) ?_
              refine lv_goto (tgt := 100) hx hb d_Q_page_96 (by decide) ?_
              have hE : k_Q_page S0 p k w = (2 : Int32) := by
                replace er5 := er5.symm
                subst er5
                replace er3 := er3.symm
                subst er3
                replace er1 := er1.symm
                subst er1
                exact ((if_neg c2).trans ((if_neg c4).trans ((if_neg c6).trans ((if_pos c7).trans ((if_pos c8).trans ((if_neg c9).trans rfl))))))
              rw [hE]
              exact wl_iret X hsz hr hlocks hP hS d_Q_page_100
          · skip
            refine lv_iconst (v := 0) hx hb d_Q_page_81 (by decide) ?_
            refine lv_goto (tgt := 100) hx hb d_Q_page_82 (by decide) ?_
            have hE : k_Q_page S0 p k w = (0 : Int32) := by
              replace er5 := er5.symm
              subst er5
              replace er3 := er3.symm
              subst er3
              replace er1 := er1.symm
              subst er1
              exact ((if_neg c2).trans ((if_neg c4).trans ((if_neg c6).trans ((if_pos c7).trans ((if_neg c8).trans rfl)))))
            rw [hE]
            exact wl_iret X hsz hr hlocks hP hS d_Q_page_100
        by_cases c10 : w = (1 : Int32)
        · refine wl_top c10 ?_
          refine lv_tableIn (tgt := 101) hx hb d_Q_page_42 (by decide) (by decide) rfl (by decide) ?_
          refine lv_iload hx hb d_Q_page_101 (lv_at hl 0 rfl) ?_
          refine lv_if_lt (tgt := 116) hx hb d_Q_page_103 (by decide) (fun c11 => ?_) (fun c11 => ?_)
          · skip
            refine lv_bipush (v := -2) hx hb d_Q_page_116 (by decide) ?_
            refine lv_goto (tgt := 128) hx hb d_Q_page_118 (by decide) ?_
            have hE : k_Q_page S0 p k w = (-2 : Int32) := by
              replace er5 := er5.symm
              subst er5
              replace er3 := er3.symm
              subst er3
              replace er1 := er1.symm
              subst er1
              exact ((if_neg c2).trans ((if_neg c4).trans ((if_neg c6).trans ((if_neg c7).trans ((if_pos c10).trans ((if_pos c11).trans rfl))))))
            rw [hE]
            exact wl_iret X hsz hr hlocks hP hS d_Q_page_128
          · skip
            refine lv_aload_n hx hb d_Q_page_106 rfl (lv_at hl 1 rfl) ?_
            refine wl_get (v := .ref (ad 13)) X hP (i := 0) (by decide) (qw_cQ ) rfl i_Q 12 (by decide) lf_Q_47 rfl d_Q_page_107 ?_
            refine lv_iload hx hb d_Q_page_110 (lv_at hl 0 rfl) ?_
            refine wl_iald X hP (i := 13) (by decide) 0 (qw_cframe ) rfl (j := (S0.2 9 0 ((8 * p.toNatClampNeg) + k.toNatClampNeg))) (qw_pg_in c11).1 (qw_pg_in c11).2 (by decide) d_Q_page_112 ?_
            refine lv_if_ge (tgt := 121) hx hb d_Q_page_113 (by decide) (fun c12 => ?_) (fun c12 => ?_)
            · skip
              refine lv_aload_n hx hb d_Q_page_121 rfl (lv_at hl 1 rfl) ?_
              refine wl_get (v := .ref (ad 13)) X hP (i := 0) (by decide) (qw_cQ ) rfl i_Q 12 (by decide) lf_Q_47 rfl d_Q_page_122 ?_
              refine lv_iload hx hb d_Q_page_125 (lv_at hl 0 rfl) ?_
              refine wl_iald X hP (i := 13) (by decide) 0 (qw_cframe ) rfl (j := (S0.2 9 0 ((8 * p.toNatClampNeg) + k.toNatClampNeg))) (qw_pg_in c11).1 (qw_pg_in c11).2 (by decide) d_Q_page_127 ?_
              have hE : k_Q_page S0 p k w = S0.1 13 0 (S0.2 9 0 ((8 * p.toNatClampNeg) + k.toNatClampNeg)) := by
                replace er5 := er5.symm
                subst er5
                replace er3 := er3.symm
                subst er3
                replace er1 := er1.symm
                subst er1
                exact ((if_neg c2).trans ((if_neg c4).trans ((if_neg c6).trans ((if_neg c7).trans ((if_pos c10).trans ((if_neg c11).trans ((if_pos c12).trans rfl)))))))
              rw [hE]
              exact wl_iret X hsz hr hlocks hP hS d_Q_page_128
            · skip
              refine lv_bipush (v := -2) hx hb d_Q_page_116 (by decide) ?_
              refine lv_goto (tgt := 128) hx hb d_Q_page_118 (by decide) ?_
              have hE : k_Q_page S0 p k w = (-2 : Int32) := by
                replace er5 := er5.symm
                subst er5
                replace er3 := er3.symm
                subst er3
                replace er1 := er1.symm
                subst er1
                exact ((if_neg c2).trans ((if_neg c4).trans ((if_neg c6).trans ((if_neg c7).trans ((if_pos c10).trans ((if_neg c11).trans ((if_neg c12).trans rfl)))))))
              rw [hE]
              exact wl_iret X hsz hr hlocks hP hS d_Q_page_128
        by_cases c13 : w = (2 : Int32)
        · refine wl_top c13 ?_
          refine lv_tableIn (tgt := 129) hx hb d_Q_page_42 (by decide) (by decide) rfl (by decide) ?_
          refine lv_iload hx hb d_Q_page_129 (lv_at hl 0 rfl) ?_
          refine lv_if_lt (tgt := 144) hx hb d_Q_page_131 (by decide) (fun c14 => ?_) (fun c14 => ?_)
          · skip
            refine lv_bipush (v := -2) hx hb d_Q_page_144 (by decide) ?_
            refine lv_goto (tgt := 156) hx hb d_Q_page_146 (by decide) ?_
            have hE : k_Q_page S0 p k w = (-2 : Int32) := by
              replace er5 := er5.symm
              subst er5
              replace er3 := er3.symm
              subst er3
              replace er1 := er1.symm
              subst er1
              exact ((if_neg c2).trans ((if_neg c4).trans ((if_neg c6).trans ((if_neg c7).trans ((if_neg c10).trans ((if_pos c13).trans ((if_pos c14).trans rfl)))))))
            rw [hE]
            exact wl_iret X hsz hr hlocks hP hS d_Q_page_156
          · skip
            refine lv_aload_n hx hb d_Q_page_134 rfl (lv_at hl 1 rfl) ?_
            refine wl_get (v := .ref (ad 14)) X hP (i := 0) (by decide) (qw_cQ ) rfl i_Q 13 (by decide) lf_Q_50 rfl d_Q_page_135 ?_
            refine lv_iload hx hb d_Q_page_138 (lv_at hl 0 rfl) ?_
            refine wl_iald X hP (i := 14) (by decide) 0 (qw_cslot ) rfl (j := (S0.2 9 0 ((8 * p.toNatClampNeg) + k.toNatClampNeg))) (qw_pg_in c14).1 (qw_pg_in c14).2 (by decide) d_Q_page_140 ?_
            refine lv_if_ge (tgt := 149) hx hb d_Q_page_141 (by decide) (fun c15 => ?_) (fun c15 => ?_)
            · skip
              refine lv_aload_n hx hb d_Q_page_149 rfl (lv_at hl 1 rfl) ?_
              refine wl_get (v := .ref (ad 14)) X hP (i := 0) (by decide) (qw_cQ ) rfl i_Q 13 (by decide) lf_Q_50 rfl d_Q_page_150 ?_
              refine lv_iload hx hb d_Q_page_153 (lv_at hl 0 rfl) ?_
              refine wl_iald X hP (i := 14) (by decide) 0 (qw_cslot ) rfl (j := (S0.2 9 0 ((8 * p.toNatClampNeg) + k.toNatClampNeg))) (qw_pg_in c14).1 (qw_pg_in c14).2 (by decide) d_Q_page_155 ?_
              have hE : k_Q_page S0 p k w = S0.1 14 0 (S0.2 9 0 ((8 * p.toNatClampNeg) + k.toNatClampNeg)) := by
                replace er5 := er5.symm
                subst er5
                replace er3 := er3.symm
                subst er3
                replace er1 := er1.symm
                subst er1
                exact ((if_neg c2).trans ((if_neg c4).trans ((if_neg c6).trans ((if_neg c7).trans ((if_neg c10).trans ((if_pos c13).trans ((if_neg c14).trans ((if_pos c15).trans rfl))))))))
              rw [hE]
              exact wl_iret X hsz hr hlocks hP hS d_Q_page_156
            · skip
              refine lv_bipush (v := -2) hx hb d_Q_page_144 (by decide) ?_
              refine lv_goto (tgt := 156) hx hb d_Q_page_146 (by decide) ?_
              have hE : k_Q_page S0 p k w = (-2 : Int32) := by
                replace er5 := er5.symm
                subst er5
                replace er3 := er3.symm
                subst er3
                replace er1 := er1.symm
                subst er1
                exact ((if_neg c2).trans ((if_neg c4).trans ((if_neg c6).trans ((if_neg c7).trans ((if_neg c10).trans ((if_pos c13).trans ((if_neg c14).trans ((if_neg c15).trans rfl))))))))
              rw [hE]
              exact wl_iret X hsz hr hlocks hP hS d_Q_page_156
        by_cases c16 : w = (3 : Int32)
        · refine wl_top c16 ?_
          refine lv_tableIn (tgt := 157) hx hb d_Q_page_42 (by decide) (by decide) rfl (by decide) ?_
          refine lv_iload hx hb d_Q_page_157 (lv_at hl 0 rfl) ?_
          refine lv_if_lt (tgt := 176) hx hb d_Q_page_159 (by decide) (fun c17 => ?_) (fun c17 => ?_)
          · skip
            refine lv_iconst (v := 0) hx hb d_Q_page_176 (by decide) ?_
            have hE : k_Q_page S0 p k w = (0 : Int32) := by
              replace er5 := er5.symm
              subst er5
              replace er3 := er3.symm
              subst er3
              replace er1 := er1.symm
              subst er1
              exact ((if_neg c2).trans ((if_neg c4).trans ((if_neg c6).trans ((if_neg c7).trans ((if_neg c10).trans ((if_neg c13).trans ((if_pos c16).trans ((if_pos c17).trans rfl))))))))
            rw [hE]
            exact wl_iret X hsz hr hlocks hP hS d_Q_page_177
          · skip
            refine lv_aload_n hx hb d_Q_page_162 rfl (lv_at hl 1 rfl) ?_
            refine wl_get (v := .ref (ad 11)) X hP (i := 0) (by decide) (qw_cQ ) rfl i_Q 10 (by decide) lf_Q_41 rfl d_Q_page_163 ?_
            refine lv_iload hx hb d_Q_page_166 (lv_at hl 0 rfl) ?_
            refine wl_zald X hP (i := 11) (by decide) 1 (qw_cused ) rfl (j := (S0.2 9 0 ((8 * p.toNatClampNeg) + k.toNatClampNeg))) (qw_pg_in c17).1 (qw_pg_in c17).2 (by decide) d_Q_page_168 ?_
            refine lv_if_eq (tgt := 176) hx hb d_Q_page_169 (by decide) (fun c18 => ?_) (fun c18 => ?_)
            · skip
              refine lv_iconst (v := 0) hx hb d_Q_page_176 (by decide) ?_
              have hE : k_Q_page S0 p k w = (0 : Int32) := by
                replace er5 := er5.symm
                subst er5
                replace er3 := er3.symm
                subst er3
                replace er1 := er1.symm
                subst er1
                exact ((if_neg c2).trans ((if_neg c4).trans ((if_neg c6).trans ((if_neg c7).trans ((if_neg c10).trans ((if_neg c13).trans ((if_pos c16).trans ((if_neg c17).trans ((if_pos c18).trans rfl)))))))))
              rw [hE]
              exact wl_iret X hsz hr hlocks hP hS d_Q_page_177
            · skip
              refine lv_iconst (v := 1) hx hb d_Q_page_172 (by decide) ?_
              refine lv_goto (tgt := 177) hx hb d_Q_page_173 (by decide) ?_
              have hE : k_Q_page S0 p k w = (1 : Int32) := by
                replace er5 := er5.symm
                subst er5
                replace er3 := er3.symm
                subst er3
                replace er1 := er1.symm
                subst er1
                exact ((if_neg c2).trans ((if_neg c4).trans ((if_neg c6).trans ((if_neg c7).trans ((if_neg c10).trans ((if_neg c13).trans ((if_pos c16).trans ((if_neg c17).trans ((if_neg c18).trans rfl)))))))))
              rw [hE]
              exact wl_iret X hsz hr hlocks hP hS d_Q_page_177
        by_cases c19 : w = (4 : Int32)
        · refine wl_top c19 ?_
          refine lv_tableIn (tgt := 178) hx hb d_Q_page_42 (by decide) (by decide) rfl (by decide) ?_
          refine lv_iload hx hb d_Q_page_178 (lv_at hl 0 rfl) ?_
          refine lv_if_lt (tgt := 197) hx hb d_Q_page_180 (by decide) (fun c20 => ?_) (fun c20 => ?_)
          · skip
            refine lv_iconst (v := 0) hx hb d_Q_page_197 (by decide) ?_
            have hE : k_Q_page S0 p k w = (0 : Int32) := by
              replace er5 := er5.symm
              subst er5
              replace er3 := er3.symm
              subst er3
              replace er1 := er1.symm
              subst er1
              exact ((if_neg c2).trans ((if_neg c4).trans ((if_neg c6).trans ((if_neg c7).trans ((if_neg c10).trans ((if_neg c13).trans ((if_neg c16).trans ((if_pos c19).trans ((if_pos c20).trans rfl)))))))))
            rw [hE]
            exact wl_iret X hsz hr hlocks hP hS d_Q_page_198
          · skip
            refine lv_aload_n hx hb d_Q_page_183 rfl (lv_at hl 1 rfl) ?_
            refine wl_get (v := .ref (ad 12)) X hP (i := 0) (by decide) (qw_cQ ) rfl i_Q 11 (by decide) lf_Q_44 rfl d_Q_page_184 ?_
            refine lv_iload hx hb d_Q_page_187 (lv_at hl 0 rfl) ?_
            refine wl_zald X hP (i := 12) (by decide) 1 (qw_cchanged ) rfl (j := (S0.2 9 0 ((8 * p.toNatClampNeg) + k.toNatClampNeg))) (qw_pg_in c20).1 (qw_pg_in c20).2 (by decide) d_Q_page_189 ?_
            refine lv_if_eq (tgt := 197) hx hb d_Q_page_190 (by decide) (fun c21 => ?_) (fun c21 => ?_)
            · skip
              refine lv_iconst (v := 0) hx hb d_Q_page_197 (by decide) ?_
              have hE : k_Q_page S0 p k w = (0 : Int32) := by
                replace er5 := er5.symm
                subst er5
                replace er3 := er3.symm
                subst er3
                replace er1 := er1.symm
                subst er1
                exact ((if_neg c2).trans ((if_neg c4).trans ((if_neg c6).trans ((if_neg c7).trans ((if_neg c10).trans ((if_neg c13).trans ((if_neg c16).trans ((if_pos c19).trans ((if_neg c20).trans ((if_pos c21).trans rfl))))))))))
              rw [hE]
              exact wl_iret X hsz hr hlocks hP hS d_Q_page_198
            · skip
              refine lv_iconst (v := 1) hx hb d_Q_page_193 (by decide) ?_
              refine lv_goto (tgt := 198) hx hb d_Q_page_194 (by decide) ?_
              have hE : k_Q_page S0 p k w = (1 : Int32) := by
                replace er5 := er5.symm
                subst er5
                replace er3 := er3.symm
                subst er3
                replace er1 := er1.symm
                subst er1
                exact ((if_neg c2).trans ((if_neg c4).trans ((if_neg c6).trans ((if_neg c7).trans ((if_neg c10).trans ((if_neg c13).trans ((if_neg c16).trans ((if_pos c19).trans ((if_neg c20).trans ((if_neg c21).trans rfl))))))))))
              rw [hE]
              exact wl_iret X hsz hr hlocks hP hS d_Q_page_198
        refine lv_tableOut (tgt := 199) hx hb d_Q_page_42 (by have := lv_neT c7 (a := 0) rfl; have := lv_neT c10 (a := 1) rfl; have := lv_neT c13 (a := 2) rfl; have := lv_neT c16 (a := 3) rfl; have := lv_neT c19 (a := 4) rfl; omega) (by decide) ?_
        refine lv_iload hx hb d_Q_page_199 (lv_at hl 0 rfl) ?_
        refine lv_if_ge (tgt := 208) hx hb d_Q_page_201 (by decide) (fun c22 => ?_) (fun c22 => ?_)
        · skip
          refine lv_aload_n hx hb d_Q_page_208 rfl (lv_at hl 1 rfl) ?_
          refine lv_iload hx hb d_Q_page_209 (lv_at hl 0 rfl) ?_
          refine wl_goi1 (cf := qw_C cI cZ ad) (r := k_Q_sharers S0 (qw_pg (S0.2 9 0 ((8 * p.toNatClampNeg) + k.toNatClampNeg)))) hS hA X.2.2.2.2.2.2 (wl_runV (As := [.int (qw_pg (S0.2 9 0 ((8 * p.toNatClampNeg) + k.toNatClampNeg)))]) (rest := []) X hml hl.1 hP g_TT (c_Q_sharers hinj S0 (qw_pg (S0.2 9 0 ((8 * p.toNatClampNeg) + k.toNatClampNeg))) _) (by decide) (qw_cQ ) rfl wv_Q_66 (na := 1) (by decide +kernel) rfl ⟨Nat.le_of_ble_eq_true rfl, Nat.le_of_ble_eq_true rfl⟩ rfl (Nat.le_of_ble_eq_true rfl) d_Q_page_211 ⟨Nat.le_refl _, Nat.le_refl _⟩) (fun r23 er23 H locs hP hS => ?_)
          have hE : k_Q_page S0 p k w = r23 := by
            replace er23 := er23.symm
            subst er23
            replace er5 := er5.symm
            subst er5
            replace er3 := er3.symm
            subst er3
            replace er1 := er1.symm
            subst er1
            exact ((if_neg c2).trans ((if_neg c4).trans ((if_neg c6).trans ((if_neg c7).trans ((if_neg c10).trans ((if_neg c13).trans ((if_neg c16).trans ((if_neg c19).trans ((if_pos c22).trans rfl)))))))))
          rw [hE]
          exact wl_iret X hsz hr hlocks hP hS d_Q_page_214
        · skip
          refine lv_iconst (v := 0) hx hb d_Q_page_204 (by decide) ?_
          refine lv_goto (tgt := 214) hx hb d_Q_page_205 (by decide) ?_
          have hE : k_Q_page S0 p k w = (0 : Int32) := by
            replace er5 := er5.symm
            subst er5
            replace er3 := er3.symm
            subst er3
            replace er1 := er1.symm
            subst er1
            exact ((if_neg c2).trans ((if_neg c4).trans ((if_neg c6).trans ((if_neg c7).trans ((if_neg c10).trans ((if_neg c13).trans ((if_neg c16).trans ((if_neg c19).trans ((if_neg c22).trans rfl)))))))))
          rw [hE]
          exact wl_iret X hsz hr hlocks hP hS d_Q_page_214
      · skip
        refine lv_iconst (v := -1) hx hb d_Q_page_26 (by decide) ?_
        have hE : k_Q_page S0 p k w = (-1 : Int32) := by
          replace er5 := er5.symm
          subst er5
          replace er3 := er3.symm
          subst er3
          replace er1 := er1.symm
          subst er1
          exact ((if_neg c2).trans ((if_neg c4).trans ((if_pos c6).trans rfl)))
        rw [hE]
        exact wl_iret X hsz hr hlocks hP hS d_Q_page_27
def k_Q_printed (S0 : qw_S) (k : Int32) : Int32 :=
  let r1 := k_Q_in k (40 : Int32)
  if r1 = 0 then
    (0 : Int32)
  else
    S0.1 16 0 k.toNatClampNeg
set_option maxHeartbeats 4000000 in
set_option maxRecDepth 100000 in
theorem c_Q_printed {l : Launch} {D : va_G} {cI cZ : ClassId} {ad : Nat → Nat} (hinj : wl_inj 18 ad) (S0 : qw_S) (k : Int32) : wl_Mi l y_Q_printed (Cond.code y_Q_printed b_Q_printed 2 (some .int) :: TT) (rm_ 1) D classes (qw_ty cI cZ) 18 ad [.ref (ad 0), .int k] (qw_C cI cZ ad S0) (k_Q_printed S0 k) (qw_C cI cZ ad S0) := by
  intro sz
  refine wl_enter (own := R_Q) rfl (by decide) (Nat.le_of_ble_eq_true rfl) hinj (fun p_ e_ s_ m_ below meth c_ ls hsz X hml hr hlocks hl hP hS => ?_)
  have hx := X.1
  have hb := X.2.1
  have hA : ∀ q, s_.heap.size ≤ q → (wl_A 18 ad s_.heap.size) q := fun q h => Or.inr h
  have hl : lv_has ls 2 [(0, .ref (ad 0)), (1, .int k)] := hl
  refine lv_iload_n hx hb d_Q_printed_0 rfl (lv_at hl 1 rfl) ?_
  refine lv_bipush (v := 40) hx hb d_Q_printed_1 (by decide) ?_
  refine wl_goi1 (cf := qw_C cI cZ ad) (r := k_Q_in k (40 : Int32)) hS hA X.2.2.2.2.2.2 (wl_runS (As := [.int k, .int (40 : Int32)]) (rest := []) X hml hl.1 hP g_TT (c_Q_in hinj S0 k (40 : Int32) _) wv_Q_95 (na := 2) (by decide +kernel) rfl ⟨Nat.le_of_ble_eq_true rfl, Nat.le_of_ble_eq_true rfl⟩ rfl (Nat.le_of_ble_eq_true rfl) d_Q_printed_3 ⟨Nat.le_refl _, Nat.le_refl _⟩) (fun r1 er1 H locs hP hS => ?_)
  refine lv_if_eq (tgt := 18) hx hb d_Q_printed_6 (by decide) (fun c2 => ?_) (fun c2 => ?_)
  · skip
    refine lv_iconst (v := 0) hx hb d_Q_printed_18 (by decide) ?_
    have hE : k_Q_printed S0 k = (0 : Int32) := by
      replace er1 := er1.symm
      subst er1
      exact ((if_pos c2).trans rfl)
    rw [hE]
    exact wl_iret X hsz hr hlocks hP hS d_Q_printed_19
  · skip
    obtain ⟨hk1, hk2⟩ := qq_in 40 (fun h => c2 (er1.trans h)) rfl (by decide)
    refine lv_aload_n hx hb d_Q_printed_9 rfl (lv_at hl 0 rfl) ?_
    refine wl_get (v := .ref (ad 16)) X hP (i := 0) (by decide) (qw_cQ ) rfl i_Q 15 (by decide) lf_Q_56 rfl d_Q_printed_10 ?_
    refine lv_iload_n hx hb d_Q_printed_13 rfl (lv_at hl 1 rfl) ?_
    refine wl_iald X hP (i := 16) (by decide) 0 (qw_coutput ) rfl (j := k.toNatClampNeg) hk1 (by omega) (by decide) d_Q_printed_14 ?_
    refine lv_goto (tgt := 19) hx hb d_Q_printed_15 (by decide) ?_
    have hE : k_Q_printed S0 k = S0.1 16 0 k.toNatClampNeg := by
      replace er1 := er1.symm
      subst er1
      exact ((if_neg c2).trans rfl)
    rw [hE]
    exact wl_iret X hsz hr hlocks hP hS d_Q_printed_19
def k_Q_count_J174 (w : Int32) (S0 : qw_S) : Int32 :=
  let r1 := k_Q_in w (14 : Int32)
  if r1 = 0 then
    (-1 : Int32)
  else
    S0.1 17 0 w.toNatClampNeg
set_option maxHeartbeats 4000000 in
set_option maxRecDepth 100000 in
theorem c_Q_count_J174 {l : Launch} {D : va_G} {cI cZ : ClassId} {ad : Nat → Nat} {p_ : Program} {e_ : Env} {s_ : State} {m_ : MethodId} {args : Array Value} {below : List Frame} {meth : Method} {c_ : Code} {sz : Nat} (hinj : wl_inj 18 ad) (X : wl_X p_ s_ m_ args c_ b_Q_count R_Q TT D classes (qw_ty cI cZ) 18 ad (wl_A 18 ad s_.heap.size)) (hsz : s_.heap.size = sz) (hml : c_.maxLocals = 4) (hr : meth.sig.returnType = some .int) (hlocks : meth.locks = false) :
    ∀ (w : Int32) (S0 : qw_S) (H : Heap) (locs : List Loc) (ls : Array Slot), lv_has ls 4 [(0, .ref (ad 0)), (1, .int w)] → va_P D classes (wl_W 18 ad (qw_C cI cZ ad S0)) H → va_S (wl_A 18 ad s_.heap.size) s_.heap H locs → W p_ l e_ (rm_ 1) s_ m_ args below meth c_ H locs 0 0 (MQ below (wl_Qi D classes (qw_ty cI cZ) 18 ad (k_Q_count_J174 w S0) (qw_C cI cZ ad S0) sz) args s_ 0 0 (wl_A 18 ad sz)) (F0 m_ 174 ls []) := by
  have hx := X.1
  have hb := X.2.1
  have hA : ∀ q, s_.heap.size ≤ q → (wl_A 18 ad s_.heap.size) q := fun q h => Or.inr h
  intro w S0 H locs ls hl hP hS
  refine lv_iload_n hx hb d_Q_count_174 rfl (lv_at hl 1 rfl) ?_
  refine lv_bipush (v := 14) hx hb d_Q_count_175 (by decide) ?_
  refine wl_goi1 (cf := qw_C cI cZ ad) (r := k_Q_in w (14 : Int32)) hS hA X.2.2.2.2.2.2 (wl_runS (As := [.int w, .int (14 : Int32)]) (rest := []) X hml hl.1 hP g_TT (c_Q_in hinj S0 w (14 : Int32) _) wv_Q_95 (na := 2) (by decide +kernel) rfl ⟨Nat.le_of_ble_eq_true rfl, Nat.le_of_ble_eq_true rfl⟩ rfl (Nat.le_of_ble_eq_true rfl) d_Q_count_177 ⟨Nat.le_refl _, Nat.le_refl _⟩) (fun r1 er1 H locs hP hS => ?_)
  refine lv_if_eq (tgt := 192) hx hb d_Q_count_180 (by decide) (fun c2 => ?_) (fun c2 => ?_)
  · skip
    refine lv_iconst (v := -1) hx hb d_Q_count_192 (by decide) ?_
    have hE : k_Q_count_J174 w S0 = (-1 : Int32) := by
      replace er1 := er1.symm
      subst er1
      exact ((if_pos c2).trans rfl)
    rw [hE]
    exact wl_iret X hsz hr hlocks hP hS d_Q_count_193
  · skip
    obtain ⟨hk1, hk2⟩ := qq_in 14 (fun h => c2 (er1.trans h)) rfl (by decide)
    refine lv_aload_n hx hb d_Q_count_183 rfl (lv_at hl 0 rfl) ?_
    refine wl_get (v := .ref (ad 17)) X hP (i := 0) (by decide) (qw_cQ ) rfl i_Q 16 (by decide) lf_Q_59 rfl d_Q_count_184 ?_
    refine lv_iload_n hx hb d_Q_count_187 rfl (lv_at hl 1 rfl) ?_
    refine wl_iald X hP (i := 17) (by decide) 0 (qw_ccounts ) rfl (j := w.toNatClampNeg) hk1 (by omega) (by decide) d_Q_count_188 ?_
    refine lv_goto (tgt := 193) hx hb d_Q_count_189 (by decide) ?_
    have hE : k_Q_count_J174 w S0 = S0.1 17 0 w.toNatClampNeg := by
      replace er1 := er1.symm
      subst er1
      exact ((if_neg c2).trans rfl)
    rw [hE]
    exact wl_iret X hsz hr hlocks hP hS d_Q_count_193
def k_Q_count_L139 : Nat → Nat → Int32 → qw_S → Int32
  | 0, i, n, S0 =>
    n
  | i_n + 1, i, n, S0 =>
    let r102 := k_Q_isSlot S0 (nI i)
    if r102 = 0 then
      k_Q_count_L139 i_n (i + 1) n S0
    else
      let x104 := n + Int32.ofInt (1)
      k_Q_count_L139 i_n (i + 1) x104 S0
set_option maxHeartbeats 4000000 in
set_option maxRecDepth 100000 in
theorem c_Q_count_L139 {l : Launch} {D : va_G} {cI cZ : ClassId} {ad : Nat → Nat} {p_ : Program} {e_ : Env} {s_ : State} {m_ : MethodId} {args : Array Value} {below : List Frame} {meth : Method} {c_ : Code} {sz : Nat} (hinj : wl_inj 18 ad) (X : wl_X p_ s_ m_ args c_ b_Q_count R_Q TT D classes (qw_ty cI cZ) 18 ad (wl_A 18 ad s_.heap.size)) (hsz : s_.heap.size = sz) (hml : c_.maxLocals = 4) (hr : meth.sig.returnType = some .int) (hlocks : meth.locks = false) :
    ∀ (i_n i : Nat) (n : Int32) (S0 : qw_S) (h_i : i + i_n = 32) (H : Heap) (locs : List Loc) (ls : Array Slot), lv_has ls 4 [(0, .ref (ad 0)), (2, .int n), (3, .int (nI i))] → va_P D classes (wl_W 18 ad (qw_C cI cZ ad S0)) H → va_S (wl_A 18 ad s_.heap.size) s_.heap H locs → W p_ l e_ (rm_ 1) s_ m_ args below meth c_ H locs 0 0 (MQ below (wl_Qi D classes (qw_ty cI cZ) 18 ad (k_Q_count_L139 i_n i n S0) (qw_C cI cZ ad S0) sz) args s_ 0 0 (wl_A 18 ad sz)) (F0 m_ 139 ls []) := by
  have hx := X.1
  have hb := X.2.1
  have hA : ∀ q, s_.heap.size ≤ q → (wl_A 18 ad s_.heap.size) q := fun q h => Or.inr h
  intro i_n
  induction i_n with
  | zero =>
    intro i n S0 h_i H locs ls hl hP hS
    refine lv_iload_n hx hb d_Q_count_139 rfl (lv_at hl 2 rfl) ?_
    refine lv_bipush (v := 32) hx hb d_Q_count_140 (by decide) ?_
    refine lv_icmp_ge (tgt := 162) hx hb d_Q_count_142 (by decide) (fun c1 => ?_) (fun c1 => ?_)
    · skip
      refine lv_iload_n hx hb d_Q_count_162 rfl (lv_at hl 1 rfl) ?_
      have hE : k_Q_count_L139 0 i n S0 = n := by
        exact rfl
      rw [hE]
      exact wl_iret X hsz hr hlocks hP hS d_Q_count_163
    · exact absurd (sk_lhz h_i) c1
  | succ i_n ih =>
    intro i n S0 h_i H locs ls hl hP hS
    refine lv_iload_n hx hb d_Q_count_139 rfl (lv_at hl 2 rfl) ?_
    refine lv_bipush (v := 32) hx hb d_Q_count_140 (by decide) ?_
    refine lv_icmp_ge (tgt := 162) hx hb d_Q_count_142 (by decide) (fun c101 => ?_) (fun c101 => ?_)
    · exact absurd c101 (sk_lhs h_i)
    · skip
      refine lv_aload_n hx hb d_Q_count_145 rfl (lv_at hl 0 rfl) ?_
      refine lv_iload_n hx hb d_Q_count_146 rfl (lv_at hl 2 rfl) ?_
      refine wl_goi1 (cf := qw_C cI cZ ad) (r := k_Q_isSlot S0 (nI i)) hS hA X.2.2.2.2.2.2 (wl_runV (As := [.int (nI i)]) (rest := []) X hml hl.1 hP g_TT (c_Q_isSlot hinj S0 (nI i) _) (by decide) (qw_cQ ) rfl wv_Q_70 (na := 1) (by decide +kernel) rfl ⟨Nat.le_of_ble_eq_true rfl, Nat.le_of_ble_eq_true rfl⟩ rfl (Nat.le_of_ble_eq_true rfl) d_Q_count_147 ⟨Nat.le_refl _, Nat.le_refl _⟩) (fun r102 er102 H locs hP hS => ?_)
      refine lv_if_eq (tgt := 156) hx hb d_Q_count_150 (by decide) (fun c103 => ?_) (fun c103 => ?_)
      · skip
        refine lv_iinc (v := nI (i + 1)) (lv' := [(3, .int (nI (i + 1))), (0, .ref (ad 0)), (2, .int n)]) hx hb d_Q_count_156 hl (k := 2) rfl (nI_1 _) (by decide) rfl (fun ls hl => ?_)
        refine lv_goto (tgt := 139) hx hb d_Q_count_159 (by decide) ?_
        have hE : k_Q_count_L139 (i_n + 1) i n S0 = k_Q_count_L139 i_n (i + 1) n S0 := by
          replace er102 := er102.symm
          subst er102
          exact ((if_pos c103).trans rfl)
        rw [hE]
        exact ih (i + 1) n S0 (by omega) _ _ _ (lv_sub hl [1, 2, 0] rfl) hP hS
      · skip
        obtain ⟨x104, ex104⟩ : ∃ z : Int32, z = n + Int32.ofInt (1) := ⟨_, rfl⟩
        refine lv_iinc (v := x104) (lv' := [(2, .int x104), (0, .ref (ad 0)), (3, .int (nI i))]) hx hb d_Q_count_153 hl (k := 1) rfl (ex104.symm) (by decide) rfl (fun ls hl => ?_)
        refine lv_iinc (v := nI (i + 1)) (lv' := [(3, .int (nI (i + 1))), (2, .int x104), (0, .ref (ad 0))]) hx hb d_Q_count_156 hl (k := 2) rfl (nI_1 _) (by decide) rfl (fun ls hl => ?_)
        refine lv_goto (tgt := 139) hx hb d_Q_count_159 (by decide) ?_
        have hE : k_Q_count_L139 (i_n + 1) i n S0 = k_Q_count_L139 i_n (i + 1) x104 S0 := by
          replace ex104 := ex104.symm
          subst ex104
          replace er102 := er102.symm
          subst er102
          exact ((if_neg c103).trans rfl)
        rw [hE]
        exact ih (i + 1) x104 S0 (by omega) _ _ _ (lv_sub hl [2, 1, 0] rfl) hP hS
def k_Q_count_L112 : Nat → Nat → Int32 → qw_S → Int32
  | 0, i, n, S0 =>
    n
  | i_n + 1, i, n, S0 =>
    let r102 := k_Q_inFrame S0 (nI i)
    if r102 < 0 then
      k_Q_count_L112 i_n (i + 1) n S0
    else
      let x104 := n + Int32.ofInt (1)
      k_Q_count_L112 i_n (i + 1) x104 S0
set_option maxHeartbeats 4000000 in
set_option maxRecDepth 100000 in
theorem c_Q_count_L112 {l : Launch} {D : va_G} {cI cZ : ClassId} {ad : Nat → Nat} {p_ : Program} {e_ : Env} {s_ : State} {m_ : MethodId} {args : Array Value} {below : List Frame} {meth : Method} {c_ : Code} {sz : Nat} (hinj : wl_inj 18 ad) (X : wl_X p_ s_ m_ args c_ b_Q_count R_Q TT D classes (qw_ty cI cZ) 18 ad (wl_A 18 ad s_.heap.size)) (hsz : s_.heap.size = sz) (hml : c_.maxLocals = 4) (hr : meth.sig.returnType = some .int) (hlocks : meth.locks = false) :
    ∀ (i_n i : Nat) (n : Int32) (S0 : qw_S) (h_i : i + i_n = 6) (H : Heap) (locs : List Loc) (ls : Array Slot), lv_has ls 4 [(0, .ref (ad 0)), (2, .int n), (3, .int (nI i))] → va_P D classes (wl_W 18 ad (qw_C cI cZ ad S0)) H → va_S (wl_A 18 ad s_.heap.size) s_.heap H locs → W p_ l e_ (rm_ 1) s_ m_ args below meth c_ H locs 0 0 (MQ below (wl_Qi D classes (qw_ty cI cZ) 18 ad (k_Q_count_L112 i_n i n S0) (qw_C cI cZ ad S0) sz) args s_ 0 0 (wl_A 18 ad sz)) (F0 m_ 112 ls []) := by
  have hx := X.1
  have hb := X.2.1
  have hA : ∀ q, s_.heap.size ≤ q → (wl_A 18 ad s_.heap.size) q := fun q h => Or.inr h
  intro i_n
  induction i_n with
  | zero =>
    intro i n S0 h_i H locs ls hl hP hS
    refine lv_iload_n hx hb d_Q_count_112 rfl (lv_at hl 2 rfl) ?_
    refine lv_bipush (v := 6) hx hb d_Q_count_113 (by decide) ?_
    refine lv_icmp_ge (tgt := 135) hx hb d_Q_count_115 (by decide) (fun c1 => ?_) (fun c1 => ?_)
    · skip
      refine lv_iload_n hx hb d_Q_count_135 rfl (lv_at hl 1 rfl) ?_
      have hE : k_Q_count_L112 0 i n S0 = n := by
        exact rfl
      rw [hE]
      exact wl_iret X hsz hr hlocks hP hS d_Q_count_136
    · exact absurd (sk_lhz h_i) c1
  | succ i_n ih =>
    intro i n S0 h_i H locs ls hl hP hS
    refine lv_iload_n hx hb d_Q_count_112 rfl (lv_at hl 2 rfl) ?_
    refine lv_bipush (v := 6) hx hb d_Q_count_113 (by decide) ?_
    refine lv_icmp_ge (tgt := 135) hx hb d_Q_count_115 (by decide) (fun c101 => ?_) (fun c101 => ?_)
    · exact absurd c101 (sk_lhs h_i)
    · skip
      refine lv_aload_n hx hb d_Q_count_118 rfl (lv_at hl 0 rfl) ?_
      refine lv_iload_n hx hb d_Q_count_119 rfl (lv_at hl 2 rfl) ?_
      refine wl_goi1 (cf := qw_C cI cZ ad) (r := k_Q_inFrame S0 (nI i)) hS hA X.2.2.2.2.2.2 (wl_runV (As := [.int (nI i)]) (rest := []) X hml hl.1 hP g_TT (c_Q_inFrame hinj S0 (nI i) _) (by decide) (qw_cQ ) rfl wv_Q_74 (na := 1) (by decide +kernel) rfl ⟨Nat.le_of_ble_eq_true rfl, Nat.le_of_ble_eq_true rfl⟩ rfl (Nat.le_of_ble_eq_true rfl) d_Q_count_120 ⟨Nat.le_refl _, Nat.le_refl _⟩) (fun r102 er102 H locs hP hS => ?_)
      refine lv_if_lt (tgt := 129) hx hb d_Q_count_123 (by decide) (fun c103 => ?_) (fun c103 => ?_)
      · skip
        refine lv_iinc (v := nI (i + 1)) (lv' := [(3, .int (nI (i + 1))), (0, .ref (ad 0)), (2, .int n)]) hx hb d_Q_count_129 hl (k := 2) rfl (nI_1 _) (by decide) rfl (fun ls hl => ?_)
        refine lv_goto (tgt := 112) hx hb d_Q_count_132 (by decide) ?_
        have hE : k_Q_count_L112 (i_n + 1) i n S0 = k_Q_count_L112 i_n (i + 1) n S0 := by
          replace er102 := er102.symm
          subst er102
          exact ((if_pos c103).trans rfl)
        rw [hE]
        exact ih (i + 1) n S0 (by omega) _ _ _ (lv_sub hl [1, 2, 0] rfl) hP hS
      · skip
        obtain ⟨x104, ex104⟩ : ∃ z : Int32, z = n + Int32.ofInt (1) := ⟨_, rfl⟩
        refine lv_iinc (v := x104) (lv' := [(2, .int x104), (0, .ref (ad 0)), (3, .int (nI i))]) hx hb d_Q_count_126 hl (k := 1) rfl (ex104.symm) (by decide) rfl (fun ls hl => ?_)
        refine lv_iinc (v := nI (i + 1)) (lv' := [(3, .int (nI (i + 1))), (2, .int x104), (0, .ref (ad 0))]) hx hb d_Q_count_129 hl (k := 2) rfl (nI_1 _) (by decide) rfl (fun ls hl => ?_)
        refine lv_goto (tgt := 112) hx hb d_Q_count_132 (by decide) ?_
        have hE : k_Q_count_L112 (i_n + 1) i n S0 = k_Q_count_L112 i_n (i + 1) x104 S0 := by
          replace ex104 := ex104.symm
          subst ex104
          replace er102 := er102.symm
          subst er102
          exact ((if_neg c103).trans rfl)
        rw [hE]
        exact ih (i + 1) x104 S0 (by omega) _ _ _ (lv_sub hl [2, 1, 0] rfl) hP hS
def k_Q_count_L75 : Nat → Nat → Int32 → qw_S → Int32
  | 0, i, n, S0 =>
    n
  | i_n + 1, i, n, S0 =>
    if (S0.1 1 0 i) = 0 then
      k_Q_count_L75 i_n (i + 1) n S0
    else
      let x103 := n + Int32.ofInt (1)
      k_Q_count_L75 i_n (i + 1) x103 S0
set_option maxHeartbeats 4000000 in
set_option maxRecDepth 100000 in
theorem c_Q_count_L75 {l : Launch} {D : va_G} {cI cZ : ClassId} {ad : Nat → Nat} {p_ : Program} {e_ : Env} {s_ : State} {m_ : MethodId} {args : Array Value} {below : List Frame} {meth : Method} {c_ : Code} {sz : Nat} (hinj : wl_inj 18 ad) (X : wl_X p_ s_ m_ args c_ b_Q_count R_Q TT D classes (qw_ty cI cZ) 18 ad (wl_A 18 ad s_.heap.size)) (hsz : s_.heap.size = sz) (hml : c_.maxLocals = 4) (hr : meth.sig.returnType = some .int) (hlocks : meth.locks = false) :
    ∀ (i_n i : Nat) (n : Int32) (S0 : qw_S) (h_i : i + i_n = 4) (H : Heap) (locs : List Loc) (ls : Array Slot), lv_has ls 4 [(0, .ref (ad 0)), (2, .int n), (3, .int (nI i))] → va_P D classes (wl_W 18 ad (qw_C cI cZ ad S0)) H → va_S (wl_A 18 ad s_.heap.size) s_.heap H locs → W p_ l e_ (rm_ 1) s_ m_ args below meth c_ H locs 0 0 (MQ below (wl_Qi D classes (qw_ty cI cZ) 18 ad (k_Q_count_L75 i_n i n S0) (qw_C cI cZ ad S0) sz) args s_ 0 0 (wl_A 18 ad sz)) (F0 m_ 75 ls []) := by
  have hx := X.1
  have hb := X.2.1
  have hA : ∀ q, s_.heap.size ≤ q → (wl_A 18 ad s_.heap.size) q := fun q h => Or.inr h
  intro i_n
  induction i_n with
  | zero =>
    intro i n S0 h_i H locs ls hl hP hS
    refine lv_iload_n hx hb d_Q_count_75 rfl (lv_at hl 2 rfl) ?_
    refine lv_iconst (v := 4) hx hb d_Q_count_76 (by decide) ?_
    refine lv_icmp_ge (tgt := 98) hx hb d_Q_count_77 (by decide) (fun c1 => ?_) (fun c1 => ?_)
    · skip
      refine lv_iload_n hx hb d_Q_count_98 rfl (lv_at hl 1 rfl) ?_
      have hE : k_Q_count_L75 0 i n S0 = n := by
        exact rfl
      rw [hE]
      exact wl_iret X hsz hr hlocks hP hS d_Q_count_99
    · exact absurd (sk_lhz h_i) c1
  | succ i_n ih =>
    intro i n S0 h_i H locs ls hl hP hS
    refine lv_iload_n hx hb d_Q_count_75 rfl (lv_at hl 2 rfl) ?_
    refine lv_iconst (v := 4) hx hb d_Q_count_76 (by decide) ?_
    refine lv_icmp_ge (tgt := 98) hx hb d_Q_count_77 (by decide) (fun c101 => ?_) (fun c101 => ?_)
    · exact absurd c101 (sk_lhs h_i)
    · skip
      refine lv_aload_n hx hb d_Q_count_80 rfl (lv_at hl 0 rfl) ?_
      refine wl_get (v := .ref (ad 1)) X hP (i := 0) (by decide) (qw_cQ ) rfl i_Q 0 (by decide) lf_Q_7 rfl d_Q_count_81 ?_
      refine lv_iload_n hx hb d_Q_count_84 rfl (lv_at hl 2 rfl) ?_
      refine wl_iald X hP (i := 1) (by decide) 0 (qw_cstate ) rfl (j := i) rfl (by omega) (by decide) d_Q_count_85 ?_
      refine lv_if_eq (tgt := 92) hx hb d_Q_count_86 (by decide) (fun c102 => ?_) (fun c102 => ?_)
      · skip
        refine lv_iinc (v := nI (i + 1)) (lv' := [(3, .int (nI (i + 1))), (0, .ref (ad 0)), (2, .int n)]) hx hb d_Q_count_92 hl (k := 2) rfl (nI_1 _) (by decide) rfl (fun ls hl => ?_)
        refine lv_goto (tgt := 75) hx hb d_Q_count_95 (by decide) ?_
        have hE : k_Q_count_L75 (i_n + 1) i n S0 = k_Q_count_L75 i_n (i + 1) n S0 := by
          exact ((if_pos c102).trans rfl)
        rw [hE]
        exact ih (i + 1) n S0 (by omega) _ _ _ (lv_sub hl [1, 2, 0] rfl) hP hS
      · skip
        obtain ⟨x103, ex103⟩ : ∃ z : Int32, z = n + Int32.ofInt (1) := ⟨_, rfl⟩
        refine lv_iinc (v := x103) (lv' := [(2, .int x103), (0, .ref (ad 0)), (3, .int (nI i))]) hx hb d_Q_count_89 hl (k := 1) rfl (ex103.symm) (by decide) rfl (fun ls hl => ?_)
        refine lv_iinc (v := nI (i + 1)) (lv' := [(3, .int (nI (i + 1))), (2, .int x103), (0, .ref (ad 0))]) hx hb d_Q_count_92 hl (k := 2) rfl (nI_1 _) (by decide) rfl (fun ls hl => ?_)
        refine lv_goto (tgt := 75) hx hb d_Q_count_95 (by decide) ?_
        have hE : k_Q_count_L75 (i_n + 1) i n S0 = k_Q_count_L75 i_n (i + 1) x103 S0 := by
          replace ex103 := ex103.symm
          subst ex103
          exact ((if_neg c102).trans rfl)
        rw [hE]
        exact ih (i + 1) x103 S0 (by omega) _ _ _ (lv_sub hl [2, 1, 0] rfl) hP hS
def k_Q_count (S0 : qw_S) (w : Int32) : Int32 :=
  if w = (0 : Int32) then
    S0.1 0 0 0
  else
    if w = (1 : Int32) then
      k_Q_count_L75 4 0 (0 : Int32) S0
    else
      if w = (2 : Int32) then
        nI ((S0.2 0 0 0) % 4)
      else
        if w = (3 : Int32) then
          S0.1 0 0 1
        else
          if w = (4 : Int32) then
            k_Q_count_L112 6 0 (0 : Int32) S0
          else
            if w = (5 : Int32) then
              k_Q_count_L139 32 0 (0 : Int32) S0
            else
              if w = (6 : Int32) then
                nI ((S0.2 0 0 1) % 6)
              else
                if w = (7 : Int32) then
                  k_Q_count_J174 w S0
                else
                  if w = (8 : Int32) then
                    k_Q_count_J174 w S0
                  else
                    if w = (9 : Int32) then
                      k_Q_count_J174 w S0
                    else
                      if w = (10 : Int32) then
                        k_Q_count_J174 w S0
                      else
                        if w = (11 : Int32) then
                          k_Q_count_J174 w S0
                        else
                          if w = (12 : Int32) then
                            nI (S0.2 0 0 2)
                          else
                            k_Q_count_J174 w S0
set_option maxHeartbeats 4000000 in
set_option maxRecDepth 100000 in
theorem c_Q_count {l : Launch} {D : va_G} {cI cZ : ClassId} {ad : Nat → Nat} (hinj : wl_inj 18 ad) (S0 : qw_S) (w : Int32) : wl_Mi l y_Q_count (Cond.code y_Q_count b_Q_count 4 (some .int) :: TT) (rm_ 1) D classes (qw_ty cI cZ) 18 ad [.ref (ad 0), .int w] (qw_C cI cZ ad S0) (k_Q_count S0 w) (qw_C cI cZ ad S0) := by
  intro sz
  refine wl_enter (own := R_Q) rfl (by decide) (Nat.le_of_ble_eq_true rfl) hinj (fun p_ e_ s_ m_ below meth c_ ls hsz X hml hr hlocks hl hP hS => ?_)
  have hx := X.1
  have hb := X.2.1
  have hA : ∀ q, s_.heap.size ≤ q → (wl_A 18 ad s_.heap.size) q := fun q h => Or.inr h
  have hl : lv_has ls 4 [(0, .ref (ad 0)), (1, .int w)] := hl
  refine lv_iconst (v := 0) hx hb d_Q_count_0 (by decide) ?_
  refine lv_istore_n (lv' := [(2, .int (0 : Int32)), (0, .ref (ad 0)), (1, .int w)]) hx hb d_Q_count_1 rfl hl (by decide) rfl (fun ls hl => ?_)
  refine lv_iload_n hx hb d_Q_count_2 rfl (lv_at hl 2 rfl) ?_
  by_cases c1 : w = (0 : Int32)
  · refine wl_top c1 ?_
    refine lv_tableIn (tgt := 68) hx hb d_Q_count_3 (by decide) (by decide) rfl (by decide) ?_
    refine lv_aload_n hx hb d_Q_count_68 rfl (lv_at hl 1 rfl) ?_
    refine wl_get (v := .int (S0.1 0 0 0)) X hP (i := 0) (by decide) (qw_cQ ) rfl i_Q 17 (by decide) lf_Q_123 rfl d_Q_count_69 ?_
    have hE : k_Q_count S0 w = S0.1 0 0 0 := by
      exact ((if_pos c1).trans rfl)
    rw [hE]
    exact wl_iret X hsz hr hlocks hP hS d_Q_count_72
  by_cases c2 : w = (1 : Int32)
  · refine wl_top c2 ?_
    refine lv_tableIn (tgt := 73) hx hb d_Q_count_3 (by decide) (by decide) rfl (by decide) ?_
    refine lv_iconst (v := 0) hx hb d_Q_count_73 (by decide) ?_
    refine lv_istore_n (lv' := [(3, .int (0 : Int32)), (2, .int (0 : Int32)), (0, .ref (ad 0)), (1, .int w)]) hx hb d_Q_count_74 rfl hl (by decide) rfl (fun ls hl => ?_)
    have hE : k_Q_count S0 w = k_Q_count_L75 4 0 (0 : Int32) S0 := by
      exact ((if_neg c1).trans ((if_pos c2).trans rfl))
    rw [hE]
    exact c_Q_count_L75 hinj X hsz hml hr hlocks 4 0 (0 : Int32) S0 (by omega) _ _ _ (lv_sub hl [2, 1, 0] rfl) hP hS
  by_cases c3 : w = (2 : Int32)
  · refine wl_top c3 ?_
    refine lv_tableIn (tgt := 100) hx hb d_Q_count_3 (by decide) (by decide) rfl (by decide) ?_
    refine lv_aload_n hx hb d_Q_count_100 rfl (lv_at hl 1 rfl) ?_
    refine wl_get (v := .int (nI ((S0.2 0 0 0) % 4))) X hP (i := 0) (by decide) (qw_cQ ) rfl i_Q 18 (by decide) lf_Q_62 rfl d_Q_count_101 ?_
    have hE : k_Q_count S0 w = nI ((S0.2 0 0 0) % 4) := by
      exact ((if_neg c1).trans ((if_neg c2).trans ((if_pos c3).trans rfl)))
    rw [hE]
    exact wl_iret X hsz hr hlocks hP hS d_Q_count_104
  by_cases c4 : w = (3 : Int32)
  · refine wl_top c4 ?_
    refine lv_tableIn (tgt := 105) hx hb d_Q_count_3 (by decide) (by decide) rfl (by decide) ?_
    refine lv_aload_n hx hb d_Q_count_105 rfl (lv_at hl 1 rfl) ?_
    refine wl_get (v := .int (S0.1 0 0 1)) X hP (i := 0) (by decide) (qw_cQ ) rfl i_Q 19 (by decide) lf_Q_130 rfl d_Q_count_106 ?_
    have hE : k_Q_count S0 w = S0.1 0 0 1 := by
      exact ((if_neg c1).trans ((if_neg c2).trans ((if_neg c3).trans ((if_pos c4).trans rfl))))
    rw [hE]
    exact wl_iret X hsz hr hlocks hP hS d_Q_count_109
  by_cases c5 : w = (4 : Int32)
  · refine wl_top c5 ?_
    refine lv_tableIn (tgt := 110) hx hb d_Q_count_3 (by decide) (by decide) rfl (by decide) ?_
    refine lv_iconst (v := 0) hx hb d_Q_count_110 (by decide) ?_
    refine lv_istore_n (lv' := [(3, .int (0 : Int32)), (2, .int (0 : Int32)), (0, .ref (ad 0)), (1, .int w)]) hx hb d_Q_count_111 rfl hl (by decide) rfl (fun ls hl => ?_)
    have hE : k_Q_count S0 w = k_Q_count_L112 6 0 (0 : Int32) S0 := by
      exact ((if_neg c1).trans ((if_neg c2).trans ((if_neg c3).trans ((if_neg c4).trans ((if_pos c5).trans rfl)))))
    rw [hE]
    exact c_Q_count_L112 hinj X hsz hml hr hlocks 6 0 (0 : Int32) S0 (by omega) _ _ _ (lv_sub hl [2, 1, 0] rfl) hP hS
  by_cases c6 : w = (5 : Int32)
  · refine wl_top c6 ?_
    refine lv_tableIn (tgt := 137) hx hb d_Q_count_3 (by decide) (by decide) rfl (by decide) ?_
    refine lv_iconst (v := 0) hx hb d_Q_count_137 (by decide) ?_
    refine lv_istore_n (lv' := [(3, .int (0 : Int32)), (2, .int (0 : Int32)), (0, .ref (ad 0)), (1, .int w)]) hx hb d_Q_count_138 rfl hl (by decide) rfl (fun ls hl => ?_)
    have hE : k_Q_count S0 w = k_Q_count_L139 32 0 (0 : Int32) S0 := by
      exact ((if_neg c1).trans ((if_neg c2).trans ((if_neg c3).trans ((if_neg c4).trans ((if_neg c5).trans ((if_pos c6).trans rfl))))))
    rw [hE]
    exact c_Q_count_L139 hinj X hsz hml hr hlocks 32 0 (0 : Int32) S0 (by omega) _ _ _ (lv_sub hl [2, 1, 0] rfl) hP hS
  by_cases c7 : w = (6 : Int32)
  · refine wl_top c7 ?_
    refine lv_tableIn (tgt := 164) hx hb d_Q_count_3 (by decide) (by decide) rfl (by decide) ?_
    refine lv_aload_n hx hb d_Q_count_164 rfl (lv_at hl 1 rfl) ?_
    refine wl_get (v := .int (nI ((S0.2 0 0 1) % 6))) X hP (i := 0) (by decide) (qw_cQ ) rfl i_Q 20 (by decide) lf_Q_77 rfl d_Q_count_165 ?_
    have hE : k_Q_count S0 w = nI ((S0.2 0 0 1) % 6) := by
      exact ((if_neg c1).trans ((if_neg c2).trans ((if_neg c3).trans ((if_neg c4).trans ((if_neg c5).trans ((if_neg c6).trans ((if_pos c7).trans rfl)))))))
    rw [hE]
    exact wl_iret X hsz hr hlocks hP hS d_Q_count_168
  by_cases c8 : w = (7 : Int32)
  · refine wl_top c8 ?_
    refine lv_tableIn (tgt := 174) hx hb d_Q_count_3 (by decide) (by decide) rfl (by decide) ?_
    have hE : k_Q_count S0 w = k_Q_count_J174 w S0 := by
      exact ((if_neg c1).trans ((if_neg c2).trans ((if_neg c3).trans ((if_neg c4).trans ((if_neg c5).trans ((if_neg c6).trans ((if_neg c7).trans ((if_pos c8).trans rfl))))))))
    rw [hE]
    exact c_Q_count_J174 hinj X hsz hml hr hlocks w S0 _ _ _ (lv_sub hl [1, 2] rfl) hP hS
  by_cases c9 : w = (8 : Int32)
  · refine wl_top c9 ?_
    refine lv_tableIn (tgt := 174) hx hb d_Q_count_3 (by decide) (by decide) rfl (by decide) ?_
    have hE : k_Q_count S0 w = k_Q_count_J174 w S0 := by
      exact ((if_neg c1).trans ((if_neg c2).trans ((if_neg c3).trans ((if_neg c4).trans ((if_neg c5).trans ((if_neg c6).trans ((if_neg c7).trans ((if_neg c8).trans ((if_pos c9).trans rfl)))))))))
    rw [hE]
    exact c_Q_count_J174 hinj X hsz hml hr hlocks w S0 _ _ _ (lv_sub hl [1, 2] rfl) hP hS
  by_cases c10 : w = (9 : Int32)
  · refine wl_top c10 ?_
    refine lv_tableIn (tgt := 174) hx hb d_Q_count_3 (by decide) (by decide) rfl (by decide) ?_
    have hE : k_Q_count S0 w = k_Q_count_J174 w S0 := by
      exact ((if_neg c1).trans ((if_neg c2).trans ((if_neg c3).trans ((if_neg c4).trans ((if_neg c5).trans ((if_neg c6).trans ((if_neg c7).trans ((if_neg c8).trans ((if_neg c9).trans ((if_pos c10).trans rfl))))))))))
    rw [hE]
    exact c_Q_count_J174 hinj X hsz hml hr hlocks w S0 _ _ _ (lv_sub hl [1, 2] rfl) hP hS
  by_cases c11 : w = (10 : Int32)
  · refine wl_top c11 ?_
    refine lv_tableIn (tgt := 174) hx hb d_Q_count_3 (by decide) (by decide) rfl (by decide) ?_
    have hE : k_Q_count S0 w = k_Q_count_J174 w S0 := by
      exact ((if_neg c1).trans ((if_neg c2).trans ((if_neg c3).trans ((if_neg c4).trans ((if_neg c5).trans ((if_neg c6).trans ((if_neg c7).trans ((if_neg c8).trans ((if_neg c9).trans ((if_neg c10).trans ((if_pos c11).trans rfl)))))))))))
    rw [hE]
    exact c_Q_count_J174 hinj X hsz hml hr hlocks w S0 _ _ _ (lv_sub hl [1, 2] rfl) hP hS
  by_cases c12 : w = (11 : Int32)
  · refine wl_top c12 ?_
    refine lv_tableIn (tgt := 174) hx hb d_Q_count_3 (by decide) (by decide) rfl (by decide) ?_
    have hE : k_Q_count S0 w = k_Q_count_J174 w S0 := by
      exact ((if_neg c1).trans ((if_neg c2).trans ((if_neg c3).trans ((if_neg c4).trans ((if_neg c5).trans ((if_neg c6).trans ((if_neg c7).trans ((if_neg c8).trans ((if_neg c9).trans ((if_neg c10).trans ((if_neg c11).trans ((if_pos c12).trans rfl))))))))))))
    rw [hE]
    exact c_Q_count_J174 hinj X hsz hml hr hlocks w S0 _ _ _ (lv_sub hl [1, 2] rfl) hP hS
  by_cases c13 : w = (12 : Int32)
  · refine wl_top c13 ?_
    refine lv_tableIn (tgt := 169) hx hb d_Q_count_3 (by decide) (by decide) rfl (by decide) ?_
    refine lv_aload_n hx hb d_Q_count_169 rfl (lv_at hl 1 rfl) ?_
    refine wl_get (v := .int (nI (S0.2 0 0 2))) X hP (i := 0) (by decide) (qw_cQ ) rfl i_Q 21 (by decide) lf_Q_143 rfl d_Q_count_170 ?_
    have hE : k_Q_count S0 w = nI (S0.2 0 0 2) := by
      exact ((if_neg c1).trans ((if_neg c2).trans ((if_neg c3).trans ((if_neg c4).trans ((if_neg c5).trans ((if_neg c6).trans ((if_neg c7).trans ((if_neg c8).trans ((if_neg c9).trans ((if_neg c10).trans ((if_neg c11).trans ((if_neg c12).trans ((if_pos c13).trans rfl)))))))))))))
    rw [hE]
    exact wl_iret X hsz hr hlocks hP hS d_Q_count_173
  refine lv_tableOut (tgt := 174) hx hb d_Q_count_3 (by have := lv_neT c1 (a := 0) rfl; have := lv_neT c2 (a := 1) rfl; have := lv_neT c3 (a := 2) rfl; have := lv_neT c4 (a := 3) rfl; have := lv_neT c5 (a := 4) rfl; have := lv_neT c6 (a := 5) rfl; have := lv_neT c7 (a := 6) rfl; have := lv_neT c8 (a := 7) rfl; have := lv_neT c9 (a := 8) rfl; have := lv_neT c10 (a := 9) rfl; have := lv_neT c11 (a := 10) rfl; have := lv_neT c12 (a := 11) rfl; have := lv_neT c13 (a := 12) rfl; omega) (by decide) ?_
  have hE : k_Q_count S0 w = k_Q_count_J174 w S0 := by
    exact ((if_neg c1).trans ((if_neg c2).trans ((if_neg c3).trans ((if_neg c4).trans ((if_neg c5).trans ((if_neg c6).trans ((if_neg c7).trans ((if_neg c8).trans ((if_neg c9).trans ((if_neg c10).trans ((if_neg c11).trans ((if_neg c12).trans ((if_neg c13).trans rfl)))))))))))))
  rw [hE]
  exact c_Q_count_J174 hinj X hsz hml hr hlocks w S0 _ _ _ (lv_sub hl [1, 2] rfl) hP hS
