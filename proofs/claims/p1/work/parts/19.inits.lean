def rn_ (d c sl : Nat) : Room := { frames := d, cells := c, slots := sl, locals := 40 * d }
theorem wo_i : Cond.instanceMethod objectInit ∈ TT := mm_ (List.mem_append_right _ (List.mem_of_getElem? (l := tables_1) (i := 14) (by decide +kernel))) rfl
set_option maxRecDepth 20000 in
theorem wo_c : Cond.code objectInit ⟨#[0xb1]⟩ 1 none ∈ TT := mm_ (List.mem_append_right _ (List.mem_of_getElem? (l := tables_1) (i := 15) rfl)) rfl
theorem wo_K : Cond.methodLink R_K 3 objectInit ∈ TT := mm_ (List.mem_append_right _ (List.mem_of_getElem? (l := tables_1) (i := 13) (by decide +kernel))) rfl
theorem wo_M : Cond.methodLink R_M 3 objectInit ∈ TT := mm_ (List.mem_append_right _ (List.mem_of_getElem? (l := tables_1) (i := 23) (by decide +kernel))) rfl
theorem wo_E : Cond.methodLink R_E 3 objectInit ∈ TT := mm_ (List.mem_append_right _ (List.mem_of_getElem? (l := tables_1) (i := 30) (by decide +kernel))) rfl
theorem wo_T : Cond.methodLink R_T 3 objectInit ∈ TT := mm_ (List.mem_append_right _ (List.mem_of_getElem? (l := tables_1) (i := 95) (by decide +kernel))) rfl
theorem wo_Q : Cond.methodLink R_Q 1 objectInit ∈ TT := mm_ (List.mem_append_right _ (List.mem_of_getElem? (l := tables_1) (i := 343) (by decide +kernel))) rfl
theorem pin_0 {a z h sz c : Nat} (h0 : z = sz) (h1 : z ≤ h) (h2 : h ≤ z + c) (h3 : a = sz + 0) (hc : c = 0 := by rfl) : a = h := by omega
theorem pin_s {a b z h sz c k : Nat} (h0 : z = sz) (h2 : h ≤ z + c) (h4 : b < h) (h5 : b = sz + k) (h3 : a = sz + (k + 1)) (hc : c = k + 1 := by rfl) : a = h := by omega
theorem wk_K : Cond.instantiable R_K 10 ∈ TT := mm_ (List.mem_append_right _ (List.mem_of_getElem? (l := tables_1) (i := 9) (by decide +kernel))) rfl
theorem wk_M : Cond.instantiable R_M 8 ∈ TT := mm_ (List.mem_append_right _ (List.mem_of_getElem? (l := tables_1) (i := 19) (by decide +kernel))) rfl
theorem wk_T : Cond.instantiable R_T 9 ∈ TT := mm_ (List.mem_append_right _ (List.mem_of_getElem? (l := tables_1) (i := 91) (by decide +kernel))) rfl
theorem wk_E : Cond.instantiable R_E 6 ∈ TT := mm_ (List.mem_append_right _ (List.mem_of_getElem? (l := tables_1) (i := 26) (by decide +kernel))) rfl
theorem wk_Q : Cond.instantiable R_Q 23 ∈ TT := mm_ (List.mem_append_right _ (List.mem_of_getElem? (l := tables_1) (i := 339) (by decide +kernel))) rfl
theorem wa_I : Cond.arrayClass .int ∈ TT := mm_ (List.mem_append_right _ (List.mem_of_getElem? (l := tables_1) (i := 58) (by decide +kernel))) rfl
theorem wa_Z : Cond.arrayClass .boolean ∈ TT := mm_ (List.mem_append_right _ (List.mem_of_getElem? (l := tables_1) (i := 414) (by decide +kernel))) rfl
theorem wl_K_9 : Cond.classLink R_K 9 R_T ∈ TT := mm_ (List.mem_append_right _ (List.mem_of_getElem? (l := tables_1) (i := 16) (by decide +kernel))) rfl
theorem wl_K_15 : Cond.classLink R_K 15 R_M ∈ TT := mm_ (List.mem_append_right _ (List.mem_of_getElem? (l := tables_1) (i := 18) (by decide +kernel))) rfl
theorem wl_M_9 : Cond.classLink R_M 9 R_E ∈ TT := mm_ (List.mem_append_right _ (List.mem_of_getElem? (l := tables_1) (i := 24) (by decide +kernel))) rfl
theorem wl_T_15 : Cond.classLink R_T 15 R_E ∈ TT := mm_ (List.mem_append_right _ (List.mem_of_getElem? (l := tables_1) (i := 96) (by decide +kernel))) rfl
def qi_S : qw_S := (fun _ _ _ => 0, fun _ _ _ => 0)
def qi_ct (cI cZ : ClassId) (ad : Nat → Nat) (fs : List Value) : Nat → va_E := fun q => if q = 0 then .inr (4, fs) else qw_C cI cZ ad qi_S q
theorem qi_up {cI cZ : ClassId} {ad : Nat → Nat} {fs fs2 : List Value} (h : fs2 = fs) {n : Nat} : ∀ j, j < n → va_up (qi_ct cI cZ ad fs2) 0 (.inr (4, fs)) j = qi_ct cI cZ ad fs j := by
  subst h
  intro j _
  unfold va_up qi_ct
  by_cases h : j = 0
  · rw [if_pos h, if_pos h]
  · rw [if_neg h]
theorem qi_up2 {cI cZ : ClassId} {ad : Nat → Nat} {fs fs1 fs2 : List Value} (h : fs1 = fs2) {n : Nat} : ∀ j, j < n → va_up (qi_ct cI cZ ad fs) 0 (.inr (4, fs1)) j = qi_ct cI cZ ad fs2 j := by
  subst h
  intro j _
  unfold va_up qi_ct
  by_cases h : j = 0
  · rw [if_pos h, if_pos h]
  · simp only [if_neg h]
theorem qi_e1 {cI cZ : ClassId} {ad : Nat → Nat} {fs : List Value} : qi_ct cI cZ ad fs 1 = .inl (cI, 4, .inl (fun _ => 0)) := by
  unfold qi_ct
  rw [if_neg (by decide), qw_cstate]
  rfl
theorem qi_e2 {cI cZ : ClassId} {ad : Nat → Nat} {fs : List Value} : qi_ct cI cZ ad fs 2 = .inl (cI, 4, .inl (fun _ => 0)) := by
  unfold qi_ct
  rw [if_neg (by decide), qw_cplace]
  rfl
theorem qi_e3 {cI cZ : ClassId} {ad : Nat → Nat} {fs : List Value} : qi_ct cI cZ ad fs 3 = .inl (cI, 4, .inl (fun _ => 0)) := by
  unfold qi_ct
  rw [if_neg (by decide), qw_cparent]
  rfl
theorem qi_e4 {cI cZ : ClassId} {ad : Nat → Nat} {fs : List Value} : qi_ct cI cZ ad fs 4 = .inl (cI, 4, .inl (fun _ => 0)) := by
  unfold qi_ct
  rw [if_neg (by decide), qw_ccode]
  rfl
theorem qi_e5 {cI cZ : ClassId} {ad : Nat → Nat} {fs : List Value} : qi_ct cI cZ ad fs 5 = .inl (cI, 4, .inl (fun _ => 0)) := by
  unfold qi_ct
  rw [if_neg (by decide), qw_cwake]
  rfl
theorem qi_e6 {cI cZ : ClassId} {ad : Nat → Nat} {fs : List Value} : qi_ct cI cZ ad fs 6 = .inl (cI, 4, .inl (fun _ => 0)) := by
  unfold qi_ct
  rw [if_neg (by decide), qw_cfaults]
  rfl
theorem qi_e7 {cI cZ : ClassId} {ad : Nat → Nat} {fs : List Value} : qi_ct cI cZ ad fs 7 = .inl (cI, 4, .inl (fun _ => 0)) := by
  unfold qi_ct
  rw [if_neg (by decide), qw_cbegun]
  rfl
theorem qi_e8 {cI cZ : ClassId} {ad : Nat → Nat} {fs : List Value} : qi_ct cI cZ ad fs 8 = .inl (cI, 16, .inl (fun _ => 0)) := by
  unfold qi_ct
  rw [if_neg (by decide), qw_cregister]
  rfl
theorem qi_e9 {cI cZ : ClassId} {ad : Nat → Nat} {fs : List Value} : qi_ct cI cZ ad fs 9 = .inl (cI, 32, .inl (fun _ => 0)) := by
  unfold qi_ct
  rw [if_neg (by decide), qw_cpage]
  rfl
theorem qi_e10 {cI cZ : ClassId} {ad : Nat → Nat} {fs : List Value} : qi_ct cI cZ ad fs 10 = .inl (cZ, 34, .inl (fun _ => 0)) := by
  unfold qi_ct
  rw [if_neg (by decide), qw_cis]
  rfl
theorem qi_e11 {cI cZ : ClassId} {ad : Nat → Nat} {fs : List Value} : qi_ct cI cZ ad fs 11 = .inl (cZ, 34, .inl (fun _ => 0)) := by
  unfold qi_ct
  rw [if_neg (by decide), qw_cused]
  rfl
theorem qi_e12 {cI cZ : ClassId} {ad : Nat → Nat} {fs : List Value} : qi_ct cI cZ ad fs 12 = .inl (cZ, 34, .inl (fun _ => 0)) := by
  unfold qi_ct
  rw [if_neg (by decide), qw_cchanged]
  rfl
theorem qi_e13 {cI cZ : ClassId} {ad : Nat → Nat} {fs : List Value} : qi_ct cI cZ ad fs 13 = .inl (cI, 34, .inl (fun _ => 0)) := by
  unfold qi_ct
  rw [if_neg (by decide), qw_cframe]
  rfl
theorem qi_e14 {cI cZ : ClassId} {ad : Nat → Nat} {fs : List Value} : qi_ct cI cZ ad fs 14 = .inl (cI, 34, .inl (fun _ => 0)) := by
  unfold qi_ct
  rw [if_neg (by decide), qw_cslot]
  rfl
theorem qi_e15 {cI cZ : ClassId} {ad : Nat → Nat} {fs : List Value} : qi_ct cI cZ ad fs 15 = .inl (cI, 272, .inl (fun _ => 0)) := by
  unfold qi_ct
  rw [if_neg (by decide), qw_cword]
  rfl
theorem qi_e16 {cI cZ : ClassId} {ad : Nat → Nat} {fs : List Value} : qi_ct cI cZ ad fs 16 = .inl (cI, 40, .inl (fun _ => 0)) := by
  unfold qi_ct
  rw [if_neg (by decide), qw_coutput]
  rfl
theorem qi_e17 {cI cZ : ClassId} {ad : Nat → Nat} {fs : List Value} : qi_ct cI cZ ad fs 17 = .inl (cI, 14, .inl (fun _ => 0)) := by
  unfold qi_ct
  rw [if_neg (by decide), qw_ccounts]
  rfl
def qi_fill : Nat → Nat → qw_S → qw_S
  | 0, _, S => S
  | n + 1, i, S => qi_fill n (i + 1) (qw_sn S 9 0 i 34)
def qi_0 : qw_S := qi_fill 32 0 (qw_sn qi_S 0 0 0 3)
set_option maxHeartbeats 4000000 in
set_option maxRecDepth 100000 in
theorem c_Q_init_L {l : Launch} {D : va_G} {cI cZ : ClassId} {ad : Nat → Nat} {p_ : Program} {e_ : Env} {s_ : State} {m_ : MethodId} {args : Array Value} {below : List Frame} {meth : Method} {c_ : Code} {sz : Nat} (X : wl_X p_ s_ m_ args c_ b_Q_init R_Q TT D classes (qw_ty cI cZ) 18 ad (wl_A 1 ad s_.heap.size)) (hsz : s_.heap.size = sz) (hr : meth.sig.returnType = none) (hlocks : meth.locks = false) :
    ∀ (n i : Nat) (S0 : qw_S) (h_i : i + n = 32) (H : Heap) (locs : List Loc) (ls : Array Slot), lv_has ls 2 [(0, .ref (ad 0)), (1, .int (nI i))] → va_P D classes (wl_W 18 ad (qw_C cI cZ ad S0)) H → va_S (wl_A 1 ad s_.heap.size) s_.heap H locs → W p_ l e_ (rn_ 1 17 572) s_ m_ args below meth c_ H locs 17 572 (MQ below (wl_QvN D classes (qw_ty cI cZ) 1 ad 18 (qw_C cI cZ ad (qi_fill n i S0)) sz) args s_ 17 572 (wl_A 1 ad sz)) (F0 m_ 141 ls []) := by
  have hx := X.1
  have hb := X.2.1
  intro n
  induction n with
  | zero =>
    intro i S0 h_i H locs ls hl hP hS
    refine lv_iload_n hx hb d_Q_init_141 rfl (lv_at hl 1 rfl) ?_
    refine lv_bipush (v := 32) hx hb d_Q_init_142 (by decide) ?_
    refine lv_icmp_ge (tgt := 160) hx hb d_Q_init_144 (by decide) (fun c1 => ?_) (fun c1 => ?_)
    · exact wl_vretN X hsz hr hlocks hP hS (Nat.le_refl _) (Nat.le_refl _) d_Q_init_160
    · exact absurd (sk_lhz h_i) c1
  | succ n ih =>
    intro i S0 h_i H locs ls hl hP hS
    refine lv_iload_n hx hb d_Q_init_141 rfl (lv_at hl 1 rfl) ?_
    refine lv_bipush (v := 32) hx hb d_Q_init_142 (by decide) ?_
    refine lv_icmp_ge (tgt := 160) hx hb d_Q_init_144 (by decide) (fun c1 => ?_) (fun c1 => ?_)
    · exact absurd c1 (sk_lhs h_i)
    · refine lv_aload_n hx hb d_Q_init_147 rfl (lv_at hl 0 rfl) ?_
      refine wl_get (v := .ref (ad 9)) X hP (i := 0) (by decide) (qw_cQ ) rfl i_Q 8 (by decide) lf_Q_34 rfl d_Q_init_148 ?_
      refine lv_iload_n hx hb d_Q_init_151 rfl (lv_at hl 1 rfl) ?_
      refine lv_iconst (v := -1) hx hb d_Q_init_152 (by decide) ?_
      refine wl_iast X hP hS (i := 9) (by decide) 0 (qw_cpage ) rfl (j := i) rfl (by omega) (by decide) d_Q_init_153 (qw_ppage (x := 34) (by decide)) (fun H locs hP hS => ?_)
      refine lv_iinc (v := nI (i + 1)) (lv' := [(1, .int (nI (i + 1))), (0, .ref (ad 0))]) hx hb d_Q_init_154 hl (k := 1) rfl (nI_1 _) (by decide) rfl (fun ls hl => ?_)
      refine lv_goto (tgt := 141) hx hb d_Q_init_157 (by decide) ?_
      exact ih (i + 1) _ (by omega) _ _ _ (lv_sub hl [1, 0] rfl) hP hS
set_option maxHeartbeats 4000000 in
set_option maxRecDepth 100000 in
theorem c_Q_init {l : Launch} {D : va_G} {cI cZ : ClassId} {ad : Nat → Nat} (hinj : wl_inj 18 ad) (sz : Nat) (hpin : ∀ k, k < 17 → ad (k + 1) = sz + k) : wl_MN l y_Q_init (Cond.code y_Q_init b_Q_init 2 none :: TT) (rn_ 1 17 572) D classes (qw_ty cI cZ) ad [.ref (ad 0)] 1 (qi_ct cI cZ ad [.null, .null, .null, .null, .null, .null, .null, .null, .null, .null, .null, .null, .null, .null, .null, .null, .null, .int 0, .int 0, .int 0, .int 0, .int 0, .int 0]) 18 (qw_C cI cZ ad qi_0) 17 572 sz := by
  have hij : ∀ k, k ≤ 18 → wl_inj k ad := fun k hk i j hi hj => hinj i j (by omega) (by omega)
  refine wl_enterN (own := R_Q) rfl (by decide) (Nat.le_of_ble_eq_true rfl) (hij 1 (by decide)) (fun p_ e_ s_ m_ below meth c_ ls hsz X hml hr hlocks hnm hl hP hS => ?_)
  have hx := X.1
  have hb := X.2.1
  have hA : ∀ q, s_.heap.size ≤ q → (wl_A 1 ad s_.heap.size) q := fun q h => Or.inr h
  have hl : lv_has ls 2 [(0, .ref (ad 0))] := hl
  refine lv_aload_n hx hb d_Q_init_0 rfl (lv_at hl 0 rfl) ?_
  refine W.objInit hx hb X.2.2.1 (X.2.2.2.1 _ wo_Q) (X.2.2.2.1 _ wo_i) (X.2.2.2.1 _ wo_c) rfl (by rw [hml]; exact hl.1) rfl d_Q_init_1 (Nat.le_of_ble_eq_true rfl) (Nat.le_of_ble_eq_true rfl) ?_
  refine W.eq (g2 := F0 m_ 4 ls []) rfl ?_
  refine lv_aload_n hx hb d_Q_init_4 rfl (lv_at hl 0 rfl) ?_
  refine lv_iconst (v := 4) hx hb d_Q_init_5 (by decide) ?_
  refine wl_size (fun hz1 hz2 => wl_newI X hP hS hA (n := 1) (pin_0 hsz hz1 hz2 (hpin 0 (by decide))) (hij 2 (by decide)) (atype := .int) wa_I 0 rfl (N := 4) rfl (by decide) rfl (by decide) (fun _ h => h) qi_e1 (Nat.le_of_ble_eq_true rfl) (Nat.le_of_ble_eq_true rfl) d_Q_init_6 (fun H hz hP X hS => ?_))
  clear hz1 hz2 hz
  refine wl_putF X hP hS (i := 0) (fs := [.null, .null, .null, .null, .null, .null, .null, .null, .null, .null, .null, .null, .null, .null, .null, .null, .null, .int 0, .int 0, .int 0, .int 0, .int 0, .int 0]) (by decide) rfl rfl i_Q ft_Q ft_Q_ok fn_Q 0 (by decide) lf_Q_7 rfl hnm rfl rfl rfl (Nat.le_of_ble_eq_true rfl) d_Q_init_8 (ct' := qi_ct cI cZ ad [.ref (ad 1), .null, .null, .null, .null, .null, .null, .null, .null, .null, .null, .null, .null, .null, .null, .null, .null, .int 0, .int 0, .int 0, .int 0, .int 0, .int 0]) (qi_up2 rfl) (fun H locs hP hS => ?_)
  refine lv_aload_n hx hb d_Q_init_11 rfl (lv_at hl 0 rfl) ?_
  refine lv_iconst (v := 4) hx hb d_Q_init_12 (by decide) ?_
  refine wl_size (fun hz1 hz2 => wl_newI X hP hS hA (n := 2) (pin_s hsz hz2 (wl_top_ hP (i := 1) (by decide)) (hpin 0 (by decide)) (hpin 1 (by decide))) (hij 3 (by decide)) (atype := .int) wa_I 0 rfl (N := 4) rfl (by decide) rfl (by decide) (fun _ h => h) qi_e2 (Nat.le_of_ble_eq_true rfl) (Nat.le_of_ble_eq_true rfl) d_Q_init_13 (fun H hz hP X hS => ?_))
  clear hz1 hz2 hz
  refine wl_putF X hP hS (i := 0) (fs := [.ref (ad 1), .null, .null, .null, .null, .null, .null, .null, .null, .null, .null, .null, .null, .null, .null, .null, .null, .int 0, .int 0, .int 0, .int 0, .int 0, .int 0]) (by decide) rfl rfl i_Q ft_Q ft_Q_ok fn_Q 1 (by decide) lf_Q_13 rfl hnm rfl rfl rfl (Nat.le_of_ble_eq_true rfl) d_Q_init_15 (ct' := qi_ct cI cZ ad [.ref (ad 1), .ref (ad 2), .null, .null, .null, .null, .null, .null, .null, .null, .null, .null, .null, .null, .null, .null, .null, .int 0, .int 0, .int 0, .int 0, .int 0, .int 0]) (qi_up2 rfl) (fun H locs hP hS => ?_)
  refine lv_aload_n hx hb d_Q_init_18 rfl (lv_at hl 0 rfl) ?_
  refine lv_iconst (v := 4) hx hb d_Q_init_19 (by decide) ?_
  refine wl_size (fun hz1 hz2 => wl_newI X hP hS hA (n := 3) (pin_s hsz hz2 (wl_top_ hP (i := 2) (by decide)) (hpin 1 (by decide)) (hpin 2 (by decide))) (hij 4 (by decide)) (atype := .int) wa_I 0 rfl (N := 4) rfl (by decide) rfl (by decide) (fun _ h => h) qi_e3 (Nat.le_of_ble_eq_true rfl) (Nat.le_of_ble_eq_true rfl) d_Q_init_20 (fun H hz hP X hS => ?_))
  clear hz1 hz2 hz
  refine wl_putF X hP hS (i := 0) (fs := [.ref (ad 1), .ref (ad 2), .null, .null, .null, .null, .null, .null, .null, .null, .null, .null, .null, .null, .null, .null, .null, .int 0, .int 0, .int 0, .int 0, .int 0, .int 0]) (by decide) rfl rfl i_Q ft_Q ft_Q_ok fn_Q 2 (by decide) lf_Q_16 rfl hnm rfl rfl rfl (Nat.le_of_ble_eq_true rfl) d_Q_init_22 (ct' := qi_ct cI cZ ad [.ref (ad 1), .ref (ad 2), .ref (ad 3), .null, .null, .null, .null, .null, .null, .null, .null, .null, .null, .null, .null, .null, .null, .int 0, .int 0, .int 0, .int 0, .int 0, .int 0]) (qi_up2 rfl) (fun H locs hP hS => ?_)
  refine lv_aload_n hx hb d_Q_init_25 rfl (lv_at hl 0 rfl) ?_
  refine lv_iconst (v := 4) hx hb d_Q_init_26 (by decide) ?_
  refine wl_size (fun hz1 hz2 => wl_newI X hP hS hA (n := 4) (pin_s hsz hz2 (wl_top_ hP (i := 3) (by decide)) (hpin 2 (by decide)) (hpin 3 (by decide))) (hij 5 (by decide)) (atype := .int) wa_I 0 rfl (N := 4) rfl (by decide) rfl (by decide) (fun _ h => h) qi_e4 (Nat.le_of_ble_eq_true rfl) (Nat.le_of_ble_eq_true rfl) d_Q_init_27 (fun H hz hP X hS => ?_))
  clear hz1 hz2 hz
  refine wl_putF X hP hS (i := 0) (fs := [.ref (ad 1), .ref (ad 2), .ref (ad 3), .null, .null, .null, .null, .null, .null, .null, .null, .null, .null, .null, .null, .null, .null, .int 0, .int 0, .int 0, .int 0, .int 0, .int 0]) (by decide) rfl rfl i_Q ft_Q ft_Q_ok fn_Q 3 (by decide) lf_Q_19 rfl hnm rfl rfl rfl (Nat.le_of_ble_eq_true rfl) d_Q_init_29 (ct' := qi_ct cI cZ ad [.ref (ad 1), .ref (ad 2), .ref (ad 3), .ref (ad 4), .null, .null, .null, .null, .null, .null, .null, .null, .null, .null, .null, .null, .null, .int 0, .int 0, .int 0, .int 0, .int 0, .int 0]) (qi_up2 rfl) (fun H locs hP hS => ?_)
  refine lv_aload_n hx hb d_Q_init_32 rfl (lv_at hl 0 rfl) ?_
  refine lv_iconst (v := 4) hx hb d_Q_init_33 (by decide) ?_
  refine wl_size (fun hz1 hz2 => wl_newI X hP hS hA (n := 5) (pin_s hsz hz2 (wl_top_ hP (i := 4) (by decide)) (hpin 3 (by decide)) (hpin 4 (by decide))) (hij 6 (by decide)) (atype := .int) wa_I 0 rfl (N := 4) rfl (by decide) rfl (by decide) (fun _ h => h) qi_e5 (Nat.le_of_ble_eq_true rfl) (Nat.le_of_ble_eq_true rfl) d_Q_init_34 (fun H hz hP X hS => ?_))
  clear hz1 hz2 hz
  refine wl_putF X hP hS (i := 0) (fs := [.ref (ad 1), .ref (ad 2), .ref (ad 3), .ref (ad 4), .null, .null, .null, .null, .null, .null, .null, .null, .null, .null, .null, .null, .null, .int 0, .int 0, .int 0, .int 0, .int 0, .int 0]) (by decide) rfl rfl i_Q ft_Q ft_Q_ok fn_Q 4 (by decide) lf_Q_22 rfl hnm rfl rfl rfl (Nat.le_of_ble_eq_true rfl) d_Q_init_36 (ct' := qi_ct cI cZ ad [.ref (ad 1), .ref (ad 2), .ref (ad 3), .ref (ad 4), .ref (ad 5), .null, .null, .null, .null, .null, .null, .null, .null, .null, .null, .null, .null, .int 0, .int 0, .int 0, .int 0, .int 0, .int 0]) (qi_up2 rfl) (fun H locs hP hS => ?_)
  refine lv_aload_n hx hb d_Q_init_39 rfl (lv_at hl 0 rfl) ?_
  refine lv_iconst (v := 4) hx hb d_Q_init_40 (by decide) ?_
  refine wl_size (fun hz1 hz2 => wl_newI X hP hS hA (n := 6) (pin_s hsz hz2 (wl_top_ hP (i := 5) (by decide)) (hpin 4 (by decide)) (hpin 5 (by decide))) (hij 7 (by decide)) (atype := .int) wa_I 0 rfl (N := 4) rfl (by decide) rfl (by decide) (fun _ h => h) qi_e6 (Nat.le_of_ble_eq_true rfl) (Nat.le_of_ble_eq_true rfl) d_Q_init_41 (fun H hz hP X hS => ?_))
  clear hz1 hz2 hz
  refine wl_putF X hP hS (i := 0) (fs := [.ref (ad 1), .ref (ad 2), .ref (ad 3), .ref (ad 4), .ref (ad 5), .null, .null, .null, .null, .null, .null, .null, .null, .null, .null, .null, .null, .int 0, .int 0, .int 0, .int 0, .int 0, .int 0]) (by decide) rfl rfl i_Q ft_Q ft_Q_ok fn_Q 5 (by decide) lf_Q_25 rfl hnm rfl rfl rfl (Nat.le_of_ble_eq_true rfl) d_Q_init_43 (ct' := qi_ct cI cZ ad [.ref (ad 1), .ref (ad 2), .ref (ad 3), .ref (ad 4), .ref (ad 5), .ref (ad 6), .null, .null, .null, .null, .null, .null, .null, .null, .null, .null, .null, .int 0, .int 0, .int 0, .int 0, .int 0, .int 0]) (qi_up2 rfl) (fun H locs hP hS => ?_)
  refine lv_aload_n hx hb d_Q_init_46 rfl (lv_at hl 0 rfl) ?_
  refine lv_iconst (v := 4) hx hb d_Q_init_47 (by decide) ?_
  refine wl_size (fun hz1 hz2 => wl_newI X hP hS hA (n := 7) (pin_s hsz hz2 (wl_top_ hP (i := 6) (by decide)) (hpin 5 (by decide)) (hpin 6 (by decide))) (hij 8 (by decide)) (atype := .int) wa_I 0 rfl (N := 4) rfl (by decide) rfl (by decide) (fun _ h => h) qi_e7 (Nat.le_of_ble_eq_true rfl) (Nat.le_of_ble_eq_true rfl) d_Q_init_48 (fun H hz hP X hS => ?_))
  clear hz1 hz2 hz
  refine wl_putF X hP hS (i := 0) (fs := [.ref (ad 1), .ref (ad 2), .ref (ad 3), .ref (ad 4), .ref (ad 5), .ref (ad 6), .null, .null, .null, .null, .null, .null, .null, .null, .null, .null, .null, .int 0, .int 0, .int 0, .int 0, .int 0, .int 0]) (by decide) rfl rfl i_Q ft_Q ft_Q_ok fn_Q 6 (by decide) lf_Q_28 rfl hnm rfl rfl rfl (Nat.le_of_ble_eq_true rfl) d_Q_init_50 (ct' := qi_ct cI cZ ad [.ref (ad 1), .ref (ad 2), .ref (ad 3), .ref (ad 4), .ref (ad 5), .ref (ad 6), .ref (ad 7), .null, .null, .null, .null, .null, .null, .null, .null, .null, .null, .int 0, .int 0, .int 0, .int 0, .int 0, .int 0]) (qi_up2 rfl) (fun H locs hP hS => ?_)
  refine lv_aload_n hx hb d_Q_init_53 rfl (lv_at hl 0 rfl) ?_
  refine lv_bipush (v := 16) hx hb d_Q_init_54 (by decide) ?_
  refine wl_size (fun hz1 hz2 => wl_newI X hP hS hA (n := 8) (pin_s hsz hz2 (wl_top_ hP (i := 7) (by decide)) (hpin 6 (by decide)) (hpin 7 (by decide))) (hij 9 (by decide)) (atype := .int) wa_I 0 rfl (N := 16) rfl (by decide) rfl (by decide) (fun _ h => h) qi_e8 (Nat.le_of_ble_eq_true rfl) (Nat.le_of_ble_eq_true rfl) d_Q_init_56 (fun H hz hP X hS => ?_))
  clear hz1 hz2 hz
  refine wl_putF X hP hS (i := 0) (fs := [.ref (ad 1), .ref (ad 2), .ref (ad 3), .ref (ad 4), .ref (ad 5), .ref (ad 6), .ref (ad 7), .null, .null, .null, .null, .null, .null, .null, .null, .null, .null, .int 0, .int 0, .int 0, .int 0, .int 0, .int 0]) (by decide) rfl rfl i_Q ft_Q ft_Q_ok fn_Q 7 (by decide) lf_Q_31 rfl hnm rfl rfl rfl (Nat.le_of_ble_eq_true rfl) d_Q_init_58 (ct' := qi_ct cI cZ ad [.ref (ad 1), .ref (ad 2), .ref (ad 3), .ref (ad 4), .ref (ad 5), .ref (ad 6), .ref (ad 7), .ref (ad 8), .null, .null, .null, .null, .null, .null, .null, .null, .null, .int 0, .int 0, .int 0, .int 0, .int 0, .int 0]) (qi_up2 rfl) (fun H locs hP hS => ?_)
  refine lv_aload_n hx hb d_Q_init_61 rfl (lv_at hl 0 rfl) ?_
  refine lv_bipush (v := 32) hx hb d_Q_init_62 (by decide) ?_
  refine wl_size (fun hz1 hz2 => wl_newI X hP hS hA (n := 9) (pin_s hsz hz2 (wl_top_ hP (i := 8) (by decide)) (hpin 7 (by decide)) (hpin 8 (by decide))) (hij 10 (by decide)) (atype := .int) wa_I 0 rfl (N := 32) rfl (by decide) rfl (by decide) (fun _ h => h) qi_e9 (Nat.le_of_ble_eq_true rfl) (Nat.le_of_ble_eq_true rfl) d_Q_init_64 (fun H hz hP X hS => ?_))
  clear hz1 hz2 hz
  refine wl_putF X hP hS (i := 0) (fs := [.ref (ad 1), .ref (ad 2), .ref (ad 3), .ref (ad 4), .ref (ad 5), .ref (ad 6), .ref (ad 7), .ref (ad 8), .null, .null, .null, .null, .null, .null, .null, .null, .null, .int 0, .int 0, .int 0, .int 0, .int 0, .int 0]) (by decide) rfl rfl i_Q ft_Q ft_Q_ok fn_Q 8 (by decide) lf_Q_34 rfl hnm rfl rfl rfl (Nat.le_of_ble_eq_true rfl) d_Q_init_66 (ct' := qi_ct cI cZ ad [.ref (ad 1), .ref (ad 2), .ref (ad 3), .ref (ad 4), .ref (ad 5), .ref (ad 6), .ref (ad 7), .ref (ad 8), .ref (ad 9), .null, .null, .null, .null, .null, .null, .null, .null, .int 0, .int 0, .int 0, .int 0, .int 0, .int 0]) (qi_up2 rfl) (fun H locs hP hS => ?_)
  refine lv_aload_n hx hb d_Q_init_69 rfl (lv_at hl 0 rfl) ?_
  refine lv_bipush (v := 34) hx hb d_Q_init_70 (by decide) ?_
  refine wl_size (fun hz1 hz2 => wl_newI X hP hS hA (n := 10) (pin_s hsz hz2 (wl_top_ hP (i := 9) (by decide)) (hpin 8 (by decide)) (hpin 9 (by decide))) (hij 11 (by decide)) (atype := .boolean) wa_Z 1 rfl (N := 34) rfl (by decide) rfl (by decide) (fun _ h => h) qi_e10 (Nat.le_of_ble_eq_true rfl) (Nat.le_of_ble_eq_true rfl) d_Q_init_72 (fun H hz hP X hS => ?_))
  clear hz1 hz2 hz
  refine wl_putF X hP hS (i := 0) (fs := [.ref (ad 1), .ref (ad 2), .ref (ad 3), .ref (ad 4), .ref (ad 5), .ref (ad 6), .ref (ad 7), .ref (ad 8), .ref (ad 9), .null, .null, .null, .null, .null, .null, .null, .null, .int 0, .int 0, .int 0, .int 0, .int 0, .int 0]) (by decide) rfl rfl i_Q ft_Q ft_Q_ok fn_Q 9 (by decide) lf_Q_37 rfl hnm rfl rfl rfl (Nat.le_of_ble_eq_true rfl) d_Q_init_74 (ct' := qi_ct cI cZ ad [.ref (ad 1), .ref (ad 2), .ref (ad 3), .ref (ad 4), .ref (ad 5), .ref (ad 6), .ref (ad 7), .ref (ad 8), .ref (ad 9), .ref (ad 10), .null, .null, .null, .null, .null, .null, .null, .int 0, .int 0, .int 0, .int 0, .int 0, .int 0]) (qi_up2 rfl) (fun H locs hP hS => ?_)
  refine lv_aload_n hx hb d_Q_init_77 rfl (lv_at hl 0 rfl) ?_
  refine lv_bipush (v := 34) hx hb d_Q_init_78 (by decide) ?_
  refine wl_size (fun hz1 hz2 => wl_newI X hP hS hA (n := 11) (pin_s hsz hz2 (wl_top_ hP (i := 10) (by decide)) (hpin 9 (by decide)) (hpin 10 (by decide))) (hij 12 (by decide)) (atype := .boolean) wa_Z 1 rfl (N := 34) rfl (by decide) rfl (by decide) (fun _ h => h) qi_e11 (Nat.le_of_ble_eq_true rfl) (Nat.le_of_ble_eq_true rfl) d_Q_init_80 (fun H hz hP X hS => ?_))
  clear hz1 hz2 hz
  refine wl_putF X hP hS (i := 0) (fs := [.ref (ad 1), .ref (ad 2), .ref (ad 3), .ref (ad 4), .ref (ad 5), .ref (ad 6), .ref (ad 7), .ref (ad 8), .ref (ad 9), .ref (ad 10), .null, .null, .null, .null, .null, .null, .null, .int 0, .int 0, .int 0, .int 0, .int 0, .int 0]) (by decide) rfl rfl i_Q ft_Q ft_Q_ok fn_Q 10 (by decide) lf_Q_41 rfl hnm rfl rfl rfl (Nat.le_of_ble_eq_true rfl) d_Q_init_82 (ct' := qi_ct cI cZ ad [.ref (ad 1), .ref (ad 2), .ref (ad 3), .ref (ad 4), .ref (ad 5), .ref (ad 6), .ref (ad 7), .ref (ad 8), .ref (ad 9), .ref (ad 10), .ref (ad 11), .null, .null, .null, .null, .null, .null, .int 0, .int 0, .int 0, .int 0, .int 0, .int 0]) (qi_up2 rfl) (fun H locs hP hS => ?_)
  refine lv_aload_n hx hb d_Q_init_85 rfl (lv_at hl 0 rfl) ?_
  refine lv_bipush (v := 34) hx hb d_Q_init_86 (by decide) ?_
  refine wl_size (fun hz1 hz2 => wl_newI X hP hS hA (n := 12) (pin_s hsz hz2 (wl_top_ hP (i := 11) (by decide)) (hpin 10 (by decide)) (hpin 11 (by decide))) (hij 13 (by decide)) (atype := .boolean) wa_Z 1 rfl (N := 34) rfl (by decide) rfl (by decide) (fun _ h => h) qi_e12 (Nat.le_of_ble_eq_true rfl) (Nat.le_of_ble_eq_true rfl) d_Q_init_88 (fun H hz hP X hS => ?_))
  clear hz1 hz2 hz
  refine wl_putF X hP hS (i := 0) (fs := [.ref (ad 1), .ref (ad 2), .ref (ad 3), .ref (ad 4), .ref (ad 5), .ref (ad 6), .ref (ad 7), .ref (ad 8), .ref (ad 9), .ref (ad 10), .ref (ad 11), .null, .null, .null, .null, .null, .null, .int 0, .int 0, .int 0, .int 0, .int 0, .int 0]) (by decide) rfl rfl i_Q ft_Q ft_Q_ok fn_Q 11 (by decide) lf_Q_44 rfl hnm rfl rfl rfl (Nat.le_of_ble_eq_true rfl) d_Q_init_90 (ct' := qi_ct cI cZ ad [.ref (ad 1), .ref (ad 2), .ref (ad 3), .ref (ad 4), .ref (ad 5), .ref (ad 6), .ref (ad 7), .ref (ad 8), .ref (ad 9), .ref (ad 10), .ref (ad 11), .ref (ad 12), .null, .null, .null, .null, .null, .int 0, .int 0, .int 0, .int 0, .int 0, .int 0]) (qi_up2 rfl) (fun H locs hP hS => ?_)
  refine lv_aload_n hx hb d_Q_init_93 rfl (lv_at hl 0 rfl) ?_
  refine lv_bipush (v := 34) hx hb d_Q_init_94 (by decide) ?_
  refine wl_size (fun hz1 hz2 => wl_newI X hP hS hA (n := 13) (pin_s hsz hz2 (wl_top_ hP (i := 12) (by decide)) (hpin 11 (by decide)) (hpin 12 (by decide))) (hij 14 (by decide)) (atype := .int) wa_I 0 rfl (N := 34) rfl (by decide) rfl (by decide) (fun _ h => h) qi_e13 (Nat.le_of_ble_eq_true rfl) (Nat.le_of_ble_eq_true rfl) d_Q_init_96 (fun H hz hP X hS => ?_))
  clear hz1 hz2 hz
  refine wl_putF X hP hS (i := 0) (fs := [.ref (ad 1), .ref (ad 2), .ref (ad 3), .ref (ad 4), .ref (ad 5), .ref (ad 6), .ref (ad 7), .ref (ad 8), .ref (ad 9), .ref (ad 10), .ref (ad 11), .ref (ad 12), .null, .null, .null, .null, .null, .int 0, .int 0, .int 0, .int 0, .int 0, .int 0]) (by decide) rfl rfl i_Q ft_Q ft_Q_ok fn_Q 12 (by decide) lf_Q_47 rfl hnm rfl rfl rfl (Nat.le_of_ble_eq_true rfl) d_Q_init_98 (ct' := qi_ct cI cZ ad [.ref (ad 1), .ref (ad 2), .ref (ad 3), .ref (ad 4), .ref (ad 5), .ref (ad 6), .ref (ad 7), .ref (ad 8), .ref (ad 9), .ref (ad 10), .ref (ad 11), .ref (ad 12), .ref (ad 13), .null, .null, .null, .null, .int 0, .int 0, .int 0, .int 0, .int 0, .int 0]) (qi_up2 rfl) (fun H locs hP hS => ?_)
  refine lv_aload_n hx hb d_Q_init_101 rfl (lv_at hl 0 rfl) ?_
  refine lv_bipush (v := 34) hx hb d_Q_init_102 (by decide) ?_
  refine wl_size (fun hz1 hz2 => wl_newI X hP hS hA (n := 14) (pin_s hsz hz2 (wl_top_ hP (i := 13) (by decide)) (hpin 12 (by decide)) (hpin 13 (by decide))) (hij 15 (by decide)) (atype := .int) wa_I 0 rfl (N := 34) rfl (by decide) rfl (by decide) (fun _ h => h) qi_e14 (Nat.le_of_ble_eq_true rfl) (Nat.le_of_ble_eq_true rfl) d_Q_init_104 (fun H hz hP X hS => ?_))
  clear hz1 hz2 hz
  refine wl_putF X hP hS (i := 0) (fs := [.ref (ad 1), .ref (ad 2), .ref (ad 3), .ref (ad 4), .ref (ad 5), .ref (ad 6), .ref (ad 7), .ref (ad 8), .ref (ad 9), .ref (ad 10), .ref (ad 11), .ref (ad 12), .ref (ad 13), .null, .null, .null, .null, .int 0, .int 0, .int 0, .int 0, .int 0, .int 0]) (by decide) rfl rfl i_Q ft_Q ft_Q_ok fn_Q 13 (by decide) lf_Q_50 rfl hnm rfl rfl rfl (Nat.le_of_ble_eq_true rfl) d_Q_init_106 (ct' := qi_ct cI cZ ad [.ref (ad 1), .ref (ad 2), .ref (ad 3), .ref (ad 4), .ref (ad 5), .ref (ad 6), .ref (ad 7), .ref (ad 8), .ref (ad 9), .ref (ad 10), .ref (ad 11), .ref (ad 12), .ref (ad 13), .ref (ad 14), .null, .null, .null, .int 0, .int 0, .int 0, .int 0, .int 0, .int 0]) (qi_up2 rfl) (fun H locs hP hS => ?_)
  refine lv_aload_n hx hb d_Q_init_109 rfl (lv_at hl 0 rfl) ?_
  refine lv_sipush (v := 272) hx hb d_Q_init_110 (by decide) ?_
  refine wl_size (fun hz1 hz2 => wl_newI X hP hS hA (n := 15) (pin_s hsz hz2 (wl_top_ hP (i := 14) (by decide)) (hpin 13 (by decide)) (hpin 14 (by decide))) (hij 16 (by decide)) (atype := .int) wa_I 0 rfl (N := 272) rfl (by decide) rfl (by decide) (fun _ h => h) qi_e15 (Nat.le_of_ble_eq_true rfl) (Nat.le_of_ble_eq_true rfl) d_Q_init_113 (fun H hz hP X hS => ?_))
  clear hz1 hz2 hz
  refine wl_putF X hP hS (i := 0) (fs := [.ref (ad 1), .ref (ad 2), .ref (ad 3), .ref (ad 4), .ref (ad 5), .ref (ad 6), .ref (ad 7), .ref (ad 8), .ref (ad 9), .ref (ad 10), .ref (ad 11), .ref (ad 12), .ref (ad 13), .ref (ad 14), .null, .null, .null, .int 0, .int 0, .int 0, .int 0, .int 0, .int 0]) (by decide) rfl rfl i_Q ft_Q ft_Q_ok fn_Q 14 (by decide) lf_Q_53 rfl hnm rfl rfl rfl (Nat.le_of_ble_eq_true rfl) d_Q_init_115 (ct' := qi_ct cI cZ ad [.ref (ad 1), .ref (ad 2), .ref (ad 3), .ref (ad 4), .ref (ad 5), .ref (ad 6), .ref (ad 7), .ref (ad 8), .ref (ad 9), .ref (ad 10), .ref (ad 11), .ref (ad 12), .ref (ad 13), .ref (ad 14), .ref (ad 15), .null, .null, .int 0, .int 0, .int 0, .int 0, .int 0, .int 0]) (qi_up2 rfl) (fun H locs hP hS => ?_)
  refine lv_aload_n hx hb d_Q_init_118 rfl (lv_at hl 0 rfl) ?_
  refine lv_bipush (v := 40) hx hb d_Q_init_119 (by decide) ?_
  refine wl_size (fun hz1 hz2 => wl_newI X hP hS hA (n := 16) (pin_s hsz hz2 (wl_top_ hP (i := 15) (by decide)) (hpin 14 (by decide)) (hpin 15 (by decide))) (hij 17 (by decide)) (atype := .int) wa_I 0 rfl (N := 40) rfl (by decide) rfl (by decide) (fun _ h => h) qi_e16 (Nat.le_of_ble_eq_true rfl) (Nat.le_of_ble_eq_true rfl) d_Q_init_121 (fun H hz hP X hS => ?_))
  clear hz1 hz2 hz
  refine wl_putF X hP hS (i := 0) (fs := [.ref (ad 1), .ref (ad 2), .ref (ad 3), .ref (ad 4), .ref (ad 5), .ref (ad 6), .ref (ad 7), .ref (ad 8), .ref (ad 9), .ref (ad 10), .ref (ad 11), .ref (ad 12), .ref (ad 13), .ref (ad 14), .ref (ad 15), .null, .null, .int 0, .int 0, .int 0, .int 0, .int 0, .int 0]) (by decide) rfl rfl i_Q ft_Q ft_Q_ok fn_Q 15 (by decide) lf_Q_56 rfl hnm rfl rfl rfl (Nat.le_of_ble_eq_true rfl) d_Q_init_123 (ct' := qi_ct cI cZ ad [.ref (ad 1), .ref (ad 2), .ref (ad 3), .ref (ad 4), .ref (ad 5), .ref (ad 6), .ref (ad 7), .ref (ad 8), .ref (ad 9), .ref (ad 10), .ref (ad 11), .ref (ad 12), .ref (ad 13), .ref (ad 14), .ref (ad 15), .ref (ad 16), .null, .int 0, .int 0, .int 0, .int 0, .int 0, .int 0]) (qi_up2 rfl) (fun H locs hP hS => ?_)
  refine lv_aload_n hx hb d_Q_init_126 rfl (lv_at hl 0 rfl) ?_
  refine lv_bipush (v := 14) hx hb d_Q_init_127 (by decide) ?_
  refine wl_size (fun hz1 hz2 => wl_newI X hP hS hA (n := 17) (pin_s hsz hz2 (wl_top_ hP (i := 16) (by decide)) (hpin 15 (by decide)) (hpin 16 (by decide))) (hij 18 (by decide)) (atype := .int) wa_I 0 rfl (N := 14) rfl (by decide) rfl (by decide) (fun _ h => h) qi_e17 (Nat.le_of_ble_eq_true rfl) (Nat.le_of_ble_eq_true rfl) d_Q_init_129 (fun H hz hP X hS => ?_))
  clear hz1 hz2 hz
  refine wl_putF X hP hS (i := 0) (fs := [.ref (ad 1), .ref (ad 2), .ref (ad 3), .ref (ad 4), .ref (ad 5), .ref (ad 6), .ref (ad 7), .ref (ad 8), .ref (ad 9), .ref (ad 10), .ref (ad 11), .ref (ad 12), .ref (ad 13), .ref (ad 14), .ref (ad 15), .ref (ad 16), .null, .int 0, .int 0, .int 0, .int 0, .int 0, .int 0]) (by decide) rfl rfl i_Q ft_Q ft_Q_ok fn_Q 16 (by decide) lf_Q_59 rfl hnm rfl rfl rfl (Nat.le_of_ble_eq_true rfl) d_Q_init_131 (ct' := qi_ct cI cZ ad [.ref (ad 1), .ref (ad 2), .ref (ad 3), .ref (ad 4), .ref (ad 5), .ref (ad 6), .ref (ad 7), .ref (ad 8), .ref (ad 9), .ref (ad 10), .ref (ad 11), .ref (ad 12), .ref (ad 13), .ref (ad 14), .ref (ad 15), .ref (ad 16), .ref (ad 17), .int 0, .int 0, .int 0, .int 0, .int 0, .int 0]) (qi_up2 rfl) (fun H locs hP hS => ?_)
  have hP : va_P D classes (wl_W 18 ad (qw_C cI cZ ad qi_S)) H := by
    rw [← wl_cg (ct := qi_ct cI cZ ad [.ref (ad 1), .ref (ad 2), .ref (ad 3), .ref (ad 4), .ref (ad 5), .ref (ad 6), .ref (ad 7), .ref (ad 8), .ref (ad 9), .ref (ad 10), .ref (ad 11), .ref (ad 12), .ref (ad 13), .ref (ad 14), .ref (ad 15), .ref (ad 16), .ref (ad 17), .int 0, .int 0, .int 0, .int 0, .int 0, .int 0]) (fun j hj => ?_)]
    · exact hP
    · unfold qi_ct
      by_cases h : j = 0
      · rw [if_pos h, h, qw_cQ]
        rfl
      · rw [if_neg h]
  refine lv_aload_n hx hb d_Q_init_134 rfl (lv_at hl 0 rfl) ?_
  refine lv_iconst (v := 3) hx hb d_Q_init_135 (by decide) ?_
  refine wl_put X hP hS (i := 0) (by decide) (qw_cQ ) rfl i_Q ft_Q ft_Q_ok fn_Q 18 (by decide) lf_Q_62 rfl rfl rfl (Nat.le_of_ble_eq_true rfl) d_Q_init_136 (qw_pQ_turn (x := 3) (by decide)) (fun H locs hP hS => ?_)
  refine lv_iconst (v := 0) hx hb d_Q_init_139 (by decide) ?_
  refine lv_istore_n (lv' := [(1, .int (0 : Int32)), (0, .ref (ad 0))]) hx hb d_Q_init_140 rfl hl (by decide) rfl (fun ls hl => ?_)
  exact c_Q_init_L X hsz hr hlocks 32 0 _ rfl _ _ _ (lv_sub hl [1, 0] rfl) hP hS
