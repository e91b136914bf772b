abbrev kw_AO (U : State) : Prop := va_AO R_E U ∧ va_AO R_T U
theorem kw_AO.moved {u U : State} (hvm : u.vm.Alike U.vm) (h : kw_AO u) : kw_AO U := ⟨va_AO.moved hvm h.1, va_AO.moved hvm h.2⟩
set_option maxHeartbeats 4000000 in
set_option maxRecDepth 100000 in
/-- Sheet(): the object at the last place i, its words at i + 1 -/
theorem c_E_init {l : Launch} {D : va_G} {cI cT cS : ClassId} {ad : Nat → Nat} {i : Nat} (hinj : wl_inj (i + 2) ad) (sz : Nat) (hpin : ad (i + 1) = sz) (ct : Nat → va_E) (h0 : ct i = .inr (3, [.null, .int 0, .int 0, .int 0, .int 0, .int 0])) (h1 : ct (i + 1) = .inl (cI, 8, .inl (fun _ => 0))) : wl_MN l y_E_init (Cond.code y_E_init b_E_init 1 none :: TT) (rn_ 1 1 8) D classes (kw_ty cI cT cS) ad [.ref (ad i)] (i + 1) ct (i + 2) (va_up ct i (.inr (3, [.ref (ad (i + 1)), .int 0, .int (-2), .int (-2), .int 0, .int 0]))) 1 8 sz := by
  have hij : wl_inj (i + 1) ad := fun a b ha hb => hinj a b (by omega) (by omega)
  refine wl_enterN (own := R_E) rfl (by decide) (Nat.le_of_ble_eq_true rfl) hij (fun p_ e_ s_ m_ below meth c_ ls hsz X hml hr hlocks hnm hl hP hS => ?_)
  have hx := X.1
  have hb := X.2.1
  have hA : ∀ q, s_.heap.size ≤ q → (wl_A (i + 1) ad s_.heap.size) q := fun q h => Or.inr h
  have hl : lv_has ls 1 [(0, .ref (ad i))] := hl
  refine lv_aload_n hx hb d_E_init_0 rfl (lv_at hl 0 rfl) ?_
  refine W.objInit hx hb X.2.2.1 (X.2.2.2.1 _ wo_E) (X.2.2.2.1 _ wo_i) (X.2.2.2.1 _ wo_c) rfl (by rw [hml]; exact hl.1) rfl d_E_init_1 (Nat.le_of_ble_eq_true rfl) (Nat.le_of_ble_eq_true rfl) ?_
  refine W.eq (g2 := F0 m_ 4 ls []) rfl ?_
  refine lv_aload_n hx hb d_E_init_4 rfl (lv_at hl 0 rfl) ?_
  refine lv_bipush (v := 8) hx hb d_E_init_5 (by decide) ?_
  refine wl_size (fun hz1 hz2 => wl_newI X hP hS hA (n := i + 1) (pin_0 hsz hz1 hz2 (hpin.trans (Nat.add_zero _).symm)) hinj (atype := .int) wa_I 0 rfl (N := 8) rfl (by decide) rfl (by decide) (fun _ h => h) h1 (Nat.le_of_ble_eq_true rfl) (Nat.le_of_ble_eq_true rfl) d_E_init_7 (fun H hz hP X hS => ?_))
  clear hz1 hz2 hz
  refine wl_putF X hP hS (i := i) (by omega) h0 rfl i_E ft_E ft_E_ok fn_E 0 (by decide) lf_E_9 rfl hnm rfl rfl rfl (Nat.le_of_ble_eq_true rfl) d_E_init_9 (fun j _ => rfl) (fun H locs hP hS => ?_)
  refine lv_aload_n hx hb d_E_init_12 rfl (lv_at hl 0 rfl) ?_
  refine lv_bipush (v := -2) hx hb d_E_init_13 (by decide) ?_
  refine wl_put X hP hS (i := i) (by omega) (va_up_self _ _ _) rfl i_E ft_E ft_E_ok fn_E 2 (by decide) lf_E_15 rfl rfl rfl (Nat.le_of_ble_eq_true rfl) d_E_init_15 (bx_uu _ _ _ _) (fun H locs hP hS => ?_)
  refine lv_aload_n hx hb d_E_init_18 rfl (lv_at hl 0 rfl) ?_
  refine lv_bipush (v := -2) hx hb d_E_init_19 (by decide) ?_
  refine wl_put X hP hS (i := i) (by omega) (va_up_self _ _ _) rfl i_E ft_E ft_E_ok fn_E 3 (by decide) lf_E_19 rfl rfl rfl (Nat.le_of_ble_eq_true rfl) d_E_init_21 (bx_uu _ _ _ _) (fun H locs hP hS => ?_)
  exact wl_vretN X hsz hr hlocks hP hS (Nat.le_refl _) (Nat.le_refl _) d_E_init_24
/-- a constructor that makes arrays of objects: the tables' words of those arrays come with its start -/
abbrev wl_PcE (av : List Value) (D : va_G) (cl : List vw_C) (tys : List (ClassId × FieldType)) (n : Nat) (ad : Nat → Nat) (ct : Nat → va_E) (sz : Nat) : Array Value → State → Prop := va_Pc av (fun U => U.heap.size = sz ∧ wl_At D cl tys n ad ct U ∧ kw_AO U)
theorem wl_blindE {av : List Value} {D : va_G} {cl : List vw_C} {tys : List (ClassId × FieldType)} {n : Nat} {ad : Nat → Nat} {ct : Nat → va_E} {sz : Nat} : FrameBlind (wl_PcE av D cl tys n ad ct sz) := fun a U g mk q => by
  obtain ⟨q0, q1, ⟨qP, qK⟩, qE⟩ := q
  exact ⟨q0, q1, ⟨qP, va_K.moved (u := U) (U := U.calling g mk a) (Vm.Alike.refl U.vm) qK⟩, kw_AO.moved (u := U) (U := U.calling g mk a) (Vm.Alike.refl U.vm) qE⟩
abbrev wl_ME (l : Launch) (y : MethodName) (ws : List Cond) (rm : Room) (D : va_G) (cl : List vw_C) (tys : List (ClassId × FieldType)) (ad : Nat → Nat) (av : List Value) (n : Nat) (ct : Nat → va_E) (n2 : Nat) (ct2 : Nat → va_E) (mc ms sz : Nat) : Prop := Met l y ws rm (wl_PcE av D cl tys n ad ct sz) (wl_QvN D cl tys n ad n2 ct2 sz) mc ms (wl_A n ad sz)
theorem wl_enterE {l : Launch} {y : MethodName} {Ts : List Cond} {rm : Room} {D : va_G} {cl : List vw_C} {tys : List (ClassId × FieldType)} {n : Nat} {ad : Nat → Nat} {av : List Value} {ct : Nat → va_E} {sz mc ms : Nat} {bytes : ByteArray} {maxL : Nat} {ret : Option FieldType} {Qc : Array Value → State → Outcome → State → Prop} {own : String} (ho : y.cls = own) (hy : plainName y.cls = true) (hlen : (lg_sl av).length ≤ maxL) (hinj : wl_inj n ad)
    (body : ∀ (p : Program) (e : Env) (s : State) (m : MethodId) (below : List Frame) (meth : Method) (c : Code) (ls : Array Slot), s.heap.size = sz → wl_X p s m av.toArray c bytes own Ts D cl tys n ad (wl_A n ad s.heap.size) → c.maxLocals = maxL → meth.sig.returnType = ret → meth.locks = false → meth.name = y.name → lv_has ls maxL (lv_args 0 av) → va_P D cl (wl_W n ad ct) s.heap → va_S (wl_A n ad s.heap.size) s.heap s.heap [] → kw_AO s →
      W p l e rm s m av.toArray below meth c s.heap [] 0 0 (MQ below Qc av.toArray s mc ms (wl_A n ad sz)) (F0 m 0 ls [])) :
    Met l y (Cond.code y bytes maxL ret :: Ts) rm (wl_PcE av D cl tys n ad ct sz) Qc mc ms (wl_A n ad sz) := by
  subst ho
  refine Met.ofW (cc := bytes) (maxL := maxL) (ret := ret) hy rfl ?_
  intro p e s m args below meth c s₁ B hml hv
  obtain ⟨rfl, hsz, ⟨hP, hK⟩, hE⟩ := hv
  have hts := atoms_spec (ws := Cond.code y bytes maxL ret :: Ts) B.pre
  have hl := lv_entry av (n := maxL) hlen
  rw [lg_entry_eq]
  generalize (lg_sl av ++ List.replicate (maxL - (lg_sl av).length) Slot.unset).toArray = ls at hl ⊢
  exact body p e s m below meth c ls hsz ⟨B.exec, B.bytes, findClass_of_methodNamed B.named, fun w hw => hts w (List.mem_cons_of_mem _ hw), hK, hinj, fun i hi => Or.inl ⟨i, hi, rfl⟩⟩ hml B.returns B.notSynchronized (name_of_methodNamed B.named B.method).1 hl hP va_S.rf hE
set_option maxHeartbeats 4000000 in
set_option maxRecDepth 100000 in
/-- Task(): the object at the last place i, its registers at i + 1, its pages at i + 2 -/
theorem c_T_init {l : Launch} {D : va_G} {cI cT cS : ClassId} {ad : Nat → Nat} {i : Nat} (hinj : wl_inj (i + 3) ad) (sz : Nat) (hp1 : ad (i + 1) = sz) (hp2 : ad (i + 2) = sz + 1) (ct : Nat → va_E) (h0 : ct i = .inr (2, [.null, .null, .int 0, .int 0, .int 0, .int 0, .int 0, .int 0, .int 0])) (h1 : ct (i + 1) = .inl (cI, 4, .inl (fun _ => 0))) (h2 : ct (i + 2) = .inl (cS, 8, .inr (.inr (.inr (.inr (fun _ => none)))))) : wl_ME l y_T_init (Cond.code y_T_init b_T_init 1 none :: TT) (rn_ 1 2 12) D classes (kw_ty cI cT cS) ad [.ref (ad i)] (i + 1) ct (i + 3) (va_up ct i (.inr (2, [.ref (ad (i + 1)), .ref (ad (i + 2)), .int 0, .int 0, .int (-2), .int 0, .int 0, .int 0, .int 0]))) 2 12 sz := by
  have hij : wl_inj (i + 1) ad := fun a b ha hb => hinj a b (by omega) (by omega)
  have hij2 : wl_inj (i + 1 + 1) ad := fun a b ha hb => hinj a b (by omega) (by omega)
  refine wl_enterE (own := R_T) rfl (by decide) (Nat.le_of_ble_eq_true rfl) hij (fun p_ e_ s_ m_ below meth c_ ls hsz X hml hr hlocks hnm hl hP hS hE => ?_)
  have hx := X.1
  have hb := X.2.1
  have hA : ∀ q, s_.heap.size ≤ q → (wl_A (i + 1) ad s_.heap.size) q := fun q h => Or.inr h
  have hl : lv_has ls 1 [(0, .ref (ad i))] := hl
  refine lv_aload_n hx hb d_T_init_0 rfl (lv_at hl 0 rfl) ?_
  refine W.objInit hx hb X.2.2.1 (X.2.2.2.1 _ wo_T) (X.2.2.2.1 _ wo_i) (X.2.2.2.1 _ wo_c) rfl (by rw [hml]; exact hl.1) rfl d_T_init_1 (Nat.le_of_ble_eq_true rfl) (Nat.le_of_ble_eq_true rfl) ?_
  refine W.eq (g2 := F0 m_ 4 ls []) rfl ?_
  refine lv_aload_n hx hb d_T_init_4 rfl (lv_at hl 0 rfl) ?_
  refine lv_iconst (v := 4) hx hb d_T_init_5 (by decide) ?_
  refine wl_size (fun hz1 hz2 => wl_newI X hP hS hA (n := i + 1) (pin_0 hsz hz1 hz2 (hp1.trans (Nat.add_zero _).symm)) hij2 (atype := .int) wa_I 0 rfl (N := 4) rfl (by decide) rfl (by decide) (fun _ h => h) h1 (Nat.le_of_ble_eq_true rfl) (Nat.le_of_ble_eq_true rfl) d_T_init_6 (fun H hz hP X hS => ?_))
  clear hz1 hz2 hz
  refine wl_putF X hP hS (i := i) (by omega) h0 rfl i_T ft_T ft_T_ok fn_T 0 (by decide) lf_T_9 rfl hnm rfl rfl rfl (Nat.le_of_ble_eq_true rfl) d_T_init_8 (fun j _ => rfl) (fun H locs hP hS => ?_)
  refine lv_aload_n hx hb d_T_init_11 rfl (lv_at hl 0 rfl) ?_
  refine lv_bipush (v := 8) hx hb d_T_init_12 (by decide) ?_
  refine wl_size (fun hz1 hz2 => wl_newR X hP hS hA (n := i + 1 + 1) (pin_s (k := 0) hsz hz2 (wl_top_ hP (i := i + 1) (by omega)) (hp1.trans (Nat.add_zero _).symm) hp2) hinj (C := R_E) wl_T_15 hE.1 2 rfl (N := 8) rfl (by decide) ((va_up_ne _ _ (by omega)).trans h2) (Nat.le_of_ble_eq_true rfl) (Nat.le_of_ble_eq_true rfl) d_T_init_14 (fun H hz hP X hS => ?_))
  clear hz1 hz2 hz
  refine wl_putF X hP hS (i := i) (by omega) (va_up_self _ _ _) rfl i_T ft_T ft_T_ok fn_T 1 (by decide) lf_T_17 rfl hnm rfl rfl rfl (Nat.le_of_ble_eq_true rfl) d_T_init_17 (fun j _ => congrFun (bx_uu _ _ _ _) j) (fun H locs hP hS => ?_)
  refine lv_aload_n hx hb d_T_init_20 rfl (lv_at hl 0 rfl) ?_
  refine lv_iconst (v := 0) hx hb d_T_init_21 (by decide) ?_
  refine wl_put X hP hS (i := i) (by omega) (va_up_self _ _ _) rfl i_T ft_T ft_T_ok fn_T 2 (by decide) lf_T_21 rfl rfl rfl (Nat.le_of_ble_eq_true rfl) d_T_init_22 (bx_uu _ _ _ _) (fun H locs hP hS => ?_)
  refine lv_aload_n hx hb d_T_init_25 rfl (lv_at hl 0 rfl) ?_
  refine lv_bipush (v := -2) hx hb d_T_init_26 (by decide) ?_
  refine wl_put X hP hS (i := i) (by omega) (va_up_self _ _ _) rfl i_T ft_T ft_T_ok fn_T 4 (by decide) lf_T_25 rfl rfl rfl (Nat.le_of_ble_eq_true rfl) d_T_init_28 (bx_uu _ _ _ _) (fun H locs hP hS => ?_)
  exact wl_vretN X hsz hr hlocks hP hS (Nat.le_refl _) (Nat.le_refl _) d_T_init_31
