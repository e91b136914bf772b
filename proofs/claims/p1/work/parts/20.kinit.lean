abbrev kw_AO (U : State) : Prop := (va_AO R_E U ∧ va_AO R_T U) ∧ va_Nw (.methodLinkNest R_M 23 y_E_init "SheetKernel") U ∧ va_Nw (.methodLinkNest R_K 30 y_T_init "SheetKernel") U
theorem kw_AO.warm {s U : State} (hW : s.WarmedH U.vm) (h : kw_AO s) : kw_AO U := ⟨⟨va_AO.moved hW.alike h.1.1, va_AO.moved hW.alike h.1.2⟩, va_Nw.warmM hW h.2.1, va_Nw.warmM hW h.2.2⟩
theorem kw_AO.same {u U : State} (hvm : u.vm = U.vm) (h : kw_AO u) : kw_AO U := ⟨⟨va_AO.moved (hvm ▸ Vm.Alike.refl u.vm) h.1.1, va_AO.moved (hvm ▸ Vm.Alike.refl u.vm) h.1.2⟩, va_Nw.same rfl hvm h.2.1, va_Nw.same rfl hvm h.2.2⟩
set_option maxHeartbeats 4000000 in
set_option maxRecDepth 100000 in
/-- Sheet(): the object at the last place i, its words at i + 1 -/
theorem c_E_init {l : Launch} {D : va_G} {cI cT cS : ClassId} {ad : Nat → Nat} {i : Nat} (hinj : wl_inj (i + 2) ad) (sz : Nat) (hpin : ad (i + 1) = sz) (ct : Nat → va_E) (h0 : ct i = .inr (3, [.null, .int 0, .int 0, .int 0, .int 0, .int 0])) (h1 : ct (i + 1) = .inl (cI, 8, .inl (fun _ => 0))) : wl_MN l y_E_init (Cond.code y_E_init b_E_init 1 none :: TT) (rn_ 1 1 8) D classes (kw_ty cI cT cS) ad [.ref (ad i)] (i + 1) ct (i + 2) (va_up ct i (.inr (3, [.ref (ad (i + 1)), .int 0, .int (-2), .int (-2), .int 0, .int 0]))) 1 8 sz := by
  have hij : wl_inj (i + 1) ad := fun a b ha hb => hinj a b (by omega) (by omega)
  refine wl_enterN (own := R_E) rfl (by decide) (Nat.le_of_ble_eq_true rfl) hij (fun p_ e_ s_ m_ below meth c_ ls hsz X hml hr hlocks hnm hl hP hS => ?_)
  have hx := X.1
  have hb := X.2.1
  have hA : ∀ q, s_.heap.size ≤ q → (wl_A (i + 1) ad s_.heap.size) q := fun q h => Or.inr h
  have hl : lv_has ls 1 [(0, .ref (ad i))] := hl
  refine lv_aload_n hx hb d_E_init_0 rfl (lv_at hl 0 rfl) ?_
  refine W.objInit hx hb X.2.2.1 (X.2.2.2.1 _ wo_E) (X.2.2.2.1 _ wo_i) (X.2.2.2.1 _ wo_c) rfl (by rw [hml]; exact hl.1) rfl d_E_init_1 (Nat.le_of_ble_eq_true rfl) (Nat.le_of_ble_eq_true rfl) ?_
  refine W.eq (g2 := F0 m_ 4 ls []) rfl ?_
  refine lv_aload_n hx hb d_E_init_4 rfl (lv_at hl 0 rfl) ?_
  refine lv_bipush (v := 8) hx hb d_E_init_5 (by decide) ?_
  refine wl_size (fun hz1 hz2 => wl_newI X hP hS hA (n := i + 1) (pin_0 hsz hz1 hz2 (hpin.trans (Nat.add_zero _).symm)) hinj (atype := .int) wa_I 0 rfl (N := 8) rfl (by decide) rfl (by decide) (fun _ h => h) h1 (Nat.le_of_ble_eq_true rfl) (Nat.le_of_ble_eq_true rfl) d_E_init_7 (fun H hz hP X hS => ?_))
  clear hz1 hz2 hz
  refine wl_putF X hP hS (i := i) (by omega) h0 rfl i_E ft_E ft_E_ok fn_E 0 (by decide) lf_E_9 rfl hnm rfl rfl rfl (Nat.le_of_ble_eq_true rfl) d_E_init_9 (fun j _ => rfl) (fun H locs hP hS => ?_)
  refine lv_aload_n hx hb d_E_init_12 rfl (lv_at hl 0 rfl) ?_
  refine lv_bipush (v := -2) hx hb d_E_init_13 (by decide) ?_
  refine wl_put X hP hS (i := i) (by omega) (va_up_self _ _ _) rfl i_E ft_E ft_E_ok fn_E 2 (by decide) lf_E_15 rfl rfl rfl (Nat.le_of_ble_eq_true rfl) d_E_init_15 (bx_uu _ _ _ _) (fun H locs hP hS => ?_)
  refine lv_aload_n hx hb d_E_init_18 rfl (lv_at hl 0 rfl) ?_
  refine lv_bipush (v := -2) hx hb d_E_init_19 (by decide) ?_
  refine wl_put X hP hS (i := i) (by omega) (va_up_self _ _ _) rfl i_E ft_E ft_E_ok fn_E 3 (by decide) lf_E_19 rfl rfl rfl (Nat.le_of_ble_eq_true rfl) d_E_init_21 (bx_uu _ _ _ _) (fun H locs hP hS => ?_)
  exact wl_vretN X hsz hr hlocks hP hS (Nat.le_refl _) (Nat.le_refl _) d_E_init_24
/-- a constructor that makes arrays of objects: the tables' words of those arrays come with its start -/
abbrev wl_PcE (av : List Value) (D : va_G) (cl : List vw_C) (tys : List (ClassId × FieldType)) (n : Nat) (ad : Nat → Nat) (ct : Nat → va_E) (sz : Nat) : Array Value → State → Prop := va_Pc av (fun U => U.heap.size = sz ∧ wl_At D cl tys n ad ct U ∧ kw_AO U)
theorem wl_blindE {av : List Value} {D : va_G} {cl : List vw_C} {tys : List (ClassId × FieldType)} {n : Nat} {ad : Nat → Nat} {ct : Nat → va_E} {sz : Nat} : FrameBlind (wl_PcE av D cl tys n ad ct sz) := fun a U g mk q => by
  obtain ⟨q0, q1, ⟨qP, qK⟩, qE⟩ := q
  exact ⟨q0, q1, ⟨qP, va_K.moved (u := U) (U := U.calling g mk a) (Vm.Alike.refl U.vm) qK⟩, kw_AO.same (u := U) (U := U.calling g mk a) rfl qE⟩
abbrev wl_ME (l : Launch) (y : MethodName) (ws : List Cond) (rm : Room) (D : va_G) (cl : List vw_C) (tys : List (ClassId × FieldType)) (ad : Nat → Nat) (av : List Value) (n : Nat) (ct : Nat → va_E) (n2 : Nat) (ct2 : Nat → va_E) (mc ms sz : Nat) : Prop := Met l y ws rm (wl_PcE av D cl tys n ad ct sz) (wl_QvN D cl tys n ad n2 ct2 sz) mc ms (wl_A n ad sz)
theorem wl_enterE {l : Launch} {y : MethodName} {Ts : List Cond} {rm : Room} {D : va_G} {cl : List vw_C} {tys : List (ClassId × FieldType)} {n : Nat} {ad : Nat → Nat} {av : List Value} {ct : Nat → va_E} {sz mc ms : Nat} {bytes : ByteArray} {maxL : Nat} {ret : Option FieldType} {Qc : Array Value → State → Outcome → State → Prop} {own : String} (ho : y.cls = own) (hy : plainName y.cls = true) (hlen : (lg_sl av).length ≤ maxL) (hinj : wl_inj n ad)
    (body : ∀ (p : Program) (e : Env) (s : State) (m : MethodId) (below : List Frame) (meth : Method) (c : Code) (ls : Array Slot), s.heap.size = sz → wl_X p s m av.toArray c bytes own Ts D cl tys n ad (wl_A n ad s.heap.size) → c.maxLocals = maxL → meth.sig.returnType = ret → meth.locks = false → meth.name = y.name → lv_has ls maxL (lv_args 0 av) → va_P D cl (wl_W n ad ct) s.heap → va_S (wl_A n ad s.heap.size) s.heap s.heap [] → kw_AO s →
      W p l e rm s m av.toArray below meth c s.heap [] 0 0 (MQ below Qc av.toArray s mc ms (wl_A n ad sz)) (F0 m 0 ls [])) :
    Met l y (Cond.code y bytes maxL ret :: Ts) rm (wl_PcE av D cl tys n ad ct sz) Qc mc ms (wl_A n ad sz) := by
  subst ho
  refine Met.ofW (cc := bytes) (maxL := maxL) (ret := ret) hy rfl ?_
  intro p e s m args below meth c s₁ B hml hv
  obtain ⟨rfl, hsz, ⟨hP, hK⟩, hE⟩ := hv
  have hts := atoms_spec (ws := Cond.code y bytes maxL ret :: Ts) B.pre
  have hl := lv_entry av (n := maxL) hlen
  rw [lg_entry_eq]
  generalize (lg_sl av ++ List.replicate (maxL - (lg_sl av).length) Slot.unset).toArray = ls at hl ⊢
  exact body p e s m below meth c ls hsz ⟨B.exec, B.bytes, findClass_of_methodNamed B.named, fun w hw => hts w (List.mem_cons_of_mem _ hw), hK, hinj, fun i hi => Or.inl ⟨i, hi, rfl⟩⟩ hml B.returns B.notSynchronized (name_of_methodNamed B.named B.method).1 hl hP va_S.rf hE
set_option maxHeartbeats 4000000 in
set_option maxRecDepth 100000 in
/-- Task(): the object at the last place i, its registers at i + 1, its pages at i + 2 -/
theorem c_T_init {l : Launch} {D : va_G} {cI cT cS : ClassId} {ad : Nat → Nat} {i : Nat} (hinj : wl_inj (i + 3) ad) (sz : Nat) (hp1 : ad (i + 1) = sz) (hp2 : ad (i + 2) = sz + 1) (ct : Nat → va_E) (h0 : ct i = .inr (2, [.null, .null, .int 0, .int 0, .int 0, .int 0, .int 0, .int 0, .int 0])) (h1 : ct (i + 1) = .inl (cI, 4, .inl (fun _ => 0))) (h2 : ct (i + 2) = .inl (cS, 8, .inr (.inr (.inr (.inr (fun _ => none)))))) : wl_ME l y_T_init (Cond.code y_T_init b_T_init 1 none :: TT) (rn_ 1 2 12) D classes (kw_ty cI cT cS) ad [.ref (ad i)] (i + 1) ct (i + 3) (va_up ct i (.inr (2, [.ref (ad (i + 1)), .ref (ad (i + 2)), .int 0, .int 0, .int (-2), .int 0, .int 0, .int 0, .int 0]))) 2 12 sz := by
  have hij : wl_inj (i + 1) ad := fun a b ha hb => hinj a b (by omega) (by omega)
  have hij2 : wl_inj (i + 1 + 1) ad := fun a b ha hb => hinj a b (by omega) (by omega)
  refine wl_enterE (own := R_T) rfl (by decide) (Nat.le_of_ble_eq_true rfl) hij (fun p_ e_ s_ m_ below meth c_ ls hsz X hml hr hlocks hnm hl hP hS hE => ?_)
  have hx := X.1
  have hb := X.2.1
  have hA : ∀ q, s_.heap.size ≤ q → (wl_A (i + 1) ad s_.heap.size) q := fun q h => Or.inr h
  have hl : lv_has ls 1 [(0, .ref (ad i))] := hl
  refine lv_aload_n hx hb d_T_init_0 rfl (lv_at hl 0 rfl) ?_
  refine W.objInit hx hb X.2.2.1 (X.2.2.2.1 _ wo_T) (X.2.2.2.1 _ wo_i) (X.2.2.2.1 _ wo_c) rfl (by rw [hml]; exact hl.1) rfl d_T_init_1 (Nat.le_of_ble_eq_true rfl) (Nat.le_of_ble_eq_true rfl) ?_
  refine W.eq (g2 := F0 m_ 4 ls []) rfl ?_
  refine lv_aload_n hx hb d_T_init_4 rfl (lv_at hl 0 rfl) ?_
  refine lv_iconst (v := 4) hx hb d_T_init_5 (by decide) ?_
  refine wl_size (fun hz1 hz2 => wl_newI X hP hS hA (n := i + 1) (pin_0 hsz hz1 hz2 (hp1.trans (Nat.add_zero _).symm)) hij2 (atype := .int) wa_I 0 rfl (N := 4) rfl (by decide) rfl (by decide) (fun _ h => h) h1 (Nat.le_of_ble_eq_true rfl) (Nat.le_of_ble_eq_true rfl) d_T_init_6 (fun H hz hP X hS => ?_))
  clear hz1 hz2 hz
  refine wl_putF X hP hS (i := i) (by omega) h0 rfl i_T ft_T ft_T_ok fn_T 0 (by decide) lf_T_9 rfl hnm rfl rfl rfl (Nat.le_of_ble_eq_true rfl) d_T_init_8 (fun j _ => rfl) (fun H locs hP hS => ?_)
  refine lv_aload_n hx hb d_T_init_11 rfl (lv_at hl 0 rfl) ?_
  refine lv_bipush (v := 8) hx hb d_T_init_12 (by decide) ?_
  refine wl_size (fun hz1 hz2 => wl_newR X hP hS hA (n := i + 1 + 1) (pin_s (k := 0) hsz hz2 (wl_top_ hP (i := i + 1) (by omega)) (hp1.trans (Nat.add_zero _).symm) hp2) hinj (C := R_E) wl_T_15 hE.1.1 2 rfl (N := 8) rfl (by decide) ((va_up_ne _ _ (by omega)).trans h2) (Nat.le_of_ble_eq_true rfl) (Nat.le_of_ble_eq_true rfl) d_T_init_14 (fun H hz hP X hS => ?_))
  clear hz1 hz2 hz
  refine wl_putF X hP hS (i := i) (by omega) (va_up_self _ _ _) rfl i_T ft_T ft_T_ok fn_T 1 (by decide) lf_T_17 rfl hnm rfl rfl rfl (Nat.le_of_ble_eq_true rfl) d_T_init_17 (fun j _ => congrFun (bx_uu _ _ _ _) j) (fun H locs hP hS => ?_)
  refine lv_aload_n hx hb d_T_init_20 rfl (lv_at hl 0 rfl) ?_
  refine lv_iconst (v := 0) hx hb d_T_init_21 (by decide) ?_
  refine wl_put X hP hS (i := i) (by omega) (va_up_self _ _ _) rfl i_T ft_T ft_T_ok fn_T 2 (by decide) lf_T_21 rfl rfl rfl (Nat.le_of_ble_eq_true rfl) d_T_init_22 (bx_uu _ _ _ _) (fun H locs hP hS => ?_)
  refine lv_aload_n hx hb d_T_init_25 rfl (lv_at hl 0 rfl) ?_
  refine lv_bipush (v := -2) hx hb d_T_init_26 (by decide) ?_
  refine wl_put X hP hS (i := i) (by omega) (va_up_self _ _ _) rfl i_T ft_T ft_T_ok fn_T 4 (by decide) lf_T_25 rfl rfl rfl (Nat.le_of_ble_eq_true rfl) d_T_init_28 (bx_uu _ _ _ _) (fun H locs hP hS => ?_)
  exact wl_vretN X hsz hr hlocks hP hS (Nat.le_refl _) (Nat.le_refl _) d_T_init_31
theorem wl_preE {s : State} {H : Heap} {D : va_G} {cl : List vw_C} {tys : List (ClassId × FieldType)} {n : Nat} {ad : Nat → Nat} {ct : Nat → va_E} {As : List Value} (hK : va_K D cl tys s) (hP : va_P D cl (wl_W n ad ct) H) (hE : kw_AO s) (U : State) (hU : U.heap = H) (hW : s.WarmedH U.vm) : wl_PcE As D cl tys n ad ct H.size As.toArray U := ⟨rfl, by rw [hU], ⟨by rw [hU]; exact hP, va_K.moved hW.alike hK⟩, kw_AO.warm hW hE⟩
section WLE
variable {p : Program} {l : Launch} {e : Env} {R : Room} {s : State} {m : MethodId} {args : Array Value} {below : List Frame} {meth : Method} {c : Code} {H : Heap} {locs : List Loc} {cells slots : Nat} {Q : State → Prop}
variable {cc : ByteArray} {pc : Nat} {ls : Array Slot} {rest st0 : List Value} {D : va_G} {cl : List vw_C} {tys : List (ClassId × FieldType)} {H0 : Heap} {n n2 sz mc ms : Nat} {ad : Nat → Nat} {ct ct2 : Nat → va_E} {own : String} {Ts : List Cond} {A : Nat → Prop}
variable {nL maxL index na : Nat} {y : MethodName} {bytes : ByteArray} {rm : Room} {Qc : Array Value → State → Outcome → State → Prop} {free : Addr → Prop} {As : List Value} {b : Nat}
theorem wl_runIE (X : wl_X p s m args c cc own Ts D cl tys n ad A) (hE : kw_AO s) (hml : c.maxLocals = nL) (hsz : ls.size = nL) (hP : va_P D cl (wl_W n ad ct) H) (hG : GoodIn Ts Ts)
    (hM : Met l y (Cond.code y bytes maxL none :: Ts) rm (wl_PcE (.ref b :: As) D cl tys n ad ct H.size) Qc mc ms free) (hrc : rm.cells = mc) (hrs : rm.slots = ms)
    (hws : Cond.methodLink own index y ∈ Ts ∧ Cond.instanceMethod y ∈ Ts ∧ Cond.initialized y.cls ∈ Ts ∧ Cond.code y bytes maxL none ∈ Ts) (hy1 : y.name = "<init>")
    (hd : y.cls ≠ "java/lang/invoke/MethodHandle" ∧ y.cls ≠ "java/lang/invoke/VarHandle" ∧ (parseMethodDescriptor y.desc).map (fun d => d.parameters.length) = some na) (hna : As.length = na) (hR : rm.frames + 1 ≤ R.frames ∧ 8 + (maxL + 11) + rm.locals ≤ R.locals)
    (hst : st0 = As.reverse ++ .ref b :: rest) (hro : (rest.map fun v => v.category).sum ≤ 8) (hdg : decode cc pc = .ok (.invokespecial index, 3)) (hcs : cells + mc ≤ R.cells ∧ slots + ms ≤ R.slots) :
    va_Run p l e R s m args below meth c H locs cells slots mc ms (F0 m pc ls st0) rest (Qc (Value.ref b :: As).toArray) free := by
  have hG2 : GoodIn Ts (Cond.code y bytes maxL none :: Ts) := wl_good hG (fun w hw => by
    rcases List.mem_cons.mp hw with h | h
    · rw [h]; exact hws.2.2.2
    · exact h)
  exact va_runI ⟨X.1, X.2.1, hml, X.2.2.1, X.2.2.2.1⟩ hM (cwI na X.2.2.2.1 hG2 rfl hrc hrs (X.2.2.2.1 _ hws.2.2.1) (X.2.2.2.1 _ hws.1) (X.2.2.2.1 _ hws.2.1) hy1 hd hR) ⟨wl_blindE, fun U hU hW => wl_preE X.2.2.2.2.1 hP hE U hU hW⟩ rfl hna hsz hst (lv_room hro) hdg hcs
theorem wl_runINE {host : String} (X : wl_X p s m args c cc own Ts D cl tys n ad A) (hE : kw_AO s) (hml : c.maxLocals = nL) (hsz : ls.size = nL) (hP : va_P D cl (wl_W n ad ct) H) (hG : GoodIn Ts Ts)
    (hM : Met l y (Cond.code y bytes maxL none :: Ts) rm (wl_PcE (.ref b :: As) D cl tys n ad ct H.size) Qc mc ms free) (hrc : rm.cells = mc) (hrs : rm.slots = ms)
    (hws : va_Nw (.methodLinkNest own index y host) s ∧ Cond.instanceMethod y ∈ Ts ∧ Cond.initialized y.cls ∈ Ts ∧ Cond.code y bytes maxL none ∈ Ts) (hy1 : y.name = "<init>")
    (hd : y.cls ≠ "java/lang/invoke/MethodHandle" ∧ y.cls ≠ "java/lang/invoke/VarHandle" ∧ (parseMethodDescriptor y.desc).map (fun d => d.parameters.length) = some na) (hna : As.length = na) (hR : rm.frames + 1 ≤ R.frames ∧ 8 + (maxL + 11) + rm.locals ≤ R.locals)
    (hst : st0 = As.reverse ++ .ref b :: rest) (hro : (rest.map fun v => v.category).sum ≤ 8) (hdg : decode cc pc = .ok (.invokespecial index, 3)) (hcs : cells + mc ≤ R.cells ∧ slots + ms ≤ R.slots) :
    va_Run p l e R s m args below meth c H locs cells slots mc ms (F0 m pc ls st0) rest (Qc (Value.ref b :: As).toArray) free := by
  have hG2 : GoodIn Ts (Cond.code y bytes maxL none :: Ts) := wl_good hG (fun w hw => by
    rcases List.mem_cons.mp hw with h | h
    · rw [h]; exact hws.2.2.2
    · exact h)
  exact va_runIN ⟨X.1, X.2.1, hml, X.2.2.1, X.2.2.2.1⟩ hM ⟨va_cnB na X.2.2.2.1 hG2 rfl hrc hrs hws.1 (X.2.2.2.1 _ hws.2.2.1) hd hR, hy1, X.2.2.2.1 _ hws.2.1⟩ ⟨wl_blindE, fun U hU hW => wl_preE X.2.2.2.2.1 hP hE U hU hW⟩ rfl hna hsz hst (lv_room hro) hdg hcs
end WLE
/-- the class' state at its beginning (but for the turn) -/
def ki_S : kw_S := (fun _ _ _ => 0, fun c _ j => if c = 7 then 4 else if c = 9 then 32 else if c = 10 then (if j = 0 then 6 else 32) else if c = 5 then 32 else if c = 6 then 32 else 0)
def mi_ct (cI cT cS : ClassId) (ad : Nat → Nat) (base : Nat → va_E) (i : Nat) : Nat → va_E := fun q => if q < 2 then base q else if q = 3 then .inl (cS, 32, .inr (.inr (.inr (.inr (fun j => if j < i then some (ad (6 + 2 * j)) else none))))) else kw_C cI cT cS ad ki_S q
theorem mi_M {cI cT cS : ClassId} {ad : Nat → Nat} {base : Nat → va_E} {i : Nat} : mi_ct cI cT cS ad base i 2 = .inr (1, [.ref (ad 3), .ref (ad 4), .ref (ad 5), .int 0, .int 0, .int 0, .int 0, .int 0]) := by
  unfold mi_ct
  rw [if_neg (by decide), if_neg (by decide), kw_cM]
  rfl
theorem mi_E {cI cT cS : ClassId} {ad : Nat → Nat} {base : Nat → va_E} {i j : Nat} (h : j < 32) : mi_ct cI cT cS ad base i (6 + 2 * j) = .inr (3, [.ref (ad (7 + 2 * j)), .int 0, .int (-2), .int (-2), .int 0, .int 0]) := by
  unfold mi_ct
  rw [if_neg (by omega), if_neg (by omega), kw_cE h]
  rfl
theorem mi_W {cI cT cS : ClassId} {ad : Nat → Nat} {base : Nat → va_E} {i j : Nat} (h : j < 32) : mi_ct cI cT cS ad base i (6 + 2 * j + 1) = .inl (cI, 8, .inl (fun _ => 0)) := by
  unfold mi_ct
  rw [if_neg (by omega), if_neg (by omega), show 6 + 2 * j + 1 = 7 + 2 * j by omega, kw_cAW h]
  rfl
theorem mi_s {cI cT cS : ClassId} {ad : Nat → Nat} {base : Nat → va_E} {i : Nat} : va_up (mi_ct cI cT cS ad base i) 3 (.inl (cS, 32, .inr (.inr (.inr (.inr (va_up (fun j => if j < i then some (ad (6 + 2 * j)) else none) i (some (ad (6 + 2 * i)))))))) ) = mi_ct cI cT cS ad base (i + 1) := by
  have hf : va_up (fun j => if j < i then some (ad (6 + 2 * j)) else none) i (some (ad (6 + 2 * i))) = fun j => if j < i + 1 then some (ad (6 + 2 * j)) else none := by
    funext j
    unfold va_up
    by_cases h : j = i
    · rw [if_pos h, if_pos (by omega), h]
    · rw [if_neg h]
      show (if j < i then some (ad (6 + 2 * j)) else none) = _
      by_cases h2 : j < i
      · rw [if_pos h2, if_pos (by omega)]
      · rw [if_neg h2, if_neg (by omega)]
  rw [hf]
  funext q
  by_cases h : q = 3
  · subst h
    rw [va_up_self]
    rfl
  · rw [va_up_ne _ _ h]
    unfold mi_ct
    simp only [if_neg h]
theorem mi_d : ∀ j, j < 6 → defaultValue (ft_E j) = vp_V [.null, .int 0, .int 0, .int 0, .int 0, .int 0] j := fun j hj => by
  rcases (show j = 0 ∨ j = 1 ∨ j = 2 ∨ j = 3 ∨ j = 4 ∨ j = 5 by omega) with rfl | rfl | rfl | rfl | rfl | rfl <;> rfl
set_option maxHeartbeats 4000000 in
set_option maxRecDepth 100000 in
theorem c_M_init_L {l : Launch} {D : va_G} {cI cT cS : ClassId} {ad : Nat → Nat} {base : Nat → va_E} {p_ : Program} {e_ : Env} {s_ : State} {m_ : MethodId} {args : Array Value} {below : List Frame} {meth : Method} {c_ : Code} {sz : Nat} (hinj : wl_inj 70 ad) (hpin : ∀ k, k < 67 → ad (k + 3) = sz + k) (hE : kw_AO s_) (hml : c_.maxLocals = 2) (hsz : s_.heap.size = sz) (hr : meth.sig.returnType = none) (hlocks : meth.locks = false) :
    ∀ (n i : Nat) (h_i : i + n = 32) (X : wl_X p_ s_ m_ args c_ b_M_init R_M TT D classes (kw_ty cI cT cS) (6 + 2 * i) ad (wl_A 3 ad s_.heap.size)) (H : Heap) (locs : List Loc) (ls : Array Slot), lv_has ls 2 [(0, .ref (ad 2)), (1, .int (nI i))] → va_P D classes (wl_W (6 + 2 * i) ad (mi_ct cI cT cS ad base i)) H → va_S (wl_A 3 ad s_.heap.size) s_.heap H locs → W p_ l e_ (rn_ 2 67 518) s_ m_ args below meth c_ H locs (3 + 2 * i) (70 + 14 * i) (MQ below (wl_QvN D classes (kw_ty cI cT cS) 3 ad 70 (mi_ct cI cT cS ad base 32) sz) args s_ 67 518 (wl_A 3 ad sz)) (F0 m_ 33 ls []) := by
  intro n
  induction n with
  | zero =>
    intro i h_i X H locs ls hl hP hS
    have hx := X.1
    have hb := X.2.1
    obtain rfl : i = 32 := by omega
    refine lv_iload_n hx hb d_M_init_33 rfl (lv_at hl 1 rfl) ?_
    refine lv_bipush (v := 32) hx hb d_M_init_34 (by decide) ?_
    refine lv_icmp_ge (tgt := 58) hx hb d_M_init_36 (by decide) (fun c1 => ?_) (fun c1 => ?_)
    · exact wl_vretN X hsz hr hlocks hP hS (by decide) (by decide) d_M_init_58
    · exact absurd (sk_lhz h_i) c1
  | succ n ih =>
    intro i h_i X H locs ls hl hP hS
    have hx := X.1
    have hb := X.2.1
    have hA : ∀ q, s_.heap.size ≤ q → (wl_A 3 ad s_.heap.size) q := fun q h => Or.inr h
    refine lv_iload_n hx hb d_M_init_33 rfl (lv_at hl 1 rfl) ?_
    refine lv_bipush (v := 32) hx hb d_M_init_34 (by decide) ?_
    refine lv_icmp_ge (tgt := 58) hx hb d_M_init_36 (by decide) (fun c1 => ?_) (fun c1 => ?_)
    · exact absurd c1 (sk_lhs h_i)
    · refine lv_aload_n hx hb d_M_init_39 rfl (lv_at hl 0 rfl) ?_
      refine wl_get (v := .ref (ad 3)) X hP (i := 2) (by omega) mi_M rfl i_M 0 (by decide) lf_M_11 rfl d_M_init_40 ?_
      refine lv_iload_n hx hb d_M_init_43 rfl (lv_at hl 1 rfl) ?_
      have hP1 : va_P D classes (wl_W (6 + 2 * i) ad (va_up (mi_ct cI cT cS ad base i) (6 + 2 * i) (.inr (3, [.null, .int 0, .int 0, .int 0, .int 0, .int 0])))) H := by
        rw [← wl_cg (ct := mi_ct cI cT cS ad base i) (fun j hj => (va_up_ne _ _ (by omega)).symm)]
        exact hP
      have a5 : ad (5 + 2 * i) = sz + (2 + 2 * i) := by
        rw [show 5 + 2 * i = (2 + 2 * i) + 3 by omega]
        exact hpin _ (by omega)
      have a6 : ad (6 + 2 * i) = sz + (3 + 2 * i) := by
        rw [show 6 + 2 * i = (3 + 2 * i) + 3 by omega]
        exact hpin _ (by omega)
      have a7 : ad (6 + 2 * i + 1) = sz + (4 + 2 * i) := by
        rw [show 6 + 2 * i + 1 = (4 + 2 * i) + 3 by omega]
        exact hpin _ (by omega)
      refine wl_size (fun hz1 hz2 => ?_)
      have hlow : ad (5 + 2 * i) < H.size := wl_top_ hP (by omega)
      have hHs : H.size = sz + (3 + 2 * i) := by omega
      refine wl_newO X hP1 hS hA (n := 6 + 2 * i) (a6.trans hHs.symm) (fun a b ha hb => hinj a b (by omega) (by omega)) (C := R_E) (T := F_E) (N := 6) (ci := 3) rfl i_E ft_E ft_E_ok wl_M_9 wk_E wn_E mi_d (va_up_self _ _ _) (by show 3 + 2 * i + 1 ≤ 67; omega) (by show 70 + 14 * i + 6 ≤ 518; omega) d_M_init_44 (fun H1 hz hP X hS => ?_)
      refine lv_dup hx hb d_M_init_47 rfl ?_
      refine wl_govN (n2 := 6 + 2 * i + 2) (mc := 1) (ms := 8) hS hA X.2.2.2.2.2.2 (wl_runIN (As := []) (rest := [.ref (ad (6 + 2 * i)), .int (nI i), .ref (ad 3)]) (na := 0) X hml hl.1 hP g_TT (c_E_init (i := 6 + 2 * i) (fun a b ha hb => hinj a b (by omega) (by omega)) H1.size (by rw [a7]; omega) _ (va_up_self _ _ _) ((va_up_ne _ _ (by omega)).trans (mi_W (by omega)))) rfl rfl ⟨hE.2.1, wi_E_init, wn_E, wc_E_init⟩ rfl (by decide +kernel) rfl ⟨Nat.le_of_ble_eq_true rfl, Nat.le_of_ble_eq_true rfl⟩ rfl (Nat.le_of_ble_eq_true rfl) d_M_init_48 ⟨by show 3 + 2 * i + 1 + 1 ≤ 67; omega, by show 70 + 14 * i + 6 + 8 ≤ 518; omega⟩) (fun H2 locs hP hS _ _ => ?_)
      have hP : va_P D classes (wl_W (6 + 2 * i + 2) ad (mi_ct cI cT cS ad base i)) H2 := by
        rw [← wl_cg (fun j hj => ?_)]
        · exact hP
        · by_cases h : j = 6 + 2 * i
          · rw [h, va_up_self, mi_E (by omega), show 6 + 2 * i + 1 = 7 + 2 * i by omega]
          · rw [va_up_ne _ _ h, va_up_ne _ _ h]
      have X := wl_Xs X (fun a b ha hb => hinj a b (by omega) (by omega)) (Or.inr (by rw [a7]; omega))
      refine wl_aast X hP hS (i := 3) (by omega) 2 (r := (R_E, F_E, 6)) (f := fun j => if j < i then some (ad (6 + 2 * j)) else none) rfl rfl (j := i) rfl (by omega) (by decide) (k := 6 + 2 * i) (by omega) (mi_E (by omega)) rfl d_M_init_51 mi_s (fun H3 locs hP hS => ?_)
      refine lv_iinc (v := nI (i + 1)) (lv' := [(1, .int (nI (i + 1))), (0, .ref (ad 2))]) hx hb d_M_init_52 hl (k := 1) rfl (nI_1 _) (by decide) rfl (fun ls hl => ?_)
      refine lv_goto (tgt := 33) hx hb d_M_init_55 (by decide) ?_
      refine W.widen (k := 3 + 2 * (i + 1)) (n := 70 + 14 * (i + 1)) (by omega) (by omega) ?_
      exact ih (i + 1) (by omega) X _ _ _ (lv_sub hl [1, 0] rfl) hP hS
def mi_c0 (cI cT cS : ClassId) (ad : Nat → Nat) (base : Nat → va_E) (fs : List Value) : Nat → va_E := fun q => if q = 2 then .inr (1, fs) else mi_ct cI cT cS ad base 0 q
theorem mi_up {cI cT cS : ClassId} {ad : Nat → Nat} {base : Nat → va_E} {fs fs1 fs2 : List Value} (h : fs1 = fs2) {n : Nat} : ∀ j, j < n → va_up (mi_c0 cI cT cS ad base fs) 2 (.inr (1, fs1)) j = mi_c0 cI cT cS ad base fs2 j := by
  subst h
  intro j _
  unfold va_up mi_c0
  by_cases h : j = 2
  · rw [if_pos h, if_pos h]
  · simp only [if_neg h]
theorem mi_none {ad : Nat → Nat} {g : Nat → Nat} : (fun j : Nat => if j < 0 then some (ad (g j)) else none) = fun _ => none := funext fun j => if_neg (Nat.not_lt_zero j)
theorem mi_3 {cI cT cS : ClassId} {ad : Nat → Nat} {base : Nat → va_E} {fs : List Value} : mi_c0 cI cT cS ad base fs 3 = .inl (cS, 32, .inr (.inr (.inr (.inr (fun _ => none))))) := by
  show Sum.inl (cS, 32, Sum.inr (Sum.inr (Sum.inr (Sum.inr (fun j : Nat => if j < 0 then some (ad (6 + 2 * j)) else none))))) = _
  rw [mi_none (g := fun j => 6 + 2 * j)]
theorem mi_4 {cI cT cS : ClassId} {ad : Nat → Nat} {base : Nat → va_E} {fs : List Value} : mi_c0 cI cT cS ad base fs 4 = .inl (cS, 6, .inr (.inr (.inr (.inr (fun _ => none))))) := by
  unfold mi_c0 mi_ct
  rw [if_neg (by decide), if_neg (by decide), if_neg (by decide), kw_cAF]
  rfl
theorem mi_5 {cI cT cS : ClassId} {ad : Nat → Nat} {base : Nat → va_E} {fs : List Value} : mi_c0 cI cT cS ad base fs 5 = .inl (cS, 32, .inr (.inr (.inr (.inr (fun _ => none))))) := by
  unfold mi_c0 mi_ct
  rw [if_neg (by decide), if_neg (by decide), if_neg (by decide), kw_cAL]
  rfl
set_option maxHeartbeats 4000000 in
set_option maxRecDepth 100000 in
/-- Memory(): the object at place 2; frames, slots and 32 sheets behind it -/
theorem c_M_init {l : Launch} {D : va_G} {cI cT cS : ClassId} {ad : Nat → Nat} {base : Nat → va_E} (hinj : wl_inj 70 ad) (sz : Nat) (hpin : ∀ k, k < 67 → ad (k + 3) = sz + k) : wl_ME l y_M_init (Cond.code y_M_init b_M_init 2 none :: TT) (rn_ 2 67 518) D classes (kw_ty cI cT cS) ad [.ref (ad 2)] 3 (mi_c0 cI cT cS ad base [.null, .null, .null, .int 0, .int 0, .int 0, .int 0, .int 0]) 70 (mi_ct cI cT cS ad base 32) 67 518 sz := by
  have hij : ∀ k, k ≤ 70 → wl_inj k ad := fun k hk i j hi hj => hinj i j (by omega) (by omega)
  refine wl_enterE (own := R_M) rfl (by decide) (Nat.le_of_ble_eq_true rfl) (hij 3 (by decide)) (fun p_ e_ s_ m_ below meth c_ ls hsz X hml hr hlocks hnm hl hP hS hE => ?_)
  have hx := X.1
  have hb := X.2.1
  have hA : ∀ q, s_.heap.size ≤ q → (wl_A 3 ad s_.heap.size) q := fun q h => Or.inr h
  have hl : lv_has ls 2 [(0, .ref (ad 2))] := hl
  refine lv_aload_n hx hb d_M_init_0 rfl (lv_at hl 0 rfl) ?_
  refine W.objInit hx hb X.2.2.1 (X.2.2.2.1 _ wo_M) (X.2.2.2.1 _ wo_i) (X.2.2.2.1 _ wo_c) rfl (by rw [hml]; exact hl.1) rfl d_M_init_1 (Nat.le_of_ble_eq_true rfl) (Nat.le_of_ble_eq_true rfl) ?_
  refine W.eq (g2 := F0 m_ 4 ls []) rfl ?_
  refine lv_aload_n hx hb d_M_init_4 rfl (lv_at hl 0 rfl) ?_
  refine lv_bipush (v := 32) hx hb d_M_init_5 (by decide) ?_
  refine wl_size (fun hz1 hz2 => wl_newR X hP hS hA (n := 3) (pin_0 hsz hz1 hz2 (hpin 0 (by decide))) (hij 4 (by decide)) (C := R_E) wl_M_9 hE.1.1 2 rfl (N := 32) rfl (by decide) mi_3 (Nat.le_of_ble_eq_true rfl) (Nat.le_of_ble_eq_true rfl) d_M_init_7 (fun H hz hP X hS => ?_))
  clear hz1 hz2 hz
  refine wl_putF X hP hS (i := 2) (fs := [.null, .null, .null, .int 0, .int 0, .int 0, .int 0, .int 0]) (by decide) rfl rfl i_M ft_M ft_M_ok fn_M 0 (by decide) lf_M_11 rfl hnm rfl rfl rfl (Nat.le_of_ble_eq_true rfl) d_M_init_10 (ct' := mi_c0 cI cT cS ad base [.ref (ad 3), .null, .null, .int 0, .int 0, .int 0, .int 0, .int 0]) (mi_up rfl) (fun H locs hP hS => ?_)
  refine lv_aload_n hx hb d_M_init_13 rfl (lv_at hl 0 rfl) ?_
  refine lv_bipush (v := 6) hx hb d_M_init_14 (by decide) ?_
  refine wl_size (fun hz1 hz2 => wl_newR X hP hS hA (n := 4) (pin_s hsz hz2 (wl_top_ hP (i := 3) (by decide)) (hpin 0 (by decide)) (hpin 1 (by decide))) (hij 5 (by decide)) (C := R_E) wl_M_9 hE.1.1 2 rfl (N := 6) rfl (by decide) mi_4 (Nat.le_of_ble_eq_true rfl) (Nat.le_of_ble_eq_true rfl) d_M_init_16 (fun H hz hP X hS => ?_))
  clear hz1 hz2 hz
  refine wl_putF X hP hS (i := 2) (fs := [.ref (ad 3), .null, .null, .int 0, .int 0, .int 0, .int 0, .int 0]) (by decide) rfl rfl i_M ft_M ft_M_ok fn_M 1 (by decide) lf_M_17 rfl hnm rfl rfl rfl (Nat.le_of_ble_eq_true rfl) d_M_init_19 (ct' := mi_c0 cI cT cS ad base [.ref (ad 3), .ref (ad 4), .null, .int 0, .int 0, .int 0, .int 0, .int 0]) (mi_up rfl) (fun H locs hP hS => ?_)
  refine lv_aload_n hx hb d_M_init_22 rfl (lv_at hl 0 rfl) ?_
  refine lv_bipush (v := 32) hx hb d_M_init_23 (by decide) ?_
  refine wl_size (fun hz1 hz2 => wl_newR X hP hS hA (n := 5) (pin_s hsz hz2 (wl_top_ hP (i := 4) (by decide)) (hpin 1 (by decide)) (hpin 2 (by decide))) (hij 6 (by decide)) (C := R_E) wl_M_9 hE.1.1 2 rfl (N := 32) rfl (by decide) mi_5 (Nat.le_of_ble_eq_true rfl) (Nat.le_of_ble_eq_true rfl) d_M_init_25 (fun H hz hP X hS => ?_))
  clear hz1 hz2 hz
  refine wl_putF X hP hS (i := 2) (fs := [.ref (ad 3), .ref (ad 4), .null, .int 0, .int 0, .int 0, .int 0, .int 0]) (by decide) rfl rfl i_M ft_M ft_M_ok fn_M 2 (by decide) lf_M_20 rfl hnm rfl rfl rfl (Nat.le_of_ble_eq_true rfl) d_M_init_28 (ct' := mi_c0 cI cT cS ad base [.ref (ad 3), .ref (ad 4), .ref (ad 5), .int 0, .int 0, .int 0, .int 0, .int 0]) (mi_up rfl) (fun H locs hP hS => ?_)
  have hP : va_P D classes (wl_W (6 + 2 * 0) ad (mi_ct cI cT cS ad base 0)) H := by
    rw [← wl_cg (ct := mi_c0 cI cT cS ad base [.ref (ad 3), .ref (ad 4), .ref (ad 5), .int 0, .int 0, .int 0, .int 0, .int 0]) (fun j hj => ?_)]
    · exact hP
    · unfold mi_c0
      by_cases h : j = 2
      · rw [if_pos h, h, mi_M]
      · rw [if_neg h]
  refine lv_iconst (v := 0) hx hb d_M_init_31 (by decide) ?_
  refine lv_istore_n (lv' := [(1, .int (0 : Int32)), (0, .ref (ad 2))]) hx hb d_M_init_32 rfl hl (by decide) rfl (fun ls hl => ?_)
  refine W.widen (k := 3 + 2 * 0) (n := 70 + 14 * 0) (by decide) (by decide) ?_
  exact c_M_init_L hinj hpin hE hml hsz hr hlocks 32 0 rfl X _ _ _ (lv_sub hl [1, 0] rfl) hP hS
def kk_b (cT : ClassId) (ad : Nat → Nat) (fs : List Value) (p : Nat) : Nat → va_E := fun q => if q = 0 then .inr (0, fs) else .inl (cT, 4, .inr (.inr (.inr (.inr (fun j => if j < p then some (ad (71 + 3 * j)) else none)))))
theorem kk_up0 {cI cT cS : ClassId} {ad : Nat → Nat} {fM fs fs1 fs2 : List Value} {p : Nat} (h : fs1 = fs2) {n : Nat} : ∀ j, j < n → va_up (mi_c0 cI cT cS ad (kk_b cT ad fs p) fM) 0 (.inr (0, fs1)) j = mi_c0 cI cT cS ad (kk_b cT ad fs2 p) fM j := by
  subst h
  intro j _
  by_cases h : j = 0
  · subst h
    rw [va_up_self]
    rfl
  · rw [va_up_ne _ _ h]
    unfold mi_c0 mi_ct kk_b
    simp only [if_neg h]
theorem kk_up1 {cI cT cS : ClassId} {ad : Nat → Nat} {fs fs1 fs2 : List Value} {p i : Nat} (h : fs1 = fs2) : va_up (mi_ct cI cT cS ad (kk_b cT ad fs p) i) 0 (.inr (0, fs1)) = mi_ct cI cT cS ad (kk_b cT ad fs2 p) i := by
  subst h
  funext j
  by_cases h : j = 0
  · subst h
    rw [va_up_self]
    rfl
  · rw [va_up_ne _ _ h]
    unfold mi_ct kk_b
    simp only [if_neg h]
theorem kk_t {cI cT cS : ClassId} {ad : Nat → Nat} {fs : List Value} {p i : Nat} : va_up (mi_ct cI cT cS ad (kk_b cT ad fs p) i) 1 (.inl (cT, 4, .inr (.inr (.inr (.inr (va_up (fun j => if j < p then some (ad (71 + 3 * j)) else none) p (some (ad (71 + 3 * p))))))))) = mi_ct cI cT cS ad (kk_b cT ad fs (p + 1)) i := by
  have hf : va_up (fun j => if j < p then some (ad (71 + 3 * j)) else none) p (some (ad (71 + 3 * p))) = fun j => if j < p + 1 then some (ad (71 + 3 * j)) else none := by
    funext j
    unfold va_up
    by_cases h : j = p
    · rw [if_pos h, if_pos (by omega), h]
    · rw [if_neg h]
      show (if j < p then some (ad (71 + 3 * j)) else none) = _
      by_cases h2 : j < p
      · rw [if_pos h2, if_pos (by omega)]
      · rw [if_neg h2, if_neg (by omega)]
  rw [hf]
  funext q
  by_cases h : q = 1
  · subst h
    rw [va_up_self]
    rfl
  · rw [va_up_ne _ _ h]
    unfold mi_ct kk_b
    by_cases h2 : q < 2
    · rw [if_pos h2, if_pos h2, if_pos (by omega), if_pos (by omega)]
    · rw [if_neg h2, if_neg h2]
theorem kk_T {cI cT cS : ClassId} {ad : Nat → Nat} {base : Nat → va_E} {i j : Nat} (h : j < 4) : mi_ct cI cT cS ad base i (71 + 3 * j) = .inr (2, [.ref (ad (72 + 3 * j)), .ref (ad (73 + 3 * j)), .int 0, .int 0, .int (-2), .int 0, .int 0, .int 0, .int 0]) := by
  unfold mi_ct
  rw [if_neg (by omega), if_neg (by omega), kw_cT h]
  rfl
theorem kk_R {cI cT cS : ClassId} {ad : Nat → Nat} {base : Nat → va_E} {i j : Nat} (h : j < 4) : mi_ct cI cT cS ad base i (71 + 3 * j + 1) = .inl (cI, 4, .inl (fun _ => 0)) := by
  unfold mi_ct
  rw [if_neg (by omega), if_neg (by omega), show 71 + 3 * j + 1 = 72 + 3 * j by omega, kw_cAR h]
  rfl
theorem kk_P {cI cT cS : ClassId} {ad : Nat → Nat} {base : Nat → va_E} {i j : Nat} (h : j < 4) : mi_ct cI cT cS ad base i (71 + 3 * j + 2) = .inl (cS, 8, .inr (.inr (.inr (.inr (fun _ => none))))) := by
  unfold mi_ct
  rw [if_neg (by omega), if_neg (by omega), show 71 + 3 * j + 2 = 73 + 3 * j by omega, kw_cAP h]
  rfl
theorem kk_d : ∀ j, j < 9 → defaultValue (ft_T j) = vp_V [.null, .null, .int 0, .int 0, .int 0, .int 0, .int 0, .int 0, .int 0] j := fun j hj => by
  rcases (show j = 0 ∨ j = 1 ∨ j = 2 ∨ j = 3 ∨ j = 4 ∨ j = 5 ∨ j = 6 ∨ j = 7 ∨ j = 8 by omega) with rfl | rfl | rfl | rfl | rfl | rfl | rfl | rfl | rfl <;> rfl
theorem kk_dM : ∀ j, j < 8 → defaultValue (ft_M j) = vp_V [.null, .null, .null, .int 0, .int 0, .int 0, .int 0, .int 0] j := fun j hj => by
  rcases (show j = 0 ∨ j = 1 ∨ j = 2 ∨ j = 3 ∨ j = 4 ∨ j = 5 ∨ j = 6 ∨ j = 7 by omega) with rfl | rfl | rfl | rfl | rfl | rfl | rfl | rfl <;> rfl
theorem arrV_cg {cA : ClassId} {n : Nat} {f g : Nat → Value} (h : ∀ j, j < n → f j = g j) : arrV cA n f = arrV cA n g := by
  unfold arrV
  congr 1
  apply Array.ext
  · simp
  · intro i h1 h2
    simp only [Array.getElem_ofFn]
    exact h i (by simpa using h1)
def ki_1 : kw_S := kw_sn ki_S 0 0 1 3
/-- the world behind the constructor is the class' world at its first state -/
theorem kk_end {D : va_G} {cI cT cS : ClassId} {ad : Nat → Nat} {H : Heap} (hP : va_P D classes (wl_W 83 ad (mi_ct cI cT cS ad (kk_b cT ad [.ref (ad 1), .ref (ad 2), .ref (ad 70), .int 0, .int 0, .int 0, .int 0, .int 3, .int 0, .int 0] 4) 32)) H) : va_P D classes (wl_W 83 ad (kw_C cI cT cS ad ki_1)) H := by
  intro k q hk
  obtain ⟨h1, rfl⟩ := wl_of hk
  have h2 := hP k _ (wl_at h1)
  by_cases e0 : k = 0
  · subst e0
    rw [kw_cK]
    exact h2
  by_cases e1 : k = 1
  · subst e1
    rw [kw_cAT]
    refine Eq.trans h2 ?_
    show some (vp_cell cT (4, Sum.inr (Sum.inr (Sum.inr (Sum.inr _))))) = some (vp_cell cT (4, Sum.inr (Sum.inr (Sum.inr (Sum.inr _)))))
    rw [vp_cell_q, vp_cell_q]
    exact congrArg some (arrV_cg (fun j hj => by rw [if_pos hj]))
  by_cases e3 : k = 3
  · subst e3
    rw [kw_cAS]
    refine Eq.trans h2 ?_
    show some (vp_cell cS (32, Sum.inr (Sum.inr (Sum.inr (Sum.inr _))))) = some (vp_cell cS (32, Sum.inr (Sum.inr (Sum.inr (Sum.inr _)))))
    rw [vp_cell_q, vp_cell_q]
    exact congrArg some (arrV_cg (fun j hj => by rw [if_pos hj]))
  have e : kw_C cI cT cS ad ki_1 k = mi_ct cI cT cS ad (kk_b cT ad [.ref (ad 1), .ref (ad 2), .ref (ad 70), .int 0, .int 0, .int 0, .int 0, .int 3, .int 0, .int 0] 4) 32 k := by
    unfold mi_ct
    rw [if_neg (by omega), if_neg e3]
    unfold kw_C ki_1
    have hne : (kw_sn ki_S 0 0 1 3).2 (kw_co k) (kw_ix k) = ki_S.2 (kw_co k) (kw_ix k) := kw_sn_ne (fun h => e0 (kw_inj (q := k) (r := 0) (h.1.trans kw_coK.1.symm) (h.2.trans kw_coK.2.symm)))
    rw [hne]
    rfl
  rw [e]
  exact h2
set_option maxHeartbeats 4000000 in
set_option maxRecDepth 100000 in
theorem c_K_init_L {l : Launch} {D : va_G} {cI cT cS : ClassId} {ad : Nat → Nat} {p_ : Program} {e_ : Env} {s_ : State} {m_ : MethodId} {args : Array Value} {below : List Frame} {meth : Method} {c_ : Code} {sz : Nat} (hinj : wl_inj 83 ad) (hpin : ∀ k, k < 82 → ad (k + 1) = sz + k) (hE : kw_AO s_) (hml : c_.maxLocals = 2) (hsz : s_.heap.size = sz) (hr : meth.sig.returnType = none) (hlocks : meth.locks = false) :
    ∀ (n i : Nat) (h_i : i + n = 4) (X : wl_X p_ s_ m_ args c_ b_K_init R_K TT D classes (kw_ty cI cT cS) (71 + 3 * i) ad (wl_A 1 ad s_.heap.size)) (H : Heap) (locs : List Loc) (ls : Array Slot), lv_has ls 2 [(0, .ref (ad 0)), (1, .int (nI i))] → va_P D classes (wl_W (71 + 3 * i) ad (mi_ct cI cT cS ad (kk_b cT ad [.ref (ad 1), .ref (ad 2), .ref (ad 70), .int 0, .int 0, .int 0, .int 0, .int 3, .int 0, .int 0] i) 32)) H → va_S (wl_A 1 ad s_.heap.size) s_.heap H locs → W p_ l e_ (rn_ 3 82 654) s_ m_ args below meth c_ H locs (70 + 3 * i) (570 + 21 * i) (MQ below (wl_QvN D classes (kw_ty cI cT cS) 1 ad 83 (kw_C cI cT cS ad ki_1) sz) args s_ 82 654 (wl_A 1 ad sz)) (F0 m_ 38 ls []) := by
  intro n
  induction n with
  | zero =>
    intro i h_i X H locs ls hl hP hS
    have hx := X.1
    have hb := X.2.1
    obtain rfl : i = 4 := by omega
    refine lv_iload_n hx hb d_K_init_38 rfl (lv_at hl 1 rfl) ?_
    refine lv_iconst (v := 4) hx hb d_K_init_39 (by decide) ?_
    refine lv_icmp_ge (tgt := 62) hx hb d_K_init_40 (by decide) (fun c1 => ?_) (fun c1 => ?_)
    · exact wl_vretN X hsz hr hlocks (kk_end hP) hS (by decide) (by decide) d_K_init_62
    · exact absurd (sk_lhz h_i) c1
  | succ n ih =>
    intro i h_i X H locs ls hl hP hS
    have hx := X.1
    have hb := X.2.1
    have hA : ∀ q, s_.heap.size ≤ q → (wl_A 1 ad s_.heap.size) q := fun q h => Or.inr h
    refine lv_iload_n hx hb d_K_init_38 rfl (lv_at hl 1 rfl) ?_
    refine lv_iconst (v := 4) hx hb d_K_init_39 (by decide) ?_
    refine lv_icmp_ge (tgt := 62) hx hb d_K_init_40 (by decide) (fun c1 => ?_) (fun c1 => ?_)
    · exact absurd c1 (sk_lhs h_i)
    · refine lv_aload_n hx hb d_K_init_43 rfl (lv_at hl 0 rfl) ?_
      refine wl_get (v := .ref (ad 1)) X hP (i := 0) (by omega) (fs := [.ref (ad 1), .ref (ad 2), .ref (ad 70), .int 0, .int 0, .int 0, .int 0, .int 3, .int 0, .int 0]) rfl rfl i_K 0 (by decide) lf_K_11 rfl d_K_init_44 ?_
      refine lv_iload_n hx hb d_K_init_47 rfl (lv_at hl 1 rfl) ?_
      generalize hB : kk_b cT ad [.ref (ad 1), .ref (ad 2), .ref (ad 70), .int 0, .int 0, .int 0, .int 0, .int 3, .int 0, .int 0] i = base at hP
      have hP1 : va_P D classes (wl_W (71 + 3 * i) ad (va_up (mi_ct cI cT cS ad base 32) (71 + 3 * i) (.inr (2, [.null, .null, .int 0, .int 0, .int 0, .int 0, .int 0, .int 0, .int 0])))) H := by
        rw [← wl_cg (ct := mi_ct cI cT cS ad base 32) (fun j hj => (va_up_ne _ _ (by omega)).symm)]
        exact hP
      have a0 : ad (70 + 3 * i) = sz + (69 + 3 * i) := by
        rw [show 70 + 3 * i = (69 + 3 * i) + 1 by omega]
        exact hpin _ (by omega)
      have a1 : ad (71 + 3 * i) = sz + (70 + 3 * i) := by
        rw [show 71 + 3 * i = (70 + 3 * i) + 1 by omega]
        exact hpin _ (by omega)
      have a2 : ad (71 + 3 * i + 1) = sz + (71 + 3 * i) := hpin _ (by omega)
      have a3 : ad (71 + 3 * i + 2) = sz + (72 + 3 * i) := by
        rw [show 71 + 3 * i + 2 = (72 + 3 * i) + 1 by omega]
        exact hpin _ (by omega)
      refine wl_size (fun hz1 hz2 => ?_)
      have hlow : ad (70 + 3 * i) < H.size := wl_top_ hP (by omega)
      have hHs : H.size = sz + (70 + 3 * i) := by omega
      refine wl_newO X hP1 hS hA (n := 71 + 3 * i) (a1.trans hHs.symm) (fun a b ha hb => hinj a b (by omega) (by omega)) (C := R_T) (T := F_T) (N := 9) (ci := 2) rfl i_T ft_T ft_T_ok wl_K_9 wk_T wn_T kk_d (va_up_self _ _ _) (by show 70 + 3 * i + 1 ≤ 82; omega) (by show 570 + 21 * i + 9 ≤ 654; omega) d_K_init_48 (fun H1 hz hP X hS => ?_)
      refine lv_dup hx hb d_K_init_51 rfl ?_
      refine wl_govN (n2 := 71 + 3 * i + 3) (mc := 2) (ms := 12) hS hA X.2.2.2.2.2.2 (wl_runINE (As := []) (rest := [.ref (ad (71 + 3 * i)), .int (nI i), .ref (ad 1)]) (na := 0) X hE hml hl.1 hP g_TT (c_T_init (i := 71 + 3 * i) (fun a b ha hb => hinj a b (by omega) (by omega)) H1.size (by rw [a2]; omega) (by rw [a3]; omega) _ (va_up_self _ _ _) ((va_up_ne _ _ (by omega)).trans (kk_R (by omega))) ((va_up_ne _ _ (by omega)).trans (kk_P (by omega)))) rfl rfl ⟨hE.2.2, wi_T_init, wn_T, wc_T_init⟩ rfl (by decide +kernel) rfl ⟨Nat.le_of_ble_eq_true rfl, Nat.le_of_ble_eq_true rfl⟩ rfl (Nat.le_of_ble_eq_true rfl) d_K_init_52 ⟨by show 70 + 3 * i + 1 + 2 ≤ 82; omega, by show 570 + 21 * i + 9 + 12 ≤ 654; omega⟩) (fun H2 locs hP hS _ _ => ?_)
      have hP : va_P D classes (wl_W (71 + 3 * i + 3) ad (mi_ct cI cT cS ad base 32)) H2 := by
        rw [← wl_cg (fun j hj => ?_)]
        · exact hP
        · by_cases h : j = 71 + 3 * i
          · rw [h, va_up_self, kk_T (by omega), show 71 + 3 * i + 1 = 72 + 3 * i by omega, show 71 + 3 * i + 2 = 73 + 3 * i by omega]
          · rw [va_up_ne _ _ h, va_up_ne _ _ h]
      have X := wl_Xs (wl_Xs X (fun a b ha hb => hinj a b (by omega) (by omega)) (Or.inr (by rw [a2]; omega))) (fun a b ha hb => hinj a b (by omega) (by omega)) (Or.inr (by rw [show 71 + 3 * i + 1 + 1 = 71 + 3 * i + 2 by omega, a3]; omega))
      subst hB
      refine wl_aast X hP hS (i := 1) (by omega) 1 (r := (R_T, F_T, 9)) (f := fun j => if j < i then some (ad (71 + 3 * j)) else none) rfl rfl (j := i) rfl (by omega) (by decide) (k := 71 + 3 * i) (by omega) (kk_T (by omega)) rfl d_K_init_55 kk_t (fun H3 locs hP hS => ?_)
      refine lv_iinc (v := nI (i + 1)) (lv' := [(1, .int (nI (i + 1))), (0, .ref (ad 0))]) hx hb d_K_init_56 hl (k := 1) rfl (nI_1 _) (by decide) rfl (fun ls hl => ?_)
      refine lv_goto (tgt := 38) hx hb d_K_init_59 (by decide) ?_
      refine W.widen (k := 70 + 3 * (i + 1)) (n := 570 + 21 * (i + 1)) (by omega) (by omega) ?_
      exact ih (i + 1) (by omega) X _ _ _ (lv_sub hl [1, 0] rfl) hP hS
set_option maxHeartbeats 4000000 in
set_option maxRecDepth 100000 in
/-- SheetKernel(): the object at place 0, 82 cells behind it -/
theorem c_K_init {l : Launch} {D : va_G} {cI cT cS : ClassId} {ad : Nat → Nat} (hinj : wl_inj 83 ad) (sz : Nat) (hpin : ∀ k, k < 82 → ad (k + 1) = sz + k) : wl_ME l y_K_init (Cond.code y_K_init b_K_init 2 none :: TT) (rn_ 3 82 654) D classes (kw_ty cI cT cS) ad [.ref (ad 0)] 1 (mi_c0 cI cT cS ad (kk_b cT ad [.null, .null, .null, .int 0, .int 0, .int 0, .int 0, .int 0, .int 0, .int 0] 0) [.null, .null, .null, .int 0, .int 0, .int 0, .int 0, .int 0]) 83 (kw_C cI cT cS ad ki_1) 82 654 sz := by
  have hij : ∀ k, k ≤ 83 → wl_inj k ad := fun k hk i j hi hj => hinj i j (by omega) (by omega)
  refine wl_enterE (own := R_K) rfl (by decide) (Nat.le_of_ble_eq_true rfl) (hij 1 (by decide)) (fun p_ e_ s_ m_ below meth c_ ls hsz X hml hr hlocks hnm hl hP hS hE => ?_)
  have hx := X.1
  have hb := X.2.1
  have hA : ∀ q, s_.heap.size ≤ q → (wl_A 1 ad s_.heap.size) q := fun q h => Or.inr h
  have hl : lv_has ls 2 [(0, .ref (ad 0))] := hl
  refine lv_aload_n hx hb d_K_init_0 rfl (lv_at hl 0 rfl) ?_
  refine W.objInit hx hb X.2.2.1 (X.2.2.2.1 _ wo_K) (X.2.2.2.1 _ wo_i) (X.2.2.2.1 _ wo_c) rfl (by rw [hml]; exact hl.1) rfl d_K_init_1 (Nat.le_of_ble_eq_true rfl) (Nat.le_of_ble_eq_true rfl) ?_
  refine W.eq (g2 := F0 m_ 4 ls []) rfl ?_
  refine lv_aload_n hx hb d_K_init_4 rfl (lv_at hl 0 rfl) ?_
  refine lv_iconst (v := 4) hx hb d_K_init_5 (by decide) ?_
  refine wl_size (fun hz1 hz2 => wl_newR X hP hS hA (n := 1) (pin_0 hsz hz1 hz2 (hpin 0 (by decide))) (hij 2 (by decide)) (C := R_T) wl_K_9 hE.1.2 1 rfl (N := 4) rfl (by decide) (by show Sum.inl (cT, 4, Sum.inr (Sum.inr (Sum.inr (Sum.inr (fun j : Nat => if j < 0 then some (ad (71 + 3 * j)) else none))))) = _; rw [mi_none (g := fun j => 71 + 3 * j)]) (Nat.le_of_ble_eq_true rfl) (Nat.le_of_ble_eq_true rfl) d_K_init_6 (fun H hz hP X hS => ?_))
  clear hz1 hz2 hz
  refine wl_putF X hP hS (i := 0) (fs := [.null, .null, .null, .int 0, .int 0, .int 0, .int 0, .int 0, .int 0, .int 0]) (by decide) rfl rfl i_K ft_K ft_K_ok fn_K 0 (by decide) lf_K_11 rfl hnm rfl rfl rfl (Nat.le_of_ble_eq_true rfl) d_K_init_9 (ct' := mi_c0 cI cT cS ad (kk_b cT ad [.ref (ad 1), .null, .null, .int 0, .int 0, .int 0, .int 0, .int 0, .int 0, .int 0] 0) [.null, .null, .null, .int 0, .int 0, .int 0, .int 0, .int 0]) (kk_up0 rfl) (fun H locs hP hS => ?_)
  refine lv_aload_n hx hb d_K_init_12 rfl (lv_at hl 0 rfl) ?_
  refine wl_size (fun hz1 hz2 => wl_newO X hP hS hA (n := 2) (pin_s hsz hz2 (wl_top_ hP (i := 1) (by decide)) (hpin 0 (by decide)) (hpin 1 (by decide))) (hij 3 (by decide)) (C := R_M) (T := F_M) (N := 8) (ci := 1) rfl i_M ft_M ft_M_ok wl_K_15 wk_M wn_M kk_dM rfl (Nat.le_of_ble_eq_true rfl) (Nat.le_of_ble_eq_true rfl) d_K_init_13 (fun H1 hz hP X hS => ?_))
  have hlow := wl_top_ hP (i := 2) (by decide)
  have h3 : ad 2 = sz + 1 := hpin 1 (by decide)
  have hH1 : H1.size = sz + 2 := by
    have h4 : H.size ≤ s_.heap.size + 1 := hz2
    omega
  refine lv_dup hx hb d_K_init_16 rfl ?_
  refine wl_govN (n2 := 70) (mc := 67) (ms := 518) hS hA X.2.2.2.2.2.2 (wl_runIE (As := []) (rest := [.ref (ad 2), .ref (ad 0)]) (na := 0) X hE hml hl.1 hP g_TT (c_M_init (hij 70 (by decide)) H1.size (fun k hk => by rw [hH1, show k + 3 = (k + 2) + 1 by omega, hpin _ (by omega)]; omega)) rfl rfl ⟨lm_K_17, wi_M_init, wn_M, wc_M_init⟩ rfl (by decide +kernel) rfl ⟨Nat.le_of_ble_eq_true rfl, Nat.le_of_ble_eq_true rfl⟩ rfl (Nat.le_of_ble_eq_true rfl) d_K_init_17 ⟨Nat.le_of_ble_eq_true rfl, Nat.le_of_ble_eq_true rfl⟩) (fun H2 locs hP hS _ _ => ?_)
  clear hz1 hz2 hz hlow h3 hH1
  have X : wl_X p_ s_ m_ [Value.ref (ad 0)].toArray c_ b_K_init R_K TT D classes (kw_ty cI cT cS) 70 ad (wl_A 1 ad s_.heap.size) := ⟨X.1, X.2.1, X.2.2.1, X.2.2.2.1, X.2.2.2.2.1, hij 70 (by decide), fun j hj => by
    by_cases h : j = 0
    · exact Or.inl ⟨0, by decide, by rw [h]⟩
    · refine Or.inr ?_
      rw [show j = (j - 1) + 1 by omega, hpin _ (by omega)]
      omega⟩
  refine wl_putF X hP hS (i := 0) (fs := [.ref (ad 1), .null, .null, .int 0, .int 0, .int 0, .int 0, .int 0, .int 0, .int 0]) (by decide) rfl rfl i_K ft_K ft_K_ok fn_K 1 (by decide) lf_K_18 rfl hnm rfl rfl rfl (Nat.le_of_ble_eq_true rfl) d_K_init_20 (ct' := mi_ct cI cT cS ad (kk_b cT ad [.ref (ad 1), .ref (ad 2), .null, .int 0, .int 0, .int 0, .int 0, .int 0, .int 0, .int 0] 0) 32) (fun j _ => congrFun (kk_up1 rfl) j) (fun H locs hP hS => ?_)
  refine lv_aload_n hx hb d_K_init_23 rfl (lv_at hl 0 rfl) ?_
  refine lv_bipush (v := 40) hx hb d_K_init_24 (by decide) ?_
  refine wl_size (fun hz1 hz2 => wl_newI X hP hS hA (n := 70) (pin_s hsz hz2 (wl_top_ hP (i := 69) (by decide)) (hpin 68 (by decide)) (hpin 69 (by decide))) (hij 71 (by decide)) (atype := .int) wa_I 0 rfl (N := 40) rfl (by decide) rfl (by decide) (fun _ h => h) (by unfold mi_ct; rw [if_neg (by decide), if_neg (by decide), kw_cAK]; rfl) (Nat.le_of_ble_eq_true rfl) (Nat.le_of_ble_eq_true rfl) d_K_init_26 (fun H hz hP X hS => ?_))
  clear hz1 hz2 hz
  refine wl_putF X hP hS (i := 0) (fs := [.ref (ad 1), .ref (ad 2), .null, .int 0, .int 0, .int 0, .int 0, .int 0, .int 0, .int 0]) (by decide) rfl rfl i_K ft_K ft_K_ok fn_K 2 (by decide) lf_K_22 rfl hnm rfl rfl rfl (Nat.le_of_ble_eq_true rfl) d_K_init_28 (ct' := mi_ct cI cT cS ad (kk_b cT ad [.ref (ad 1), .ref (ad 2), .ref (ad 70), .int 0, .int 0, .int 0, .int 0, .int 0, .int 0, .int 0] 0) 32) (fun j _ => congrFun (kk_up1 rfl) j) (fun H locs hP hS => ?_)
  refine lv_aload_n hx hb d_K_init_31 rfl (lv_at hl 0 rfl) ?_
  refine lv_iconst (v := 3) hx hb d_K_init_32 (by decide) ?_
  refine wl_put X hP hS (i := 0) (fs := [.ref (ad 1), .ref (ad 2), .ref (ad 70), .int 0, .int 0, .int 0, .int 0, .int 0, .int 0, .int 0]) (by decide) rfl rfl i_K ft_K ft_K_ok fn_K 7 (by decide) lf_K_26 rfl rfl rfl (Nat.le_of_ble_eq_true rfl) d_K_init_33 (ct' := mi_ct cI cT cS ad (kk_b cT ad [.ref (ad 1), .ref (ad 2), .ref (ad 70), .int 0, .int 0, .int 0, .int 0, .int 3, .int 0, .int 0] 0) 32) (kk_up1 rfl) (fun H locs hP hS => ?_)
  refine lv_iconst (v := 0) hx hb d_K_init_36 (by decide) ?_
  refine lv_istore_n (lv' := [(1, .int (0 : Int32)), (0, .ref (ad 0))]) hx hb d_K_init_37 rfl hl (by decide) rfl (fun ls hl => ?_)
  refine W.widen (k := 70 + 3 * 0) (n := 570 + 21 * 0) (by decide) (by decide) ?_
  exact c_K_init_L hinj hpin hE hml hsz hr hlocks 4 0 rfl X _ _ _ (lv_sub hl [1, 0] rfl) hP hS
