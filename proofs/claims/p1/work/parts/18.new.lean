/-! WORLDS THAT GROW: the next place's address is known before: the heap's size -/
theorem wl_succ {n : Nat} {ad : Nat → Nat} {ct : Nat → va_E} : wl_W (n + 1) ad ct = wl_W n ad ct ++ [(ad n, ct n)] := by
  simp only [wl_W, List.range_succ, List.map_append, List.map_cons, List.map_nil]
theorem wl_cg {n : Nat} {ad : Nat → Nat} {ct ct' : Nat → va_E} (h : ∀ i, i < n → ct i = ct' i) : wl_W n ad ct = wl_W n ad ct' := by
  unfold wl_W
  apply List.map_congr_left
  intro i hi
  rw [h i (List.mem_range.mp hi)]
theorem wl_grow {D : va_G} {cl : List vw_C} {n : Nat} {ad : Nat → Nat} {ct : Nat → va_E} {H H1 : Heap} (hP : va_P D cl (wl_W n ad ct) H) (hpin : ad n = H.size) (o1 : ∀ q : Nat, q < H.size → H1[q]? = H[q]?) (hn : va_at D cl (H.size, ct n) H1) : va_P D cl (wl_W (n + 1) ad ct) H1 := by
  intro k q hk
  obtain ⟨h1, rfl⟩ := wl_of hk
  by_cases h2 : k < n
  · have h3 := hP k _ (wl_at h2)
    exact h3.kept (o1 _ h3.lt)
  · have e : k = n := by omega
    subst e
    rw [hpin]
    exact hn
section WLN
variable {p : Program} {l : Launch} {e : Env} {R : Room} {s : State} {m : MethodId} {args : Array Value} {below : List Frame} {meth : Method} {c : Code} {H : Heap} {locs : List Loc} {cells slots : Nat} {Q : State → Prop}
variable {cc : ByteArray} {pc : Nat} {ls : Array Slot} {rest : List Value} {D : va_G} {cl : List vw_C} {tys : List (ClassId × FieldType)} {H0 : Heap} {n : Nat} {ad : Nat → Nat} {ct ct' : Nat → va_E} {own : String} {Ts : List Cond} {A : Nat → Prop}
theorem wl_Xs (X : wl_X p s m args c cc own Ts D cl tys n ad A) (hinj : wl_inj (n + 1) ad) (hA : A (ad n)) : wl_X p s m args c cc own Ts D cl tys (n + 1) ad A :=
  ⟨X.1, X.2.1, X.2.2.1, X.2.2.2.1, X.2.2.2.2.1, hinj, fun i hi => by
    by_cases h : i < n
    · exact X.2.2.2.2.2.2 i h
    · rw [show i = n by omega]
      exact hA⟩
theorem wl_Ss {H1 : Heap} (hS : va_S A H0 H locs) (z : H1.size = H.size + 1) (o1 : ∀ q : Nat, q < H.size → H1[q]? = H[q]?) : va_S A H0 H1 locs :=
  ⟨Nat.le_trans hS.1 (by omega), fun x h1 h2 => (o1 x (Nat.lt_of_lt_of_le h1 hS.1)).trans (hS.2.1 x h1 h2), hS.2.2⟩
theorem wl_newO (X : wl_X p s m args c cc own Ts D cl tys n ad A) (hP : va_P D cl (wl_W n ad ct) H) (hS : va_S A H0 H locs) (hA : ∀ q, H0.size ≤ q → A q) (hpin : ad n = H.size) (hinj : wl_inj (n + 1) ad) {C : String} {T : u_T} {N ci index : Nat} (hc : cl[ci]? = some (C, T, N)) (hin : ∀ w ∈ u_ws C T N, w ∈ Ts) (ty : Nat → FieldType) (hty : ∀ k, k < N → parseFieldDescriptor (T k).2.2.1 = some (ty k))
    (hcl : Cond.classLink own index C ∈ Ts) (hinst : Cond.instantiable C N ∈ Ts) (hini : Cond.initialized C ∈ Ts) {fs : List Value} (hfs : ∀ j, j < N → defaultValue (ty j) = vp_V fs j) (he : ct n = .inr (ci, fs)) (hcells : cells + 1 ≤ R.cells) (hslots : slots + N ≤ R.slots) (hdg : decode cc pc = .ok (.new index, 3))
    (kk : ∀ H1 : Heap, H1.size = H.size + 1 → va_P D cl (wl_W (n + 1) ad ct) H1 → wl_X p s m args c cc own Ts D cl tys (n + 1) ad A → va_S A H0 H1 locs → W p l e R s m args below meth c H1 locs (cells + 1) (slots + N) Q (F0 m (pc + 3) ls (.ref (ad n) :: rest))) : W p l e R s m args below meth c H locs cells slots Q (F0 m pc ls rest) := by
  have hKn := X.2.2.2.2.1.1 ci _ hc
  refine W.newcK X.1 X.2.1 X.2.2.1 (X.2.2.2.1 _ hcl) (X.2.2.2.1 _ hinst) (X.2.2.2.1 _ hini) rfl hdg hcells hslots hKn.2.1 rfl fun H1 kC hkC e1 z1 o1 => ?_
  have h := kk H1 z1 (wl_grow hP hpin o1 (by rw [he]; exact ⟨_, hc, (u_born ty X.2.2.2.1 hin hKn hkC e1 hty).to hfs⟩)) (wl_Xs X hinj (by rw [hpin]; exact hA _ hS.1)) (wl_Ss hS z1 o1)
  rw [hpin] at h
  exact h
theorem wl_newI (X : wl_X p s m args c cc own Ts D cl tys n ad A) (hP : va_P D cl (wl_W n ad ct) H) (hS : va_S A H0 H locs) (hA : ∀ q, H0.size ≤ q → A q) (hpin : ad n = H.size) (hinj : wl_inj (n + 1) ad) {atype : ArrayType} (harr : Cond.arrayClass (newarray.typeOf atype) ∈ Ts) (t0 : Nat) {cI : ClassId} (ht : tys[t0]? = some (cI, newarray.typeOf atype)) {x : Int32} {N : Nat} (hx : x = nI N) (hN : N < 65536) (hz : defaultValue (newarray.typeOf atype) = .int 0) (hcb : componentBytes (newarray.typeOf atype) ≤ 8) (hra : ∀ U : State, va_RA U cI (newarray.typeOf atype) → U.vm.findClass ("[" ++ (newarray.typeOf atype).toString) = some cI)
    (he : ct n = .inl (cI, N, .inl (fun _ => 0))) (hcells : cells + 1 ≤ R.cells) (hslots : slots + N ≤ R.slots) (hdg : decode cc pc = .ok (.newarray atype, 2))
    (kk : ∀ H1 : Heap, H1.size = H.size + 1 → va_P D cl (wl_W (n + 1) ad ct) H1 → wl_X p s m args c cc own Ts D cl tys (n + 1) ad A → va_S A H0 H1 locs → W p l e R s m args below meth c H1 locs (cells + 1) (slots + N) Q (F0 m (pc + 2) ls (.ref (ad n) :: rest))) : W p l e R s m args below meth c H locs cells slots Q (F0 m pc ls (.int x :: rest)) := by
  subst hx
  refine va_newaK X.1 X.2.1 (X.2.2.2.1 _ harr) rfl hdg rfl (nI_pos (by omega)) (nI_clamp (by omega)) (Nat.le_trans (Nat.mul_le_mul (Nat.le_of_lt hN) hcb) (by decide)) hcells hslots rfl fun H1 cA e1 z1 o1 hAr hNm => ?_
  have hcA : cA = cI := Option.some.inj (hNm.symm.trans (hra s (X.2.2.2.2.1.2 t0 _ ht).2))
  subst hcA
  have h := kk H1 z1 (wl_grow hP hpin o1 (by
    rw [he]
    show H1[H.size]? = some (vp_cell _ _)
    rw [e1, vp_cell_i, hz])) (wl_Xs X hinj (by rw [hpin]; exact hA _ hS.1)) (wl_Ss hS z1 o1)
  rw [hpin] at h
  exact h
theorem wl_newR (X : wl_X p s m args c cc own Ts D cl tys n ad A) (hP : va_P D cl (wl_W n ad ct) H) (hS : va_S A H0 H locs) (hA : ∀ q, H0.size ≤ q → A q) (hpin : ad n = H.size) (hinj : wl_inj (n + 1) ad) {C : String} {index : Nat} (hcl : Cond.classLink own index C ∈ Ts) (hover : va_AO C s) (t0 : Nat) {cS : ClassId} (ht : tys[t0]? = some (cS, .object C)) {x : Int32} {N : Nat} (hx : x = nI N) (hN : N < 65536)
    (he : ct n = .inl (cS, N, .inr (.inr (.inr (.inr (fun _ => none)))))) (hcells : cells + 1 ≤ R.cells) (hslots : slots + N ≤ R.slots) (hdg : decode cc pc = .ok (.anewarray index, 3))
    (kk : ∀ H1 : Heap, H1.size = H.size + 1 → va_P D cl (wl_W (n + 1) ad ct) H1 → wl_X p s m args c cc own Ts D cl tys (n + 1) ad A → va_S A H0 H1 locs → W p l e R s m args below meth c H1 locs (cells + 1) (slots + N) Q (F0 m (pc + 3) ls (.ref (ad n) :: rest))) : W p l e R s m args below meth c H locs cells slots Q (F0 m pc ls (.int x :: rest)) := by
  subst hx
  have hcl0 : (nI N).toNatClampNeg = N := nI_clamp (by omega)
  refine W.anew X.1 X.2.1 X.2.2.1 (X.2.2.2.1 _ hcl) (va_AO.use hover) rfl hdg rfl (nI_pos (by omega)) (by rw [hcl0]; omega) hcells (by rw [hcl0]; exact hslots) fun cA kA comp f1 f2 f3 f4 => ?_
  obtain ⟨kA', comp', g1, g2, g3, g4⟩ := (X.2.2.2.2.1.2 t0 _ ht).2
  have hcA : cA = cS := Option.some.inj (f1.symm.trans g4)
  subst hcA
  rw [hcl0]
  generalize hH1 : H.push ({ cls := cA, slots := Array.replicate N .null, vm := .none } : Cell) = H1
  have z1 : H1.size = H.size + 1 := by rw [← hH1, Array.size_push]
  have e1 : H1[H.size]? = some (arrV cA N (fun _ => .null)) := by rw [← hH1, Array.getElem?_push_size, ← arrV_new]
  have o1 : ∀ q : Nat, q < H.size → H1[q]? = H[q]? := fun q hq => by rw [← hH1, Array.getElem?_push, if_neg (Nat.ne_of_lt hq)]
  have h := kk H1 z1 (wl_grow hP hpin o1 (by
    rw [he]
    show H1[H.size]? = some (vp_cell _ _)
    rw [vp_cell_q]
    exact e1)) (wl_Xs X hinj (by rw [hpin]; exact hA _ hS.1)) (wl_Ss hS z1 o1)
  rw [hpin] at h
  exact h
theorem wl_putF (X : wl_X p s m args c cc own Ts D cl tys n ad A) (hP : va_P D cl (wl_W n ad ct) H) (hS : va_S A H0 H locs) {C : String} {T : u_T} {N ci index i : Nat} (hi : i < n) {fs : List Value} (he : ct i = .inr (ci, fs)) (hc : cl[ci]? = some (C, T, N)) (hin : ∀ w ∈ u_ws C T N, w ∈ Ts) (ty0 : Nat → FieldType) (hty : ∀ k, k < N → parseFieldDescriptor (T k).2.2.1 = some (ty0 k)) (hnm : ∀ a, a < N → ∀ b, b < N → a ≠ b → (T a).2.1 ≠ (T b).2.1) (k : Nat) (hk : k < N) (hlink : Cond.fieldLink own index (T k).1 (T k).2.1 (T k).2.2.1 ∈ Ts) (hfin : (T k).2.2.2 = true) (hin2 : meth.name = "<init>") (hdecl : (T k).1 = own) {v : Value} (hn : narrow (ty0 k) v = v) (hfit : fits (ty0 k) v = true) (hl : k < fs.length) (hdg : decode cc pc = .ok (.putfield index, 3)) (hct : ∀ j, j < n → va_up ct i (.inr (ci, fs.set k v)) j = ct' j)
    (kk : ∀ (H1 : Heap) (locs1 : List Loc), va_P D cl (wl_W n ad ct') H1 → va_S A H0 H1 locs1 → W p l e R s m args below meth c H1 locs1 cells slots Q (F0 m (pc + 3) ls rest)) : W p l e R s m args below meth c H locs cells slots Q (F0 m pc ls (v :: .ref (ad i) :: rest)) :=
  va_putF (D := D) (cl := cl) (ws := wl_W n ad ct) (ci := ci) (C := C) (T := T) (N := N) X.1 X.2.1 X.2.2.2.1 hin ty0 hty hnm X.2.2.1 X.2.2.2.2.1 hP (wl_D X.2.2.2.2.2.1 X.2.2.2.2.2.2) hS i (by rw [wl_at hi, he]) hc k hk (X.2.2.2.1 _ hlink) (fun _ h => h) hfin hin2 hdecl (hty k hk) hn hfit hl hdg (fun H1 locs1 h1 _ h3 => kk H1 locs1 (by rw [wl_set hi, wl_cg hct] at h1; exact h1) h3)
/-- the heap's size, by the count of the cells that were made -/
theorem wl_size (k : s.heap.size ≤ H.size → H.size ≤ s.heap.size + cells → W p l e R s m args below meth c H locs cells slots Q (F0 m pc ls rest)) : W p l e R s m args below meth c H locs cells slots Q (F0 m pc ls rest) :=
  fun T hT X => k (by rw [← hT]; exact X.same.2.1) (by rw [← hT]; exact X.same.2.2.1) T hT X
theorem wl_top_ {D : va_G} {cl : List vw_C} {n i : Nat} {ad : Nat → Nat} {ct : Nat → va_E} {H : Heap} (hP : va_P D cl (wl_W n ad ct) H) (hi : i < n) : ad i < H.size := (hP i _ (wl_at hi)).lt
end WLN
abbrev wl_QvN (D : va_G) (cl : List vw_C) (tys : List (ClassId × FieldType)) (n : Nat) (ad : Nat → Nat) (n2 : Nat) (ct2 : Nat → va_E) (sz : Nat) : Array Value → State → Outcome → State → Prop := va_Qv (fun (_ : Unit) => True) (fun _ t => wl_At D cl tys n2 ad ct2 t) (wl_A n ad sz)
/-- a constructor over a growing world: n places with ct, n2 places with ct2 -/
abbrev wl_MN (l : Launch) (y : MethodName) (ws : List Cond) (rm : Room) (D : va_G) (cl : List vw_C) (tys : List (ClassId × FieldType)) (ad : Nat → Nat) (av : List Value) (n : Nat) (ct : Nat → va_E) (n2 : Nat) (ct2 : Nat → va_E) (mc ms sz : Nat) : Prop := Met l y ws rm (wl_Pc av D cl tys n ad ct sz) (wl_QvN D cl tys n ad n2 ct2 sz) mc ms (wl_A n ad sz)
theorem wl_enterN {l : Launch} {y : MethodName} {Ts : List Cond} {rm : Room} {D : va_G} {cl : List vw_C} {tys : List (ClassId × FieldType)} {n : Nat} {ad : Nat → Nat} {av : List Value} {ct : Nat → va_E} {sz mc ms : Nat} {bytes : ByteArray} {maxL : Nat} {ret : Option FieldType} {Qc : Array Value → State → Outcome → State → Prop} {own : String} (ho : y.cls = own) (hy : plainName y.cls = true) (hlen : (lg_sl av).length ≤ maxL) (hinj : wl_inj n ad)
    (body : ∀ (p : Program) (e : Env) (s : State) (m : MethodId) (below : List Frame) (meth : Method) (c : Code) (ls : Array Slot), s.heap.size = sz → wl_X p s m av.toArray c bytes own Ts D cl tys n ad (wl_A n ad s.heap.size) → c.maxLocals = maxL → meth.sig.returnType = ret → meth.locks = false → meth.name = y.name → lv_has ls maxL (lv_args 0 av) → va_P D cl (wl_W n ad ct) s.heap → va_S (wl_A n ad s.heap.size) s.heap s.heap [] →
      W p l e rm s m av.toArray below meth c s.heap [] 0 0 (MQ below Qc av.toArray s mc ms (wl_A n ad sz)) (F0 m 0 ls [])) :
    Met l y (Cond.code y bytes maxL ret :: Ts) rm (wl_Pc av D cl tys n ad ct sz) Qc mc ms (wl_A n ad sz) := by
  subst ho
  refine Met.ofW (cc := bytes) (maxL := maxL) (ret := ret) hy rfl ?_
  intro p e s m args below meth c s₁ B hml hv
  obtain ⟨rfl, hsz, hP, hK⟩ := hv
  have hts := atoms_spec (ws := Cond.code y bytes maxL ret :: Ts) B.pre
  have hl := lv_entry av (n := maxL) hlen
  rw [lg_entry_eq]
  generalize (lg_sl av ++ List.replicate (maxL - (lg_sl av).length) Slot.unset).toArray = ls at hl ⊢
  exact body p e s m below meth c ls hsz ⟨B.exec, B.bytes, findClass_of_methodNamed B.named, fun w hw => hts w (List.mem_cons_of_mem _ hw), hK, hinj, fun i hi => Or.inl ⟨i, hi, rfl⟩⟩ hml B.returns B.notSynchronized (name_of_methodNamed B.named B.method).1 hl hP va_S.rf
section WLM
variable {p : Program} {l : Launch} {e : Env} {R : Room} {s : State} {m : MethodId} {args : Array Value} {below : List Frame} {meth : Method} {c : Code} {H : Heap} {locs : List Loc} {cells slots : Nat} {Q : State → Prop}
variable {cc : ByteArray} {pc : Nat} {ls : Array Slot} {rest st0 : List Value} {D : va_G} {cl : List vw_C} {tys : List (ClassId × FieldType)} {H0 : Heap} {n n2 sz mc ms : Nat} {ad : Nat → Nat} {ct ct2 : Nat → va_E} {own : String} {Ts : List Cond} {A : Nat → Prop}
theorem wl_vretN (X : wl_X p s m args c cc own Ts D cl tys n2 ad (wl_A n ad s.heap.size)) (hsz : s.heap.size = sz) (hr : meth.sig.returnType = none) (hlocks : meth.locks = false) (hP : va_P D cl (wl_W n2 ad ct) H) (hS : va_S (wl_A n ad s.heap.size) s.heap H locs) (hc : cells ≤ mc) (hs : slots ≤ ms) (hdg : decode cc pc = .ok (.return_, 1)) : W p l e R s m args below meth c H locs cells slots (MQ below (wl_QvN D cl tys n ad n2 ct sz) args s mc ms (wl_A n ad sz)) (F0 m pc ls []) := by
  subst hsz
  refine W.widen hc hs ?_
  exact W.vret X.1 X.2.1 hr (fun t ht hW => ⟨⟨(), rfl, trivial, by rw [ht]; exact hP, va_K.moved hW.alike X.2.2.2.2.1⟩, hS.F ht⟩) hS.2.2 hdg hlocks
theorem wl_govN {a : Array Value} (hS : va_S A H0 H locs) (hA : ∀ q, H0.size ≤ q → A q) (hAd : ∀ i, i < n → A (ad i)) (hr : va_Run p l e R s m args below meth c H locs cells slots mc ms (F0 m pc ls st0) rest (wl_QvN D cl tys n ad n2 ct2 H.size a) (wl_A n ad H.size))
    (kk : ∀ (H1 : Heap) (locs1 : List Loc), va_P D cl (wl_W n2 ad ct2) H1 → va_S A H0 H1 locs1 → H.size ≤ H1.size → (∀ q : Nat, q < H.size → ¬ wl_A n ad H.size q → H1[q]? = H[q]?) → W p l e R s m args below meth c H1 locs1 (cells + mc) (slots + ms) Q (F0 m (pc + 3) ls rest)) : W p l e R s m args below meth c H locs cells slots Q (F0 m pc ls st0) := by
  have hf := wl_go (a := a) hS hA hAd
  exact va_callv hr hS (fun q _ h => hf q h) hf (fun u t H1 locs1 ht hvm hpost hB hz hk hS1 => kk H1 locs1 (by rw [← ht]; exact hB.1) hS1 hz hk)
variable {nL maxL index na : Nat} {y : MethodName} {bytes : ByteArray} {rm : Room} {Qc : Array Value → State → Outcome → State → Prop} {free : Addr → Prop} {As : List Value} {b : Nat}
theorem wl_runI (X : wl_X p s m args c cc own Ts D cl tys n ad A) (hml : c.maxLocals = nL) (hsz : ls.size = nL) (hP : va_P D cl (wl_W n ad ct) H) (hG : GoodIn Ts Ts)
    (hM : Met l y (Cond.code y bytes maxL none :: Ts) rm (wl_Pc (.ref b :: As) D cl tys n ad ct H.size) Qc mc ms free) (hrc : rm.cells = mc) (hrs : rm.slots = ms)
    (hws : Cond.methodLink own index y ∈ Ts ∧ Cond.instanceMethod y ∈ Ts ∧ Cond.initialized y.cls ∈ Ts ∧ Cond.code y bytes maxL none ∈ Ts) (hy1 : y.name = "<init>")
    (hd : y.cls ≠ "java/lang/invoke/MethodHandle" ∧ y.cls ≠ "java/lang/invoke/VarHandle" ∧ (parseMethodDescriptor y.desc).map (fun d => d.parameters.length) = some na) (hna : As.length = na) (hR : rm.frames + 1 ≤ R.frames ∧ 8 + (maxL + 11) + rm.locals ≤ R.locals)
    (hst : st0 = As.reverse ++ .ref b :: rest) (hro : (rest.map fun v => v.category).sum ≤ 8) (hdg : decode cc pc = .ok (.invokespecial index, 3)) (hcs : cells + mc ≤ R.cells ∧ slots + ms ≤ R.slots) :
    va_Run p l e R s m args below meth c H locs cells slots mc ms (F0 m pc ls st0) rest (Qc (Value.ref b :: As).toArray) free := by
  have hG2 : GoodIn Ts (Cond.code y bytes maxL none :: Ts) := wl_good hG (fun w hw => by
    rcases List.mem_cons.mp hw with h | h
    · rw [h]; exact hws.2.2.2
    · exact h)
  exact va_runI ⟨X.1, X.2.1, hml, X.2.2.1, X.2.2.2.1⟩ hM (cwI na X.2.2.2.1 hG2 rfl hrc hrs (X.2.2.2.1 _ hws.2.2.1) (X.2.2.2.1 _ hws.1) (X.2.2.2.1 _ hws.2.1) hy1 hd hR) ⟨wl_blind, fun U hU hW => wl_pre X.2.2.2.2.1 hP U hU hW⟩ rfl hna hsz hst (lv_room hro) hdg hcs
theorem wl_runIN {host : String} (X : wl_X p s m args c cc own Ts D cl tys n ad A) (hml : c.maxLocals = nL) (hsz : ls.size = nL) (hP : va_P D cl (wl_W n ad ct) H) (hG : GoodIn Ts Ts)
    (hM : Met l y (Cond.code y bytes maxL none :: Ts) rm (wl_Pc (.ref b :: As) D cl tys n ad ct H.size) Qc mc ms free) (hrc : rm.cells = mc) (hrs : rm.slots = ms)
    (hws : va_Nw (.methodLinkNest own index y host) s ∧ Cond.instanceMethod y ∈ Ts ∧ Cond.initialized y.cls ∈ Ts ∧ Cond.code y bytes maxL none ∈ Ts) (hy1 : y.name = "<init>")
    (hd : y.cls ≠ "java/lang/invoke/MethodHandle" ∧ y.cls ≠ "java/lang/invoke/VarHandle" ∧ (parseMethodDescriptor y.desc).map (fun d => d.parameters.length) = some na) (hna : As.length = na) (hR : rm.frames + 1 ≤ R.frames ∧ 8 + (maxL + 11) + rm.locals ≤ R.locals)
    (hst : st0 = As.reverse ++ .ref b :: rest) (hro : (rest.map fun v => v.category).sum ≤ 8) (hdg : decode cc pc = .ok (.invokespecial index, 3)) (hcs : cells + mc ≤ R.cells ∧ slots + ms ≤ R.slots) :
    va_Run p l e R s m args below meth c H locs cells slots mc ms (F0 m pc ls st0) rest (Qc (Value.ref b :: As).toArray) free := by
  have hG2 : GoodIn Ts (Cond.code y bytes maxL none :: Ts) := wl_good hG (fun w hw => by
    rcases List.mem_cons.mp hw with h | h
    · rw [h]; exact hws.2.2.2
    · exact h)
  exact va_runIN ⟨X.1, X.2.1, hml, X.2.2.1, X.2.2.2.1⟩ hM ⟨va_cnB na X.2.2.2.1 hG2 rfl hrc hrs hws.1 (X.2.2.2.1 _ hws.2.2.1) hd hR, hy1, X.2.2.2.1 _ hws.2.1⟩ ⟨wl_blind, fun U hU hW => wl_pre X.2.2.2.2.1 hP U hU hW⟩ rfl hna hsz hst (lv_room hro) hdg hcs
end WLM
