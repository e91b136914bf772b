/-! WORLDS BY PLACES: n cells at the addresses ad, holding ct; rows over them. -/
def wl_W (n : Nat) (ad : Nat → Nat) (ct : Nat → va_E) : va_W := (List.range n).map (fun i => (ad i, ct i))
theorem wl_len {n : Nat} {ad : Nat → Nat} {ct : Nat → va_E} : (wl_W n ad ct).length = n := by simp [wl_W]
theorem wl_at {n : Nat} {ad : Nat → Nat} {ct : Nat → va_E} {i : Nat} (h : i < n) : (wl_W n ad ct)[i]? = some (ad i, ct i) := by
  simp only [wl_W, List.getElem?_map]
  rw [List.getElem?_range h]
  rfl
theorem wl_of {n : Nat} {ad : Nat → Nat} {ct : Nat → va_E} {k : Nat} {q : Nat × va_E} (h : (wl_W n ad ct)[k]? = some q) : k < n ∧ q = (ad k, ct k) := by
  have hk : k < n := by
    have := (List.getElem?_eq_some_iff.mp h).1
    rwa [wl_len] at this
  rw [wl_at hk] at h
  exact ⟨hk, (Option.some.inj h).symm⟩
theorem wl_set {n : Nat} {ad : Nat → Nat} {ct : Nat → va_E} {i : Nat} {e : va_E} (h : i < n) : (wl_W n ad ct).set i (ad i, e) = wl_W n ad (va_up ct i e) := by
  apply List.ext_getElem?
  intro j
  by_cases hj : j = i
  · subst hj
    rw [List.getElem?_set_self (by rw [wl_len]; exact h), wl_at h, va_up_self]
  · rw [List.getElem?_set_ne (Ne.symm hj)]
    by_cases hn : j < n
    · rw [wl_at hn, wl_at hn, va_up_ne _ _ hj]
    · rw [List.getElem?_eq_none (by rw [wl_len]; omega), List.getElem?_eq_none (by rw [wl_len]; omega)]
def wl_inj (n : Nat) (ad : Nat → Nat) : Prop := ∀ i j, i < n → j < n → ad i = ad j → i = j
theorem wl_D {n : Nat} {ad : Nat → Nat} {ct : Nat → va_E} {A : Nat → Prop} (h : wl_inj n ad) (hA : ∀ i, i < n → A (ad i)) : va_D A (wl_W n ad ct) := by
  refine ⟨fun i j x y hx hy e => ?_, fun k q hk => ?_⟩
  · obtain ⟨h1, rfl⟩ := wl_of hx
    obtain ⟨h2, rfl⟩ := wl_of hy
    exact h i j h1 h2 e
  · obtain ⟨h1, rfl⟩ := wl_of hk
    exact hA k h1
/-- the cells that a method over such a world may write: its own, and new ones -/
def wl_A (n : Nat) (ad : Nat → Nat) (sz : Nat) : Nat → Prop := fun q => (∃ i, i < n ∧ ad i = q) ∨ sz ≤ q
/-- a world apart from the one that was written stays -/
theorem wl_kept {D : va_G} {cl : List vw_C} {n k : Nat} {ad bd : Nat → Nat} {ct : Nat → va_E} {H H1 : Heap} (hP : va_P D cl (wl_W k bd ct) H) (hk : ∀ q : Nat, q < H.size → ¬ wl_A n ad H.size q → H1[q]? = H[q]?) (hx : ∀ i j, i < n → j < k → ad i ≠ bd j) : va_P D cl (wl_W k bd ct) H1 := by
  refine hP.kept (fun j q hq => ?_)
  have hlt := (hP j q hq).lt
  obtain ⟨h1, rfl⟩ := wl_of hq
  refine hk _ hlt (fun h => ?_)
  rcases h with ⟨i, hi, h⟩ | h
  · exact hx i j hi h1 h
  · exact absurd hlt (Nat.not_lt.mpr h)
def rm_ (d : Nat) : Room := { frames := d, cells := 0, slots := 0, locals := 40 * d }
section WLX
variable {p : Program} {l : Launch} {e : Env} {R : Room} {s : State} {m : MethodId} {args : Array Value} {below : List Frame} {meth : Method} {c : Code} {H : Heap} {locs : List Loc} {cells slots : Nat} {Q : State → Prop}
variable {cc : ByteArray} {pc : Nat} {ls : Array Slot} {rest : List Value} {D : va_G} {cl : List vw_C} {tys : List (ClassId × FieldType)} {H0 : Heap} {n : Nat} {ad : Nat → Nat} {ct ct' : Nat → va_E} {own : String} {Ts : List Cond} {A : Nat → Prop}
/-- a frame's context: the machine, the code, the words, the classes, the addresses apart -/
def wl_X (p : Program) (s : State) (m : MethodId) (args : Array Value) (c : Code) (cc : ByteArray) (own : String) (Ts : List Cond) (D : va_G) (cl : List vw_C) (tys : List (ClassId × FieldType)) (n : Nat) (ad : Nat → Nat) (A : Nat → Prop) : Prop :=
  p.tables.exec = Jvm.exec ∧ c.code = cc ∧ s.vm.findClass own = some m.cls ∧ (∀ w ∈ Ts, w.before args s = true) ∧ va_K D cl tys s ∧ wl_inj n ad ∧ ∀ i, i < n → A (ad i)
/-- the number on the stack by another name -/
theorem wl_top {x y : Int32} (h : x = y) (k : W p l e R s m args below meth c H locs cells slots Q (F0 m pc ls (.int y :: rest))) : W p l e R s m args below meth c H locs cells slots Q (F0 m pc ls (.int x :: rest)) := h ▸ k
theorem wl_topv {x y : Value} (h : x = y) (k : W p l e R s m args below meth c H locs cells slots Q (F0 m pc ls (y :: rest))) : W p l e R s m args below meth c H locs cells slots Q (F0 m pc ls (x :: rest)) := h ▸ k
theorem wl_get (X : wl_X p s m args c cc own Ts D cl tys n ad A) (hP : va_P D cl (wl_W n ad ct) H) {C : String} {T : u_T} {N ci index i : Nat} (hi : i < n) {fs : List Value} (he : ct i = .inr (ci, fs)) (hc : cl[ci]? = some (C, T, N)) (hin : ∀ w ∈ u_ws C T N, w ∈ Ts) (k : Nat) (hk : k < N) (hlink : Cond.fieldLink own index (T k).1 (T k).2.1 (T k).2.2.1 ∈ Ts) {v : Value} (hv : fs[k]? = some v) (hdg : decode cc pc = .ok (.getfield index, 3))
    (kk : W p l e R s m args below meth c H locs cells slots Q (F0 m (pc + 3) ls (v :: rest))) : W p l e R s m args below meth c H locs cells slots Q (F0 m pc ls (.ref (ad i) :: rest)) :=
  va_get (D := D) (cl := cl) (ws := wl_W n ad ct) (ci := ci) (C := C) (T := T) (N := N) X.1 X.2.1 X.2.2.2.1 hin X.2.2.1 X.2.2.2.2.1 hP i (by rw [wl_at hi, he]) hc k hk (X.2.2.2.1 _ hlink) (fun _ h => h) hv hdg kk
theorem wl_put (X : wl_X p s m args c cc own Ts D cl tys n ad A) (hP : va_P D cl (wl_W n ad ct) H) (hS : va_S A H0 H locs) {C : String} {T : u_T} {N ci index i : Nat} (hi : i < n) {fs : List Value} (he : ct i = .inr (ci, fs)) (hc : cl[ci]? = some (C, T, N)) (hin : ∀ w ∈ u_ws C T N, w ∈ Ts) (ty0 : Nat → FieldType) (hty : ∀ k, k < N → parseFieldDescriptor (T k).2.2.1 = some (ty0 k)) (hnm : ∀ a, a < N → ∀ b, b < N → a ≠ b → (T a).2.1 ≠ (T b).2.1) (k : Nat) (hk : k < N) (hlink : Cond.fieldLink own index (T k).1 (T k).2.1 (T k).2.2.1 ∈ Ts) (hfin : (T k).2.2.2 = false) {v : Value} (hn : narrow (ty0 k) v = v) (hfit : fits (ty0 k) v = true) (hl : k < fs.length) (hdg : decode cc pc = .ok (.putfield index, 3)) (hct : va_up ct i (.inr (ci, fs.set k v)) = ct')
    (kk : ∀ (H1 : Heap) (locs1 : List Loc), va_P D cl (wl_W n ad ct') H1 → va_S A H0 H1 locs1 → W p l e R s m args below meth c H1 locs1 cells slots Q (F0 m (pc + 3) ls rest)) : W p l e R s m args below meth c H locs cells slots Q (F0 m pc ls (v :: .ref (ad i) :: rest)) := by
  subst hct
  exact va_put (D := D) (cl := cl) (ws := wl_W n ad ct) (ci := ci) (C := C) (T := T) (N := N) X.1 X.2.1 X.2.2.2.1 hin ty0 hty hnm X.2.2.1 X.2.2.2.2.1 hP (wl_D X.2.2.2.2.2.1 X.2.2.2.2.2.2) hS i (by rw [wl_at hi, he]) hc k hk (X.2.2.2.1 _ hlink) (fun _ h => h) hfin (hty k hk) hn hfit hl hdg (fun H1 locs1 h1 _ h3 => kk H1 locs1 (by rw [wl_set hi] at h1; exact h1) h3)
theorem wl_iald (X : wl_X p s m args c cc own Ts D cl tys n ad A) (hP : va_P D cl (wl_W n ad ct) H) {i : Nat} (hi : i < n) (t0 : Nat) {cA : ClassId} {len : Nat} {f : Nat → Int32} (he : ct i = .inl (cA, len, .inl f)) (ht : tys[t0]? = some (cA, .int)) {xj : Int32} {j : Nat} (hxj : xj = nI j) (hj : j < len) (hlen : len < 2 ^ 31) (hdg : decode cc pc = .ok (.iaload, 1))
    (kk : W p l e R s m args below meth c H locs cells slots Q (F0 m (pc + 1) ls (.int (f j) :: rest))) : W p l e R s m args below meth c H locs cells slots Q (F0 m pc ls (.int xj :: .ref (ad i) :: rest)) := by
  subst hxj
  refine va_iald (D := D) (cl := cl) (ws := wl_W n ad ct) X.1 X.2.1 X.2.2.2.2.1 hP i t0 (by rw [wl_at hi, he]) ht (vp_in_nI hj hlen) hdg ?_
  rw [nI_clamp (Nat.lt_trans hj hlen)]
  exact kk
theorem wl_iast (X : wl_X p s m args c cc own Ts D cl tys n ad A) (hP : va_P D cl (wl_W n ad ct) H) (hS : va_S A H0 H locs) {i : Nat} (hi : i < n) (t0 : Nat) {cA : ClassId} {len : Nat} {f : Nat → Int32} (he : ct i = .inl (cA, len, .inl f)) (ht : tys[t0]? = some (cA, .int)) {xj : Int32} {j : Nat} (hxj : xj = nI j) (hj : j < len) (hlen : len < 2 ^ 31) {x : Int32} (hdg : decode cc pc = .ok (.iastore, 1)) (hct : va_up ct i (.inl (cA, len, .inl (upd f j x))) = ct')
    (kk : ∀ (H1 : Heap) (locs1 : List Loc), va_P D cl (wl_W n ad ct') H1 → va_S A H0 H1 locs1 → W p l e R s m args below meth c H1 locs1 cells slots Q (F0 m (pc + 1) ls rest)) : W p l e R s m args below meth c H locs cells slots Q (F0 m pc ls (.int x :: .int xj :: .ref (ad i) :: rest)) := by
  subst hxj
  subst hct
  refine va_iast (D := D) (cl := cl) (ws := wl_W n ad ct) X.1 X.2.1 X.2.2.2.2.1 hP (wl_D X.2.2.2.2.2.1 X.2.2.2.2.2.2) hS i t0 (by rw [wl_at hi, he]) ht (vp_in_nI hj hlen) hdg (fun H1 locs1 h1 _ h3 => kk H1 locs1 ?_ h3)
  rw [nI_clamp (Nat.lt_trans hj hlen), wl_set hi] at h1
  exact h1
theorem wl_alen (X : wl_X p s m args c cc own Ts D cl tys n ad A) (hP : va_P D cl (wl_W n ad ct) H) {i : Nat} (hi : i < n) (t0 : Nat) {cA : ClassId} {x : vp_A} (he : ct i = .inl (cA, x)) {ty : FieldType} (ht : tys[t0]? = some (cA, ty)) (hdg : decode cc pc = .ok (.arraylength, 1))
    (kk : W p l e R s m args below meth c H locs cells slots Q (F0 m (pc + 1) ls (.int (nI x.1) :: rest))) : W p l e R s m args below meth c H locs cells slots Q (F0 m pc ls (.ref (ad i) :: rest)) :=
  va_alen (D := D) (cl := cl) (ws := wl_W n ad ct) X.1 X.2.1 X.2.2.2.2.1 hP i t0 (by rw [wl_at hi, he]) ht rfl hdg kk
theorem wl_aald (X : wl_X p s m args c cc own Ts D cl tys n ad A) (hP : va_P D cl (wl_W n ad ct) H) {i : Nat} (hi : i < n) (t0 : Nat) {cA : ClassId} {C : String} {len : Nat} {f : Nat → Option Nat} (he : ct i = .inl (cA, len, .inr (.inr (.inr (.inr f))))) (ht : tys[t0]? = some (cA, .object C)) {xj : Int32} {j : Nat} (hxj : xj = nI j) (hj : j < len) (hlen : len < 2 ^ 31) (hdg : decode cc pc = .ok (.aaload, 1))
    (kk : W p l e R s m args below meth c H locs cells slots Q (F0 m (pc + 1) ls (va_rf (f j) :: rest))) : W p l e R s m args below meth c H locs cells slots Q (F0 m pc ls (.int xj :: .ref (ad i) :: rest)) := by
  subst hxj
  refine va_aldq (D := D) (cl := cl) (ws := wl_W n ad ct) X.1 X.2.1 X.2.2.2.2.1 hP i t0 (by rw [wl_at hi, he]) ht (vp_in_nI hj hlen) hdg ?_
  rw [nI_clamp (Nat.lt_trans hj hlen)]
  exact kk
theorem wl_aast (X : wl_X p s m args c cc own Ts D cl tys n ad A) (hP : va_P D cl (wl_W n ad ct) H) (hS : va_S A H0 H locs) {i : Nat} (hi : i < n) (t0 : Nat) {cA : ClassId} {r : vw_C} {len : Nat} {f : Nat → Option Nat} (he : ct i = .inl (cA, len, .inr (.inr (.inr (.inr f))))) (ht : tys[t0]? = some (cA, .object r.1)) {xj : Int32} {j : Nat} (hxj : xj = nI j) (hj : j < len) (hlen : len < 2 ^ 31) {k ci : Nat} {vs : List Value} (hk : k < n) (hke : ct k = .inr (ci, vs)) (hc : cl[ci]? = some r) (hdg : decode cc pc = .ok (.aastore, 1)) (hct : va_up ct i (.inl (cA, len, .inr (.inr (.inr (.inr (va_up f j (some (ad k)))))))) = ct')
    (kk : ∀ (H1 : Heap) (locs1 : List Loc), va_P D cl (wl_W n ad ct') H1 → va_S A H0 H1 locs1 → W p l e R s m args below meth c H1 locs1 cells slots Q (F0 m (pc + 1) ls rest)) : W p l e R s m args below meth c H locs cells slots Q (F0 m pc ls (.ref (ad k) :: .int xj :: .ref (ad i) :: rest)) := by
  subst hxj
  subst hct
  refine va_astq (D := D) (cl := cl) (ws := wl_W n ad ct) X.1 X.2.1 X.2.2.2.2.1 hP (wl_D X.2.2.2.2.2.1 X.2.2.2.2.2.2) hS i t0 k ci (by rw [wl_at hi, he]) ht (by rw [wl_at hk, hke]) hc (vp_in_nI hj hlen) hdg (fun H1 locs1 h1 _ h3 => kk H1 locs1 ?_ h3)
  rw [nI_clamp (Nat.lt_trans hj hlen), wl_set hi] at h1
  exact h1
theorem wl_aastN (X : wl_X p s m args c cc own Ts D cl tys n ad A) (hP : va_P D cl (wl_W n ad ct) H) (hS : va_S A H0 H locs) {i : Nat} (hi : i < n) (t0 : Nat) {cA : ClassId} {C : String} {len : Nat} {f : Nat → Option Nat} (he : ct i = .inl (cA, len, .inr (.inr (.inr (.inr f))))) (ht : tys[t0]? = some (cA, .object C)) {xj : Int32} {j : Nat} (hxj : xj = nI j) (hj : j < len) (hlen : len < 2 ^ 31) (hdg : decode cc pc = .ok (.aastore, 1)) (hct : va_up ct i (.inl (cA, len, .inr (.inr (.inr (.inr (va_up f j none)))))) = ct')
    (kk : ∀ (H1 : Heap) (locs1 : List Loc), va_P D cl (wl_W n ad ct') H1 → va_S A H0 H1 locs1 → W p l e R s m args below meth c H1 locs1 cells slots Q (F0 m (pc + 1) ls rest)) : W p l e R s m args below meth c H locs cells slots Q (F0 m pc ls (.null :: .int xj :: .ref (ad i) :: rest)) := by
  subst hxj
  subst hct
  refine va_astqN (D := D) (cl := cl) (ws := wl_W n ad ct) X.1 X.2.1 X.2.2.2.2.1 hP (wl_D X.2.2.2.2.2.1 X.2.2.2.2.2.2) hS i t0 (by rw [wl_at hi, he]) ht (vp_in_nI hj hlen) hdg (fun H1 locs1 h1 _ h3 => kk H1 locs1 ?_ h3)
  rw [nI_clamp (Nat.lt_trans hj hlen), wl_set hi] at h1
  exact h1
theorem wl_copyi (X : wl_X p s m args c cc own Ts D cl tys n ad A) (hml : c.maxLocals = ls.size) (hP : va_P D cl (wl_W n ad ct) H) (hS : va_S A H0 H locs) {index i0 i1 : Nat} (hi0 : i0 < n) (hi1 : i1 < n) (t0 : Nat) {cA : ClassId} {n0 n1 : Nat} {f g : Nat → Int32} (he0 : ct i0 = .inl (cA, n0, .inl f)) (he1 : ct i1 = .inl (cA, n1, .inl g)) (ht : tys[t0]? = some (cA, .int)) {k : Nat} (hk0 : k ≤ n0) (hk1 : k ≤ n1) (hk : k < 2 ^ 31)
    (hws : Cond.methodLink own index arraycopyName ∈ Ts ∧ Cond.native arraycopyName ∈ Ts ∧ Cond.static arraycopyName ∈ Ts ∧ Cond.initialized "java/lang/System" ∈ Ts) (hframes : 1 ≤ R.frames) (hlocals : (rest.map fun v => v.category).sum + (nativeFrameWords "java/lang/System" "arraycopy" 5 + 11) ≤ R.locals) (hdg : decode cc pc = .ok (.invokestatic index, 3)) (hct : va_up ct i1 (.inl (cA, n1, .inl (va_cpy f g 0 0 k))) = ct')
    (kk : ∀ (H1 : Heap) (locs1 : List Loc), va_P D cl (wl_W n ad ct') H1 → va_S A H0 H1 locs1 → W p l e R s m args below meth c H1 locs1 cells slots Q (F0 m (pc + 3) ls rest)) : W p l e R s m args below meth c H locs cells slots Q (F0 m pc ls (.int (nI k) :: .int 0 :: .ref (ad i1) :: .int 0 :: .ref (ad i0) :: rest)) := by
  subst hct
  refine va_copyi (D := D) (cl := cl) (ws := wl_W n ad ct) X.1 X.2.1 hml X.2.2.1 (X.2.2.2.1 _ hws.1) (X.2.2.2.1 _ hws.2.1) (X.2.2.2.1 _ hws.2.2.1) (X.2.2.2.1 _ hws.2.2.2) X.2.2.2.2.1 hP (wl_D X.2.2.2.2.2.1 X.2.2.2.2.2.2) hS i0 i1 t0 t0 (by rw [wl_at hi0, he0]) (by rw [wl_at hi1, he1]) ht ht rfl (by decide) (by decide) (nI_pos hk) (by rw [sb_cl0, nI_clamp hk]; omega) (by rw [sb_cl0, nI_clamp hk]; omega) (fun _ _ => rfl) hframes hlocals hdg (fun H1 locs1 h1 _ h3 => kk H1 locs1 ?_ h3)
  rw [sb_cl0, nI_clamp hk, wl_set hi1] at h1
  exact h1
end WLX
/-! a loop's head -/
theorem sk_lhz {i N : Nat} (h : i + 0 = N) (hN : N < 2 ^ 31 := by decide) : nI N ≤ nI i := nI_le (by omega) (by omega)
theorem sk_lhs {i k N : Nat} (h : i + (k + 1) = N) (hN : N < 2 ^ 31 := by decide) : ¬ nI N ≤ nI i := nI_ge (by omega) hN
theorem sk_lgz {i N : Nat} (h : i + 0 = N + 1) (hN : N < 2 ^ 30 := by decide) : nI N < nI i := nI_lt (by omega) (by omega)
theorem sk_lgs {i k N : Nat} (h : i + (k + 1) = N + 1) (hN : N < 2 ^ 30 := by decide) : ¬ nI N < nI i := nI_nlt (by omega) (by omega)
/-! METHODS OVER A WORLD: contracts, entry, return, calls. -/
abbrev wl_At (D : va_G) (cl : List vw_C) (tys : List (ClassId × FieldType)) (n : Nat) (ad : Nat → Nat) (ct : Nat → va_E) (t : State) : Prop := va_P D cl (wl_W n ad ct) t.heap ∧ va_K D cl tys t
abbrev wl_Pc (av : List Value) (D : va_G) (cl : List vw_C) (tys : List (ClassId × FieldType)) (n : Nat) (ad : Nat → Nat) (ct : Nat → va_E) (sz : Nat) : Array Value → State → Prop := va_Pc av (fun U => U.heap.size = sz ∧ wl_At D cl tys n ad ct U)
abbrev wl_Qi (D : va_G) (cl : List vw_C) (tys : List (ClassId × FieldType)) (n : Nat) (ad : Nat → Nat) (r : Int32) (ct2 : Nat → va_E) (sz : Nat) : Array Value → State → Outcome → State → Prop := va_Qi (fun (r' : Int32) (_ : Unit) => r' = r) (fun _ t => wl_At D cl tys n ad ct2 t) (wl_A n ad sz)
abbrev wl_Qv (D : va_G) (cl : List vw_C) (tys : List (ClassId × FieldType)) (n : Nat) (ad : Nat → Nat) (ct2 : Nat → va_E) (sz : Nat) : Array Value → State → Outcome → State → Prop := va_Qv (fun (_ : Unit) => True) (fun _ t => wl_At D cl tys n ad ct2 t) (wl_A n ad sz)
abbrev wl_Qr (D : va_G) (cl : List vw_C) (tys : List (ClassId × FieldType)) (n : Nat) (ad : Nat → Nat) (a : Nat) (ct2 : Nat → va_E) (sz : Nat) : Array Value → State → Outcome → State → Prop := va_Qr (fun (_ : Unit) => True) (fun _ a' t => a' = a ∧ wl_At D cl tys n ad ct2 t) (wl_A n ad sz)
/-- from the world ct, with the arguments av: an int r and the world ct2; nothing, and ct2; the cell a, and ct2 -/
abbrev wl_Mi (l : Launch) (y : MethodName) (ws : List Cond) (rm : Room) (D : va_G) (cl : List vw_C) (tys : List (ClassId × FieldType)) (n : Nat) (ad : Nat → Nat) (av : List Value) (ct : Nat → va_E) (r : Int32) (ct2 : Nat → va_E) : Prop := ∀ sz : Nat, Met l y ws rm (wl_Pc av D cl tys n ad ct sz) (wl_Qi D cl tys n ad r ct2 sz) 0 0 (wl_A n ad sz)
abbrev wl_Mv (l : Launch) (y : MethodName) (ws : List Cond) (rm : Room) (D : va_G) (cl : List vw_C) (tys : List (ClassId × FieldType)) (n : Nat) (ad : Nat → Nat) (av : List Value) (ct : Nat → va_E) (ct2 : Nat → va_E) : Prop := ∀ sz : Nat, Met l y ws rm (wl_Pc av D cl tys n ad ct sz) (wl_Qv D cl tys n ad ct2 sz) 0 0 (wl_A n ad sz)
abbrev wl_Mr (l : Launch) (y : MethodName) (ws : List Cond) (rm : Room) (D : va_G) (cl : List vw_C) (tys : List (ClassId × FieldType)) (n : Nat) (ad : Nat → Nat) (av : List Value) (ct : Nat → va_E) (a : Nat) (ct2 : Nat → va_E) : Prop := ∀ sz : Nat, Met l y ws rm (wl_Pc av D cl tys n ad ct sz) (wl_Qr D cl tys n ad a ct2 sz) 0 0 (wl_A n ad sz)
theorem wl_blind {av : List Value} {D : va_G} {cl : List vw_C} {tys : List (ClassId × FieldType)} {n : Nat} {ad : Nat → Nat} {ct : Nat → va_E} {sz : Nat} : FrameBlind (wl_Pc av D cl tys n ad ct sz) := fun a U g mk q => by
  obtain ⟨q0, q1, qP, qK⟩ := q
  exact ⟨q0, q1, qP, va_K.moved (u := U) (U := U.calling g mk a) (Vm.Alike.refl U.vm) qK⟩
theorem wl_good {Ts ws : List Cond} (hG : GoodIn Ts Ts) (h : ∀ w ∈ ws, w ∈ Ts) : GoodIn Ts ws := fun w hw => hG w (h w hw)
/-- a method's entry: what its walk begins with -/
theorem wl_enter {l : Launch} {y : MethodName} {Ts : List Cond} {rm : Room} {D : va_G} {cl : List vw_C} {tys : List (ClassId × FieldType)} {n : Nat} {ad : Nat → Nat} {av : List Value} {ct : Nat → va_E} {sz : Nat} {bytes : ByteArray} {maxL : Nat} {ret : Option FieldType} {Qc : Array Value → State → Outcome → State → Prop} {own : String} (ho : y.cls = own) (hy : plainName y.cls = true) (hlen : (lg_sl av).length ≤ maxL) (hinj : wl_inj n ad)
    (body : ∀ (p : Program) (e : Env) (s : State) (m : MethodId) (below : List Frame) (meth : Method) (c : Code) (ls : Array Slot), s.heap.size = sz → wl_X p s m av.toArray c bytes own Ts D cl tys n ad (wl_A n ad s.heap.size) → c.maxLocals = maxL → meth.sig.returnType = ret → meth.locks = false → lv_has ls maxL (lv_args 0 av) → va_P D cl (wl_W n ad ct) s.heap → va_S (wl_A n ad s.heap.size) s.heap s.heap [] →
      W p l e rm s m av.toArray below meth c s.heap [] 0 0 (MQ below Qc av.toArray s 0 0 (wl_A n ad sz)) (F0 m 0 ls [])) :
    Met l y (Cond.code y bytes maxL ret :: Ts) rm (wl_Pc av D cl tys n ad ct sz) Qc 0 0 (wl_A n ad sz) := by
  subst ho
  refine Met.ofW (cc := bytes) (maxL := maxL) (ret := ret) hy rfl ?_
  intro p e s m args below meth c s₁ B hml hv
  obtain ⟨rfl, hsz, hP, hK⟩ := hv
  have hts := atoms_spec (ws := Cond.code y bytes maxL ret :: Ts) B.pre
  have hl := lv_entry av (n := maxL) hlen
  rw [lg_entry_eq]
  generalize (lg_sl av ++ List.replicate (maxL - (lg_sl av).length) Slot.unset).toArray = ls at hl ⊢
  exact body p e s m below meth c ls hsz ⟨B.exec, B.bytes, findClass_of_methodNamed B.named, fun w hw => hts w (List.mem_cons_of_mem _ hw), hK, hinj, fun i hi => Or.inl ⟨i, hi, rfl⟩⟩ hml B.returns B.notSynchronized hl hP va_S.rf
section WLC
variable {p : Program} {l : Launch} {e : Env} {R : Room} {s : State} {m : MethodId} {args : Array Value} {below : List Frame} {meth : Method} {c : Code} {H : Heap} {locs : List Loc} {cells slots : Nat} {Q : State → Prop}
variable {cc : ByteArray} {pc : Nat} {ls : Array Slot} {rest st0 : List Value} {D : va_G} {cl : List vw_C} {tys : List (ClassId × FieldType)} {H0 : Heap} {n sz : Nat} {ad : Nat → Nat} {ct ct2 : Nat → va_E} {own : String} {Ts : List Cond} {A : Nat → Prop}
theorem wl_iret {r : Int32} (X : wl_X p s m args c cc own Ts D cl tys n ad (wl_A n ad s.heap.size)) (hsz : s.heap.size = sz) (hr : meth.sig.returnType = some .int) (hlocks : meth.locks = false) (hP : va_P D cl (wl_W n ad ct) H) (hS : va_S (wl_A n ad s.heap.size) s.heap H locs) (hdg : decode cc pc = .ok (.ireturn, 1)) : W p l e R s m args below meth c H locs 0 0 (MQ below (wl_Qi D cl tys n ad r ct sz) args s 0 0 (wl_A n ad sz)) (F0 m pc ls [.int r]) := by
  subst hsz
  exact W.iret (v := r) X.1 X.2.1 hr (fun t ht hW => ⟨⟨r, (), rfl, rfl, by rw [ht]; exact hP, va_K.moved hW.alike X.2.2.2.2.1⟩, hS.F ht⟩) hS.2.2 hdg hlocks
theorem wl_zret {r : Int32} (X : wl_X p s m args c cc own Ts D cl tys n ad (wl_A n ad s.heap.size)) (hsz : s.heap.size = sz) (hr : meth.sig.returnType = some .boolean) (hlocks : meth.locks = false) (hn : narrow .boolean (.int r) = .int r) (hP : va_P D cl (wl_W n ad ct) H) (hS : va_S (wl_A n ad s.heap.size) s.heap H locs) (hdg : decode cc pc = .ok (.ireturn, 1)) : W p l e R s m args below meth c H locs 0 0 (MQ below (wl_Qi D cl tys n ad r ct sz) args s 0 0 (wl_A n ad sz)) (F0 m pc ls [.int r]) := by
  subst hsz
  exact W.zret (v := r) X.1 X.2.1 hr hn (fun t ht hW => ⟨⟨r, (), rfl, rfl, by rw [ht]; exact hP, va_K.moved hW.alike X.2.2.2.2.1⟩, hS.F ht⟩) hS.2.2 hdg hlocks
theorem wl_vret (X : wl_X p s m args c cc own Ts D cl tys n ad (wl_A n ad s.heap.size)) (hsz : s.heap.size = sz) (hr : meth.sig.returnType = none) (hlocks : meth.locks = false) (hP : va_P D cl (wl_W n ad ct) H) (hS : va_S (wl_A n ad s.heap.size) s.heap H locs) (hdg : decode cc pc = .ok (.return_, 1)) : W p l e R s m args below meth c H locs 0 0 (MQ below (wl_Qv D cl tys n ad ct sz) args s 0 0 (wl_A n ad sz)) (F0 m pc ls []) := by
  subst hsz
  exact W.vret X.1 X.2.1 hr (fun t ht hW => ⟨⟨(), rfl, trivial, by rw [ht]; exact hP, va_K.moved hW.alike X.2.2.2.2.1⟩, hS.F ht⟩) hS.2.2 hdg hlocks
theorem wl_go {a : Array Value} (hS : va_S A H0 H locs) (hA : ∀ q, H0.size ≤ q → A q) (hAd : ∀ i, i < n → A (ad i)) : ∀ q, wl_A n ad H.size q → A q := fun q h => by
  rcases h with ⟨i, hi, rfl⟩ | h
  · exact hAd i hi
  · exact hA q (Nat.le_trans hS.1 h)
theorem wl_goi {a : Array Value} {r : Int32} (hS : va_S A H0 H locs) (hA : ∀ q, H0.size ≤ q → A q) (hAd : ∀ i, i < n → A (ad i)) (hr : va_Run p l e R s m args below meth c H locs cells slots 0 0 (F0 m pc ls st0) rest (wl_Qi D cl tys n ad r ct2 H.size a) (wl_A n ad H.size))
    (kk : ∀ (H1 : Heap) (locs1 : List Loc), va_P D cl (wl_W n ad ct2) H1 → va_S A H0 H1 locs1 → H.size ≤ H1.size → (∀ q : Nat, q < H.size → ¬ wl_A n ad H.size q → H1[q]? = H[q]?) → W p l e R s m args below meth c H1 locs1 cells slots Q (F0 m (pc + 3) ls (.int r :: rest))) : W p l e R s m args below meth c H locs cells slots Q (F0 m pc ls st0) := by
  have hf := wl_go (a := a) hS hA hAd
  refine va_calli hr hS (fun q _ h => hf q h) hf (fun r' u t H1 locs1 ht hvm hpost hB hz hk hS1 => ?_)
  have hpost : r' = r := hpost
  subst hpost
  exact kk H1 locs1 (by rw [← ht]; exact hB.1) hS1 hz hk
theorem wl_gov {a : Array Value} (hS : va_S A H0 H locs) (hA : ∀ q, H0.size ≤ q → A q) (hAd : ∀ i, i < n → A (ad i)) (hr : va_Run p l e R s m args below meth c H locs cells slots 0 0 (F0 m pc ls st0) rest (wl_Qv D cl tys n ad ct2 H.size a) (wl_A n ad H.size))
    (kk : ∀ (H1 : Heap) (locs1 : List Loc), va_P D cl (wl_W n ad ct2) H1 → va_S A H0 H1 locs1 → H.size ≤ H1.size → (∀ q : Nat, q < H.size → ¬ wl_A n ad H.size q → H1[q]? = H[q]?) → W p l e R s m args below meth c H1 locs1 cells slots Q (F0 m (pc + 3) ls rest)) : W p l e R s m args below meth c H locs cells slots Q (F0 m pc ls st0) := by
  have hf := wl_go (a := a) hS hA hAd
  exact va_callv hr hS (fun q _ h => hf q h) hf (fun u t H1 locs1 ht hvm hpost hB hz hk hS1 => kk H1 locs1 (by rw [← ht]; exact hB.1) hS1 hz hk)
theorem wl_gor {a : Array Value} {r : Nat} (hS : va_S A H0 H locs) (hA : ∀ q, H0.size ≤ q → A q) (hAd : ∀ i, i < n → A (ad i)) (hr : va_Run p l e R s m args below meth c H locs cells slots 0 0 (F0 m pc ls st0) rest (wl_Qr D cl tys n ad r ct2 H.size a) (wl_A n ad H.size))
    (kk : ∀ (H1 : Heap) (locs1 : List Loc), va_P D cl (wl_W n ad ct2) H1 → va_S A H0 H1 locs1 → H.size ≤ H1.size → (∀ q : Nat, q < H.size → ¬ wl_A n ad H.size q → H1[q]? = H[q]?) → W p l e R s m args below meth c H1 locs1 cells slots Q (F0 m (pc + 3) ls (.ref r :: rest))) : W p l e R s m args below meth c H locs cells slots Q (F0 m pc ls st0) := by
  have hf := wl_go (a := a) hS hA hAd
  refine va_callr hr hS (fun q _ h => hf q h) hf (fun u ra t H1 locs1 ht hvm hpost hB hz hk hS1 => ?_)
  obtain ⟨rfl, hB⟩ := hB
  exact kk H1 locs1 (by rw [← ht]; exact hB.1) hS1 hz hk
theorem wl_aret {r : Nat} {rt : String} (X : wl_X p s m args c cc own Ts D cl tys n ad (wl_A n ad s.heap.size)) (hsz : s.heap.size = sz) (hr : meth.sig.returnType = some (.object rt)) (hlocks : meth.locks = false) (hP : va_P D cl (wl_W n ad ct) H) (hS : va_S (wl_A n ad s.heap.size) s.heap H locs) (hdg : decode cc pc = .ok (.areturn, 1)) : W p l e R s m args below meth c H locs 0 0 (MQ below (wl_Qr D cl tys n ad r ct sz) args s 0 0 (wl_A n ad sz)) (F0 m pc ls [.ref r]) := by
  subst hsz
  exact W.aret (v := .ref r) X.1 X.2.1 hr (Or.inl ⟨_, rfl⟩) (Or.inr ⟨_, rfl⟩) (fun t ht hW => ⟨⟨(), r, rfl, trivial, rfl, by rw [ht]; exact hP, va_K.moved hW.alike X.2.2.2.2.1⟩, hS.F ht⟩) hS.2.2 hdg hlocks
theorem wl_pre {As : List Value} (hK : va_K D cl tys s) (hP : va_P D cl (wl_W n ad ct) H) (U : State) (hU : U.heap = H) (hW : s.WarmedH U.vm) : wl_Pc As D cl tys n ad ct H.size As.toArray U := ⟨rfl, by rw [hU], by rw [hU]; exact hP, va_K.moved hW.alike hK⟩
theorem wl_goi2 {σ : Type} {cf : σ → Nat → va_E} {res : Int32 × σ} {a : Array Value} (hS : va_S A H0 H locs) (hA : ∀ q, H0.size ≤ q → A q) (hAd : ∀ i, i < n → A (ad i)) (hr : va_Run p l e R s m args below meth c H locs cells slots 0 0 (F0 m pc ls st0) rest (wl_Qi D cl tys n ad res.1 (cf res.2) H.size a) (wl_A n ad H.size))
    (kk : ∀ (r : Int32) (S2 : σ), r = res.1 → S2 = res.2 → ∀ (H1 : Heap) (locs1 : List Loc), va_P D cl (wl_W n ad (cf S2)) H1 → va_S A H0 H1 locs1 → W p l e R s m args below meth c H1 locs1 cells slots Q (F0 m (pc + 3) ls (.int r :: rest))) : W p l e R s m args below meth c H locs cells slots Q (F0 m pc ls st0) :=
  wl_goi hS hA hAd hr (fun H1 locs1 h1 h2 _ _ => kk _ _ rfl rfl H1 locs1 h1 h2)
theorem wl_goi1 {σ : Type} {cf : σ → Nat → va_E} {S1 : σ} {r : Int32} {a : Array Value} (hS : va_S A H0 H locs) (hA : ∀ q, H0.size ≤ q → A q) (hAd : ∀ i, i < n → A (ad i)) (hr : va_Run p l e R s m args below meth c H locs cells slots 0 0 (F0 m pc ls st0) rest (wl_Qi D cl tys n ad r (cf S1) H.size a) (wl_A n ad H.size))
    (kk : ∀ (r1 : Int32), r1 = r → ∀ (H1 : Heap) (locs1 : List Loc), va_P D cl (wl_W n ad (cf S1)) H1 → va_S A H0 H1 locs1 → W p l e R s m args below meth c H1 locs1 cells slots Q (F0 m (pc + 3) ls (.int r1 :: rest))) : W p l e R s m args below meth c H locs cells slots Q (F0 m pc ls st0) :=
  wl_goi hS hA hAd hr (fun H1 locs1 h1 h2 _ _ => kk _ rfl H1 locs1 h1 h2)
theorem wl_gov2 {σ : Type} {cf : σ → Nat → va_E} {S2 : σ} {a : Array Value} (hS : va_S A H0 H locs) (hA : ∀ q, H0.size ≤ q → A q) (hAd : ∀ i, i < n → A (ad i)) (hr : va_Run p l e R s m args below meth c H locs cells slots 0 0 (F0 m pc ls st0) rest (wl_Qv D cl tys n ad (cf S2) H.size a) (wl_A n ad H.size))
    (kk : ∀ (S3 : σ), S3 = S2 → ∀ (H1 : Heap) (locs1 : List Loc), va_P D cl (wl_W n ad (cf S3)) H1 → va_S A H0 H1 locs1 → W p l e R s m args below meth c H1 locs1 cells slots Q (F0 m (pc + 3) ls rest)) : W p l e R s m args below meth c H locs cells slots Q (F0 m pc ls st0) :=
  wl_gov hS hA hAd hr (fun H1 locs1 h1 h2 _ _ => kk _ rfl H1 locs1 h1 h2)
theorem wl_gor2 {σ : Type} {cf : σ → Nat → va_E} {pl : Nat → Nat} {res : Nat × σ} {a : Array Value} (hS : va_S A H0 H locs) (hA : ∀ q, H0.size ≤ q → A q) (hAd : ∀ i, i < n → A (ad i)) (hr : va_Run p l e R s m args below meth c H locs cells slots 0 0 (F0 m pc ls st0) rest (wl_Qr D cl tys n ad (ad (pl res.1)) (cf res.2) H.size a) (wl_A n ad H.size))
    (kk : ∀ (r : Nat) (S2 : σ), r = res.1 → S2 = res.2 → ∀ (H1 : Heap) (locs1 : List Loc), va_P D cl (wl_W n ad (cf S2)) H1 → va_S A H0 H1 locs1 → W p l e R s m args below meth c H1 locs1 cells slots Q (F0 m (pc + 3) ls (.ref (ad (pl r)) :: rest))) : W p l e R s m args below meth c H locs cells slots Q (F0 m pc ls st0) :=
  wl_gor hS hA hAd hr (fun H1 locs1 h1 h2 _ _ => kk _ _ rfl rfl H1 locs1 h1 h2)
variable {nL d maxL index na : Nat} {y : MethodName} {bytes : ByteArray} {ret : Option FieldType} {Qc : Array Value → State → Outcome → State → Prop} {free : Addr → Prop} {As : List Value}
theorem wl_runV {C : String} {T : u_T} {N ci b : Nat} {fs : List Value} (X : wl_X p s m args c cc own Ts D cl tys n ad A) (hml : c.maxLocals = nL) (hsz : ls.size = nL) (hP : va_P D cl (wl_W n ad ct) H) (hG : GoodIn Ts Ts)
    (hM : Met l y (Cond.code y bytes maxL ret :: Ts) (rm_ d) (wl_Pc (.ref (ad b) :: As) D cl tys n ad ct H.size) Qc 0 0 free) (hb : b < n) (he : ct b = .inr (ci, fs)) (hc : cl[ci]? = some (C, T, N))
    (hws : ∀ w ∈ ([.methodLink own index y, .instanceMethod y, .selects C y y, .initialized C, .code y bytes maxL ret] : List Cond), w ∈ Ts)
    (hd : y.cls = C ∧ y.cls ≠ "java/lang/invoke/MethodHandle" ∧ y.cls ≠ "java/lang/invoke/VarHandle" ∧ (parseMethodDescriptor y.desc).map (fun d => d.parameters.length) = some na) (hna : As.length = na) (hR : (rm_ d).frames + 1 ≤ R.frames ∧ 8 + (maxL + 11) + (rm_ d).locals ≤ R.locals)
    (hst : st0 = As.reverse ++ .ref (ad b) :: rest) (hro : (rest.map fun v => v.category).sum ≤ 8) (hdg : decode cc pc = .ok (.invokevirtual index, 3)) (hcs : cells ≤ R.cells ∧ slots ≤ R.slots) :
    va_Run p l e R s m args below meth c H locs cells slots 0 0 (F0 m pc ls st0) rest (Qc (Value.ref (ad b) :: As).toArray) free := by
  have hG2 : GoodIn Ts (wsV own index C y (Cond.code y bytes maxL ret :: Ts)) := by
    refine wl_good hG (fun w hw => ?_)
    unfold wsV at hw
    rcases List.mem_append.mp hw with h | h
    · exact hws w (List.mem_append_left [Cond.code y bytes maxL ret] h)
    · rcases List.mem_cons.mp h with h | h
      · exact hws w (by rw [h]; simp)
      · exact h
  exact va_runV ⟨X.1, X.2.1, hml, X.2.2.1, X.2.2.2.1⟩ hM (cwV na X.2.2.2.1 hG2 rfl rfl rfl hd hR) ⟨wl_blind, va_recv X.2.2.2.2.1 hP hc (by rw [wl_at hb, he]), fun U hU hW => wl_pre X.2.2.2.2.1 hP U hU hW⟩ rfl hna hsz hst (lv_room hro) hdg hcs
theorem wl_runS (X : wl_X p s m args c cc own Ts D cl tys n ad A) (hml : c.maxLocals = nL) (hsz : ls.size = nL) (hP : va_P D cl (wl_W n ad ct) H) (hG : GoodIn Ts Ts)
    (hM : Met l y (Cond.code y bytes maxL ret :: Ts) (rm_ d) (wl_Pc As D cl tys n ad ct H.size) Qc 0 0 free)
    (hws : ∀ w ∈ ([.methodLink own index y, .static y, .initialized y.cls, .code y bytes maxL ret] : List Cond), w ∈ Ts)
    (hd : y.cls ≠ "java/lang/invoke/MethodHandle" ∧ y.cls ≠ "java/lang/invoke/VarHandle" ∧ (parseMethodDescriptor y.desc).map (fun d => d.parameters.length) = some na) (hna : As.length = na) (hR : (rm_ d).frames + 1 ≤ R.frames ∧ 8 + (maxL + 11) + (rm_ d).locals ≤ R.locals)
    (hst : st0 = As.reverse ++ rest) (hro : (rest.map fun v => v.category).sum ≤ 8) (hdg : decode cc pc = .ok (.invokestatic index, 3)) (hcs : cells ≤ R.cells ∧ slots ≤ R.slots) :
    va_Run p l e R s m args below meth c H locs cells slots 0 0 (F0 m pc ls st0) rest (Qc As.toArray) free := by
  have hG2 : GoodIn Ts (va_wsS own index y (Cond.code y bytes maxL ret :: Ts)) := by
    refine wl_good hG (fun w hw => ?_)
    unfold va_wsS at hw
    rcases List.mem_append.mp hw with h | h
    · exact hws w (List.mem_append_left [Cond.code y bytes maxL ret] h)
    · rcases List.mem_cons.mp h with h | h
      · exact hws w (by rw [h]; simp)
      · exact h
  exact va_runS ⟨X.1, X.2.1, hml, X.2.2.1, X.2.2.2.1⟩ hM (va_cwS na X.2.2.2.1 hG2 rfl rfl rfl hd hR) ⟨wl_blind, fun U hU hW => wl_pre X.2.2.2.2.1 hP U hU hW⟩ rfl hna hsz hst (lv_room hro) hdg hcs
end WLC
/-! ints as indexes -/
theorem sk_in {x : Int32} {n : Nat} (h : vp_in x n) (hn : n < 2 ^ 31) : x = nI x.toNatClampNeg ∧ x.toNatClampNeg < n := by
  obtain ⟨j, hj, rfl⟩ := vp_in_of h hn
  rw [nI_clamp (by omega)]
  exact ⟨rfl, hj⟩
theorem sk_and3 (x : Int32) : x &&& 3 = nI (x &&& 3).toNatClampNeg ∧ (x &&& 3).toNatClampNeg < 4 := sk_in (n := 4) (pk_andIn x 2 (by decide) (by decide)) (by decide)
theorem sk_rng {x : Int32} (N : Nat) (h0 : ¬ x < 0) (h1 : ¬ nI N ≤ x) (hN : N < 2 ^ 31) : x = nI x.toNatClampNeg ∧ x.toNatClampNeg < N := by
  rcases pk_ix x hN with h | h | ⟨j, hj, rfl⟩
  · exact absurd h h0
  · exact absurd h h1
  · rw [nI_clamp (by omega)]
    exact ⟨rfl, hj⟩
theorem wl_push {n : Nat} {ad : Nat → Nat} {ct : Nat → va_E} {q : Nat} {e : va_E} : wl_W n ad ct ++ [(q, e)] = wl_W (n + 1) (va_up ad n q) (va_up ct n e) := by
  simp only [wl_W, List.range_succ, List.map_append, List.map_cons, List.map_nil, va_up_self]
  congr 1
  apply List.map_congr_left
  intro i hi
  have hne : i ≠ n := by
    have := List.mem_range.mp hi
    omega
  rw [va_up_ne _ _ hne, va_up_ne _ _ hne]
theorem wl_ofD {n : Nat} {ad : Nat → Nat} {ct : Nat → va_E} {A : Nat → Prop} (h : va_D A (wl_W n ad ct)) : wl_inj n ad ∧ ∀ i, i < n → A (ad i) :=
  ⟨fun i j hi hj e => h.1 i j _ _ (wl_at hi) (wl_at hj) e, fun i hi => h.2 i _ (wl_at hi)⟩
