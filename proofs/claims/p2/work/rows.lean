section
-- ===== PART A: goes FIRST, ahead of the names: the tables' words, and 'selects' of the private methods out of them =====
/-- a private method of a class that the tables say can be made, by its rows of tables_1 -/
def lw_okq (q : MethodName × Nat) : Prop := (q.1.cls ≠ "java/lang/invoke/MethodHandle" ∧ q.1.cls ≠ "java/lang/invoke/VarHandle") ∧ Cond.instantiable q.1.cls q.2 ∈ tables_1 ∧ Cond.privateMethod q.1 ∈ tables_1 ∧ Cond.instanceMethod q.1 ∈ tables_1
theorem lw_p0 : lw_okq (⟨"SheetKernel", "leastAbsent", "()I"⟩, 10) := ⟨⟨by decide +kernel, by decide +kernel⟩, List.mem_of_getElem? (i := 9) (by decide +kernel), List.mem_of_getElem? (i := 171) (by decide +kernel), List.mem_of_getElem? (i := 172) (by decide +kernel)⟩
theorem lw_p1 : lw_okq (⟨"SheetKernel", "lives", "(I)Z"⟩, 10) := ⟨⟨by decide +kernel, by decide +kernel⟩, List.mem_of_getElem? (i := 9) (by decide +kernel), List.mem_of_getElem? (i := 186) (by decide +kernel), List.mem_of_getElem? (i := 187) (by decide +kernel)⟩
theorem lw_p2 : lw_okq (⟨"SheetKernel", "isThere", "(I)Z"⟩, 10) := ⟨⟨by decide +kernel, by decide +kernel⟩, List.mem_of_getElem? (i := 9) (by decide +kernel), List.mem_of_getElem? (i := 190) (by decide +kernel), List.mem_of_getElem? (i := 191) (by decide +kernel)⟩
theorem lw_p3 : lw_okq (⟨"SheetKernel", "end", "(II)V"⟩, 10) := ⟨⟨by decide +kernel, by decide +kernel⟩, List.mem_of_getElem? (i := 9) (by decide +kernel), List.mem_of_getElem? (i := 244) (by decide +kernel), List.mem_of_getElem? (i := 245) (by decide +kernel)⟩
theorem lw_p4 : lw_okq (⟨"SheetKernel", "orphanChildren", "(I)V"⟩, 10) := ⟨⟨by decide +kernel, by decide +kernel⟩, List.mem_of_getElem? (i := 9) (by decide +kernel), List.mem_of_getElem? (i := 256) (by decide +kernel), List.mem_of_getElem? (i := 257) (by decide +kernel)⟩
theorem lw_p5 : lw_okq (⟨"SheetKernel", "wakeSleepers", "()V"⟩, 10) := ⟨⟨by decide +kernel, by decide +kernel⟩, List.mem_of_getElem? (i := 9) (by decide +kernel), List.mem_of_getElem? (i := 268) (by decide +kernel), List.mem_of_getElem? (i := 269) (by decide +kernel)⟩
theorem lw_p6 : lw_okq (⟨"SheetKernel", "giveTurn", "()Z"⟩, 10) := ⟨⟨by decide +kernel, by decide +kernel⟩, List.mem_of_getElem? (i := 9) (by decide +kernel), List.mem_of_getElem? (i := 272) (by decide +kernel), List.mem_of_getElem? (i := 273) (by decide +kernel)⟩
theorem lw_p7 : lw_okq (⟨"SheetKernel", "doInstruction", "(I)V"⟩, 10) := ⟨⟨by decide +kernel, by decide +kernel⟩, List.mem_of_getElem? (i := 9) (by decide +kernel), List.mem_of_getElem? (i := 276) (by decide +kernel), List.mem_of_getElem? (i := 277) (by decide +kernel)⟩
theorem lw_p8 : lw_okq (⟨"SheetKernel", "obey", "(II)Z"⟩, 10) := ⟨⟨by decide +kernel, by decide +kernel⟩, List.mem_of_getElem? (i := 9) (by decide +kernel), List.mem_of_getElem? (i := 284) (by decide +kernel), List.mem_of_getElem? (i := 285) (by decide +kernel)⟩
theorem lw_p9 : lw_okq (⟨"SheetKernel", "callSystem", "(III)Z"⟩, 10) := ⟨⟨by decide +kernel, by decide +kernel⟩, List.mem_of_getElem? (i := 9) (by decide +kernel), List.mem_of_getElem? (i := 288) (by decide +kernel), List.mem_of_getElem? (i := 289) (by decide +kernel)⟩
theorem lw_p10 : lw_okq (⟨"SheetKernel", "print", "(I)V"⟩, 10) := ⟨⟨by decide +kernel, by decide +kernel⟩, List.mem_of_getElem? (i := 9) (by decide +kernel), List.mem_of_getElem? (i := 292) (by decide +kernel), List.mem_of_getElem? (i := 293) (by decide +kernel)⟩
theorem lw_p11 : lw_okq (⟨"SheetKernel", "fork", "(II)V"⟩, 10) := ⟨⟨by decide +kernel, by decide +kernel⟩, List.mem_of_getElem? (i := 9) (by decide +kernel), List.mem_of_getElem? (i := 296) (by decide +kernel), List.mem_of_getElem? (i := 297) (by decide +kernel)⟩
theorem lw_p12 : lw_okq (⟨"SheetKernel", "sleep", "(LSheetKernel$Task;I)V"⟩, 10) := ⟨⟨by decide +kernel, by decide +kernel⟩, List.mem_of_getElem? (i := 9) (by decide +kernel), List.mem_of_getElem? (i := 300) (by decide +kernel), List.mem_of_getElem? (i := 301) (by decide +kernel)⟩
theorem lw_p13 : lw_okq (⟨"SheetKernel", "awaitChild", "(II)V"⟩, 10) := ⟨⟨by decide +kernel, by decide +kernel⟩, List.mem_of_getElem? (i := 9) (by decide +kernel), List.mem_of_getElem? (i := 304) (by decide +kernel), List.mem_of_getElem? (i := 305) (by decide +kernel)⟩
theorem lw_p14 : lw_okq (⟨"SheetKernel", "presentTasks", "()I"⟩, 10) := ⟨⟨by decide +kernel, by decide +kernel⟩, List.mem_of_getElem? (i := 9) (by decide +kernel), List.mem_of_getElem? (i := 332) (by decide +kernel), List.mem_of_getElem? (i := 333) (by decide +kernel)⟩
theorem lw_p15 : lw_okq (⟨"SheetKernelModel", "begin", "(I)I"⟩, 23) := ⟨⟨by decide +kernel, by decide +kernel⟩, List.mem_of_getElem? (i := 339) (by decide +kernel), List.mem_of_getElem? (i := 420) (by decide +kernel), List.mem_of_getElem? (i := 421) (by decide +kernel)⟩
def lw_privs_1 : List (MethodName × Nat) := [(⟨"SheetKernel", "leastAbsent", "()I"⟩, 10), (⟨"SheetKernel", "lives", "(I)Z"⟩, 10), (⟨"SheetKernel", "isThere", "(I)Z"⟩, 10), (⟨"SheetKernel", "end", "(II)V"⟩, 10), (⟨"SheetKernel", "orphanChildren", "(I)V"⟩, 10), (⟨"SheetKernel", "wakeSleepers", "()V"⟩, 10), (⟨"SheetKernel", "giveTurn", "()Z"⟩, 10), (⟨"SheetKernel", "doInstruction", "(I)V"⟩, 10), (⟨"SheetKernel", "obey", "(II)Z"⟩, 10), (⟨"SheetKernel", "callSystem", "(III)Z"⟩, 10), (⟨"SheetKernel", "print", "(I)V"⟩, 10), (⟨"SheetKernel", "fork", "(II)V"⟩, 10), (⟨"SheetKernel", "sleep", "(LSheetKernel$Task;I)V"⟩, 10), (⟨"SheetKernel", "awaitChild", "(II)V"⟩, 10), (⟨"SheetKernel", "presentTasks", "()I"⟩, 10), (⟨"SheetKernelModel", "begin", "(I)I"⟩, 23)]
theorem lw_r1 : ∀ q ∈ lw_privs_1, lw_okq q := List.forall_mem_cons.mpr ⟨lw_p0, List.forall_mem_cons.mpr ⟨lw_p1, List.forall_mem_cons.mpr ⟨lw_p2, List.forall_mem_cons.mpr ⟨lw_p3, List.forall_mem_cons.mpr ⟨lw_p4, List.forall_mem_cons.mpr ⟨lw_p5, List.forall_mem_cons.mpr ⟨lw_p6, List.forall_mem_cons.mpr ⟨lw_p7, List.forall_mem_cons.mpr ⟨lw_p8, List.forall_mem_cons.mpr ⟨lw_p9, List.forall_mem_cons.mpr ⟨lw_p10, List.forall_mem_cons.mpr ⟨lw_p11, List.forall_mem_cons.mpr ⟨lw_p12, List.forall_mem_cons.mpr ⟨lw_p13, List.forall_mem_cons.mpr ⟨lw_p14, List.forall_mem_cons.mpr ⟨lw_p15, fun _ h => absurd h List.not_mem_nil⟩⟩⟩⟩⟩⟩⟩⟩⟩⟩⟩⟩⟩⟩⟩⟩
theorem lw_p16 : lw_okq (⟨"SheetKernelModel", "isAlive", "(I)Z"⟩, 23) := ⟨⟨by decide +kernel, by decide +kernel⟩, List.mem_of_getElem? (i := 339) (by decide +kernel), List.mem_of_getElem? (i := 428) (by decide +kernel), List.mem_of_getElem? (i := 429) (by decide +kernel)⟩
theorem lw_p17 : lw_okq (⟨"SheetKernelModel", "isThere", "(I)Z"⟩, 23) := ⟨⟨by decide +kernel, by decide +kernel⟩, List.mem_of_getElem? (i := 339) (by decide +kernel), List.mem_of_getElem? (i := 432) (by decide +kernel), List.mem_of_getElem? (i := 433) (by decide +kernel)⟩
theorem lw_p18 : lw_okq (⟨"SheetKernelModel", "reach", "(IIZ)I"⟩, 23) := ⟨⟨by decide +kernel, by decide +kernel⟩, List.mem_of_getElem? (i := 339) (by decide +kernel), List.mem_of_getElem? (i := 439) (by decide +kernel), List.mem_of_getElem? (i := 440) (by decide +kernel)⟩
theorem lw_p19 : lw_okq (⟨"SheetKernelModel", "fresh", "()I"⟩, 23) := ⟨⟨by decide +kernel, by decide +kernel⟩, List.mem_of_getElem? (i := 339) (by decide +kernel), List.mem_of_getElem? (i := 443) (by decide +kernel), List.mem_of_getElem? (i := 444) (by decide +kernel)⟩
theorem lw_p20 : lw_okq (⟨"SheetKernelModel", "bring", "(IIZ)V"⟩, 23) := ⟨⟨by decide +kernel, by decide +kernel⟩, List.mem_of_getElem? (i := 339) (by decide +kernel), List.mem_of_getElem? (i := 447) (by decide +kernel), List.mem_of_getElem? (i := 448) (by decide +kernel)⟩
theorem lw_p21 : lw_okq (⟨"SheetKernelModel", "freeFrame", "()I"⟩, 23) := ⟨⟨by decide +kernel, by decide +kernel⟩, List.mem_of_getElem? (i := 339) (by decide +kernel), List.mem_of_getElem? (i := 451) (by decide +kernel), List.mem_of_getElem? (i := 452) (by decide +kernel)⟩
theorem lw_p22 : lw_okq (⟨"SheetKernelModel", "inFrame", "(I)I"⟩, 23) := ⟨⟨by decide +kernel, by decide +kernel⟩, List.mem_of_getElem? (i := 339) (by decide +kernel), List.mem_of_getElem? (i := 455) (by decide +kernel), List.mem_of_getElem? (i := 456) (by decide +kernel)⟩
theorem lw_p23 : lw_okq (⟨"SheetKernelModel", "goesOut", "(I)V"⟩, 23) := ⟨⟨by decide +kernel, by decide +kernel⟩, List.mem_of_getElem? (i := 339) (by decide +kernel), List.mem_of_getElem? (i := 459) (by decide +kernel), List.mem_of_getElem? (i := 460) (by decide +kernel)⟩
theorem lw_p24 : lw_okq (⟨"SheetKernelModel", "isSlot", "(I)Z"⟩, 23) := ⟨⟨by decide +kernel, by decide +kernel⟩, List.mem_of_getElem? (i := 339) (by decide +kernel), List.mem_of_getElem? (i := 463) (by decide +kernel), List.mem_of_getElem? (i := 464) (by decide +kernel)⟩
theorem lw_p25 : lw_okq (⟨"SheetKernelModel", "sharers", "(I)I"⟩, 23) := ⟨⟨by decide +kernel, by decide +kernel⟩, List.mem_of_getElem? (i := 339) (by decide +kernel), List.mem_of_getElem? (i := 467) (by decide +kernel), List.mem_of_getElem? (i := 468) (by decide +kernel)⟩
theorem lw_p26 : lw_okq (⟨"SheetKernelModel", "ends", "(II)V"⟩, 23) := ⟨⟨by decide +kernel, by decide +kernel⟩, List.mem_of_getElem? (i := 339) (by decide +kernel), List.mem_of_getElem? (i := 479) (by decide +kernel), List.mem_of_getElem? (i := 480) (by decide +kernel)⟩
theorem lw_p27 : lw_okq (⟨"SheetKernelModel", "let", "(I)V"⟩, 23) := ⟨⟨by decide +kernel, by decide +kernel⟩, List.mem_of_getElem? (i := 339) (by decide +kernel), List.mem_of_getElem? (i := 483) (by decide +kernel), List.mem_of_getElem? (i := 484) (by decide +kernel)⟩
theorem lw_p28 : lw_okq (⟨"SheetKernelModel", "tick", "()Z"⟩, 23) := ⟨⟨by decide +kernel, by decide +kernel⟩, List.mem_of_getElem? (i := 339) (by decide +kernel), List.mem_of_getElem? (i := 491) (by decide +kernel), List.mem_of_getElem? (i := 492) (by decide +kernel)⟩
theorem lw_p29 : lw_okq (⟨"SheetKernelModel", "does", "(I)Z"⟩, 23) := ⟨⟨by decide +kernel, by decide +kernel⟩, List.mem_of_getElem? (i := 339) (by decide +kernel), List.mem_of_getElem? (i := 495) (by decide +kernel), List.mem_of_getElem? (i := 496) (by decide +kernel)⟩
theorem lw_p30 : lw_okq (⟨"SheetKernelModel", "calls", "(III)Z"⟩, 23) := ⟨⟨by decide +kernel, by decide +kernel⟩, List.mem_of_getElem? (i := 339) (by decide +kernel), List.mem_of_getElem? (i := 499) (by decide +kernel), List.mem_of_getElem? (i := 500) (by decide +kernel)⟩
theorem lw_p31 : lw_okq (⟨"SheetKernelModel", "waits", "(II)Z"⟩, 23) := ⟨⟨by decide +kernel, by decide +kernel⟩, List.mem_of_getElem? (i := 339) (by decide +kernel), List.mem_of_getElem? (i := 503) (by decide +kernel), List.mem_of_getElem? (i := 504) (by decide +kernel)⟩
def lw_privs_2 : List (MethodName × Nat) := [(⟨"SheetKernelModel", "isAlive", "(I)Z"⟩, 23), (⟨"SheetKernelModel", "isThere", "(I)Z"⟩, 23), (⟨"SheetKernelModel", "reach", "(IIZ)I"⟩, 23), (⟨"SheetKernelModel", "fresh", "()I"⟩, 23), (⟨"SheetKernelModel", "bring", "(IIZ)V"⟩, 23), (⟨"SheetKernelModel", "freeFrame", "()I"⟩, 23), (⟨"SheetKernelModel", "inFrame", "(I)I"⟩, 23), (⟨"SheetKernelModel", "goesOut", "(I)V"⟩, 23), (⟨"SheetKernelModel", "isSlot", "(I)Z"⟩, 23), (⟨"SheetKernelModel", "sharers", "(I)I"⟩, 23), (⟨"SheetKernelModel", "ends", "(II)V"⟩, 23), (⟨"SheetKernelModel", "let", "(I)V"⟩, 23), (⟨"SheetKernelModel", "tick", "()Z"⟩, 23), (⟨"SheetKernelModel", "does", "(I)Z"⟩, 23), (⟨"SheetKernelModel", "calls", "(III)Z"⟩, 23), (⟨"SheetKernelModel", "waits", "(II)Z"⟩, 23)]
theorem lw_r2 : ∀ q ∈ lw_privs_2, lw_okq q := List.forall_mem_cons.mpr ⟨lw_p16, List.forall_mem_cons.mpr ⟨lw_p17, List.forall_mem_cons.mpr ⟨lw_p18, List.forall_mem_cons.mpr ⟨lw_p19, List.forall_mem_cons.mpr ⟨lw_p20, List.forall_mem_cons.mpr ⟨lw_p21, List.forall_mem_cons.mpr ⟨lw_p22, List.forall_mem_cons.mpr ⟨lw_p23, List.forall_mem_cons.mpr ⟨lw_p24, List.forall_mem_cons.mpr ⟨lw_p25, List.forall_mem_cons.mpr ⟨lw_p26, List.forall_mem_cons.mpr ⟨lw_p27, List.forall_mem_cons.mpr ⟨lw_p28, List.forall_mem_cons.mpr ⟨lw_p29, List.forall_mem_cons.mpr ⟨lw_p30, List.forall_mem_cons.mpr ⟨lw_p31, fun _ h => absurd h List.not_mem_nil⟩⟩⟩⟩⟩⟩⟩⟩⟩⟩⟩⟩⟩⟩⟩⟩
theorem lw_p32 : lw_okq (⟨"SheetKernelModel", "fork", "(II)I"⟩, 23) := ⟨⟨by decide +kernel, by decide +kernel⟩, List.mem_of_getElem? (i := 339) (by decide +kernel), List.mem_of_getElem? (i := 507) (by decide +kernel), List.mem_of_getElem? (i := 508) (by decide +kernel)⟩
def lw_privs_3 : List (MethodName × Nat) := [(⟨"SheetKernelModel", "fork", "(II)I"⟩, 23)]
theorem lw_r3 : ∀ q ∈ lw_privs_3, lw_okq q := List.forall_mem_cons.mpr ⟨lw_p32, fun _ h => absurd h List.not_mem_nil⟩
def lw_privs : List (MethodName × Nat) := lw_privs_1 ++ (lw_privs_2 ++ (lw_privs_3))
def lw_tbl : List Cond := k2_sels lw_privs ++ tables_1
theorem lw_privs_ok : ∀ q ∈ lw_privs, lw_okq q := by
  show ∀ q ∈ lw_privs_1 ++ (lw_privs_2 ++ (lw_privs_3)), lw_okq q
  exact List.forall_mem_append.mpr ⟨lw_r1, List.forall_mem_append.mpr ⟨lw_r2, lw_r3⟩⟩
end
section
/-! WORLDS BY PLACES: n cells at the addresses ad, holding ct; rows over them. -/
def wl_W (n : Nat) (ad : Nat → Nat) (ct : Nat → va_E) : va_W := (List.range n).map (fun i => (ad i, ct i))
theorem wl_len {n : Nat} {ad : Nat → Nat} {ct : Nat → va_E} : (wl_W n ad ct).length = n := by simp [wl_W]
theorem wl_at {n : Nat} {ad : Nat → Nat} {ct : Nat → va_E} {i : Nat} (h : i < n) : (wl_W n ad ct)[i]? = some (ad i, ct i) := by
  simp only [wl_W, List.getElem?_map]
  rw [List.getElem?_range h]
  rfl
theorem wl_of {n : Nat} {ad : Nat → Nat} {ct : Nat → va_E} {k : Nat} {q : Nat × va_E} (h : (wl_W n ad ct)[k]? = some q) : k < n ∧ q = (ad k, ct k) := by
  have hk : k < n := by
    have := (List.getElem?_eq_some_iff.mp h).1
    rwa [wl_len] at this
  rw [wl_at hk] at h
  exact ⟨hk, (Option.some.inj h).symm⟩
theorem wl_set {n : Nat} {ad : Nat → Nat} {ct : Nat → va_E} {i : Nat} {e : va_E} (h : i < n) : (wl_W n ad ct).set i (ad i, e) = wl_W n ad (va_up ct i e) := by
  apply List.ext_getElem?
  intro j
  by_cases hj : j = i
  · subst hj
    rw [List.getElem?_set_self (by rw [wl_len]; exact h), wl_at h, va_up_self]
  · rw [List.getElem?_set_ne (Ne.symm hj)]
    by_cases hn : j < n
    · rw [wl_at hn, wl_at hn, va_up_ne _ _ hj]
    · rw [List.getElem?_eq_none (by rw [wl_len]; omega), List.getElem?_eq_none (by rw [wl_len]; omega)]
def wl_inj (n : Nat) (ad : Nat → Nat) : Prop := ∀ i j, i < n → j < n → ad i = ad j → i = j
theorem wl_D {n : Nat} {ad : Nat → Nat} {ct : Nat → va_E} {A : Nat → Prop} (h : wl_inj n ad) (hA : ∀ i, i < n → A (ad i)) : va_D A (wl_W n ad ct) := by
  refine ⟨fun i j x y hx hy e => ?_, fun k q hk => ?_⟩
  · obtain ⟨h1, rfl⟩ := wl_of hx
    obtain ⟨h2, rfl⟩ := wl_of hy
    exact h i j h1 h2 e
  · obtain ⟨h1, rfl⟩ := wl_of hk
    exact hA k h1
/-- the cells that a method over such a world may write: its own, and new ones -/
def wl_A (n : Nat) (ad : Nat → Nat) (sz : Nat) : Nat → Prop := fun q => (∃ i, i < n ∧ ad i = q) ∨ sz ≤ q
/-- a world apart from the one that was written stays -/
theorem wl_kept {D : va_G} {cl : List vw_C} {n k : Nat} {ad bd : Nat → Nat} {ct : Nat → va_E} {H H1 : Heap} (hP : va_P D cl (wl_W k bd ct) H) (hk : ∀ q : Nat, q < H.size → ¬ wl_A n ad H.size q → H1[q]? = H[q]?) (hx : ∀ i j, i < n → j < k → ad i ≠ bd j) : va_P D cl (wl_W k bd ct) H1 := by
  refine hP.kept (fun j q hq => ?_)
  have hlt := (hP j q hq).lt
  obtain ⟨h1, rfl⟩ := wl_of hq
  refine hk _ hlt (fun h => ?_)
  rcases h with ⟨i, hi, h⟩ | h
  · exact hx i j hi h1 h
  · exact absurd hlt (Nat.not_lt.mpr h)
def rm_ (d : Nat) : Room := { frames := d, cells := 0, slots := 0, locals := 40 * d }
section WLX
variable {p : Program} {l : Launch} {e : Env} {R : Room} {s : State} {m : MethodId} {args : Array Value} {below : List Frame} {meth : Method} {c : Code} {H : Heap} {locs : List Loc} {cells slots : Nat} {Q : State → Prop}
variable {cc : ByteArray} {pc : Nat} {ls : Array Slot} {rest : List Value} {D : va_G} {cl : List vw_C} {tys : List (ClassId × FieldType)} {H0 : Heap} {n : Nat} {ad : Nat → Nat} {ct ct' : Nat → va_E} {own : String} {Ts : List Cond} {A : Nat → Prop}
/-- a frame's context: the machine, the code, the words, the classes, the addresses apart -/
def wl_X (p : Program) (s : State) (m : MethodId) (args : Array Value) (c : Code) (cc : ByteArray) (own : String) (Ts : List Cond) (D : va_G) (cl : List vw_C) (tys : List (ClassId × FieldType)) (n : Nat) (ad : Nat → Nat) (A : Nat → Prop) : Prop :=
  p.tables.exec = Jvm.exec ∧ c.code = cc ∧ s.vm.findClass own = some m.cls ∧ (∀ w ∈ Ts, w.before args s = true) ∧ va_K D cl tys s ∧ wl_inj n ad ∧ ∀ i, i < n → A (ad i)
/-- the number on the stack by another name -/
theorem wl_top {x y : Int32} (h : x = y) (k : W p l e R s m args below meth c H locs cells slots Q (F0 m pc ls (.int y :: rest))) : W p l e R s m args below meth c H locs cells slots Q (F0 m pc ls (.int x :: rest)) := h ▸ k
theorem wl_topv {x y : Value} (h : x = y) (k : W p l e R s m args below meth c H locs cells slots Q (F0 m pc ls (y :: rest))) : W p l e R s m args below meth c H locs cells slots Q (F0 m pc ls (x :: rest)) := h ▸ k
theorem wl_get (X : wl_X p s m args c cc own Ts D cl tys n ad A) (hP : va_P D cl (wl_W n ad ct) H) {C : String} {T : u_T} {N ci index i : Nat} (hi : i < n) {fs : List Value} (he : ct i = .inr (ci, fs)) (hc : cl[ci]? = some (C, T, N)) (hin : ∀ w ∈ u_ws C T N, w ∈ Ts) (k : Nat) (hk : k < N) (hlink : Cond.fieldLink own index (T k).1 (T k).2.1 (T k).2.2.1 ∈ Ts) {v : Value} (hv : fs[k]? = some v) (hdg : decode cc pc = .ok (.getfield index, 3))
    (kk : W p l e R s m args below meth c H locs cells slots Q (F0 m (pc + 3) ls (v :: rest))) : W p l e R s m args below meth c H locs cells slots Q (F0 m pc ls (.ref (ad i) :: rest)) :=
  va_get (D := D) (cl := cl) (ws := wl_W n ad ct) (ci := ci) (C := C) (T := T) (N := N) X.1 X.2.1 X.2.2.2.1 hin X.2.2.1 X.2.2.2.2.1 hP i (by rw [wl_at hi, he]) hc k hk (X.2.2.2.1 _ hlink) (fun _ h => h) hv hdg kk
theorem wl_put (X : wl_X p s m args c cc own Ts D cl tys n ad A) (hP : va_P D cl (wl_W n ad ct) H) (hS : va_S A H0 H locs) {C : String} {T : u_T} {N ci index i : Nat} (hi : i < n) {fs : List Value} (he : ct i = .inr (ci, fs)) (hc : cl[ci]? = some (C, T, N)) (hin : ∀ w ∈ u_ws C T N, w ∈ Ts) (ty0 : Nat → FieldType) (hty : ∀ k, k < N → parseFieldDescriptor (T k).2.2.1 = some (ty0 k)) (hnm : ∀ a, a < N → ∀ b, b < N → a ≠ b → (T a).2.1 ≠ (T b).2.1) (k : Nat) (hk : k < N) (hlink : Cond.fieldLink own index (T k).1 (T k).2.1 (T k).2.2.1 ∈ Ts) (hfin : (T k).2.2.2 = false) {v : Value} (hn : narrow (ty0 k) v = v) (hfit : fits (ty0 k) v = true) (hl : k < fs.length) (hdg : decode cc pc = .ok (.putfield index, 3)) (hct : va_up ct i (.inr (ci, fs.set k v)) = ct')
    (kk : ∀ (H1 : Heap) (locs1 : List Loc), va_P D cl (wl_W n ad ct') H1 → va_S A H0 H1 locs1 → W p l e R s m args below meth c H1 locs1 cells slots Q (F0 m (pc + 3) ls rest)) : W p l e R s m args below meth c H locs cells slots Q (F0 m pc ls (v :: .ref (ad i) :: rest)) := by
  subst hct
  exact va_put (D := D) (cl := cl) (ws := wl_W n ad ct) (ci := ci) (C := C) (T := T) (N := N) X.1 X.2.1 X.2.2.2.1 hin ty0 hty hnm X.2.2.1 X.2.2.2.2.1 hP (wl_D X.2.2.2.2.2.1 X.2.2.2.2.2.2) hS i (by rw [wl_at hi, he]) hc k hk (X.2.2.2.1 _ hlink) (fun _ h => h) hfin (hty k hk) hn hfit hl hdg (fun H1 locs1 h1 _ h3 => kk H1 locs1 (by rw [wl_set hi] at h1; exact h1) h3)
theorem wl_iald (X : wl_X p s m args c cc own Ts D cl tys n ad A) (hP : va_P D cl (wl_W n ad ct) H) {i : Nat} (hi : i < n) (t0 : Nat) {cA : ClassId} {len : Nat} {f : Nat → Int32} (he : ct i = .inl (cA, len, .inl f)) (ht : tys[t0]? = some (cA, .int)) {xj : Int32} {j : Nat} (hxj : xj = nI j) (hj : j < len) (hlen : len < 2 ^ 31) (hdg : decode cc pc = .ok (.iaload, 1))
    (kk : W p l e R s m args below meth c H locs cells slots Q (F0 m (pc + 1) ls (.int (f j) :: rest))) : W p l e R s m args below meth c H locs cells slots Q (F0 m pc ls (.int xj :: .ref (ad i) :: rest)) := by
  subst hxj
  refine va_iald (D := D) (cl := cl) (ws := wl_W n ad ct) X.1 X.2.1 X.2.2.2.2.1 hP i t0 (by rw [wl_at hi, he]) ht (vp_in_nI hj hlen) hdg ?_
  rw [nI_clamp (Nat.lt_trans hj hlen)]
  exact kk
theorem wl_iast (X : wl_X p s m args c cc own Ts D cl tys n ad A) (hP : va_P D cl (wl_W n ad ct) H) (hS : va_S A H0 H locs) {i : Nat} (hi : i < n) (t0 : Nat) {cA : ClassId} {len : Nat} {f : Nat → Int32} (he : ct i = .inl (cA, len, .inl f)) (ht : tys[t0]? = some (cA, .int)) {xj : Int32} {j : Nat} (hxj : xj = nI j) (hj : j < len) (hlen : len < 2 ^ 31) {x : Int32} (hdg : decode cc pc = .ok (.iastore, 1)) (hct : va_up ct i (.inl (cA, len, .inl (upd f j x))) = ct')
    (kk : ∀ (H1 : Heap) (locs1 : List Loc), va_P D cl (wl_W n ad ct') H1 → va_S A H0 H1 locs1 → W p l e R s m args below meth c H1 locs1 cells slots Q (F0 m (pc + 1) ls rest)) : W p l e R s m args below meth c H locs cells slots Q (F0 m pc ls (.int x :: .int xj :: .ref (ad i) :: rest)) := by
  subst hxj
  subst hct
  refine va_iast (D := D) (cl := cl) (ws := wl_W n ad ct) X.1 X.2.1 X.2.2.2.2.1 hP (wl_D X.2.2.2.2.2.1 X.2.2.2.2.2.2) hS i t0 (by rw [wl_at hi, he]) ht (vp_in_nI hj hlen) hdg (fun H1 locs1 h1 _ h3 => kk H1 locs1 ?_ h3)
  rw [nI_clamp (Nat.lt_trans hj hlen), wl_set hi] at h1
  exact h1
theorem wl_alen (X : wl_X p s m args c cc own Ts D cl tys n ad A) (hP : va_P D cl (wl_W n ad ct) H) {i : Nat} (hi : i < n) (t0 : Nat) {cA : ClassId} {x : vp_A} (he : ct i = .inl (cA, x)) {ty : FieldType} (ht : tys[t0]? = some (cA, ty)) (hdg : decode cc pc = .ok (.arraylength, 1))
    (kk : W p l e R s m args below meth c H locs cells slots Q (F0 m (pc + 1) ls (.int (nI x.1) :: rest))) : W p l e R s m args below meth c H locs cells slots Q (F0 m pc ls (.ref (ad i) :: rest)) :=
  va_alen (D := D) (cl := cl) (ws := wl_W n ad ct) X.1 X.2.1 X.2.2.2.2.1 hP i t0 (by rw [wl_at hi, he]) ht rfl hdg kk
theorem wl_aald (X : wl_X p s m args c cc own Ts D cl tys n ad A) (hP : va_P D cl (wl_W n ad ct) H) {i : Nat} (hi : i < n) (t0 : Nat) {cA : ClassId} {C : String} {len : Nat} {f : Nat → Option Nat} (he : ct i = .inl (cA, len, .inr (.inr (.inr (.inr f))))) (ht : tys[t0]? = some (cA, .object C)) {xj : Int32} {j : Nat} (hxj : xj = nI j) (hj : j < len) (hlen : len < 2 ^ 31) (hdg : decode cc pc = .ok (.aaload, 1))
    (kk : W p l e R s m args below meth c H locs cells slots Q (F0 m (pc + 1) ls (va_rf (f j) :: rest))) : W p l e R s m args below meth c H locs cells slots Q (F0 m pc ls (.int xj :: .ref (ad i) :: rest)) := by
  subst hxj
  refine va_aldq (D := D) (cl := cl) (ws := wl_W n ad ct) X.1 X.2.1 X.2.2.2.2.1 hP i t0 (by rw [wl_at hi, he]) ht (vp_in_nI hj hlen) hdg ?_
  rw [nI_clamp (Nat.lt_trans hj hlen)]
  exact kk
theorem wl_aast (X : wl_X p s m args c cc own Ts D cl tys n ad A) (hP : va_P D cl (wl_W n ad ct) H) (hS : va_S A H0 H locs) {i : Nat} (hi : i < n) (t0 : Nat) {cA : ClassId} {r : vw_C} {len : Nat} {f : Nat → Option Nat} (he : ct i = .inl (cA, len, .inr (.inr (.inr (.inr f))))) (ht : tys[t0]? = some (cA, .object r.1)) {xj : Int32} {j : Nat} (hxj : xj = nI j) (hj : j < len) (hlen : len < 2 ^ 31) {k ci : Nat} {vs : List Value} (hk : k < n) (hke : ct k = .inr (ci, vs)) (hc : cl[ci]? = some r) (hdg : decode cc pc = .ok (.aastore, 1)) (hct : va_up ct i (.inl (cA, len, .inr (.inr (.inr (.inr (va_up f j (some (ad k)))))))) = ct')
    (kk : ∀ (H1 : Heap) (locs1 : List Loc), va_P D cl (wl_W n ad ct') H1 → va_S A H0 H1 locs1 → W p l e R s m args below meth c H1 locs1 cells slots Q (F0 m (pc + 1) ls rest)) : W p l e R s m args below meth c H locs cells slots Q (F0 m pc ls (.ref (ad k) :: .int xj :: .ref (ad i) :: rest)) := by
  subst hxj
  subst hct
  refine va_astq (D := D) (cl := cl) (ws := wl_W n ad ct) X.1 X.2.1 X.2.2.2.2.1 hP (wl_D X.2.2.2.2.2.1 X.2.2.2.2.2.2) hS i t0 k ci (by rw [wl_at hi, he]) ht (by rw [wl_at hk, hke]) hc (vp_in_nI hj hlen) hdg (fun H1 locs1 h1 _ h3 => kk H1 locs1 ?_ h3)
  rw [nI_clamp (Nat.lt_trans hj hlen), wl_set hi] at h1
  exact h1
theorem wl_aastN (X : wl_X p s m args c cc own Ts D cl tys n ad A) (hP : va_P D cl (wl_W n ad ct) H) (hS : va_S A H0 H locs) {i : Nat} (hi : i < n) (t0 : Nat) {cA : ClassId} {C : String} {len : Nat} {f : Nat → Option Nat} (he : ct i = .inl (cA, len, .inr (.inr (.inr (.inr f))))) (ht : tys[t0]? = some (cA, .object C)) {xj : Int32} {j : Nat} (hxj : xj = nI j) (hj : j < len) (hlen : len < 2 ^ 31) (hdg : decode cc pc = .ok (.aastore, 1)) (hct : va_up ct i (.inl (cA, len, .inr (.inr (.inr (.inr (va_up f j none)))))) = ct')
    (kk : ∀ (H1 : Heap) (locs1 : List Loc), va_P D cl (wl_W n ad ct') H1 → va_S A H0 H1 locs1 → W p l e R s m args below meth c H1 locs1 cells slots Q (F0 m (pc + 1) ls rest)) : W p l e R s m args below meth c H locs cells slots Q (F0 m pc ls (.null :: .int xj :: .ref (ad i) :: rest)) := by
  subst hxj
  subst hct
  refine va_astqN (D := D) (cl := cl) (ws := wl_W n ad ct) X.1 X.2.1 X.2.2.2.2.1 hP (wl_D X.2.2.2.2.2.1 X.2.2.2.2.2.2) hS i t0 (by rw [wl_at hi, he]) ht (vp_in_nI hj hlen) hdg (fun H1 locs1 h1 _ h3 => kk H1 locs1 ?_ h3)
  rw [nI_clamp (Nat.lt_trans hj hlen), wl_set hi] at h1
  exact h1
theorem wl_copyi (X : wl_X p s m args c cc own Ts D cl tys n ad A) (hml : c.maxLocals = ls.size) (hP : va_P D cl (wl_W n ad ct) H) (hS : va_S A H0 H locs) {index i0 i1 : Nat} (hi0 : i0 < n) (hi1 : i1 < n) (t0 : Nat) {cA : ClassId} {n0 n1 : Nat} {f g : Nat → Int32} (he0 : ct i0 = .inl (cA, n0, .inl f)) (he1 : ct i1 = .inl (cA, n1, .inl g)) (ht : tys[t0]? = some (cA, .int)) {k : Nat} (hk0 : k ≤ n0) (hk1 : k ≤ n1) (hk : k < 2 ^ 31)
    (hws : Cond.methodLink own index arraycopyName ∈ Ts ∧ Cond.native arraycopyName ∈ Ts ∧ Cond.static arraycopyName ∈ Ts ∧ Cond.initialized "java/lang/System" ∈ Ts) (hframes : 1 ≤ R.frames) (hlocals : (rest.map fun v => v.category).sum + (nativeFrameWords "java/lang/System" "arraycopy" 5 + 11) ≤ R.locals) (hdg : decode cc pc = .ok (.invokestatic index, 3)) (hct : va_up ct i1 (.inl (cA, n1, .inl (va_cpy f g 0 0 k))) = ct')
    (kk : ∀ (H1 : Heap) (locs1 : List Loc), va_P D cl (wl_W n ad ct') H1 → va_S A H0 H1 locs1 → W p l e R s m args below meth c H1 locs1 cells slots Q (F0 m (pc + 3) ls rest)) : W p l e R s m args below meth c H locs cells slots Q (F0 m pc ls (.int (nI k) :: .int 0 :: .ref (ad i1) :: .int 0 :: .ref (ad i0) :: rest)) := by
  subst hct
  refine va_copyi (D := D) (cl := cl) (ws := wl_W n ad ct) X.1 X.2.1 hml X.2.2.1 (X.2.2.2.1 _ hws.1) (X.2.2.2.1 _ hws.2.1) (X.2.2.2.1 _ hws.2.2.1) (X.2.2.2.1 _ hws.2.2.2) X.2.2.2.2.1 hP (wl_D X.2.2.2.2.2.1 X.2.2.2.2.2.2) hS i0 i1 t0 t0 (by rw [wl_at hi0, he0]) (by rw [wl_at hi1, he1]) ht ht rfl (by decide) (by decide) (nI_pos hk) (by rw [sb_cl0, nI_clamp hk]; omega) (by rw [sb_cl0, nI_clamp hk]; omega) (fun _ _ => rfl) hframes hlocals hdg (fun H1 locs1 h1 _ h3 => kk H1 locs1 ?_ h3)
  rw [sb_cl0, nI_clamp hk, wl_set hi1] at h1
  exact h1
end WLX
/-! a loop's head -/
theorem sk_lhz {i N : Nat} (h : i + 0 = N) (hN : N < 2 ^ 31 := by decide) : nI N ≤ nI i := nI_le (by omega) (by omega)
theorem sk_lhs {i k N : Nat} (h : i + (k + 1) = N) (hN : N < 2 ^ 31 := by decide) : ¬ nI N ≤ nI i := nI_ge (by omega) hN
theorem sk_lgz {i N : Nat} (h : i + 0 = N + 1) (hN : N < 2 ^ 30 := by decide) : nI N < nI i := nI_lt (by omega) (by omega)
theorem sk_lgs {i k N : Nat} (h : i + (k + 1) = N + 1) (hN : N < 2 ^ 30 := by decide) : ¬ nI N < nI i := nI_nlt (by omega) (by omega)
/-! METHODS OVER A WORLD: contracts, entry, return, calls. -/
abbrev wl_At (D : va_G) (cl : List vw_C) (tys : List (ClassId × FieldType)) (n : Nat) (ad : Nat → Nat) (ct : Nat → va_E) (t : State) : Prop := va_P D cl (wl_W n ad ct) t.heap ∧ va_K D cl tys t
abbrev wl_Pc (av : List Value) (D : va_G) (cl : List vw_C) (tys : List (ClassId × FieldType)) (n : Nat) (ad : Nat → Nat) (ct : Nat → va_E) (sz : Nat) : Array Value → State → Prop := va_Pc av (fun U => U.heap.size = sz ∧ wl_At D cl tys n ad ct U)
abbrev wl_Qi (D : va_G) (cl : List vw_C) (tys : List (ClassId × FieldType)) (n : Nat) (ad : Nat → Nat) (r : Int32) (ct2 : Nat → va_E) (sz : Nat) : Array Value → State → Outcome → State → Prop := va_Qi (fun (r' : Int32) (_ : Unit) => r' = r) (fun _ t => wl_At D cl tys n ad ct2 t) (wl_A n ad sz)
abbrev wl_Qv (D : va_G) (cl : List vw_C) (tys : List (ClassId × FieldType)) (n : Nat) (ad : Nat → Nat) (ct2 : Nat → va_E) (sz : Nat) : Array Value → State → Outcome → State → Prop := va_Qv (fun (_ : Unit) => True) (fun _ t => wl_At D cl tys n ad ct2 t) (wl_A n ad sz)
abbrev wl_Qr (D : va_G) (cl : List vw_C) (tys : List (ClassId × FieldType)) (n : Nat) (ad : Nat → Nat) (a : Nat) (ct2 : Nat → va_E) (sz : Nat) : Array Value → State → Outcome → State → Prop := va_Qr (fun (_ : Unit) => True) (fun _ a' t => a' = a ∧ wl_At D cl tys n ad ct2 t) (wl_A n ad sz)
/-- from the world ct, with the arguments av: an int r and the world ct2; nothing, and ct2; the cell a, and ct2 -/
abbrev wl_Mi (l : Launch) (y : MethodName) (ws : List Cond) (rm : Room) (D : va_G) (cl : List vw_C) (tys : List (ClassId × FieldType)) (n : Nat) (ad : Nat → Nat) (av : List Value) (ct : Nat → va_E) (r : Int32) (ct2 : Nat → va_E) : Prop := ∀ sz : Nat, Met l y ws rm (wl_Pc av D cl tys n ad ct sz) (wl_Qi D cl tys n ad r ct2 sz) 0 0 (wl_A n ad sz)
abbrev wl_Mv (l : Launch) (y : MethodName) (ws : List Cond) (rm : Room) (D : va_G) (cl : List vw_C) (tys : List (ClassId × FieldType)) (n : Nat) (ad : Nat → Nat) (av : List Value) (ct : Nat → va_E) (ct2 : Nat → va_E) : Prop := ∀ sz : Nat, Met l y ws rm (wl_Pc av D cl tys n ad ct sz) (wl_Qv D cl tys n ad ct2 sz) 0 0 (wl_A n ad sz)
abbrev wl_Mr (l : Launch) (y : MethodName) (ws : List Cond) (rm : Room) (D : va_G) (cl : List vw_C) (tys : List (ClassId × FieldType)) (n : Nat) (ad : Nat → Nat) (av : List Value) (ct : Nat → va_E) (a : Nat) (ct2 : Nat → va_E) : Prop := ∀ sz : Nat, Met l y ws rm (wl_Pc av D cl tys n ad ct sz) (wl_Qr D cl tys n ad a ct2 sz) 0 0 (wl_A n ad sz)
theorem wl_blind {av : List Value} {D : va_G} {cl : List vw_C} {tys : List (ClassId × FieldType)} {n : Nat} {ad : Nat → Nat} {ct : Nat → va_E} {sz : Nat} : FrameBlind (wl_Pc av D cl tys n ad ct sz) := fun a U g mk q => by
  obtain ⟨q0, q1, qP, qK⟩ := q
  exact ⟨q0, q1, qP, va_K.moved (u := U) (U := U.calling g mk a) (Vm.Alike.refl U.vm) qK⟩
theorem wl_good {Ts ws : List Cond} (hG : GoodIn Ts Ts) (h : ∀ w ∈ ws, w ∈ Ts) : GoodIn Ts ws := fun w hw => hG w (h w hw)
/-- a method's entry: what its walk begins with -/
theorem wl_enter {l : Launch} {y : MethodName} {Ts : List Cond} {rm : Room} {D : va_G} {cl : List vw_C} {tys : List (ClassId × FieldType)} {n : Nat} {ad : Nat → Nat} {av : List Value} {ct : Nat → va_E} {sz : Nat} {bytes : ByteArray} {maxL : Nat} {ret : Option FieldType} {Qc : Array Value → State → Outcome → State → Prop} {own : String} (ho : y.cls = own) (hy : plainName y.cls = true) (hlen : (lg_sl av).length ≤ maxL) (hinj : wl_inj n ad)
    (body : ∀ (p : Program) (e : Env) (s : State) (m : MethodId) (below : List Frame) (meth : Method) (c : Code) (ls : Array Slot), s.heap.size = sz → wl_X p s m av.toArray c bytes own Ts D cl tys n ad (wl_A n ad s.heap.size) → c.maxLocals = maxL → meth.sig.returnType = ret → meth.locks = false → lv_has ls maxL (lv_args 0 av) → va_P D cl (wl_W n ad ct) s.heap → va_S (wl_A n ad s.heap.size) s.heap s.heap [] →
      W p l e rm s m av.toArray below meth c s.heap [] 0 0 (MQ below Qc av.toArray s 0 0 (wl_A n ad sz)) (F0 m 0 ls [])) :
    Met l y (Cond.code y bytes maxL ret :: Ts) rm (wl_Pc av D cl tys n ad ct sz) Qc 0 0 (wl_A n ad sz) := by
  subst ho
  refine Met.ofW (cc := bytes) (maxL := maxL) (ret := ret) hy rfl ?_
  intro p e s m args below meth c s₁ B hml hv
  obtain ⟨rfl, hsz, hP, hK⟩ := hv
  have hts := atoms_spec (ws := Cond.code y bytes maxL ret :: Ts) B.pre
  have hl := lv_entry av (n := maxL) hlen
  rw [lg_entry_eq]
  generalize (lg_sl av ++ List.replicate (maxL - (lg_sl av).length) Slot.unset).toArray = ls at hl ⊢
  exact body p e s m below meth c ls hsz ⟨B.exec, B.bytes, findClass_of_methodNamed B.named, fun w hw => hts w (List.mem_cons_of_mem _ hw), hK, hinj, fun i hi => Or.inl ⟨i, hi, rfl⟩⟩ hml B.returns B.notSynchronized hl hP va_S.rf
section WLC
variable {p : Program} {l : Launch} {e : Env} {R : Room} {s : State} {m : MethodId} {args : Array Value} {below : List Frame} {meth : Method} {c : Code} {H : Heap} {locs : List Loc} {cells slots : Nat} {Q : State → Prop}
variable {cc : ByteArray} {pc : Nat} {ls : Array Slot} {rest st0 : List Value} {D : va_G} {cl : List vw_C} {tys : List (ClassId × FieldType)} {H0 : Heap} {n sz : Nat} {ad : Nat → Nat} {ct ct2 : Nat → va_E} {own : String} {Ts : List Cond} {A : Nat → Prop}
theorem wl_iret {r : Int32} (X : wl_X p s m args c cc own Ts D cl tys n ad (wl_A n ad s.heap.size)) (hsz : s.heap.size = sz) (hr : meth.sig.returnType = some .int) (hlocks : meth.locks = false) (hP : va_P D cl (wl_W n ad ct) H) (hS : va_S (wl_A n ad s.heap.size) s.heap H locs) (hdg : decode cc pc = .ok (.ireturn, 1)) : W p l e R s m args below meth c H locs 0 0 (MQ below (wl_Qi D cl tys n ad r ct sz) args s 0 0 (wl_A n ad sz)) (F0 m pc ls [.int r]) := by
  subst hsz
  exact W.iret (v := r) X.1 X.2.1 hr (fun t ht hW => ⟨⟨r, (), rfl, rfl, by rw [ht]; exact hP, va_K.moved hW.alike X.2.2.2.2.1⟩, hS.F ht⟩) hS.2.2 hdg hlocks
theorem wl_zret {r : Int32} (X : wl_X p s m args c cc own Ts D cl tys n ad (wl_A n ad s.heap.size)) (hsz : s.heap.size = sz) (hr : meth.sig.returnType = some .boolean) (hlocks : meth.locks = false) (hn : narrow .boolean (.int r) = .int r) (hP : va_P D cl (wl_W n ad ct) H) (hS : va_S (wl_A n ad s.heap.size) s.heap H locs) (hdg : decode cc pc = .ok (.ireturn, 1)) : W p l e R s m args below meth c H locs 0 0 (MQ below (wl_Qi D cl tys n ad r ct sz) args s 0 0 (wl_A n ad sz)) (F0 m pc ls [.int r]) := by
  subst hsz
  exact W.zret (v := r) X.1 X.2.1 hr hn (fun t ht hW => ⟨⟨r, (), rfl, rfl, by rw [ht]; exact hP, va_K.moved hW.alike X.2.2.2.2.1⟩, hS.F ht⟩) hS.2.2 hdg hlocks
theorem wl_vret (X : wl_X p s m args c cc own Ts D cl tys n ad (wl_A n ad s.heap.size)) (hsz : s.heap.size = sz) (hr : meth.sig.returnType = none) (hlocks : meth.locks = false) (hP : va_P D cl (wl_W n ad ct) H) (hS : va_S (wl_A n ad s.heap.size) s.heap H locs) (hdg : decode cc pc = .ok (.return_, 1)) : W p l e R s m args below meth c H locs 0 0 (MQ below (wl_Qv D cl tys n ad ct sz) args s 0 0 (wl_A n ad sz)) (F0 m pc ls []) := by
  subst hsz
  exact W.vret X.1 X.2.1 hr (fun t ht hW => ⟨⟨(), rfl, trivial, by rw [ht]; exact hP, va_K.moved hW.alike X.2.2.2.2.1⟩, hS.F ht⟩) hS.2.2 hdg hlocks
theorem wl_go {a : Array Value} (hS : va_S A H0 H locs) (hA : ∀ q, H0.size ≤ q → A q) (hAd : ∀ i, i < n → A (ad i)) : ∀ q, wl_A n ad H.size q → A q := fun q h => by
  rcases h with ⟨i, hi, rfl⟩ | h
  · exact hAd i hi
  · exact hA q (Nat.le_trans hS.1 h)
theorem wl_goi {a : Array Value} {r : Int32} (hS : va_S A H0 H locs) (hA : ∀ q, H0.size ≤ q → A q) (hAd : ∀ i, i < n → A (ad i)) (hr : va_Run p l e R s m args below meth c H locs cells slots 0 0 (F0 m pc ls st0) rest (wl_Qi D cl tys n ad r ct2 H.size a) (wl_A n ad H.size))
    (kk : ∀ (H1 : Heap) (locs1 : List Loc), va_P D cl (wl_W n ad ct2) H1 → va_S A H0 H1 locs1 → H.size ≤ H1.size → (∀ q : Nat, q < H.size → ¬ wl_A n ad H.size q → H1[q]? = H[q]?) → W p l e R s m args below meth c H1 locs1 cells slots Q (F0 m (pc + 3) ls (.int r :: rest))) : W p l e R s m args below meth c H locs cells slots Q (F0 m pc ls st0) := by
  have hf := wl_go (a := a) hS hA hAd
  refine va_calli hr hS (fun q _ h => hf q h) hf (fun r' u t H1 locs1 ht hvm hpost hB hz hk hS1 => ?_)
  have hpost : r' = r := hpost
  subst hpost
  exact kk H1 locs1 (by rw [← ht]; exact hB.1) hS1 hz hk
theorem wl_gov {a : Array Value} (hS : va_S A H0 H locs) (hA : ∀ q, H0.size ≤ q → A q) (hAd : ∀ i, i < n → A (ad i)) (hr : va_Run p l e R s m args below meth c H locs cells slots 0 0 (F0 m pc ls st0) rest (wl_Qv D cl tys n ad ct2 H.size a) (wl_A n ad H.size))
    (kk : ∀ (H1 : Heap) (locs1 : List Loc), va_P D cl (wl_W n ad ct2) H1 → va_S A H0 H1 locs1 → H.size ≤ H1.size → (∀ q : Nat, q < H.size → ¬ wl_A n ad H.size q → H1[q]? = H[q]?) → W p l e R s m args below meth c H1 locs1 cells slots Q (F0 m (pc + 3) ls rest)) : W p l e R s m args below meth c H locs cells slots Q (F0 m pc ls st0) := by
  have hf := wl_go (a := a) hS hA hAd
  exact va_callv hr hS (fun q _ h => hf q h) hf (fun u t H1 locs1 ht hvm hpost hB hz hk hS1 => kk H1 locs1 (by rw [← ht]; exact hB.1) hS1 hz hk)
theorem wl_gor {a : Array Value} {r : Nat} (hS : va_S A H0 H locs) (hA : ∀ q, H0.size ≤ q → A q) (hAd : ∀ i, i < n → A (ad i)) (hr : va_Run p l e R s m args below meth c H locs cells slots 0 0 (F0 m pc ls st0) rest (wl_Qr D cl tys n ad r ct2 H.size a) (wl_A n ad H.size))
    (kk : ∀ (H1 : Heap) (locs1 : List Loc), va_P D cl (wl_W n ad ct2) H1 → va_S A H0 H1 locs1 → H.size ≤ H1.size → (∀ q : Nat, q < H.size → ¬ wl_A n ad H.size q → H1[q]? = H[q]?) → W p l e R s m args below meth c H1 locs1 cells slots Q (F0 m (pc + 3) ls (.ref r :: rest))) : W p l e R s m args below meth c H locs cells slots Q (F0 m pc ls st0) := by
  have hf := wl_go (a := a) hS hA hAd
  refine va_callr hr hS (fun q _ h => hf q h) hf (fun u ra t H1 locs1 ht hvm hpost hB hz hk hS1 => ?_)
  obtain ⟨rfl, hB⟩ := hB
  exact kk H1 locs1 (by rw [← ht]; exact hB.1) hS1 hz hk
theorem wl_aret {r : Nat} {rt : String} (X : wl_X p s m args c cc own Ts D cl tys n ad (wl_A n ad s.heap.size)) (hsz : s.heap.size = sz) (hr : meth.sig.returnType = some (.object rt)) (hlocks : meth.locks = false) (hP : va_P D cl (wl_W n ad ct) H) (hS : va_S (wl_A n ad s.heap.size) s.heap H locs) (hdg : decode cc pc = .ok (.areturn, 1)) : W p l e R s m args below meth c H locs 0 0 (MQ below (wl_Qr D cl tys n ad r ct sz) args s 0 0 (wl_A n ad sz)) (F0 m pc ls [.ref r]) := by
  subst hsz
  exact W.aret (v := .ref r) X.1 X.2.1 hr (Or.inl ⟨_, rfl⟩) (Or.inr ⟨_, rfl⟩) (fun t ht hW => ⟨⟨(), r, rfl, trivial, rfl, by rw [ht]; exact hP, va_K.moved hW.alike X.2.2.2.2.1⟩, hS.F ht⟩) hS.2.2 hdg hlocks
theorem wl_pre {As : List Value} (hK : va_K D cl tys s) (hP : va_P D cl (wl_W n ad ct) H) (U : State) (hU : U.heap = H) (hW : s.WarmedH U.vm) : wl_Pc As D cl tys n ad ct H.size As.toArray U := ⟨rfl, by rw [hU], by rw [hU]; exact hP, va_K.moved hW.alike hK⟩
theorem wl_goi2 {σ : Type} {cf : σ → Nat → va_E} {res : Int32 × σ} {a : Array Value} (hS : va_S A H0 H locs) (hA : ∀ q, H0.size ≤ q → A q) (hAd : ∀ i, i < n → A (ad i)) (hr : va_Run p l e R s m args below meth c H locs cells slots 0 0 (F0 m pc ls st0) rest (wl_Qi D cl tys n ad res.1 (cf res.2) H.size a) (wl_A n ad H.size))
    (kk : ∀ (r : Int32) (S2 : σ), r = res.1 → S2 = res.2 → ∀ (H1 : Heap) (locs1 : List Loc), va_P D cl (wl_W n ad (cf S2)) H1 → va_S A H0 H1 locs1 → W p l e R s m args below meth c H1 locs1 cells slots Q (F0 m (pc + 3) ls (.int r :: rest))) : W p l e R s m args below meth c H locs cells slots Q (F0 m pc ls st0) :=
  wl_goi hS hA hAd hr (fun H1 locs1 h1 h2 _ _ => kk _ _ rfl rfl H1 locs1 h1 h2)
theorem wl_goi1 {σ : Type} {cf : σ → Nat → va_E} {S1 : σ} {r : Int32} {a : Array Value} (hS : va_S A H0 H locs) (hA : ∀ q, H0.size ≤ q → A q) (hAd : ∀ i, i < n → A (ad i)) (hr : va_Run p l e R s m args below meth c H locs cells slots 0 0 (F0 m pc ls st0) rest (wl_Qi D cl tys n ad r (cf S1) H.size a) (wl_A n ad H.size))
    (kk : ∀ (r1 : Int32), r1 = r → ∀ (H1 : Heap) (locs1 : List Loc), va_P D cl (wl_W n ad (cf S1)) H1 → va_S A H0 H1 locs1 → W p l e R s m args below meth c H1 locs1 cells slots Q (F0 m (pc + 3) ls (.int r1 :: rest))) : W p l e R s m args below meth c H locs cells slots Q (F0 m pc ls st0) :=
  wl_goi hS hA hAd hr (fun H1 locs1 h1 h2 _ _ => kk _ rfl H1 locs1 h1 h2)
theorem wl_gov2 {σ : Type} {cf : σ → Nat → va_E} {S2 : σ} {a : Array Value} (hS : va_S A H0 H locs) (hA : ∀ q, H0.size ≤ q → A q) (hAd : ∀ i, i < n → A (ad i)) (hr : va_Run p l e R s m args below meth c H locs cells slots 0 0 (F0 m pc ls st0) rest (wl_Qv D cl tys n ad (cf S2) H.size a) (wl_A n ad H.size))
    (kk : ∀ (S3 : σ), S3 = S2 → ∀ (H1 : Heap) (locs1 : List Loc), va_P D cl (wl_W n ad (cf S3)) H1 → va_S A H0 H1 locs1 → W p l e R s m args below meth c H1 locs1 cells slots Q (F0 m (pc + 3) ls rest)) : W p l e R s m args below meth c H locs cells slots Q (F0 m pc ls st0) :=
  wl_gov hS hA hAd hr (fun H1 locs1 h1 h2 _ _ => kk _ rfl H1 locs1 h1 h2)
theorem wl_gor2 {σ : Type} {cf : σ → Nat → va_E} {pl : Nat → Nat} {res : Nat × σ} {a : Array Value} (hS : va_S A H0 H locs) (hA : ∀ q, H0.size ≤ q → A q) (hAd : ∀ i, i < n → A (ad i)) (hr : va_Run p l e R s m args below meth c H locs cells slots 0 0 (F0 m pc ls st0) rest (wl_Qr D cl tys n ad (ad (pl res.1)) (cf res.2) H.size a) (wl_A n ad H.size))
    (kk : ∀ (r : Nat) (S2 : σ), r = res.1 → S2 = res.2 → ∀ (H1 : Heap) (locs1 : List Loc), va_P D cl (wl_W n ad (cf S2)) H1 → va_S A H0 H1 locs1 → W p l e R s m args below meth c H1 locs1 cells slots Q (F0 m (pc + 3) ls (.ref (ad (pl r)) :: rest))) : W p l e R s m args below meth c H locs cells slots Q (F0 m pc ls st0) :=
  wl_gor hS hA hAd hr (fun H1 locs1 h1 h2 _ _ => kk _ _ rfl rfl H1 locs1 h1 h2)
variable {nL d maxL index na : Nat} {y : MethodName} {bytes : ByteArray} {ret : Option FieldType} {Qc : Array Value → State → Outcome → State → Prop} {free : Addr → Prop} {As : List Value}
theorem wl_runV {C : String} {T : u_T} {N ci b : Nat} {fs : List Value} (X : wl_X p s m args c cc own Ts D cl tys n ad A) (hml : c.maxLocals = nL) (hsz : ls.size = nL) (hP : va_P D cl (wl_W n ad ct) H) (hG : GoodIn Ts Ts)
    (hM : Met l y (Cond.code y bytes maxL ret :: Ts) (rm_ d) (wl_Pc (.ref (ad b) :: As) D cl tys n ad ct H.size) Qc 0 0 free) (hb : b < n) (he : ct b = .inr (ci, fs)) (hc : cl[ci]? = some (C, T, N))
    (hws : ∀ w ∈ ([.methodLink own index y, .instanceMethod y, .selects C y y, .initialized C, .code y bytes maxL ret] : List Cond), w ∈ Ts)
    (hd : y.cls = C ∧ y.cls ≠ "java/lang/invoke/MethodHandle" ∧ y.cls ≠ "java/lang/invoke/VarHandle" ∧ (parseMethodDescriptor y.desc).map (fun d => d.parameters.length) = some na) (hna : As.length = na) (hR : (rm_ d).frames + 1 ≤ R.frames ∧ 8 + (maxL + 11) + (rm_ d).locals ≤ R.locals)
    (hst : st0 = As.reverse ++ .ref (ad b) :: rest) (hro : (rest.map fun v => v.category).sum ≤ 8) (hdg : decode cc pc = .ok (.invokevirtual index, 3)) (hcs : cells ≤ R.cells ∧ slots ≤ R.slots) :
    va_Run p l e R s m args below meth c H locs cells slots 0 0 (F0 m pc ls st0) rest (Qc (Value.ref (ad b) :: As).toArray) free := by
  have hG2 : GoodIn Ts (wsV own index C y (Cond.code y bytes maxL ret :: Ts)) := by
    refine wl_good hG (fun w hw => ?_)
    unfold wsV at hw
    rcases List.mem_append.mp hw with h | h
    · exact hws w (List.mem_append_left [Cond.code y bytes maxL ret] h)
    · rcases List.mem_cons.mp h with h | h
      · exact hws w (by rw [h]; simp)
      · exact h
  exact va_runV ⟨X.1, X.2.1, hml, X.2.2.1, X.2.2.2.1⟩ hM (cwV na X.2.2.2.1 hG2 rfl rfl rfl hd hR) ⟨wl_blind, va_recv X.2.2.2.2.1 hP hc (by rw [wl_at hb, he]), fun U hU hW => wl_pre X.2.2.2.2.1 hP U hU hW⟩ rfl hna hsz hst (lv_room hro) hdg hcs
theorem wl_runS (X : wl_X p s m args c cc own Ts D cl tys n ad A) (hml : c.maxLocals = nL) (hsz : ls.size = nL) (hP : va_P D cl (wl_W n ad ct) H) (hG : GoodIn Ts Ts)
    (hM : Met l y (Cond.code y bytes maxL ret :: Ts) (rm_ d) (wl_Pc As D cl tys n ad ct H.size) Qc 0 0 free)
    (hws : ∀ w ∈ ([.methodLink own index y, .static y, .initialized y.cls, .code y bytes maxL ret] : List Cond), w ∈ Ts)
    (hd : y.cls ≠ "java/lang/invoke/MethodHandle" ∧ y.cls ≠ "java/lang/invoke/VarHandle" ∧ (parseMethodDescriptor y.desc).map (fun d => d.parameters.length) = some na) (hna : As.length = na) (hR : (rm_ d).frames + 1 ≤ R.frames ∧ 8 + (maxL + 11) + (rm_ d).locals ≤ R.locals)
    (hst : st0 = As.reverse ++ rest) (hro : (rest.map fun v => v.category).sum ≤ 8) (hdg : decode cc pc = .ok (.invokestatic index, 3)) (hcs : cells ≤ R.cells ∧ slots ≤ R.slots) :
    va_Run p l e R s m args below meth c H locs cells slots 0 0 (F0 m pc ls st0) rest (Qc As.toArray) free := by
  have hG2 : GoodIn Ts (va_wsS own index y (Cond.code y bytes maxL ret :: Ts)) := by
    refine wl_good hG (fun w hw => ?_)
    unfold va_wsS at hw
    rcases List.mem_append.mp hw with h | h
    · exact hws w (List.mem_append_left [Cond.code y bytes maxL ret] h)
    · rcases List.mem_cons.mp h with h | h
      · exact hws w (by rw [h]; simp)
      · exact h
  exact va_runS ⟨X.1, X.2.1, hml, X.2.2.1, X.2.2.2.1⟩ hM (va_cwS na X.2.2.2.1 hG2 rfl rfl rfl hd hR) ⟨wl_blind, fun U hU hW => wl_pre X.2.2.2.2.1 hP U hU hW⟩ rfl hna hsz hst (lv_room hro) hdg hcs
end WLC
/-! ints as indexes -/
theorem sk_in {x : Int32} {n : Nat} (h : vp_in x n) (hn : n < 2 ^ 31) : x = nI x.toNatClampNeg ∧ x.toNatClampNeg < n := by
  obtain ⟨j, hj, rfl⟩ := vp_in_of h hn
  rw [nI_clamp (by omega)]
  exact ⟨rfl, hj⟩
theorem sk_and3 (x : Int32) : x &&& 3 = nI (x &&& 3).toNatClampNeg ∧ (x &&& 3).toNatClampNeg < 4 := sk_in (n := 4) (pk_andIn x 2 (by decide) (by decide)) (by decide)
theorem sk_rng {x : Int32} (N : Nat) (h0 : ¬ x < 0) (h1 : ¬ nI N ≤ x) (hN : N < 2 ^ 31) : x = nI x.toNatClampNeg ∧ x.toNatClampNeg < N := by
  rcases pk_ix x hN with h | h | ⟨j, hj, rfl⟩
  · exact absurd h h0
  · exact absurd h h1
  · rw [nI_clamp (by omega)]
    exact ⟨rfl, hj⟩
theorem wl_push {n : Nat} {ad : Nat → Nat} {ct : Nat → va_E} {q : Nat} {e : va_E} : wl_W n ad ct ++ [(q, e)] = wl_W (n + 1) (va_up ad n q) (va_up ct n e) := by
  simp only [wl_W, List.range_succ, List.map_append, List.map_cons, List.map_nil, va_up_self]
  congr 1
  apply List.map_congr_left
  intro i hi
  have hne : i ≠ n := by
    have := List.mem_range.mp hi
    omega
  rw [va_up_ne _ _ hne, va_up_ne _ _ hne]
theorem wl_ofD {n : Nat} {ad : Nat → Nat} {ct : Nat → va_E} {A : Nat → Prop} (h : va_D A (wl_W n ad ct)) : wl_inj n ad ∧ ∀ i, i < n → A (ad i) :=
  ⟨fun i j hi hj e => h.1 i j _ _ (wl_at hi) (wl_at hj) e, fun i hi => h.2 i _ (wl_at hi)⟩
end
section
def R_K : String := "SheetKernel"
def F_K : u_T := fun k => match k with
  | 0 => ("SheetKernel", "tasks", "[LSheetKernel$Task;", true)
  | 1 => ("SheetKernel", "memory", "LSheetKernel$Memory;", true)
  | 2 => ("SheetKernel", "kept", "[I", true)
  | 3 => ("SheetKernel", "values", "I", false)
  | 4 => ("SheetKernel", "time", "I", false)
  | 5 => ("SheetKernel", "idleTicks", "I", false)
  | 6 => ("SheetKernel", "wildInstructions", "I", false)
  | 7 => ("SheetKernel", "turn", "I", false)
  | 8 => ("SheetKernel", "doneInTurn", "I", false)
  | _ => ("SheetKernel", "yielded", "Z", false)
def ft_K : Nat → FieldType := fun k => match k with
  | 0 => .array (.object "SheetKernel$Task")
  | 1 => .object "SheetKernel$Memory"
  | 2 => .array .int
  | 3 => .int
  | 4 => .int
  | 5 => .int
  | 6 => .int
  | 7 => .int
  | 8 => .int
  | _ => .boolean
theorem fn_K : ∀ a, a < 10 → ∀ b, b < 10 → a ≠ b → (F_K a).2.1 ≠ (F_K b).2.1 := by decide +kernel
theorem ft_K_ok : ∀ k, k < 10 → parseFieldDescriptor (F_K k).2.2.1 = some (ft_K k) := by decide +kernel
def R_M : String := "SheetKernel$Memory"
def F_M : u_T := fun k => match k with
  | 0 => ("SheetKernel$Memory", "sheets", "[LSheetKernel$Sheet;", true)
  | 1 => ("SheetKernel$Memory", "frames", "[LSheetKernel$Sheet;", true)
  | 2 => ("SheetKernel$Memory", "slots", "[LSheetKernel$Sheet;", true)
  | 3 => ("SheetKernel$Memory", "hand", "I", false)
  | 4 => ("SheetKernel$Memory", "faults", "I", false)
  | 5 => ("SheetKernel$Memory", "written", "I", false)
  | 6 => ("SheetKernel$Memory", "read", "I", false)
  | _ => ("SheetKernel$Memory", "copies", "I", false)
def ft_M : Nat → FieldType := fun k => match k with
  | 0 => .array (.object "SheetKernel$Sheet")
  | 1 => .array (.object "SheetKernel$Sheet")
  | 2 => .array (.object "SheetKernel$Sheet")
  | 3 => .int
  | 4 => .int
  | 5 => .int
  | 6 => .int
  | _ => .int
theorem fn_M : ∀ a, a < 8 → ∀ b, b < 8 → a ≠ b → (F_M a).2.1 ≠ (F_M b).2.1 := by decide +kernel
theorem ft_M_ok : ∀ k, k < 8 → parseFieldDescriptor (F_M k).2.2.1 = some (ft_M k) := by decide +kernel
def R_T : String := "SheetKernel$Task"
def F_T : u_T := fun k => match k with
  | 0 => ("SheetKernel$Task", "registers", "[I", true)
  | 1 => ("SheetKernel$Task", "pages", "[LSheetKernel$Sheet;", true)
  | 2 => ("SheetKernel$Task", "state", "I", false)
  | 3 => ("SheetKernel$Task", "place", "I", false)
  | 4 => ("SheetKernel$Task", "parent", "I", false)
  | 5 => ("SheetKernel$Task", "code", "I", false)
  | 6 => ("SheetKernel$Task", "sleepLeft", "I", false)
  | 7 => ("SheetKernel$Task", "faults", "I", false)
  | _ => ("SheetKernel$Task", "begun", "I", false)
def ft_T : Nat → FieldType := fun k => match k with
  | 0 => .array .int
  | 1 => .array (.object "SheetKernel$Sheet")
  | 2 => .int
  | 3 => .int
  | 4 => .int
  | 5 => .int
  | 6 => .int
  | 7 => .int
  | _ => .int
theorem fn_T : ∀ a, a < 9 → ∀ b, b < 9 → a ≠ b → (F_T a).2.1 ≠ (F_T b).2.1 := by decide +kernel
theorem ft_T_ok : ∀ k, k < 9 → parseFieldDescriptor (F_T k).2.2.1 = some (ft_T k) := by decide +kernel
def R_E : String := "SheetKernel$Sheet"
def F_E : u_T := fun k => match k with
  | 0 => ("SheetKernel$Sheet", "words", "[I", true)
  | 1 => ("SheetKernel$Sheet", "owners", "I", false)
  | 2 => ("SheetKernel$Sheet", "frame", "I", false)
  | 3 => ("SheetKernel$Sheet", "slot", "I", false)
  | 4 => ("SheetKernel$Sheet", "used", "Z", false)
  | _ => ("SheetKernel$Sheet", "changed", "Z", false)
def ft_E : Nat → FieldType := fun k => match k with
  | 0 => .array .int
  | 1 => .int
  | 2 => .int
  | 3 => .int
  | 4 => .boolean
  | _ => .boolean
theorem fn_E : ∀ a, a < 6 → ∀ b, b < 6 → a ≠ b → (F_E a).2.1 ≠ (F_E b).2.1 := by decide +kernel
theorem ft_E_ok : ∀ k, k < 6 → parseFieldDescriptor (F_E k).2.2.1 = some (ft_E k) := by decide +kernel
def R_Q : String := "SheetKernelModel"
def F_Q : u_T := fun k => match k with
  | 0 => ("SheetKernelModel", "state", "[I", true)
  | 1 => ("SheetKernelModel", "place", "[I", true)
  | 2 => ("SheetKernelModel", "parent", "[I", true)
  | 3 => ("SheetKernelModel", "code", "[I", true)
  | 4 => ("SheetKernelModel", "wake", "[I", true)
  | 5 => ("SheetKernelModel", "faults", "[I", true)
  | 6 => ("SheetKernelModel", "begun", "[I", true)
  | 7 => ("SheetKernelModel", "register", "[I", true)
  | 8 => ("SheetKernelModel", "page", "[I", true)
  | 9 => ("SheetKernelModel", "is", "[Z", true)
  | 10 => ("SheetKernelModel", "used", "[Z", true)
  | 11 => ("SheetKernelModel", "changed", "[Z", true)
  | 12 => ("SheetKernelModel", "frame", "[I", true)
  | 13 => ("SheetKernelModel", "slot", "[I", true)
  | 14 => ("SheetKernelModel", "word", "[I", true)
  | 15 => ("SheetKernelModel", "output", "[I", true)
  | 16 => ("SheetKernelModel", "counts", "[I", true)
  | 17 => ("SheetKernelModel", "time", "I", false)
  | 18 => ("SheetKernelModel", "turn", "I", false)
  | 19 => ("SheetKernelModel", "inTurn", "I", false)
  | 20 => ("SheetKernelModel", "hand", "I", false)
  | 21 => ("SheetKernelModel", "print", "I", false)
  | _ => ("SheetKernelModel", "over", "Z", false)
def ft_Q : Nat → FieldType := fun k => match k with
  | 0 => .array .int
  | 1 => .array .int
  | 2 => .array .int
  | 3 => .array .int
  | 4 => .array .int
  | 5 => .array .int
  | 6 => .array .int
  | 7 => .array .int
  | 8 => .array .int
  | 9 => .array .boolean
  | 10 => .array .boolean
  | 11 => .array .boolean
  | 12 => .array .int
  | 13 => .array .int
  | 14 => .array .int
  | 15 => .array .int
  | 16 => .array .int
  | 17 => .int
  | 18 => .int
  | 19 => .int
  | 20 => .int
  | 21 => .int
  | _ => .boolean
theorem fn_Q : ∀ a, a < 23 → ∀ b, b < 23 → a ≠ b → (F_Q a).2.1 ≠ (F_Q b).2.1 := by decide +kernel
theorem ft_Q_ok : ∀ k, k < 23 → parseFieldDescriptor (F_Q k).2.2.1 = some (ft_Q k) := by decide +kernel
def R_J : String := "java/util/Arrays"
abbrev b_K_init : ByteArray := prog_1_method_1_code
abbrev y_K_init : MethodName := ⟨R_K, "<init>", "()V"⟩
abbrev b_M_init : ByteArray := prog_2_method_1_code
abbrev y_M_init : MethodName := ⟨R_M, "<init>", "()V"⟩
abbrev b_E_init : ByteArray := prog_3_method_1_code
abbrev y_E_init : MethodName := ⟨R_E, "<init>", "()V"⟩
abbrev b_T_init : ByteArray := prog_4_method_1_code
abbrev y_T_init : MethodName := ⟨R_T, "<init>", "()V"⟩
abbrev b_K_spawn : ByteArray := prog_1_method_2_code
abbrev y_K_spawn : MethodName := ⟨R_K, "spawn", "()I"⟩
abbrev b_K_leastAbsent : ByteArray := prog_1_method_15_code
abbrev y_K_leastAbsent : MethodName := ⟨R_K, "leastAbsent", "()I"⟩
abbrev b_T_begin : ByteArray := prog_4_method_2_code
abbrev y_T_begin : MethodName := ⟨R_T, "begin", "(I)V"⟩
abbrev b_J_fill : ByteArray := prog_8_method_103_code
abbrev y_J_fill : MethodName := ⟨R_J, "fill", "([II)V"⟩
abbrev b_K_poke : ByteArray := prog_1_method_3_code
abbrev y_K_poke : MethodName := ⟨R_K, "poke", "(III)I"⟩
abbrev b_K_lives : ByteArray := prog_1_method_14_code
abbrev y_K_lives : MethodName := ⟨R_K, "lives", "(I)Z"⟩
abbrev b_K_isThere : ByteArray := prog_1_method_13_code
abbrev y_K_isThere : MethodName := ⟨R_K, "isThere", "(I)Z"⟩
abbrev b_K_isTask : ByteArray := prog_1_method_11_code
abbrev y_K_isTask : MethodName := ⟨R_K, "isTask", "(I)Z"⟩
abbrev b_K_isAddress : ByteArray := prog_1_method_12_code
abbrev y_K_isAddress : MethodName := ⟨R_K, "isAddress", "(I)Z"⟩
abbrev b_M_write : ByteArray := prog_2_method_4_code
abbrev y_M_write : MethodName := ⟨R_M, "write", "(LSheetKernel$Task;II)V"⟩
abbrev b_M_reach : ByteArray := prog_2_method_5_code
abbrev y_M_reach : MethodName := ⟨R_M, "reach", "(LSheetKernel$Task;IZ)LSheetKernel$Sheet;"⟩
abbrev b_M_newSheet : ByteArray := prog_2_method_6_code
abbrev y_M_newSheet : MethodName := ⟨R_M, "newSheet", "()LSheetKernel$Sheet;"⟩
abbrev b_M_layInFrame : ByteArray := prog_2_method_8_code
abbrev y_M_layInFrame : MethodName := ⟨R_M, "layInFrame", "(LSheetKernel$Sheet;)V"⟩
abbrev b_M_chooseFrame : ByteArray := prog_2_method_9_code
abbrev y_M_chooseFrame : MethodName := ⟨R_M, "chooseFrame", "()I"⟩
abbrev b_M_goOut : ByteArray := prog_2_method_10_code
abbrev y_M_goOut : MethodName := ⟨R_M, "goOut", "(LSheetKernel$Sheet;)V"⟩
abbrev b_M_leastFreeSlot : ByteArray := prog_2_method_11_code
abbrev y_M_leastFreeSlot : MethodName := ⟨R_M, "leastFreeSlot", "()I"⟩
abbrev b_M_copyOf : ByteArray := prog_2_method_7_code
abbrev y_M_copyOf : MethodName := ⟨R_M, "copyOf", "(LSheetKernel$Sheet;)LSheetKernel$Sheet;"⟩
abbrev b_K_peek : ByteArray := prog_1_method_4_code
abbrev y_K_peek : MethodName := ⟨R_K, "peek", "(II)I"⟩
abbrev b_K_kill : ByteArray := prog_1_method_5_code
abbrev y_K_kill : MethodName := ⟨R_K, "kill", "(I)Z"⟩
abbrev b_K_end : ByteArray := prog_1_method_26_code
abbrev y_K_end : MethodName := ⟨R_K, "end", "(II)V"⟩
abbrev b_M_releaseAll : ByteArray := prog_2_method_12_code
abbrev y_M_releaseAll : MethodName := ⟨R_M, "releaseAll", "(LSheetKernel$Task;)V"⟩
abbrev b_M_release : ByteArray := prog_2_method_13_code
abbrev y_M_release : MethodName := ⟨R_M, "release", "(LSheetKernel$Sheet;)V"⟩
abbrev b_K_orphanChildren : ByteArray := prog_1_method_27_code
abbrev y_K_orphanChildren : MethodName := ⟨R_K, "orphanChildren", "(I)V"⟩
abbrev b_T_leave : ByteArray := prog_4_method_3_code
abbrev y_T_leave : MethodName := ⟨R_T, "leave", "()V"⟩
abbrev b_K_run : ByteArray := prog_1_method_6_code
abbrev y_K_run : MethodName := ⟨R_K, "run", "(I)I"⟩
abbrev b_K_wakeSleepers : ByteArray := prog_1_method_17_code
abbrev y_K_wakeSleepers : MethodName := ⟨R_K, "wakeSleepers", "()V"⟩
abbrev b_K_giveTurn : ByteArray := prog_1_method_18_code
abbrev y_K_giveTurn : MethodName := ⟨R_K, "giveTurn", "()Z"⟩
abbrev b_K_doInstruction : ByteArray := prog_1_method_19_code
abbrev y_K_doInstruction : MethodName := ⟨R_K, "doInstruction", "(I)V"⟩
abbrev b_M_fetch : ByteArray := prog_2_method_3_code
abbrev y_M_fetch : MethodName := ⟨R_M, "fetch", "(LSheetKernel$Task;I)I"⟩
abbrev b_K_obey : ByteArray := prog_1_method_20_code
abbrev y_K_obey : MethodName := ⟨R_K, "obey", "(II)Z"⟩
abbrev b_K_callSystem : ByteArray := prog_1_method_21_code
abbrev y_K_callSystem : MethodName := ⟨R_K, "callSystem", "(III)Z"⟩
abbrev b_K_print : ByteArray := prog_1_method_22_code
abbrev y_K_print : MethodName := ⟨R_K, "print", "(I)V"⟩
abbrev b_K_fork : ByteArray := prog_1_method_23_code
abbrev y_K_fork : MethodName := ⟨R_K, "fork", "(II)V"⟩
abbrev b_K_sleep : ByteArray := prog_1_method_24_code
abbrev y_K_sleep : MethodName := ⟨R_K, "sleep", "(LSheetKernel$Task;I)V"⟩
abbrev b_K_awaitChild : ByteArray := prog_1_method_25_code
abbrev y_K_awaitChild : MethodName := ⟨R_K, "awaitChild", "(II)V"⟩
abbrev b_K_process : ByteArray := prog_1_method_7_code
abbrev y_K_process : MethodName := ⟨R_K, "process", "(II)I"⟩
abbrev b_T_tell : ByteArray := prog_4_method_4_code
abbrev y_T_tell : MethodName := ⟨R_T, "tell", "(I)I"⟩
abbrev b_K_page : ByteArray := prog_1_method_8_code
abbrev y_K_page : MethodName := ⟨R_K, "page", "(III)I"⟩
abbrev b_E_tell : ByteArray := prog_3_method_2_code
abbrev y_E_tell : MethodName := ⟨R_E, "tell", "(I)I"⟩
abbrev b_K_printed : ByteArray := prog_1_method_9_code
abbrev y_K_printed : MethodName := ⟨R_K, "printed", "(I)I"⟩
abbrev b_K_count : ByteArray := prog_1_method_10_code
abbrev y_K_count : MethodName := ⟨R_K, "count", "(I)I"⟩
abbrev b_K_presentTasks : ByteArray := prog_1_method_16_code
abbrev y_K_presentTasks : MethodName := ⟨R_K, "presentTasks", "()I"⟩
abbrev b_M_taken : ByteArray := prog_2_method_2_code
abbrev y_M_taken : MethodName := ⟨R_M, "taken", "([LSheetKernel$Sheet;)I"⟩
abbrev b_Q_init : ByteArray := prog_6_method_1_code
abbrev y_Q_init : MethodName := ⟨R_Q, "<init>", "()V"⟩
abbrev b_Q_spawn : ByteArray := prog_6_method_15_code
abbrev y_Q_spawn : MethodName := ⟨R_Q, "spawn", "()I"⟩
abbrev b_Q_begin : ByteArray := prog_6_method_14_code
abbrev y_Q_begin : MethodName := ⟨R_Q, "begin", "(I)I"⟩
abbrev b_Q_poke : ByteArray := prog_6_method_16_code
abbrev y_Q_poke : MethodName := ⟨R_Q, "poke", "(III)I"⟩
abbrev b_Q_isAlive : ByteArray := prog_6_method_13_code
abbrev y_Q_isAlive : MethodName := ⟨R_Q, "isAlive", "(I)Z"⟩
abbrev b_Q_isThere : ByteArray := prog_6_method_12_code
abbrev y_Q_isThere : MethodName := ⟨R_Q, "isThere", "(I)Z"⟩
abbrev b_Q_in : ByteArray := prog_6_method_2_code
abbrev y_Q_in : MethodName := ⟨R_Q, "in", "(II)Z"⟩
abbrev b_Q_reach : ByteArray := prog_6_method_11_code
abbrev y_Q_reach : MethodName := ⟨R_Q, "reach", "(IIZ)I"⟩
abbrev b_Q_fresh : ByteArray := prog_6_method_4_code
abbrev y_Q_fresh : MethodName := ⟨R_Q, "fresh", "()I"⟩
abbrev b_Q_bring : ByteArray := prog_6_method_10_code
abbrev y_Q_bring : MethodName := ⟨R_Q, "bring", "(IIZ)V"⟩
abbrev b_Q_freeFrame : ByteArray := prog_6_method_9_code
abbrev y_Q_freeFrame : MethodName := ⟨R_Q, "freeFrame", "()I"⟩
abbrev b_Q_inFrame : ByteArray := prog_6_method_6_code
abbrev y_Q_inFrame : MethodName := ⟨R_Q, "inFrame", "(I)I"⟩
abbrev b_Q_goesOut : ByteArray := prog_6_method_8_code
abbrev y_Q_goesOut : MethodName := ⟨R_Q, "goesOut", "(I)V"⟩
abbrev b_Q_isSlot : ByteArray := prog_6_method_7_code
abbrev y_Q_isSlot : MethodName := ⟨R_Q, "isSlot", "(I)Z"⟩
abbrev b_Q_sharers : ByteArray := prog_6_method_3_code
abbrev y_Q_sharers : MethodName := ⟨R_Q, "sharers", "(I)I"⟩
abbrev b_Q_peek : ByteArray := prog_6_method_17_code
abbrev y_Q_peek : MethodName := ⟨R_Q, "peek", "(II)I"⟩
abbrev b_Q_kill : ByteArray := prog_6_method_19_code
abbrev y_Q_kill : MethodName := ⟨R_Q, "kill", "(I)Z"⟩
abbrev b_Q_ends : ByteArray := prog_6_method_18_code
abbrev y_Q_ends : MethodName := ⟨R_Q, "ends", "(II)V"⟩
abbrev b_Q_let : ByteArray := prog_6_method_5_code
abbrev y_Q_let : MethodName := ⟨R_Q, "let", "(I)V"⟩
abbrev b_Q_run : ByteArray := prog_6_method_20_code
abbrev y_Q_run : MethodName := ⟨R_Q, "run", "(I)I"⟩
abbrev b_Q_tick : ByteArray := prog_6_method_21_code
abbrev y_Q_tick : MethodName := ⟨R_Q, "tick", "()Z"⟩
abbrev b_Q_does : ByteArray := prog_6_method_22_code
abbrev y_Q_does : MethodName := ⟨R_Q, "does", "(I)Z"⟩
abbrev b_Q_calls : ByteArray := prog_6_method_23_code
abbrev y_Q_calls : MethodName := ⟨R_Q, "calls", "(III)Z"⟩
abbrev b_Q_waits : ByteArray := prog_6_method_24_code
abbrev y_Q_waits : MethodName := ⟨R_Q, "waits", "(II)Z"⟩
abbrev b_Q_fork : ByteArray := prog_6_method_25_code
abbrev y_Q_fork : MethodName := ⟨R_Q, "fork", "(II)I"⟩
abbrev b_Q_process : ByteArray := prog_6_method_26_code
abbrev y_Q_process : MethodName := ⟨R_Q, "process", "(II)I"⟩
abbrev b_Q_page : ByteArray := prog_6_method_27_code
abbrev y_Q_page : MethodName := ⟨R_Q, "page", "(III)I"⟩
abbrev b_Q_printed : ByteArray := prog_6_method_28_code
abbrev y_Q_printed : MethodName := ⟨R_Q, "printed", "(I)I"⟩
abbrev b_Q_count : ByteArray := prog_6_method_29_code
abbrev y_Q_count : MethodName := ⟨R_Q, "count", "(I)I"⟩
abbrev classes : List vw_C := [(R_K, F_K, 10), (R_M, F_M, 8), (R_T, F_T, 9), (R_E, F_E, 6), (R_Q, F_Q, 23)]
def TT : List Cond := lw_tbl.filter goodWord
theorem mm_ {w : Cond} (h : w ∈ lw_tbl) (g : goodWord w = true) : w ∈ TT := List.mem_filter.mpr ⟨h, g⟩
theorem g_TT : GoodIn TT TT := fun w hw => ⟨hw, good_of_word (List.mem_filter.mp hw).2⟩
theorem TT_in : ∀ w ∈ TT, w ∈ lw_tbl := fun w hw => (List.mem_filter.mp hw).1
theorem i0_K : ∀ w ∈ u_ws R_K F_K 10, w ∈ lw_tbl ∧ goodWord w = true := by decide +kernel
theorem i_K : ∀ w ∈ u_ws R_K F_K 10, w ∈ TT := fun w hw => mm_ (i0_K w hw).1 (i0_K w hw).2
theorem i0_M : ∀ w ∈ u_ws R_M F_M 8, w ∈ lw_tbl ∧ goodWord w = true := by decide +kernel
theorem i_M : ∀ w ∈ u_ws R_M F_M 8, w ∈ TT := fun w hw => mm_ (i0_M w hw).1 (i0_M w hw).2
theorem i0_T : ∀ w ∈ u_ws R_T F_T 9, w ∈ lw_tbl ∧ goodWord w = true := by decide +kernel
theorem i_T : ∀ w ∈ u_ws R_T F_T 9, w ∈ TT := fun w hw => mm_ (i0_T w hw).1 (i0_T w hw).2
theorem i0_E : ∀ w ∈ u_ws R_E F_E 6, w ∈ lw_tbl ∧ goodWord w = true := by decide +kernel
theorem i_E : ∀ w ∈ u_ws R_E F_E 6, w ∈ TT := fun w hw => mm_ (i0_E w hw).1 (i0_E w hw).2
theorem i0_Q : ∀ w ∈ u_ws R_Q F_Q 23, w ∈ lw_tbl ∧ goodWord w = true := by decide +kernel
theorem i_Q : ∀ w ∈ u_ws R_Q F_Q 23, w ∈ TT := fun w hw => mm_ (i0_Q w hw).1 (i0_Q w hw).2
end
section
theorem lf_K_11 : Cond.fieldLink R_K 11 "SheetKernel" "tasks" "[LSheetKernel$Task;" ∈ TT := mm_ (List.mem_append_right _ (List.mem_of_getElem? (l := tables_1) (i := 135) (by decide +kernel))) rfl
theorem lf_K_18 : Cond.fieldLink R_K 18 "SheetKernel" "memory" "LSheetKernel$Memory;" ∈ TT := mm_ (List.mem_append_right _ (List.mem_of_getElem? (l := tables_1) (i := 136) (by decide +kernel))) rfl
theorem lf_K_22 : Cond.fieldLink R_K 22 "SheetKernel" "kept" "[I" ∈ TT := mm_ (List.mem_append_right _ (List.mem_of_getElem? (l := tables_1) (i := 137) (by decide +kernel))) rfl
theorem lf_K_26 : Cond.fieldLink R_K 26 "SheetKernel" "turn" "I" ∈ TT := mm_ (List.mem_append_right _ (List.mem_of_getElem? (l := tables_1) (i := 142) (by decide +kernel))) rfl
theorem lf_K_46 : Cond.fieldLink R_K 46 "SheetKernel$Memory" "faults" "I" ∈ TT := mm_ (List.mem_append_right _ (List.mem_of_getElem? (l := tables_1) (i := 66) (by decide +kernel))) rfl
theorem lf_K_53 : Cond.fieldLink R_K 53 "SheetKernel$Task" "pages" "[LSheetKernel$Sheet;" ∈ TT := mm_ (List.mem_append_right _ (List.mem_of_getElem? (l := tables_1) (i := 100) (by decide +kernel))) rfl
theorem lf_K_57 : Cond.fieldLink R_K 57 "SheetKernel$Sheet" "words" "[I" ∈ TT := mm_ (List.mem_append_right _ (List.mem_of_getElem? (l := tables_1) (i := 33) (by decide +kernel))) rfl
theorem lf_K_66 : Cond.fieldLink R_K 66 "SheetKernel" "time" "I" ∈ TT := mm_ (List.mem_append_right _ (List.mem_of_getElem? (l := tables_1) (i := 139) (by decide +kernel))) rfl
theorem lf_K_79 : Cond.fieldLink R_K 79 "SheetKernel" "idleTicks" "I" ∈ TT := mm_ (List.mem_append_right _ (List.mem_of_getElem? (l := tables_1) (i := 140) (by decide +kernel))) rfl
theorem lf_K_85 : Cond.fieldLink R_K 85 "SheetKernel$Task" "state" "I" ∈ TT := mm_ (List.mem_append_right _ (List.mem_of_getElem? (l := tables_1) (i := 103) (by decide +kernel))) rfl
theorem lf_K_88 : Cond.fieldLink R_K 88 "SheetKernel$Task" "registers" "[I" ∈ TT := mm_ (List.mem_append_right _ (List.mem_of_getElem? (l := tables_1) (i := 98) (by decide +kernel))) rfl
theorem lf_K_99 : Cond.fieldLink R_K 99 "SheetKernel" "values" "I" ∈ TT := mm_ (List.mem_append_right _ (List.mem_of_getElem? (l := tables_1) (i := 138) (by decide +kernel))) rfl
theorem lf_K_105 : Cond.fieldLink R_K 105 "SheetKernel" "doneInTurn" "I" ∈ TT := mm_ (List.mem_append_right _ (List.mem_of_getElem? (l := tables_1) (i := 143) (by decide +kernel))) rfl
theorem lf_K_108 : Cond.fieldLink R_K 108 "SheetKernel$Memory" "frames" "[LSheetKernel$Sheet;" ∈ TT := mm_ (List.mem_append_right _ (List.mem_of_getElem? (l := tables_1) (i := 61) (by decide +kernel))) rfl
theorem lf_K_115 : Cond.fieldLink R_K 115 "SheetKernel$Memory" "slots" "[LSheetKernel$Sheet;" ∈ TT := mm_ (List.mem_append_right _ (List.mem_of_getElem? (l := tables_1) (i := 63) (by decide +kernel))) rfl
theorem lf_K_118 : Cond.fieldLink R_K 118 "SheetKernel$Memory" "hand" "I" ∈ TT := mm_ (List.mem_append_right _ (List.mem_of_getElem? (l := tables_1) (i := 65) (by decide +kernel))) rfl
theorem lf_K_121 : Cond.fieldLink R_K 121 "SheetKernel$Memory" "written" "I" ∈ TT := mm_ (List.mem_append_right _ (List.mem_of_getElem? (l := tables_1) (i := 69) (by decide +kernel))) rfl
theorem lf_K_124 : Cond.fieldLink R_K 124 "SheetKernel$Memory" "read" "I" ∈ TT := mm_ (List.mem_append_right _ (List.mem_of_getElem? (l := tables_1) (i := 71) (by decide +kernel))) rfl
theorem lf_K_127 : Cond.fieldLink R_K 127 "SheetKernel$Memory" "copies" "I" ∈ TT := mm_ (List.mem_append_right _ (List.mem_of_getElem? (l := tables_1) (i := 73) (by decide +kernel))) rfl
theorem lf_K_130 : Cond.fieldLink R_K 130 "SheetKernel" "wildInstructions" "I" ∈ TT := mm_ (List.mem_append_right _ (List.mem_of_getElem? (l := tables_1) (i := 141) (by decide +kernel))) rfl
theorem lf_K_133 : Cond.fieldLink R_K 133 "SheetKernel$Task" "sleepLeft" "I" ∈ TT := mm_ (List.mem_append_right _ (List.mem_of_getElem? (l := tables_1) (i := 111) (by decide +kernel))) rfl
theorem lf_K_136 : Cond.fieldLink R_K 136 "SheetKernel" "yielded" "Z" ∈ TT := mm_ (List.mem_append_right _ (List.mem_of_getElem? (l := tables_1) (i := 144) (by decide +kernel))) rfl
theorem lf_K_140 : Cond.fieldLink R_K 140 "SheetKernel$Task" "begun" "I" ∈ TT := mm_ (List.mem_append_right _ (List.mem_of_getElem? (l := tables_1) (i := 115) (by decide +kernel))) rfl
theorem lf_K_143 : Cond.fieldLink R_K 143 "SheetKernel$Task" "place" "I" ∈ TT := mm_ (List.mem_append_right _ (List.mem_of_getElem? (l := tables_1) (i := 105) (by decide +kernel))) rfl
theorem lf_K_171 : Cond.fieldLink R_K 171 "SheetKernel$Sheet" "owners" "I" ∈ TT := mm_ (List.mem_append_right _ (List.mem_of_getElem? (l := tables_1) (i := 36) (by decide +kernel))) rfl
theorem lf_K_174 : Cond.fieldLink R_K 174 "SheetKernel$Task" "parent" "I" ∈ TT := mm_ (List.mem_append_right _ (List.mem_of_getElem? (l := tables_1) (i := 107) (by decide +kernel))) rfl
theorem lf_K_177 : Cond.fieldLink R_K 177 "SheetKernel$Task" "code" "I" ∈ TT := mm_ (List.mem_append_right _ (List.mem_of_getElem? (l := tables_1) (i := 109) (by decide +kernel))) rfl
theorem lf_M_11 : Cond.fieldLink R_M 11 "SheetKernel$Memory" "sheets" "[LSheetKernel$Sheet;" ∈ TT := mm_ (List.mem_append_right _ (List.mem_of_getElem? (l := tables_1) (i := 59) (by decide +kernel))) rfl
theorem lf_M_17 : Cond.fieldLink R_M 17 "SheetKernel$Memory" "frames" "[LSheetKernel$Sheet;" ∈ TT := mm_ (List.mem_append_right _ (List.mem_of_getElem? (l := tables_1) (i := 60) (by decide +kernel))) rfl
theorem lf_M_20 : Cond.fieldLink R_M 20 "SheetKernel$Memory" "slots" "[LSheetKernel$Sheet;" ∈ TT := mm_ (List.mem_append_right _ (List.mem_of_getElem? (l := tables_1) (i := 62) (by decide +kernel))) rfl
theorem lf_M_28 : Cond.fieldLink R_M 28 "SheetKernel$Sheet" "words" "[I" ∈ TT := mm_ (List.mem_append_right _ (List.mem_of_getElem? (l := tables_1) (i := 32) (by decide +kernel))) rfl
theorem lf_M_32 : Cond.fieldLink R_M 32 "SheetKernel$Task" "pages" "[LSheetKernel$Sheet;" ∈ TT := mm_ (List.mem_append_right _ (List.mem_of_getElem? (l := tables_1) (i := 101) (by decide +kernel))) rfl
theorem lf_M_41 : Cond.fieldLink R_M 41 "SheetKernel$Sheet" "frame" "I" ∈ TT := mm_ (List.mem_append_right _ (List.mem_of_getElem? (l := tables_1) (i := 38) (by decide +kernel))) rfl
theorem lf_M_45 : Cond.fieldLink R_M 45 "SheetKernel$Task" "faults" "I" ∈ TT := mm_ (List.mem_append_right _ (List.mem_of_getElem? (l := tables_1) (i := 113) (by decide +kernel))) rfl
theorem lf_M_48 : Cond.fieldLink R_M 48 "SheetKernel$Memory" "faults" "I" ∈ TT := mm_ (List.mem_append_right _ (List.mem_of_getElem? (l := tables_1) (i := 67) (by decide +kernel))) rfl
theorem lf_M_49 : Cond.fieldLink R_M 49 "SheetKernel$Sheet" "slot" "I" ∈ TT := mm_ (List.mem_append_right _ (List.mem_of_getElem? (l := tables_1) (i := 40) (by decide +kernel))) rfl
theorem lf_M_52 : Cond.fieldLink R_M 52 "SheetKernel$Memory" "read" "I" ∈ TT := mm_ (List.mem_append_right _ (List.mem_of_getElem? (l := tables_1) (i := 70) (by decide +kernel))) rfl
theorem lf_M_59 : Cond.fieldLink R_M 59 "SheetKernel$Sheet" "owners" "I" ∈ TT := mm_ (List.mem_append_right _ (List.mem_of_getElem? (l := tables_1) (i := 35) (by decide +kernel))) rfl
theorem lf_M_66 : Cond.fieldLink R_M 66 "SheetKernel$Sheet" "used" "Z" ∈ TT := mm_ (List.mem_append_right _ (List.mem_of_getElem? (l := tables_1) (i := 42) (by decide +kernel))) rfl
theorem lf_M_70 : Cond.fieldLink R_M 70 "SheetKernel$Sheet" "changed" "Z" ∈ TT := mm_ (List.mem_append_right _ (List.mem_of_getElem? (l := tables_1) (i := 44) (by decide +kernel))) rfl
theorem lf_M_85 : Cond.fieldLink R_M 85 "SheetKernel$Memory" "copies" "I" ∈ TT := mm_ (List.mem_append_right _ (List.mem_of_getElem? (l := tables_1) (i := 72) (by decide +kernel))) rfl
theorem lf_M_95 : Cond.fieldLink R_M 95 "SheetKernel$Memory" "hand" "I" ∈ TT := mm_ (List.mem_append_right _ (List.mem_of_getElem? (l := tables_1) (i := 64) (by decide +kernel))) rfl
theorem lf_M_101 : Cond.fieldLink R_M 101 "SheetKernel$Memory" "written" "I" ∈ TT := mm_ (List.mem_append_right _ (List.mem_of_getElem? (l := tables_1) (i := 68) (by decide +kernel))) rfl
theorem lf_E_9 : Cond.fieldLink R_E 9 "SheetKernel$Sheet" "words" "[I" ∈ TT := mm_ (List.mem_append_right _ (List.mem_of_getElem? (l := tables_1) (i := 31) (by decide +kernel))) rfl
theorem lf_E_15 : Cond.fieldLink R_E 15 "SheetKernel$Sheet" "frame" "I" ∈ TT := mm_ (List.mem_append_right _ (List.mem_of_getElem? (l := tables_1) (i := 37) (by decide +kernel))) rfl
theorem lf_E_19 : Cond.fieldLink R_E 19 "SheetKernel$Sheet" "slot" "I" ∈ TT := mm_ (List.mem_append_right _ (List.mem_of_getElem? (l := tables_1) (i := 39) (by decide +kernel))) rfl
theorem lf_E_22 : Cond.fieldLink R_E 22 "SheetKernel$Sheet" "used" "Z" ∈ TT := mm_ (List.mem_append_right _ (List.mem_of_getElem? (l := tables_1) (i := 41) (by decide +kernel))) rfl
theorem lf_E_26 : Cond.fieldLink R_E 26 "SheetKernel$Sheet" "changed" "Z" ∈ TT := mm_ (List.mem_append_right _ (List.mem_of_getElem? (l := tables_1) (i := 43) (by decide +kernel))) rfl
theorem lf_E_29 : Cond.fieldLink R_E 29 "SheetKernel$Sheet" "owners" "I" ∈ TT := mm_ (List.mem_append_right _ (List.mem_of_getElem? (l := tables_1) (i := 34) (by decide +kernel))) rfl
theorem lf_T_9 : Cond.fieldLink R_T 9 "SheetKernel$Task" "registers" "[I" ∈ TT := mm_ (List.mem_append_right _ (List.mem_of_getElem? (l := tables_1) (i := 97) (by decide +kernel))) rfl
theorem lf_T_17 : Cond.fieldLink R_T 17 "SheetKernel$Task" "pages" "[LSheetKernel$Sheet;" ∈ TT := mm_ (List.mem_append_right _ (List.mem_of_getElem? (l := tables_1) (i := 99) (by decide +kernel))) rfl
theorem lf_T_21 : Cond.fieldLink R_T 21 "SheetKernel$Task" "state" "I" ∈ TT := mm_ (List.mem_append_right _ (List.mem_of_getElem? (l := tables_1) (i := 102) (by decide +kernel))) rfl
theorem lf_T_25 : Cond.fieldLink R_T 25 "SheetKernel$Task" "parent" "I" ∈ TT := mm_ (List.mem_append_right _ (List.mem_of_getElem? (l := tables_1) (i := 106) (by decide +kernel))) rfl
theorem lf_T_34 : Cond.fieldLink R_T 34 "SheetKernel$Task" "place" "I" ∈ TT := mm_ (List.mem_append_right _ (List.mem_of_getElem? (l := tables_1) (i := 104) (by decide +kernel))) rfl
theorem lf_T_37 : Cond.fieldLink R_T 37 "SheetKernel$Task" "code" "I" ∈ TT := mm_ (List.mem_append_right _ (List.mem_of_getElem? (l := tables_1) (i := 108) (by decide +kernel))) rfl
theorem lf_T_40 : Cond.fieldLink R_T 40 "SheetKernel$Task" "sleepLeft" "I" ∈ TT := mm_ (List.mem_append_right _ (List.mem_of_getElem? (l := tables_1) (i := 110) (by decide +kernel))) rfl
theorem lf_T_43 : Cond.fieldLink R_T 43 "SheetKernel$Task" "faults" "I" ∈ TT := mm_ (List.mem_append_right _ (List.mem_of_getElem? (l := tables_1) (i := 112) (by decide +kernel))) rfl
theorem lf_T_46 : Cond.fieldLink R_T 46 "SheetKernel$Task" "begun" "I" ∈ TT := mm_ (List.mem_append_right _ (List.mem_of_getElem? (l := tables_1) (i := 114) (by decide +kernel))) rfl
theorem lf_Q_7 : Cond.fieldLink R_Q 7 "SheetKernelModel" "state" "[I" ∈ TT := mm_ (List.mem_append_right _ (List.mem_of_getElem? (l := tables_1) (i := 344) (by decide +kernel))) rfl
theorem lf_Q_13 : Cond.fieldLink R_Q 13 "SheetKernelModel" "place" "[I" ∈ TT := mm_ (List.mem_append_right _ (List.mem_of_getElem? (l := tables_1) (i := 345) (by decide +kernel))) rfl
theorem lf_Q_16 : Cond.fieldLink R_Q 16 "SheetKernelModel" "parent" "[I" ∈ TT := mm_ (List.mem_append_right _ (List.mem_of_getElem? (l := tables_1) (i := 346) (by decide +kernel))) rfl
theorem lf_Q_19 : Cond.fieldLink R_Q 19 "SheetKernelModel" "code" "[I" ∈ TT := mm_ (List.mem_append_right _ (List.mem_of_getElem? (l := tables_1) (i := 347) (by decide +kernel))) rfl
theorem lf_Q_22 : Cond.fieldLink R_Q 22 "SheetKernelModel" "wake" "[I" ∈ TT := mm_ (List.mem_append_right _ (List.mem_of_getElem? (l := tables_1) (i := 348) (by decide +kernel))) rfl
theorem lf_Q_25 : Cond.fieldLink R_Q 25 "SheetKernelModel" "faults" "[I" ∈ TT := mm_ (List.mem_append_right _ (List.mem_of_getElem? (l := tables_1) (i := 349) (by decide +kernel))) rfl
theorem lf_Q_28 : Cond.fieldLink R_Q 28 "SheetKernelModel" "begun" "[I" ∈ TT := mm_ (List.mem_append_right _ (List.mem_of_getElem? (l := tables_1) (i := 350) (by decide +kernel))) rfl
theorem lf_Q_31 : Cond.fieldLink R_Q 31 "SheetKernelModel" "register" "[I" ∈ TT := mm_ (List.mem_append_right _ (List.mem_of_getElem? (l := tables_1) (i := 351) (by decide +kernel))) rfl
theorem lf_Q_34 : Cond.fieldLink R_Q 34 "SheetKernelModel" "page" "[I" ∈ TT := mm_ (List.mem_append_right _ (List.mem_of_getElem? (l := tables_1) (i := 352) (by decide +kernel))) rfl
theorem lf_Q_37 : Cond.fieldLink R_Q 37 "SheetKernelModel" "is" "[Z" ∈ TT := mm_ (List.mem_append_right _ (List.mem_of_getElem? (l := tables_1) (i := 353) (by decide +kernel))) rfl
theorem lf_Q_41 : Cond.fieldLink R_Q 41 "SheetKernelModel" "used" "[Z" ∈ TT := mm_ (List.mem_append_right _ (List.mem_of_getElem? (l := tables_1) (i := 354) (by decide +kernel))) rfl
theorem lf_Q_44 : Cond.fieldLink R_Q 44 "SheetKernelModel" "changed" "[Z" ∈ TT := mm_ (List.mem_append_right _ (List.mem_of_getElem? (l := tables_1) (i := 355) (by decide +kernel))) rfl
theorem lf_Q_47 : Cond.fieldLink R_Q 47 "SheetKernelModel" "frame" "[I" ∈ TT := mm_ (List.mem_append_right _ (List.mem_of_getElem? (l := tables_1) (i := 356) (by decide +kernel))) rfl
theorem lf_Q_50 : Cond.fieldLink R_Q 50 "SheetKernelModel" "slot" "[I" ∈ TT := mm_ (List.mem_append_right _ (List.mem_of_getElem? (l := tables_1) (i := 357) (by decide +kernel))) rfl
theorem lf_Q_53 : Cond.fieldLink R_Q 53 "SheetKernelModel" "word" "[I" ∈ TT := mm_ (List.mem_append_right _ (List.mem_of_getElem? (l := tables_1) (i := 358) (by decide +kernel))) rfl
theorem lf_Q_56 : Cond.fieldLink R_Q 56 "SheetKernelModel" "output" "[I" ∈ TT := mm_ (List.mem_append_right _ (List.mem_of_getElem? (l := tables_1) (i := 359) (by decide +kernel))) rfl
theorem lf_Q_59 : Cond.fieldLink R_Q 59 "SheetKernelModel" "counts" "[I" ∈ TT := mm_ (List.mem_append_right _ (List.mem_of_getElem? (l := tables_1) (i := 360) (by decide +kernel))) rfl
theorem lf_Q_62 : Cond.fieldLink R_Q 62 "SheetKernelModel" "turn" "I" ∈ TT := mm_ (List.mem_append_right _ (List.mem_of_getElem? (l := tables_1) (i := 362) (by decide +kernel))) rfl
theorem lf_Q_77 : Cond.fieldLink R_Q 77 "SheetKernelModel" "hand" "I" ∈ TT := mm_ (List.mem_append_right _ (List.mem_of_getElem? (l := tables_1) (i := 364) (by decide +kernel))) rfl
theorem lf_Q_123 : Cond.fieldLink R_Q 123 "SheetKernelModel" "time" "I" ∈ TT := mm_ (List.mem_append_right _ (List.mem_of_getElem? (l := tables_1) (i := 361) (by decide +kernel))) rfl
theorem lf_Q_126 : Cond.fieldLink R_Q 126 "SheetKernelModel" "over" "Z" ∈ TT := mm_ (List.mem_append_right _ (List.mem_of_getElem? (l := tables_1) (i := 366) (by decide +kernel))) rfl
theorem lf_Q_130 : Cond.fieldLink R_Q 130 "SheetKernelModel" "inTurn" "I" ∈ TT := mm_ (List.mem_append_right _ (List.mem_of_getElem? (l := tables_1) (i := 363) (by decide +kernel))) rfl
theorem lf_Q_143 : Cond.fieldLink R_Q 143 "SheetKernelModel" "print" "I" ∈ TT := mm_ (List.mem_append_right _ (List.mem_of_getElem? (l := tables_1) (i := 365) (by decide +kernel))) rfl
set_option maxRecDepth 20000 in
theorem wc_K_init : Cond.code y_K_init b_K_init 2 (none) ∈ TT := mm_ (List.mem_append_right _ (List.mem_of_getElem? (l := tables_1) (i := 12) rfl)) rfl
theorem wi_K_init : Cond.instanceMethod y_K_init ∈ TT := mm_ (List.mem_append_right _ (List.mem_of_getElem? (l := tables_1) (i := 11) (by decide +kernel))) rfl
set_option maxRecDepth 20000 in
theorem wc_M_init : Cond.code y_M_init b_M_init 2 (none) ∈ TT := mm_ (List.mem_append_right _ (List.mem_of_getElem? (l := tables_1) (i := 22) rfl)) rfl
theorem wi_M_init : Cond.instanceMethod y_M_init ∈ TT := mm_ (List.mem_append_right _ (List.mem_of_getElem? (l := tables_1) (i := 21) (by decide +kernel))) rfl
set_option maxRecDepth 20000 in
theorem wc_E_init : Cond.code y_E_init b_E_init 1 (none) ∈ TT := mm_ (List.mem_append_right _ (List.mem_of_getElem? (l := tables_1) (i := 29) rfl)) rfl
theorem wi_E_init : Cond.instanceMethod y_E_init ∈ TT := mm_ (List.mem_append_right _ (List.mem_of_getElem? (l := tables_1) (i := 28) (by decide +kernel))) rfl
set_option maxRecDepth 20000 in
theorem wc_T_init : Cond.code y_T_init b_T_init 1 (none) ∈ TT := mm_ (List.mem_append_right _ (List.mem_of_getElem? (l := tables_1) (i := 94) rfl)) rfl
theorem wi_T_init : Cond.instanceMethod y_T_init ∈ TT := mm_ (List.mem_append_right _ (List.mem_of_getElem? (l := tables_1) (i := 93) (by decide +kernel))) rfl
set_option maxRecDepth 20000 in
theorem wc_K_spawn : Cond.code y_K_spawn b_K_spawn 2 (some .int) ∈ TT := mm_ (List.mem_append_right _ (List.mem_of_getElem? (l := tables_1) (i := 169) rfl)) rfl
theorem wi_K_spawn : Cond.instanceMethod y_K_spawn ∈ TT := mm_ (List.mem_append_right _ (List.mem_of_getElem? (l := tables_1) (i := 167) (by decide +kernel))) rfl
theorem ws_K_spawn : Cond.selects R_K y_K_spawn y_K_spawn ∈ TT := mm_ (List.mem_append_right _ (List.mem_of_getElem? (l := tables_1) (i := 168) (by decide +kernel))) rfl
set_option maxRecDepth 20000 in
theorem wc_K_leastAbsent : Cond.code y_K_leastAbsent b_K_leastAbsent 2 (some .int) ∈ TT := mm_ (List.mem_append_right _ (List.mem_of_getElem? (l := tables_1) (i := 173) rfl)) rfl
theorem wi_K_leastAbsent : Cond.instanceMethod y_K_leastAbsent ∈ TT := mm_ (List.mem_append_right _ (List.mem_of_getElem? (l := tables_1) (i := 172) (by decide +kernel))) rfl
theorem ws_K_leastAbsent : Cond.selects R_K y_K_leastAbsent y_K_leastAbsent ∈ TT := mm_ (List.mem_append_left _ (List.mem_of_getElem? (l := k2_sels lw_privs) (i := 0) (by decide +kernel))) rfl
set_option maxRecDepth 20000 in
theorem wc_T_begin : Cond.code y_T_begin b_T_begin 2 (none) ∈ TT := mm_ (List.mem_append_right _ (List.mem_of_getElem? (l := tables_1) (i := 177) rfl)) rfl
theorem wi_T_begin : Cond.instanceMethod y_T_begin ∈ TT := mm_ (List.mem_append_right _ (List.mem_of_getElem? (l := tables_1) (i := 175) (by decide +kernel))) rfl
theorem ws_T_begin : Cond.selects R_T y_T_begin y_T_begin ∈ TT := mm_ (List.mem_append_right _ (List.mem_of_getElem? (l := tables_1) (i := 176) (by decide +kernel))) rfl
set_option maxRecDepth 20000 in
theorem wc_J_fill : Cond.code y_J_fill b_J_fill 4 (none) ∈ TT := mm_ (List.mem_append_right _ (List.mem_of_getElem? (l := tables_1) (i := 180) rfl)) rfl
theorem wt_J_fill : Cond.static y_J_fill ∈ TT := mm_ (List.mem_append_right _ (List.mem_of_getElem? (l := tables_1) (i := 179) (by decide +kernel))) rfl
set_option maxRecDepth 20000 in
theorem wc_K_poke : Cond.code y_K_poke b_K_poke 5 (some .int) ∈ TT := mm_ (List.mem_append_right _ (List.mem_of_getElem? (l := tables_1) (i := 184) rfl)) rfl
theorem wi_K_poke : Cond.instanceMethod y_K_poke ∈ TT := mm_ (List.mem_append_right _ (List.mem_of_getElem? (l := tables_1) (i := 182) (by decide +kernel))) rfl
theorem ws_K_poke : Cond.selects R_K y_K_poke y_K_poke ∈ TT := mm_ (List.mem_append_right _ (List.mem_of_getElem? (l := tables_1) (i := 183) (by decide +kernel))) rfl
set_option maxRecDepth 20000 in
theorem wc_K_lives : Cond.code y_K_lives b_K_lives 2 (some .boolean) ∈ TT := mm_ (List.mem_append_right _ (List.mem_of_getElem? (l := tables_1) (i := 188) rfl)) rfl
theorem wi_K_lives : Cond.instanceMethod y_K_lives ∈ TT := mm_ (List.mem_append_right _ (List.mem_of_getElem? (l := tables_1) (i := 187) (by decide +kernel))) rfl
theorem ws_K_lives : Cond.selects R_K y_K_lives y_K_lives ∈ TT := mm_ (List.mem_append_left _ (List.mem_of_getElem? (l := k2_sels lw_privs) (i := 1) (by decide +kernel))) rfl
set_option maxRecDepth 20000 in
theorem wc_K_isThere : Cond.code y_K_isThere b_K_isThere 2 (some .boolean) ∈ TT := mm_ (List.mem_append_right _ (List.mem_of_getElem? (l := tables_1) (i := 192) rfl)) rfl
theorem wi_K_isThere : Cond.instanceMethod y_K_isThere ∈ TT := mm_ (List.mem_append_right _ (List.mem_of_getElem? (l := tables_1) (i := 191) (by decide +kernel))) rfl
theorem ws_K_isThere : Cond.selects R_K y_K_isThere y_K_isThere ∈ TT := mm_ (List.mem_append_left _ (List.mem_of_getElem? (l := k2_sels lw_privs) (i := 2) (by decide +kernel))) rfl
set_option maxRecDepth 20000 in
theorem wc_K_isTask : Cond.code y_K_isTask b_K_isTask 1 (some .boolean) ∈ TT := mm_ (List.mem_append_right _ (List.mem_of_getElem? (l := tables_1) (i := 195) rfl)) rfl
theorem wt_K_isTask : Cond.static y_K_isTask ∈ TT := mm_ (List.mem_append_right _ (List.mem_of_getElem? (l := tables_1) (i := 194) (by decide +kernel))) rfl
set_option maxRecDepth 20000 in
theorem wc_K_isAddress : Cond.code y_K_isAddress b_K_isAddress 1 (some .boolean) ∈ TT := mm_ (List.mem_append_right _ (List.mem_of_getElem? (l := tables_1) (i := 198) rfl)) rfl
theorem wt_K_isAddress : Cond.static y_K_isAddress ∈ TT := mm_ (List.mem_append_right _ (List.mem_of_getElem? (l := tables_1) (i := 197) (by decide +kernel))) rfl
set_option maxRecDepth 20000 in
theorem wc_M_write : Cond.code y_M_write b_M_write 4 (none) ∈ TT := mm_ (List.mem_append_right _ (List.mem_of_getElem? (l := tables_1) (i := 202) rfl)) rfl
theorem wi_M_write : Cond.instanceMethod y_M_write ∈ TT := mm_ (List.mem_append_right _ (List.mem_of_getElem? (l := tables_1) (i := 200) (by decide +kernel))) rfl
theorem ws_M_write : Cond.selects R_M y_M_write y_M_write ∈ TT := mm_ (List.mem_append_right _ (List.mem_of_getElem? (l := tables_1) (i := 201) (by decide +kernel))) rfl
set_option maxRecDepth 20000 in
theorem wc_M_reach : Cond.code y_M_reach b_M_reach 5 (some (.object "SheetKernel$Sheet")) ∈ TT := mm_ (List.mem_append_right _ (List.mem_of_getElem? (l := tables_1) (i := 206) rfl)) rfl
theorem wi_M_reach : Cond.instanceMethod y_M_reach ∈ TT := mm_ (List.mem_append_right _ (List.mem_of_getElem? (l := tables_1) (i := 204) (by decide +kernel))) rfl
theorem ws_M_reach : Cond.selects R_M y_M_reach y_M_reach ∈ TT := mm_ (List.mem_append_right _ (List.mem_of_getElem? (l := tables_1) (i := 205) (by decide +kernel))) rfl
set_option maxRecDepth 20000 in
theorem wc_M_newSheet : Cond.code y_M_newSheet b_M_newSheet 3 (some (.object "SheetKernel$Sheet")) ∈ TT := mm_ (List.mem_append_right _ (List.mem_of_getElem? (l := tables_1) (i := 210) rfl)) rfl
theorem wi_M_newSheet : Cond.instanceMethod y_M_newSheet ∈ TT := mm_ (List.mem_append_right _ (List.mem_of_getElem? (l := tables_1) (i := 208) (by decide +kernel))) rfl
theorem ws_M_newSheet : Cond.selects R_M y_M_newSheet y_M_newSheet ∈ TT := mm_ (List.mem_append_right _ (List.mem_of_getElem? (l := tables_1) (i := 209) (by decide +kernel))) rfl
set_option maxRecDepth 20000 in
theorem wc_M_layInFrame : Cond.code y_M_layInFrame b_M_layInFrame 3 (none) ∈ TT := mm_ (List.mem_append_right _ (List.mem_of_getElem? (l := tables_1) (i := 215) rfl)) rfl
theorem wi_M_layInFrame : Cond.instanceMethod y_M_layInFrame ∈ TT := mm_ (List.mem_append_right _ (List.mem_of_getElem? (l := tables_1) (i := 213) (by decide +kernel))) rfl
theorem ws_M_layInFrame : Cond.selects R_M y_M_layInFrame y_M_layInFrame ∈ TT := mm_ (List.mem_append_right _ (List.mem_of_getElem? (l := tables_1) (i := 214) (by decide +kernel))) rfl
set_option maxRecDepth 20000 in
theorem wc_M_chooseFrame : Cond.code y_M_chooseFrame b_M_chooseFrame 2 (some .int) ∈ TT := mm_ (List.mem_append_right _ (List.mem_of_getElem? (l := tables_1) (i := 219) rfl)) rfl
theorem wi_M_chooseFrame : Cond.instanceMethod y_M_chooseFrame ∈ TT := mm_ (List.mem_append_right _ (List.mem_of_getElem? (l := tables_1) (i := 217) (by decide +kernel))) rfl
theorem ws_M_chooseFrame : Cond.selects R_M y_M_chooseFrame y_M_chooseFrame ∈ TT := mm_ (List.mem_append_right _ (List.mem_of_getElem? (l := tables_1) (i := 218) (by decide +kernel))) rfl
set_option maxRecDepth 20000 in
theorem wc_M_goOut : Cond.code y_M_goOut b_M_goOut 2 (none) ∈ TT := mm_ (List.mem_append_right _ (List.mem_of_getElem? (l := tables_1) (i := 223) rfl)) rfl
theorem wi_M_goOut : Cond.instanceMethod y_M_goOut ∈ TT := mm_ (List.mem_append_right _ (List.mem_of_getElem? (l := tables_1) (i := 221) (by decide +kernel))) rfl
theorem ws_M_goOut : Cond.selects R_M y_M_goOut y_M_goOut ∈ TT := mm_ (List.mem_append_right _ (List.mem_of_getElem? (l := tables_1) (i := 222) (by decide +kernel))) rfl
set_option maxRecDepth 20000 in
theorem wc_M_leastFreeSlot : Cond.code y_M_leastFreeSlot b_M_leastFreeSlot 2 (some .int) ∈ TT := mm_ (List.mem_append_right _ (List.mem_of_getElem? (l := tables_1) (i := 227) rfl)) rfl
theorem wi_M_leastFreeSlot : Cond.instanceMethod y_M_leastFreeSlot ∈ TT := mm_ (List.mem_append_right _ (List.mem_of_getElem? (l := tables_1) (i := 225) (by decide +kernel))) rfl
theorem ws_M_leastFreeSlot : Cond.selects R_M y_M_leastFreeSlot y_M_leastFreeSlot ∈ TT := mm_ (List.mem_append_right _ (List.mem_of_getElem? (l := tables_1) (i := 226) (by decide +kernel))) rfl
set_option maxRecDepth 20000 in
theorem wc_M_copyOf : Cond.code y_M_copyOf b_M_copyOf 3 (some (.object "SheetKernel$Sheet")) ∈ TT := mm_ (List.mem_append_right _ (List.mem_of_getElem? (l := tables_1) (i := 231) rfl)) rfl
theorem wi_M_copyOf : Cond.instanceMethod y_M_copyOf ∈ TT := mm_ (List.mem_append_right _ (List.mem_of_getElem? (l := tables_1) (i := 229) (by decide +kernel))) rfl
theorem ws_M_copyOf : Cond.selects R_M y_M_copyOf y_M_copyOf ∈ TT := mm_ (List.mem_append_right _ (List.mem_of_getElem? (l := tables_1) (i := 230) (by decide +kernel))) rfl
set_option maxRecDepth 20000 in
theorem wc_K_peek : Cond.code y_K_peek b_K_peek 4 (some .int) ∈ TT := mm_ (List.mem_append_right _ (List.mem_of_getElem? (l := tables_1) (i := 238) rfl)) rfl
theorem wi_K_peek : Cond.instanceMethod y_K_peek ∈ TT := mm_ (List.mem_append_right _ (List.mem_of_getElem? (l := tables_1) (i := 236) (by decide +kernel))) rfl
theorem ws_K_peek : Cond.selects R_K y_K_peek y_K_peek ∈ TT := mm_ (List.mem_append_right _ (List.mem_of_getElem? (l := tables_1) (i := 237) (by decide +kernel))) rfl
set_option maxRecDepth 20000 in
theorem wc_K_kill : Cond.code y_K_kill b_K_kill 2 (some .boolean) ∈ TT := mm_ (List.mem_append_right _ (List.mem_of_getElem? (l := tables_1) (i := 242) rfl)) rfl
theorem wi_K_kill : Cond.instanceMethod y_K_kill ∈ TT := mm_ (List.mem_append_right _ (List.mem_of_getElem? (l := tables_1) (i := 240) (by decide +kernel))) rfl
theorem ws_K_kill : Cond.selects R_K y_K_kill y_K_kill ∈ TT := mm_ (List.mem_append_right _ (List.mem_of_getElem? (l := tables_1) (i := 241) (by decide +kernel))) rfl
set_option maxRecDepth 20000 in
theorem wc_K_end : Cond.code y_K_end b_K_end 5 (none) ∈ TT := mm_ (List.mem_append_right _ (List.mem_of_getElem? (l := tables_1) (i := 246) rfl)) rfl
theorem wi_K_end : Cond.instanceMethod y_K_end ∈ TT := mm_ (List.mem_append_right _ (List.mem_of_getElem? (l := tables_1) (i := 245) (by decide +kernel))) rfl
theorem ws_K_end : Cond.selects R_K y_K_end y_K_end ∈ TT := mm_ (List.mem_append_left _ (List.mem_of_getElem? (l := k2_sels lw_privs) (i := 3) (by decide +kernel))) rfl
set_option maxRecDepth 20000 in
theorem wc_M_releaseAll : Cond.code y_M_releaseAll b_M_releaseAll 4 (none) ∈ TT := mm_ (List.mem_append_right _ (List.mem_of_getElem? (l := tables_1) (i := 250) rfl)) rfl
theorem wi_M_releaseAll : Cond.instanceMethod y_M_releaseAll ∈ TT := mm_ (List.mem_append_right _ (List.mem_of_getElem? (l := tables_1) (i := 248) (by decide +kernel))) rfl
theorem ws_M_releaseAll : Cond.selects R_M y_M_releaseAll y_M_releaseAll ∈ TT := mm_ (List.mem_append_right _ (List.mem_of_getElem? (l := tables_1) (i := 249) (by decide +kernel))) rfl
set_option maxRecDepth 20000 in
theorem wc_M_release : Cond.code y_M_release b_M_release 2 (none) ∈ TT := mm_ (List.mem_append_right _ (List.mem_of_getElem? (l := tables_1) (i := 254) rfl)) rfl
theorem wi_M_release : Cond.instanceMethod y_M_release ∈ TT := mm_ (List.mem_append_right _ (List.mem_of_getElem? (l := tables_1) (i := 252) (by decide +kernel))) rfl
theorem ws_M_release : Cond.selects R_M y_M_release y_M_release ∈ TT := mm_ (List.mem_append_right _ (List.mem_of_getElem? (l := tables_1) (i := 253) (by decide +kernel))) rfl
set_option maxRecDepth 20000 in
theorem wc_K_orphanChildren : Cond.code y_K_orphanChildren b_K_orphanChildren 4 (none) ∈ TT := mm_ (List.mem_append_right _ (List.mem_of_getElem? (l := tables_1) (i := 258) rfl)) rfl
theorem wi_K_orphanChildren : Cond.instanceMethod y_K_orphanChildren ∈ TT := mm_ (List.mem_append_right _ (List.mem_of_getElem? (l := tables_1) (i := 257) (by decide +kernel))) rfl
theorem ws_K_orphanChildren : Cond.selects R_K y_K_orphanChildren y_K_orphanChildren ∈ TT := mm_ (List.mem_append_left _ (List.mem_of_getElem? (l := k2_sels lw_privs) (i := 4) (by decide +kernel))) rfl
set_option maxRecDepth 20000 in
theorem wc_T_leave : Cond.code y_T_leave b_T_leave 1 (none) ∈ TT := mm_ (List.mem_append_right _ (List.mem_of_getElem? (l := tables_1) (i := 262) rfl)) rfl
theorem wi_T_leave : Cond.instanceMethod y_T_leave ∈ TT := mm_ (List.mem_append_right _ (List.mem_of_getElem? (l := tables_1) (i := 260) (by decide +kernel))) rfl
theorem ws_T_leave : Cond.selects R_T y_T_leave y_T_leave ∈ TT := mm_ (List.mem_append_right _ (List.mem_of_getElem? (l := tables_1) (i := 261) (by decide +kernel))) rfl
set_option maxRecDepth 20000 in
theorem wc_K_run : Cond.code y_K_run b_K_run 4 (some .int) ∈ TT := mm_ (List.mem_append_right _ (List.mem_of_getElem? (l := tables_1) (i := 266) rfl)) rfl
theorem wi_K_run : Cond.instanceMethod y_K_run ∈ TT := mm_ (List.mem_append_right _ (List.mem_of_getElem? (l := tables_1) (i := 264) (by decide +kernel))) rfl
theorem ws_K_run : Cond.selects R_K y_K_run y_K_run ∈ TT := mm_ (List.mem_append_right _ (List.mem_of_getElem? (l := tables_1) (i := 265) (by decide +kernel))) rfl
set_option maxRecDepth 20000 in
theorem wc_K_wakeSleepers : Cond.code y_K_wakeSleepers b_K_wakeSleepers 3 (none) ∈ TT := mm_ (List.mem_append_right _ (List.mem_of_getElem? (l := tables_1) (i := 270) rfl)) rfl
theorem wi_K_wakeSleepers : Cond.instanceMethod y_K_wakeSleepers ∈ TT := mm_ (List.mem_append_right _ (List.mem_of_getElem? (l := tables_1) (i := 269) (by decide +kernel))) rfl
theorem ws_K_wakeSleepers : Cond.selects R_K y_K_wakeSleepers y_K_wakeSleepers ∈ TT := mm_ (List.mem_append_left _ (List.mem_of_getElem? (l := k2_sels lw_privs) (i := 5) (by decide +kernel))) rfl
set_option maxRecDepth 20000 in
theorem wc_K_giveTurn : Cond.code y_K_giveTurn b_K_giveTurn 4 (some .boolean) ∈ TT := mm_ (List.mem_append_right _ (List.mem_of_getElem? (l := tables_1) (i := 274) rfl)) rfl
theorem wi_K_giveTurn : Cond.instanceMethod y_K_giveTurn ∈ TT := mm_ (List.mem_append_right _ (List.mem_of_getElem? (l := tables_1) (i := 273) (by decide +kernel))) rfl
theorem ws_K_giveTurn : Cond.selects R_K y_K_giveTurn y_K_giveTurn ∈ TT := mm_ (List.mem_append_left _ (List.mem_of_getElem? (l := k2_sels lw_privs) (i := 6) (by decide +kernel))) rfl
set_option maxRecDepth 20000 in
theorem wc_K_doInstruction : Cond.code y_K_doInstruction b_K_doInstruction 6 (none) ∈ TT := mm_ (List.mem_append_right _ (List.mem_of_getElem? (l := tables_1) (i := 278) rfl)) rfl
theorem wi_K_doInstruction : Cond.instanceMethod y_K_doInstruction ∈ TT := mm_ (List.mem_append_right _ (List.mem_of_getElem? (l := tables_1) (i := 277) (by decide +kernel))) rfl
theorem ws_K_doInstruction : Cond.selects R_K y_K_doInstruction y_K_doInstruction ∈ TT := mm_ (List.mem_append_left _ (List.mem_of_getElem? (l := k2_sels lw_privs) (i := 7) (by decide +kernel))) rfl
set_option maxRecDepth 20000 in
theorem wc_M_fetch : Cond.code y_M_fetch b_M_fetch 3 (some .int) ∈ TT := mm_ (List.mem_append_right _ (List.mem_of_getElem? (l := tables_1) (i := 282) rfl)) rfl
theorem wi_M_fetch : Cond.instanceMethod y_M_fetch ∈ TT := mm_ (List.mem_append_right _ (List.mem_of_getElem? (l := tables_1) (i := 280) (by decide +kernel))) rfl
theorem ws_M_fetch : Cond.selects R_M y_M_fetch y_M_fetch ∈ TT := mm_ (List.mem_append_right _ (List.mem_of_getElem? (l := tables_1) (i := 281) (by decide +kernel))) rfl
set_option maxRecDepth 20000 in
theorem wc_K_obey : Cond.code y_K_obey b_K_obey 8 (some .boolean) ∈ TT := mm_ (List.mem_append_right _ (List.mem_of_getElem? (l := tables_1) (i := 286) rfl)) rfl
theorem wi_K_obey : Cond.instanceMethod y_K_obey ∈ TT := mm_ (List.mem_append_right _ (List.mem_of_getElem? (l := tables_1) (i := 285) (by decide +kernel))) rfl
theorem ws_K_obey : Cond.selects R_K y_K_obey y_K_obey ∈ TT := mm_ (List.mem_append_left _ (List.mem_of_getElem? (l := k2_sels lw_privs) (i := 8) (by decide +kernel))) rfl
set_option maxRecDepth 20000 in
theorem wc_K_callSystem : Cond.code y_K_callSystem b_K_callSystem 5 (some .boolean) ∈ TT := mm_ (List.mem_append_right _ (List.mem_of_getElem? (l := tables_1) (i := 290) rfl)) rfl
theorem wi_K_callSystem : Cond.instanceMethod y_K_callSystem ∈ TT := mm_ (List.mem_append_right _ (List.mem_of_getElem? (l := tables_1) (i := 289) (by decide +kernel))) rfl
theorem ws_K_callSystem : Cond.selects R_K y_K_callSystem y_K_callSystem ∈ TT := mm_ (List.mem_append_left _ (List.mem_of_getElem? (l := k2_sels lw_privs) (i := 9) (by decide +kernel))) rfl
set_option maxRecDepth 20000 in
theorem wc_K_print : Cond.code y_K_print b_K_print 2 (none) ∈ TT := mm_ (List.mem_append_right _ (List.mem_of_getElem? (l := tables_1) (i := 294) rfl)) rfl
theorem wi_K_print : Cond.instanceMethod y_K_print ∈ TT := mm_ (List.mem_append_right _ (List.mem_of_getElem? (l := tables_1) (i := 293) (by decide +kernel))) rfl
theorem ws_K_print : Cond.selects R_K y_K_print y_K_print ∈ TT := mm_ (List.mem_append_left _ (List.mem_of_getElem? (l := k2_sels lw_privs) (i := 10) (by decide +kernel))) rfl
set_option maxRecDepth 20000 in
theorem wc_K_fork : Cond.code y_K_fork b_K_fork 8 (none) ∈ TT := mm_ (List.mem_append_right _ (List.mem_of_getElem? (l := tables_1) (i := 298) rfl)) rfl
theorem wi_K_fork : Cond.instanceMethod y_K_fork ∈ TT := mm_ (List.mem_append_right _ (List.mem_of_getElem? (l := tables_1) (i := 297) (by decide +kernel))) rfl
theorem ws_K_fork : Cond.selects R_K y_K_fork y_K_fork ∈ TT := mm_ (List.mem_append_left _ (List.mem_of_getElem? (l := k2_sels lw_privs) (i := 11) (by decide +kernel))) rfl
set_option maxRecDepth 20000 in
theorem wc_K_sleep : Cond.code y_K_sleep b_K_sleep 3 (none) ∈ TT := mm_ (List.mem_append_right _ (List.mem_of_getElem? (l := tables_1) (i := 302) rfl)) rfl
theorem wi_K_sleep : Cond.instanceMethod y_K_sleep ∈ TT := mm_ (List.mem_append_right _ (List.mem_of_getElem? (l := tables_1) (i := 301) (by decide +kernel))) rfl
theorem ws_K_sleep : Cond.selects R_K y_K_sleep y_K_sleep ∈ TT := mm_ (List.mem_append_left _ (List.mem_of_getElem? (l := k2_sels lw_privs) (i := 12) (by decide +kernel))) rfl
set_option maxRecDepth 20000 in
theorem wc_K_awaitChild : Cond.code y_K_awaitChild b_K_awaitChild 7 (none) ∈ TT := mm_ (List.mem_append_right _ (List.mem_of_getElem? (l := tables_1) (i := 306) rfl)) rfl
theorem wi_K_awaitChild : Cond.instanceMethod y_K_awaitChild ∈ TT := mm_ (List.mem_append_right _ (List.mem_of_getElem? (l := tables_1) (i := 305) (by decide +kernel))) rfl
theorem ws_K_awaitChild : Cond.selects R_K y_K_awaitChild y_K_awaitChild ∈ TT := mm_ (List.mem_append_left _ (List.mem_of_getElem? (l := k2_sels lw_privs) (i := 13) (by decide +kernel))) rfl
set_option maxRecDepth 20000 in
theorem wc_K_process : Cond.code y_K_process b_K_process 5 (some .int) ∈ TT := mm_ (List.mem_append_right _ (List.mem_of_getElem? (l := tables_1) (i := 310) rfl)) rfl
theorem wi_K_process : Cond.instanceMethod y_K_process ∈ TT := mm_ (List.mem_append_right _ (List.mem_of_getElem? (l := tables_1) (i := 308) (by decide +kernel))) rfl
theorem ws_K_process : Cond.selects R_K y_K_process y_K_process ∈ TT := mm_ (List.mem_append_right _ (List.mem_of_getElem? (l := tables_1) (i := 309) (by decide +kernel))) rfl
set_option maxRecDepth 20000 in
theorem wc_T_tell : Cond.code y_T_tell b_T_tell 2 (some .int) ∈ TT := mm_ (List.mem_append_right _ (List.mem_of_getElem? (l := tables_1) (i := 314) rfl)) rfl
theorem wi_T_tell : Cond.instanceMethod y_T_tell ∈ TT := mm_ (List.mem_append_right _ (List.mem_of_getElem? (l := tables_1) (i := 312) (by decide +kernel))) rfl
theorem ws_T_tell : Cond.selects R_T y_T_tell y_T_tell ∈ TT := mm_ (List.mem_append_right _ (List.mem_of_getElem? (l := tables_1) (i := 313) (by decide +kernel))) rfl
set_option maxRecDepth 20000 in
theorem wc_K_page : Cond.code y_K_page b_K_page 5 (some .int) ∈ TT := mm_ (List.mem_append_right _ (List.mem_of_getElem? (l := tables_1) (i := 318) rfl)) rfl
theorem wi_K_page : Cond.instanceMethod y_K_page ∈ TT := mm_ (List.mem_append_right _ (List.mem_of_getElem? (l := tables_1) (i := 316) (by decide +kernel))) rfl
theorem ws_K_page : Cond.selects R_K y_K_page y_K_page ∈ TT := mm_ (List.mem_append_right _ (List.mem_of_getElem? (l := tables_1) (i := 317) (by decide +kernel))) rfl
set_option maxRecDepth 20000 in
theorem wc_E_tell : Cond.code y_E_tell b_E_tell 2 (some .int) ∈ TT := mm_ (List.mem_append_right _ (List.mem_of_getElem? (l := tables_1) (i := 322) rfl)) rfl
theorem wi_E_tell : Cond.instanceMethod y_E_tell ∈ TT := mm_ (List.mem_append_right _ (List.mem_of_getElem? (l := tables_1) (i := 320) (by decide +kernel))) rfl
theorem ws_E_tell : Cond.selects R_E y_E_tell y_E_tell ∈ TT := mm_ (List.mem_append_right _ (List.mem_of_getElem? (l := tables_1) (i := 321) (by decide +kernel))) rfl
set_option maxRecDepth 20000 in
theorem wc_K_printed : Cond.code y_K_printed b_K_printed 2 (some .int) ∈ TT := mm_ (List.mem_append_right _ (List.mem_of_getElem? (l := tables_1) (i := 326) rfl)) rfl
theorem wi_K_printed : Cond.instanceMethod y_K_printed ∈ TT := mm_ (List.mem_append_right _ (List.mem_of_getElem? (l := tables_1) (i := 324) (by decide +kernel))) rfl
theorem ws_K_printed : Cond.selects R_K y_K_printed y_K_printed ∈ TT := mm_ (List.mem_append_right _ (List.mem_of_getElem? (l := tables_1) (i := 325) (by decide +kernel))) rfl
set_option maxRecDepth 20000 in
theorem wc_K_count : Cond.code y_K_count b_K_count 2 (some .int) ∈ TT := mm_ (List.mem_append_right _ (List.mem_of_getElem? (l := tables_1) (i := 330) rfl)) rfl
theorem wi_K_count : Cond.instanceMethod y_K_count ∈ TT := mm_ (List.mem_append_right _ (List.mem_of_getElem? (l := tables_1) (i := 328) (by decide +kernel))) rfl
theorem ws_K_count : Cond.selects R_K y_K_count y_K_count ∈ TT := mm_ (List.mem_append_right _ (List.mem_of_getElem? (l := tables_1) (i := 329) (by decide +kernel))) rfl
set_option maxRecDepth 20000 in
theorem wc_K_presentTasks : Cond.code y_K_presentTasks b_K_presentTasks 3 (some .int) ∈ TT := mm_ (List.mem_append_right _ (List.mem_of_getElem? (l := tables_1) (i := 334) rfl)) rfl
theorem wi_K_presentTasks : Cond.instanceMethod y_K_presentTasks ∈ TT := mm_ (List.mem_append_right _ (List.mem_of_getElem? (l := tables_1) (i := 333) (by decide +kernel))) rfl
theorem ws_K_presentTasks : Cond.selects R_K y_K_presentTasks y_K_presentTasks ∈ TT := mm_ (List.mem_append_left _ (List.mem_of_getElem? (l := k2_sels lw_privs) (i := 14) (by decide +kernel))) rfl
set_option maxRecDepth 20000 in
theorem wc_M_taken : Cond.code y_M_taken b_M_taken 3 (some .int) ∈ TT := mm_ (List.mem_append_right _ (List.mem_of_getElem? (l := tables_1) (i := 337) rfl)) rfl
theorem wt_M_taken : Cond.static y_M_taken ∈ TT := mm_ (List.mem_append_right _ (List.mem_of_getElem? (l := tables_1) (i := 336) (by decide +kernel))) rfl
set_option maxRecDepth 20000 in
theorem wc_Q_init : Cond.code y_Q_init b_Q_init 2 (none) ∈ TT := mm_ (List.mem_append_right _ (List.mem_of_getElem? (l := tables_1) (i := 342) rfl)) rfl
theorem wi_Q_init : Cond.instanceMethod y_Q_init ∈ TT := mm_ (List.mem_append_right _ (List.mem_of_getElem? (l := tables_1) (i := 341) (by decide +kernel))) rfl
set_option maxRecDepth 20000 in
theorem wc_Q_spawn : Cond.code y_Q_spawn b_Q_spawn 2 (some .int) ∈ TT := mm_ (List.mem_append_right _ (List.mem_of_getElem? (l := tables_1) (i := 418) rfl)) rfl
theorem wi_Q_spawn : Cond.instanceMethod y_Q_spawn ∈ TT := mm_ (List.mem_append_right _ (List.mem_of_getElem? (l := tables_1) (i := 416) (by decide +kernel))) rfl
theorem ws_Q_spawn : Cond.selects R_Q y_Q_spawn y_Q_spawn ∈ TT := mm_ (List.mem_append_right _ (List.mem_of_getElem? (l := tables_1) (i := 417) (by decide +kernel))) rfl
set_option maxRecDepth 20000 in
theorem wc_Q_begin : Cond.code y_Q_begin b_Q_begin 4 (some .int) ∈ TT := mm_ (List.mem_append_right _ (List.mem_of_getElem? (l := tables_1) (i := 422) rfl)) rfl
theorem wi_Q_begin : Cond.instanceMethod y_Q_begin ∈ TT := mm_ (List.mem_append_right _ (List.mem_of_getElem? (l := tables_1) (i := 421) (by decide +kernel))) rfl
theorem ws_Q_begin : Cond.selects R_Q y_Q_begin y_Q_begin ∈ TT := mm_ (List.mem_append_left _ (List.mem_of_getElem? (l := k2_sels lw_privs) (i := 15) (by decide +kernel))) rfl
set_option maxRecDepth 20000 in
theorem wc_Q_poke : Cond.code y_Q_poke b_Q_poke 5 (some .int) ∈ TT := mm_ (List.mem_append_right _ (List.mem_of_getElem? (l := tables_1) (i := 426) rfl)) rfl
theorem wi_Q_poke : Cond.instanceMethod y_Q_poke ∈ TT := mm_ (List.mem_append_right _ (List.mem_of_getElem? (l := tables_1) (i := 424) (by decide +kernel))) rfl
theorem ws_Q_poke : Cond.selects R_Q y_Q_poke y_Q_poke ∈ TT := mm_ (List.mem_append_right _ (List.mem_of_getElem? (l := tables_1) (i := 425) (by decide +kernel))) rfl
set_option maxRecDepth 20000 in
theorem wc_Q_isAlive : Cond.code y_Q_isAlive b_Q_isAlive 2 (some .boolean) ∈ TT := mm_ (List.mem_append_right _ (List.mem_of_getElem? (l := tables_1) (i := 430) rfl)) rfl
theorem wi_Q_isAlive : Cond.instanceMethod y_Q_isAlive ∈ TT := mm_ (List.mem_append_right _ (List.mem_of_getElem? (l := tables_1) (i := 429) (by decide +kernel))) rfl
theorem ws_Q_isAlive : Cond.selects R_Q y_Q_isAlive y_Q_isAlive ∈ TT := mm_ (List.mem_append_left _ (List.mem_of_getElem? (l := k2_sels lw_privs) (i := 16) (by decide +kernel))) rfl
set_option maxRecDepth 20000 in
theorem wc_Q_isThere : Cond.code y_Q_isThere b_Q_isThere 2 (some .boolean) ∈ TT := mm_ (List.mem_append_right _ (List.mem_of_getElem? (l := tables_1) (i := 434) rfl)) rfl
theorem wi_Q_isThere : Cond.instanceMethod y_Q_isThere ∈ TT := mm_ (List.mem_append_right _ (List.mem_of_getElem? (l := tables_1) (i := 433) (by decide +kernel))) rfl
theorem ws_Q_isThere : Cond.selects R_Q y_Q_isThere y_Q_isThere ∈ TT := mm_ (List.mem_append_left _ (List.mem_of_getElem? (l := k2_sels lw_privs) (i := 17) (by decide +kernel))) rfl
set_option maxRecDepth 20000 in
theorem wc_Q_in : Cond.code y_Q_in b_Q_in 2 (some .boolean) ∈ TT := mm_ (List.mem_append_right _ (List.mem_of_getElem? (l := tables_1) (i := 437) rfl)) rfl
theorem wt_Q_in : Cond.static y_Q_in ∈ TT := mm_ (List.mem_append_right _ (List.mem_of_getElem? (l := tables_1) (i := 436) (by decide +kernel))) rfl
set_option maxRecDepth 20000 in
theorem wc_Q_reach : Cond.code y_Q_reach b_Q_reach 8 (some .int) ∈ TT := mm_ (List.mem_append_right _ (List.mem_of_getElem? (l := tables_1) (i := 441) rfl)) rfl
theorem wi_Q_reach : Cond.instanceMethod y_Q_reach ∈ TT := mm_ (List.mem_append_right _ (List.mem_of_getElem? (l := tables_1) (i := 440) (by decide +kernel))) rfl
theorem ws_Q_reach : Cond.selects R_Q y_Q_reach y_Q_reach ∈ TT := mm_ (List.mem_append_left _ (List.mem_of_getElem? (l := k2_sels lw_privs) (i := 18) (by decide +kernel))) rfl
set_option maxRecDepth 20000 in
theorem wc_Q_fresh : Cond.code y_Q_fresh b_Q_fresh 3 (some .int) ∈ TT := mm_ (List.mem_append_right _ (List.mem_of_getElem? (l := tables_1) (i := 445) rfl)) rfl
theorem wi_Q_fresh : Cond.instanceMethod y_Q_fresh ∈ TT := mm_ (List.mem_append_right _ (List.mem_of_getElem? (l := tables_1) (i := 444) (by decide +kernel))) rfl
theorem ws_Q_fresh : Cond.selects R_Q y_Q_fresh y_Q_fresh ∈ TT := mm_ (List.mem_append_left _ (List.mem_of_getElem? (l := k2_sels lw_privs) (i := 19) (by decide +kernel))) rfl
set_option maxRecDepth 20000 in
theorem wc_Q_bring : Cond.code y_Q_bring b_Q_bring 4 (none) ∈ TT := mm_ (List.mem_append_right _ (List.mem_of_getElem? (l := tables_1) (i := 449) rfl)) rfl
theorem wi_Q_bring : Cond.instanceMethod y_Q_bring ∈ TT := mm_ (List.mem_append_right _ (List.mem_of_getElem? (l := tables_1) (i := 448) (by decide +kernel))) rfl
theorem ws_Q_bring : Cond.selects R_Q y_Q_bring y_Q_bring ∈ TT := mm_ (List.mem_append_left _ (List.mem_of_getElem? (l := k2_sels lw_privs) (i := 20) (by decide +kernel))) rfl
set_option maxRecDepth 20000 in
theorem wc_Q_freeFrame : Cond.code y_Q_freeFrame b_Q_freeFrame 2 (some .int) ∈ TT := mm_ (List.mem_append_right _ (List.mem_of_getElem? (l := tables_1) (i := 453) rfl)) rfl
theorem wi_Q_freeFrame : Cond.instanceMethod y_Q_freeFrame ∈ TT := mm_ (List.mem_append_right _ (List.mem_of_getElem? (l := tables_1) (i := 452) (by decide +kernel))) rfl
theorem ws_Q_freeFrame : Cond.selects R_Q y_Q_freeFrame y_Q_freeFrame ∈ TT := mm_ (List.mem_append_left _ (List.mem_of_getElem? (l := k2_sels lw_privs) (i := 21) (by decide +kernel))) rfl
set_option maxRecDepth 20000 in
theorem wc_Q_inFrame : Cond.code y_Q_inFrame b_Q_inFrame 3 (some .int) ∈ TT := mm_ (List.mem_append_right _ (List.mem_of_getElem? (l := tables_1) (i := 457) rfl)) rfl
theorem wi_Q_inFrame : Cond.instanceMethod y_Q_inFrame ∈ TT := mm_ (List.mem_append_right _ (List.mem_of_getElem? (l := tables_1) (i := 456) (by decide +kernel))) rfl
theorem ws_Q_inFrame : Cond.selects R_Q y_Q_inFrame y_Q_inFrame ∈ TT := mm_ (List.mem_append_left _ (List.mem_of_getElem? (l := k2_sels lw_privs) (i := 22) (by decide +kernel))) rfl
set_option maxRecDepth 20000 in
theorem wc_Q_goesOut : Cond.code y_Q_goesOut b_Q_goesOut 3 (none) ∈ TT := mm_ (List.mem_append_right _ (List.mem_of_getElem? (l := tables_1) (i := 461) rfl)) rfl
theorem wi_Q_goesOut : Cond.instanceMethod y_Q_goesOut ∈ TT := mm_ (List.mem_append_right _ (List.mem_of_getElem? (l := tables_1) (i := 460) (by decide +kernel))) rfl
theorem ws_Q_goesOut : Cond.selects R_Q y_Q_goesOut y_Q_goesOut ∈ TT := mm_ (List.mem_append_left _ (List.mem_of_getElem? (l := k2_sels lw_privs) (i := 23) (by decide +kernel))) rfl
set_option maxRecDepth 20000 in
theorem wc_Q_isSlot : Cond.code y_Q_isSlot b_Q_isSlot 3 (some .boolean) ∈ TT := mm_ (List.mem_append_right _ (List.mem_of_getElem? (l := tables_1) (i := 465) rfl)) rfl
theorem wi_Q_isSlot : Cond.instanceMethod y_Q_isSlot ∈ TT := mm_ (List.mem_append_right _ (List.mem_of_getElem? (l := tables_1) (i := 464) (by decide +kernel))) rfl
theorem ws_Q_isSlot : Cond.selects R_Q y_Q_isSlot y_Q_isSlot ∈ TT := mm_ (List.mem_append_left _ (List.mem_of_getElem? (l := k2_sels lw_privs) (i := 24) (by decide +kernel))) rfl
set_option maxRecDepth 20000 in
theorem wc_Q_sharers : Cond.code y_Q_sharers b_Q_sharers 4 (some .int) ∈ TT := mm_ (List.mem_append_right _ (List.mem_of_getElem? (l := tables_1) (i := 469) rfl)) rfl
theorem wi_Q_sharers : Cond.instanceMethod y_Q_sharers ∈ TT := mm_ (List.mem_append_right _ (List.mem_of_getElem? (l := tables_1) (i := 468) (by decide +kernel))) rfl
theorem ws_Q_sharers : Cond.selects R_Q y_Q_sharers y_Q_sharers ∈ TT := mm_ (List.mem_append_left _ (List.mem_of_getElem? (l := k2_sels lw_privs) (i := 25) (by decide +kernel))) rfl
set_option maxRecDepth 20000 in
theorem wc_Q_peek : Cond.code y_Q_peek b_Q_peek 4 (some .int) ∈ TT := mm_ (List.mem_append_right _ (List.mem_of_getElem? (l := tables_1) (i := 473) rfl)) rfl
theorem wi_Q_peek : Cond.instanceMethod y_Q_peek ∈ TT := mm_ (List.mem_append_right _ (List.mem_of_getElem? (l := tables_1) (i := 471) (by decide +kernel))) rfl
theorem ws_Q_peek : Cond.selects R_Q y_Q_peek y_Q_peek ∈ TT := mm_ (List.mem_append_right _ (List.mem_of_getElem? (l := tables_1) (i := 472) (by decide +kernel))) rfl
set_option maxRecDepth 20000 in
theorem wc_Q_kill : Cond.code y_Q_kill b_Q_kill 2 (some .boolean) ∈ TT := mm_ (List.mem_append_right _ (List.mem_of_getElem? (l := tables_1) (i := 477) rfl)) rfl
theorem wi_Q_kill : Cond.instanceMethod y_Q_kill ∈ TT := mm_ (List.mem_append_right _ (List.mem_of_getElem? (l := tables_1) (i := 475) (by decide +kernel))) rfl
theorem ws_Q_kill : Cond.selects R_Q y_Q_kill y_Q_kill ∈ TT := mm_ (List.mem_append_right _ (List.mem_of_getElem? (l := tables_1) (i := 476) (by decide +kernel))) rfl
set_option maxRecDepth 20000 in
theorem wc_Q_ends : Cond.code y_Q_ends b_Q_ends 4 (none) ∈ TT := mm_ (List.mem_append_right _ (List.mem_of_getElem? (l := tables_1) (i := 481) rfl)) rfl
theorem wi_Q_ends : Cond.instanceMethod y_Q_ends ∈ TT := mm_ (List.mem_append_right _ (List.mem_of_getElem? (l := tables_1) (i := 480) (by decide +kernel))) rfl
theorem ws_Q_ends : Cond.selects R_Q y_Q_ends y_Q_ends ∈ TT := mm_ (List.mem_append_left _ (List.mem_of_getElem? (l := k2_sels lw_privs) (i := 26) (by decide +kernel))) rfl
set_option maxRecDepth 20000 in
theorem wc_Q_let : Cond.code y_Q_let b_Q_let 3 (none) ∈ TT := mm_ (List.mem_append_right _ (List.mem_of_getElem? (l := tables_1) (i := 485) rfl)) rfl
theorem wi_Q_let : Cond.instanceMethod y_Q_let ∈ TT := mm_ (List.mem_append_right _ (List.mem_of_getElem? (l := tables_1) (i := 484) (by decide +kernel))) rfl
theorem ws_Q_let : Cond.selects R_Q y_Q_let y_Q_let ∈ TT := mm_ (List.mem_append_left _ (List.mem_of_getElem? (l := k2_sels lw_privs) (i := 27) (by decide +kernel))) rfl
set_option maxRecDepth 20000 in
theorem wc_Q_run : Cond.code y_Q_run b_Q_run 4 (some .int) ∈ TT := mm_ (List.mem_append_right _ (List.mem_of_getElem? (l := tables_1) (i := 489) rfl)) rfl
theorem wi_Q_run : Cond.instanceMethod y_Q_run ∈ TT := mm_ (List.mem_append_right _ (List.mem_of_getElem? (l := tables_1) (i := 487) (by decide +kernel))) rfl
theorem ws_Q_run : Cond.selects R_Q y_Q_run y_Q_run ∈ TT := mm_ (List.mem_append_right _ (List.mem_of_getElem? (l := tables_1) (i := 488) (by decide +kernel))) rfl
set_option maxRecDepth 20000 in
theorem wc_Q_tick : Cond.code y_Q_tick b_Q_tick 3 (some .boolean) ∈ TT := mm_ (List.mem_append_right _ (List.mem_of_getElem? (l := tables_1) (i := 493) rfl)) rfl
theorem wi_Q_tick : Cond.instanceMethod y_Q_tick ∈ TT := mm_ (List.mem_append_right _ (List.mem_of_getElem? (l := tables_1) (i := 492) (by decide +kernel))) rfl
theorem ws_Q_tick : Cond.selects R_Q y_Q_tick y_Q_tick ∈ TT := mm_ (List.mem_append_left _ (List.mem_of_getElem? (l := k2_sels lw_privs) (i := 28) (by decide +kernel))) rfl
set_option maxRecDepth 20000 in
theorem wc_Q_does : Cond.code y_Q_does b_Q_does 9 (some .boolean) ∈ TT := mm_ (List.mem_append_right _ (List.mem_of_getElem? (l := tables_1) (i := 497) rfl)) rfl
theorem wi_Q_does : Cond.instanceMethod y_Q_does ∈ TT := mm_ (List.mem_append_right _ (List.mem_of_getElem? (l := tables_1) (i := 496) (by decide +kernel))) rfl
theorem ws_Q_does : Cond.selects R_Q y_Q_does y_Q_does ∈ TT := mm_ (List.mem_append_left _ (List.mem_of_getElem? (l := k2_sels lw_privs) (i := 29) (by decide +kernel))) rfl
set_option maxRecDepth 20000 in
theorem wc_Q_calls : Cond.code y_Q_calls b_Q_calls 5 (some .boolean) ∈ TT := mm_ (List.mem_append_right _ (List.mem_of_getElem? (l := tables_1) (i := 501) rfl)) rfl
theorem wi_Q_calls : Cond.instanceMethod y_Q_calls ∈ TT := mm_ (List.mem_append_right _ (List.mem_of_getElem? (l := tables_1) (i := 500) (by decide +kernel))) rfl
theorem ws_Q_calls : Cond.selects R_Q y_Q_calls y_Q_calls ∈ TT := mm_ (List.mem_append_left _ (List.mem_of_getElem? (l := k2_sels lw_privs) (i := 30) (by decide +kernel))) rfl
set_option maxRecDepth 20000 in
theorem wc_Q_waits : Cond.code y_Q_waits b_Q_waits 5 (some .boolean) ∈ TT := mm_ (List.mem_append_right _ (List.mem_of_getElem? (l := tables_1) (i := 505) rfl)) rfl
theorem wi_Q_waits : Cond.instanceMethod y_Q_waits ∈ TT := mm_ (List.mem_append_right _ (List.mem_of_getElem? (l := tables_1) (i := 504) (by decide +kernel))) rfl
theorem ws_Q_waits : Cond.selects R_Q y_Q_waits y_Q_waits ∈ TT := mm_ (List.mem_append_left _ (List.mem_of_getElem? (l := k2_sels lw_privs) (i := 31) (by decide +kernel))) rfl
set_option maxRecDepth 20000 in
theorem wc_Q_fork : Cond.code y_Q_fork b_Q_fork 5 (some .int) ∈ TT := mm_ (List.mem_append_right _ (List.mem_of_getElem? (l := tables_1) (i := 509) rfl)) rfl
theorem wi_Q_fork : Cond.instanceMethod y_Q_fork ∈ TT := mm_ (List.mem_append_right _ (List.mem_of_getElem? (l := tables_1) (i := 508) (by decide +kernel))) rfl
theorem ws_Q_fork : Cond.selects R_Q y_Q_fork y_Q_fork ∈ TT := mm_ (List.mem_append_left _ (List.mem_of_getElem? (l := k2_sels lw_privs) (i := 32) (by decide +kernel))) rfl
set_option maxRecDepth 20000 in
theorem wc_Q_process : Cond.code y_Q_process b_Q_process 3 (some .int) ∈ TT := mm_ (List.mem_append_right _ (List.mem_of_getElem? (l := tables_1) (i := 513) rfl)) rfl
theorem wi_Q_process : Cond.instanceMethod y_Q_process ∈ TT := mm_ (List.mem_append_right _ (List.mem_of_getElem? (l := tables_1) (i := 511) (by decide +kernel))) rfl
theorem ws_Q_process : Cond.selects R_Q y_Q_process y_Q_process ∈ TT := mm_ (List.mem_append_right _ (List.mem_of_getElem? (l := tables_1) (i := 512) (by decide +kernel))) rfl
set_option maxRecDepth 20000 in
theorem wc_Q_page : Cond.code y_Q_page b_Q_page 5 (some .int) ∈ TT := mm_ (List.mem_append_right _ (List.mem_of_getElem? (l := tables_1) (i := 517) rfl)) rfl
theorem wi_Q_page : Cond.instanceMethod y_Q_page ∈ TT := mm_ (List.mem_append_right _ (List.mem_of_getElem? (l := tables_1) (i := 515) (by decide +kernel))) rfl
theorem ws_Q_page : Cond.selects R_Q y_Q_page y_Q_page ∈ TT := mm_ (List.mem_append_right _ (List.mem_of_getElem? (l := tables_1) (i := 516) (by decide +kernel))) rfl
set_option maxRecDepth 20000 in
theorem wc_Q_printed : Cond.code y_Q_printed b_Q_printed 2 (some .int) ∈ TT := mm_ (List.mem_append_right _ (List.mem_of_getElem? (l := tables_1) (i := 521) rfl)) rfl
theorem wi_Q_printed : Cond.instanceMethod y_Q_printed ∈ TT := mm_ (List.mem_append_right _ (List.mem_of_getElem? (l := tables_1) (i := 519) (by decide +kernel))) rfl
theorem ws_Q_printed : Cond.selects R_Q y_Q_printed y_Q_printed ∈ TT := mm_ (List.mem_append_right _ (List.mem_of_getElem? (l := tables_1) (i := 520) (by decide +kernel))) rfl
set_option maxRecDepth 20000 in
theorem wc_Q_count : Cond.code y_Q_count b_Q_count 4 (some .int) ∈ TT := mm_ (List.mem_append_right _ (List.mem_of_getElem? (l := tables_1) (i := 525) rfl)) rfl
theorem wi_Q_count : Cond.instanceMethod y_Q_count ∈ TT := mm_ (List.mem_append_right _ (List.mem_of_getElem? (l := tables_1) (i := 523) (by decide +kernel))) rfl
theorem ws_Q_count : Cond.selects R_Q y_Q_count y_Q_count ∈ TT := mm_ (List.mem_append_right _ (List.mem_of_getElem? (l := tables_1) (i := 524) (by decide +kernel))) rfl
theorem wn_K : Cond.initialized R_K ∈ TT := mm_ (List.mem_append_right _ (List.mem_of_getElem? (l := tables_1) (i := 1) (by decide +kernel))) rfl
theorem wn_M : Cond.initialized R_M ∈ TT := mm_ (List.mem_append_right _ (List.mem_of_getElem? (l := tables_1) (i := 2) (by decide +kernel))) rfl
theorem wn_T : Cond.initialized R_T ∈ TT := mm_ (List.mem_append_right _ (List.mem_of_getElem? (l := tables_1) (i := 4) (by decide +kernel))) rfl
theorem wn_E : Cond.initialized R_E ∈ TT := mm_ (List.mem_append_right _ (List.mem_of_getElem? (l := tables_1) (i := 3) (by decide +kernel))) rfl
theorem wn_Q : Cond.initialized R_Q ∈ TT := mm_ (List.mem_append_right _ (List.mem_of_getElem? (l := tables_1) (i := 5) (by decide +kernel))) rfl
theorem wn_J : Cond.initialized R_J ∈ TT := mm_ (List.mem_append_right _ (List.mem_of_getElem? (l := tables_1) (i := 6) (by decide +kernel))) rfl
theorem lm_K_17 : Cond.methodLink R_K 17 y_M_init ∈ TT := mm_ (List.mem_append_right _ (List.mem_of_getElem? (l := tables_1) (i := 20) (by decide +kernel))) rfl
theorem lm_K_31 : Cond.methodLink R_K 31 y_K_leastAbsent ∈ TT := mm_ (List.mem_append_right _ (List.mem_of_getElem? (l := tables_1) (i := 170) (by decide +kernel))) rfl
theorem wv_K_31 : ∀ w ∈ ([.methodLink R_K 31 y_K_leastAbsent, .instanceMethod y_K_leastAbsent, .selects R_K y_K_leastAbsent y_K_leastAbsent, .initialized R_K, .code y_K_leastAbsent b_K_leastAbsent 2 (some .int)] : List Cond), w ∈ TT := List.forall_mem_cons.mpr ⟨lm_K_31, List.forall_mem_cons.mpr ⟨wi_K_leastAbsent, List.forall_mem_cons.mpr ⟨ws_K_leastAbsent, List.forall_mem_cons.mpr ⟨wn_K, List.forall_mem_cons.mpr ⟨wc_K_leastAbsent, fun _ h => absurd h List.not_mem_nil⟩⟩⟩⟩⟩
theorem lm_K_35 : Cond.methodLink R_K 35 y_T_begin ∈ TT := mm_ (List.mem_append_right _ (List.mem_of_getElem? (l := tables_1) (i := 174) (by decide +kernel))) rfl
theorem wv_K_35 : ∀ w ∈ ([.methodLink R_K 35 y_T_begin, .instanceMethod y_T_begin, .selects R_T y_T_begin y_T_begin, .initialized R_T, .code y_T_begin b_T_begin 2 (none)] : List Cond), w ∈ TT := List.forall_mem_cons.mpr ⟨lm_K_35, List.forall_mem_cons.mpr ⟨wi_T_begin, List.forall_mem_cons.mpr ⟨ws_T_begin, List.forall_mem_cons.mpr ⟨wn_T, List.forall_mem_cons.mpr ⟨wc_T_begin, fun _ h => absurd h List.not_mem_nil⟩⟩⟩⟩⟩
theorem lm_K_39 : Cond.methodLink R_K 39 y_K_lives ∈ TT := mm_ (List.mem_append_right _ (List.mem_of_getElem? (l := tables_1) (i := 185) (by decide +kernel))) rfl
theorem wv_K_39 : ∀ w ∈ ([.methodLink R_K 39 y_K_lives, .instanceMethod y_K_lives, .selects R_K y_K_lives y_K_lives, .initialized R_K, .code y_K_lives b_K_lives 2 (some .boolean)] : List Cond), w ∈ TT := List.forall_mem_cons.mpr ⟨lm_K_39, List.forall_mem_cons.mpr ⟨wi_K_lives, List.forall_mem_cons.mpr ⟨ws_K_lives, List.forall_mem_cons.mpr ⟨wn_K, List.forall_mem_cons.mpr ⟨wc_K_lives, fun _ h => absurd h List.not_mem_nil⟩⟩⟩⟩⟩
theorem lm_K_43 : Cond.methodLink R_K 43 y_K_isAddress ∈ TT := mm_ (List.mem_append_right _ (List.mem_of_getElem? (l := tables_1) (i := 196) (by decide +kernel))) rfl
theorem wv_K_43 : ∀ w ∈ ([.methodLink R_K 43 y_K_isAddress, .static y_K_isAddress, .initialized (y_K_isAddress).cls, .code y_K_isAddress b_K_isAddress 1 (some .boolean)] : List Cond), w ∈ TT := List.forall_mem_cons.mpr ⟨lm_K_43, List.forall_mem_cons.mpr ⟨wt_K_isAddress, List.forall_mem_cons.mpr ⟨wn_K, List.forall_mem_cons.mpr ⟨wc_K_isAddress, fun _ h => absurd h List.not_mem_nil⟩⟩⟩⟩
theorem lm_K_49 : Cond.methodLink R_K 49 y_M_write ∈ TT := mm_ (List.mem_append_right _ (List.mem_of_getElem? (l := tables_1) (i := 199) (by decide +kernel))) rfl
theorem wv_K_49 : ∀ w ∈ ([.methodLink R_K 49 y_M_write, .instanceMethod y_M_write, .selects R_M y_M_write y_M_write, .initialized R_M, .code y_M_write b_M_write 4 (none)] : List Cond), w ∈ TT := List.forall_mem_cons.mpr ⟨lm_K_49, List.forall_mem_cons.mpr ⟨wi_M_write, List.forall_mem_cons.mpr ⟨ws_M_write, List.forall_mem_cons.mpr ⟨wn_M, List.forall_mem_cons.mpr ⟨wc_M_write, fun _ h => absurd h List.not_mem_nil⟩⟩⟩⟩⟩
theorem lm_K_62 : Cond.methodLink R_K 62 y_K_end ∈ TT := mm_ (List.mem_append_right _ (List.mem_of_getElem? (l := tables_1) (i := 243) (by decide +kernel))) rfl
theorem wv_K_62 : ∀ w ∈ ([.methodLink R_K 62 y_K_end, .instanceMethod y_K_end, .selects R_K y_K_end y_K_end, .initialized R_K, .code y_K_end b_K_end 5 (none)] : List Cond), w ∈ TT := List.forall_mem_cons.mpr ⟨lm_K_62, List.forall_mem_cons.mpr ⟨wi_K_end, List.forall_mem_cons.mpr ⟨ws_K_end, List.forall_mem_cons.mpr ⟨wn_K, List.forall_mem_cons.mpr ⟨wc_K_end, fun _ h => absurd h List.not_mem_nil⟩⟩⟩⟩⟩
theorem lm_K_69 : Cond.methodLink R_K 69 y_K_wakeSleepers ∈ TT := mm_ (List.mem_append_right _ (List.mem_of_getElem? (l := tables_1) (i := 267) (by decide +kernel))) rfl
theorem wv_K_69 : ∀ w ∈ ([.methodLink R_K 69 y_K_wakeSleepers, .instanceMethod y_K_wakeSleepers, .selects R_K y_K_wakeSleepers y_K_wakeSleepers, .initialized R_K, .code y_K_wakeSleepers b_K_wakeSleepers 3 (none)] : List Cond), w ∈ TT := List.forall_mem_cons.mpr ⟨lm_K_69, List.forall_mem_cons.mpr ⟨wi_K_wakeSleepers, List.forall_mem_cons.mpr ⟨ws_K_wakeSleepers, List.forall_mem_cons.mpr ⟨wn_K, List.forall_mem_cons.mpr ⟨wc_K_wakeSleepers, fun _ h => absurd h List.not_mem_nil⟩⟩⟩⟩⟩
theorem lm_K_72 : Cond.methodLink R_K 72 y_K_giveTurn ∈ TT := mm_ (List.mem_append_right _ (List.mem_of_getElem? (l := tables_1) (i := 271) (by decide +kernel))) rfl
theorem wv_K_72 : ∀ w ∈ ([.methodLink R_K 72 y_K_giveTurn, .instanceMethod y_K_giveTurn, .selects R_K y_K_giveTurn y_K_giveTurn, .initialized R_K, .code y_K_giveTurn b_K_giveTurn 4 (some .boolean)] : List Cond), w ∈ TT := List.forall_mem_cons.mpr ⟨lm_K_72, List.forall_mem_cons.mpr ⟨wi_K_giveTurn, List.forall_mem_cons.mpr ⟨ws_K_giveTurn, List.forall_mem_cons.mpr ⟨wn_K, List.forall_mem_cons.mpr ⟨wc_K_giveTurn, fun _ h => absurd h List.not_mem_nil⟩⟩⟩⟩⟩
theorem lm_K_76 : Cond.methodLink R_K 76 y_K_doInstruction ∈ TT := mm_ (List.mem_append_right _ (List.mem_of_getElem? (l := tables_1) (i := 275) (by decide +kernel))) rfl
theorem wv_K_76 : ∀ w ∈ ([.methodLink R_K 76 y_K_doInstruction, .instanceMethod y_K_doInstruction, .selects R_K y_K_doInstruction y_K_doInstruction, .initialized R_K, .code y_K_doInstruction b_K_doInstruction 6 (none)] : List Cond), w ∈ TT := List.forall_mem_cons.mpr ⟨lm_K_76, List.forall_mem_cons.mpr ⟨wi_K_doInstruction, List.forall_mem_cons.mpr ⟨ws_K_doInstruction, List.forall_mem_cons.mpr ⟨wn_K, List.forall_mem_cons.mpr ⟨wc_K_doInstruction, fun _ h => absurd h List.not_mem_nil⟩⟩⟩⟩⟩
theorem lm_K_82 : Cond.methodLink R_K 82 y_K_isTask ∈ TT := mm_ (List.mem_append_right _ (List.mem_of_getElem? (l := tables_1) (i := 193) (by decide +kernel))) rfl
theorem wv_K_82 : ∀ w ∈ ([.methodLink R_K 82 y_K_isTask, .static y_K_isTask, .initialized (y_K_isTask).cls, .code y_K_isTask b_K_isTask 1 (some .boolean)] : List Cond), w ∈ TT := List.forall_mem_cons.mpr ⟨lm_K_82, List.forall_mem_cons.mpr ⟨wt_K_isTask, List.forall_mem_cons.mpr ⟨wn_K, List.forall_mem_cons.mpr ⟨wc_K_isTask, fun _ h => absurd h List.not_mem_nil⟩⟩⟩⟩
theorem lm_K_91 : Cond.methodLink R_K 91 y_T_tell ∈ TT := mm_ (List.mem_append_right _ (List.mem_of_getElem? (l := tables_1) (i := 311) (by decide +kernel))) rfl
theorem wv_K_91 : ∀ w ∈ ([.methodLink R_K 91 y_T_tell, .instanceMethod y_T_tell, .selects R_T y_T_tell y_T_tell, .initialized R_T, .code y_T_tell b_T_tell 2 (some .int)] : List Cond), w ∈ TT := List.forall_mem_cons.mpr ⟨lm_K_91, List.forall_mem_cons.mpr ⟨wi_T_tell, List.forall_mem_cons.mpr ⟨ws_T_tell, List.forall_mem_cons.mpr ⟨wn_T, List.forall_mem_cons.mpr ⟨wc_T_tell, fun _ h => absurd h List.not_mem_nil⟩⟩⟩⟩⟩
theorem lm_K_95 : Cond.methodLink R_K 95 y_K_isThere ∈ TT := mm_ (List.mem_append_right _ (List.mem_of_getElem? (l := tables_1) (i := 189) (by decide +kernel))) rfl
theorem wv_K_95 : ∀ w ∈ ([.methodLink R_K 95 y_K_isThere, .instanceMethod y_K_isThere, .selects R_K y_K_isThere y_K_isThere, .initialized R_K, .code y_K_isThere b_K_isThere 2 (some .boolean)] : List Cond), w ∈ TT := List.forall_mem_cons.mpr ⟨lm_K_95, List.forall_mem_cons.mpr ⟨wi_K_isThere, List.forall_mem_cons.mpr ⟨ws_K_isThere, List.forall_mem_cons.mpr ⟨wn_K, List.forall_mem_cons.mpr ⟨wc_K_isThere, fun _ h => absurd h List.not_mem_nil⟩⟩⟩⟩⟩
theorem lm_K_98 : Cond.methodLink R_K 98 y_E_tell ∈ TT := mm_ (List.mem_append_right _ (List.mem_of_getElem? (l := tables_1) (i := 319) (by decide +kernel))) rfl
theorem wv_K_98 : ∀ w ∈ ([.methodLink R_K 98 y_E_tell, .instanceMethod y_E_tell, .selects R_E y_E_tell y_E_tell, .initialized R_E, .code y_E_tell b_E_tell 2 (some .int)] : List Cond), w ∈ TT := List.forall_mem_cons.mpr ⟨lm_K_98, List.forall_mem_cons.mpr ⟨wi_E_tell, List.forall_mem_cons.mpr ⟨ws_E_tell, List.forall_mem_cons.mpr ⟨wn_E, List.forall_mem_cons.mpr ⟨wc_E_tell, fun _ h => absurd h List.not_mem_nil⟩⟩⟩⟩⟩
theorem lm_K_102 : Cond.methodLink R_K 102 y_K_presentTasks ∈ TT := mm_ (List.mem_append_right _ (List.mem_of_getElem? (l := tables_1) (i := 331) (by decide +kernel))) rfl
theorem wv_K_102 : ∀ w ∈ ([.methodLink R_K 102 y_K_presentTasks, .instanceMethod y_K_presentTasks, .selects R_K y_K_presentTasks y_K_presentTasks, .initialized R_K, .code y_K_presentTasks b_K_presentTasks 3 (some .int)] : List Cond), w ∈ TT := List.forall_mem_cons.mpr ⟨lm_K_102, List.forall_mem_cons.mpr ⟨wi_K_presentTasks, List.forall_mem_cons.mpr ⟨ws_K_presentTasks, List.forall_mem_cons.mpr ⟨wn_K, List.forall_mem_cons.mpr ⟨wc_K_presentTasks, fun _ h => absurd h List.not_mem_nil⟩⟩⟩⟩⟩
theorem lm_K_111 : Cond.methodLink R_K 111 y_M_taken ∈ TT := mm_ (List.mem_append_right _ (List.mem_of_getElem? (l := tables_1) (i := 335) (by decide +kernel))) rfl
theorem wv_K_111 : ∀ w ∈ ([.methodLink R_K 111 y_M_taken, .static y_M_taken, .initialized (y_M_taken).cls, .code y_M_taken b_M_taken 3 (some .int)] : List Cond), w ∈ TT := List.forall_mem_cons.mpr ⟨lm_K_111, List.forall_mem_cons.mpr ⟨wt_M_taken, List.forall_mem_cons.mpr ⟨wn_M, List.forall_mem_cons.mpr ⟨wc_M_taken, fun _ h => absurd h List.not_mem_nil⟩⟩⟩⟩
theorem lm_K_146 : Cond.methodLink R_K 146 y_M_fetch ∈ TT := mm_ (List.mem_append_right _ (List.mem_of_getElem? (l := tables_1) (i := 279) (by decide +kernel))) rfl
theorem wv_K_146 : ∀ w ∈ ([.methodLink R_K 146 y_M_fetch, .instanceMethod y_M_fetch, .selects R_M y_M_fetch y_M_fetch, .initialized R_M, .code y_M_fetch b_M_fetch 3 (some .int)] : List Cond), w ∈ TT := List.forall_mem_cons.mpr ⟨lm_K_146, List.forall_mem_cons.mpr ⟨wi_M_fetch, List.forall_mem_cons.mpr ⟨ws_M_fetch, List.forall_mem_cons.mpr ⟨wn_M, List.forall_mem_cons.mpr ⟨wc_M_fetch, fun _ h => absurd h List.not_mem_nil⟩⟩⟩⟩⟩
theorem lm_K_150 : Cond.methodLink R_K 150 y_K_obey ∈ TT := mm_ (List.mem_append_right _ (List.mem_of_getElem? (l := tables_1) (i := 283) (by decide +kernel))) rfl
theorem wv_K_150 : ∀ w ∈ ([.methodLink R_K 150 y_K_obey, .instanceMethod y_K_obey, .selects R_K y_K_obey y_K_obey, .initialized R_K, .code y_K_obey b_K_obey 8 (some .boolean)] : List Cond), w ∈ TT := List.forall_mem_cons.mpr ⟨lm_K_150, List.forall_mem_cons.mpr ⟨wi_K_obey, List.forall_mem_cons.mpr ⟨ws_K_obey, List.forall_mem_cons.mpr ⟨wn_K, List.forall_mem_cons.mpr ⟨wc_K_obey, fun _ h => absurd h List.not_mem_nil⟩⟩⟩⟩⟩
theorem lm_K_154 : Cond.methodLink R_K 154 y_K_callSystem ∈ TT := mm_ (List.mem_append_right _ (List.mem_of_getElem? (l := tables_1) (i := 287) (by decide +kernel))) rfl
theorem wv_K_154 : ∀ w ∈ ([.methodLink R_K 154 y_K_callSystem, .instanceMethod y_K_callSystem, .selects R_K y_K_callSystem y_K_callSystem, .initialized R_K, .code y_K_callSystem b_K_callSystem 5 (some .boolean)] : List Cond), w ∈ TT := List.forall_mem_cons.mpr ⟨lm_K_154, List.forall_mem_cons.mpr ⟨wi_K_callSystem, List.forall_mem_cons.mpr ⟨ws_K_callSystem, List.forall_mem_cons.mpr ⟨wn_K, List.forall_mem_cons.mpr ⟨wc_K_callSystem, fun _ h => absurd h List.not_mem_nil⟩⟩⟩⟩⟩
theorem lm_K_158 : Cond.methodLink R_K 158 y_K_print ∈ TT := mm_ (List.mem_append_right _ (List.mem_of_getElem? (l := tables_1) (i := 291) (by decide +kernel))) rfl
theorem wv_K_158 : ∀ w ∈ ([.methodLink R_K 158 y_K_print, .instanceMethod y_K_print, .selects R_K y_K_print y_K_print, .initialized R_K, .code y_K_print b_K_print 2 (none)] : List Cond), w ∈ TT := List.forall_mem_cons.mpr ⟨lm_K_158, List.forall_mem_cons.mpr ⟨wi_K_print, List.forall_mem_cons.mpr ⟨ws_K_print, List.forall_mem_cons.mpr ⟨wn_K, List.forall_mem_cons.mpr ⟨wc_K_print, fun _ h => absurd h List.not_mem_nil⟩⟩⟩⟩⟩
theorem lm_K_161 : Cond.methodLink R_K 161 y_K_fork ∈ TT := mm_ (List.mem_append_right _ (List.mem_of_getElem? (l := tables_1) (i := 295) (by decide +kernel))) rfl
theorem wv_K_161 : ∀ w ∈ ([.methodLink R_K 161 y_K_fork, .instanceMethod y_K_fork, .selects R_K y_K_fork y_K_fork, .initialized R_K, .code y_K_fork b_K_fork 8 (none)] : List Cond), w ∈ TT := List.forall_mem_cons.mpr ⟨lm_K_161, List.forall_mem_cons.mpr ⟨wi_K_fork, List.forall_mem_cons.mpr ⟨ws_K_fork, List.forall_mem_cons.mpr ⟨wn_K, List.forall_mem_cons.mpr ⟨wc_K_fork, fun _ h => absurd h List.not_mem_nil⟩⟩⟩⟩⟩
theorem lm_K_164 : Cond.methodLink R_K 164 y_K_sleep ∈ TT := mm_ (List.mem_append_right _ (List.mem_of_getElem? (l := tables_1) (i := 299) (by decide +kernel))) rfl
theorem wv_K_164 : ∀ w ∈ ([.methodLink R_K 164 y_K_sleep, .instanceMethod y_K_sleep, .selects R_K y_K_sleep y_K_sleep, .initialized R_K, .code y_K_sleep b_K_sleep 3 (none)] : List Cond), w ∈ TT := List.forall_mem_cons.mpr ⟨lm_K_164, List.forall_mem_cons.mpr ⟨wi_K_sleep, List.forall_mem_cons.mpr ⟨ws_K_sleep, List.forall_mem_cons.mpr ⟨wn_K, List.forall_mem_cons.mpr ⟨wc_K_sleep, fun _ h => absurd h List.not_mem_nil⟩⟩⟩⟩⟩
theorem lm_K_168 : Cond.methodLink R_K 168 y_K_awaitChild ∈ TT := mm_ (List.mem_append_right _ (List.mem_of_getElem? (l := tables_1) (i := 303) (by decide +kernel))) rfl
theorem wv_K_168 : ∀ w ∈ ([.methodLink R_K 168 y_K_awaitChild, .instanceMethod y_K_awaitChild, .selects R_K y_K_awaitChild y_K_awaitChild, .initialized R_K, .code y_K_awaitChild b_K_awaitChild 7 (none)] : List Cond), w ∈ TT := List.forall_mem_cons.mpr ⟨lm_K_168, List.forall_mem_cons.mpr ⟨wi_K_awaitChild, List.forall_mem_cons.mpr ⟨ws_K_awaitChild, List.forall_mem_cons.mpr ⟨wn_K, List.forall_mem_cons.mpr ⟨wc_K_awaitChild, fun _ h => absurd h List.not_mem_nil⟩⟩⟩⟩⟩
theorem lm_K_180 : Cond.methodLink R_K 180 y_T_leave ∈ TT := mm_ (List.mem_append_right _ (List.mem_of_getElem? (l := tables_1) (i := 259) (by decide +kernel))) rfl
theorem wv_K_180 : ∀ w ∈ ([.methodLink R_K 180 y_T_leave, .instanceMethod y_T_leave, .selects R_T y_T_leave y_T_leave, .initialized R_T, .code y_T_leave b_T_leave 1 (none)] : List Cond), w ∈ TT := List.forall_mem_cons.mpr ⟨lm_K_180, List.forall_mem_cons.mpr ⟨wi_T_leave, List.forall_mem_cons.mpr ⟨ws_T_leave, List.forall_mem_cons.mpr ⟨wn_T, List.forall_mem_cons.mpr ⟨wc_T_leave, fun _ h => absurd h List.not_mem_nil⟩⟩⟩⟩⟩
theorem lm_K_183 : Cond.methodLink R_K 183 y_M_releaseAll ∈ TT := mm_ (List.mem_append_right _ (List.mem_of_getElem? (l := tables_1) (i := 247) (by decide +kernel))) rfl
theorem wv_K_183 : ∀ w ∈ ([.methodLink R_K 183 y_M_releaseAll, .instanceMethod y_M_releaseAll, .selects R_M y_M_releaseAll y_M_releaseAll, .initialized R_M, .code y_M_releaseAll b_M_releaseAll 4 (none)] : List Cond), w ∈ TT := List.forall_mem_cons.mpr ⟨lm_K_183, List.forall_mem_cons.mpr ⟨wi_M_releaseAll, List.forall_mem_cons.mpr ⟨ws_M_releaseAll, List.forall_mem_cons.mpr ⟨wn_M, List.forall_mem_cons.mpr ⟨wc_M_releaseAll, fun _ h => absurd h List.not_mem_nil⟩⟩⟩⟩⟩
theorem lm_K_187 : Cond.methodLink R_K 187 y_K_orphanChildren ∈ TT := mm_ (List.mem_append_right _ (List.mem_of_getElem? (l := tables_1) (i := 255) (by decide +kernel))) rfl
theorem wv_K_187 : ∀ w ∈ ([.methodLink R_K 187 y_K_orphanChildren, .instanceMethod y_K_orphanChildren, .selects R_K y_K_orphanChildren y_K_orphanChildren, .initialized R_K, .code y_K_orphanChildren b_K_orphanChildren 4 (none)] : List Cond), w ∈ TT := List.forall_mem_cons.mpr ⟨lm_K_187, List.forall_mem_cons.mpr ⟨wi_K_orphanChildren, List.forall_mem_cons.mpr ⟨ws_K_orphanChildren, List.forall_mem_cons.mpr ⟨wn_K, List.forall_mem_cons.mpr ⟨wc_K_orphanChildren, fun _ h => absurd h List.not_mem_nil⟩⟩⟩⟩⟩
theorem lm_M_24 : Cond.methodLink R_M 24 y_M_reach ∈ TT := mm_ (List.mem_append_right _ (List.mem_of_getElem? (l := tables_1) (i := 203) (by decide +kernel))) rfl
theorem wv_M_24 : ∀ w ∈ ([.methodLink R_M 24 y_M_reach, .instanceMethod y_M_reach, .selects R_M y_M_reach y_M_reach, .initialized R_M, .code y_M_reach b_M_reach 5 (some (.object "SheetKernel$Sheet"))] : List Cond), w ∈ TT := List.forall_mem_cons.mpr ⟨lm_M_24, List.forall_mem_cons.mpr ⟨wi_M_reach, List.forall_mem_cons.mpr ⟨ws_M_reach, List.forall_mem_cons.mpr ⟨wn_M, List.forall_mem_cons.mpr ⟨wc_M_reach, fun _ h => absurd h List.not_mem_nil⟩⟩⟩⟩⟩
theorem lm_M_37 : Cond.methodLink R_M 37 y_M_newSheet ∈ TT := mm_ (List.mem_append_right _ (List.mem_of_getElem? (l := tables_1) (i := 207) (by decide +kernel))) rfl
theorem wv_M_37 : ∀ w ∈ ([.methodLink R_M 37 y_M_newSheet, .instanceMethod y_M_newSheet, .selects R_M y_M_newSheet y_M_newSheet, .initialized R_M, .code y_M_newSheet b_M_newSheet 3 (some (.object "SheetKernel$Sheet"))] : List Cond), w ∈ TT := List.forall_mem_cons.mpr ⟨lm_M_37, List.forall_mem_cons.mpr ⟨wi_M_newSheet, List.forall_mem_cons.mpr ⟨ws_M_newSheet, List.forall_mem_cons.mpr ⟨wn_M, List.forall_mem_cons.mpr ⟨wc_M_newSheet, fun _ h => absurd h List.not_mem_nil⟩⟩⟩⟩⟩
theorem lm_M_55 : Cond.methodLink R_M 55 y_M_layInFrame ∈ TT := mm_ (List.mem_append_right _ (List.mem_of_getElem? (l := tables_1) (i := 212) (by decide +kernel))) rfl
theorem wv_M_55 : ∀ w ∈ ([.methodLink R_M 55 y_M_layInFrame, .instanceMethod y_M_layInFrame, .selects R_M y_M_layInFrame y_M_layInFrame, .initialized R_M, .code y_M_layInFrame b_M_layInFrame 3 (none)] : List Cond), w ∈ TT := List.forall_mem_cons.mpr ⟨lm_M_55, List.forall_mem_cons.mpr ⟨wi_M_layInFrame, List.forall_mem_cons.mpr ⟨ws_M_layInFrame, List.forall_mem_cons.mpr ⟨wn_M, List.forall_mem_cons.mpr ⟨wc_M_layInFrame, fun _ h => absurd h List.not_mem_nil⟩⟩⟩⟩⟩
theorem lm_M_62 : Cond.methodLink R_M 62 y_M_copyOf ∈ TT := mm_ (List.mem_append_right _ (List.mem_of_getElem? (l := tables_1) (i := 228) (by decide +kernel))) rfl
theorem wv_M_62 : ∀ w ∈ ([.methodLink R_M 62 y_M_copyOf, .instanceMethod y_M_copyOf, .selects R_M y_M_copyOf y_M_copyOf, .initialized R_M, .code y_M_copyOf b_M_copyOf 3 (some (.object "SheetKernel$Sheet"))] : List Cond), w ∈ TT := List.forall_mem_cons.mpr ⟨lm_M_62, List.forall_mem_cons.mpr ⟨wi_M_copyOf, List.forall_mem_cons.mpr ⟨ws_M_copyOf, List.forall_mem_cons.mpr ⟨wn_M, List.forall_mem_cons.mpr ⟨wc_M_copyOf, fun _ h => absurd h List.not_mem_nil⟩⟩⟩⟩⟩
theorem lm_M_73 : Cond.methodLink R_M 73 y_J_fill ∈ TT := mm_ (List.mem_append_right _ (List.mem_of_getElem? (l := tables_1) (i := 211) (by decide +kernel))) rfl
theorem wv_M_73 : ∀ w ∈ ([.methodLink R_M 73 y_J_fill, .static y_J_fill, .initialized (y_J_fill).cls, .code y_J_fill b_J_fill 4 (none)] : List Cond), w ∈ TT := List.forall_mem_cons.mpr ⟨lm_M_73, List.forall_mem_cons.mpr ⟨wt_J_fill, List.forall_mem_cons.mpr ⟨wn_J, List.forall_mem_cons.mpr ⟨wc_J_fill, fun _ h => absurd h List.not_mem_nil⟩⟩⟩⟩
theorem lm_M_88 : Cond.methodLink R_M 88 y_M_chooseFrame ∈ TT := mm_ (List.mem_append_right _ (List.mem_of_getElem? (l := tables_1) (i := 216) (by decide +kernel))) rfl
theorem wv_M_88 : ∀ w ∈ ([.methodLink R_M 88 y_M_chooseFrame, .instanceMethod y_M_chooseFrame, .selects R_M y_M_chooseFrame y_M_chooseFrame, .initialized R_M, .code y_M_chooseFrame b_M_chooseFrame 2 (some .int)] : List Cond), w ∈ TT := List.forall_mem_cons.mpr ⟨lm_M_88, List.forall_mem_cons.mpr ⟨wi_M_chooseFrame, List.forall_mem_cons.mpr ⟨ws_M_chooseFrame, List.forall_mem_cons.mpr ⟨wn_M, List.forall_mem_cons.mpr ⟨wc_M_chooseFrame, fun _ h => absurd h List.not_mem_nil⟩⟩⟩⟩⟩
theorem lm_M_92 : Cond.methodLink R_M 92 y_M_goOut ∈ TT := mm_ (List.mem_append_right _ (List.mem_of_getElem? (l := tables_1) (i := 220) (by decide +kernel))) rfl
theorem wv_M_92 : ∀ w ∈ ([.methodLink R_M 92 y_M_goOut, .instanceMethod y_M_goOut, .selects R_M y_M_goOut y_M_goOut, .initialized R_M, .code y_M_goOut b_M_goOut 2 (none)] : List Cond), w ∈ TT := List.forall_mem_cons.mpr ⟨lm_M_92, List.forall_mem_cons.mpr ⟨wi_M_goOut, List.forall_mem_cons.mpr ⟨ws_M_goOut, List.forall_mem_cons.mpr ⟨wn_M, List.forall_mem_cons.mpr ⟨wc_M_goOut, fun _ h => absurd h List.not_mem_nil⟩⟩⟩⟩⟩
theorem lm_M_98 : Cond.methodLink R_M 98 y_M_leastFreeSlot ∈ TT := mm_ (List.mem_append_right _ (List.mem_of_getElem? (l := tables_1) (i := 224) (by decide +kernel))) rfl
theorem wv_M_98 : ∀ w ∈ ([.methodLink R_M 98 y_M_leastFreeSlot, .instanceMethod y_M_leastFreeSlot, .selects R_M y_M_leastFreeSlot y_M_leastFreeSlot, .initialized R_M, .code y_M_leastFreeSlot b_M_leastFreeSlot 2 (some .int)] : List Cond), w ∈ TT := List.forall_mem_cons.mpr ⟨lm_M_98, List.forall_mem_cons.mpr ⟨wi_M_leastFreeSlot, List.forall_mem_cons.mpr ⟨ws_M_leastFreeSlot, List.forall_mem_cons.mpr ⟨wn_M, List.forall_mem_cons.mpr ⟨wc_M_leastFreeSlot, fun _ h => absurd h List.not_mem_nil⟩⟩⟩⟩⟩
theorem lm_M_104 : Cond.methodLink R_M 104 y_M_release ∈ TT := mm_ (List.mem_append_right _ (List.mem_of_getElem? (l := tables_1) (i := 251) (by decide +kernel))) rfl
theorem wv_M_104 : ∀ w ∈ ([.methodLink R_M 104 y_M_release, .instanceMethod y_M_release, .selects R_M y_M_release y_M_release, .initialized R_M, .code y_M_release b_M_release 2 (none)] : List Cond), w ∈ TT := List.forall_mem_cons.mpr ⟨lm_M_104, List.forall_mem_cons.mpr ⟨wi_M_release, List.forall_mem_cons.mpr ⟨ws_M_release, List.forall_mem_cons.mpr ⟨wn_M, List.forall_mem_cons.mpr ⟨wc_M_release, fun _ h => absurd h List.not_mem_nil⟩⟩⟩⟩⟩
theorem lm_T_28 : Cond.methodLink R_T 28 y_J_fill ∈ TT := mm_ (List.mem_append_right _ (List.mem_of_getElem? (l := tables_1) (i := 178) (by decide +kernel))) rfl
theorem wv_T_28 : ∀ w ∈ ([.methodLink R_T 28 y_J_fill, .static y_J_fill, .initialized (y_J_fill).cls, .code y_J_fill b_J_fill 4 (none)] : List Cond), w ∈ TT := List.forall_mem_cons.mpr ⟨lm_T_28, List.forall_mem_cons.mpr ⟨wt_J_fill, List.forall_mem_cons.mpr ⟨wn_J, List.forall_mem_cons.mpr ⟨wc_J_fill, fun _ h => absurd h List.not_mem_nil⟩⟩⟩⟩
theorem lm_Q_66 : Cond.methodLink R_Q 66 y_Q_sharers ∈ TT := mm_ (List.mem_append_right _ (List.mem_of_getElem? (l := tables_1) (i := 466) (by decide +kernel))) rfl
theorem wv_Q_66 : ∀ w ∈ ([.methodLink R_Q 66 y_Q_sharers, .instanceMethod y_Q_sharers, .selects R_Q y_Q_sharers y_Q_sharers, .initialized R_Q, .code y_Q_sharers b_Q_sharers 4 (some .int)] : List Cond), w ∈ TT := List.forall_mem_cons.mpr ⟨lm_Q_66, List.forall_mem_cons.mpr ⟨wi_Q_sharers, List.forall_mem_cons.mpr ⟨ws_Q_sharers, List.forall_mem_cons.mpr ⟨wn_Q, List.forall_mem_cons.mpr ⟨wc_Q_sharers, fun _ h => absurd h List.not_mem_nil⟩⟩⟩⟩⟩
theorem lm_Q_70 : Cond.methodLink R_Q 70 y_Q_isSlot ∈ TT := mm_ (List.mem_append_right _ (List.mem_of_getElem? (l := tables_1) (i := 462) (by decide +kernel))) rfl
theorem wv_Q_70 : ∀ w ∈ ([.methodLink R_Q 70 y_Q_isSlot, .instanceMethod y_Q_isSlot, .selects R_Q y_Q_isSlot y_Q_isSlot, .initialized R_Q, .code y_Q_isSlot b_Q_isSlot 3 (some .boolean)] : List Cond), w ∈ TT := List.forall_mem_cons.mpr ⟨lm_Q_70, List.forall_mem_cons.mpr ⟨wi_Q_isSlot, List.forall_mem_cons.mpr ⟨ws_Q_isSlot, List.forall_mem_cons.mpr ⟨wn_Q, List.forall_mem_cons.mpr ⟨wc_Q_isSlot, fun _ h => absurd h List.not_mem_nil⟩⟩⟩⟩⟩
theorem lm_Q_74 : Cond.methodLink R_Q 74 y_Q_inFrame ∈ TT := mm_ (List.mem_append_right _ (List.mem_of_getElem? (l := tables_1) (i := 454) (by decide +kernel))) rfl
theorem wv_Q_74 : ∀ w ∈ ([.methodLink R_Q 74 y_Q_inFrame, .instanceMethod y_Q_inFrame, .selects R_Q y_Q_inFrame y_Q_inFrame, .initialized R_Q, .code y_Q_inFrame b_Q_inFrame 3 (some .int)] : List Cond), w ∈ TT := List.forall_mem_cons.mpr ⟨lm_Q_74, List.forall_mem_cons.mpr ⟨wi_Q_inFrame, List.forall_mem_cons.mpr ⟨ws_Q_inFrame, List.forall_mem_cons.mpr ⟨wn_Q, List.forall_mem_cons.mpr ⟨wc_Q_inFrame, fun _ h => absurd h List.not_mem_nil⟩⟩⟩⟩⟩
theorem lm_Q_80 : Cond.methodLink R_Q 80 y_Q_goesOut ∈ TT := mm_ (List.mem_append_right _ (List.mem_of_getElem? (l := tables_1) (i := 458) (by decide +kernel))) rfl
theorem wv_Q_80 : ∀ w ∈ ([.methodLink R_Q 80 y_Q_goesOut, .instanceMethod y_Q_goesOut, .selects R_Q y_Q_goesOut y_Q_goesOut, .initialized R_Q, .code y_Q_goesOut b_Q_goesOut 3 (none)] : List Cond), w ∈ TT := List.forall_mem_cons.mpr ⟨lm_Q_80, List.forall_mem_cons.mpr ⟨wi_Q_goesOut, List.forall_mem_cons.mpr ⟨ws_Q_goesOut, List.forall_mem_cons.mpr ⟨wn_Q, List.forall_mem_cons.mpr ⟨wc_Q_goesOut, fun _ h => absurd h List.not_mem_nil⟩⟩⟩⟩⟩
theorem lm_Q_84 : Cond.methodLink R_Q 84 y_Q_freeFrame ∈ TT := mm_ (List.mem_append_right _ (List.mem_of_getElem? (l := tables_1) (i := 450) (by decide +kernel))) rfl
theorem wv_Q_84 : ∀ w ∈ ([.methodLink R_Q 84 y_Q_freeFrame, .instanceMethod y_Q_freeFrame, .selects R_Q y_Q_freeFrame y_Q_freeFrame, .initialized R_Q, .code y_Q_freeFrame b_Q_freeFrame 2 (some .int)] : List Cond), w ∈ TT := List.forall_mem_cons.mpr ⟨lm_Q_84, List.forall_mem_cons.mpr ⟨wi_Q_freeFrame, List.forall_mem_cons.mpr ⟨ws_Q_freeFrame, List.forall_mem_cons.mpr ⟨wn_Q, List.forall_mem_cons.mpr ⟨wc_Q_freeFrame, fun _ h => absurd h List.not_mem_nil⟩⟩⟩⟩⟩
theorem lm_Q_88 : Cond.methodLink R_Q 88 y_Q_fresh ∈ TT := mm_ (List.mem_append_right _ (List.mem_of_getElem? (l := tables_1) (i := 442) (by decide +kernel))) rfl
theorem wv_Q_88 : ∀ w ∈ ([.methodLink R_Q 88 y_Q_fresh, .instanceMethod y_Q_fresh, .selects R_Q y_Q_fresh y_Q_fresh, .initialized R_Q, .code y_Q_fresh b_Q_fresh 3 (some .int)] : List Cond), w ∈ TT := List.forall_mem_cons.mpr ⟨lm_Q_88, List.forall_mem_cons.mpr ⟨wi_Q_fresh, List.forall_mem_cons.mpr ⟨ws_Q_fresh, List.forall_mem_cons.mpr ⟨wn_Q, List.forall_mem_cons.mpr ⟨wc_Q_fresh, fun _ h => absurd h List.not_mem_nil⟩⟩⟩⟩⟩
theorem lm_Q_91 : Cond.methodLink R_Q 91 y_Q_bring ∈ TT := mm_ (List.mem_append_right _ (List.mem_of_getElem? (l := tables_1) (i := 446) (by decide +kernel))) rfl
theorem wv_Q_91 : ∀ w ∈ ([.methodLink R_Q 91 y_Q_bring, .instanceMethod y_Q_bring, .selects R_Q y_Q_bring y_Q_bring, .initialized R_Q, .code y_Q_bring b_Q_bring 4 (none)] : List Cond), w ∈ TT := List.forall_mem_cons.mpr ⟨lm_Q_91, List.forall_mem_cons.mpr ⟨wi_Q_bring, List.forall_mem_cons.mpr ⟨ws_Q_bring, List.forall_mem_cons.mpr ⟨wn_Q, List.forall_mem_cons.mpr ⟨wc_Q_bring, fun _ h => absurd h List.not_mem_nil⟩⟩⟩⟩⟩
theorem lm_Q_95 : Cond.methodLink R_Q 95 y_Q_in ∈ TT := mm_ (List.mem_append_right _ (List.mem_of_getElem? (l := tables_1) (i := 435) (by decide +kernel))) rfl
theorem wv_Q_95 : ∀ w ∈ ([.methodLink R_Q 95 y_Q_in, .static y_Q_in, .initialized (y_Q_in).cls, .code y_Q_in b_Q_in 2 (some .boolean)] : List Cond), w ∈ TT := List.forall_mem_cons.mpr ⟨lm_Q_95, List.forall_mem_cons.mpr ⟨wt_Q_in, List.forall_mem_cons.mpr ⟨wn_Q, List.forall_mem_cons.mpr ⟨wc_Q_in, fun _ h => absurd h List.not_mem_nil⟩⟩⟩⟩
theorem lm_Q_99 : Cond.methodLink R_Q 99 y_Q_isThere ∈ TT := mm_ (List.mem_append_right _ (List.mem_of_getElem? (l := tables_1) (i := 431) (by decide +kernel))) rfl
theorem wv_Q_99 : ∀ w ∈ ([.methodLink R_Q 99 y_Q_isThere, .instanceMethod y_Q_isThere, .selects R_Q y_Q_isThere y_Q_isThere, .initialized R_Q, .code y_Q_isThere b_Q_isThere 2 (some .boolean)] : List Cond), w ∈ TT := List.forall_mem_cons.mpr ⟨lm_Q_99, List.forall_mem_cons.mpr ⟨wi_Q_isThere, List.forall_mem_cons.mpr ⟨ws_Q_isThere, List.forall_mem_cons.mpr ⟨wn_Q, List.forall_mem_cons.mpr ⟨wc_Q_isThere, fun _ h => absurd h List.not_mem_nil⟩⟩⟩⟩⟩
theorem lm_Q_102 : Cond.methodLink R_Q 102 y_Q_begin ∈ TT := mm_ (List.mem_append_right _ (List.mem_of_getElem? (l := tables_1) (i := 419) (by decide +kernel))) rfl
theorem wv_Q_102 : ∀ w ∈ ([.methodLink R_Q 102 y_Q_begin, .instanceMethod y_Q_begin, .selects R_Q y_Q_begin y_Q_begin, .initialized R_Q, .code y_Q_begin b_Q_begin 4 (some .int)] : List Cond), w ∈ TT := List.forall_mem_cons.mpr ⟨lm_Q_102, List.forall_mem_cons.mpr ⟨wi_Q_begin, List.forall_mem_cons.mpr ⟨ws_Q_begin, List.forall_mem_cons.mpr ⟨wn_Q, List.forall_mem_cons.mpr ⟨wc_Q_begin, fun _ h => absurd h List.not_mem_nil⟩⟩⟩⟩⟩
theorem lm_Q_105 : Cond.methodLink R_Q 105 y_Q_isAlive ∈ TT := mm_ (List.mem_append_right _ (List.mem_of_getElem? (l := tables_1) (i := 427) (by decide +kernel))) rfl
theorem wv_Q_105 : ∀ w ∈ ([.methodLink R_Q 105 y_Q_isAlive, .instanceMethod y_Q_isAlive, .selects R_Q y_Q_isAlive y_Q_isAlive, .initialized R_Q, .code y_Q_isAlive b_Q_isAlive 2 (some .boolean)] : List Cond), w ∈ TT := List.forall_mem_cons.mpr ⟨lm_Q_105, List.forall_mem_cons.mpr ⟨wi_Q_isAlive, List.forall_mem_cons.mpr ⟨ws_Q_isAlive, List.forall_mem_cons.mpr ⟨wn_Q, List.forall_mem_cons.mpr ⟨wc_Q_isAlive, fun _ h => absurd h List.not_mem_nil⟩⟩⟩⟩⟩
theorem lm_Q_108 : Cond.methodLink R_Q 108 y_Q_reach ∈ TT := mm_ (List.mem_append_right _ (List.mem_of_getElem? (l := tables_1) (i := 438) (by decide +kernel))) rfl
theorem wv_Q_108 : ∀ w ∈ ([.methodLink R_Q 108 y_Q_reach, .instanceMethod y_Q_reach, .selects R_Q y_Q_reach y_Q_reach, .initialized R_Q, .code y_Q_reach b_Q_reach 8 (some .int)] : List Cond), w ∈ TT := List.forall_mem_cons.mpr ⟨lm_Q_108, List.forall_mem_cons.mpr ⟨wi_Q_reach, List.forall_mem_cons.mpr ⟨ws_Q_reach, List.forall_mem_cons.mpr ⟨wn_Q, List.forall_mem_cons.mpr ⟨wc_Q_reach, fun _ h => absurd h List.not_mem_nil⟩⟩⟩⟩⟩
theorem lm_Q_112 : Cond.methodLink R_Q 112 y_Q_let ∈ TT := mm_ (List.mem_append_right _ (List.mem_of_getElem? (l := tables_1) (i := 482) (by decide +kernel))) rfl
theorem wv_Q_112 : ∀ w ∈ ([.methodLink R_Q 112 y_Q_let, .instanceMethod y_Q_let, .selects R_Q y_Q_let y_Q_let, .initialized R_Q, .code y_Q_let b_Q_let 3 (none)] : List Cond), w ∈ TT := List.forall_mem_cons.mpr ⟨lm_Q_112, List.forall_mem_cons.mpr ⟨wi_Q_let, List.forall_mem_cons.mpr ⟨ws_Q_let, List.forall_mem_cons.mpr ⟨wn_Q, List.forall_mem_cons.mpr ⟨wc_Q_let, fun _ h => absurd h List.not_mem_nil⟩⟩⟩⟩⟩
theorem lm_Q_115 : Cond.methodLink R_Q 115 y_Q_ends ∈ TT := mm_ (List.mem_append_right _ (List.mem_of_getElem? (l := tables_1) (i := 478) (by decide +kernel))) rfl
theorem wv_Q_115 : ∀ w ∈ ([.methodLink R_Q 115 y_Q_ends, .instanceMethod y_Q_ends, .selects R_Q y_Q_ends y_Q_ends, .initialized R_Q, .code y_Q_ends b_Q_ends 4 (none)] : List Cond), w ∈ TT := List.forall_mem_cons.mpr ⟨lm_Q_115, List.forall_mem_cons.mpr ⟨wi_Q_ends, List.forall_mem_cons.mpr ⟨ws_Q_ends, List.forall_mem_cons.mpr ⟨wn_Q, List.forall_mem_cons.mpr ⟨wc_Q_ends, fun _ h => absurd h List.not_mem_nil⟩⟩⟩⟩⟩
theorem lm_Q_119 : Cond.methodLink R_Q 119 y_Q_tick ∈ TT := mm_ (List.mem_append_right _ (List.mem_of_getElem? (l := tables_1) (i := 490) (by decide +kernel))) rfl
theorem wv_Q_119 : ∀ w ∈ ([.methodLink R_Q 119 y_Q_tick, .instanceMethod y_Q_tick, .selects R_Q y_Q_tick y_Q_tick, .initialized R_Q, .code y_Q_tick b_Q_tick 3 (some .boolean)] : List Cond), w ∈ TT := List.forall_mem_cons.mpr ⟨lm_Q_119, List.forall_mem_cons.mpr ⟨wi_Q_tick, List.forall_mem_cons.mpr ⟨ws_Q_tick, List.forall_mem_cons.mpr ⟨wn_Q, List.forall_mem_cons.mpr ⟨wc_Q_tick, fun _ h => absurd h List.not_mem_nil⟩⟩⟩⟩⟩
theorem lm_Q_133 : Cond.methodLink R_Q 133 y_Q_does ∈ TT := mm_ (List.mem_append_right _ (List.mem_of_getElem? (l := tables_1) (i := 494) (by decide +kernel))) rfl
theorem wv_Q_133 : ∀ w ∈ ([.methodLink R_Q 133 y_Q_does, .instanceMethod y_Q_does, .selects R_Q y_Q_does y_Q_does, .initialized R_Q, .code y_Q_does b_Q_does 9 (some .boolean)] : List Cond), w ∈ TT := List.forall_mem_cons.mpr ⟨lm_Q_133, List.forall_mem_cons.mpr ⟨wi_Q_does, List.forall_mem_cons.mpr ⟨ws_Q_does, List.forall_mem_cons.mpr ⟨wn_Q, List.forall_mem_cons.mpr ⟨wc_Q_does, fun _ h => absurd h List.not_mem_nil⟩⟩⟩⟩⟩
theorem lm_Q_136 : Cond.methodLink R_Q 136 y_Q_calls ∈ TT := mm_ (List.mem_append_right _ (List.mem_of_getElem? (l := tables_1) (i := 498) (by decide +kernel))) rfl
theorem wv_Q_136 : ∀ w ∈ ([.methodLink R_Q 136 y_Q_calls, .instanceMethod y_Q_calls, .selects R_Q y_Q_calls y_Q_calls, .initialized R_Q, .code y_Q_calls b_Q_calls 5 (some .boolean)] : List Cond), w ∈ TT := List.forall_mem_cons.mpr ⟨lm_Q_136, List.forall_mem_cons.mpr ⟨wi_Q_calls, List.forall_mem_cons.mpr ⟨ws_Q_calls, List.forall_mem_cons.mpr ⟨wn_Q, List.forall_mem_cons.mpr ⟨wc_Q_calls, fun _ h => absurd h List.not_mem_nil⟩⟩⟩⟩⟩
theorem lm_Q_140 : Cond.methodLink R_Q 140 y_Q_waits ∈ TT := mm_ (List.mem_append_right _ (List.mem_of_getElem? (l := tables_1) (i := 502) (by decide +kernel))) rfl
theorem wv_Q_140 : ∀ w ∈ ([.methodLink R_Q 140 y_Q_waits, .instanceMethod y_Q_waits, .selects R_Q y_Q_waits y_Q_waits, .initialized R_Q, .code y_Q_waits b_Q_waits 5 (some .boolean)] : List Cond), w ∈ TT := List.forall_mem_cons.mpr ⟨lm_Q_140, List.forall_mem_cons.mpr ⟨wi_Q_waits, List.forall_mem_cons.mpr ⟨ws_Q_waits, List.forall_mem_cons.mpr ⟨wn_Q, List.forall_mem_cons.mpr ⟨wc_Q_waits, fun _ h => absurd h List.not_mem_nil⟩⟩⟩⟩⟩
theorem lm_Q_146 : Cond.methodLink R_Q 146 y_Q_fork ∈ TT := mm_ (List.mem_append_right _ (List.mem_of_getElem? (l := tables_1) (i := 506) (by decide +kernel))) rfl
theorem wv_Q_146 : ∀ w ∈ ([.methodLink R_Q 146 y_Q_fork, .instanceMethod y_Q_fork, .selects R_Q y_Q_fork y_Q_fork, .initialized R_Q, .code y_Q_fork b_Q_fork 5 (some .int)] : List Cond), w ∈ TT := List.forall_mem_cons.mpr ⟨lm_Q_146, List.forall_mem_cons.mpr ⟨wi_Q_fork, List.forall_mem_cons.mpr ⟨ws_Q_fork, List.forall_mem_cons.mpr ⟨wn_Q, List.forall_mem_cons.mpr ⟨wc_Q_fork, fun _ h => absurd h List.not_mem_nil⟩⟩⟩⟩⟩
end
section
theorem d_K_init_0 : decode b_K_init 0 = .ok (.aload_n 0, 1) := by decide +kernel
theorem d_K_init_1 : decode b_K_init 1 = .ok (.invokespecial 3, 3) := by decide +kernel
theorem d_K_init_4 : decode b_K_init 4 = .ok (.aload_n 0, 1) := by decide +kernel
theorem d_K_init_5 : decode b_K_init 5 = .ok (.iconst 4, 1) := by decide +kernel
theorem d_K_init_6 : decode b_K_init 6 = .ok (.anewarray 9, 3) := by decide +kernel
theorem d_K_init_9 : decode b_K_init 9 = .ok (.putfield 11, 3) := by decide +kernel
theorem d_K_init_12 : decode b_K_init 12 = .ok (.aload_n 0, 1) := by decide +kernel
theorem d_K_init_13 : decode b_K_init 13 = .ok (.new 15, 3) := by decide +kernel
theorem d_K_init_16 : decode b_K_init 16 = .ok (.dup, 1) := by decide +kernel
theorem d_K_init_17 : decode b_K_init 17 = .ok (.invokespecial 17, 3) := by decide +kernel
theorem d_K_init_20 : decode b_K_init 20 = .ok (.putfield 18, 3) := by decide +kernel
theorem d_K_init_23 : decode b_K_init 23 = .ok (.aload_n 0, 1) := by decide +kernel
theorem d_K_init_24 : decode b_K_init 24 = .ok (.bipush 40, 2) := by decide +kernel
theorem d_K_init_26 : decode b_K_init 26 = .ok (.newarray .int, 2) := by decide +kernel
theorem d_K_init_28 : decode b_K_init 28 = .ok (.putfield 22, 3) := by decide +kernel
theorem d_K_init_31 : decode b_K_init 31 = .ok (.aload_n 0, 1) := by decide +kernel
theorem d_K_init_32 : decode b_K_init 32 = .ok (.iconst 3, 1) := by decide +kernel
theorem d_K_init_33 : decode b_K_init 33 = .ok (.putfield 26, 3) := by decide +kernel
theorem d_K_init_36 : decode b_K_init 36 = .ok (.iconst 0, 1) := by decide +kernel
theorem d_K_init_37 : decode b_K_init 37 = .ok (.istore_n 1, 1) := by decide +kernel
theorem d_K_init_38 : decode b_K_init 38 = .ok (.iload_n 1, 1) := by decide +kernel
theorem d_K_init_39 : decode b_K_init 39 = .ok (.iconst 4, 1) := by decide +kernel
theorem d_K_init_40 : decode b_K_init 40 = .ok (.if_icmp .ge 22, 3) := by decide +kernel
theorem d_K_init_43 : decode b_K_init 43 = .ok (.aload_n 0, 1) := by decide +kernel
theorem d_K_init_44 : decode b_K_init 44 = .ok (.getfield 11, 3) := by decide +kernel
theorem d_K_init_47 : decode b_K_init 47 = .ok (.iload_n 1, 1) := by decide +kernel
theorem d_K_init_48 : decode b_K_init 48 = .ok (.new 9, 3) := by decide +kernel
theorem d_K_init_51 : decode b_K_init 51 = .ok (.dup, 1) := by decide +kernel
theorem d_K_init_52 : decode b_K_init 52 = .ok (.invokespecial 30, 3) := by decide +kernel
theorem d_K_init_55 : decode b_K_init 55 = .ok (.aastore, 1) := by decide +kernel
theorem d_K_init_56 : decode b_K_init 56 = .ok (.iinc 1 1, 3) := by decide +kernel
theorem d_K_init_59 : decode b_K_init 59 = .ok (.goto (-21), 3) := by decide +kernel
theorem d_K_init_62 : decode b_K_init 62 = .ok (.return_, 1) := by decide +kernel
theorem d_M_init_0 : decode b_M_init 0 = .ok (.aload_n 0, 1) := by decide +kernel
theorem d_M_init_1 : decode b_M_init 1 = .ok (.invokespecial 3, 3) := by decide +kernel
theorem d_M_init_4 : decode b_M_init 4 = .ok (.aload_n 0, 1) := by decide +kernel
theorem d_M_init_5 : decode b_M_init 5 = .ok (.bipush 32, 2) := by decide +kernel
theorem d_M_init_7 : decode b_M_init 7 = .ok (.anewarray 9, 3) := by decide +kernel
theorem d_M_init_10 : decode b_M_init 10 = .ok (.putfield 11, 3) := by decide +kernel
theorem d_M_init_13 : decode b_M_init 13 = .ok (.aload_n 0, 1) := by decide +kernel
theorem d_M_init_14 : decode b_M_init 14 = .ok (.bipush 6, 2) := by decide +kernel
theorem d_M_init_16 : decode b_M_init 16 = .ok (.anewarray 9, 3) := by decide +kernel
theorem d_M_init_19 : decode b_M_init 19 = .ok (.putfield 17, 3) := by decide +kernel
theorem d_M_init_22 : decode b_M_init 22 = .ok (.aload_n 0, 1) := by decide +kernel
theorem d_M_init_23 : decode b_M_init 23 = .ok (.bipush 32, 2) := by decide +kernel
theorem d_M_init_25 : decode b_M_init 25 = .ok (.anewarray 9, 3) := by decide +kernel
theorem d_M_init_28 : decode b_M_init 28 = .ok (.putfield 20, 3) := by decide +kernel
theorem d_M_init_31 : decode b_M_init 31 = .ok (.iconst 0, 1) := by decide +kernel
theorem d_M_init_32 : decode b_M_init 32 = .ok (.istore_n 1, 1) := by decide +kernel
theorem d_M_init_33 : decode b_M_init 33 = .ok (.iload_n 1, 1) := by decide +kernel
theorem d_M_init_34 : decode b_M_init 34 = .ok (.bipush 32, 2) := by decide +kernel
theorem d_M_init_36 : decode b_M_init 36 = .ok (.if_icmp .ge 22, 3) := by decide +kernel
theorem d_M_init_39 : decode b_M_init 39 = .ok (.aload_n 0, 1) := by decide +kernel
theorem d_M_init_40 : decode b_M_init 40 = .ok (.getfield 11, 3) := by decide +kernel
theorem d_M_init_43 : decode b_M_init 43 = .ok (.iload_n 1, 1) := by decide +kernel
theorem d_M_init_44 : decode b_M_init 44 = .ok (.new 9, 3) := by decide +kernel
theorem d_M_init_47 : decode b_M_init 47 = .ok (.dup, 1) := by decide +kernel
theorem d_M_init_48 : decode b_M_init 48 = .ok (.invokespecial 23, 3) := by decide +kernel
theorem d_M_init_51 : decode b_M_init 51 = .ok (.aastore, 1) := by decide +kernel
theorem d_M_init_52 : decode b_M_init 52 = .ok (.iinc 1 1, 3) := by decide +kernel
theorem d_M_init_55 : decode b_M_init 55 = .ok (.goto (-22), 3) := by decide +kernel
theorem d_M_init_58 : decode b_M_init 58 = .ok (.return_, 1) := by decide +kernel
theorem d_E_init_0 : decode b_E_init 0 = .ok (.aload_n 0, 1) := by decide +kernel
theorem d_E_init_1 : decode b_E_init 1 = .ok (.invokespecial 3, 3) := by decide +kernel
theorem d_E_init_4 : decode b_E_init 4 = .ok (.aload_n 0, 1) := by decide +kernel
theorem d_E_init_5 : decode b_E_init 5 = .ok (.bipush 8, 2) := by decide +kernel
theorem d_E_init_7 : decode b_E_init 7 = .ok (.newarray .int, 2) := by decide +kernel
theorem d_E_init_9 : decode b_E_init 9 = .ok (.putfield 9, 3) := by decide +kernel
theorem d_E_init_12 : decode b_E_init 12 = .ok (.aload_n 0, 1) := by decide +kernel
theorem d_E_init_13 : decode b_E_init 13 = .ok (.bipush (-2), 2) := by decide +kernel
theorem d_E_init_15 : decode b_E_init 15 = .ok (.putfield 15, 3) := by decide +kernel
theorem d_E_init_18 : decode b_E_init 18 = .ok (.aload_n 0, 1) := by decide +kernel
theorem d_E_init_19 : decode b_E_init 19 = .ok (.bipush (-2), 2) := by decide +kernel
theorem d_E_init_21 : decode b_E_init 21 = .ok (.putfield 19, 3) := by decide +kernel
theorem d_E_init_24 : decode b_E_init 24 = .ok (.return_, 1) := by decide +kernel
theorem d_T_init_0 : decode b_T_init 0 = .ok (.aload_n 0, 1) := by decide +kernel
theorem d_T_init_1 : decode b_T_init 1 = .ok (.invokespecial 3, 3) := by decide +kernel
theorem d_T_init_4 : decode b_T_init 4 = .ok (.aload_n 0, 1) := by decide +kernel
theorem d_T_init_5 : decode b_T_init 5 = .ok (.iconst 4, 1) := by decide +kernel
theorem d_T_init_6 : decode b_T_init 6 = .ok (.newarray .int, 2) := by decide +kernel
theorem d_T_init_8 : decode b_T_init 8 = .ok (.putfield 9, 3) := by decide +kernel
theorem d_T_init_11 : decode b_T_init 11 = .ok (.aload_n 0, 1) := by decide +kernel
theorem d_T_init_12 : decode b_T_init 12 = .ok (.bipush 8, 2) := by decide +kernel
theorem d_T_init_14 : decode b_T_init 14 = .ok (.anewarray 15, 3) := by decide +kernel
theorem d_T_init_17 : decode b_T_init 17 = .ok (.putfield 17, 3) := by decide +kernel
theorem d_T_init_20 : decode b_T_init 20 = .ok (.aload_n 0, 1) := by decide +kernel
theorem d_T_init_21 : decode b_T_init 21 = .ok (.iconst 0, 1) := by decide +kernel
theorem d_T_init_22 : decode b_T_init 22 = .ok (.putfield 21, 3) := by decide +kernel
theorem d_T_init_25 : decode b_T_init 25 = .ok (.aload_n 0, 1) := by decide +kernel
theorem d_T_init_26 : decode b_T_init 26 = .ok (.bipush (-2), 2) := by decide +kernel
theorem d_T_init_28 : decode b_T_init 28 = .ok (.putfield 25, 3) := by decide +kernel
theorem d_T_init_31 : decode b_T_init 31 = .ok (.return_, 1) := by decide +kernel
theorem d_K_spawn_0 : decode b_K_spawn 0 = .ok (.aload_n 0, 1) := by decide +kernel
theorem d_K_spawn_1 : decode b_K_spawn 1 = .ok (.invokevirtual 31, 3) := by decide +kernel
theorem d_K_spawn_4 : decode b_K_spawn 4 = .ok (.istore_n 1, 1) := by decide +kernel
theorem d_K_spawn_5 : decode b_K_spawn 5 = .ok (.iload_n 1, 1) := by decide +kernel
theorem d_K_spawn_6 : decode b_K_spawn 6 = .ok (.bipush (-2), 2) := by decide +kernel
theorem d_K_spawn_8 : decode b_K_spawn 8 = .ok (.if_icmp .ne 6, 3) := by decide +kernel
theorem d_K_spawn_11 : decode b_K_spawn 11 = .ok (.bipush (-3), 2) := by decide +kernel
theorem d_K_spawn_13 : decode b_K_spawn 13 = .ok (.ireturn, 1) := by decide +kernel
theorem d_K_spawn_14 : decode b_K_spawn 14 = .ok (.aload_n 0, 1) := by decide +kernel
theorem d_K_spawn_15 : decode b_K_spawn 15 = .ok (.getfield 11, 3) := by decide +kernel
theorem d_K_spawn_18 : decode b_K_spawn 18 = .ok (.iload_n 1, 1) := by decide +kernel
theorem d_K_spawn_19 : decode b_K_spawn 19 = .ok (.aaload, 1) := by decide +kernel
theorem d_K_spawn_20 : decode b_K_spawn 20 = .ok (.bipush (-2), 2) := by decide +kernel
theorem d_K_spawn_22 : decode b_K_spawn 22 = .ok (.invokevirtual 35, 3) := by decide +kernel
theorem d_K_spawn_25 : decode b_K_spawn 25 = .ok (.iload_n 1, 1) := by decide +kernel
theorem d_K_spawn_26 : decode b_K_spawn 26 = .ok (.ireturn, 1) := by decide +kernel
theorem d_K_leastAbsent_0 : decode b_K_leastAbsent 0 = .ok (.iconst 0, 1) := by decide +kernel
theorem d_K_leastAbsent_1 : decode b_K_leastAbsent 1 = .ok (.istore_n 1, 1) := by decide +kernel
theorem d_K_leastAbsent_2 : decode b_K_leastAbsent 2 = .ok (.iload_n 1, 1) := by decide +kernel
theorem d_K_leastAbsent_3 : decode b_K_leastAbsent 3 = .ok (.iconst 4, 1) := by decide +kernel
theorem d_K_leastAbsent_4 : decode b_K_leastAbsent 4 = .ok (.if_icmp .ge 23, 3) := by decide +kernel
theorem d_K_leastAbsent_7 : decode b_K_leastAbsent 7 = .ok (.aload_n 0, 1) := by decide +kernel
theorem d_K_leastAbsent_8 : decode b_K_leastAbsent 8 = .ok (.getfield 11, 3) := by decide +kernel
theorem d_K_leastAbsent_11 : decode b_K_leastAbsent 11 = .ok (.iload_n 1, 1) := by decide +kernel
theorem d_K_leastAbsent_12 : decode b_K_leastAbsent 12 = .ok (.aaload, 1) := by decide +kernel
theorem d_K_leastAbsent_13 : decode b_K_leastAbsent 13 = .ok (.getfield 85, 3) := by decide +kernel
theorem d_K_leastAbsent_16 : decode b_K_leastAbsent 16 = .ok (.ifCond .ne 5, 3) := by decide +kernel
theorem d_K_leastAbsent_19 : decode b_K_leastAbsent 19 = .ok (.iload_n 1, 1) := by decide +kernel
theorem d_K_leastAbsent_20 : decode b_K_leastAbsent 20 = .ok (.ireturn, 1) := by decide +kernel
theorem d_K_leastAbsent_21 : decode b_K_leastAbsent 21 = .ok (.iinc 1 1, 3) := by decide +kernel
theorem d_K_leastAbsent_24 : decode b_K_leastAbsent 24 = .ok (.goto (-22), 3) := by decide +kernel
theorem d_K_leastAbsent_27 : decode b_K_leastAbsent 27 = .ok (.bipush (-2), 2) := by decide +kernel
theorem d_K_leastAbsent_29 : decode b_K_leastAbsent 29 = .ok (.ireturn, 1) := by decide +kernel
theorem d_T_begin_0 : decode b_T_begin 0 = .ok (.aload_n 0, 1) := by decide +kernel
theorem d_T_begin_1 : decode b_T_begin 1 = .ok (.getfield 9, 3) := by decide +kernel
theorem d_T_begin_4 : decode b_T_begin 4 = .ok (.iconst 0, 1) := by decide +kernel
theorem d_T_begin_5 : decode b_T_begin 5 = .ok (.invokestatic 28, 3) := by decide +kernel
theorem d_T_begin_8 : decode b_T_begin 8 = .ok (.aload_n 0, 1) := by decide +kernel
theorem d_T_begin_9 : decode b_T_begin 9 = .ok (.iconst 1, 1) := by decide +kernel
theorem d_T_begin_10 : decode b_T_begin 10 = .ok (.putfield 21, 3) := by decide +kernel
theorem d_T_begin_13 : decode b_T_begin 13 = .ok (.aload_n 0, 1) := by decide +kernel
theorem d_T_begin_14 : decode b_T_begin 14 = .ok (.iconst 0, 1) := by decide +kernel
theorem d_T_begin_15 : decode b_T_begin 15 = .ok (.putfield 34, 3) := by decide +kernel
theorem d_T_begin_18 : decode b_T_begin 18 = .ok (.aload_n 0, 1) := by decide +kernel
theorem d_T_begin_19 : decode b_T_begin 19 = .ok (.iload_n 1, 1) := by decide +kernel
theorem d_T_begin_20 : decode b_T_begin 20 = .ok (.putfield 25, 3) := by decide +kernel
theorem d_T_begin_23 : decode b_T_begin 23 = .ok (.aload_n 0, 1) := by decide +kernel
theorem d_T_begin_24 : decode b_T_begin 24 = .ok (.iconst 0, 1) := by decide +kernel
theorem d_T_begin_25 : decode b_T_begin 25 = .ok (.putfield 37, 3) := by decide +kernel
theorem d_T_begin_28 : decode b_T_begin 28 = .ok (.aload_n 0, 1) := by decide +kernel
theorem d_T_begin_29 : decode b_T_begin 29 = .ok (.iconst 0, 1) := by decide +kernel
theorem d_T_begin_30 : decode b_T_begin 30 = .ok (.putfield 40, 3) := by decide +kernel
theorem d_T_begin_33 : decode b_T_begin 33 = .ok (.aload_n 0, 1) := by decide +kernel
theorem d_T_begin_34 : decode b_T_begin 34 = .ok (.iconst 0, 1) := by decide +kernel
theorem d_T_begin_35 : decode b_T_begin 35 = .ok (.putfield 43, 3) := by decide +kernel
theorem d_T_begin_38 : decode b_T_begin 38 = .ok (.aload_n 0, 1) := by decide +kernel
theorem d_T_begin_39 : decode b_T_begin 39 = .ok (.iconst 0, 1) := by decide +kernel
theorem d_T_begin_40 : decode b_T_begin 40 = .ok (.putfield 46, 3) := by decide +kernel
theorem d_T_begin_43 : decode b_T_begin 43 = .ok (.return_, 1) := by decide +kernel
theorem d_J_fill_0 : decode b_J_fill 0 = .ok (.iconst 0, 1) := by decide +kernel
theorem d_J_fill_1 : decode b_J_fill 1 = .ok (.istore_n 2, 1) := by decide +kernel
theorem d_J_fill_2 : decode b_J_fill 2 = .ok (.aload_n 0, 1) := by decide +kernel
theorem d_J_fill_3 : decode b_J_fill 3 = .ok (.arraylength, 1) := by decide +kernel
theorem d_J_fill_4 : decode b_J_fill 4 = .ok (.istore_n 3, 1) := by decide +kernel
theorem d_J_fill_5 : decode b_J_fill 5 = .ok (.iload_n 2, 1) := by decide +kernel
theorem d_J_fill_6 : decode b_J_fill 6 = .ok (.iload_n 3, 1) := by decide +kernel
theorem d_J_fill_7 : decode b_J_fill 7 = .ok (.if_icmp .ge 13, 3) := by decide +kernel
theorem d_J_fill_10 : decode b_J_fill 10 = .ok (.aload_n 0, 1) := by decide +kernel
theorem d_J_fill_11 : decode b_J_fill 11 = .ok (.iload_n 2, 1) := by decide +kernel
theorem d_J_fill_12 : decode b_J_fill 12 = .ok (.iload_n 1, 1) := by decide +kernel
theorem d_J_fill_13 : decode b_J_fill 13 = .ok (.iastore, 1) := by decide +kernel
theorem d_J_fill_14 : decode b_J_fill 14 = .ok (.iinc 2 1, 3) := by decide +kernel
theorem d_J_fill_17 : decode b_J_fill 17 = .ok (.goto (-12), 3) := by decide +kernel
theorem d_J_fill_20 : decode b_J_fill 20 = .ok (.return_, 1) := by decide +kernel
theorem d_K_poke_0 : decode b_K_poke 0 = .ok (.aload_n 0, 1) := by decide +kernel
theorem d_K_poke_1 : decode b_K_poke 1 = .ok (.iload_n 1, 1) := by decide +kernel
theorem d_K_poke_2 : decode b_K_poke 2 = .ok (.invokevirtual 39, 3) := by decide +kernel
theorem d_K_poke_5 : decode b_K_poke 5 = .ok (.ifCond .eq 10, 3) := by decide +kernel
theorem d_K_poke_8 : decode b_K_poke 8 = .ok (.iload_n 2, 1) := by decide +kernel
theorem d_K_poke_9 : decode b_K_poke 9 = .ok (.invokestatic 43, 3) := by decide +kernel
theorem d_K_poke_12 : decode b_K_poke 12 = .ok (.ifCond .ne 5, 3) := by decide +kernel
theorem d_K_poke_15 : decode b_K_poke 15 = .ok (.iconst (-1), 1) := by decide +kernel
theorem d_K_poke_16 : decode b_K_poke 16 = .ok (.ireturn, 1) := by decide +kernel
theorem d_K_poke_17 : decode b_K_poke 17 = .ok (.aload_n 0, 1) := by decide +kernel
theorem d_K_poke_18 : decode b_K_poke 18 = .ok (.getfield 18, 3) := by decide +kernel
theorem d_K_poke_21 : decode b_K_poke 21 = .ok (.getfield 46, 3) := by decide +kernel
theorem d_K_poke_24 : decode b_K_poke 24 = .ok (.istore 4, 2) := by decide +kernel
theorem d_K_poke_26 : decode b_K_poke 26 = .ok (.aload_n 0, 1) := by decide +kernel
theorem d_K_poke_27 : decode b_K_poke 27 = .ok (.getfield 18, 3) := by decide +kernel
theorem d_K_poke_30 : decode b_K_poke 30 = .ok (.aload_n 0, 1) := by decide +kernel
theorem d_K_poke_31 : decode b_K_poke 31 = .ok (.getfield 11, 3) := by decide +kernel
theorem d_K_poke_34 : decode b_K_poke 34 = .ok (.iload_n 1, 1) := by decide +kernel
theorem d_K_poke_35 : decode b_K_poke 35 = .ok (.aaload, 1) := by decide +kernel
theorem d_K_poke_36 : decode b_K_poke 36 = .ok (.iload_n 2, 1) := by decide +kernel
theorem d_K_poke_37 : decode b_K_poke 37 = .ok (.iload_n 3, 1) := by decide +kernel
theorem d_K_poke_38 : decode b_K_poke 38 = .ok (.invokevirtual 49, 3) := by decide +kernel
theorem d_K_poke_41 : decode b_K_poke 41 = .ok (.aload_n 0, 1) := by decide +kernel
theorem d_K_poke_42 : decode b_K_poke 42 = .ok (.getfield 18, 3) := by decide +kernel
theorem d_K_poke_45 : decode b_K_poke 45 = .ok (.getfield 46, 3) := by decide +kernel
theorem d_K_poke_48 : decode b_K_poke 48 = .ok (.iload 4, 2) := by decide +kernel
theorem d_K_poke_50 : decode b_K_poke 50 = .ok (.isub, 1) := by decide +kernel
theorem d_K_poke_51 : decode b_K_poke 51 = .ok (.ireturn, 1) := by decide +kernel
theorem d_K_lives_0 : decode b_K_lives 0 = .ok (.aload_n 0, 1) := by decide +kernel
theorem d_K_lives_1 : decode b_K_lives 1 = .ok (.iload_n 1, 1) := by decide +kernel
theorem d_K_lives_2 : decode b_K_lives 2 = .ok (.invokevirtual 95, 3) := by decide +kernel
theorem d_K_lives_5 : decode b_K_lives 5 = .ok (.ifCond .eq 20, 3) := by decide +kernel
theorem d_K_lives_8 : decode b_K_lives 8 = .ok (.aload_n 0, 1) := by decide +kernel
theorem d_K_lives_9 : decode b_K_lives 9 = .ok (.getfield 11, 3) := by decide +kernel
theorem d_K_lives_12 : decode b_K_lives 12 = .ok (.iload_n 1, 1) := by decide +kernel
theorem d_K_lives_13 : decode b_K_lives 13 = .ok (.aaload, 1) := by decide +kernel
theorem d_K_lives_14 : decode b_K_lives 14 = .ok (.getfield 85, 3) := by decide +kernel
theorem d_K_lives_17 : decode b_K_lives 17 = .ok (.iconst 4, 1) := by decide +kernel
theorem d_K_lives_18 : decode b_K_lives 18 = .ok (.if_icmp .eq 7, 3) := by decide +kernel
theorem d_K_lives_21 : decode b_K_lives 21 = .ok (.iconst 1, 1) := by decide +kernel
theorem d_K_lives_22 : decode b_K_lives 22 = .ok (.goto 4, 3) := by decide +kernel
theorem d_K_lives_25 : decode b_K_lives 25 = .ok (.iconst 0, 1) := by decide +kernel
theorem d_K_lives_26 : decode b_K_lives 26 = .ok (.ireturn, 1) := by decide +kernel
theorem d_K_isThere_0 : decode b_K_isThere 0 = .ok (.iload_n 1, 1) := by decide +kernel
theorem d_K_isThere_1 : decode b_K_isThere 1 = .ok (.invokestatic 82, 3) := by decide +kernel
theorem d_K_isThere_4 : decode b_K_isThere 4 = .ok (.ifCond .eq 19, 3) := by decide +kernel
theorem d_K_isThere_7 : decode b_K_isThere 7 = .ok (.aload_n 0, 1) := by decide +kernel
theorem d_K_isThere_8 : decode b_K_isThere 8 = .ok (.getfield 11, 3) := by decide +kernel
theorem d_K_isThere_11 : decode b_K_isThere 11 = .ok (.iload_n 1, 1) := by decide +kernel
theorem d_K_isThere_12 : decode b_K_isThere 12 = .ok (.aaload, 1) := by decide +kernel
theorem d_K_isThere_13 : decode b_K_isThere 13 = .ok (.getfield 85, 3) := by decide +kernel
theorem d_K_isThere_16 : decode b_K_isThere 16 = .ok (.ifCond .eq 7, 3) := by decide +kernel
theorem d_K_isThere_19 : decode b_K_isThere 19 = .ok (.iconst 1, 1) := by decide +kernel
theorem d_K_isThere_20 : decode b_K_isThere 20 = .ok (.goto 4, 3) := by decide +kernel
theorem d_K_isThere_23 : decode b_K_isThere 23 = .ok (.iconst 0, 1) := by decide +kernel
theorem d_K_isThere_24 : decode b_K_isThere 24 = .ok (.ireturn, 1) := by decide +kernel
theorem d_K_isTask_0 : decode b_K_isTask 0 = .ok (.iload_n 0, 1) := by decide +kernel
theorem d_K_isTask_1 : decode b_K_isTask 1 = .ok (.ifCond .lt 12, 3) := by decide +kernel
theorem d_K_isTask_4 : decode b_K_isTask 4 = .ok (.iload_n 0, 1) := by decide +kernel
theorem d_K_isTask_5 : decode b_K_isTask 5 = .ok (.iconst 4, 1) := by decide +kernel
theorem d_K_isTask_6 : decode b_K_isTask 6 = .ok (.if_icmp .ge 7, 3) := by decide +kernel
theorem d_K_isTask_9 : decode b_K_isTask 9 = .ok (.iconst 1, 1) := by decide +kernel
theorem d_K_isTask_10 : decode b_K_isTask 10 = .ok (.goto 4, 3) := by decide +kernel
theorem d_K_isTask_13 : decode b_K_isTask 13 = .ok (.iconst 0, 1) := by decide +kernel
theorem d_K_isTask_14 : decode b_K_isTask 14 = .ok (.ireturn, 1) := by decide +kernel
theorem d_K_isAddress_0 : decode b_K_isAddress 0 = .ok (.iload_n 0, 1) := by decide +kernel
theorem d_K_isAddress_1 : decode b_K_isAddress 1 = .ok (.ifCond .lt 13, 3) := by decide +kernel
theorem d_K_isAddress_4 : decode b_K_isAddress 4 = .ok (.iload_n 0, 1) := by decide +kernel
theorem d_K_isAddress_5 : decode b_K_isAddress 5 = .ok (.bipush 64, 2) := by decide +kernel
theorem d_K_isAddress_7 : decode b_K_isAddress 7 = .ok (.if_icmp .ge 7, 3) := by decide +kernel
theorem d_K_isAddress_10 : decode b_K_isAddress 10 = .ok (.iconst 1, 1) := by decide +kernel
theorem d_K_isAddress_11 : decode b_K_isAddress 11 = .ok (.goto 4, 3) := by decide +kernel
theorem d_K_isAddress_14 : decode b_K_isAddress 14 = .ok (.iconst 0, 1) := by decide +kernel
theorem d_K_isAddress_15 : decode b_K_isAddress 15 = .ok (.ireturn, 1) := by decide +kernel
theorem d_M_write_0 : decode b_M_write 0 = .ok (.aload_n 0, 1) := by decide +kernel
theorem d_M_write_1 : decode b_M_write 1 = .ok (.aload_n 1, 1) := by decide +kernel
theorem d_M_write_2 : decode b_M_write 2 = .ok (.iload_n 2, 1) := by decide +kernel
theorem d_M_write_3 : decode b_M_write 3 = .ok (.bipush 8, 2) := by decide +kernel
theorem d_M_write_5 : decode b_M_write 5 = .ok (.idiv, 1) := by decide +kernel
theorem d_M_write_6 : decode b_M_write 6 = .ok (.iconst 1, 1) := by decide +kernel
theorem d_M_write_7 : decode b_M_write 7 = .ok (.invokevirtual 24, 3) := by decide +kernel
theorem d_M_write_10 : decode b_M_write 10 = .ok (.getfield 28, 3) := by decide +kernel
theorem d_M_write_13 : decode b_M_write 13 = .ok (.iload_n 2, 1) := by decide +kernel
theorem d_M_write_14 : decode b_M_write 14 = .ok (.bipush 8, 2) := by decide +kernel
theorem d_M_write_16 : decode b_M_write 16 = .ok (.irem, 1) := by decide +kernel
theorem d_M_write_17 : decode b_M_write 17 = .ok (.iload_n 3, 1) := by decide +kernel
theorem d_M_write_18 : decode b_M_write 18 = .ok (.iastore, 1) := by decide +kernel
theorem d_M_write_19 : decode b_M_write 19 = .ok (.return_, 1) := by decide +kernel
theorem d_M_reach_0 : decode b_M_reach 0 = .ok (.aload_n 1, 1) := by decide +kernel
theorem d_M_reach_1 : decode b_M_reach 1 = .ok (.getfield 32, 3) := by decide +kernel
theorem d_M_reach_4 : decode b_M_reach 4 = .ok (.iload_n 2, 1) := by decide +kernel
theorem d_M_reach_5 : decode b_M_reach 5 = .ok (.aaload, 1) := by decide +kernel
theorem d_M_reach_6 : decode b_M_reach 6 = .ok (.ifnonnull 13, 3) := by decide +kernel
theorem d_M_reach_9 : decode b_M_reach 9 = .ok (.aload_n 1, 1) := by decide +kernel
theorem d_M_reach_10 : decode b_M_reach 10 = .ok (.getfield 32, 3) := by decide +kernel
theorem d_M_reach_13 : decode b_M_reach 13 = .ok (.iload_n 2, 1) := by decide +kernel
theorem d_M_reach_14 : decode b_M_reach 14 = .ok (.aload_n 0, 1) := by decide +kernel
theorem d_M_reach_15 : decode b_M_reach 15 = .ok (.invokevirtual 37, 3) := by decide +kernel
theorem d_M_reach_18 : decode b_M_reach 18 = .ok (.aastore, 1) := by decide +kernel
theorem d_M_reach_19 : decode b_M_reach 19 = .ok (.aload_n 1, 1) := by decide +kernel
theorem d_M_reach_20 : decode b_M_reach 20 = .ok (.getfield 32, 3) := by decide +kernel
theorem d_M_reach_23 : decode b_M_reach 23 = .ok (.iload_n 2, 1) := by decide +kernel
theorem d_M_reach_24 : decode b_M_reach 24 = .ok (.aaload, 1) := by decide +kernel
theorem d_M_reach_25 : decode b_M_reach 25 = .ok (.astore 4, 2) := by decide +kernel
theorem d_M_reach_27 : decode b_M_reach 27 = .ok (.aload 4, 2) := by decide +kernel
theorem d_M_reach_29 : decode b_M_reach 29 = .ok (.getfield 41, 3) := by decide +kernel
theorem d_M_reach_32 : decode b_M_reach 32 = .ok (.bipush (-2), 2) := by decide +kernel
theorem d_M_reach_34 : decode b_M_reach 34 = .ok (.if_icmp .ne 49, 3) := by decide +kernel
theorem d_M_reach_37 : decode b_M_reach 37 = .ok (.aload_n 1, 1) := by decide +kernel
theorem d_M_reach_38 : decode b_M_reach 38 = .ok (.dup, 1) := by decide +kernel
theorem d_M_reach_39 : decode b_M_reach 39 = .ok (.getfield 45, 3) := by decide +kernel
theorem d_M_reach_42 : decode b_M_reach 42 = .ok (.iconst 1, 1) := by decide +kernel
theorem d_M_reach_43 : decode b_M_reach 43 = .ok (.iadd, 1) := by decide +kernel
theorem d_M_reach_44 : decode b_M_reach 44 = .ok (.putfield 45, 3) := by decide +kernel
theorem d_M_reach_47 : decode b_M_reach 47 = .ok (.aload_n 0, 1) := by decide +kernel
theorem d_M_reach_48 : decode b_M_reach 48 = .ok (.dup, 1) := by decide +kernel
theorem d_M_reach_49 : decode b_M_reach 49 = .ok (.getfield 48, 3) := by decide +kernel
theorem d_M_reach_52 : decode b_M_reach 52 = .ok (.iconst 1, 1) := by decide +kernel
theorem d_M_reach_53 : decode b_M_reach 53 = .ok (.iadd, 1) := by decide +kernel
theorem d_M_reach_54 : decode b_M_reach 54 = .ok (.putfield 48, 3) := by decide +kernel
theorem d_M_reach_57 : decode b_M_reach 57 = .ok (.aload 4, 2) := by decide +kernel
theorem d_M_reach_59 : decode b_M_reach 59 = .ok (.getfield 49, 3) := by decide +kernel
theorem d_M_reach_62 : decode b_M_reach 62 = .ok (.bipush (-2), 2) := by decide +kernel
theorem d_M_reach_64 : decode b_M_reach 64 = .ok (.if_icmp .eq 13, 3) := by decide +kernel
theorem d_M_reach_67 : decode b_M_reach 67 = .ok (.aload_n 0, 1) := by decide +kernel
theorem d_M_reach_68 : decode b_M_reach 68 = .ok (.dup, 1) := by decide +kernel
theorem d_M_reach_69 : decode b_M_reach 69 = .ok (.getfield 52, 3) := by decide +kernel
theorem d_M_reach_72 : decode b_M_reach 72 = .ok (.iconst 1, 1) := by decide +kernel
theorem d_M_reach_73 : decode b_M_reach 73 = .ok (.iadd, 1) := by decide +kernel
theorem d_M_reach_74 : decode b_M_reach 74 = .ok (.putfield 52, 3) := by decide +kernel
theorem d_M_reach_77 : decode b_M_reach 77 = .ok (.aload_n 0, 1) := by decide +kernel
theorem d_M_reach_78 : decode b_M_reach 78 = .ok (.aload 4, 2) := by decide +kernel
theorem d_M_reach_80 : decode b_M_reach 80 = .ok (.invokevirtual 55, 3) := by decide +kernel
theorem d_M_reach_83 : decode b_M_reach 83 = .ok (.iload_n 3, 1) := by decide +kernel
theorem d_M_reach_84 : decode b_M_reach 84 = .ok (.ifCond .eq 34, 3) := by decide +kernel
theorem d_M_reach_87 : decode b_M_reach 87 = .ok (.aload 4, 2) := by decide +kernel
theorem d_M_reach_89 : decode b_M_reach 89 = .ok (.getfield 59, 3) := by decide +kernel
theorem d_M_reach_92 : decode b_M_reach 92 = .ok (.iconst 1, 1) := by decide +kernel
theorem d_M_reach_93 : decode b_M_reach 93 = .ok (.if_icmp .le 25, 3) := by decide +kernel
theorem d_M_reach_96 : decode b_M_reach 96 = .ok (.aload_n 0, 1) := by decide +kernel
theorem d_M_reach_97 : decode b_M_reach 97 = .ok (.aload 4, 2) := by decide +kernel
theorem d_M_reach_99 : decode b_M_reach 99 = .ok (.invokevirtual 62, 3) := by decide +kernel
theorem d_M_reach_102 : decode b_M_reach 102 = .ok (.astore 4, 2) := by decide +kernel
theorem d_M_reach_104 : decode b_M_reach 104 = .ok (.aload_n 1, 1) := by decide +kernel
theorem d_M_reach_105 : decode b_M_reach 105 = .ok (.getfield 32, 3) := by decide +kernel
theorem d_M_reach_108 : decode b_M_reach 108 = .ok (.iload_n 2, 1) := by decide +kernel
theorem d_M_reach_109 : decode b_M_reach 109 = .ok (.aload 4, 2) := by decide +kernel
theorem d_M_reach_111 : decode b_M_reach 111 = .ok (.aastore, 1) := by decide +kernel
theorem d_M_reach_112 : decode b_M_reach 112 = .ok (.aload_n 0, 1) := by decide +kernel
theorem d_M_reach_113 : decode b_M_reach 113 = .ok (.aload 4, 2) := by decide +kernel
theorem d_M_reach_115 : decode b_M_reach 115 = .ok (.invokevirtual 55, 3) := by decide +kernel
theorem d_M_reach_118 : decode b_M_reach 118 = .ok (.aload 4, 2) := by decide +kernel
theorem d_M_reach_120 : decode b_M_reach 120 = .ok (.iconst 1, 1) := by decide +kernel
theorem d_M_reach_121 : decode b_M_reach 121 = .ok (.putfield 66, 3) := by decide +kernel
theorem d_M_reach_124 : decode b_M_reach 124 = .ok (.iload_n 3, 1) := by decide +kernel
theorem d_M_reach_125 : decode b_M_reach 125 = .ok (.ifCond .eq 9, 3) := by decide +kernel
theorem d_M_reach_128 : decode b_M_reach 128 = .ok (.aload 4, 2) := by decide +kernel
theorem d_M_reach_130 : decode b_M_reach 130 = .ok (.iconst 1, 1) := by decide +kernel
theorem d_M_reach_131 : decode b_M_reach 131 = .ok (.putfield 70, 3) := by decide +kernel
theorem d_M_reach_134 : decode b_M_reach 134 = .ok (.aload 4, 2) := by decide +kernel
theorem d_M_reach_136 : decode b_M_reach 136 = .ok (.areturn, 1) := by decide +kernel
theorem d_M_newSheet_0 : decode b_M_newSheet 0 = .ok (.iconst 0, 1) := by decide +kernel
theorem d_M_newSheet_1 : decode b_M_newSheet 1 = .ok (.istore_n 1, 1) := by decide +kernel
theorem d_M_newSheet_2 : decode b_M_newSheet 2 = .ok (.iload_n 1, 1) := by decide +kernel
theorem d_M_newSheet_3 : decode b_M_newSheet 3 = .ok (.bipush 31, 2) := by decide +kernel
theorem d_M_newSheet_5 : decode b_M_newSheet 5 = .ok (.if_icmp .ge 21, 3) := by decide +kernel
theorem d_M_newSheet_8 : decode b_M_newSheet 8 = .ok (.aload_n 0, 1) := by decide +kernel
theorem d_M_newSheet_9 : decode b_M_newSheet 9 = .ok (.getfield 11, 3) := by decide +kernel
theorem d_M_newSheet_12 : decode b_M_newSheet 12 = .ok (.iload_n 1, 1) := by decide +kernel
theorem d_M_newSheet_13 : decode b_M_newSheet 13 = .ok (.aaload, 1) := by decide +kernel
theorem d_M_newSheet_14 : decode b_M_newSheet 14 = .ok (.getfield 59, 3) := by decide +kernel
theorem d_M_newSheet_17 : decode b_M_newSheet 17 = .ok (.ifCond .le 9, 3) := by decide +kernel
theorem d_M_newSheet_20 : decode b_M_newSheet 20 = .ok (.iinc 1 1, 3) := by decide +kernel
theorem d_M_newSheet_23 : decode b_M_newSheet 23 = .ok (.goto (-21), 3) := by decide +kernel
theorem d_M_newSheet_26 : decode b_M_newSheet 26 = .ok (.aload_n 0, 1) := by decide +kernel
theorem d_M_newSheet_27 : decode b_M_newSheet 27 = .ok (.getfield 11, 3) := by decide +kernel
theorem d_M_newSheet_30 : decode b_M_newSheet 30 = .ok (.iload_n 1, 1) := by decide +kernel
theorem d_M_newSheet_31 : decode b_M_newSheet 31 = .ok (.aaload, 1) := by decide +kernel
theorem d_M_newSheet_32 : decode b_M_newSheet 32 = .ok (.astore_n 2, 1) := by decide +kernel
theorem d_M_newSheet_33 : decode b_M_newSheet 33 = .ok (.aload_n 2, 1) := by decide +kernel
theorem d_M_newSheet_34 : decode b_M_newSheet 34 = .ok (.getfield 28, 3) := by decide +kernel
theorem d_M_newSheet_37 : decode b_M_newSheet 37 = .ok (.iconst 0, 1) := by decide +kernel
theorem d_M_newSheet_38 : decode b_M_newSheet 38 = .ok (.invokestatic 73, 3) := by decide +kernel
theorem d_M_newSheet_41 : decode b_M_newSheet 41 = .ok (.aload_n 2, 1) := by decide +kernel
theorem d_M_newSheet_42 : decode b_M_newSheet 42 = .ok (.iconst 1, 1) := by decide +kernel
theorem d_M_newSheet_43 : decode b_M_newSheet 43 = .ok (.putfield 59, 3) := by decide +kernel
theorem d_M_newSheet_46 : decode b_M_newSheet 46 = .ok (.aload_n 2, 1) := by decide +kernel
theorem d_M_newSheet_47 : decode b_M_newSheet 47 = .ok (.areturn, 1) := by decide +kernel
theorem d_M_layInFrame_0 : decode b_M_layInFrame 0 = .ok (.aload_n 0, 1) := by decide +kernel
theorem d_M_layInFrame_1 : decode b_M_layInFrame 1 = .ok (.invokevirtual 88, 3) := by decide +kernel
theorem d_M_layInFrame_4 : decode b_M_layInFrame 4 = .ok (.istore_n 2, 1) := by decide +kernel
theorem d_M_layInFrame_5 : decode b_M_layInFrame 5 = .ok (.aload_n 0, 1) := by decide +kernel
theorem d_M_layInFrame_6 : decode b_M_layInFrame 6 = .ok (.getfield 17, 3) := by decide +kernel
theorem d_M_layInFrame_9 : decode b_M_layInFrame 9 = .ok (.iload_n 2, 1) := by decide +kernel
theorem d_M_layInFrame_10 : decode b_M_layInFrame 10 = .ok (.aaload, 1) := by decide +kernel
theorem d_M_layInFrame_11 : decode b_M_layInFrame 11 = .ok (.ifnull 13, 3) := by decide +kernel
theorem d_M_layInFrame_14 : decode b_M_layInFrame 14 = .ok (.aload_n 0, 1) := by decide +kernel
theorem d_M_layInFrame_15 : decode b_M_layInFrame 15 = .ok (.aload_n 0, 1) := by decide +kernel
theorem d_M_layInFrame_16 : decode b_M_layInFrame 16 = .ok (.getfield 17, 3) := by decide +kernel
theorem d_M_layInFrame_19 : decode b_M_layInFrame 19 = .ok (.iload_n 2, 1) := by decide +kernel
theorem d_M_layInFrame_20 : decode b_M_layInFrame 20 = .ok (.aaload, 1) := by decide +kernel
theorem d_M_layInFrame_21 : decode b_M_layInFrame 21 = .ok (.invokevirtual 92, 3) := by decide +kernel
theorem d_M_layInFrame_24 : decode b_M_layInFrame 24 = .ok (.aload_n 0, 1) := by decide +kernel
theorem d_M_layInFrame_25 : decode b_M_layInFrame 25 = .ok (.getfield 17, 3) := by decide +kernel
theorem d_M_layInFrame_28 : decode b_M_layInFrame 28 = .ok (.iload_n 2, 1) := by decide +kernel
theorem d_M_layInFrame_29 : decode b_M_layInFrame 29 = .ok (.aload_n 1, 1) := by decide +kernel
theorem d_M_layInFrame_30 : decode b_M_layInFrame 30 = .ok (.aastore, 1) := by decide +kernel
theorem d_M_layInFrame_31 : decode b_M_layInFrame 31 = .ok (.aload_n 1, 1) := by decide +kernel
theorem d_M_layInFrame_32 : decode b_M_layInFrame 32 = .ok (.iload_n 2, 1) := by decide +kernel
theorem d_M_layInFrame_33 : decode b_M_layInFrame 33 = .ok (.putfield 41, 3) := by decide +kernel
theorem d_M_layInFrame_36 : decode b_M_layInFrame 36 = .ok (.return_, 1) := by decide +kernel
theorem d_M_chooseFrame_0 : decode b_M_chooseFrame 0 = .ok (.iconst 0, 1) := by decide +kernel
theorem d_M_chooseFrame_1 : decode b_M_chooseFrame 1 = .ok (.istore_n 1, 1) := by decide +kernel
theorem d_M_chooseFrame_2 : decode b_M_chooseFrame 2 = .ok (.iload_n 1, 1) := by decide +kernel
theorem d_M_chooseFrame_3 : decode b_M_chooseFrame 3 = .ok (.bipush 6, 2) := by decide +kernel
theorem d_M_chooseFrame_5 : decode b_M_chooseFrame 5 = .ok (.if_icmp .ge 20, 3) := by decide +kernel
theorem d_M_chooseFrame_8 : decode b_M_chooseFrame 8 = .ok (.aload_n 0, 1) := by decide +kernel
theorem d_M_chooseFrame_9 : decode b_M_chooseFrame 9 = .ok (.getfield 17, 3) := by decide +kernel
theorem d_M_chooseFrame_12 : decode b_M_chooseFrame 12 = .ok (.iload_n 1, 1) := by decide +kernel
theorem d_M_chooseFrame_13 : decode b_M_chooseFrame 13 = .ok (.aaload, 1) := by decide +kernel
theorem d_M_chooseFrame_14 : decode b_M_chooseFrame 14 = .ok (.ifnonnull 5, 3) := by decide +kernel
theorem d_M_chooseFrame_17 : decode b_M_chooseFrame 17 = .ok (.iload_n 1, 1) := by decide +kernel
theorem d_M_chooseFrame_18 : decode b_M_chooseFrame 18 = .ok (.ireturn, 1) := by decide +kernel
theorem d_M_chooseFrame_19 : decode b_M_chooseFrame 19 = .ok (.iinc 1 1, 3) := by decide +kernel
theorem d_M_chooseFrame_22 : decode b_M_chooseFrame 22 = .ok (.goto (-20), 3) := by decide +kernel
theorem d_M_chooseFrame_25 : decode b_M_chooseFrame 25 = .ok (.iconst 0, 1) := by decide +kernel
theorem d_M_chooseFrame_26 : decode b_M_chooseFrame 26 = .ok (.istore_n 1, 1) := by decide +kernel
theorem d_M_chooseFrame_27 : decode b_M_chooseFrame 27 = .ok (.iload_n 1, 1) := by decide +kernel
theorem d_M_chooseFrame_28 : decode b_M_chooseFrame 28 = .ok (.bipush 6, 2) := by decide +kernel
theorem d_M_chooseFrame_30 : decode b_M_chooseFrame 30 = .ok (.if_icmp .ge 50, 3) := by decide +kernel
theorem d_M_chooseFrame_33 : decode b_M_chooseFrame 33 = .ok (.aload_n 0, 1) := by decide +kernel
theorem d_M_chooseFrame_34 : decode b_M_chooseFrame 34 = .ok (.getfield 17, 3) := by decide +kernel
theorem d_M_chooseFrame_37 : decode b_M_chooseFrame 37 = .ok (.aload_n 0, 1) := by decide +kernel
theorem d_M_chooseFrame_38 : decode b_M_chooseFrame 38 = .ok (.getfield 95, 3) := by decide +kernel
theorem d_M_chooseFrame_41 : decode b_M_chooseFrame 41 = .ok (.aaload, 1) := by decide +kernel
theorem d_M_chooseFrame_42 : decode b_M_chooseFrame 42 = .ok (.getfield 66, 3) := by decide +kernel
theorem d_M_chooseFrame_45 : decode b_M_chooseFrame 45 = .ok (.ifCond .eq 35, 3) := by decide +kernel
theorem d_M_chooseFrame_48 : decode b_M_chooseFrame 48 = .ok (.aload_n 0, 1) := by decide +kernel
theorem d_M_chooseFrame_49 : decode b_M_chooseFrame 49 = .ok (.getfield 17, 3) := by decide +kernel
theorem d_M_chooseFrame_52 : decode b_M_chooseFrame 52 = .ok (.aload_n 0, 1) := by decide +kernel
theorem d_M_chooseFrame_53 : decode b_M_chooseFrame 53 = .ok (.getfield 95, 3) := by decide +kernel
theorem d_M_chooseFrame_56 : decode b_M_chooseFrame 56 = .ok (.aaload, 1) := by decide +kernel
theorem d_M_chooseFrame_57 : decode b_M_chooseFrame 57 = .ok (.iconst 0, 1) := by decide +kernel
theorem d_M_chooseFrame_58 : decode b_M_chooseFrame 58 = .ok (.putfield 66, 3) := by decide +kernel
theorem d_M_chooseFrame_61 : decode b_M_chooseFrame 61 = .ok (.aload_n 0, 1) := by decide +kernel
theorem d_M_chooseFrame_62 : decode b_M_chooseFrame 62 = .ok (.aload_n 0, 1) := by decide +kernel
theorem d_M_chooseFrame_63 : decode b_M_chooseFrame 63 = .ok (.getfield 95, 3) := by decide +kernel
theorem d_M_chooseFrame_66 : decode b_M_chooseFrame 66 = .ok (.iconst 1, 1) := by decide +kernel
theorem d_M_chooseFrame_67 : decode b_M_chooseFrame 67 = .ok (.iadd, 1) := by decide +kernel
theorem d_M_chooseFrame_68 : decode b_M_chooseFrame 68 = .ok (.bipush 6, 2) := by decide +kernel
theorem d_M_chooseFrame_70 : decode b_M_chooseFrame 70 = .ok (.irem, 1) := by decide +kernel
theorem d_M_chooseFrame_71 : decode b_M_chooseFrame 71 = .ok (.putfield 95, 3) := by decide +kernel
theorem d_M_chooseFrame_74 : decode b_M_chooseFrame 74 = .ok (.iinc 1 1, 3) := by decide +kernel
theorem d_M_chooseFrame_77 : decode b_M_chooseFrame 77 = .ok (.goto (-50), 3) := by decide +kernel
theorem d_M_chooseFrame_80 : decode b_M_chooseFrame 80 = .ok (.aload_n 0, 1) := by decide +kernel
theorem d_M_chooseFrame_81 : decode b_M_chooseFrame 81 = .ok (.getfield 95, 3) := by decide +kernel
theorem d_M_chooseFrame_84 : decode b_M_chooseFrame 84 = .ok (.istore_n 1, 1) := by decide +kernel
theorem d_M_chooseFrame_85 : decode b_M_chooseFrame 85 = .ok (.aload_n 0, 1) := by decide +kernel
theorem d_M_chooseFrame_86 : decode b_M_chooseFrame 86 = .ok (.aload_n 0, 1) := by decide +kernel
theorem d_M_chooseFrame_87 : decode b_M_chooseFrame 87 = .ok (.getfield 95, 3) := by decide +kernel
theorem d_M_chooseFrame_90 : decode b_M_chooseFrame 90 = .ok (.iconst 1, 1) := by decide +kernel
theorem d_M_chooseFrame_91 : decode b_M_chooseFrame 91 = .ok (.iadd, 1) := by decide +kernel
theorem d_M_chooseFrame_92 : decode b_M_chooseFrame 92 = .ok (.bipush 6, 2) := by decide +kernel
theorem d_M_chooseFrame_94 : decode b_M_chooseFrame 94 = .ok (.irem, 1) := by decide +kernel
theorem d_M_chooseFrame_95 : decode b_M_chooseFrame 95 = .ok (.putfield 95, 3) := by decide +kernel
theorem d_M_chooseFrame_98 : decode b_M_chooseFrame 98 = .ok (.iload_n 1, 1) := by decide +kernel
theorem d_M_chooseFrame_99 : decode b_M_chooseFrame 99 = .ok (.ireturn, 1) := by decide +kernel
theorem d_M_goOut_0 : decode b_M_goOut 0 = .ok (.aload_n 1, 1) := by decide +kernel
theorem d_M_goOut_1 : decode b_M_goOut 1 = .ok (.getfield 70, 3) := by decide +kernel
theorem d_M_goOut_4 : decode b_M_goOut 4 = .ok (.ifCond .eq 45, 3) := by decide +kernel
theorem d_M_goOut_7 : decode b_M_goOut 7 = .ok (.aload_n 1, 1) := by decide +kernel
theorem d_M_goOut_8 : decode b_M_goOut 8 = .ok (.getfield 49, 3) := by decide +kernel
theorem d_M_goOut_11 : decode b_M_goOut 11 = .ok (.bipush (-2), 2) := by decide +kernel
theorem d_M_goOut_13 : decode b_M_goOut 13 = .ok (.if_icmp .ne 21, 3) := by decide +kernel
theorem d_M_goOut_16 : decode b_M_goOut 16 = .ok (.aload_n 1, 1) := by decide +kernel
theorem d_M_goOut_17 : decode b_M_goOut 17 = .ok (.aload_n 0, 1) := by decide +kernel
theorem d_M_goOut_18 : decode b_M_goOut 18 = .ok (.invokevirtual 98, 3) := by decide +kernel
theorem d_M_goOut_21 : decode b_M_goOut 21 = .ok (.putfield 49, 3) := by decide +kernel
theorem d_M_goOut_24 : decode b_M_goOut 24 = .ok (.aload_n 0, 1) := by decide +kernel
theorem d_M_goOut_25 : decode b_M_goOut 25 = .ok (.getfield 20, 3) := by decide +kernel
theorem d_M_goOut_28 : decode b_M_goOut 28 = .ok (.aload_n 1, 1) := by decide +kernel
theorem d_M_goOut_29 : decode b_M_goOut 29 = .ok (.getfield 49, 3) := by decide +kernel
theorem d_M_goOut_32 : decode b_M_goOut 32 = .ok (.aload_n 1, 1) := by decide +kernel
theorem d_M_goOut_33 : decode b_M_goOut 33 = .ok (.aastore, 1) := by decide +kernel
theorem d_M_goOut_34 : decode b_M_goOut 34 = .ok (.aload_n 0, 1) := by decide +kernel
theorem d_M_goOut_35 : decode b_M_goOut 35 = .ok (.dup, 1) := by decide +kernel
theorem d_M_goOut_36 : decode b_M_goOut 36 = .ok (.getfield 101, 3) := by decide +kernel
theorem d_M_goOut_39 : decode b_M_goOut 39 = .ok (.iconst 1, 1) := by decide +kernel
theorem d_M_goOut_40 : decode b_M_goOut 40 = .ok (.iadd, 1) := by decide +kernel
theorem d_M_goOut_41 : decode b_M_goOut 41 = .ok (.putfield 101, 3) := by decide +kernel
theorem d_M_goOut_44 : decode b_M_goOut 44 = .ok (.aload_n 1, 1) := by decide +kernel
theorem d_M_goOut_45 : decode b_M_goOut 45 = .ok (.iconst 0, 1) := by decide +kernel
theorem d_M_goOut_46 : decode b_M_goOut 46 = .ok (.putfield 70, 3) := by decide +kernel
theorem d_M_goOut_49 : decode b_M_goOut 49 = .ok (.aload_n 0, 1) := by decide +kernel
theorem d_M_goOut_50 : decode b_M_goOut 50 = .ok (.getfield 17, 3) := by decide +kernel
theorem d_M_goOut_53 : decode b_M_goOut 53 = .ok (.aload_n 1, 1) := by decide +kernel
theorem d_M_goOut_54 : decode b_M_goOut 54 = .ok (.getfield 41, 3) := by decide +kernel
theorem d_M_goOut_57 : decode b_M_goOut 57 = .ok (.aconst_null, 1) := by decide +kernel
theorem d_M_goOut_58 : decode b_M_goOut 58 = .ok (.aastore, 1) := by decide +kernel
theorem d_M_goOut_59 : decode b_M_goOut 59 = .ok (.aload_n 1, 1) := by decide +kernel
theorem d_M_goOut_60 : decode b_M_goOut 60 = .ok (.bipush (-2), 2) := by decide +kernel
theorem d_M_goOut_62 : decode b_M_goOut 62 = .ok (.putfield 41, 3) := by decide +kernel
theorem d_M_goOut_65 : decode b_M_goOut 65 = .ok (.return_, 1) := by decide +kernel
theorem d_M_leastFreeSlot_0 : decode b_M_leastFreeSlot 0 = .ok (.iconst 0, 1) := by decide +kernel
theorem d_M_leastFreeSlot_1 : decode b_M_leastFreeSlot 1 = .ok (.istore_n 1, 1) := by decide +kernel
theorem d_M_leastFreeSlot_2 : decode b_M_leastFreeSlot 2 = .ok (.iload_n 1, 1) := by decide +kernel
theorem d_M_leastFreeSlot_3 : decode b_M_leastFreeSlot 3 = .ok (.bipush 31, 2) := by decide +kernel
theorem d_M_leastFreeSlot_5 : decode b_M_leastFreeSlot 5 = .ok (.if_icmp .ge 18, 3) := by decide +kernel
theorem d_M_leastFreeSlot_8 : decode b_M_leastFreeSlot 8 = .ok (.aload_n 0, 1) := by decide +kernel
theorem d_M_leastFreeSlot_9 : decode b_M_leastFreeSlot 9 = .ok (.getfield 20, 3) := by decide +kernel
theorem d_M_leastFreeSlot_12 : decode b_M_leastFreeSlot 12 = .ok (.iload_n 1, 1) := by decide +kernel
theorem d_M_leastFreeSlot_13 : decode b_M_leastFreeSlot 13 = .ok (.aaload, 1) := by decide +kernel
theorem d_M_leastFreeSlot_14 : decode b_M_leastFreeSlot 14 = .ok (.ifnull 9, 3) := by decide +kernel
theorem d_M_leastFreeSlot_17 : decode b_M_leastFreeSlot 17 = .ok (.iinc 1 1, 3) := by decide +kernel
theorem d_M_leastFreeSlot_20 : decode b_M_leastFreeSlot 20 = .ok (.goto (-18), 3) := by decide +kernel
theorem d_M_leastFreeSlot_23 : decode b_M_leastFreeSlot 23 = .ok (.iload_n 1, 1) := by decide +kernel
theorem d_M_leastFreeSlot_24 : decode b_M_leastFreeSlot 24 = .ok (.ireturn, 1) := by decide +kernel
theorem d_M_copyOf_0 : decode b_M_copyOf 0 = .ok (.aload_n 0, 1) := by decide +kernel
theorem d_M_copyOf_1 : decode b_M_copyOf 1 = .ok (.invokevirtual 37, 3) := by decide +kernel
theorem d_M_copyOf_4 : decode b_M_copyOf 4 = .ok (.astore_n 2, 1) := by decide +kernel
theorem d_M_copyOf_5 : decode b_M_copyOf 5 = .ok (.aload_n 1, 1) := by decide +kernel
theorem d_M_copyOf_6 : decode b_M_copyOf 6 = .ok (.getfield 28, 3) := by decide +kernel
theorem d_M_copyOf_9 : decode b_M_copyOf 9 = .ok (.iconst 0, 1) := by decide +kernel
theorem d_M_copyOf_10 : decode b_M_copyOf 10 = .ok (.aload_n 2, 1) := by decide +kernel
theorem d_M_copyOf_11 : decode b_M_copyOf 11 = .ok (.getfield 28, 3) := by decide +kernel
theorem d_M_copyOf_14 : decode b_M_copyOf 14 = .ok (.iconst 0, 1) := by decide +kernel
theorem d_M_copyOf_15 : decode b_M_copyOf 15 = .ok (.bipush 8, 2) := by decide +kernel
theorem d_M_copyOf_17 : decode b_M_copyOf 17 = .ok (.invokestatic 79, 3) := by decide +kernel
theorem d_M_copyOf_20 : decode b_M_copyOf 20 = .ok (.aload_n 1, 1) := by decide +kernel
theorem d_M_copyOf_21 : decode b_M_copyOf 21 = .ok (.dup, 1) := by decide +kernel
theorem d_M_copyOf_22 : decode b_M_copyOf 22 = .ok (.getfield 59, 3) := by decide +kernel
theorem d_M_copyOf_25 : decode b_M_copyOf 25 = .ok (.iconst 1, 1) := by decide +kernel
theorem d_M_copyOf_26 : decode b_M_copyOf 26 = .ok (.isub, 1) := by decide +kernel
theorem d_M_copyOf_27 : decode b_M_copyOf 27 = .ok (.putfield 59, 3) := by decide +kernel
theorem d_M_copyOf_30 : decode b_M_copyOf 30 = .ok (.aload_n 0, 1) := by decide +kernel
theorem d_M_copyOf_31 : decode b_M_copyOf 31 = .ok (.dup, 1) := by decide +kernel
theorem d_M_copyOf_32 : decode b_M_copyOf 32 = .ok (.getfield 85, 3) := by decide +kernel
theorem d_M_copyOf_35 : decode b_M_copyOf 35 = .ok (.iconst 1, 1) := by decide +kernel
theorem d_M_copyOf_36 : decode b_M_copyOf 36 = .ok (.iadd, 1) := by decide +kernel
theorem d_M_copyOf_37 : decode b_M_copyOf 37 = .ok (.putfield 85, 3) := by decide +kernel
theorem d_M_copyOf_40 : decode b_M_copyOf 40 = .ok (.aload_n 2, 1) := by decide +kernel
theorem d_M_copyOf_41 : decode b_M_copyOf 41 = .ok (.areturn, 1) := by decide +kernel
end
section
theorem d_K_peek_0 : decode b_K_peek 0 = .ok (.aload_n 0, 1) := by decide +kernel
theorem d_K_peek_1 : decode b_K_peek 1 = .ok (.iload_n 1, 1) := by decide +kernel
theorem d_K_peek_2 : decode b_K_peek 2 = .ok (.invokevirtual 39, 3) := by decide +kernel
theorem d_K_peek_5 : decode b_K_peek 5 = .ok (.ifCond .eq 10, 3) := by decide +kernel
theorem d_K_peek_8 : decode b_K_peek 8 = .ok (.iload_n 2, 1) := by decide +kernel
theorem d_K_peek_9 : decode b_K_peek 9 = .ok (.invokestatic 43, 3) := by decide +kernel
theorem d_K_peek_12 : decode b_K_peek 12 = .ok (.ifCond .ne 5, 3) := by decide +kernel
theorem d_K_peek_15 : decode b_K_peek 15 = .ok (.iconst (-1), 1) := by decide +kernel
theorem d_K_peek_16 : decode b_K_peek 16 = .ok (.ireturn, 1) := by decide +kernel
theorem d_K_peek_17 : decode b_K_peek 17 = .ok (.aload_n 0, 1) := by decide +kernel
theorem d_K_peek_18 : decode b_K_peek 18 = .ok (.getfield 11, 3) := by decide +kernel
theorem d_K_peek_21 : decode b_K_peek 21 = .ok (.iload_n 1, 1) := by decide +kernel
theorem d_K_peek_22 : decode b_K_peek 22 = .ok (.aaload, 1) := by decide +kernel
theorem d_K_peek_23 : decode b_K_peek 23 = .ok (.getfield 53, 3) := by decide +kernel
theorem d_K_peek_26 : decode b_K_peek 26 = .ok (.iload_n 2, 1) := by decide +kernel
theorem d_K_peek_27 : decode b_K_peek 27 = .ok (.bipush 8, 2) := by decide +kernel
theorem d_K_peek_29 : decode b_K_peek 29 = .ok (.idiv, 1) := by decide +kernel
theorem d_K_peek_30 : decode b_K_peek 30 = .ok (.aaload, 1) := by decide +kernel
theorem d_K_peek_31 : decode b_K_peek 31 = .ok (.astore_n 3, 1) := by decide +kernel
theorem d_K_peek_32 : decode b_K_peek 32 = .ok (.aload_n 3, 1) := by decide +kernel
theorem d_K_peek_33 : decode b_K_peek 33 = .ok (.ifnonnull 7, 3) := by decide +kernel
theorem d_K_peek_36 : decode b_K_peek 36 = .ok (.iconst 0, 1) := by decide +kernel
theorem d_K_peek_37 : decode b_K_peek 37 = .ok (.goto 12, 3) := by decide +kernel
theorem d_K_peek_40 : decode b_K_peek 40 = .ok (.aload_n 3, 1) := by decide +kernel
theorem d_K_peek_41 : decode b_K_peek 41 = .ok (.getfield 57, 3) := by decide +kernel
theorem d_K_peek_44 : decode b_K_peek 44 = .ok (.iload_n 2, 1) := by decide +kernel
theorem d_K_peek_45 : decode b_K_peek 45 = .ok (.bipush 8, 2) := by decide +kernel
theorem d_K_peek_47 : decode b_K_peek 47 = .ok (.irem, 1) := by decide +kernel
theorem d_K_peek_48 : decode b_K_peek 48 = .ok (.iaload, 1) := by decide +kernel
theorem d_K_peek_49 : decode b_K_peek 49 = .ok (.ireturn, 1) := by decide +kernel
theorem d_K_kill_0 : decode b_K_kill 0 = .ok (.aload_n 0, 1) := by decide +kernel
theorem d_K_kill_1 : decode b_K_kill 1 = .ok (.iload_n 1, 1) := by decide +kernel
theorem d_K_kill_2 : decode b_K_kill 2 = .ok (.invokevirtual 39, 3) := by decide +kernel
theorem d_K_kill_5 : decode b_K_kill 5 = .ok (.ifCond .ne 5, 3) := by decide +kernel
theorem d_K_kill_8 : decode b_K_kill 8 = .ok (.iconst 0, 1) := by decide +kernel
theorem d_K_kill_9 : decode b_K_kill 9 = .ok (.ireturn, 1) := by decide +kernel
theorem d_K_kill_10 : decode b_K_kill 10 = .ok (.aload_n 0, 1) := by decide +kernel
theorem d_K_kill_11 : decode b_K_kill 11 = .ok (.iload_n 1, 1) := by decide +kernel
theorem d_K_kill_12 : decode b_K_kill 12 = .ok (.bipush (-9), 2) := by decide +kernel
theorem d_K_kill_14 : decode b_K_kill 14 = .ok (.invokevirtual 62, 3) := by decide +kernel
theorem d_K_kill_17 : decode b_K_kill 17 = .ok (.iconst 1, 1) := by decide +kernel
theorem d_K_kill_18 : decode b_K_kill 18 = .ok (.ireturn, 1) := by decide +kernel
theorem d_K_end_0 : decode b_K_end 0 = .ok (.aload_n 0, 1) := by decide +kernel
theorem d_K_end_1 : decode b_K_end 1 = .ok (.getfield 11, 3) := by decide +kernel
theorem d_K_end_4 : decode b_K_end 4 = .ok (.iload_n 1, 1) := by decide +kernel
theorem d_K_end_5 : decode b_K_end 5 = .ok (.aaload, 1) := by decide +kernel
theorem d_K_end_6 : decode b_K_end 6 = .ok (.astore_n 3, 1) := by decide +kernel
theorem d_K_end_7 : decode b_K_end 7 = .ok (.aload_n 0, 1) := by decide +kernel
theorem d_K_end_8 : decode b_K_end 8 = .ok (.getfield 18, 3) := by decide +kernel
theorem d_K_end_11 : decode b_K_end 11 = .ok (.aload_n 3, 1) := by decide +kernel
theorem d_K_end_12 : decode b_K_end 12 = .ok (.invokevirtual 183, 3) := by decide +kernel
theorem d_K_end_15 : decode b_K_end 15 = .ok (.aload_n 0, 1) := by decide +kernel
theorem d_K_end_16 : decode b_K_end 16 = .ok (.iload_n 1, 1) := by decide +kernel
theorem d_K_end_17 : decode b_K_end 17 = .ok (.invokevirtual 187, 3) := by decide +kernel
theorem d_K_end_20 : decode b_K_end 20 = .ok (.aload_n 3, 1) := by decide +kernel
theorem d_K_end_21 : decode b_K_end 21 = .ok (.getfield 174, 3) := by decide +kernel
theorem d_K_end_24 : decode b_K_end 24 = .ok (.bipush (-2), 2) := by decide +kernel
theorem d_K_end_26 : decode b_K_end 26 = .ok (.if_icmp .ne 8, 3) := by decide +kernel
theorem d_K_end_29 : decode b_K_end 29 = .ok (.aload_n 3, 1) := by decide +kernel
theorem d_K_end_30 : decode b_K_end 30 = .ok (.invokevirtual 180, 3) := by decide +kernel
theorem d_K_end_33 : decode b_K_end 33 = .ok (.return_, 1) := by decide +kernel
theorem d_K_end_34 : decode b_K_end 34 = .ok (.aload_n 3, 1) := by decide +kernel
theorem d_K_end_35 : decode b_K_end 35 = .ok (.iconst 4, 1) := by decide +kernel
theorem d_K_end_36 : decode b_K_end 36 = .ok (.putfield 85, 3) := by decide +kernel
theorem d_K_end_39 : decode b_K_end 39 = .ok (.aload_n 3, 1) := by decide +kernel
theorem d_K_end_40 : decode b_K_end 40 = .ok (.iload_n 2, 1) := by decide +kernel
theorem d_K_end_41 : decode b_K_end 41 = .ok (.putfield 177, 3) := by decide +kernel
theorem d_K_end_44 : decode b_K_end 44 = .ok (.aload_n 0, 1) := by decide +kernel
theorem d_K_end_45 : decode b_K_end 45 = .ok (.getfield 11, 3) := by decide +kernel
theorem d_K_end_48 : decode b_K_end 48 = .ok (.aload_n 3, 1) := by decide +kernel
theorem d_K_end_49 : decode b_K_end 49 = .ok (.getfield 174, 3) := by decide +kernel
theorem d_K_end_52 : decode b_K_end 52 = .ok (.aaload, 1) := by decide +kernel
theorem d_K_end_53 : decode b_K_end 53 = .ok (.astore 4, 2) := by decide +kernel
theorem d_K_end_55 : decode b_K_end 55 = .ok (.aload 4, 2) := by decide +kernel
theorem d_K_end_57 : decode b_K_end 57 = .ok (.getfield 85, 3) := by decide +kernel
theorem d_K_end_60 : decode b_K_end 60 = .ok (.iconst 3, 1) := by decide +kernel
theorem d_K_end_61 : decode b_K_end 61 = .ok (.if_icmp .ne 9, 3) := by decide +kernel
theorem d_K_end_64 : decode b_K_end 64 = .ok (.aload 4, 2) := by decide +kernel
theorem d_K_end_66 : decode b_K_end 66 = .ok (.iconst 1, 1) := by decide +kernel
theorem d_K_end_67 : decode b_K_end 67 = .ok (.putfield 85, 3) := by decide +kernel
theorem d_K_end_70 : decode b_K_end 70 = .ok (.return_, 1) := by decide +kernel
theorem d_M_releaseAll_0 : decode b_M_releaseAll 0 = .ok (.iconst 0, 1) := by decide +kernel
theorem d_M_releaseAll_1 : decode b_M_releaseAll 1 = .ok (.istore_n 2, 1) := by decide +kernel
theorem d_M_releaseAll_2 : decode b_M_releaseAll 2 = .ok (.iload_n 2, 1) := by decide +kernel
theorem d_M_releaseAll_3 : decode b_M_releaseAll 3 = .ok (.bipush 8, 2) := by decide +kernel
theorem d_M_releaseAll_5 : decode b_M_releaseAll 5 = .ok (.if_icmp .ge 32, 3) := by decide +kernel
theorem d_M_releaseAll_8 : decode b_M_releaseAll 8 = .ok (.aload_n 1, 1) := by decide +kernel
theorem d_M_releaseAll_9 : decode b_M_releaseAll 9 = .ok (.getfield 32, 3) := by decide +kernel
theorem d_M_releaseAll_12 : decode b_M_releaseAll 12 = .ok (.iload_n 2, 1) := by decide +kernel
theorem d_M_releaseAll_13 : decode b_M_releaseAll 13 = .ok (.aaload, 1) := by decide +kernel
theorem d_M_releaseAll_14 : decode b_M_releaseAll 14 = .ok (.astore_n 3, 1) := by decide +kernel
theorem d_M_releaseAll_15 : decode b_M_releaseAll 15 = .ok (.aload_n 3, 1) := by decide +kernel
theorem d_M_releaseAll_16 : decode b_M_releaseAll 16 = .ok (.ifnull 15, 3) := by decide +kernel
theorem d_M_releaseAll_19 : decode b_M_releaseAll 19 = .ok (.aload_n 1, 1) := by decide +kernel
theorem d_M_releaseAll_20 : decode b_M_releaseAll 20 = .ok (.getfield 32, 3) := by decide +kernel
theorem d_M_releaseAll_23 : decode b_M_releaseAll 23 = .ok (.iload_n 2, 1) := by decide +kernel
theorem d_M_releaseAll_24 : decode b_M_releaseAll 24 = .ok (.aconst_null, 1) := by decide +kernel
theorem d_M_releaseAll_25 : decode b_M_releaseAll 25 = .ok (.aastore, 1) := by decide +kernel
theorem d_M_releaseAll_26 : decode b_M_releaseAll 26 = .ok (.aload_n 0, 1) := by decide +kernel
theorem d_M_releaseAll_27 : decode b_M_releaseAll 27 = .ok (.aload_n 3, 1) := by decide +kernel
theorem d_M_releaseAll_28 : decode b_M_releaseAll 28 = .ok (.invokevirtual 104, 3) := by decide +kernel
theorem d_M_releaseAll_31 : decode b_M_releaseAll 31 = .ok (.iinc 2 1, 3) := by decide +kernel
theorem d_M_releaseAll_34 : decode b_M_releaseAll 34 = .ok (.goto (-32), 3) := by decide +kernel
theorem d_M_releaseAll_37 : decode b_M_releaseAll 37 = .ok (.return_, 1) := by decide +kernel
theorem d_M_release_0 : decode b_M_release 0 = .ok (.aload_n 1, 1) := by decide +kernel
theorem d_M_release_1 : decode b_M_release 1 = .ok (.dup, 1) := by decide +kernel
theorem d_M_release_2 : decode b_M_release 2 = .ok (.getfield 59, 3) := by decide +kernel
theorem d_M_release_5 : decode b_M_release 5 = .ok (.iconst 1, 1) := by decide +kernel
theorem d_M_release_6 : decode b_M_release 6 = .ok (.isub, 1) := by decide +kernel
theorem d_M_release_7 : decode b_M_release 7 = .ok (.putfield 59, 3) := by decide +kernel
theorem d_M_release_10 : decode b_M_release 10 = .ok (.aload_n 1, 1) := by decide +kernel
theorem d_M_release_11 : decode b_M_release 11 = .ok (.getfield 59, 3) := by decide +kernel
theorem d_M_release_14 : decode b_M_release 14 = .ok (.ifCond .le 4, 3) := by decide +kernel
theorem d_M_release_17 : decode b_M_release 17 = .ok (.return_, 1) := by decide +kernel
theorem d_M_release_18 : decode b_M_release 18 = .ok (.aload_n 1, 1) := by decide +kernel
theorem d_M_release_19 : decode b_M_release 19 = .ok (.getfield 41, 3) := by decide +kernel
theorem d_M_release_22 : decode b_M_release 22 = .ok (.bipush (-2), 2) := by decide +kernel
theorem d_M_release_24 : decode b_M_release 24 = .ok (.if_icmp .eq 19, 3) := by decide +kernel
theorem d_M_release_27 : decode b_M_release 27 = .ok (.aload_n 0, 1) := by decide +kernel
theorem d_M_release_28 : decode b_M_release 28 = .ok (.getfield 17, 3) := by decide +kernel
theorem d_M_release_31 : decode b_M_release 31 = .ok (.aload_n 1, 1) := by decide +kernel
theorem d_M_release_32 : decode b_M_release 32 = .ok (.getfield 41, 3) := by decide +kernel
theorem d_M_release_35 : decode b_M_release 35 = .ok (.aconst_null, 1) := by decide +kernel
theorem d_M_release_36 : decode b_M_release 36 = .ok (.aastore, 1) := by decide +kernel
theorem d_M_release_37 : decode b_M_release 37 = .ok (.aload_n 1, 1) := by decide +kernel
theorem d_M_release_38 : decode b_M_release 38 = .ok (.bipush (-2), 2) := by decide +kernel
theorem d_M_release_40 : decode b_M_release 40 = .ok (.putfield 41, 3) := by decide +kernel
theorem d_M_release_43 : decode b_M_release 43 = .ok (.aload_n 1, 1) := by decide +kernel
theorem d_M_release_44 : decode b_M_release 44 = .ok (.getfield 49, 3) := by decide +kernel
theorem d_M_release_47 : decode b_M_release 47 = .ok (.bipush (-2), 2) := by decide +kernel
theorem d_M_release_49 : decode b_M_release 49 = .ok (.if_icmp .eq 19, 3) := by decide +kernel
theorem d_M_release_52 : decode b_M_release 52 = .ok (.aload_n 0, 1) := by decide +kernel
theorem d_M_release_53 : decode b_M_release 53 = .ok (.getfield 20, 3) := by decide +kernel
theorem d_M_release_56 : decode b_M_release 56 = .ok (.aload_n 1, 1) := by decide +kernel
theorem d_M_release_57 : decode b_M_release 57 = .ok (.getfield 49, 3) := by decide +kernel
theorem d_M_release_60 : decode b_M_release 60 = .ok (.aconst_null, 1) := by decide +kernel
theorem d_M_release_61 : decode b_M_release 61 = .ok (.aastore, 1) := by decide +kernel
theorem d_M_release_62 : decode b_M_release 62 = .ok (.aload_n 1, 1) := by decide +kernel
theorem d_M_release_63 : decode b_M_release 63 = .ok (.bipush (-2), 2) := by decide +kernel
theorem d_M_release_65 : decode b_M_release 65 = .ok (.putfield 49, 3) := by decide +kernel
theorem d_M_release_68 : decode b_M_release 68 = .ok (.aload_n 1, 1) := by decide +kernel
theorem d_M_release_69 : decode b_M_release 69 = .ok (.iconst 0, 1) := by decide +kernel
theorem d_M_release_70 : decode b_M_release 70 = .ok (.putfield 66, 3) := by decide +kernel
theorem d_M_release_73 : decode b_M_release 73 = .ok (.aload_n 1, 1) := by decide +kernel
theorem d_M_release_74 : decode b_M_release 74 = .ok (.iconst 0, 1) := by decide +kernel
theorem d_M_release_75 : decode b_M_release 75 = .ok (.putfield 70, 3) := by decide +kernel
theorem d_M_release_78 : decode b_M_release 78 = .ok (.return_, 1) := by decide +kernel
theorem d_K_orphanChildren_0 : decode b_K_orphanChildren 0 = .ok (.iconst 0, 1) := by decide +kernel
theorem d_K_orphanChildren_1 : decode b_K_orphanChildren 1 = .ok (.istore_n 2, 1) := by decide +kernel
theorem d_K_orphanChildren_2 : decode b_K_orphanChildren 2 = .ok (.iload_n 2, 1) := by decide +kernel
theorem d_K_orphanChildren_3 : decode b_K_orphanChildren 3 = .ok (.iconst 4, 1) := by decide +kernel
theorem d_K_orphanChildren_4 : decode b_K_orphanChildren 4 = .ok (.if_icmp .ge 42, 3) := by decide +kernel
theorem d_K_orphanChildren_7 : decode b_K_orphanChildren 7 = .ok (.aload_n 0, 1) := by decide +kernel
theorem d_K_orphanChildren_8 : decode b_K_orphanChildren 8 = .ok (.getfield 11, 3) := by decide +kernel
theorem d_K_orphanChildren_11 : decode b_K_orphanChildren 11 = .ok (.iload_n 2, 1) := by decide +kernel
theorem d_K_orphanChildren_12 : decode b_K_orphanChildren 12 = .ok (.aaload, 1) := by decide +kernel
theorem d_K_orphanChildren_13 : decode b_K_orphanChildren 13 = .ok (.astore_n 3, 1) := by decide +kernel
theorem d_K_orphanChildren_14 : decode b_K_orphanChildren 14 = .ok (.aload_n 3, 1) := by decide +kernel
theorem d_K_orphanChildren_15 : decode b_K_orphanChildren 15 = .ok (.getfield 174, 3) := by decide +kernel
theorem d_K_orphanChildren_18 : decode b_K_orphanChildren 18 = .ok (.iload_n 1, 1) := by decide +kernel
theorem d_K_orphanChildren_19 : decode b_K_orphanChildren 19 = .ok (.if_icmp .ne 21, 3) := by decide +kernel
theorem d_K_orphanChildren_22 : decode b_K_orphanChildren 22 = .ok (.aload_n 3, 1) := by decide +kernel
theorem d_K_orphanChildren_23 : decode b_K_orphanChildren 23 = .ok (.bipush (-2), 2) := by decide +kernel
theorem d_K_orphanChildren_25 : decode b_K_orphanChildren 25 = .ok (.putfield 174, 3) := by decide +kernel
theorem d_K_orphanChildren_28 : decode b_K_orphanChildren 28 = .ok (.aload_n 3, 1) := by decide +kernel
theorem d_K_orphanChildren_29 : decode b_K_orphanChildren 29 = .ok (.getfield 85, 3) := by decide +kernel
theorem d_K_orphanChildren_32 : decode b_K_orphanChildren 32 = .ok (.iconst 4, 1) := by decide +kernel
theorem d_K_orphanChildren_33 : decode b_K_orphanChildren 33 = .ok (.if_icmp .ne 7, 3) := by decide +kernel
theorem d_K_orphanChildren_36 : decode b_K_orphanChildren 36 = .ok (.aload_n 3, 1) := by decide +kernel
theorem d_K_orphanChildren_37 : decode b_K_orphanChildren 37 = .ok (.invokevirtual 180, 3) := by decide +kernel
theorem d_K_orphanChildren_40 : decode b_K_orphanChildren 40 = .ok (.iinc 2 1, 3) := by decide +kernel
theorem d_K_orphanChildren_43 : decode b_K_orphanChildren 43 = .ok (.goto (-41), 3) := by decide +kernel
theorem d_K_orphanChildren_46 : decode b_K_orphanChildren 46 = .ok (.return_, 1) := by decide +kernel
theorem d_T_leave_0 : decode b_T_leave 0 = .ok (.aload_n 0, 1) := by decide +kernel
theorem d_T_leave_1 : decode b_T_leave 1 = .ok (.iconst 0, 1) := by decide +kernel
theorem d_T_leave_2 : decode b_T_leave 2 = .ok (.putfield 21, 3) := by decide +kernel
theorem d_T_leave_5 : decode b_T_leave 5 = .ok (.aload_n 0, 1) := by decide +kernel
theorem d_T_leave_6 : decode b_T_leave 6 = .ok (.bipush (-2), 2) := by decide +kernel
theorem d_T_leave_8 : decode b_T_leave 8 = .ok (.putfield 25, 3) := by decide +kernel
theorem d_T_leave_11 : decode b_T_leave 11 = .ok (.return_, 1) := by decide +kernel
theorem d_K_run_0 : decode b_K_run 0 = .ok (.iload_n 1, 1) := by decide +kernel
theorem d_K_run_1 : decode b_K_run 1 = .ok (.iconst 1, 1) := by decide +kernel
theorem d_K_run_2 : decode b_K_run 2 = .ok (.if_icmp .lt 9, 3) := by decide +kernel
theorem d_K_run_5 : decode b_K_run 5 = .ok (.iload_n 1, 1) := by decide +kernel
theorem d_K_run_6 : decode b_K_run 6 = .ok (.bipush 40, 2) := by decide +kernel
theorem d_K_run_8 : decode b_K_run 8 = .ok (.if_icmp .le 5, 3) := by decide +kernel
theorem d_K_run_11 : decode b_K_run 11 = .ok (.iconst (-1), 1) := by decide +kernel
theorem d_K_run_12 : decode b_K_run 12 = .ok (.ireturn, 1) := by decide +kernel
theorem d_K_run_13 : decode b_K_run 13 = .ok (.iconst 0, 1) := by decide +kernel
theorem d_K_run_14 : decode b_K_run 14 = .ok (.istore_n 2, 1) := by decide +kernel
theorem d_K_run_15 : decode b_K_run 15 = .ok (.iconst 0, 1) := by decide +kernel
theorem d_K_run_16 : decode b_K_run 16 = .ok (.istore_n 3, 1) := by decide +kernel
theorem d_K_run_17 : decode b_K_run 17 = .ok (.iload_n 3, 1) := by decide +kernel
theorem d_K_run_18 : decode b_K_run 18 = .ok (.iload_n 1, 1) := by decide +kernel
theorem d_K_run_19 : decode b_K_run 19 = .ok (.if_icmp .ge 54, 3) := by decide +kernel
theorem d_K_run_22 : decode b_K_run 22 = .ok (.aload_n 0, 1) := by decide +kernel
theorem d_K_run_23 : decode b_K_run 23 = .ok (.dup, 1) := by decide +kernel
theorem d_K_run_24 : decode b_K_run 24 = .ok (.getfield 66, 3) := by decide +kernel
theorem d_K_run_27 : decode b_K_run 27 = .ok (.iconst 1, 1) := by decide +kernel
theorem d_K_run_28 : decode b_K_run 28 = .ok (.iadd, 1) := by decide +kernel
theorem d_K_run_29 : decode b_K_run 29 = .ok (.putfield 66, 3) := by decide +kernel
theorem d_K_run_32 : decode b_K_run 32 = .ok (.aload_n 0, 1) := by decide +kernel
theorem d_K_run_33 : decode b_K_run 33 = .ok (.invokevirtual 69, 3) := by decide +kernel
theorem d_K_run_36 : decode b_K_run 36 = .ok (.aload_n 0, 1) := by decide +kernel
theorem d_K_run_37 : decode b_K_run 37 = .ok (.invokevirtual 72, 3) := by decide +kernel
theorem d_K_run_40 : decode b_K_run 40 = .ok (.ifCond .eq 17, 3) := by decide +kernel
theorem d_K_run_43 : decode b_K_run 43 = .ok (.aload_n 0, 1) := by decide +kernel
theorem d_K_run_44 : decode b_K_run 44 = .ok (.aload_n 0, 1) := by decide +kernel
theorem d_K_run_45 : decode b_K_run 45 = .ok (.getfield 26, 3) := by decide +kernel
theorem d_K_run_48 : decode b_K_run 48 = .ok (.invokevirtual 76, 3) := by decide +kernel
theorem d_K_run_51 : decode b_K_run 51 = .ok (.iinc 2 1, 3) := by decide +kernel
theorem d_K_run_54 : decode b_K_run 54 = .ok (.goto 13, 3) := by decide +kernel
theorem d_K_run_57 : decode b_K_run 57 = .ok (.aload_n 0, 1) := by decide +kernel
theorem d_K_run_58 : decode b_K_run 58 = .ok (.dup, 1) := by decide +kernel
theorem d_K_run_59 : decode b_K_run 59 = .ok (.getfield 79, 3) := by decide +kernel
theorem d_K_run_62 : decode b_K_run 62 = .ok (.iconst 1, 1) := by decide +kernel
theorem d_K_run_63 : decode b_K_run 63 = .ok (.iadd, 1) := by decide +kernel
theorem d_K_run_64 : decode b_K_run 64 = .ok (.putfield 79, 3) := by decide +kernel
theorem d_K_run_67 : decode b_K_run 67 = .ok (.iinc 3 1, 3) := by decide +kernel
theorem d_K_run_70 : decode b_K_run 70 = .ok (.goto (-53), 3) := by decide +kernel
theorem d_K_run_73 : decode b_K_run 73 = .ok (.iload_n 2, 1) := by decide +kernel
theorem d_K_run_74 : decode b_K_run 74 = .ok (.ireturn, 1) := by decide +kernel
theorem d_K_wakeSleepers_0 : decode b_K_wakeSleepers 0 = .ok (.iconst 0, 1) := by decide +kernel
theorem d_K_wakeSleepers_1 : decode b_K_wakeSleepers 1 = .ok (.istore_n 1, 1) := by decide +kernel
theorem d_K_wakeSleepers_2 : decode b_K_wakeSleepers 2 = .ok (.iload_n 1, 1) := by decide +kernel
theorem d_K_wakeSleepers_3 : decode b_K_wakeSleepers 3 = .ok (.iconst 4, 1) := by decide +kernel
theorem d_K_wakeSleepers_4 : decode b_K_wakeSleepers 4 = .ok (.if_icmp .ge 46, 3) := by decide +kernel
theorem d_K_wakeSleepers_7 : decode b_K_wakeSleepers 7 = .ok (.aload_n 0, 1) := by decide +kernel
theorem d_K_wakeSleepers_8 : decode b_K_wakeSleepers 8 = .ok (.getfield 11, 3) := by decide +kernel
theorem d_K_wakeSleepers_11 : decode b_K_wakeSleepers 11 = .ok (.iload_n 1, 1) := by decide +kernel
theorem d_K_wakeSleepers_12 : decode b_K_wakeSleepers 12 = .ok (.aaload, 1) := by decide +kernel
theorem d_K_wakeSleepers_13 : decode b_K_wakeSleepers 13 = .ok (.astore_n 2, 1) := by decide +kernel
theorem d_K_wakeSleepers_14 : decode b_K_wakeSleepers 14 = .ok (.aload_n 2, 1) := by decide +kernel
theorem d_K_wakeSleepers_15 : decode b_K_wakeSleepers 15 = .ok (.getfield 85, 3) := by decide +kernel
theorem d_K_wakeSleepers_18 : decode b_K_wakeSleepers 18 = .ok (.iconst 2, 1) := by decide +kernel
theorem d_K_wakeSleepers_19 : decode b_K_wakeSleepers 19 = .ok (.if_icmp .ne 25, 3) := by decide +kernel
theorem d_K_wakeSleepers_22 : decode b_K_wakeSleepers 22 = .ok (.aload_n 2, 1) := by decide +kernel
theorem d_K_wakeSleepers_23 : decode b_K_wakeSleepers 23 = .ok (.dup, 1) := by decide +kernel
theorem d_K_wakeSleepers_24 : decode b_K_wakeSleepers 24 = .ok (.getfield 133, 3) := by decide +kernel
theorem d_K_wakeSleepers_27 : decode b_K_wakeSleepers 27 = .ok (.iconst 1, 1) := by decide +kernel
theorem d_K_wakeSleepers_28 : decode b_K_wakeSleepers 28 = .ok (.isub, 1) := by decide +kernel
theorem d_K_wakeSleepers_29 : decode b_K_wakeSleepers 29 = .ok (.putfield 133, 3) := by decide +kernel
theorem d_K_wakeSleepers_32 : decode b_K_wakeSleepers 32 = .ok (.aload_n 2, 1) := by decide +kernel
theorem d_K_wakeSleepers_33 : decode b_K_wakeSleepers 33 = .ok (.getfield 133, 3) := by decide +kernel
theorem d_K_wakeSleepers_36 : decode b_K_wakeSleepers 36 = .ok (.ifCond .ne 8, 3) := by decide +kernel
theorem d_K_wakeSleepers_39 : decode b_K_wakeSleepers 39 = .ok (.aload_n 2, 1) := by decide +kernel
theorem d_K_wakeSleepers_40 : decode b_K_wakeSleepers 40 = .ok (.iconst 1, 1) := by decide +kernel
theorem d_K_wakeSleepers_41 : decode b_K_wakeSleepers 41 = .ok (.putfield 85, 3) := by decide +kernel
theorem d_K_wakeSleepers_44 : decode b_K_wakeSleepers 44 = .ok (.iinc 1 1, 3) := by decide +kernel
theorem d_K_wakeSleepers_47 : decode b_K_wakeSleepers 47 = .ok (.goto (-45), 3) := by decide +kernel
theorem d_K_wakeSleepers_50 : decode b_K_wakeSleepers 50 = .ok (.return_, 1) := by decide +kernel
theorem d_K_giveTurn_0 : decode b_K_giveTurn 0 = .ok (.aload_n 0, 1) := by decide +kernel
theorem d_K_giveTurn_1 : decode b_K_giveTurn 1 = .ok (.getfield 136, 3) := by decide +kernel
theorem d_K_giveTurn_4 : decode b_K_giveTurn 4 = .ok (.ifCond .ne 11, 3) := by decide +kernel
theorem d_K_giveTurn_7 : decode b_K_giveTurn 7 = .ok (.aload_n 0, 1) := by decide +kernel
theorem d_K_giveTurn_8 : decode b_K_giveTurn 8 = .ok (.getfield 105, 3) := by decide +kernel
theorem d_K_giveTurn_11 : decode b_K_giveTurn 11 = .ok (.iconst 4, 1) := by decide +kernel
theorem d_K_giveTurn_12 : decode b_K_giveTurn 12 = .ok (.if_icmp .lt 7, 3) := by decide +kernel
theorem d_K_giveTurn_15 : decode b_K_giveTurn 15 = .ok (.iconst 1, 1) := by decide +kernel
theorem d_K_giveTurn_16 : decode b_K_giveTurn 16 = .ok (.goto 4, 3) := by decide +kernel
theorem d_K_giveTurn_19 : decode b_K_giveTurn 19 = .ok (.iconst 0, 1) := by decide +kernel
theorem d_K_giveTurn_20 : decode b_K_giveTurn 20 = .ok (.istore_n 1, 1) := by decide +kernel
theorem d_K_giveTurn_21 : decode b_K_giveTurn 21 = .ok (.aload_n 0, 1) := by decide +kernel
theorem d_K_giveTurn_22 : decode b_K_giveTurn 22 = .ok (.getfield 11, 3) := by decide +kernel
theorem d_K_giveTurn_25 : decode b_K_giveTurn 25 = .ok (.aload_n 0, 1) := by decide +kernel
theorem d_K_giveTurn_26 : decode b_K_giveTurn 26 = .ok (.getfield 26, 3) := by decide +kernel
theorem d_K_giveTurn_29 : decode b_K_giveTurn 29 = .ok (.aaload, 1) := by decide +kernel
theorem d_K_giveTurn_30 : decode b_K_giveTurn 30 = .ok (.getfield 85, 3) := by decide +kernel
theorem d_K_giveTurn_33 : decode b_K_giveTurn 33 = .ok (.iconst 1, 1) := by decide +kernel
theorem d_K_giveTurn_34 : decode b_K_giveTurn 34 = .ok (.if_icmp .ne 9, 3) := by decide +kernel
theorem d_K_giveTurn_37 : decode b_K_giveTurn 37 = .ok (.iload_n 1, 1) := by decide +kernel
theorem d_K_giveTurn_38 : decode b_K_giveTurn 38 = .ok (.ifCond .ne 5, 3) := by decide +kernel
theorem d_K_giveTurn_41 : decode b_K_giveTurn 41 = .ok (.iconst 1, 1) := by decide +kernel
theorem d_K_giveTurn_42 : decode b_K_giveTurn 42 = .ok (.ireturn, 1) := by decide +kernel
theorem d_K_giveTurn_43 : decode b_K_giveTurn 43 = .ok (.iconst 1, 1) := by decide +kernel
theorem d_K_giveTurn_44 : decode b_K_giveTurn 44 = .ok (.istore_n 2, 1) := by decide +kernel
theorem d_K_giveTurn_45 : decode b_K_giveTurn 45 = .ok (.iload_n 2, 1) := by decide +kernel
theorem d_K_giveTurn_46 : decode b_K_giveTurn 46 = .ok (.iconst 4, 1) := by decide +kernel
theorem d_K_giveTurn_47 : decode b_K_giveTurn 47 = .ok (.if_icmp .gt 48, 3) := by decide +kernel
theorem d_K_giveTurn_50 : decode b_K_giveTurn 50 = .ok (.aload_n 0, 1) := by decide +kernel
theorem d_K_giveTurn_51 : decode b_K_giveTurn 51 = .ok (.getfield 26, 3) := by decide +kernel
theorem d_K_giveTurn_54 : decode b_K_giveTurn 54 = .ok (.iload_n 2, 1) := by decide +kernel
theorem d_K_giveTurn_55 : decode b_K_giveTurn 55 = .ok (.iadd, 1) := by decide +kernel
theorem d_K_giveTurn_56 : decode b_K_giveTurn 56 = .ok (.iconst 4, 1) := by decide +kernel
theorem d_K_giveTurn_57 : decode b_K_giveTurn 57 = .ok (.irem, 1) := by decide +kernel
theorem d_K_giveTurn_58 : decode b_K_giveTurn 58 = .ok (.istore_n 3, 1) := by decide +kernel
theorem d_K_giveTurn_59 : decode b_K_giveTurn 59 = .ok (.aload_n 0, 1) := by decide +kernel
theorem d_K_giveTurn_60 : decode b_K_giveTurn 60 = .ok (.getfield 11, 3) := by decide +kernel
theorem d_K_giveTurn_63 : decode b_K_giveTurn 63 = .ok (.iload_n 3, 1) := by decide +kernel
theorem d_K_giveTurn_64 : decode b_K_giveTurn 64 = .ok (.aaload, 1) := by decide +kernel
theorem d_K_giveTurn_65 : decode b_K_giveTurn 65 = .ok (.getfield 85, 3) := by decide +kernel
theorem d_K_giveTurn_68 : decode b_K_giveTurn 68 = .ok (.iconst 1, 1) := by decide +kernel
theorem d_K_giveTurn_69 : decode b_K_giveTurn 69 = .ok (.if_icmp .ne 20, 3) := by decide +kernel
theorem d_K_giveTurn_72 : decode b_K_giveTurn 72 = .ok (.aload_n 0, 1) := by decide +kernel
theorem d_K_giveTurn_73 : decode b_K_giveTurn 73 = .ok (.iload_n 3, 1) := by decide +kernel
theorem d_K_giveTurn_74 : decode b_K_giveTurn 74 = .ok (.putfield 26, 3) := by decide +kernel
theorem d_K_giveTurn_77 : decode b_K_giveTurn 77 = .ok (.aload_n 0, 1) := by decide +kernel
theorem d_K_giveTurn_78 : decode b_K_giveTurn 78 = .ok (.iconst 0, 1) := by decide +kernel
theorem d_K_giveTurn_79 : decode b_K_giveTurn 79 = .ok (.putfield 105, 3) := by decide +kernel
theorem d_K_giveTurn_82 : decode b_K_giveTurn 82 = .ok (.aload_n 0, 1) := by decide +kernel
theorem d_K_giveTurn_83 : decode b_K_giveTurn 83 = .ok (.iconst 0, 1) := by decide +kernel
theorem d_K_giveTurn_84 : decode b_K_giveTurn 84 = .ok (.putfield 136, 3) := by decide +kernel
theorem d_K_giveTurn_87 : decode b_K_giveTurn 87 = .ok (.iconst 1, 1) := by decide +kernel
theorem d_K_giveTurn_88 : decode b_K_giveTurn 88 = .ok (.ireturn, 1) := by decide +kernel
theorem d_K_giveTurn_89 : decode b_K_giveTurn 89 = .ok (.iinc 2 1, 3) := by decide +kernel
theorem d_K_giveTurn_92 : decode b_K_giveTurn 92 = .ok (.goto (-47), 3) := by decide +kernel
theorem d_K_giveTurn_95 : decode b_K_giveTurn 95 = .ok (.iconst 0, 1) := by decide +kernel
theorem d_K_giveTurn_96 : decode b_K_giveTurn 96 = .ok (.ireturn, 1) := by decide +kernel
theorem d_K_doInstruction_0 : decode b_K_doInstruction 0 = .ok (.aload_n 0, 1) := by decide +kernel
theorem d_K_doInstruction_1 : decode b_K_doInstruction 1 = .ok (.getfield 11, 3) := by decide +kernel
theorem d_K_doInstruction_4 : decode b_K_doInstruction 4 = .ok (.iload_n 1, 1) := by decide +kernel
theorem d_K_doInstruction_5 : decode b_K_doInstruction 5 = .ok (.aaload, 1) := by decide +kernel
theorem d_K_doInstruction_6 : decode b_K_doInstruction 6 = .ok (.astore_n 2, 1) := by decide +kernel
theorem d_K_doInstruction_7 : decode b_K_doInstruction 7 = .ok (.aload_n 2, 1) := by decide +kernel
theorem d_K_doInstruction_8 : decode b_K_doInstruction 8 = .ok (.dup, 1) := by decide +kernel
theorem d_K_doInstruction_9 : decode b_K_doInstruction 9 = .ok (.getfield 140, 3) := by decide +kernel
theorem d_K_doInstruction_12 : decode b_K_doInstruction 12 = .ok (.iconst 1, 1) := by decide +kernel
theorem d_K_doInstruction_13 : decode b_K_doInstruction 13 = .ok (.iadd, 1) := by decide +kernel
theorem d_K_doInstruction_14 : decode b_K_doInstruction 14 = .ok (.putfield 140, 3) := by decide +kernel
theorem d_K_doInstruction_17 : decode b_K_doInstruction 17 = .ok (.aload_n 0, 1) := by decide +kernel
theorem d_K_doInstruction_18 : decode b_K_doInstruction 18 = .ok (.dup, 1) := by decide +kernel
theorem d_K_doInstruction_19 : decode b_K_doInstruction 19 = .ok (.getfield 105, 3) := by decide +kernel
theorem d_K_doInstruction_22 : decode b_K_doInstruction 22 = .ok (.iconst 1, 1) := by decide +kernel
theorem d_K_doInstruction_23 : decode b_K_doInstruction 23 = .ok (.iadd, 1) := by decide +kernel
theorem d_K_doInstruction_24 : decode b_K_doInstruction 24 = .ok (.putfield 105, 3) := by decide +kernel
theorem d_K_doInstruction_27 : decode b_K_doInstruction 27 = .ok (.aload_n 2, 1) := by decide +kernel
theorem d_K_doInstruction_28 : decode b_K_doInstruction 28 = .ok (.getfield 143, 3) := by decide +kernel
theorem d_K_doInstruction_31 : decode b_K_doInstruction 31 = .ok (.istore_n 3, 1) := by decide +kernel
theorem d_K_doInstruction_32 : decode b_K_doInstruction 32 = .ok (.iload_n 3, 1) := by decide +kernel
theorem d_K_doInstruction_33 : decode b_K_doInstruction 33 = .ok (.invokestatic 43, 3) := by decide +kernel
theorem d_K_doInstruction_36 : decode b_K_doInstruction 36 = .ok (.istore 4, 2) := by decide +kernel
theorem d_K_doInstruction_38 : decode b_K_doInstruction 38 = .ok (.iload 4, 2) := by decide +kernel
theorem d_K_doInstruction_40 : decode b_K_doInstruction 40 = .ok (.ifCond .eq 30, 3) := by decide +kernel
theorem d_K_doInstruction_43 : decode b_K_doInstruction 43 = .ok (.aload_n 0, 1) := by decide +kernel
theorem d_K_doInstruction_44 : decode b_K_doInstruction 44 = .ok (.getfield 18, 3) := by decide +kernel
theorem d_K_doInstruction_47 : decode b_K_doInstruction 47 = .ok (.aload_n 2, 1) := by decide +kernel
theorem d_K_doInstruction_48 : decode b_K_doInstruction 48 = .ok (.iload_n 3, 1) := by decide +kernel
theorem d_K_doInstruction_49 : decode b_K_doInstruction 49 = .ok (.invokevirtual 146, 3) := by decide +kernel
theorem d_K_doInstruction_52 : decode b_K_doInstruction 52 = .ok (.istore 5, 2) := by decide +kernel
theorem d_K_doInstruction_54 : decode b_K_doInstruction 54 = .ok (.aload_n 2, 1) := by decide +kernel
theorem d_K_doInstruction_55 : decode b_K_doInstruction 55 = .ok (.iload_n 3, 1) := by decide +kernel
theorem d_K_doInstruction_56 : decode b_K_doInstruction 56 = .ok (.iconst 1, 1) := by decide +kernel
theorem d_K_doInstruction_57 : decode b_K_doInstruction 57 = .ok (.iadd, 1) := by decide +kernel
theorem d_K_doInstruction_58 : decode b_K_doInstruction 58 = .ok (.putfield 143, 3) := by decide +kernel
theorem d_K_doInstruction_61 : decode b_K_doInstruction 61 = .ok (.aload_n 0, 1) := by decide +kernel
theorem d_K_doInstruction_62 : decode b_K_doInstruction 62 = .ok (.iload_n 1, 1) := by decide +kernel
theorem d_K_doInstruction_63 : decode b_K_doInstruction 63 = .ok (.iload 5, 2) := by decide +kernel
theorem d_K_doInstruction_65 : decode b_K_doInstruction 65 = .ok (.invokevirtual 150, 3) := by decide +kernel
theorem d_K_doInstruction_68 : decode b_K_doInstruction 68 = .ok (.istore 4, 2) := by decide +kernel
theorem d_K_doInstruction_70 : decode b_K_doInstruction 70 = .ok (.iload 4, 2) := by decide +kernel
theorem d_K_doInstruction_72 : decode b_K_doInstruction 72 = .ok (.ifCond .ne 20, 3) := by decide +kernel
theorem d_K_doInstruction_75 : decode b_K_doInstruction 75 = .ok (.aload_n 0, 1) := by decide +kernel
theorem d_K_doInstruction_76 : decode b_K_doInstruction 76 = .ok (.dup, 1) := by decide +kernel
theorem d_K_doInstruction_77 : decode b_K_doInstruction 77 = .ok (.getfield 130, 3) := by decide +kernel
theorem d_K_doInstruction_80 : decode b_K_doInstruction 80 = .ok (.iconst 1, 1) := by decide +kernel
theorem d_K_doInstruction_81 : decode b_K_doInstruction 81 = .ok (.iadd, 1) := by decide +kernel
theorem d_K_doInstruction_82 : decode b_K_doInstruction 82 = .ok (.putfield 130, 3) := by decide +kernel
theorem d_K_doInstruction_85 : decode b_K_doInstruction 85 = .ok (.aload_n 0, 1) := by decide +kernel
theorem d_K_doInstruction_86 : decode b_K_doInstruction 86 = .ok (.iload_n 1, 1) := by decide +kernel
theorem d_K_doInstruction_87 : decode b_K_doInstruction 87 = .ok (.bipush (-99), 2) := by decide +kernel
theorem d_K_doInstruction_89 : decode b_K_doInstruction 89 = .ok (.invokevirtual 62, 3) := by decide +kernel
theorem d_K_doInstruction_92 : decode b_K_doInstruction 92 = .ok (.return_, 1) := by decide +kernel
theorem d_M_fetch_0 : decode b_M_fetch 0 = .ok (.aload_n 0, 1) := by decide +kernel
theorem d_M_fetch_1 : decode b_M_fetch 1 = .ok (.aload_n 1, 1) := by decide +kernel
theorem d_M_fetch_2 : decode b_M_fetch 2 = .ok (.iload_n 2, 1) := by decide +kernel
theorem d_M_fetch_3 : decode b_M_fetch 3 = .ok (.bipush 8, 2) := by decide +kernel
theorem d_M_fetch_5 : decode b_M_fetch 5 = .ok (.idiv, 1) := by decide +kernel
theorem d_M_fetch_6 : decode b_M_fetch 6 = .ok (.iconst 0, 1) := by decide +kernel
theorem d_M_fetch_7 : decode b_M_fetch 7 = .ok (.invokevirtual 24, 3) := by decide +kernel
theorem d_M_fetch_10 : decode b_M_fetch 10 = .ok (.getfield 28, 3) := by decide +kernel
theorem d_M_fetch_13 : decode b_M_fetch 13 = .ok (.iload_n 2, 1) := by decide +kernel
theorem d_M_fetch_14 : decode b_M_fetch 14 = .ok (.bipush 8, 2) := by decide +kernel
theorem d_M_fetch_16 : decode b_M_fetch 16 = .ok (.irem, 1) := by decide +kernel
theorem d_M_fetch_17 : decode b_M_fetch 17 = .ok (.iaload, 1) := by decide +kernel
theorem d_M_fetch_18 : decode b_M_fetch 18 = .ok (.ireturn, 1) := by decide +kernel
theorem d_K_obey_0 : decode b_K_obey 0 = .ok (.aload_n 0, 1) := by decide +kernel
theorem d_K_obey_1 : decode b_K_obey 1 = .ok (.getfield 11, 3) := by decide +kernel
theorem d_K_obey_4 : decode b_K_obey 4 = .ok (.iload_n 1, 1) := by decide +kernel
theorem d_K_obey_5 : decode b_K_obey 5 = .ok (.aaload, 1) := by decide +kernel
theorem d_K_obey_6 : decode b_K_obey 6 = .ok (.astore_n 3, 1) := by decide +kernel
theorem d_K_obey_7 : decode b_K_obey 7 = .ok (.aload_n 3, 1) := by decide +kernel
theorem d_K_obey_8 : decode b_K_obey 8 = .ok (.getfield 88, 3) := by decide +kernel
theorem d_K_obey_11 : decode b_K_obey 11 = .ok (.astore 4, 2) := by decide +kernel
theorem d_K_obey_13 : decode b_K_obey 13 = .ok (.iload_n 2, 1) := by decide +kernel
theorem d_K_obey_14 : decode b_K_obey 14 = .ok (.iconst 4, 1) := by decide +kernel
theorem d_K_obey_15 : decode b_K_obey 15 = .ok (.ishr, 1) := by decide +kernel
theorem d_K_obey_16 : decode b_K_obey 16 = .ok (.iconst 3, 1) := by decide +kernel
theorem d_K_obey_17 : decode b_K_obey 17 = .ok (.iand, 1) := by decide +kernel
theorem d_K_obey_18 : decode b_K_obey 18 = .ok (.istore 5, 2) := by decide +kernel
theorem d_K_obey_20 : decode b_K_obey 20 = .ok (.aload 4, 2) := by decide +kernel
theorem d_K_obey_22 : decode b_K_obey 22 = .ok (.iload_n 2, 1) := by decide +kernel
theorem d_K_obey_23 : decode b_K_obey 23 = .ok (.bipush 6, 2) := by decide +kernel
theorem d_K_obey_25 : decode b_K_obey 25 = .ok (.ishr, 1) := by decide +kernel
theorem d_K_obey_26 : decode b_K_obey 26 = .ok (.iconst 3, 1) := by decide +kernel
theorem d_K_obey_27 : decode b_K_obey 27 = .ok (.iand, 1) := by decide +kernel
theorem d_K_obey_28 : decode b_K_obey 28 = .ok (.iaload, 1) := by decide +kernel
theorem d_K_obey_29 : decode b_K_obey 29 = .ok (.istore 6, 2) := by decide +kernel
theorem d_K_obey_31 : decode b_K_obey 31 = .ok (.iload_n 2, 1) := by decide +kernel
theorem d_K_obey_32 : decode b_K_obey 32 = .ok (.bipush 8, 2) := by decide +kernel
theorem d_K_obey_34 : decode b_K_obey 34 = .ok (.ishr, 1) := by decide +kernel
theorem d_K_obey_35 : decode b_K_obey 35 = .ok (.istore 7, 2) := by decide +kernel
theorem d_K_obey_37 : decode b_K_obey 37 = .ok (.iload_n 2, 1) := by decide +kernel
theorem d_K_obey_38 : decode b_K_obey 38 = .ok (.bipush 15, 2) := by decide +kernel
theorem d_K_obey_40 : decode b_K_obey 40 = .ok (.iand, 1) := by decide +kernel
theorem d_K_obey_41 : decode b_K_obey 41 = .ok (.tableswitch 222 0 9 #[55, 67, 76, 88, 100, 133, 166, 182, 190, 200], 55) := by decide +kernel
theorem d_K_obey_96 : decode b_K_obey 96 = .ok (.aload_n 0, 1) := by decide +kernel
theorem d_K_obey_97 : decode b_K_obey 97 = .ok (.iload_n 1, 1) := by decide +kernel
theorem d_K_obey_98 : decode b_K_obey 98 = .ok (.aload 4, 2) := by decide +kernel
theorem d_K_obey_100 : decode b_K_obey 100 = .ok (.iload 5, 2) := by decide +kernel
theorem d_K_obey_102 : decode b_K_obey 102 = .ok (.iaload, 1) := by decide +kernel
theorem d_K_obey_103 : decode b_K_obey 103 = .ok (.invokevirtual 62, 3) := by decide +kernel
theorem d_K_obey_106 : decode b_K_obey 106 = .ok (.iconst 1, 1) := by decide +kernel
theorem d_K_obey_107 : decode b_K_obey 107 = .ok (.ireturn, 1) := by decide +kernel
theorem d_K_obey_108 : decode b_K_obey 108 = .ok (.aload 4, 2) := by decide +kernel
theorem d_K_obey_110 : decode b_K_obey 110 = .ok (.iload 5, 2) := by decide +kernel
theorem d_K_obey_112 : decode b_K_obey 112 = .ok (.iload 7, 2) := by decide +kernel
theorem d_K_obey_114 : decode b_K_obey 114 = .ok (.iastore, 1) := by decide +kernel
theorem d_K_obey_115 : decode b_K_obey 115 = .ok (.iconst 1, 1) := by decide +kernel
theorem d_K_obey_116 : decode b_K_obey 116 = .ok (.ireturn, 1) := by decide +kernel
theorem d_K_obey_117 : decode b_K_obey 117 = .ok (.aload 4, 2) := by decide +kernel
theorem d_K_obey_119 : decode b_K_obey 119 = .ok (.iload 5, 2) := by decide +kernel
theorem d_K_obey_121 : decode b_K_obey 121 = .ok (.dup2, 1) := by decide +kernel
theorem d_K_obey_122 : decode b_K_obey 122 = .ok (.iaload, 1) := by decide +kernel
theorem d_K_obey_123 : decode b_K_obey 123 = .ok (.iload 6, 2) := by decide +kernel
theorem d_K_obey_125 : decode b_K_obey 125 = .ok (.iadd, 1) := by decide +kernel
theorem d_K_obey_126 : decode b_K_obey 126 = .ok (.iastore, 1) := by decide +kernel
theorem d_K_obey_127 : decode b_K_obey 127 = .ok (.iconst 1, 1) := by decide +kernel
theorem d_K_obey_128 : decode b_K_obey 128 = .ok (.ireturn, 1) := by decide +kernel
theorem d_K_obey_129 : decode b_K_obey 129 = .ok (.aload 4, 2) := by decide +kernel
theorem d_K_obey_131 : decode b_K_obey 131 = .ok (.iload 5, 2) := by decide +kernel
theorem d_K_obey_133 : decode b_K_obey 133 = .ok (.dup2, 1) := by decide +kernel
theorem d_K_obey_134 : decode b_K_obey 134 = .ok (.iaload, 1) := by decide +kernel
theorem d_K_obey_135 : decode b_K_obey 135 = .ok (.iload 6, 2) := by decide +kernel
theorem d_K_obey_137 : decode b_K_obey 137 = .ok (.isub, 1) := by decide +kernel
theorem d_K_obey_138 : decode b_K_obey 138 = .ok (.iastore, 1) := by decide +kernel
theorem d_K_obey_139 : decode b_K_obey 139 = .ok (.iconst 1, 1) := by decide +kernel
theorem d_K_obey_140 : decode b_K_obey 140 = .ok (.ireturn, 1) := by decide +kernel
theorem d_K_obey_141 : decode b_K_obey 141 = .ok (.iload 6, 2) := by decide +kernel
theorem d_K_obey_143 : decode b_K_obey 143 = .ok (.iload 7, 2) := by decide +kernel
theorem d_K_obey_145 : decode b_K_obey 145 = .ok (.iadd, 1) := by decide +kernel
theorem d_K_obey_146 : decode b_K_obey 146 = .ok (.invokestatic 43, 3) := by decide +kernel
theorem d_K_obey_149 : decode b_K_obey 149 = .ok (.ifCond .ne 5, 3) := by decide +kernel
theorem d_K_obey_152 : decode b_K_obey 152 = .ok (.iconst 0, 1) := by decide +kernel
theorem d_K_obey_153 : decode b_K_obey 153 = .ok (.ireturn, 1) := by decide +kernel
theorem d_K_obey_154 : decode b_K_obey 154 = .ok (.aload 4, 2) := by decide +kernel
theorem d_K_obey_156 : decode b_K_obey 156 = .ok (.iload 5, 2) := by decide +kernel
theorem d_K_obey_158 : decode b_K_obey 158 = .ok (.aload_n 0, 1) := by decide +kernel
theorem d_K_obey_159 : decode b_K_obey 159 = .ok (.getfield 18, 3) := by decide +kernel
theorem d_K_obey_162 : decode b_K_obey 162 = .ok (.aload_n 3, 1) := by decide +kernel
theorem d_K_obey_163 : decode b_K_obey 163 = .ok (.iload 6, 2) := by decide +kernel
theorem d_K_obey_165 : decode b_K_obey 165 = .ok (.iload 7, 2) := by decide +kernel
theorem d_K_obey_167 : decode b_K_obey 167 = .ok (.iadd, 1) := by decide +kernel
theorem d_K_obey_168 : decode b_K_obey 168 = .ok (.invokevirtual 146, 3) := by decide +kernel
theorem d_K_obey_171 : decode b_K_obey 171 = .ok (.iastore, 1) := by decide +kernel
theorem d_K_obey_172 : decode b_K_obey 172 = .ok (.iconst 1, 1) := by decide +kernel
theorem d_K_obey_173 : decode b_K_obey 173 = .ok (.ireturn, 1) := by decide +kernel
theorem d_K_obey_174 : decode b_K_obey 174 = .ok (.iload 6, 2) := by decide +kernel
theorem d_K_obey_176 : decode b_K_obey 176 = .ok (.iload 7, 2) := by decide +kernel
theorem d_K_obey_178 : decode b_K_obey 178 = .ok (.iadd, 1) := by decide +kernel
theorem d_K_obey_179 : decode b_K_obey 179 = .ok (.invokestatic 43, 3) := by decide +kernel
theorem d_K_obey_182 : decode b_K_obey 182 = .ok (.ifCond .ne 5, 3) := by decide +kernel
theorem d_K_obey_185 : decode b_K_obey 185 = .ok (.iconst 0, 1) := by decide +kernel
theorem d_K_obey_186 : decode b_K_obey 186 = .ok (.ireturn, 1) := by decide +kernel
theorem d_K_obey_187 : decode b_K_obey 187 = .ok (.aload_n 0, 1) := by decide +kernel
theorem d_K_obey_188 : decode b_K_obey 188 = .ok (.getfield 18, 3) := by decide +kernel
theorem d_K_obey_191 : decode b_K_obey 191 = .ok (.aload_n 3, 1) := by decide +kernel
theorem d_K_obey_192 : decode b_K_obey 192 = .ok (.iload 6, 2) := by decide +kernel
theorem d_K_obey_194 : decode b_K_obey 194 = .ok (.iload 7, 2) := by decide +kernel
theorem d_K_obey_196 : decode b_K_obey 196 = .ok (.iadd, 1) := by decide +kernel
theorem d_K_obey_197 : decode b_K_obey 197 = .ok (.aload 4, 2) := by decide +kernel
theorem d_K_obey_199 : decode b_K_obey 199 = .ok (.iload 5, 2) := by decide +kernel
theorem d_K_obey_201 : decode b_K_obey 201 = .ok (.iaload, 1) := by decide +kernel
theorem d_K_obey_202 : decode b_K_obey 202 = .ok (.invokevirtual 49, 3) := by decide +kernel
theorem d_K_obey_205 : decode b_K_obey 205 = .ok (.iconst 1, 1) := by decide +kernel
theorem d_K_obey_206 : decode b_K_obey 206 = .ok (.ireturn, 1) := by decide +kernel
theorem d_K_obey_207 : decode b_K_obey 207 = .ok (.aload 4, 2) := by decide +kernel
theorem d_K_obey_209 : decode b_K_obey 209 = .ok (.iload 5, 2) := by decide +kernel
theorem d_K_obey_211 : decode b_K_obey 211 = .ok (.iaload, 1) := by decide +kernel
theorem d_K_obey_212 : decode b_K_obey 212 = .ok (.ifCond .ne 9, 3) := by decide +kernel
theorem d_K_obey_215 : decode b_K_obey 215 = .ok (.aload_n 3, 1) := by decide +kernel
theorem d_K_obey_216 : decode b_K_obey 216 = .ok (.iload 7, 2) := by decide +kernel
theorem d_K_obey_218 : decode b_K_obey 218 = .ok (.putfield 143, 3) := by decide +kernel
theorem d_K_obey_221 : decode b_K_obey 221 = .ok (.iconst 1, 1) := by decide +kernel
theorem d_K_obey_222 : decode b_K_obey 222 = .ok (.ireturn, 1) := by decide +kernel
theorem d_K_obey_223 : decode b_K_obey 223 = .ok (.aload_n 3, 1) := by decide +kernel
theorem d_K_obey_224 : decode b_K_obey 224 = .ok (.iload 7, 2) := by decide +kernel
theorem d_K_obey_226 : decode b_K_obey 226 = .ok (.putfield 143, 3) := by decide +kernel
theorem d_K_obey_229 : decode b_K_obey 229 = .ok (.iconst 1, 1) := by decide +kernel
theorem d_K_obey_230 : decode b_K_obey 230 = .ok (.ireturn, 1) := by decide +kernel
theorem d_K_obey_231 : decode b_K_obey 231 = .ok (.aload_n 0, 1) := by decide +kernel
theorem d_K_obey_232 : decode b_K_obey 232 = .ok (.iload_n 1, 1) := by decide +kernel
theorem d_K_obey_233 : decode b_K_obey 233 = .ok (.iload 5, 2) := by decide +kernel
theorem d_K_obey_235 : decode b_K_obey 235 = .ok (.iload 7, 2) := by decide +kernel
theorem d_K_obey_237 : decode b_K_obey 237 = .ok (.invokevirtual 154, 3) := by decide +kernel
theorem d_K_obey_240 : decode b_K_obey 240 = .ok (.ireturn, 1) := by decide +kernel
theorem d_K_obey_241 : decode b_K_obey 241 = .ok (.aload 4, 2) := by decide +kernel
theorem d_K_obey_243 : decode b_K_obey 243 = .ok (.iload 5, 2) := by decide +kernel
theorem d_K_obey_245 : decode b_K_obey 245 = .ok (.aload 4, 2) := by decide +kernel
theorem d_K_obey_247 : decode b_K_obey 247 = .ok (.iload 5, 2) := by decide +kernel
theorem d_K_obey_249 : decode b_K_obey 249 = .ok (.iaload, 1) := by decide +kernel
theorem d_K_obey_250 : decode b_K_obey 250 = .ok (.iload 6, 2) := by decide +kernel
theorem d_K_obey_252 : decode b_K_obey 252 = .ok (.if_icmp .ge 7, 3) := by decide +kernel
theorem d_K_obey_255 : decode b_K_obey 255 = .ok (.iconst 1, 1) := by decide +kernel
theorem d_K_obey_256 : decode b_K_obey 256 = .ok (.goto 4, 3) := by decide +kernel
theorem d_K_obey_259 : decode b_K_obey 259 = .ok (.iconst 0, 1) := by decide +kernel
theorem d_K_obey_260 : decode b_K_obey 260 = .ok (.iastore, 1) := by decide +kernel
theorem d_K_obey_261 : decode b_K_obey 261 = .ok (.iconst 1, 1) := by decide +kernel
theorem d_K_obey_262 : decode b_K_obey 262 = .ok (.ireturn, 1) := by decide +kernel
theorem d_K_obey_263 : decode b_K_obey 263 = .ok (.iconst 0, 1) := by decide +kernel
theorem d_K_obey_264 : decode b_K_obey 264 = .ok (.ireturn, 1) := by decide +kernel
end
section
theorem d_K_callSystem_0 : decode b_K_callSystem 0 = .ok (.aload_n 0, 1) := by decide +kernel
theorem d_K_callSystem_1 : decode b_K_callSystem 1 = .ok (.getfield 11, 3) := by decide +kernel
theorem d_K_callSystem_4 : decode b_K_callSystem 4 = .ok (.iload_n 1, 1) := by decide +kernel
theorem d_K_callSystem_5 : decode b_K_callSystem 5 = .ok (.aaload, 1) := by decide +kernel
theorem d_K_callSystem_6 : decode b_K_callSystem 6 = .ok (.astore 4, 2) := by decide +kernel
theorem d_K_callSystem_8 : decode b_K_callSystem 8 = .ok (.iload_n 3, 1) := by decide +kernel
theorem d_K_callSystem_9 : decode b_K_callSystem 9 = .ok (.tableswitch 100 0 5 #[39, 52, 60, 67, 82, 90], 39) := by decide +kernel
theorem d_K_callSystem_48 : decode b_K_callSystem 48 = .ok (.aload_n 0, 1) := by decide +kernel
theorem d_K_callSystem_49 : decode b_K_callSystem 49 = .ok (.aload 4, 2) := by decide +kernel
theorem d_K_callSystem_51 : decode b_K_callSystem 51 = .ok (.getfield 88, 3) := by decide +kernel
theorem d_K_callSystem_54 : decode b_K_callSystem 54 = .ok (.iload_n 2, 1) := by decide +kernel
theorem d_K_callSystem_55 : decode b_K_callSystem 55 = .ok (.iaload, 1) := by decide +kernel
theorem d_K_callSystem_56 : decode b_K_callSystem 56 = .ok (.invokevirtual 158, 3) := by decide +kernel
theorem d_K_callSystem_59 : decode b_K_callSystem 59 = .ok (.iconst 1, 1) := by decide +kernel
theorem d_K_callSystem_60 : decode b_K_callSystem 60 = .ok (.ireturn, 1) := by decide +kernel
theorem d_K_callSystem_61 : decode b_K_callSystem 61 = .ok (.aload_n 0, 1) := by decide +kernel
theorem d_K_callSystem_62 : decode b_K_callSystem 62 = .ok (.iload_n 1, 1) := by decide +kernel
theorem d_K_callSystem_63 : decode b_K_callSystem 63 = .ok (.iload_n 2, 1) := by decide +kernel
theorem d_K_callSystem_64 : decode b_K_callSystem 64 = .ok (.invokevirtual 161, 3) := by decide +kernel
theorem d_K_callSystem_67 : decode b_K_callSystem 67 = .ok (.iconst 1, 1) := by decide +kernel
theorem d_K_callSystem_68 : decode b_K_callSystem 68 = .ok (.ireturn, 1) := by decide +kernel
theorem d_K_callSystem_69 : decode b_K_callSystem 69 = .ok (.aload_n 0, 1) := by decide +kernel
theorem d_K_callSystem_70 : decode b_K_callSystem 70 = .ok (.iconst 1, 1) := by decide +kernel
theorem d_K_callSystem_71 : decode b_K_callSystem 71 = .ok (.putfield 136, 3) := by decide +kernel
theorem d_K_callSystem_74 : decode b_K_callSystem 74 = .ok (.iconst 1, 1) := by decide +kernel
theorem d_K_callSystem_75 : decode b_K_callSystem 75 = .ok (.ireturn, 1) := by decide +kernel
theorem d_K_callSystem_76 : decode b_K_callSystem 76 = .ok (.aload_n 0, 1) := by decide +kernel
theorem d_K_callSystem_77 : decode b_K_callSystem 77 = .ok (.aload 4, 2) := by decide +kernel
theorem d_K_callSystem_79 : decode b_K_callSystem 79 = .ok (.aload 4, 2) := by decide +kernel
theorem d_K_callSystem_81 : decode b_K_callSystem 81 = .ok (.getfield 88, 3) := by decide +kernel
theorem d_K_callSystem_84 : decode b_K_callSystem 84 = .ok (.iload_n 2, 1) := by decide +kernel
theorem d_K_callSystem_85 : decode b_K_callSystem 85 = .ok (.iaload, 1) := by decide +kernel
theorem d_K_callSystem_86 : decode b_K_callSystem 86 = .ok (.invokevirtual 164, 3) := by decide +kernel
theorem d_K_callSystem_89 : decode b_K_callSystem 89 = .ok (.iconst 1, 1) := by decide +kernel
theorem d_K_callSystem_90 : decode b_K_callSystem 90 = .ok (.ireturn, 1) := by decide +kernel
theorem d_K_callSystem_91 : decode b_K_callSystem 91 = .ok (.aload_n 0, 1) := by decide +kernel
theorem d_K_callSystem_92 : decode b_K_callSystem 92 = .ok (.iload_n 1, 1) := by decide +kernel
theorem d_K_callSystem_93 : decode b_K_callSystem 93 = .ok (.iload_n 2, 1) := by decide +kernel
theorem d_K_callSystem_94 : decode b_K_callSystem 94 = .ok (.invokevirtual 168, 3) := by decide +kernel
theorem d_K_callSystem_97 : decode b_K_callSystem 97 = .ok (.iconst 1, 1) := by decide +kernel
theorem d_K_callSystem_98 : decode b_K_callSystem 98 = .ok (.ireturn, 1) := by decide +kernel
theorem d_K_callSystem_99 : decode b_K_callSystem 99 = .ok (.aload 4, 2) := by decide +kernel
theorem d_K_callSystem_101 : decode b_K_callSystem 101 = .ok (.getfield 88, 3) := by decide +kernel
theorem d_K_callSystem_104 : decode b_K_callSystem 104 = .ok (.iload_n 2, 1) := by decide +kernel
theorem d_K_callSystem_105 : decode b_K_callSystem 105 = .ok (.iload_n 1, 1) := by decide +kernel
theorem d_K_callSystem_106 : decode b_K_callSystem 106 = .ok (.iastore, 1) := by decide +kernel
theorem d_K_callSystem_107 : decode b_K_callSystem 107 = .ok (.iconst 1, 1) := by decide +kernel
theorem d_K_callSystem_108 : decode b_K_callSystem 108 = .ok (.ireturn, 1) := by decide +kernel
theorem d_K_callSystem_109 : decode b_K_callSystem 109 = .ok (.iconst 0, 1) := by decide +kernel
theorem d_K_callSystem_110 : decode b_K_callSystem 110 = .ok (.ireturn, 1) := by decide +kernel
theorem d_K_print_0 : decode b_K_print 0 = .ok (.aload_n 0, 1) := by decide +kernel
theorem d_K_print_1 : decode b_K_print 1 = .ok (.getfield 99, 3) := by decide +kernel
theorem d_K_print_4 : decode b_K_print 4 = .ok (.bipush 40, 2) := by decide +kernel
theorem d_K_print_6 : decode b_K_print 6 = .ok (.if_icmp .ge 13, 3) := by decide +kernel
theorem d_K_print_9 : decode b_K_print 9 = .ok (.aload_n 0, 1) := by decide +kernel
theorem d_K_print_10 : decode b_K_print 10 = .ok (.getfield 22, 3) := by decide +kernel
theorem d_K_print_13 : decode b_K_print 13 = .ok (.aload_n 0, 1) := by decide +kernel
theorem d_K_print_14 : decode b_K_print 14 = .ok (.getfield 99, 3) := by decide +kernel
theorem d_K_print_17 : decode b_K_print 17 = .ok (.iload_n 1, 1) := by decide +kernel
theorem d_K_print_18 : decode b_K_print 18 = .ok (.iastore, 1) := by decide +kernel
theorem d_K_print_19 : decode b_K_print 19 = .ok (.aload_n 0, 1) := by decide +kernel
theorem d_K_print_20 : decode b_K_print 20 = .ok (.dup, 1) := by decide +kernel
theorem d_K_print_21 : decode b_K_print 21 = .ok (.getfield 99, 3) := by decide +kernel
theorem d_K_print_24 : decode b_K_print 24 = .ok (.iconst 1, 1) := by decide +kernel
theorem d_K_print_25 : decode b_K_print 25 = .ok (.iadd, 1) := by decide +kernel
theorem d_K_print_26 : decode b_K_print 26 = .ok (.putfield 99, 3) := by decide +kernel
theorem d_K_print_29 : decode b_K_print 29 = .ok (.return_, 1) := by decide +kernel
theorem d_K_fork_0 : decode b_K_fork 0 = .ok (.aload_n 0, 1) := by decide +kernel
theorem d_K_fork_1 : decode b_K_fork 1 = .ok (.getfield 11, 3) := by decide +kernel
theorem d_K_fork_4 : decode b_K_fork 4 = .ok (.iload_n 1, 1) := by decide +kernel
theorem d_K_fork_5 : decode b_K_fork 5 = .ok (.aaload, 1) := by decide +kernel
theorem d_K_fork_6 : decode b_K_fork 6 = .ok (.astore_n 3, 1) := by decide +kernel
theorem d_K_fork_7 : decode b_K_fork 7 = .ok (.aload_n 0, 1) := by decide +kernel
theorem d_K_fork_8 : decode b_K_fork 8 = .ok (.invokevirtual 31, 3) := by decide +kernel
theorem d_K_fork_11 : decode b_K_fork 11 = .ok (.istore 4, 2) := by decide +kernel
theorem d_K_fork_13 : decode b_K_fork 13 = .ok (.iload 4, 2) := by decide +kernel
theorem d_K_fork_15 : decode b_K_fork 15 = .ok (.bipush (-2), 2) := by decide +kernel
theorem d_K_fork_17 : decode b_K_fork 17 = .ok (.if_icmp .ne 12, 3) := by decide +kernel
theorem d_K_fork_20 : decode b_K_fork 20 = .ok (.aload_n 3, 1) := by decide +kernel
theorem d_K_fork_21 : decode b_K_fork 21 = .ok (.getfield 88, 3) := by decide +kernel
theorem d_K_fork_24 : decode b_K_fork 24 = .ok (.iload_n 2, 1) := by decide +kernel
theorem d_K_fork_25 : decode b_K_fork 25 = .ok (.bipush (-2), 2) := by decide +kernel
theorem d_K_fork_27 : decode b_K_fork 27 = .ok (.iastore, 1) := by decide +kernel
theorem d_K_fork_28 : decode b_K_fork 28 = .ok (.return_, 1) := by decide +kernel
theorem d_K_fork_29 : decode b_K_fork 29 = .ok (.aload_n 0, 1) := by decide +kernel
theorem d_K_fork_30 : decode b_K_fork 30 = .ok (.getfield 11, 3) := by decide +kernel
theorem d_K_fork_33 : decode b_K_fork 33 = .ok (.iload 4, 2) := by decide +kernel
theorem d_K_fork_35 : decode b_K_fork 35 = .ok (.aaload, 1) := by decide +kernel
theorem d_K_fork_36 : decode b_K_fork 36 = .ok (.astore 5, 2) := by decide +kernel
theorem d_K_fork_38 : decode b_K_fork 38 = .ok (.aload 5, 2) := by decide +kernel
theorem d_K_fork_40 : decode b_K_fork 40 = .ok (.iload_n 1, 1) := by decide +kernel
theorem d_K_fork_41 : decode b_K_fork 41 = .ok (.invokevirtual 35, 3) := by decide +kernel
theorem d_K_fork_44 : decode b_K_fork 44 = .ok (.aload 5, 2) := by decide +kernel
theorem d_K_fork_46 : decode b_K_fork 46 = .ok (.aload_n 3, 1) := by decide +kernel
theorem d_K_fork_47 : decode b_K_fork 47 = .ok (.getfield 143, 3) := by decide +kernel
theorem d_K_fork_50 : decode b_K_fork 50 = .ok (.putfield 143, 3) := by decide +kernel
theorem d_K_fork_53 : decode b_K_fork 53 = .ok (.iconst 0, 1) := by decide +kernel
theorem d_K_fork_54 : decode b_K_fork 54 = .ok (.istore 6, 2) := by decide +kernel
theorem d_K_fork_56 : decode b_K_fork 56 = .ok (.iload 6, 2) := by decide +kernel
theorem d_K_fork_58 : decode b_K_fork 58 = .ok (.iconst 4, 1) := by decide +kernel
theorem d_K_fork_59 : decode b_K_fork 59 = .ok (.if_icmp .ge 24, 3) := by decide +kernel
theorem d_K_fork_62 : decode b_K_fork 62 = .ok (.aload 5, 2) := by decide +kernel
theorem d_K_fork_64 : decode b_K_fork 64 = .ok (.getfield 88, 3) := by decide +kernel
theorem d_K_fork_67 : decode b_K_fork 67 = .ok (.iload 6, 2) := by decide +kernel
theorem d_K_fork_69 : decode b_K_fork 69 = .ok (.aload_n 3, 1) := by decide +kernel
theorem d_K_fork_70 : decode b_K_fork 70 = .ok (.getfield 88, 3) := by decide +kernel
theorem d_K_fork_73 : decode b_K_fork 73 = .ok (.iload 6, 2) := by decide +kernel
theorem d_K_fork_75 : decode b_K_fork 75 = .ok (.iaload, 1) := by decide +kernel
theorem d_K_fork_76 : decode b_K_fork 76 = .ok (.iastore, 1) := by decide +kernel
theorem d_K_fork_77 : decode b_K_fork 77 = .ok (.iinc 6 1, 3) := by decide +kernel
theorem d_K_fork_80 : decode b_K_fork 80 = .ok (.goto (-24), 3) := by decide +kernel
theorem d_K_fork_83 : decode b_K_fork 83 = .ok (.aload 5, 2) := by decide +kernel
theorem d_K_fork_85 : decode b_K_fork 85 = .ok (.getfield 88, 3) := by decide +kernel
theorem d_K_fork_88 : decode b_K_fork 88 = .ok (.iload_n 2, 1) := by decide +kernel
theorem d_K_fork_89 : decode b_K_fork 89 = .ok (.iconst (-1), 1) := by decide +kernel
theorem d_K_fork_90 : decode b_K_fork 90 = .ok (.iastore, 1) := by decide +kernel
theorem d_K_fork_91 : decode b_K_fork 91 = .ok (.aload_n 3, 1) := by decide +kernel
theorem d_K_fork_92 : decode b_K_fork 92 = .ok (.getfield 88, 3) := by decide +kernel
theorem d_K_fork_95 : decode b_K_fork 95 = .ok (.iload_n 2, 1) := by decide +kernel
theorem d_K_fork_96 : decode b_K_fork 96 = .ok (.iload 4, 2) := by decide +kernel
theorem d_K_fork_98 : decode b_K_fork 98 = .ok (.iastore, 1) := by decide +kernel
theorem d_K_fork_99 : decode b_K_fork 99 = .ok (.iconst 0, 1) := by decide +kernel
theorem d_K_fork_100 : decode b_K_fork 100 = .ok (.istore 6, 2) := by decide +kernel
theorem d_K_fork_102 : decode b_K_fork 102 = .ok (.iload 6, 2) := by decide +kernel
theorem d_K_fork_104 : decode b_K_fork 104 = .ok (.bipush 8, 2) := by decide +kernel
theorem d_K_fork_106 : decode b_K_fork 106 = .ok (.if_icmp .ge 44, 3) := by decide +kernel
theorem d_K_fork_109 : decode b_K_fork 109 = .ok (.aload_n 3, 1) := by decide +kernel
theorem d_K_fork_110 : decode b_K_fork 110 = .ok (.getfield 53, 3) := by decide +kernel
theorem d_K_fork_113 : decode b_K_fork 113 = .ok (.iload 6, 2) := by decide +kernel
theorem d_K_fork_115 : decode b_K_fork 115 = .ok (.aaload, 1) := by decide +kernel
theorem d_K_fork_116 : decode b_K_fork 116 = .ok (.astore 7, 2) := by decide +kernel
theorem d_K_fork_118 : decode b_K_fork 118 = .ok (.aload 7, 2) := by decide +kernel
theorem d_K_fork_120 : decode b_K_fork 120 = .ok (.ifnull 24, 3) := by decide +kernel
theorem d_K_fork_123 : decode b_K_fork 123 = .ok (.aload 7, 2) := by decide +kernel
theorem d_K_fork_125 : decode b_K_fork 125 = .ok (.dup, 1) := by decide +kernel
theorem d_K_fork_126 : decode b_K_fork 126 = .ok (.getfield 171, 3) := by decide +kernel
theorem d_K_fork_129 : decode b_K_fork 129 = .ok (.iconst 1, 1) := by decide +kernel
theorem d_K_fork_130 : decode b_K_fork 130 = .ok (.iadd, 1) := by decide +kernel
theorem d_K_fork_131 : decode b_K_fork 131 = .ok (.putfield 171, 3) := by decide +kernel
theorem d_K_fork_134 : decode b_K_fork 134 = .ok (.aload 5, 2) := by decide +kernel
theorem d_K_fork_136 : decode b_K_fork 136 = .ok (.getfield 53, 3) := by decide +kernel
theorem d_K_fork_139 : decode b_K_fork 139 = .ok (.iload 6, 2) := by decide +kernel
theorem d_K_fork_141 : decode b_K_fork 141 = .ok (.aload 7, 2) := by decide +kernel
theorem d_K_fork_143 : decode b_K_fork 143 = .ok (.aastore, 1) := by decide +kernel
theorem d_K_fork_144 : decode b_K_fork 144 = .ok (.iinc 6 1, 3) := by decide +kernel
theorem d_K_fork_147 : decode b_K_fork 147 = .ok (.goto (-45), 3) := by decide +kernel
theorem d_K_fork_150 : decode b_K_fork 150 = .ok (.return_, 1) := by decide +kernel
theorem d_K_sleep_0 : decode b_K_sleep 0 = .ok (.iload_n 2, 1) := by decide +kernel
theorem d_K_sleep_1 : decode b_K_sleep 1 = .ok (.iconst 1, 1) := by decide +kernel
theorem d_K_sleep_2 : decode b_K_sleep 2 = .ok (.if_icmp .lt 13, 3) := by decide +kernel
theorem d_K_sleep_5 : decode b_K_sleep 5 = .ok (.aload_n 1, 1) := by decide +kernel
theorem d_K_sleep_6 : decode b_K_sleep 6 = .ok (.iconst 2, 1) := by decide +kernel
theorem d_K_sleep_7 : decode b_K_sleep 7 = .ok (.putfield 85, 3) := by decide +kernel
theorem d_K_sleep_10 : decode b_K_sleep 10 = .ok (.aload_n 1, 1) := by decide +kernel
theorem d_K_sleep_11 : decode b_K_sleep 11 = .ok (.iload_n 2, 1) := by decide +kernel
theorem d_K_sleep_12 : decode b_K_sleep 12 = .ok (.putfield 133, 3) := by decide +kernel
theorem d_K_sleep_15 : decode b_K_sleep 15 = .ok (.return_, 1) := by decide +kernel
theorem d_K_awaitChild_0 : decode b_K_awaitChild 0 = .ok (.aload_n 0, 1) := by decide +kernel
theorem d_K_awaitChild_1 : decode b_K_awaitChild 1 = .ok (.getfield 11, 3) := by decide +kernel
theorem d_K_awaitChild_4 : decode b_K_awaitChild 4 = .ok (.iload_n 1, 1) := by decide +kernel
theorem d_K_awaitChild_5 : decode b_K_awaitChild 5 = .ok (.aaload, 1) := by decide +kernel
theorem d_K_awaitChild_6 : decode b_K_awaitChild 6 = .ok (.astore_n 3, 1) := by decide +kernel
theorem d_K_awaitChild_7 : decode b_K_awaitChild 7 = .ok (.iconst 0, 1) := by decide +kernel
theorem d_K_awaitChild_8 : decode b_K_awaitChild 8 = .ok (.istore 4, 2) := by decide +kernel
theorem d_K_awaitChild_10 : decode b_K_awaitChild 10 = .ok (.iconst 0, 1) := by decide +kernel
theorem d_K_awaitChild_11 : decode b_K_awaitChild 11 = .ok (.istore 5, 2) := by decide +kernel
theorem d_K_awaitChild_13 : decode b_K_awaitChild 13 = .ok (.iload 5, 2) := by decide +kernel
theorem d_K_awaitChild_15 : decode b_K_awaitChild 15 = .ok (.iconst 4, 1) := by decide +kernel
theorem d_K_awaitChild_16 : decode b_K_awaitChild 16 = .ok (.if_icmp .ge 56, 3) := by decide +kernel
theorem d_K_awaitChild_19 : decode b_K_awaitChild 19 = .ok (.aload_n 0, 1) := by decide +kernel
theorem d_K_awaitChild_20 : decode b_K_awaitChild 20 = .ok (.getfield 11, 3) := by decide +kernel
theorem d_K_awaitChild_23 : decode b_K_awaitChild 23 = .ok (.iload 5, 2) := by decide +kernel
theorem d_K_awaitChild_25 : decode b_K_awaitChild 25 = .ok (.aaload, 1) := by decide +kernel
theorem d_K_awaitChild_26 : decode b_K_awaitChild 26 = .ok (.astore 6, 2) := by decide +kernel
theorem d_K_awaitChild_28 : decode b_K_awaitChild 28 = .ok (.aload 6, 2) := by decide +kernel
theorem d_K_awaitChild_30 : decode b_K_awaitChild 30 = .ok (.getfield 174, 3) := by decide +kernel
theorem d_K_awaitChild_33 : decode b_K_awaitChild 33 = .ok (.iload_n 1, 1) := by decide +kernel
theorem d_K_awaitChild_34 : decode b_K_awaitChild 34 = .ok (.if_icmp .ne 32, 3) := by decide +kernel
theorem d_K_awaitChild_37 : decode b_K_awaitChild 37 = .ok (.aload 6, 2) := by decide +kernel
theorem d_K_awaitChild_39 : decode b_K_awaitChild 39 = .ok (.getfield 85, 3) := by decide +kernel
theorem d_K_awaitChild_42 : decode b_K_awaitChild 42 = .ok (.iconst 4, 1) := by decide +kernel
theorem d_K_awaitChild_43 : decode b_K_awaitChild 43 = .ok (.if_icmp .ne 20, 3) := by decide +kernel
theorem d_K_awaitChild_46 : decode b_K_awaitChild 46 = .ok (.aload_n 3, 1) := by decide +kernel
theorem d_K_awaitChild_47 : decode b_K_awaitChild 47 = .ok (.getfield 88, 3) := by decide +kernel
theorem d_K_awaitChild_50 : decode b_K_awaitChild 50 = .ok (.iload_n 2, 1) := by decide +kernel
theorem d_K_awaitChild_51 : decode b_K_awaitChild 51 = .ok (.aload 6, 2) := by decide +kernel
theorem d_K_awaitChild_53 : decode b_K_awaitChild 53 = .ok (.getfield 177, 3) := by decide +kernel
theorem d_K_awaitChild_56 : decode b_K_awaitChild 56 = .ok (.iastore, 1) := by decide +kernel
theorem d_K_awaitChild_57 : decode b_K_awaitChild 57 = .ok (.aload 6, 2) := by decide +kernel
theorem d_K_awaitChild_59 : decode b_K_awaitChild 59 = .ok (.invokevirtual 180, 3) := by decide +kernel
theorem d_K_awaitChild_62 : decode b_K_awaitChild 62 = .ok (.return_, 1) := by decide +kernel
theorem d_K_awaitChild_63 : decode b_K_awaitChild 63 = .ok (.iconst 1, 1) := by decide +kernel
theorem d_K_awaitChild_64 : decode b_K_awaitChild 64 = .ok (.istore 4, 2) := by decide +kernel
theorem d_K_awaitChild_66 : decode b_K_awaitChild 66 = .ok (.iinc 5 1, 3) := by decide +kernel
theorem d_K_awaitChild_69 : decode b_K_awaitChild 69 = .ok (.goto (-56), 3) := by decide +kernel
theorem d_K_awaitChild_72 : decode b_K_awaitChild 72 = .ok (.iload 4, 2) := by decide +kernel
theorem d_K_awaitChild_74 : decode b_K_awaitChild 74 = .ok (.ifCond .eq 21, 3) := by decide +kernel
theorem d_K_awaitChild_77 : decode b_K_awaitChild 77 = .ok (.aload_n 3, 1) := by decide +kernel
theorem d_K_awaitChild_78 : decode b_K_awaitChild 78 = .ok (.iconst 3, 1) := by decide +kernel
theorem d_K_awaitChild_79 : decode b_K_awaitChild 79 = .ok (.putfield 85, 3) := by decide +kernel
theorem d_K_awaitChild_82 : decode b_K_awaitChild 82 = .ok (.aload_n 3, 1) := by decide +kernel
theorem d_K_awaitChild_83 : decode b_K_awaitChild 83 = .ok (.dup, 1) := by decide +kernel
theorem d_K_awaitChild_84 : decode b_K_awaitChild 84 = .ok (.getfield 143, 3) := by decide +kernel
theorem d_K_awaitChild_87 : decode b_K_awaitChild 87 = .ok (.iconst 1, 1) := by decide +kernel
theorem d_K_awaitChild_88 : decode b_K_awaitChild 88 = .ok (.isub, 1) := by decide +kernel
theorem d_K_awaitChild_89 : decode b_K_awaitChild 89 = .ok (.putfield 143, 3) := by decide +kernel
theorem d_K_awaitChild_92 : decode b_K_awaitChild 92 = .ok (.goto 11, 3) := by decide +kernel
theorem d_K_awaitChild_95 : decode b_K_awaitChild 95 = .ok (.aload_n 3, 1) := by decide +kernel
theorem d_K_awaitChild_96 : decode b_K_awaitChild 96 = .ok (.getfield 88, 3) := by decide +kernel
theorem d_K_awaitChild_99 : decode b_K_awaitChild 99 = .ok (.iload_n 2, 1) := by decide +kernel
theorem d_K_awaitChild_100 : decode b_K_awaitChild 100 = .ok (.bipush (-2), 2) := by decide +kernel
theorem d_K_awaitChild_102 : decode b_K_awaitChild 102 = .ok (.iastore, 1) := by decide +kernel
theorem d_K_awaitChild_103 : decode b_K_awaitChild 103 = .ok (.return_, 1) := by decide +kernel
theorem d_K_process_0 : decode b_K_process 0 = .ok (.iload_n 2, 1) := by decide +kernel
theorem d_K_process_1 : decode b_K_process 1 = .ok (.bipush 10, 2) := by decide +kernel
theorem d_K_process_3 : decode b_K_process 3 = .ok (.if_icmp .lt 13, 3) := by decide +kernel
theorem d_K_process_6 : decode b_K_process 6 = .ok (.iload_n 2, 1) := by decide +kernel
theorem d_K_process_7 : decode b_K_process 7 = .ok (.bipush 14, 2) := by decide +kernel
theorem d_K_process_9 : decode b_K_process 9 = .ok (.if_icmp .ge 7, 3) := by decide +kernel
theorem d_K_process_12 : decode b_K_process 12 = .ok (.iconst 1, 1) := by decide +kernel
theorem d_K_process_13 : decode b_K_process 13 = .ok (.goto 4, 3) := by decide +kernel
theorem d_K_process_16 : decode b_K_process 16 = .ok (.iconst 0, 1) := by decide +kernel
theorem d_K_process_17 : decode b_K_process 17 = .ok (.istore_n 3, 1) := by decide +kernel
theorem d_K_process_18 : decode b_K_process 18 = .ok (.iload_n 1, 1) := by decide +kernel
theorem d_K_process_19 : decode b_K_process 19 = .ok (.invokestatic 82, 3) := by decide +kernel
theorem d_K_process_22 : decode b_K_process 22 = .ok (.ifCond .eq 17, 3) := by decide +kernel
theorem d_K_process_25 : decode b_K_process 25 = .ok (.iload_n 2, 1) := by decide +kernel
theorem d_K_process_26 : decode b_K_process 26 = .ok (.ifCond .lt 13, 3) := by decide +kernel
theorem d_K_process_29 : decode b_K_process 29 = .ok (.iload_n 2, 1) := by decide +kernel
theorem d_K_process_30 : decode b_K_process 30 = .ok (.bipush 6, 2) := by decide +kernel
theorem d_K_process_32 : decode b_K_process 32 = .ok (.if_icmp .le 9, 3) := by decide +kernel
theorem d_K_process_35 : decode b_K_process 35 = .ok (.iload_n 3, 1) := by decide +kernel
theorem d_K_process_36 : decode b_K_process 36 = .ok (.ifCond .ne 5, 3) := by decide +kernel
theorem d_K_process_39 : decode b_K_process 39 = .ok (.iconst (-1), 1) := by decide +kernel
theorem d_K_process_40 : decode b_K_process 40 = .ok (.ireturn, 1) := by decide +kernel
theorem d_K_process_41 : decode b_K_process 41 = .ok (.aload_n 0, 1) := by decide +kernel
theorem d_K_process_42 : decode b_K_process 42 = .ok (.getfield 11, 3) := by decide +kernel
theorem d_K_process_45 : decode b_K_process 45 = .ok (.iload_n 1, 1) := by decide +kernel
theorem d_K_process_46 : decode b_K_process 46 = .ok (.aaload, 1) := by decide +kernel
theorem d_K_process_47 : decode b_K_process 47 = .ok (.astore 4, 2) := by decide +kernel
theorem d_K_process_49 : decode b_K_process 49 = .ok (.aload 4, 2) := by decide +kernel
theorem d_K_process_51 : decode b_K_process 51 = .ok (.getfield 85, 3) := by decide +kernel
theorem d_K_process_54 : decode b_K_process 54 = .ok (.ifCond .ne 5, 3) := by decide +kernel
theorem d_K_process_57 : decode b_K_process 57 = .ok (.iconst 0, 1) := by decide +kernel
theorem d_K_process_58 : decode b_K_process 58 = .ok (.ireturn, 1) := by decide +kernel
theorem d_K_process_59 : decode b_K_process 59 = .ok (.iload_n 3, 1) := by decide +kernel
theorem d_K_process_60 : decode b_K_process 60 = .ok (.ifCond .eq 16, 3) := by decide +kernel
theorem d_K_process_63 : decode b_K_process 63 = .ok (.aload 4, 2) := by decide +kernel
theorem d_K_process_65 : decode b_K_process 65 = .ok (.getfield 88, 3) := by decide +kernel
theorem d_K_process_68 : decode b_K_process 68 = .ok (.iload_n 2, 1) := by decide +kernel
theorem d_K_process_69 : decode b_K_process 69 = .ok (.bipush 10, 2) := by decide +kernel
theorem d_K_process_71 : decode b_K_process 71 = .ok (.isub, 1) := by decide +kernel
theorem d_K_process_72 : decode b_K_process 72 = .ok (.iaload, 1) := by decide +kernel
theorem d_K_process_73 : decode b_K_process 73 = .ok (.goto 9, 3) := by decide +kernel
theorem d_K_process_76 : decode b_K_process 76 = .ok (.aload 4, 2) := by decide +kernel
theorem d_K_process_78 : decode b_K_process 78 = .ok (.iload_n 2, 1) := by decide +kernel
theorem d_K_process_79 : decode b_K_process 79 = .ok (.invokevirtual 91, 3) := by decide +kernel
theorem d_K_process_82 : decode b_K_process 82 = .ok (.ireturn, 1) := by decide +kernel
theorem d_T_tell_0 : decode b_T_tell 0 = .ok (.iload_n 1, 1) := by decide +kernel
theorem d_T_tell_1 : decode b_T_tell 1 = .ok (.tableswitch 81 0 5 #[39, 44, 49, 54, 59, 76], 39) := by decide +kernel
theorem d_T_tell_40 : decode b_T_tell 40 = .ok (.aload_n 0, 1) := by decide +kernel
theorem d_T_tell_41 : decode b_T_tell 41 = .ok (.getfield 21, 3) := by decide +kernel
theorem d_T_tell_44 : decode b_T_tell 44 = .ok (.ireturn, 1) := by decide +kernel
theorem d_T_tell_45 : decode b_T_tell 45 = .ok (.aload_n 0, 1) := by decide +kernel
theorem d_T_tell_46 : decode b_T_tell 46 = .ok (.getfield 34, 3) := by decide +kernel
theorem d_T_tell_49 : decode b_T_tell 49 = .ok (.ireturn, 1) := by decide +kernel
theorem d_T_tell_50 : decode b_T_tell 50 = .ok (.aload_n 0, 1) := by decide +kernel
theorem d_T_tell_51 : decode b_T_tell 51 = .ok (.getfield 25, 3) := by decide +kernel
theorem d_T_tell_54 : decode b_T_tell 54 = .ok (.ireturn, 1) := by decide +kernel
theorem d_T_tell_55 : decode b_T_tell 55 = .ok (.aload_n 0, 1) := by decide +kernel
theorem d_T_tell_56 : decode b_T_tell 56 = .ok (.getfield 37, 3) := by decide +kernel
theorem d_T_tell_59 : decode b_T_tell 59 = .ok (.ireturn, 1) := by decide +kernel
theorem d_T_tell_60 : decode b_T_tell 60 = .ok (.aload_n 0, 1) := by decide +kernel
theorem d_T_tell_61 : decode b_T_tell 61 = .ok (.getfield 21, 3) := by decide +kernel
theorem d_T_tell_64 : decode b_T_tell 64 = .ok (.iconst 2, 1) := by decide +kernel
theorem d_T_tell_65 : decode b_T_tell 65 = .ok (.if_icmp .ne 10, 3) := by decide +kernel
theorem d_T_tell_68 : decode b_T_tell 68 = .ok (.aload_n 0, 1) := by decide +kernel
theorem d_T_tell_69 : decode b_T_tell 69 = .ok (.getfield 40, 3) := by decide +kernel
theorem d_T_tell_72 : decode b_T_tell 72 = .ok (.goto 4, 3) := by decide +kernel
theorem d_T_tell_75 : decode b_T_tell 75 = .ok (.iconst 0, 1) := by decide +kernel
theorem d_T_tell_76 : decode b_T_tell 76 = .ok (.ireturn, 1) := by decide +kernel
theorem d_T_tell_77 : decode b_T_tell 77 = .ok (.aload_n 0, 1) := by decide +kernel
theorem d_T_tell_78 : decode b_T_tell 78 = .ok (.getfield 43, 3) := by decide +kernel
theorem d_T_tell_81 : decode b_T_tell 81 = .ok (.ireturn, 1) := by decide +kernel
theorem d_T_tell_82 : decode b_T_tell 82 = .ok (.aload_n 0, 1) := by decide +kernel
theorem d_T_tell_83 : decode b_T_tell 83 = .ok (.getfield 46, 3) := by decide +kernel
theorem d_T_tell_86 : decode b_T_tell 86 = .ok (.ireturn, 1) := by decide +kernel
theorem d_K_page_0 : decode b_K_page 0 = .ok (.aload_n 0, 1) := by decide +kernel
theorem d_K_page_1 : decode b_K_page 1 = .ok (.iload_n 1, 1) := by decide +kernel
theorem d_K_page_2 : decode b_K_page 2 = .ok (.invokevirtual 95, 3) := by decide +kernel
theorem d_K_page_5 : decode b_K_page 5 = .ok (.ifCond .eq 22, 3) := by decide +kernel
theorem d_K_page_8 : decode b_K_page 8 = .ok (.iload_n 2, 1) := by decide +kernel
theorem d_K_page_9 : decode b_K_page 9 = .ok (.ifCond .lt 18, 3) := by decide +kernel
theorem d_K_page_12 : decode b_K_page 12 = .ok (.iload_n 2, 1) := by decide +kernel
theorem d_K_page_13 : decode b_K_page 13 = .ok (.bipush 8, 2) := by decide +kernel
theorem d_K_page_15 : decode b_K_page 15 = .ok (.if_icmp .ge 12, 3) := by decide +kernel
theorem d_K_page_18 : decode b_K_page 18 = .ok (.iload_n 3, 1) := by decide +kernel
theorem d_K_page_19 : decode b_K_page 19 = .ok (.ifCond .lt 8, 3) := by decide +kernel
theorem d_K_page_22 : decode b_K_page 22 = .ok (.iload_n 3, 1) := by decide +kernel
theorem d_K_page_23 : decode b_K_page 23 = .ok (.iconst 5, 1) := by decide +kernel
theorem d_K_page_24 : decode b_K_page 24 = .ok (.if_icmp .le 5, 3) := by decide +kernel
theorem d_K_page_27 : decode b_K_page 27 = .ok (.iconst (-1), 1) := by decide +kernel
theorem d_K_page_28 : decode b_K_page 28 = .ok (.ireturn, 1) := by decide +kernel
theorem d_K_page_29 : decode b_K_page 29 = .ok (.aload_n 0, 1) := by decide +kernel
theorem d_K_page_30 : decode b_K_page 30 = .ok (.getfield 11, 3) := by decide +kernel
theorem d_K_page_33 : decode b_K_page 33 = .ok (.iload_n 1, 1) := by decide +kernel
theorem d_K_page_34 : decode b_K_page 34 = .ok (.aaload, 1) := by decide +kernel
theorem d_K_page_35 : decode b_K_page 35 = .ok (.getfield 53, 3) := by decide +kernel
theorem d_K_page_38 : decode b_K_page 38 = .ok (.iload_n 2, 1) := by decide +kernel
theorem d_K_page_39 : decode b_K_page 39 = .ok (.aaload, 1) := by decide +kernel
theorem d_K_page_40 : decode b_K_page 40 = .ok (.astore 4, 2) := by decide +kernel
theorem d_K_page_42 : decode b_K_page 42 = .ok (.aload 4, 2) := by decide +kernel
theorem d_K_page_44 : decode b_K_page 44 = .ok (.ifnonnull 20, 3) := by decide +kernel
theorem d_K_page_47 : decode b_K_page 47 = .ok (.iload_n 3, 1) := by decide +kernel
theorem d_K_page_48 : decode b_K_page 48 = .ok (.iconst 1, 1) := by decide +kernel
theorem d_K_page_49 : decode b_K_page 49 = .ok (.if_icmp .eq 8, 3) := by decide +kernel
theorem d_K_page_52 : decode b_K_page 52 = .ok (.iload_n 3, 1) := by decide +kernel
theorem d_K_page_53 : decode b_K_page 53 = .ok (.iconst 2, 1) := by decide +kernel
theorem d_K_page_54 : decode b_K_page 54 = .ok (.if_icmp .ne 8, 3) := by decide +kernel
theorem d_K_page_57 : decode b_K_page 57 = .ok (.bipush (-2), 2) := by decide +kernel
theorem d_K_page_59 : decode b_K_page 59 = .ok (.goto 4, 3) := by decide +kernel
theorem d_K_page_62 : decode b_K_page 62 = .ok (.iconst 0, 1) := by decide +kernel
theorem d_K_page_63 : decode b_K_page 63 = .ok (.ireturn, 1) := by decide +kernel
theorem d_K_page_64 : decode b_K_page 64 = .ok (.aload 4, 2) := by decide +kernel
theorem d_K_page_66 : decode b_K_page 66 = .ok (.iload_n 3, 1) := by decide +kernel
theorem d_K_page_67 : decode b_K_page 67 = .ok (.invokevirtual 98, 3) := by decide +kernel
theorem d_K_page_70 : decode b_K_page 70 = .ok (.ireturn, 1) := by decide +kernel
theorem d_E_tell_0 : decode b_E_tell 0 = .ok (.iload_n 1, 1) := by decide +kernel
theorem d_E_tell_1 : decode b_E_tell 1 = .ok (.tableswitch 86 0 4 #[35, 50, 55, 60, 73], 35) := by decide +kernel
theorem d_E_tell_36 : decode b_E_tell 36 = .ok (.aload_n 0, 1) := by decide +kernel
theorem d_E_tell_37 : decode b_E_tell 37 = .ok (.getfield 15, 3) := by decide +kernel
theorem d_E_tell_40 : decode b_E_tell 40 = .ok (.bipush (-2), 2) := by decide +kernel
theorem d_E_tell_42 : decode b_E_tell 42 = .ok (.if_icmp .ne 7, 3) := by decide +kernel
theorem d_E_tell_45 : decode b_E_tell 45 = .ok (.iconst 2, 1) := by decide +kernel
theorem d_E_tell_46 : decode b_E_tell 46 = .ok (.goto 4, 3) := by decide +kernel
theorem d_E_tell_49 : decode b_E_tell 49 = .ok (.iconst 1, 1) := by decide +kernel
theorem d_E_tell_50 : decode b_E_tell 50 = .ok (.ireturn, 1) := by decide +kernel
theorem d_E_tell_51 : decode b_E_tell 51 = .ok (.aload_n 0, 1) := by decide +kernel
theorem d_E_tell_52 : decode b_E_tell 52 = .ok (.getfield 15, 3) := by decide +kernel
theorem d_E_tell_55 : decode b_E_tell 55 = .ok (.ireturn, 1) := by decide +kernel
theorem d_E_tell_56 : decode b_E_tell 56 = .ok (.aload_n 0, 1) := by decide +kernel
theorem d_E_tell_57 : decode b_E_tell 57 = .ok (.getfield 19, 3) := by decide +kernel
theorem d_E_tell_60 : decode b_E_tell 60 = .ok (.ireturn, 1) := by decide +kernel
theorem d_E_tell_61 : decode b_E_tell 61 = .ok (.aload_n 0, 1) := by decide +kernel
theorem d_E_tell_62 : decode b_E_tell 62 = .ok (.getfield 22, 3) := by decide +kernel
theorem d_E_tell_65 : decode b_E_tell 65 = .ok (.ifCond .eq 7, 3) := by decide +kernel
theorem d_E_tell_68 : decode b_E_tell 68 = .ok (.iconst 1, 1) := by decide +kernel
theorem d_E_tell_69 : decode b_E_tell 69 = .ok (.goto 4, 3) := by decide +kernel
theorem d_E_tell_72 : decode b_E_tell 72 = .ok (.iconst 0, 1) := by decide +kernel
theorem d_E_tell_73 : decode b_E_tell 73 = .ok (.ireturn, 1) := by decide +kernel
theorem d_E_tell_74 : decode b_E_tell 74 = .ok (.aload_n 0, 1) := by decide +kernel
theorem d_E_tell_75 : decode b_E_tell 75 = .ok (.getfield 26, 3) := by decide +kernel
theorem d_E_tell_78 : decode b_E_tell 78 = .ok (.ifCond .eq 7, 3) := by decide +kernel
theorem d_E_tell_81 : decode b_E_tell 81 = .ok (.iconst 1, 1) := by decide +kernel
theorem d_E_tell_82 : decode b_E_tell 82 = .ok (.goto 4, 3) := by decide +kernel
theorem d_E_tell_85 : decode b_E_tell 85 = .ok (.iconst 0, 1) := by decide +kernel
theorem d_E_tell_86 : decode b_E_tell 86 = .ok (.ireturn, 1) := by decide +kernel
theorem d_E_tell_87 : decode b_E_tell 87 = .ok (.aload_n 0, 1) := by decide +kernel
theorem d_E_tell_88 : decode b_E_tell 88 = .ok (.getfield 29, 3) := by decide +kernel
theorem d_E_tell_91 : decode b_E_tell 91 = .ok (.ireturn, 1) := by decide +kernel
theorem d_K_printed_0 : decode b_K_printed 0 = .ok (.iload_n 1, 1) := by decide +kernel
theorem d_K_printed_1 : decode b_K_printed 1 = .ok (.ifCond .lt 26, 3) := by decide +kernel
theorem d_K_printed_4 : decode b_K_printed 4 = .ok (.iload_n 1, 1) := by decide +kernel
theorem d_K_printed_5 : decode b_K_printed 5 = .ok (.bipush 40, 2) := by decide +kernel
theorem d_K_printed_7 : decode b_K_printed 7 = .ok (.if_icmp .ge 20, 3) := by decide +kernel
theorem d_K_printed_10 : decode b_K_printed 10 = .ok (.iload_n 1, 1) := by decide +kernel
theorem d_K_printed_11 : decode b_K_printed 11 = .ok (.aload_n 0, 1) := by decide +kernel
theorem d_K_printed_12 : decode b_K_printed 12 = .ok (.getfield 99, 3) := by decide +kernel
theorem d_K_printed_15 : decode b_K_printed 15 = .ok (.if_icmp .ge 12, 3) := by decide +kernel
theorem d_K_printed_18 : decode b_K_printed 18 = .ok (.aload_n 0, 1) := by decide +kernel
theorem d_K_printed_19 : decode b_K_printed 19 = .ok (.getfield 22, 3) := by decide +kernel
theorem d_K_printed_22 : decode b_K_printed 22 = .ok (.iload_n 1, 1) := by decide +kernel
theorem d_K_printed_23 : decode b_K_printed 23 = .ok (.iaload, 1) := by decide +kernel
theorem d_K_printed_24 : decode b_K_printed 24 = .ok (.goto 4, 3) := by decide +kernel
theorem d_K_printed_27 : decode b_K_printed 27 = .ok (.iconst 0, 1) := by decide +kernel
theorem d_K_printed_28 : decode b_K_printed 28 = .ok (.ireturn, 1) := by decide +kernel
theorem d_K_count_0 : decode b_K_count 0 = .ok (.iload_n 1, 1) := by decide +kernel
theorem d_K_count_1 : decode b_K_count 1 = .ok (.tableswitch 168 0 13 #[71, 76, 81, 86, 91, 102, 113, 121, 129, 137, 145, 153, 158, 163], 71) := by decide +kernel
theorem d_K_count_72 : decode b_K_count 72 = .ok (.aload_n 0, 1) := by decide +kernel
theorem d_K_count_73 : decode b_K_count 73 = .ok (.getfield 66, 3) := by decide +kernel
theorem d_K_count_76 : decode b_K_count 76 = .ok (.ireturn, 1) := by decide +kernel
theorem d_K_count_77 : decode b_K_count 77 = .ok (.aload_n 0, 1) := by decide +kernel
theorem d_K_count_78 : decode b_K_count 78 = .ok (.invokevirtual 102, 3) := by decide +kernel
theorem d_K_count_81 : decode b_K_count 81 = .ok (.ireturn, 1) := by decide +kernel
theorem d_K_count_82 : decode b_K_count 82 = .ok (.aload_n 0, 1) := by decide +kernel
theorem d_K_count_83 : decode b_K_count 83 = .ok (.getfield 26, 3) := by decide +kernel
theorem d_K_count_86 : decode b_K_count 86 = .ok (.ireturn, 1) := by decide +kernel
theorem d_K_count_87 : decode b_K_count 87 = .ok (.aload_n 0, 1) := by decide +kernel
theorem d_K_count_88 : decode b_K_count 88 = .ok (.getfield 105, 3) := by decide +kernel
theorem d_K_count_91 : decode b_K_count 91 = .ok (.ireturn, 1) := by decide +kernel
theorem d_K_count_92 : decode b_K_count 92 = .ok (.aload_n 0, 1) := by decide +kernel
theorem d_K_count_93 : decode b_K_count 93 = .ok (.getfield 18, 3) := by decide +kernel
theorem d_K_count_96 : decode b_K_count 96 = .ok (.getfield 108, 3) := by decide +kernel
theorem d_K_count_99 : decode b_K_count 99 = .ok (.invokestatic 111, 3) := by decide +kernel
theorem d_K_count_102 : decode b_K_count 102 = .ok (.ireturn, 1) := by decide +kernel
theorem d_K_count_103 : decode b_K_count 103 = .ok (.aload_n 0, 1) := by decide +kernel
theorem d_K_count_104 : decode b_K_count 104 = .ok (.getfield 18, 3) := by decide +kernel
theorem d_K_count_107 : decode b_K_count 107 = .ok (.getfield 115, 3) := by decide +kernel
theorem d_K_count_110 : decode b_K_count 110 = .ok (.invokestatic 111, 3) := by decide +kernel
theorem d_K_count_113 : decode b_K_count 113 = .ok (.ireturn, 1) := by decide +kernel
theorem d_K_count_114 : decode b_K_count 114 = .ok (.aload_n 0, 1) := by decide +kernel
theorem d_K_count_115 : decode b_K_count 115 = .ok (.getfield 18, 3) := by decide +kernel
theorem d_K_count_118 : decode b_K_count 118 = .ok (.getfield 118, 3) := by decide +kernel
theorem d_K_count_121 : decode b_K_count 121 = .ok (.ireturn, 1) := by decide +kernel
theorem d_K_count_122 : decode b_K_count 122 = .ok (.aload_n 0, 1) := by decide +kernel
theorem d_K_count_123 : decode b_K_count 123 = .ok (.getfield 18, 3) := by decide +kernel
theorem d_K_count_126 : decode b_K_count 126 = .ok (.getfield 46, 3) := by decide +kernel
theorem d_K_count_129 : decode b_K_count 129 = .ok (.ireturn, 1) := by decide +kernel
theorem d_K_count_130 : decode b_K_count 130 = .ok (.aload_n 0, 1) := by decide +kernel
theorem d_K_count_131 : decode b_K_count 131 = .ok (.getfield 18, 3) := by decide +kernel
theorem d_K_count_134 : decode b_K_count 134 = .ok (.getfield 121, 3) := by decide +kernel
theorem d_K_count_137 : decode b_K_count 137 = .ok (.ireturn, 1) := by decide +kernel
theorem d_K_count_138 : decode b_K_count 138 = .ok (.aload_n 0, 1) := by decide +kernel
theorem d_K_count_139 : decode b_K_count 139 = .ok (.getfield 18, 3) := by decide +kernel
theorem d_K_count_142 : decode b_K_count 142 = .ok (.getfield 124, 3) := by decide +kernel
theorem d_K_count_145 : decode b_K_count 145 = .ok (.ireturn, 1) := by decide +kernel
theorem d_K_count_146 : decode b_K_count 146 = .ok (.aload_n 0, 1) := by decide +kernel
theorem d_K_count_147 : decode b_K_count 147 = .ok (.getfield 18, 3) := by decide +kernel
theorem d_K_count_150 : decode b_K_count 150 = .ok (.getfield 127, 3) := by decide +kernel
theorem d_K_count_153 : decode b_K_count 153 = .ok (.ireturn, 1) := by decide +kernel
theorem d_K_count_154 : decode b_K_count 154 = .ok (.aload_n 0, 1) := by decide +kernel
theorem d_K_count_155 : decode b_K_count 155 = .ok (.getfield 79, 3) := by decide +kernel
theorem d_K_count_158 : decode b_K_count 158 = .ok (.ireturn, 1) := by decide +kernel
theorem d_K_count_159 : decode b_K_count 159 = .ok (.aload_n 0, 1) := by decide +kernel
theorem d_K_count_160 : decode b_K_count 160 = .ok (.getfield 99, 3) := by decide +kernel
theorem d_K_count_163 : decode b_K_count 163 = .ok (.ireturn, 1) := by decide +kernel
theorem d_K_count_164 : decode b_K_count 164 = .ok (.aload_n 0, 1) := by decide +kernel
theorem d_K_count_165 : decode b_K_count 165 = .ok (.getfield 130, 3) := by decide +kernel
theorem d_K_count_168 : decode b_K_count 168 = .ok (.ireturn, 1) := by decide +kernel
theorem d_K_count_169 : decode b_K_count 169 = .ok (.iconst (-1), 1) := by decide +kernel
theorem d_K_count_170 : decode b_K_count 170 = .ok (.ireturn, 1) := by decide +kernel
theorem d_K_presentTasks_0 : decode b_K_presentTasks 0 = .ok (.iconst 0, 1) := by decide +kernel
theorem d_K_presentTasks_1 : decode b_K_presentTasks 1 = .ok (.istore_n 1, 1) := by decide +kernel
theorem d_K_presentTasks_2 : decode b_K_presentTasks 2 = .ok (.iconst 0, 1) := by decide +kernel
theorem d_K_presentTasks_3 : decode b_K_presentTasks 3 = .ok (.istore_n 2, 1) := by decide +kernel
theorem d_K_presentTasks_4 : decode b_K_presentTasks 4 = .ok (.iload_n 2, 1) := by decide +kernel
theorem d_K_presentTasks_5 : decode b_K_presentTasks 5 = .ok (.iconst 4, 1) := by decide +kernel
theorem d_K_presentTasks_6 : decode b_K_presentTasks 6 = .ok (.if_icmp .ge 24, 3) := by decide +kernel
theorem d_K_presentTasks_9 : decode b_K_presentTasks 9 = .ok (.aload_n 0, 1) := by decide +kernel
theorem d_K_presentTasks_10 : decode b_K_presentTasks 10 = .ok (.getfield 11, 3) := by decide +kernel
theorem d_K_presentTasks_13 : decode b_K_presentTasks 13 = .ok (.iload_n 2, 1) := by decide +kernel
theorem d_K_presentTasks_14 : decode b_K_presentTasks 14 = .ok (.aaload, 1) := by decide +kernel
theorem d_K_presentTasks_15 : decode b_K_presentTasks 15 = .ok (.getfield 85, 3) := by decide +kernel
theorem d_K_presentTasks_18 : decode b_K_presentTasks 18 = .ok (.ifCond .eq 6, 3) := by decide +kernel
theorem d_K_presentTasks_21 : decode b_K_presentTasks 21 = .ok (.iinc 1 1, 3) := by decide +kernel
theorem d_K_presentTasks_24 : decode b_K_presentTasks 24 = .ok (.iinc 2 1, 3) := by decide +kernel
theorem d_K_presentTasks_27 : decode b_K_presentTasks 27 = .ok (.goto (-23), 3) := by decide +kernel
theorem d_K_presentTasks_30 : decode b_K_presentTasks 30 = .ok (.iload_n 1, 1) := by decide +kernel
theorem d_K_presentTasks_31 : decode b_K_presentTasks 31 = .ok (.ireturn, 1) := by decide +kernel
theorem d_M_taken_0 : decode b_M_taken 0 = .ok (.iconst 0, 1) := by decide +kernel
theorem d_M_taken_1 : decode b_M_taken 1 = .ok (.istore_n 1, 1) := by decide +kernel
theorem d_M_taken_2 : decode b_M_taken 2 = .ok (.iconst 0, 1) := by decide +kernel
theorem d_M_taken_3 : decode b_M_taken 3 = .ok (.istore_n 2, 1) := by decide +kernel
theorem d_M_taken_4 : decode b_M_taken 4 = .ok (.iload_n 2, 1) := by decide +kernel
theorem d_M_taken_5 : decode b_M_taken 5 = .ok (.aload_n 0, 1) := by decide +kernel
theorem d_M_taken_6 : decode b_M_taken 6 = .ok (.arraylength, 1) := by decide +kernel
theorem d_M_taken_7 : decode b_M_taken 7 = .ok (.if_icmp .ge 18, 3) := by decide +kernel
theorem d_M_taken_10 : decode b_M_taken 10 = .ok (.aload_n 0, 1) := by decide +kernel
theorem d_M_taken_11 : decode b_M_taken 11 = .ok (.iload_n 2, 1) := by decide +kernel
theorem d_M_taken_12 : decode b_M_taken 12 = .ok (.aaload, 1) := by decide +kernel
theorem d_M_taken_13 : decode b_M_taken 13 = .ok (.ifnull 6, 3) := by decide +kernel
theorem d_M_taken_16 : decode b_M_taken 16 = .ok (.iinc 1 1, 3) := by decide +kernel
theorem d_M_taken_19 : decode b_M_taken 19 = .ok (.iinc 2 1, 3) := by decide +kernel
theorem d_M_taken_22 : decode b_M_taken 22 = .ok (.goto (-18), 3) := by decide +kernel
theorem d_M_taken_25 : decode b_M_taken 25 = .ok (.iload_n 1, 1) := by decide +kernel
theorem d_M_taken_26 : decode b_M_taken 26 = .ok (.ireturn, 1) := by decide +kernel
theorem d_Q_init_0 : decode b_Q_init 0 = .ok (.aload_n 0, 1) := by decide +kernel
theorem d_Q_init_1 : decode b_Q_init 1 = .ok (.invokespecial 1, 3) := by decide +kernel
theorem d_Q_init_4 : decode b_Q_init 4 = .ok (.aload_n 0, 1) := by decide +kernel
theorem d_Q_init_5 : decode b_Q_init 5 = .ok (.iconst 4, 1) := by decide +kernel
theorem d_Q_init_6 : decode b_Q_init 6 = .ok (.newarray .int, 2) := by decide +kernel
theorem d_Q_init_8 : decode b_Q_init 8 = .ok (.putfield 7, 3) := by decide +kernel
theorem d_Q_init_11 : decode b_Q_init 11 = .ok (.aload_n 0, 1) := by decide +kernel
theorem d_Q_init_12 : decode b_Q_init 12 = .ok (.iconst 4, 1) := by decide +kernel
theorem d_Q_init_13 : decode b_Q_init 13 = .ok (.newarray .int, 2) := by decide +kernel
theorem d_Q_init_15 : decode b_Q_init 15 = .ok (.putfield 13, 3) := by decide +kernel
theorem d_Q_init_18 : decode b_Q_init 18 = .ok (.aload_n 0, 1) := by decide +kernel
theorem d_Q_init_19 : decode b_Q_init 19 = .ok (.iconst 4, 1) := by decide +kernel
theorem d_Q_init_20 : decode b_Q_init 20 = .ok (.newarray .int, 2) := by decide +kernel
theorem d_Q_init_22 : decode b_Q_init 22 = .ok (.putfield 16, 3) := by decide +kernel
theorem d_Q_init_25 : decode b_Q_init 25 = .ok (.aload_n 0, 1) := by decide +kernel
theorem d_Q_init_26 : decode b_Q_init 26 = .ok (.iconst 4, 1) := by decide +kernel
theorem d_Q_init_27 : decode b_Q_init 27 = .ok (.newarray .int, 2) := by decide +kernel
theorem d_Q_init_29 : decode b_Q_init 29 = .ok (.putfield 19, 3) := by decide +kernel
theorem d_Q_init_32 : decode b_Q_init 32 = .ok (.aload_n 0, 1) := by decide +kernel
theorem d_Q_init_33 : decode b_Q_init 33 = .ok (.iconst 4, 1) := by decide +kernel
theorem d_Q_init_34 : decode b_Q_init 34 = .ok (.newarray .int, 2) := by decide +kernel
theorem d_Q_init_36 : decode b_Q_init 36 = .ok (.putfield 22, 3) := by decide +kernel
theorem d_Q_init_39 : decode b_Q_init 39 = .ok (.aload_n 0, 1) := by decide +kernel
theorem d_Q_init_40 : decode b_Q_init 40 = .ok (.iconst 4, 1) := by decide +kernel
theorem d_Q_init_41 : decode b_Q_init 41 = .ok (.newarray .int, 2) := by decide +kernel
theorem d_Q_init_43 : decode b_Q_init 43 = .ok (.putfield 25, 3) := by decide +kernel
theorem d_Q_init_46 : decode b_Q_init 46 = .ok (.aload_n 0, 1) := by decide +kernel
theorem d_Q_init_47 : decode b_Q_init 47 = .ok (.iconst 4, 1) := by decide +kernel
theorem d_Q_init_48 : decode b_Q_init 48 = .ok (.newarray .int, 2) := by decide +kernel
theorem d_Q_init_50 : decode b_Q_init 50 = .ok (.putfield 28, 3) := by decide +kernel
theorem d_Q_init_53 : decode b_Q_init 53 = .ok (.aload_n 0, 1) := by decide +kernel
theorem d_Q_init_54 : decode b_Q_init 54 = .ok (.bipush 16, 2) := by decide +kernel
theorem d_Q_init_56 : decode b_Q_init 56 = .ok (.newarray .int, 2) := by decide +kernel
theorem d_Q_init_58 : decode b_Q_init 58 = .ok (.putfield 31, 3) := by decide +kernel
theorem d_Q_init_61 : decode b_Q_init 61 = .ok (.aload_n 0, 1) := by decide +kernel
theorem d_Q_init_62 : decode b_Q_init 62 = .ok (.bipush 32, 2) := by decide +kernel
theorem d_Q_init_64 : decode b_Q_init 64 = .ok (.newarray .int, 2) := by decide +kernel
theorem d_Q_init_66 : decode b_Q_init 66 = .ok (.putfield 34, 3) := by decide +kernel
theorem d_Q_init_69 : decode b_Q_init 69 = .ok (.aload_n 0, 1) := by decide +kernel
theorem d_Q_init_70 : decode b_Q_init 70 = .ok (.bipush 34, 2) := by decide +kernel
theorem d_Q_init_72 : decode b_Q_init 72 = .ok (.newarray .boolean, 2) := by decide +kernel
theorem d_Q_init_74 : decode b_Q_init 74 = .ok (.putfield 37, 3) := by decide +kernel
theorem d_Q_init_77 : decode b_Q_init 77 = .ok (.aload_n 0, 1) := by decide +kernel
theorem d_Q_init_78 : decode b_Q_init 78 = .ok (.bipush 34, 2) := by decide +kernel
theorem d_Q_init_80 : decode b_Q_init 80 = .ok (.newarray .boolean, 2) := by decide +kernel
theorem d_Q_init_82 : decode b_Q_init 82 = .ok (.putfield 41, 3) := by decide +kernel
theorem d_Q_init_85 : decode b_Q_init 85 = .ok (.aload_n 0, 1) := by decide +kernel
theorem d_Q_init_86 : decode b_Q_init 86 = .ok (.bipush 34, 2) := by decide +kernel
theorem d_Q_init_88 : decode b_Q_init 88 = .ok (.newarray .boolean, 2) := by decide +kernel
theorem d_Q_init_90 : decode b_Q_init 90 = .ok (.putfield 44, 3) := by decide +kernel
theorem d_Q_init_93 : decode b_Q_init 93 = .ok (.aload_n 0, 1) := by decide +kernel
theorem d_Q_init_94 : decode b_Q_init 94 = .ok (.bipush 34, 2) := by decide +kernel
theorem d_Q_init_96 : decode b_Q_init 96 = .ok (.newarray .int, 2) := by decide +kernel
theorem d_Q_init_98 : decode b_Q_init 98 = .ok (.putfield 47, 3) := by decide +kernel
theorem d_Q_init_101 : decode b_Q_init 101 = .ok (.aload_n 0, 1) := by decide +kernel
theorem d_Q_init_102 : decode b_Q_init 102 = .ok (.bipush 34, 2) := by decide +kernel
theorem d_Q_init_104 : decode b_Q_init 104 = .ok (.newarray .int, 2) := by decide +kernel
theorem d_Q_init_106 : decode b_Q_init 106 = .ok (.putfield 50, 3) := by decide +kernel
theorem d_Q_init_109 : decode b_Q_init 109 = .ok (.aload_n 0, 1) := by decide +kernel
theorem d_Q_init_110 : decode b_Q_init 110 = .ok (.sipush 272, 3) := by decide +kernel
theorem d_Q_init_113 : decode b_Q_init 113 = .ok (.newarray .int, 2) := by decide +kernel
theorem d_Q_init_115 : decode b_Q_init 115 = .ok (.putfield 53, 3) := by decide +kernel
theorem d_Q_init_118 : decode b_Q_init 118 = .ok (.aload_n 0, 1) := by decide +kernel
theorem d_Q_init_119 : decode b_Q_init 119 = .ok (.bipush 40, 2) := by decide +kernel
theorem d_Q_init_121 : decode b_Q_init 121 = .ok (.newarray .int, 2) := by decide +kernel
theorem d_Q_init_123 : decode b_Q_init 123 = .ok (.putfield 56, 3) := by decide +kernel
theorem d_Q_init_126 : decode b_Q_init 126 = .ok (.aload_n 0, 1) := by decide +kernel
theorem d_Q_init_127 : decode b_Q_init 127 = .ok (.bipush 14, 2) := by decide +kernel
theorem d_Q_init_129 : decode b_Q_init 129 = .ok (.newarray .int, 2) := by decide +kernel
theorem d_Q_init_131 : decode b_Q_init 131 = .ok (.putfield 59, 3) := by decide +kernel
theorem d_Q_init_134 : decode b_Q_init 134 = .ok (.aload_n 0, 1) := by decide +kernel
theorem d_Q_init_135 : decode b_Q_init 135 = .ok (.iconst 3, 1) := by decide +kernel
theorem d_Q_init_136 : decode b_Q_init 136 = .ok (.putfield 62, 3) := by decide +kernel
theorem d_Q_init_139 : decode b_Q_init 139 = .ok (.iconst 0, 1) := by decide +kernel
theorem d_Q_init_140 : decode b_Q_init 140 = .ok (.istore_n 1, 1) := by decide +kernel
theorem d_Q_init_141 : decode b_Q_init 141 = .ok (.iload_n 1, 1) := by decide +kernel
theorem d_Q_init_142 : decode b_Q_init 142 = .ok (.bipush 32, 2) := by decide +kernel
theorem d_Q_init_144 : decode b_Q_init 144 = .ok (.if_icmp .ge 16, 3) := by decide +kernel
theorem d_Q_init_147 : decode b_Q_init 147 = .ok (.aload_n 0, 1) := by decide +kernel
theorem d_Q_init_148 : decode b_Q_init 148 = .ok (.getfield 34, 3) := by decide +kernel
theorem d_Q_init_151 : decode b_Q_init 151 = .ok (.iload_n 1, 1) := by decide +kernel
theorem d_Q_init_152 : decode b_Q_init 152 = .ok (.iconst (-1), 1) := by decide +kernel
theorem d_Q_init_153 : decode b_Q_init 153 = .ok (.iastore, 1) := by decide +kernel
theorem d_Q_init_154 : decode b_Q_init 154 = .ok (.iinc 1 1, 3) := by decide +kernel
theorem d_Q_init_157 : decode b_Q_init 157 = .ok (.goto (-16), 3) := by decide +kernel
theorem d_Q_init_160 : decode b_Q_init 160 = .ok (.return_, 1) := by decide +kernel
end
section
theorem d_Q_spawn_0 : decode b_Q_spawn 0 = .ok (.aload_n 0, 1) := by decide +kernel
theorem d_Q_spawn_1 : decode b_Q_spawn 1 = .ok (.bipush (-2), 2) := by decide +kernel
theorem d_Q_spawn_3 : decode b_Q_spawn 3 = .ok (.invokevirtual 102, 3) := by decide +kernel
theorem d_Q_spawn_6 : decode b_Q_spawn 6 = .ok (.istore_n 1, 1) := by decide +kernel
theorem d_Q_spawn_7 : decode b_Q_spawn 7 = .ok (.iload_n 1, 1) := by decide +kernel
theorem d_Q_spawn_8 : decode b_Q_spawn 8 = .ok (.ifCond .ge 8, 3) := by decide +kernel
theorem d_Q_spawn_11 : decode b_Q_spawn 11 = .ok (.bipush (-3), 2) := by decide +kernel
theorem d_Q_spawn_13 : decode b_Q_spawn 13 = .ok (.goto 4, 3) := by decide +kernel
theorem d_Q_spawn_16 : decode b_Q_spawn 16 = .ok (.iload_n 1, 1) := by decide +kernel
theorem d_Q_spawn_17 : decode b_Q_spawn 17 = .ok (.ireturn, 1) := by decide +kernel
theorem d_Q_begin_0 : decode b_Q_begin 0 = .ok (.iconst 0, 1) := by decide +kernel
theorem d_Q_begin_1 : decode b_Q_begin 1 = .ok (.istore_n 2, 1) := by decide +kernel
theorem d_Q_begin_2 : decode b_Q_begin 2 = .ok (.iload_n 2, 1) := by decide +kernel
theorem d_Q_begin_3 : decode b_Q_begin 3 = .ok (.iconst 4, 1) := by decide +kernel
theorem d_Q_begin_4 : decode b_Q_begin 4 = .ok (.if_icmp .ge 82, 3) := by decide +kernel
theorem d_Q_begin_7 : decode b_Q_begin 7 = .ok (.aload_n 0, 1) := by decide +kernel
theorem d_Q_begin_8 : decode b_Q_begin 8 = .ok (.getfield 7, 3) := by decide +kernel
theorem d_Q_begin_11 : decode b_Q_begin 11 = .ok (.iload_n 2, 1) := by decide +kernel
theorem d_Q_begin_12 : decode b_Q_begin 12 = .ok (.iaload, 1) := by decide +kernel
theorem d_Q_begin_13 : decode b_Q_begin 13 = .ok (.ifCond .eq 6, 3) := by decide +kernel
theorem d_Q_begin_16 : decode b_Q_begin 16 = .ok (.goto 64, 3) := by decide +kernel
theorem d_Q_begin_19 : decode b_Q_begin 19 = .ok (.aload_n 0, 1) := by decide +kernel
theorem d_Q_begin_20 : decode b_Q_begin 20 = .ok (.getfield 7, 3) := by decide +kernel
theorem d_Q_begin_23 : decode b_Q_begin 23 = .ok (.iload_n 2, 1) := by decide +kernel
theorem d_Q_begin_24 : decode b_Q_begin 24 = .ok (.iconst 1, 1) := by decide +kernel
theorem d_Q_begin_25 : decode b_Q_begin 25 = .ok (.iastore, 1) := by decide +kernel
theorem d_Q_begin_26 : decode b_Q_begin 26 = .ok (.aload_n 0, 1) := by decide +kernel
theorem d_Q_begin_27 : decode b_Q_begin 27 = .ok (.getfield 13, 3) := by decide +kernel
theorem d_Q_begin_30 : decode b_Q_begin 30 = .ok (.iload_n 2, 1) := by decide +kernel
theorem d_Q_begin_31 : decode b_Q_begin 31 = .ok (.iconst 0, 1) := by decide +kernel
theorem d_Q_begin_32 : decode b_Q_begin 32 = .ok (.iastore, 1) := by decide +kernel
theorem d_Q_begin_33 : decode b_Q_begin 33 = .ok (.aload_n 0, 1) := by decide +kernel
theorem d_Q_begin_34 : decode b_Q_begin 34 = .ok (.getfield 16, 3) := by decide +kernel
theorem d_Q_begin_37 : decode b_Q_begin 37 = .ok (.iload_n 2, 1) := by decide +kernel
theorem d_Q_begin_38 : decode b_Q_begin 38 = .ok (.iload_n 1, 1) := by decide +kernel
theorem d_Q_begin_39 : decode b_Q_begin 39 = .ok (.iastore, 1) := by decide +kernel
theorem d_Q_begin_40 : decode b_Q_begin 40 = .ok (.aload_n 0, 1) := by decide +kernel
theorem d_Q_begin_41 : decode b_Q_begin 41 = .ok (.getfield 25, 3) := by decide +kernel
theorem d_Q_begin_44 : decode b_Q_begin 44 = .ok (.iload_n 2, 1) := by decide +kernel
theorem d_Q_begin_45 : decode b_Q_begin 45 = .ok (.iconst 0, 1) := by decide +kernel
theorem d_Q_begin_46 : decode b_Q_begin 46 = .ok (.iastore, 1) := by decide +kernel
theorem d_Q_begin_47 : decode b_Q_begin 47 = .ok (.aload_n 0, 1) := by decide +kernel
theorem d_Q_begin_48 : decode b_Q_begin 48 = .ok (.getfield 28, 3) := by decide +kernel
theorem d_Q_begin_51 : decode b_Q_begin 51 = .ok (.iload_n 2, 1) := by decide +kernel
theorem d_Q_begin_52 : decode b_Q_begin 52 = .ok (.iconst 0, 1) := by decide +kernel
theorem d_Q_begin_53 : decode b_Q_begin 53 = .ok (.iastore, 1) := by decide +kernel
theorem d_Q_begin_54 : decode b_Q_begin 54 = .ok (.iconst 0, 1) := by decide +kernel
theorem d_Q_begin_55 : decode b_Q_begin 55 = .ok (.istore_n 3, 1) := by decide +kernel
theorem d_Q_begin_56 : decode b_Q_begin 56 = .ok (.iload_n 3, 1) := by decide +kernel
theorem d_Q_begin_57 : decode b_Q_begin 57 = .ok (.iconst 4, 1) := by decide +kernel
theorem d_Q_begin_58 : decode b_Q_begin 58 = .ok (.if_icmp .ge 20, 3) := by decide +kernel
theorem d_Q_begin_61 : decode b_Q_begin 61 = .ok (.aload_n 0, 1) := by decide +kernel
theorem d_Q_begin_62 : decode b_Q_begin 62 = .ok (.getfield 31, 3) := by decide +kernel
theorem d_Q_begin_65 : decode b_Q_begin 65 = .ok (.iconst 4, 1) := by decide +kernel
theorem d_Q_begin_66 : decode b_Q_begin 66 = .ok (.iload_n 2, 1) := by decide +kernel
theorem d_Q_begin_67 : decode b_Q_begin 67 = .ok (.imul, 1) := by decide +kernel
theorem d_Q_begin_68 : decode b_Q_begin 68 = .ok (.iload_n 3, 1) := by decide +kernel
theorem d_Q_begin_69 : decode b_Q_begin 69 = .ok (.iadd, 1) := by decide +kernel
theorem d_Q_begin_70 : decode b_Q_begin 70 = .ok (.iconst 0, 1) := by decide +kernel
theorem d_Q_begin_71 : decode b_Q_begin 71 = .ok (.iastore, 1) := by decide +kernel
theorem d_Q_begin_72 : decode b_Q_begin 72 = .ok (.iinc 3 1, 3) := by decide +kernel
theorem d_Q_begin_75 : decode b_Q_begin 75 = .ok (.goto (-19), 3) := by decide +kernel
theorem d_Q_begin_78 : decode b_Q_begin 78 = .ok (.iload_n 2, 1) := by decide +kernel
theorem d_Q_begin_79 : decode b_Q_begin 79 = .ok (.ireturn, 1) := by decide +kernel
theorem d_Q_begin_80 : decode b_Q_begin 80 = .ok (.iinc 2 1, 3) := by decide +kernel
theorem d_Q_begin_83 : decode b_Q_begin 83 = .ok (.goto (-81), 3) := by decide +kernel
theorem d_Q_begin_86 : decode b_Q_begin 86 = .ok (.bipush (-2), 2) := by decide +kernel
theorem d_Q_begin_88 : decode b_Q_begin 88 = .ok (.ireturn, 1) := by decide +kernel
theorem d_Q_poke_0 : decode b_Q_poke 0 = .ok (.aload_n 0, 1) := by decide +kernel
theorem d_Q_poke_1 : decode b_Q_poke 1 = .ok (.iload_n 1, 1) := by decide +kernel
theorem d_Q_poke_2 : decode b_Q_poke 2 = .ok (.invokevirtual 105, 3) := by decide +kernel
theorem d_Q_poke_5 : decode b_Q_poke 5 = .ok (.ifCond .eq 12, 3) := by decide +kernel
theorem d_Q_poke_8 : decode b_Q_poke 8 = .ok (.iload_n 2, 1) := by decide +kernel
theorem d_Q_poke_9 : decode b_Q_poke 9 = .ok (.bipush 64, 2) := by decide +kernel
theorem d_Q_poke_11 : decode b_Q_poke 11 = .ok (.invokestatic 95, 3) := by decide +kernel
theorem d_Q_poke_14 : decode b_Q_poke 14 = .ok (.ifCond .ne 5, 3) := by decide +kernel
theorem d_Q_poke_17 : decode b_Q_poke 17 = .ok (.iconst (-1), 1) := by decide +kernel
theorem d_Q_poke_18 : decode b_Q_poke 18 = .ok (.ireturn, 1) := by decide +kernel
theorem d_Q_poke_19 : decode b_Q_poke 19 = .ok (.aload_n 0, 1) := by decide +kernel
theorem d_Q_poke_20 : decode b_Q_poke 20 = .ok (.getfield 25, 3) := by decide +kernel
theorem d_Q_poke_23 : decode b_Q_poke 23 = .ok (.iload_n 1, 1) := by decide +kernel
theorem d_Q_poke_24 : decode b_Q_poke 24 = .ok (.iaload, 1) := by decide +kernel
theorem d_Q_poke_25 : decode b_Q_poke 25 = .ok (.istore 4, 2) := by decide +kernel
theorem d_Q_poke_27 : decode b_Q_poke 27 = .ok (.aload_n 0, 1) := by decide +kernel
theorem d_Q_poke_28 : decode b_Q_poke 28 = .ok (.getfield 53, 3) := by decide +kernel
theorem d_Q_poke_31 : decode b_Q_poke 31 = .ok (.aload_n 0, 1) := by decide +kernel
theorem d_Q_poke_32 : decode b_Q_poke 32 = .ok (.iload_n 1, 1) := by decide +kernel
theorem d_Q_poke_33 : decode b_Q_poke 33 = .ok (.iload_n 2, 1) := by decide +kernel
theorem d_Q_poke_34 : decode b_Q_poke 34 = .ok (.iconst 1, 1) := by decide +kernel
theorem d_Q_poke_35 : decode b_Q_poke 35 = .ok (.invokevirtual 108, 3) := by decide +kernel
theorem d_Q_poke_38 : decode b_Q_poke 38 = .ok (.iload_n 3, 1) := by decide +kernel
theorem d_Q_poke_39 : decode b_Q_poke 39 = .ok (.iastore, 1) := by decide +kernel
theorem d_Q_poke_40 : decode b_Q_poke 40 = .ok (.aload_n 0, 1) := by decide +kernel
theorem d_Q_poke_41 : decode b_Q_poke 41 = .ok (.getfield 25, 3) := by decide +kernel
theorem d_Q_poke_44 : decode b_Q_poke 44 = .ok (.iload_n 1, 1) := by decide +kernel
theorem d_Q_poke_45 : decode b_Q_poke 45 = .ok (.iaload, 1) := by decide +kernel
theorem d_Q_poke_46 : decode b_Q_poke 46 = .ok (.iload 4, 2) := by decide +kernel
theorem d_Q_poke_48 : decode b_Q_poke 48 = .ok (.isub, 1) := by decide +kernel
theorem d_Q_poke_49 : decode b_Q_poke 49 = .ok (.ireturn, 1) := by decide +kernel
theorem d_Q_isAlive_0 : decode b_Q_isAlive 0 = .ok (.aload_n 0, 1) := by decide +kernel
theorem d_Q_isAlive_1 : decode b_Q_isAlive 1 = .ok (.iload_n 1, 1) := by decide +kernel
theorem d_Q_isAlive_2 : decode b_Q_isAlive 2 = .ok (.invokevirtual 99, 3) := by decide +kernel
theorem d_Q_isAlive_5 : decode b_Q_isAlive 5 = .ok (.ifCond .eq 17, 3) := by decide +kernel
theorem d_Q_isAlive_8 : decode b_Q_isAlive 8 = .ok (.aload_n 0, 1) := by decide +kernel
theorem d_Q_isAlive_9 : decode b_Q_isAlive 9 = .ok (.getfield 7, 3) := by decide +kernel
theorem d_Q_isAlive_12 : decode b_Q_isAlive 12 = .ok (.iload_n 1, 1) := by decide +kernel
theorem d_Q_isAlive_13 : decode b_Q_isAlive 13 = .ok (.iaload, 1) := by decide +kernel
theorem d_Q_isAlive_14 : decode b_Q_isAlive 14 = .ok (.iconst 4, 1) := by decide +kernel
theorem d_Q_isAlive_15 : decode b_Q_isAlive 15 = .ok (.if_icmp .eq 7, 3) := by decide +kernel
theorem d_Q_isAlive_18 : decode b_Q_isAlive 18 = .ok (.iconst 1, 1) := by decide +kernel
theorem d_Q_isAlive_19 : decode b_Q_isAlive 19 = .ok (.goto 4, 3) := by decide +kernel
theorem d_Q_isAlive_22 : decode b_Q_isAlive 22 = .ok (.iconst 0, 1) := by decide +kernel
theorem d_Q_isAlive_23 : decode b_Q_isAlive 23 = .ok (.ireturn, 1) := by decide +kernel
theorem d_Q_isThere_0 : decode b_Q_isThere 0 = .ok (.iload_n 1, 1) := by decide +kernel
theorem d_Q_isThere_1 : decode b_Q_isThere 1 = .ok (.iconst 4, 1) := by decide +kernel
theorem d_Q_isThere_2 : decode b_Q_isThere 2 = .ok (.invokestatic 95, 3) := by decide +kernel
theorem d_Q_isThere_5 : decode b_Q_isThere 5 = .ok (.ifCond .eq 16, 3) := by decide +kernel
theorem d_Q_isThere_8 : decode b_Q_isThere 8 = .ok (.aload_n 0, 1) := by decide +kernel
theorem d_Q_isThere_9 : decode b_Q_isThere 9 = .ok (.getfield 7, 3) := by decide +kernel
theorem d_Q_isThere_12 : decode b_Q_isThere 12 = .ok (.iload_n 1, 1) := by decide +kernel
theorem d_Q_isThere_13 : decode b_Q_isThere 13 = .ok (.iaload, 1) := by decide +kernel
theorem d_Q_isThere_14 : decode b_Q_isThere 14 = .ok (.ifCond .eq 7, 3) := by decide +kernel
theorem d_Q_isThere_17 : decode b_Q_isThere 17 = .ok (.iconst 1, 1) := by decide +kernel
theorem d_Q_isThere_18 : decode b_Q_isThere 18 = .ok (.goto 4, 3) := by decide +kernel
theorem d_Q_isThere_21 : decode b_Q_isThere 21 = .ok (.iconst 0, 1) := by decide +kernel
theorem d_Q_isThere_22 : decode b_Q_isThere 22 = .ok (.ireturn, 1) := by decide +kernel
theorem d_Q_in_0 : decode b_Q_in 0 = .ok (.iload_n 0, 1) := by decide +kernel
theorem d_Q_in_1 : decode b_Q_in 1 = .ok (.ifCond .lt 12, 3) := by decide +kernel
theorem d_Q_in_4 : decode b_Q_in 4 = .ok (.iload_n 0, 1) := by decide +kernel
theorem d_Q_in_5 : decode b_Q_in 5 = .ok (.iload_n 1, 1) := by decide +kernel
theorem d_Q_in_6 : decode b_Q_in 6 = .ok (.if_icmp .ge 7, 3) := by decide +kernel
theorem d_Q_in_9 : decode b_Q_in 9 = .ok (.iconst 1, 1) := by decide +kernel
theorem d_Q_in_10 : decode b_Q_in 10 = .ok (.goto 4, 3) := by decide +kernel
theorem d_Q_in_13 : decode b_Q_in 13 = .ok (.iconst 0, 1) := by decide +kernel
theorem d_Q_in_14 : decode b_Q_in 14 = .ok (.ireturn, 1) := by decide +kernel
theorem d_Q_reach_0 : decode b_Q_reach 0 = .ok (.bipush 8, 2) := by decide +kernel
theorem d_Q_reach_2 : decode b_Q_reach 2 = .ok (.iload_n 1, 1) := by decide +kernel
theorem d_Q_reach_3 : decode b_Q_reach 3 = .ok (.imul, 1) := by decide +kernel
theorem d_Q_reach_4 : decode b_Q_reach 4 = .ok (.iload_n 2, 1) := by decide +kernel
theorem d_Q_reach_5 : decode b_Q_reach 5 = .ok (.bipush 8, 2) := by decide +kernel
theorem d_Q_reach_7 : decode b_Q_reach 7 = .ok (.idiv, 1) := by decide +kernel
theorem d_Q_reach_8 : decode b_Q_reach 8 = .ok (.iadd, 1) := by decide +kernel
theorem d_Q_reach_9 : decode b_Q_reach 9 = .ok (.istore 4, 2) := by decide +kernel
theorem d_Q_reach_11 : decode b_Q_reach 11 = .ok (.aload_n 0, 1) := by decide +kernel
theorem d_Q_reach_12 : decode b_Q_reach 12 = .ok (.getfield 34, 3) := by decide +kernel
theorem d_Q_reach_15 : decode b_Q_reach 15 = .ok (.iload 4, 2) := by decide +kernel
theorem d_Q_reach_17 : decode b_Q_reach 17 = .ok (.iaload, 1) := by decide +kernel
theorem d_Q_reach_18 : decode b_Q_reach 18 = .ok (.ifCond .ge 14, 3) := by decide +kernel
theorem d_Q_reach_21 : decode b_Q_reach 21 = .ok (.aload_n 0, 1) := by decide +kernel
theorem d_Q_reach_22 : decode b_Q_reach 22 = .ok (.getfield 34, 3) := by decide +kernel
theorem d_Q_reach_25 : decode b_Q_reach 25 = .ok (.iload 4, 2) := by decide +kernel
theorem d_Q_reach_27 : decode b_Q_reach 27 = .ok (.aload_n 0, 1) := by decide +kernel
theorem d_Q_reach_28 : decode b_Q_reach 28 = .ok (.invokevirtual 88, 3) := by decide +kernel
theorem d_Q_reach_31 : decode b_Q_reach 31 = .ok (.iastore, 1) := by decide +kernel
theorem d_Q_reach_32 : decode b_Q_reach 32 = .ok (.aload_n 0, 1) := by decide +kernel
theorem d_Q_reach_33 : decode b_Q_reach 33 = .ok (.getfield 34, 3) := by decide +kernel
theorem d_Q_reach_36 : decode b_Q_reach 36 = .ok (.iload 4, 2) := by decide +kernel
theorem d_Q_reach_38 : decode b_Q_reach 38 = .ok (.iaload, 1) := by decide +kernel
theorem d_Q_reach_39 : decode b_Q_reach 39 = .ok (.istore 5, 2) := by decide +kernel
theorem d_Q_reach_41 : decode b_Q_reach 41 = .ok (.aload_n 0, 1) := by decide +kernel
theorem d_Q_reach_42 : decode b_Q_reach 42 = .ok (.iload_n 1, 1) := by decide +kernel
theorem d_Q_reach_43 : decode b_Q_reach 43 = .ok (.iload 5, 2) := by decide +kernel
theorem d_Q_reach_45 : decode b_Q_reach 45 = .ok (.iconst 0, 1) := by decide +kernel
theorem d_Q_reach_46 : decode b_Q_reach 46 = .ok (.invokevirtual 91, 3) := by decide +kernel
theorem d_Q_reach_49 : decode b_Q_reach 49 = .ok (.iload_n 3, 1) := by decide +kernel
theorem d_Q_reach_50 : decode b_Q_reach 50 = .ok (.ifCond .eq 93, 3) := by decide +kernel
theorem d_Q_reach_53 : decode b_Q_reach 53 = .ok (.aload_n 0, 1) := by decide +kernel
theorem d_Q_reach_54 : decode b_Q_reach 54 = .ok (.iload 5, 2) := by decide +kernel
theorem d_Q_reach_56 : decode b_Q_reach 56 = .ok (.invokevirtual 66, 3) := by decide +kernel
theorem d_Q_reach_59 : decode b_Q_reach 59 = .ok (.iconst 1, 1) := by decide +kernel
theorem d_Q_reach_60 : decode b_Q_reach 60 = .ok (.if_icmp .le 83, 3) := by decide +kernel
theorem d_Q_reach_63 : decode b_Q_reach 63 = .ok (.aload_n 0, 1) := by decide +kernel
theorem d_Q_reach_64 : decode b_Q_reach 64 = .ok (.invokevirtual 88, 3) := by decide +kernel
theorem d_Q_reach_67 : decode b_Q_reach 67 = .ok (.istore 6, 2) := by decide +kernel
theorem d_Q_reach_69 : decode b_Q_reach 69 = .ok (.aload_n 0, 1) := by decide +kernel
theorem d_Q_reach_70 : decode b_Q_reach 70 = .ok (.getfield 34, 3) := by decide +kernel
theorem d_Q_reach_73 : decode b_Q_reach 73 = .ok (.iload 4, 2) := by decide +kernel
theorem d_Q_reach_75 : decode b_Q_reach 75 = .ok (.iload 6, 2) := by decide +kernel
theorem d_Q_reach_77 : decode b_Q_reach 77 = .ok (.iastore, 1) := by decide +kernel
theorem d_Q_reach_78 : decode b_Q_reach 78 = .ok (.iconst 0, 1) := by decide +kernel
theorem d_Q_reach_79 : decode b_Q_reach 79 = .ok (.istore 7, 2) := by decide +kernel
theorem d_Q_reach_81 : decode b_Q_reach 81 = .ok (.iload 7, 2) := by decide +kernel
theorem d_Q_reach_83 : decode b_Q_reach 83 = .ok (.bipush 8, 2) := by decide +kernel
theorem d_Q_reach_85 : decode b_Q_reach 85 = .ok (.if_icmp .ge 35, 3) := by decide +kernel
theorem d_Q_reach_88 : decode b_Q_reach 88 = .ok (.aload_n 0, 1) := by decide +kernel
theorem d_Q_reach_89 : decode b_Q_reach 89 = .ok (.getfield 53, 3) := by decide +kernel
theorem d_Q_reach_92 : decode b_Q_reach 92 = .ok (.bipush 8, 2) := by decide +kernel
theorem d_Q_reach_94 : decode b_Q_reach 94 = .ok (.iload 6, 2) := by decide +kernel
theorem d_Q_reach_96 : decode b_Q_reach 96 = .ok (.imul, 1) := by decide +kernel
theorem d_Q_reach_97 : decode b_Q_reach 97 = .ok (.iload 7, 2) := by decide +kernel
theorem d_Q_reach_99 : decode b_Q_reach 99 = .ok (.iadd, 1) := by decide +kernel
theorem d_Q_reach_100 : decode b_Q_reach 100 = .ok (.aload_n 0, 1) := by decide +kernel
theorem d_Q_reach_101 : decode b_Q_reach 101 = .ok (.getfield 53, 3) := by decide +kernel
theorem d_Q_reach_104 : decode b_Q_reach 104 = .ok (.bipush 8, 2) := by decide +kernel
theorem d_Q_reach_106 : decode b_Q_reach 106 = .ok (.iload 5, 2) := by decide +kernel
theorem d_Q_reach_108 : decode b_Q_reach 108 = .ok (.imul, 1) := by decide +kernel
theorem d_Q_reach_109 : decode b_Q_reach 109 = .ok (.iload 7, 2) := by decide +kernel
theorem d_Q_reach_111 : decode b_Q_reach 111 = .ok (.iadd, 1) := by decide +kernel
theorem d_Q_reach_112 : decode b_Q_reach 112 = .ok (.iaload, 1) := by decide +kernel
theorem d_Q_reach_113 : decode b_Q_reach 113 = .ok (.iastore, 1) := by decide +kernel
theorem d_Q_reach_114 : decode b_Q_reach 114 = .ok (.iinc 7 1, 3) := by decide +kernel
theorem d_Q_reach_117 : decode b_Q_reach 117 = .ok (.goto (-36), 3) := by decide +kernel
theorem d_Q_reach_120 : decode b_Q_reach 120 = .ok (.aload_n 0, 1) := by decide +kernel
theorem d_Q_reach_121 : decode b_Q_reach 121 = .ok (.getfield 59, 3) := by decide +kernel
theorem d_Q_reach_124 : decode b_Q_reach 124 = .ok (.bipush 10, 2) := by decide +kernel
theorem d_Q_reach_126 : decode b_Q_reach 126 = .ok (.dup2, 1) := by decide +kernel
theorem d_Q_reach_127 : decode b_Q_reach 127 = .ok (.iaload, 1) := by decide +kernel
theorem d_Q_reach_128 : decode b_Q_reach 128 = .ok (.iconst 1, 1) := by decide +kernel
theorem d_Q_reach_129 : decode b_Q_reach 129 = .ok (.iadd, 1) := by decide +kernel
theorem d_Q_reach_130 : decode b_Q_reach 130 = .ok (.iastore, 1) := by decide +kernel
theorem d_Q_reach_131 : decode b_Q_reach 131 = .ok (.aload_n 0, 1) := by decide +kernel
theorem d_Q_reach_132 : decode b_Q_reach 132 = .ok (.iload_n 1, 1) := by decide +kernel
theorem d_Q_reach_133 : decode b_Q_reach 133 = .ok (.iload 6, 2) := by decide +kernel
theorem d_Q_reach_135 : decode b_Q_reach 135 = .ok (.iconst 1, 1) := by decide +kernel
theorem d_Q_reach_136 : decode b_Q_reach 136 = .ok (.invokevirtual 91, 3) := by decide +kernel
theorem d_Q_reach_139 : decode b_Q_reach 139 = .ok (.iload 6, 2) := by decide +kernel
theorem d_Q_reach_141 : decode b_Q_reach 141 = .ok (.istore 5, 2) := by decide +kernel
theorem d_Q_reach_143 : decode b_Q_reach 143 = .ok (.aload_n 0, 1) := by decide +kernel
theorem d_Q_reach_144 : decode b_Q_reach 144 = .ok (.getfield 41, 3) := by decide +kernel
theorem d_Q_reach_147 : decode b_Q_reach 147 = .ok (.iload 5, 2) := by decide +kernel
theorem d_Q_reach_149 : decode b_Q_reach 149 = .ok (.iconst 1, 1) := by decide +kernel
theorem d_Q_reach_150 : decode b_Q_reach 150 = .ok (.bastore, 1) := by decide +kernel
theorem d_Q_reach_151 : decode b_Q_reach 151 = .ok (.iload_n 3, 1) := by decide +kernel
theorem d_Q_reach_152 : decode b_Q_reach 152 = .ok (.ifCond .eq 11, 3) := by decide +kernel
theorem d_Q_reach_155 : decode b_Q_reach 155 = .ok (.aload_n 0, 1) := by decide +kernel
theorem d_Q_reach_156 : decode b_Q_reach 156 = .ok (.getfield 44, 3) := by decide +kernel
theorem d_Q_reach_159 : decode b_Q_reach 159 = .ok (.iload 5, 2) := by decide +kernel
theorem d_Q_reach_161 : decode b_Q_reach 161 = .ok (.iconst 1, 1) := by decide +kernel
theorem d_Q_reach_162 : decode b_Q_reach 162 = .ok (.bastore, 1) := by decide +kernel
theorem d_Q_reach_163 : decode b_Q_reach 163 = .ok (.bipush 8, 2) := by decide +kernel
theorem d_Q_reach_165 : decode b_Q_reach 165 = .ok (.iload 5, 2) := by decide +kernel
theorem d_Q_reach_167 : decode b_Q_reach 167 = .ok (.imul, 1) := by decide +kernel
theorem d_Q_reach_168 : decode b_Q_reach 168 = .ok (.iload_n 2, 1) := by decide +kernel
theorem d_Q_reach_169 : decode b_Q_reach 169 = .ok (.bipush 8, 2) := by decide +kernel
theorem d_Q_reach_171 : decode b_Q_reach 171 = .ok (.irem, 1) := by decide +kernel
theorem d_Q_reach_172 : decode b_Q_reach 172 = .ok (.iadd, 1) := by decide +kernel
theorem d_Q_reach_173 : decode b_Q_reach 173 = .ok (.ireturn, 1) := by decide +kernel
theorem d_Q_fresh_0 : decode b_Q_fresh 0 = .ok (.iconst 0, 1) := by decide +kernel
theorem d_Q_fresh_1 : decode b_Q_fresh 1 = .ok (.istore_n 1, 1) := by decide +kernel
theorem d_Q_fresh_2 : decode b_Q_fresh 2 = .ok (.aload_n 0, 1) := by decide +kernel
theorem d_Q_fresh_3 : decode b_Q_fresh 3 = .ok (.getfield 37, 3) := by decide +kernel
theorem d_Q_fresh_6 : decode b_Q_fresh 6 = .ok (.iload_n 1, 1) := by decide +kernel
theorem d_Q_fresh_7 : decode b_Q_fresh 7 = .ok (.baload, 1) := by decide +kernel
theorem d_Q_fresh_8 : decode b_Q_fresh 8 = .ok (.ifCond .eq 9, 3) := by decide +kernel
theorem d_Q_fresh_11 : decode b_Q_fresh 11 = .ok (.iinc 1 1, 3) := by decide +kernel
theorem d_Q_fresh_14 : decode b_Q_fresh 14 = .ok (.goto (-12), 3) := by decide +kernel
theorem d_Q_fresh_17 : decode b_Q_fresh 17 = .ok (.aload_n 0, 1) := by decide +kernel
theorem d_Q_fresh_18 : decode b_Q_fresh 18 = .ok (.getfield 37, 3) := by decide +kernel
theorem d_Q_fresh_21 : decode b_Q_fresh 21 = .ok (.iload_n 1, 1) := by decide +kernel
theorem d_Q_fresh_22 : decode b_Q_fresh 22 = .ok (.iconst 1, 1) := by decide +kernel
theorem d_Q_fresh_23 : decode b_Q_fresh 23 = .ok (.bastore, 1) := by decide +kernel
theorem d_Q_fresh_24 : decode b_Q_fresh 24 = .ok (.aload_n 0, 1) := by decide +kernel
theorem d_Q_fresh_25 : decode b_Q_fresh 25 = .ok (.getfield 41, 3) := by decide +kernel
theorem d_Q_fresh_28 : decode b_Q_fresh 28 = .ok (.iload_n 1, 1) := by decide +kernel
theorem d_Q_fresh_29 : decode b_Q_fresh 29 = .ok (.iconst 0, 1) := by decide +kernel
theorem d_Q_fresh_30 : decode b_Q_fresh 30 = .ok (.bastore, 1) := by decide +kernel
theorem d_Q_fresh_31 : decode b_Q_fresh 31 = .ok (.aload_n 0, 1) := by decide +kernel
theorem d_Q_fresh_32 : decode b_Q_fresh 32 = .ok (.getfield 44, 3) := by decide +kernel
theorem d_Q_fresh_35 : decode b_Q_fresh 35 = .ok (.iload_n 1, 1) := by decide +kernel
theorem d_Q_fresh_36 : decode b_Q_fresh 36 = .ok (.iconst 0, 1) := by decide +kernel
theorem d_Q_fresh_37 : decode b_Q_fresh 37 = .ok (.bastore, 1) := by decide +kernel
theorem d_Q_fresh_38 : decode b_Q_fresh 38 = .ok (.aload_n 0, 1) := by decide +kernel
theorem d_Q_fresh_39 : decode b_Q_fresh 39 = .ok (.getfield 47, 3) := by decide +kernel
theorem d_Q_fresh_42 : decode b_Q_fresh 42 = .ok (.iload_n 1, 1) := by decide +kernel
theorem d_Q_fresh_43 : decode b_Q_fresh 43 = .ok (.iconst (-1), 1) := by decide +kernel
theorem d_Q_fresh_44 : decode b_Q_fresh 44 = .ok (.iastore, 1) := by decide +kernel
theorem d_Q_fresh_45 : decode b_Q_fresh 45 = .ok (.aload_n 0, 1) := by decide +kernel
theorem d_Q_fresh_46 : decode b_Q_fresh 46 = .ok (.getfield 50, 3) := by decide +kernel
theorem d_Q_fresh_49 : decode b_Q_fresh 49 = .ok (.iload_n 1, 1) := by decide +kernel
theorem d_Q_fresh_50 : decode b_Q_fresh 50 = .ok (.iconst (-1), 1) := by decide +kernel
theorem d_Q_fresh_51 : decode b_Q_fresh 51 = .ok (.iastore, 1) := by decide +kernel
theorem d_Q_fresh_52 : decode b_Q_fresh 52 = .ok (.bipush 8, 2) := by decide +kernel
theorem d_Q_fresh_54 : decode b_Q_fresh 54 = .ok (.iload_n 1, 1) := by decide +kernel
theorem d_Q_fresh_55 : decode b_Q_fresh 55 = .ok (.imul, 1) := by decide +kernel
theorem d_Q_fresh_56 : decode b_Q_fresh 56 = .ok (.istore_n 2, 1) := by decide +kernel
theorem d_Q_fresh_57 : decode b_Q_fresh 57 = .ok (.iload_n 2, 1) := by decide +kernel
theorem d_Q_fresh_58 : decode b_Q_fresh 58 = .ok (.bipush 8, 2) := by decide +kernel
theorem d_Q_fresh_60 : decode b_Q_fresh 60 = .ok (.iload_n 1, 1) := by decide +kernel
theorem d_Q_fresh_61 : decode b_Q_fresh 61 = .ok (.imul, 1) := by decide +kernel
theorem d_Q_fresh_62 : decode b_Q_fresh 62 = .ok (.bipush 8, 2) := by decide +kernel
theorem d_Q_fresh_64 : decode b_Q_fresh 64 = .ok (.iadd, 1) := by decide +kernel
theorem d_Q_fresh_65 : decode b_Q_fresh 65 = .ok (.if_icmp .ge 16, 3) := by decide +kernel
theorem d_Q_fresh_68 : decode b_Q_fresh 68 = .ok (.aload_n 0, 1) := by decide +kernel
theorem d_Q_fresh_69 : decode b_Q_fresh 69 = .ok (.getfield 53, 3) := by decide +kernel
theorem d_Q_fresh_72 : decode b_Q_fresh 72 = .ok (.iload_n 2, 1) := by decide +kernel
theorem d_Q_fresh_73 : decode b_Q_fresh 73 = .ok (.iconst 0, 1) := by decide +kernel
theorem d_Q_fresh_74 : decode b_Q_fresh 74 = .ok (.iastore, 1) := by decide +kernel
theorem d_Q_fresh_75 : decode b_Q_fresh 75 = .ok (.iinc 2 1, 3) := by decide +kernel
theorem d_Q_fresh_78 : decode b_Q_fresh 78 = .ok (.goto (-21), 3) := by decide +kernel
theorem d_Q_fresh_81 : decode b_Q_fresh 81 = .ok (.iload_n 1, 1) := by decide +kernel
theorem d_Q_fresh_82 : decode b_Q_fresh 82 = .ok (.ireturn, 1) := by decide +kernel
theorem d_Q_bring_0 : decode b_Q_bring 0 = .ok (.aload_n 0, 1) := by decide +kernel
theorem d_Q_bring_1 : decode b_Q_bring 1 = .ok (.getfield 47, 3) := by decide +kernel
theorem d_Q_bring_4 : decode b_Q_bring 4 = .ok (.iload_n 2, 1) := by decide +kernel
theorem d_Q_bring_5 : decode b_Q_bring 5 = .ok (.iaload, 1) := by decide +kernel
theorem d_Q_bring_6 : decode b_Q_bring 6 = .ok (.ifCond .lt 4, 3) := by decide +kernel
theorem d_Q_bring_9 : decode b_Q_bring 9 = .ok (.return_, 1) := by decide +kernel
theorem d_Q_bring_10 : decode b_Q_bring 10 = .ok (.iload_n 3, 1) := by decide +kernel
theorem d_Q_bring_11 : decode b_Q_bring 11 = .ok (.ifCond .ne 44, 3) := by decide +kernel
theorem d_Q_bring_14 : decode b_Q_bring 14 = .ok (.aload_n 0, 1) := by decide +kernel
theorem d_Q_bring_15 : decode b_Q_bring 15 = .ok (.getfield 59, 3) := by decide +kernel
theorem d_Q_bring_18 : decode b_Q_bring 18 = .ok (.bipush 7, 2) := by decide +kernel
theorem d_Q_bring_20 : decode b_Q_bring 20 = .ok (.dup2, 1) := by decide +kernel
theorem d_Q_bring_21 : decode b_Q_bring 21 = .ok (.iaload, 1) := by decide +kernel
theorem d_Q_bring_22 : decode b_Q_bring 22 = .ok (.iconst 1, 1) := by decide +kernel
theorem d_Q_bring_23 : decode b_Q_bring 23 = .ok (.iadd, 1) := by decide +kernel
theorem d_Q_bring_24 : decode b_Q_bring 24 = .ok (.iastore, 1) := by decide +kernel
theorem d_Q_bring_25 : decode b_Q_bring 25 = .ok (.aload_n 0, 1) := by decide +kernel
theorem d_Q_bring_26 : decode b_Q_bring 26 = .ok (.getfield 25, 3) := by decide +kernel
theorem d_Q_bring_29 : decode b_Q_bring 29 = .ok (.iload_n 1, 1) := by decide +kernel
theorem d_Q_bring_30 : decode b_Q_bring 30 = .ok (.dup2, 1) := by decide +kernel
theorem d_Q_bring_31 : decode b_Q_bring 31 = .ok (.iaload, 1) := by decide +kernel
theorem d_Q_bring_32 : decode b_Q_bring 32 = .ok (.iconst 1, 1) := by decide +kernel
theorem d_Q_bring_33 : decode b_Q_bring 33 = .ok (.iadd, 1) := by decide +kernel
theorem d_Q_bring_34 : decode b_Q_bring 34 = .ok (.iastore, 1) := by decide +kernel
theorem d_Q_bring_35 : decode b_Q_bring 35 = .ok (.aload_n 0, 1) := by decide +kernel
theorem d_Q_bring_36 : decode b_Q_bring 36 = .ok (.getfield 50, 3) := by decide +kernel
theorem d_Q_bring_39 : decode b_Q_bring 39 = .ok (.iload_n 2, 1) := by decide +kernel
theorem d_Q_bring_40 : decode b_Q_bring 40 = .ok (.iaload, 1) := by decide +kernel
theorem d_Q_bring_41 : decode b_Q_bring 41 = .ok (.ifCond .lt 14, 3) := by decide +kernel
theorem d_Q_bring_44 : decode b_Q_bring 44 = .ok (.aload_n 0, 1) := by decide +kernel
theorem d_Q_bring_45 : decode b_Q_bring 45 = .ok (.getfield 59, 3) := by decide +kernel
theorem d_Q_bring_48 : decode b_Q_bring 48 = .ok (.bipush 9, 2) := by decide +kernel
theorem d_Q_bring_50 : decode b_Q_bring 50 = .ok (.dup2, 1) := by decide +kernel
theorem d_Q_bring_51 : decode b_Q_bring 51 = .ok (.iaload, 1) := by decide +kernel
theorem d_Q_bring_52 : decode b_Q_bring 52 = .ok (.iconst 1, 1) := by decide +kernel
theorem d_Q_bring_53 : decode b_Q_bring 53 = .ok (.iadd, 1) := by decide +kernel
theorem d_Q_bring_54 : decode b_Q_bring 54 = .ok (.iastore, 1) := by decide +kernel
theorem d_Q_bring_55 : decode b_Q_bring 55 = .ok (.aload_n 0, 1) := by decide +kernel
theorem d_Q_bring_56 : decode b_Q_bring 56 = .ok (.getfield 47, 3) := by decide +kernel
theorem d_Q_bring_59 : decode b_Q_bring 59 = .ok (.iload_n 2, 1) := by decide +kernel
theorem d_Q_bring_60 : decode b_Q_bring 60 = .ok (.aload_n 0, 1) := by decide +kernel
theorem d_Q_bring_61 : decode b_Q_bring 61 = .ok (.invokevirtual 84, 3) := by decide +kernel
theorem d_Q_bring_64 : decode b_Q_bring 64 = .ok (.iastore, 1) := by decide +kernel
theorem d_Q_bring_65 : decode b_Q_bring 65 = .ok (.return_, 1) := by decide +kernel
theorem d_Q_freeFrame_0 : decode b_Q_freeFrame 0 = .ok (.iconst 0, 1) := by decide +kernel
theorem d_Q_freeFrame_1 : decode b_Q_freeFrame 1 = .ok (.istore_n 1, 1) := by decide +kernel
theorem d_Q_freeFrame_2 : decode b_Q_freeFrame 2 = .ok (.iload_n 1, 1) := by decide +kernel
theorem d_Q_freeFrame_3 : decode b_Q_freeFrame 3 = .ok (.bipush 6, 2) := by decide +kernel
theorem d_Q_freeFrame_5 : decode b_Q_freeFrame 5 = .ok (.if_icmp .ge 19, 3) := by decide +kernel
theorem d_Q_freeFrame_8 : decode b_Q_freeFrame 8 = .ok (.aload_n 0, 1) := by decide +kernel
theorem d_Q_freeFrame_9 : decode b_Q_freeFrame 9 = .ok (.iload_n 1, 1) := by decide +kernel
theorem d_Q_freeFrame_10 : decode b_Q_freeFrame 10 = .ok (.invokevirtual 74, 3) := by decide +kernel
theorem d_Q_freeFrame_13 : decode b_Q_freeFrame 13 = .ok (.ifCond .ge 5, 3) := by decide +kernel
theorem d_Q_freeFrame_16 : decode b_Q_freeFrame 16 = .ok (.iload_n 1, 1) := by decide +kernel
theorem d_Q_freeFrame_17 : decode b_Q_freeFrame 17 = .ok (.ireturn, 1) := by decide +kernel
theorem d_Q_freeFrame_18 : decode b_Q_freeFrame 18 = .ok (.iinc 1 1, 3) := by decide +kernel
theorem d_Q_freeFrame_21 : decode b_Q_freeFrame 21 = .ok (.goto (-19), 3) := by decide +kernel
theorem d_Q_freeFrame_24 : decode b_Q_freeFrame 24 = .ok (.aload_n 0, 1) := by decide +kernel
theorem d_Q_freeFrame_25 : decode b_Q_freeFrame 25 = .ok (.getfield 41, 3) := by decide +kernel
theorem d_Q_freeFrame_28 : decode b_Q_freeFrame 28 = .ok (.aload_n 0, 1) := by decide +kernel
theorem d_Q_freeFrame_29 : decode b_Q_freeFrame 29 = .ok (.aload_n 0, 1) := by decide +kernel
theorem d_Q_freeFrame_30 : decode b_Q_freeFrame 30 = .ok (.getfield 77, 3) := by decide +kernel
theorem d_Q_freeFrame_33 : decode b_Q_freeFrame 33 = .ok (.invokevirtual 74, 3) := by decide +kernel
theorem d_Q_freeFrame_36 : decode b_Q_freeFrame 36 = .ok (.baload, 1) := by decide +kernel
theorem d_Q_freeFrame_37 : decode b_Q_freeFrame 37 = .ok (.ifCond .eq 33, 3) := by decide +kernel
theorem d_Q_freeFrame_40 : decode b_Q_freeFrame 40 = .ok (.aload_n 0, 1) := by decide +kernel
theorem d_Q_freeFrame_41 : decode b_Q_freeFrame 41 = .ok (.getfield 41, 3) := by decide +kernel
theorem d_Q_freeFrame_44 : decode b_Q_freeFrame 44 = .ok (.aload_n 0, 1) := by decide +kernel
theorem d_Q_freeFrame_45 : decode b_Q_freeFrame 45 = .ok (.aload_n 0, 1) := by decide +kernel
theorem d_Q_freeFrame_46 : decode b_Q_freeFrame 46 = .ok (.getfield 77, 3) := by decide +kernel
theorem d_Q_freeFrame_49 : decode b_Q_freeFrame 49 = .ok (.invokevirtual 74, 3) := by decide +kernel
theorem d_Q_freeFrame_52 : decode b_Q_freeFrame 52 = .ok (.iconst 0, 1) := by decide +kernel
theorem d_Q_freeFrame_53 : decode b_Q_freeFrame 53 = .ok (.bastore, 1) := by decide +kernel
theorem d_Q_freeFrame_54 : decode b_Q_freeFrame 54 = .ok (.aload_n 0, 1) := by decide +kernel
theorem d_Q_freeFrame_55 : decode b_Q_freeFrame 55 = .ok (.aload_n 0, 1) := by decide +kernel
theorem d_Q_freeFrame_56 : decode b_Q_freeFrame 56 = .ok (.getfield 77, 3) := by decide +kernel
theorem d_Q_freeFrame_59 : decode b_Q_freeFrame 59 = .ok (.iconst 1, 1) := by decide +kernel
theorem d_Q_freeFrame_60 : decode b_Q_freeFrame 60 = .ok (.iadd, 1) := by decide +kernel
theorem d_Q_freeFrame_61 : decode b_Q_freeFrame 61 = .ok (.bipush 6, 2) := by decide +kernel
theorem d_Q_freeFrame_63 : decode b_Q_freeFrame 63 = .ok (.irem, 1) := by decide +kernel
theorem d_Q_freeFrame_64 : decode b_Q_freeFrame 64 = .ok (.putfield 77, 3) := by decide +kernel
theorem d_Q_freeFrame_67 : decode b_Q_freeFrame 67 = .ok (.goto (-43), 3) := by decide +kernel
theorem d_Q_freeFrame_70 : decode b_Q_freeFrame 70 = .ok (.aload_n 0, 1) := by decide +kernel
theorem d_Q_freeFrame_71 : decode b_Q_freeFrame 71 = .ok (.aload_n 0, 1) := by decide +kernel
theorem d_Q_freeFrame_72 : decode b_Q_freeFrame 72 = .ok (.aload_n 0, 1) := by decide +kernel
theorem d_Q_freeFrame_73 : decode b_Q_freeFrame 73 = .ok (.getfield 77, 3) := by decide +kernel
theorem d_Q_freeFrame_76 : decode b_Q_freeFrame 76 = .ok (.invokevirtual 74, 3) := by decide +kernel
theorem d_Q_freeFrame_79 : decode b_Q_freeFrame 79 = .ok (.invokevirtual 80, 3) := by decide +kernel
theorem d_Q_freeFrame_82 : decode b_Q_freeFrame 82 = .ok (.aload_n 0, 1) := by decide +kernel
theorem d_Q_freeFrame_83 : decode b_Q_freeFrame 83 = .ok (.getfield 77, 3) := by decide +kernel
theorem d_Q_freeFrame_86 : decode b_Q_freeFrame 86 = .ok (.istore_n 1, 1) := by decide +kernel
theorem d_Q_freeFrame_87 : decode b_Q_freeFrame 87 = .ok (.aload_n 0, 1) := by decide +kernel
theorem d_Q_freeFrame_88 : decode b_Q_freeFrame 88 = .ok (.aload_n 0, 1) := by decide +kernel
theorem d_Q_freeFrame_89 : decode b_Q_freeFrame 89 = .ok (.getfield 77, 3) := by decide +kernel
theorem d_Q_freeFrame_92 : decode b_Q_freeFrame 92 = .ok (.iconst 1, 1) := by decide +kernel
theorem d_Q_freeFrame_93 : decode b_Q_freeFrame 93 = .ok (.iadd, 1) := by decide +kernel
theorem d_Q_freeFrame_94 : decode b_Q_freeFrame 94 = .ok (.bipush 6, 2) := by decide +kernel
theorem d_Q_freeFrame_96 : decode b_Q_freeFrame 96 = .ok (.irem, 1) := by decide +kernel
theorem d_Q_freeFrame_97 : decode b_Q_freeFrame 97 = .ok (.putfield 77, 3) := by decide +kernel
theorem d_Q_freeFrame_100 : decode b_Q_freeFrame 100 = .ok (.iload_n 1, 1) := by decide +kernel
theorem d_Q_freeFrame_101 : decode b_Q_freeFrame 101 = .ok (.ireturn, 1) := by decide +kernel
theorem d_Q_inFrame_0 : decode b_Q_inFrame 0 = .ok (.iconst 0, 1) := by decide +kernel
theorem d_Q_inFrame_1 : decode b_Q_inFrame 1 = .ok (.istore_n 2, 1) := by decide +kernel
theorem d_Q_inFrame_2 : decode b_Q_inFrame 2 = .ok (.iload_n 2, 1) := by decide +kernel
theorem d_Q_inFrame_3 : decode b_Q_inFrame 3 = .ok (.bipush 34, 2) := by decide +kernel
theorem d_Q_inFrame_5 : decode b_Q_inFrame 5 = .ok (.if_icmp .ge 30, 3) := by decide +kernel
theorem d_Q_inFrame_8 : decode b_Q_inFrame 8 = .ok (.aload_n 0, 1) := by decide +kernel
theorem d_Q_inFrame_9 : decode b_Q_inFrame 9 = .ok (.getfield 37, 3) := by decide +kernel
theorem d_Q_inFrame_12 : decode b_Q_inFrame 12 = .ok (.iload_n 2, 1) := by decide +kernel
theorem d_Q_inFrame_13 : decode b_Q_inFrame 13 = .ok (.baload, 1) := by decide +kernel
theorem d_Q_inFrame_14 : decode b_Q_inFrame 14 = .ok (.ifCond .eq 15, 3) := by decide +kernel
theorem d_Q_inFrame_17 : decode b_Q_inFrame 17 = .ok (.aload_n 0, 1) := by decide +kernel
theorem d_Q_inFrame_18 : decode b_Q_inFrame 18 = .ok (.getfield 47, 3) := by decide +kernel
theorem d_Q_inFrame_21 : decode b_Q_inFrame 21 = .ok (.iload_n 2, 1) := by decide +kernel
theorem d_Q_inFrame_22 : decode b_Q_inFrame 22 = .ok (.iaload, 1) := by decide +kernel
theorem d_Q_inFrame_23 : decode b_Q_inFrame 23 = .ok (.iload_n 1, 1) := by decide +kernel
theorem d_Q_inFrame_24 : decode b_Q_inFrame 24 = .ok (.if_icmp .ne 5, 3) := by decide +kernel
theorem d_Q_inFrame_27 : decode b_Q_inFrame 27 = .ok (.iload_n 2, 1) := by decide +kernel
theorem d_Q_inFrame_28 : decode b_Q_inFrame 28 = .ok (.ireturn, 1) := by decide +kernel
theorem d_Q_inFrame_29 : decode b_Q_inFrame 29 = .ok (.iinc 2 1, 3) := by decide +kernel
theorem d_Q_inFrame_32 : decode b_Q_inFrame 32 = .ok (.goto (-30), 3) := by decide +kernel
theorem d_Q_inFrame_35 : decode b_Q_inFrame 35 = .ok (.iconst (-1), 1) := by decide +kernel
theorem d_Q_inFrame_36 : decode b_Q_inFrame 36 = .ok (.ireturn, 1) := by decide +kernel
theorem d_Q_goesOut_0 : decode b_Q_goesOut 0 = .ok (.aload_n 0, 1) := by decide +kernel
theorem d_Q_goesOut_1 : decode b_Q_goesOut 1 = .ok (.getfield 47, 3) := by decide +kernel
theorem d_Q_goesOut_4 : decode b_Q_goesOut 4 = .ok (.iload_n 1, 1) := by decide +kernel
theorem d_Q_goesOut_5 : decode b_Q_goesOut 5 = .ok (.iconst (-1), 1) := by decide +kernel
theorem d_Q_goesOut_6 : decode b_Q_goesOut 6 = .ok (.iastore, 1) := by decide +kernel
theorem d_Q_goesOut_7 : decode b_Q_goesOut 7 = .ok (.aload_n 0, 1) := by decide +kernel
theorem d_Q_goesOut_8 : decode b_Q_goesOut 8 = .ok (.getfield 44, 3) := by decide +kernel
theorem d_Q_goesOut_11 : decode b_Q_goesOut 11 = .ok (.iload_n 1, 1) := by decide +kernel
theorem d_Q_goesOut_12 : decode b_Q_goesOut 12 = .ok (.baload, 1) := by decide +kernel
theorem d_Q_goesOut_13 : decode b_Q_goesOut 13 = .ok (.ifCond .ne 4, 3) := by decide +kernel
theorem d_Q_goesOut_16 : decode b_Q_goesOut 16 = .ok (.return_, 1) := by decide +kernel
theorem d_Q_goesOut_17 : decode b_Q_goesOut 17 = .ok (.aload_n 0, 1) := by decide +kernel
theorem d_Q_goesOut_18 : decode b_Q_goesOut 18 = .ok (.getfield 44, 3) := by decide +kernel
theorem d_Q_goesOut_21 : decode b_Q_goesOut 21 = .ok (.iload_n 1, 1) := by decide +kernel
theorem d_Q_goesOut_22 : decode b_Q_goesOut 22 = .ok (.iconst 0, 1) := by decide +kernel
theorem d_Q_goesOut_23 : decode b_Q_goesOut 23 = .ok (.bastore, 1) := by decide +kernel
theorem d_Q_goesOut_24 : decode b_Q_goesOut 24 = .ok (.aload_n 0, 1) := by decide +kernel
theorem d_Q_goesOut_25 : decode b_Q_goesOut 25 = .ok (.getfield 50, 3) := by decide +kernel
theorem d_Q_goesOut_28 : decode b_Q_goesOut 28 = .ok (.iload_n 1, 1) := by decide +kernel
theorem d_Q_goesOut_29 : decode b_Q_goesOut 29 = .ok (.iaload, 1) := by decide +kernel
theorem d_Q_goesOut_30 : decode b_Q_goesOut 30 = .ok (.ifCond .ge 26, 3) := by decide +kernel
theorem d_Q_goesOut_33 : decode b_Q_goesOut 33 = .ok (.iconst 0, 1) := by decide +kernel
theorem d_Q_goesOut_34 : decode b_Q_goesOut 34 = .ok (.istore_n 2, 1) := by decide +kernel
theorem d_Q_goesOut_35 : decode b_Q_goesOut 35 = .ok (.aload_n 0, 1) := by decide +kernel
theorem d_Q_goesOut_36 : decode b_Q_goesOut 36 = .ok (.iload_n 2, 1) := by decide +kernel
theorem d_Q_goesOut_37 : decode b_Q_goesOut 37 = .ok (.invokevirtual 70, 3) := by decide +kernel
theorem d_Q_goesOut_40 : decode b_Q_goesOut 40 = .ok (.ifCond .eq 9, 3) := by decide +kernel
theorem d_Q_goesOut_43 : decode b_Q_goesOut 43 = .ok (.iinc 2 1, 3) := by decide +kernel
theorem d_Q_goesOut_46 : decode b_Q_goesOut 46 = .ok (.goto (-11), 3) := by decide +kernel
theorem d_Q_goesOut_49 : decode b_Q_goesOut 49 = .ok (.aload_n 0, 1) := by decide +kernel
theorem d_Q_goesOut_50 : decode b_Q_goesOut 50 = .ok (.getfield 50, 3) := by decide +kernel
theorem d_Q_goesOut_53 : decode b_Q_goesOut 53 = .ok (.iload_n 1, 1) := by decide +kernel
theorem d_Q_goesOut_54 : decode b_Q_goesOut 54 = .ok (.iload_n 2, 1) := by decide +kernel
theorem d_Q_goesOut_55 : decode b_Q_goesOut 55 = .ok (.iastore, 1) := by decide +kernel
theorem d_Q_goesOut_56 : decode b_Q_goesOut 56 = .ok (.aload_n 0, 1) := by decide +kernel
theorem d_Q_goesOut_57 : decode b_Q_goesOut 57 = .ok (.getfield 59, 3) := by decide +kernel
theorem d_Q_goesOut_60 : decode b_Q_goesOut 60 = .ok (.bipush 8, 2) := by decide +kernel
theorem d_Q_goesOut_62 : decode b_Q_goesOut 62 = .ok (.dup2, 1) := by decide +kernel
theorem d_Q_goesOut_63 : decode b_Q_goesOut 63 = .ok (.iaload, 1) := by decide +kernel
theorem d_Q_goesOut_64 : decode b_Q_goesOut 64 = .ok (.iconst 1, 1) := by decide +kernel
theorem d_Q_goesOut_65 : decode b_Q_goesOut 65 = .ok (.iadd, 1) := by decide +kernel
theorem d_Q_goesOut_66 : decode b_Q_goesOut 66 = .ok (.iastore, 1) := by decide +kernel
theorem d_Q_goesOut_67 : decode b_Q_goesOut 67 = .ok (.return_, 1) := by decide +kernel
theorem d_Q_isSlot_0 : decode b_Q_isSlot 0 = .ok (.iconst 0, 1) := by decide +kernel
theorem d_Q_isSlot_1 : decode b_Q_isSlot 1 = .ok (.istore_n 2, 1) := by decide +kernel
theorem d_Q_isSlot_2 : decode b_Q_isSlot 2 = .ok (.iload_n 2, 1) := by decide +kernel
theorem d_Q_isSlot_3 : decode b_Q_isSlot 3 = .ok (.bipush 34, 2) := by decide +kernel
theorem d_Q_isSlot_5 : decode b_Q_isSlot 5 = .ok (.if_icmp .ge 30, 3) := by decide +kernel
theorem d_Q_isSlot_8 : decode b_Q_isSlot 8 = .ok (.aload_n 0, 1) := by decide +kernel
theorem d_Q_isSlot_9 : decode b_Q_isSlot 9 = .ok (.getfield 37, 3) := by decide +kernel
theorem d_Q_isSlot_12 : decode b_Q_isSlot 12 = .ok (.iload_n 2, 1) := by decide +kernel
theorem d_Q_isSlot_13 : decode b_Q_isSlot 13 = .ok (.baload, 1) := by decide +kernel
theorem d_Q_isSlot_14 : decode b_Q_isSlot 14 = .ok (.ifCond .eq 15, 3) := by decide +kernel
theorem d_Q_isSlot_17 : decode b_Q_isSlot 17 = .ok (.aload_n 0, 1) := by decide +kernel
theorem d_Q_isSlot_18 : decode b_Q_isSlot 18 = .ok (.getfield 50, 3) := by decide +kernel
theorem d_Q_isSlot_21 : decode b_Q_isSlot 21 = .ok (.iload_n 2, 1) := by decide +kernel
theorem d_Q_isSlot_22 : decode b_Q_isSlot 22 = .ok (.iaload, 1) := by decide +kernel
theorem d_Q_isSlot_23 : decode b_Q_isSlot 23 = .ok (.iload_n 1, 1) := by decide +kernel
theorem d_Q_isSlot_24 : decode b_Q_isSlot 24 = .ok (.if_icmp .ne 5, 3) := by decide +kernel
theorem d_Q_isSlot_27 : decode b_Q_isSlot 27 = .ok (.iconst 1, 1) := by decide +kernel
theorem d_Q_isSlot_28 : decode b_Q_isSlot 28 = .ok (.ireturn, 1) := by decide +kernel
theorem d_Q_isSlot_29 : decode b_Q_isSlot 29 = .ok (.iinc 2 1, 3) := by decide +kernel
theorem d_Q_isSlot_32 : decode b_Q_isSlot 32 = .ok (.goto (-30), 3) := by decide +kernel
theorem d_Q_isSlot_35 : decode b_Q_isSlot 35 = .ok (.iconst 0, 1) := by decide +kernel
theorem d_Q_isSlot_36 : decode b_Q_isSlot 36 = .ok (.ireturn, 1) := by decide +kernel
theorem d_Q_sharers_0 : decode b_Q_sharers 0 = .ok (.iconst 0, 1) := by decide +kernel
theorem d_Q_sharers_1 : decode b_Q_sharers 1 = .ok (.istore_n 2, 1) := by decide +kernel
theorem d_Q_sharers_2 : decode b_Q_sharers 2 = .ok (.iconst 0, 1) := by decide +kernel
theorem d_Q_sharers_3 : decode b_Q_sharers 3 = .ok (.istore_n 3, 1) := by decide +kernel
theorem d_Q_sharers_4 : decode b_Q_sharers 4 = .ok (.iload_n 3, 1) := by decide +kernel
theorem d_Q_sharers_5 : decode b_Q_sharers 5 = .ok (.bipush 32, 2) := by decide +kernel
theorem d_Q_sharers_7 : decode b_Q_sharers 7 = .ok (.if_icmp .ge 22, 3) := by decide +kernel
theorem d_Q_sharers_10 : decode b_Q_sharers 10 = .ok (.aload_n 0, 1) := by decide +kernel
theorem d_Q_sharers_11 : decode b_Q_sharers 11 = .ok (.getfield 34, 3) := by decide +kernel
theorem d_Q_sharers_14 : decode b_Q_sharers 14 = .ok (.iload_n 3, 1) := by decide +kernel
theorem d_Q_sharers_15 : decode b_Q_sharers 15 = .ok (.iaload, 1) := by decide +kernel
theorem d_Q_sharers_16 : decode b_Q_sharers 16 = .ok (.iload_n 1, 1) := by decide +kernel
theorem d_Q_sharers_17 : decode b_Q_sharers 17 = .ok (.if_icmp .ne 6, 3) := by decide +kernel
theorem d_Q_sharers_20 : decode b_Q_sharers 20 = .ok (.iinc 2 1, 3) := by decide +kernel
theorem d_Q_sharers_23 : decode b_Q_sharers 23 = .ok (.iinc 3 1, 3) := by decide +kernel
theorem d_Q_sharers_26 : decode b_Q_sharers 26 = .ok (.goto (-22), 3) := by decide +kernel
theorem d_Q_sharers_29 : decode b_Q_sharers 29 = .ok (.iload_n 2, 1) := by decide +kernel
theorem d_Q_sharers_30 : decode b_Q_sharers 30 = .ok (.ireturn, 1) := by decide +kernel
theorem d_Q_peek_0 : decode b_Q_peek 0 = .ok (.aload_n 0, 1) := by decide +kernel
theorem d_Q_peek_1 : decode b_Q_peek 1 = .ok (.iload_n 1, 1) := by decide +kernel
theorem d_Q_peek_2 : decode b_Q_peek 2 = .ok (.invokevirtual 105, 3) := by decide +kernel
theorem d_Q_peek_5 : decode b_Q_peek 5 = .ok (.ifCond .eq 12, 3) := by decide +kernel
theorem d_Q_peek_8 : decode b_Q_peek 8 = .ok (.iload_n 2, 1) := by decide +kernel
theorem d_Q_peek_9 : decode b_Q_peek 9 = .ok (.bipush 64, 2) := by decide +kernel
theorem d_Q_peek_11 : decode b_Q_peek 11 = .ok (.invokestatic 95, 3) := by decide +kernel
theorem d_Q_peek_14 : decode b_Q_peek 14 = .ok (.ifCond .ne 5, 3) := by decide +kernel
theorem d_Q_peek_17 : decode b_Q_peek 17 = .ok (.iconst (-1), 1) := by decide +kernel
theorem d_Q_peek_18 : decode b_Q_peek 18 = .ok (.ireturn, 1) := by decide +kernel
theorem d_Q_peek_19 : decode b_Q_peek 19 = .ok (.aload_n 0, 1) := by decide +kernel
theorem d_Q_peek_20 : decode b_Q_peek 20 = .ok (.getfield 34, 3) := by decide +kernel
theorem d_Q_peek_23 : decode b_Q_peek 23 = .ok (.bipush 8, 2) := by decide +kernel
theorem d_Q_peek_25 : decode b_Q_peek 25 = .ok (.iload_n 1, 1) := by decide +kernel
theorem d_Q_peek_26 : decode b_Q_peek 26 = .ok (.imul, 1) := by decide +kernel
theorem d_Q_peek_27 : decode b_Q_peek 27 = .ok (.iload_n 2, 1) := by decide +kernel
theorem d_Q_peek_28 : decode b_Q_peek 28 = .ok (.bipush 8, 2) := by decide +kernel
theorem d_Q_peek_30 : decode b_Q_peek 30 = .ok (.idiv, 1) := by decide +kernel
theorem d_Q_peek_31 : decode b_Q_peek 31 = .ok (.iadd, 1) := by decide +kernel
theorem d_Q_peek_32 : decode b_Q_peek 32 = .ok (.iaload, 1) := by decide +kernel
theorem d_Q_peek_33 : decode b_Q_peek 33 = .ok (.istore_n 3, 1) := by decide +kernel
theorem d_Q_peek_34 : decode b_Q_peek 34 = .ok (.iload_n 3, 1) := by decide +kernel
theorem d_Q_peek_35 : decode b_Q_peek 35 = .ok (.ifCond .ge 7, 3) := by decide +kernel
theorem d_Q_peek_38 : decode b_Q_peek 38 = .ok (.iconst 0, 1) := by decide +kernel
theorem d_Q_peek_39 : decode b_Q_peek 39 = .ok (.goto 17, 3) := by decide +kernel
theorem d_Q_peek_42 : decode b_Q_peek 42 = .ok (.aload_n 0, 1) := by decide +kernel
theorem d_Q_peek_43 : decode b_Q_peek 43 = .ok (.getfield 53, 3) := by decide +kernel
theorem d_Q_peek_46 : decode b_Q_peek 46 = .ok (.bipush 8, 2) := by decide +kernel
theorem d_Q_peek_48 : decode b_Q_peek 48 = .ok (.iload_n 3, 1) := by decide +kernel
theorem d_Q_peek_49 : decode b_Q_peek 49 = .ok (.imul, 1) := by decide +kernel
theorem d_Q_peek_50 : decode b_Q_peek 50 = .ok (.iload_n 2, 1) := by decide +kernel
theorem d_Q_peek_51 : decode b_Q_peek 51 = .ok (.bipush 8, 2) := by decide +kernel
theorem d_Q_peek_53 : decode b_Q_peek 53 = .ok (.irem, 1) := by decide +kernel
theorem d_Q_peek_54 : decode b_Q_peek 54 = .ok (.iadd, 1) := by decide +kernel
theorem d_Q_peek_55 : decode b_Q_peek 55 = .ok (.iaload, 1) := by decide +kernel
theorem d_Q_peek_56 : decode b_Q_peek 56 = .ok (.ireturn, 1) := by decide +kernel
end
section
theorem d_Q_kill_0 : decode b_Q_kill 0 = .ok (.aload_n 0, 1) := by decide +kernel
theorem d_Q_kill_1 : decode b_Q_kill 1 = .ok (.iload_n 1, 1) := by decide +kernel
theorem d_Q_kill_2 : decode b_Q_kill 2 = .ok (.invokevirtual 105, 3) := by decide +kernel
theorem d_Q_kill_5 : decode b_Q_kill 5 = .ok (.ifCond .ne 5, 3) := by decide +kernel
theorem d_Q_kill_8 : decode b_Q_kill 8 = .ok (.iconst 0, 1) := by decide +kernel
theorem d_Q_kill_9 : decode b_Q_kill 9 = .ok (.ireturn, 1) := by decide +kernel
theorem d_Q_kill_10 : decode b_Q_kill 10 = .ok (.aload_n 0, 1) := by decide +kernel
theorem d_Q_kill_11 : decode b_Q_kill 11 = .ok (.iload_n 1, 1) := by decide +kernel
theorem d_Q_kill_12 : decode b_Q_kill 12 = .ok (.bipush (-9), 2) := by decide +kernel
theorem d_Q_kill_14 : decode b_Q_kill 14 = .ok (.invokevirtual 115, 3) := by decide +kernel
theorem d_Q_kill_17 : decode b_Q_kill 17 = .ok (.iconst 1, 1) := by decide +kernel
theorem d_Q_kill_18 : decode b_Q_kill 18 = .ok (.ireturn, 1) := by decide +kernel
theorem d_Q_ends_0 : decode b_Q_ends 0 = .ok (.bipush 8, 2) := by decide +kernel
theorem d_Q_ends_2 : decode b_Q_ends 2 = .ok (.iload_n 1, 1) := by decide +kernel
theorem d_Q_ends_3 : decode b_Q_ends 3 = .ok (.imul, 1) := by decide +kernel
theorem d_Q_ends_4 : decode b_Q_ends 4 = .ok (.istore_n 3, 1) := by decide +kernel
theorem d_Q_ends_5 : decode b_Q_ends 5 = .ok (.iload_n 3, 1) := by decide +kernel
theorem d_Q_ends_6 : decode b_Q_ends 6 = .ok (.bipush 8, 2) := by decide +kernel
theorem d_Q_ends_8 : decode b_Q_ends 8 = .ok (.iload_n 1, 1) := by decide +kernel
theorem d_Q_ends_9 : decode b_Q_ends 9 = .ok (.imul, 1) := by decide +kernel
theorem d_Q_ends_10 : decode b_Q_ends 10 = .ok (.bipush 8, 2) := by decide +kernel
theorem d_Q_ends_12 : decode b_Q_ends 12 = .ok (.iadd, 1) := by decide +kernel
theorem d_Q_ends_13 : decode b_Q_ends 13 = .ok (.if_icmp .ge 14, 3) := by decide +kernel
theorem d_Q_ends_16 : decode b_Q_ends 16 = .ok (.aload_n 0, 1) := by decide +kernel
theorem d_Q_ends_17 : decode b_Q_ends 17 = .ok (.iload_n 3, 1) := by decide +kernel
theorem d_Q_ends_18 : decode b_Q_ends 18 = .ok (.invokevirtual 112, 3) := by decide +kernel
theorem d_Q_ends_21 : decode b_Q_ends 21 = .ok (.iinc 3 1, 3) := by decide +kernel
theorem d_Q_ends_24 : decode b_Q_ends 24 = .ok (.goto (-19), 3) := by decide +kernel
theorem d_Q_ends_27 : decode b_Q_ends 27 = .ok (.iconst 0, 1) := by decide +kernel
theorem d_Q_ends_28 : decode b_Q_ends 28 = .ok (.istore_n 3, 1) := by decide +kernel
theorem d_Q_ends_29 : decode b_Q_ends 29 = .ok (.iload_n 3, 1) := by decide +kernel
theorem d_Q_ends_30 : decode b_Q_ends 30 = .ok (.iconst 4, 1) := by decide +kernel
theorem d_Q_ends_31 : decode b_Q_ends 31 = .ok (.if_icmp .ge 56, 3) := by decide +kernel
theorem d_Q_ends_34 : decode b_Q_ends 34 = .ok (.aload_n 0, 1) := by decide +kernel
theorem d_Q_ends_35 : decode b_Q_ends 35 = .ok (.getfield 7, 3) := by decide +kernel
theorem d_Q_ends_38 : decode b_Q_ends 38 = .ok (.iload_n 3, 1) := by decide +kernel
theorem d_Q_ends_39 : decode b_Q_ends 39 = .ok (.iaload, 1) := by decide +kernel
theorem d_Q_ends_40 : decode b_Q_ends 40 = .ok (.ifCond .eq 41, 3) := by decide +kernel
theorem d_Q_ends_43 : decode b_Q_ends 43 = .ok (.aload_n 0, 1) := by decide +kernel
theorem d_Q_ends_44 : decode b_Q_ends 44 = .ok (.getfield 16, 3) := by decide +kernel
theorem d_Q_ends_47 : decode b_Q_ends 47 = .ok (.iload_n 3, 1) := by decide +kernel
theorem d_Q_ends_48 : decode b_Q_ends 48 = .ok (.iaload, 1) := by decide +kernel
theorem d_Q_ends_49 : decode b_Q_ends 49 = .ok (.iload_n 1, 1) := by decide +kernel
theorem d_Q_ends_50 : decode b_Q_ends 50 = .ok (.if_icmp .eq 6, 3) := by decide +kernel
theorem d_Q_ends_53 : decode b_Q_ends 53 = .ok (.goto 28, 3) := by decide +kernel
theorem d_Q_ends_56 : decode b_Q_ends 56 = .ok (.aload_n 0, 1) := by decide +kernel
theorem d_Q_ends_57 : decode b_Q_ends 57 = .ok (.getfield 16, 3) := by decide +kernel
theorem d_Q_ends_60 : decode b_Q_ends 60 = .ok (.iload_n 3, 1) := by decide +kernel
theorem d_Q_ends_61 : decode b_Q_ends 61 = .ok (.bipush (-2), 2) := by decide +kernel
theorem d_Q_ends_63 : decode b_Q_ends 63 = .ok (.iastore, 1) := by decide +kernel
theorem d_Q_ends_64 : decode b_Q_ends 64 = .ok (.aload_n 0, 1) := by decide +kernel
theorem d_Q_ends_65 : decode b_Q_ends 65 = .ok (.getfield 7, 3) := by decide +kernel
theorem d_Q_ends_68 : decode b_Q_ends 68 = .ok (.iload_n 3, 1) := by decide +kernel
theorem d_Q_ends_69 : decode b_Q_ends 69 = .ok (.iaload, 1) := by decide +kernel
theorem d_Q_ends_70 : decode b_Q_ends 70 = .ok (.iconst 4, 1) := by decide +kernel
theorem d_Q_ends_71 : decode b_Q_ends 71 = .ok (.if_icmp .ne 10, 3) := by decide +kernel
theorem d_Q_ends_74 : decode b_Q_ends 74 = .ok (.aload_n 0, 1) := by decide +kernel
theorem d_Q_ends_75 : decode b_Q_ends 75 = .ok (.getfield 7, 3) := by decide +kernel
theorem d_Q_ends_78 : decode b_Q_ends 78 = .ok (.iload_n 3, 1) := by decide +kernel
theorem d_Q_ends_79 : decode b_Q_ends 79 = .ok (.iconst 0, 1) := by decide +kernel
theorem d_Q_ends_80 : decode b_Q_ends 80 = .ok (.iastore, 1) := by decide +kernel
theorem d_Q_ends_81 : decode b_Q_ends 81 = .ok (.iinc 3 1, 3) := by decide +kernel
theorem d_Q_ends_84 : decode b_Q_ends 84 = .ok (.goto (-55), 3) := by decide +kernel
theorem d_Q_ends_87 : decode b_Q_ends 87 = .ok (.aload_n 0, 1) := by decide +kernel
theorem d_Q_ends_88 : decode b_Q_ends 88 = .ok (.getfield 7, 3) := by decide +kernel
theorem d_Q_ends_91 : decode b_Q_ends 91 = .ok (.iload_n 1, 1) := by decide +kernel
theorem d_Q_ends_92 : decode b_Q_ends 92 = .ok (.iconst 4, 1) := by decide +kernel
theorem d_Q_ends_93 : decode b_Q_ends 93 = .ok (.iastore, 1) := by decide +kernel
theorem d_Q_ends_94 : decode b_Q_ends 94 = .ok (.aload_n 0, 1) := by decide +kernel
theorem d_Q_ends_95 : decode b_Q_ends 95 = .ok (.getfield 19, 3) := by decide +kernel
theorem d_Q_ends_98 : decode b_Q_ends 98 = .ok (.iload_n 1, 1) := by decide +kernel
theorem d_Q_ends_99 : decode b_Q_ends 99 = .ok (.iload_n 2, 1) := by decide +kernel
theorem d_Q_ends_100 : decode b_Q_ends 100 = .ok (.iastore, 1) := by decide +kernel
theorem d_Q_ends_101 : decode b_Q_ends 101 = .ok (.aload_n 0, 1) := by decide +kernel
theorem d_Q_ends_102 : decode b_Q_ends 102 = .ok (.getfield 16, 3) := by decide +kernel
theorem d_Q_ends_105 : decode b_Q_ends 105 = .ok (.iload_n 1, 1) := by decide +kernel
theorem d_Q_ends_106 : decode b_Q_ends 106 = .ok (.iaload, 1) := by decide +kernel
theorem d_Q_ends_107 : decode b_Q_ends 107 = .ok (.ifCond .ge 13, 3) := by decide +kernel
theorem d_Q_ends_110 : decode b_Q_ends 110 = .ok (.aload_n 0, 1) := by decide +kernel
theorem d_Q_ends_111 : decode b_Q_ends 111 = .ok (.getfield 7, 3) := by decide +kernel
theorem d_Q_ends_114 : decode b_Q_ends 114 = .ok (.iload_n 1, 1) := by decide +kernel
theorem d_Q_ends_115 : decode b_Q_ends 115 = .ok (.iconst 0, 1) := by decide +kernel
theorem d_Q_ends_116 : decode b_Q_ends 116 = .ok (.iastore, 1) := by decide +kernel
theorem d_Q_ends_117 : decode b_Q_ends 117 = .ok (.goto 30, 3) := by decide +kernel
theorem d_Q_ends_120 : decode b_Q_ends 120 = .ok (.aload_n 0, 1) := by decide +kernel
theorem d_Q_ends_121 : decode b_Q_ends 121 = .ok (.getfield 7, 3) := by decide +kernel
theorem d_Q_ends_124 : decode b_Q_ends 124 = .ok (.aload_n 0, 1) := by decide +kernel
theorem d_Q_ends_125 : decode b_Q_ends 125 = .ok (.getfield 16, 3) := by decide +kernel
theorem d_Q_ends_128 : decode b_Q_ends 128 = .ok (.iload_n 1, 1) := by decide +kernel
theorem d_Q_ends_129 : decode b_Q_ends 129 = .ok (.iaload, 1) := by decide +kernel
theorem d_Q_ends_130 : decode b_Q_ends 130 = .ok (.iaload, 1) := by decide +kernel
theorem d_Q_ends_131 : decode b_Q_ends 131 = .ok (.iconst 3, 1) := by decide +kernel
theorem d_Q_ends_132 : decode b_Q_ends 132 = .ok (.if_icmp .ne 15, 3) := by decide +kernel
theorem d_Q_ends_135 : decode b_Q_ends 135 = .ok (.aload_n 0, 1) := by decide +kernel
theorem d_Q_ends_136 : decode b_Q_ends 136 = .ok (.getfield 7, 3) := by decide +kernel
theorem d_Q_ends_139 : decode b_Q_ends 139 = .ok (.aload_n 0, 1) := by decide +kernel
theorem d_Q_ends_140 : decode b_Q_ends 140 = .ok (.getfield 16, 3) := by decide +kernel
theorem d_Q_ends_143 : decode b_Q_ends 143 = .ok (.iload_n 1, 1) := by decide +kernel
theorem d_Q_ends_144 : decode b_Q_ends 144 = .ok (.iaload, 1) := by decide +kernel
theorem d_Q_ends_145 : decode b_Q_ends 145 = .ok (.iconst 1, 1) := by decide +kernel
theorem d_Q_ends_146 : decode b_Q_ends 146 = .ok (.iastore, 1) := by decide +kernel
theorem d_Q_ends_147 : decode b_Q_ends 147 = .ok (.return_, 1) := by decide +kernel
theorem d_Q_let_0 : decode b_Q_let 0 = .ok (.aload_n 0, 1) := by decide +kernel
theorem d_Q_let_1 : decode b_Q_let 1 = .ok (.getfield 34, 3) := by decide +kernel
theorem d_Q_let_4 : decode b_Q_let 4 = .ok (.iload_n 1, 1) := by decide +kernel
theorem d_Q_let_5 : decode b_Q_let 5 = .ok (.iaload, 1) := by decide +kernel
theorem d_Q_let_6 : decode b_Q_let 6 = .ok (.istore_n 2, 1) := by decide +kernel
theorem d_Q_let_7 : decode b_Q_let 7 = .ok (.aload_n 0, 1) := by decide +kernel
theorem d_Q_let_8 : decode b_Q_let 8 = .ok (.getfield 34, 3) := by decide +kernel
theorem d_Q_let_11 : decode b_Q_let 11 = .ok (.iload_n 1, 1) := by decide +kernel
theorem d_Q_let_12 : decode b_Q_let 12 = .ok (.iconst (-1), 1) := by decide +kernel
theorem d_Q_let_13 : decode b_Q_let 13 = .ok (.iastore, 1) := by decide +kernel
theorem d_Q_let_14 : decode b_Q_let 14 = .ok (.iload_n 2, 1) := by decide +kernel
theorem d_Q_let_15 : decode b_Q_let 15 = .ok (.ifCond .lt 18, 3) := by decide +kernel
theorem d_Q_let_18 : decode b_Q_let 18 = .ok (.aload_n 0, 1) := by decide +kernel
theorem d_Q_let_19 : decode b_Q_let 19 = .ok (.iload_n 2, 1) := by decide +kernel
theorem d_Q_let_20 : decode b_Q_let 20 = .ok (.invokevirtual 66, 3) := by decide +kernel
theorem d_Q_let_23 : decode b_Q_let 23 = .ok (.ifCond .ne 10, 3) := by decide +kernel
theorem d_Q_let_26 : decode b_Q_let 26 = .ok (.aload_n 0, 1) := by decide +kernel
theorem d_Q_let_27 : decode b_Q_let 27 = .ok (.getfield 37, 3) := by decide +kernel
theorem d_Q_let_30 : decode b_Q_let 30 = .ok (.iload_n 2, 1) := by decide +kernel
theorem d_Q_let_31 : decode b_Q_let 31 = .ok (.iconst 0, 1) := by decide +kernel
theorem d_Q_let_32 : decode b_Q_let 32 = .ok (.bastore, 1) := by decide +kernel
theorem d_Q_let_33 : decode b_Q_let 33 = .ok (.return_, 1) := by decide +kernel
theorem d_Q_run_0 : decode b_Q_run 0 = .ok (.iload_n 1, 1) := by decide +kernel
theorem d_Q_run_1 : decode b_Q_run 1 = .ok (.iconst 1, 1) := by decide +kernel
theorem d_Q_run_2 : decode b_Q_run 2 = .ok (.if_icmp .lt 9, 3) := by decide +kernel
theorem d_Q_run_5 : decode b_Q_run 5 = .ok (.iload_n 1, 1) := by decide +kernel
theorem d_Q_run_6 : decode b_Q_run 6 = .ok (.bipush 40, 2) := by decide +kernel
theorem d_Q_run_8 : decode b_Q_run 8 = .ok (.if_icmp .le 5, 3) := by decide +kernel
theorem d_Q_run_11 : decode b_Q_run 11 = .ok (.iconst (-1), 1) := by decide +kernel
theorem d_Q_run_12 : decode b_Q_run 12 = .ok (.ireturn, 1) := by decide +kernel
theorem d_Q_run_13 : decode b_Q_run 13 = .ok (.iconst 0, 1) := by decide +kernel
theorem d_Q_run_14 : decode b_Q_run 14 = .ok (.istore_n 2, 1) := by decide +kernel
theorem d_Q_run_15 : decode b_Q_run 15 = .ok (.iconst 0, 1) := by decide +kernel
theorem d_Q_run_16 : decode b_Q_run 16 = .ok (.istore_n 3, 1) := by decide +kernel
theorem d_Q_run_17 : decode b_Q_run 17 = .ok (.iload_n 3, 1) := by decide +kernel
theorem d_Q_run_18 : decode b_Q_run 18 = .ok (.iload_n 1, 1) := by decide +kernel
theorem d_Q_run_19 : decode b_Q_run 19 = .ok (.if_icmp .ge 19, 3) := by decide +kernel
theorem d_Q_run_22 : decode b_Q_run 22 = .ok (.aload_n 0, 1) := by decide +kernel
theorem d_Q_run_23 : decode b_Q_run 23 = .ok (.invokevirtual 119, 3) := by decide +kernel
theorem d_Q_run_26 : decode b_Q_run 26 = .ok (.ifCond .eq 6, 3) := by decide +kernel
theorem d_Q_run_29 : decode b_Q_run 29 = .ok (.iinc 2 1, 3) := by decide +kernel
theorem d_Q_run_32 : decode b_Q_run 32 = .ok (.iinc 3 1, 3) := by decide +kernel
theorem d_Q_run_35 : decode b_Q_run 35 = .ok (.goto (-18), 3) := by decide +kernel
theorem d_Q_run_38 : decode b_Q_run 38 = .ok (.iload_n 2, 1) := by decide +kernel
theorem d_Q_run_39 : decode b_Q_run 39 = .ok (.ireturn, 1) := by decide +kernel
theorem d_Q_tick_0 : decode b_Q_tick 0 = .ok (.aload_n 0, 1) := by decide +kernel
theorem d_Q_tick_1 : decode b_Q_tick 1 = .ok (.dup, 1) := by decide +kernel
theorem d_Q_tick_2 : decode b_Q_tick 2 = .ok (.getfield 123, 3) := by decide +kernel
theorem d_Q_tick_5 : decode b_Q_tick 5 = .ok (.iconst 1, 1) := by decide +kernel
theorem d_Q_tick_6 : decode b_Q_tick 6 = .ok (.iadd, 1) := by decide +kernel
theorem d_Q_tick_7 : decode b_Q_tick 7 = .ok (.putfield 123, 3) := by decide +kernel
theorem d_Q_tick_10 : decode b_Q_tick 10 = .ok (.iconst 0, 1) := by decide +kernel
theorem d_Q_tick_11 : decode b_Q_tick 11 = .ok (.istore_n 1, 1) := by decide +kernel
theorem d_Q_tick_12 : decode b_Q_tick 12 = .ok (.iload_n 1, 1) := by decide +kernel
theorem d_Q_tick_13 : decode b_Q_tick 13 = .ok (.iconst 4, 1) := by decide +kernel
theorem d_Q_tick_14 : decode b_Q_tick 14 = .ok (.if_icmp .ge 48, 3) := by decide +kernel
theorem d_Q_tick_17 : decode b_Q_tick 17 = .ok (.aload_n 0, 1) := by decide +kernel
theorem d_Q_tick_18 : decode b_Q_tick 18 = .ok (.getfield 7, 3) := by decide +kernel
theorem d_Q_tick_21 : decode b_Q_tick 21 = .ok (.iload_n 1, 1) := by decide +kernel
theorem d_Q_tick_22 : decode b_Q_tick 22 = .ok (.iaload, 1) := by decide +kernel
theorem d_Q_tick_23 : decode b_Q_tick 23 = .ok (.iconst 2, 1) := by decide +kernel
theorem d_Q_tick_24 : decode b_Q_tick 24 = .ok (.if_icmp .eq 6, 3) := by decide +kernel
theorem d_Q_tick_27 : decode b_Q_tick 27 = .ok (.goto 29, 3) := by decide +kernel
theorem d_Q_tick_30 : decode b_Q_tick 30 = .ok (.aload_n 0, 1) := by decide +kernel
theorem d_Q_tick_31 : decode b_Q_tick 31 = .ok (.getfield 22, 3) := by decide +kernel
theorem d_Q_tick_34 : decode b_Q_tick 34 = .ok (.iload_n 1, 1) := by decide +kernel
theorem d_Q_tick_35 : decode b_Q_tick 35 = .ok (.dup2, 1) := by decide +kernel
theorem d_Q_tick_36 : decode b_Q_tick 36 = .ok (.iaload, 1) := by decide +kernel
theorem d_Q_tick_37 : decode b_Q_tick 37 = .ok (.iconst 1, 1) := by decide +kernel
theorem d_Q_tick_38 : decode b_Q_tick 38 = .ok (.isub, 1) := by decide +kernel
theorem d_Q_tick_39 : decode b_Q_tick 39 = .ok (.iastore, 1) := by decide +kernel
theorem d_Q_tick_40 : decode b_Q_tick 40 = .ok (.aload_n 0, 1) := by decide +kernel
theorem d_Q_tick_41 : decode b_Q_tick 41 = .ok (.getfield 22, 3) := by decide +kernel
theorem d_Q_tick_44 : decode b_Q_tick 44 = .ok (.iload_n 1, 1) := by decide +kernel
theorem d_Q_tick_45 : decode b_Q_tick 45 = .ok (.iaload, 1) := by decide +kernel
theorem d_Q_tick_46 : decode b_Q_tick 46 = .ok (.ifCond .ne 10, 3) := by decide +kernel
theorem d_Q_tick_49 : decode b_Q_tick 49 = .ok (.aload_n 0, 1) := by decide +kernel
theorem d_Q_tick_50 : decode b_Q_tick 50 = .ok (.getfield 7, 3) := by decide +kernel
theorem d_Q_tick_53 : decode b_Q_tick 53 = .ok (.iload_n 1, 1) := by decide +kernel
theorem d_Q_tick_54 : decode b_Q_tick 54 = .ok (.iconst 1, 1) := by decide +kernel
theorem d_Q_tick_55 : decode b_Q_tick 55 = .ok (.iastore, 1) := by decide +kernel
theorem d_Q_tick_56 : decode b_Q_tick 56 = .ok (.iinc 1 1, 3) := by decide +kernel
theorem d_Q_tick_59 : decode b_Q_tick 59 = .ok (.goto (-47), 3) := by decide +kernel
theorem d_Q_tick_62 : decode b_Q_tick 62 = .ok (.aload_n 0, 1) := by decide +kernel
theorem d_Q_tick_63 : decode b_Q_tick 63 = .ok (.getfield 7, 3) := by decide +kernel
theorem d_Q_tick_66 : decode b_Q_tick 66 = .ok (.aload_n 0, 1) := by decide +kernel
theorem d_Q_tick_67 : decode b_Q_tick 67 = .ok (.getfield 62, 3) := by decide +kernel
theorem d_Q_tick_70 : decode b_Q_tick 70 = .ok (.iaload, 1) := by decide +kernel
theorem d_Q_tick_71 : decode b_Q_tick 71 = .ok (.iconst 1, 1) := by decide +kernel
theorem d_Q_tick_72 : decode b_Q_tick 72 = .ok (.if_icmp .ne 18, 3) := by decide +kernel
theorem d_Q_tick_75 : decode b_Q_tick 75 = .ok (.aload_n 0, 1) := by decide +kernel
theorem d_Q_tick_76 : decode b_Q_tick 76 = .ok (.getfield 126, 3) := by decide +kernel
theorem d_Q_tick_79 : decode b_Q_tick 79 = .ok (.ifCond .ne 11, 3) := by decide +kernel
theorem d_Q_tick_82 : decode b_Q_tick 82 = .ok (.aload_n 0, 1) := by decide +kernel
theorem d_Q_tick_83 : decode b_Q_tick 83 = .ok (.getfield 130, 3) := by decide +kernel
theorem d_Q_tick_86 : decode b_Q_tick 86 = .ok (.iconst 4, 1) := by decide +kernel
theorem d_Q_tick_87 : decode b_Q_tick 87 = .ok (.if_icmp .ne 75, 3) := by decide +kernel
theorem d_Q_tick_90 : decode b_Q_tick 90 = .ok (.iconst (-1), 1) := by decide +kernel
theorem d_Q_tick_91 : decode b_Q_tick 91 = .ok (.istore_n 1, 1) := by decide +kernel
theorem d_Q_tick_92 : decode b_Q_tick 92 = .ok (.iconst 4, 1) := by decide +kernel
theorem d_Q_tick_93 : decode b_Q_tick 93 = .ok (.istore_n 2, 1) := by decide +kernel
theorem d_Q_tick_94 : decode b_Q_tick 94 = .ok (.iload_n 2, 1) := by decide +kernel
theorem d_Q_tick_95 : decode b_Q_tick 95 = .ok (.ifCond .le 35, 3) := by decide +kernel
theorem d_Q_tick_98 : decode b_Q_tick 98 = .ok (.aload_n 0, 1) := by decide +kernel
theorem d_Q_tick_99 : decode b_Q_tick 99 = .ok (.getfield 7, 3) := by decide +kernel
theorem d_Q_tick_102 : decode b_Q_tick 102 = .ok (.aload_n 0, 1) := by decide +kernel
theorem d_Q_tick_103 : decode b_Q_tick 103 = .ok (.getfield 62, 3) := by decide +kernel
theorem d_Q_tick_106 : decode b_Q_tick 106 = .ok (.iload_n 2, 1) := by decide +kernel
theorem d_Q_tick_107 : decode b_Q_tick 107 = .ok (.iadd, 1) := by decide +kernel
theorem d_Q_tick_108 : decode b_Q_tick 108 = .ok (.iconst 4, 1) := by decide +kernel
theorem d_Q_tick_109 : decode b_Q_tick 109 = .ok (.irem, 1) := by decide +kernel
theorem d_Q_tick_110 : decode b_Q_tick 110 = .ok (.iaload, 1) := by decide +kernel
theorem d_Q_tick_111 : decode b_Q_tick 111 = .ok (.iconst 1, 1) := by decide +kernel
theorem d_Q_tick_112 : decode b_Q_tick 112 = .ok (.if_icmp .ne 12, 3) := by decide +kernel
theorem d_Q_tick_115 : decode b_Q_tick 115 = .ok (.aload_n 0, 1) := by decide +kernel
theorem d_Q_tick_116 : decode b_Q_tick 116 = .ok (.getfield 62, 3) := by decide +kernel
theorem d_Q_tick_119 : decode b_Q_tick 119 = .ok (.iload_n 2, 1) := by decide +kernel
theorem d_Q_tick_120 : decode b_Q_tick 120 = .ok (.iadd, 1) := by decide +kernel
theorem d_Q_tick_121 : decode b_Q_tick 121 = .ok (.iconst 4, 1) := by decide +kernel
theorem d_Q_tick_122 : decode b_Q_tick 122 = .ok (.irem, 1) := by decide +kernel
theorem d_Q_tick_123 : decode b_Q_tick 123 = .ok (.istore_n 1, 1) := by decide +kernel
theorem d_Q_tick_124 : decode b_Q_tick 124 = .ok (.iinc 2 (-1), 3) := by decide +kernel
theorem d_Q_tick_127 : decode b_Q_tick 127 = .ok (.goto (-33), 3) := by decide +kernel
theorem d_Q_tick_130 : decode b_Q_tick 130 = .ok (.iload_n 1, 1) := by decide +kernel
theorem d_Q_tick_131 : decode b_Q_tick 131 = .ok (.ifCond .ge 16, 3) := by decide +kernel
theorem d_Q_tick_134 : decode b_Q_tick 134 = .ok (.aload_n 0, 1) := by decide +kernel
theorem d_Q_tick_135 : decode b_Q_tick 135 = .ok (.getfield 59, 3) := by decide +kernel
theorem d_Q_tick_138 : decode b_Q_tick 138 = .ok (.bipush 11, 2) := by decide +kernel
theorem d_Q_tick_140 : decode b_Q_tick 140 = .ok (.dup2, 1) := by decide +kernel
theorem d_Q_tick_141 : decode b_Q_tick 141 = .ok (.iaload, 1) := by decide +kernel
theorem d_Q_tick_142 : decode b_Q_tick 142 = .ok (.iconst 1, 1) := by decide +kernel
theorem d_Q_tick_143 : decode b_Q_tick 143 = .ok (.iadd, 1) := by decide +kernel
theorem d_Q_tick_144 : decode b_Q_tick 144 = .ok (.iastore, 1) := by decide +kernel
theorem d_Q_tick_145 : decode b_Q_tick 145 = .ok (.iconst 0, 1) := by decide +kernel
theorem d_Q_tick_146 : decode b_Q_tick 146 = .ok (.ireturn, 1) := by decide +kernel
theorem d_Q_tick_147 : decode b_Q_tick 147 = .ok (.aload_n 0, 1) := by decide +kernel
theorem d_Q_tick_148 : decode b_Q_tick 148 = .ok (.iload_n 1, 1) := by decide +kernel
theorem d_Q_tick_149 : decode b_Q_tick 149 = .ok (.putfield 62, 3) := by decide +kernel
theorem d_Q_tick_152 : decode b_Q_tick 152 = .ok (.aload_n 0, 1) := by decide +kernel
theorem d_Q_tick_153 : decode b_Q_tick 153 = .ok (.iconst 0, 1) := by decide +kernel
theorem d_Q_tick_154 : decode b_Q_tick 154 = .ok (.putfield 130, 3) := by decide +kernel
theorem d_Q_tick_157 : decode b_Q_tick 157 = .ok (.aload_n 0, 1) := by decide +kernel
theorem d_Q_tick_158 : decode b_Q_tick 158 = .ok (.iconst 0, 1) := by decide +kernel
theorem d_Q_tick_159 : decode b_Q_tick 159 = .ok (.putfield 126, 3) := by decide +kernel
theorem d_Q_tick_162 : decode b_Q_tick 162 = .ok (.aload_n 0, 1) := by decide +kernel
theorem d_Q_tick_163 : decode b_Q_tick 163 = .ok (.dup, 1) := by decide +kernel
theorem d_Q_tick_164 : decode b_Q_tick 164 = .ok (.getfield 130, 3) := by decide +kernel
theorem d_Q_tick_167 : decode b_Q_tick 167 = .ok (.iconst 1, 1) := by decide +kernel
theorem d_Q_tick_168 : decode b_Q_tick 168 = .ok (.iadd, 1) := by decide +kernel
theorem d_Q_tick_169 : decode b_Q_tick 169 = .ok (.putfield 130, 3) := by decide +kernel
theorem d_Q_tick_172 : decode b_Q_tick 172 = .ok (.aload_n 0, 1) := by decide +kernel
theorem d_Q_tick_173 : decode b_Q_tick 173 = .ok (.getfield 28, 3) := by decide +kernel
theorem d_Q_tick_176 : decode b_Q_tick 176 = .ok (.aload_n 0, 1) := by decide +kernel
theorem d_Q_tick_177 : decode b_Q_tick 177 = .ok (.getfield 62, 3) := by decide +kernel
theorem d_Q_tick_180 : decode b_Q_tick 180 = .ok (.dup2, 1) := by decide +kernel
theorem d_Q_tick_181 : decode b_Q_tick 181 = .ok (.iaload, 1) := by decide +kernel
theorem d_Q_tick_182 : decode b_Q_tick 182 = .ok (.iconst 1, 1) := by decide +kernel
theorem d_Q_tick_183 : decode b_Q_tick 183 = .ok (.iadd, 1) := by decide +kernel
theorem d_Q_tick_184 : decode b_Q_tick 184 = .ok (.iastore, 1) := by decide +kernel
theorem d_Q_tick_185 : decode b_Q_tick 185 = .ok (.aload_n 0, 1) := by decide +kernel
theorem d_Q_tick_186 : decode b_Q_tick 186 = .ok (.aload_n 0, 1) := by decide +kernel
theorem d_Q_tick_187 : decode b_Q_tick 187 = .ok (.getfield 62, 3) := by decide +kernel
theorem d_Q_tick_190 : decode b_Q_tick 190 = .ok (.invokevirtual 133, 3) := by decide +kernel
theorem d_Q_tick_193 : decode b_Q_tick 193 = .ok (.ifCond .ne 24, 3) := by decide +kernel
theorem d_Q_tick_196 : decode b_Q_tick 196 = .ok (.aload_n 0, 1) := by decide +kernel
theorem d_Q_tick_197 : decode b_Q_tick 197 = .ok (.getfield 59, 3) := by decide +kernel
theorem d_Q_tick_200 : decode b_Q_tick 200 = .ok (.bipush 13, 2) := by decide +kernel
theorem d_Q_tick_202 : decode b_Q_tick 202 = .ok (.dup2, 1) := by decide +kernel
theorem d_Q_tick_203 : decode b_Q_tick 203 = .ok (.iaload, 1) := by decide +kernel
theorem d_Q_tick_204 : decode b_Q_tick 204 = .ok (.iconst 1, 1) := by decide +kernel
theorem d_Q_tick_205 : decode b_Q_tick 205 = .ok (.iadd, 1) := by decide +kernel
theorem d_Q_tick_206 : decode b_Q_tick 206 = .ok (.iastore, 1) := by decide +kernel
theorem d_Q_tick_207 : decode b_Q_tick 207 = .ok (.aload_n 0, 1) := by decide +kernel
theorem d_Q_tick_208 : decode b_Q_tick 208 = .ok (.aload_n 0, 1) := by decide +kernel
theorem d_Q_tick_209 : decode b_Q_tick 209 = .ok (.getfield 62, 3) := by decide +kernel
theorem d_Q_tick_212 : decode b_Q_tick 212 = .ok (.bipush (-99), 2) := by decide +kernel
theorem d_Q_tick_214 : decode b_Q_tick 214 = .ok (.invokevirtual 115, 3) := by decide +kernel
theorem d_Q_tick_217 : decode b_Q_tick 217 = .ok (.iconst 1, 1) := by decide +kernel
theorem d_Q_tick_218 : decode b_Q_tick 218 = .ok (.ireturn, 1) := by decide +kernel
theorem d_Q_does_0 : decode b_Q_does 0 = .ok (.aload_n 0, 1) := by decide +kernel
theorem d_Q_does_1 : decode b_Q_does 1 = .ok (.getfield 13, 3) := by decide +kernel
theorem d_Q_does_4 : decode b_Q_does 4 = .ok (.iload_n 1, 1) := by decide +kernel
theorem d_Q_does_5 : decode b_Q_does 5 = .ok (.iaload, 1) := by decide +kernel
theorem d_Q_does_6 : decode b_Q_does 6 = .ok (.bipush 64, 2) := by decide +kernel
theorem d_Q_does_8 : decode b_Q_does 8 = .ok (.invokestatic 95, 3) := by decide +kernel
theorem d_Q_does_11 : decode b_Q_does 11 = .ok (.ifCond .ne 5, 3) := by decide +kernel
theorem d_Q_does_14 : decode b_Q_does 14 = .ok (.iconst 0, 1) := by decide +kernel
theorem d_Q_does_15 : decode b_Q_does 15 = .ok (.ireturn, 1) := by decide +kernel
theorem d_Q_does_16 : decode b_Q_does 16 = .ok (.aload_n 0, 1) := by decide +kernel
theorem d_Q_does_17 : decode b_Q_does 17 = .ok (.getfield 53, 3) := by decide +kernel
theorem d_Q_does_20 : decode b_Q_does 20 = .ok (.aload_n 0, 1) := by decide +kernel
theorem d_Q_does_21 : decode b_Q_does 21 = .ok (.iload_n 1, 1) := by decide +kernel
theorem d_Q_does_22 : decode b_Q_does 22 = .ok (.aload_n 0, 1) := by decide +kernel
theorem d_Q_does_23 : decode b_Q_does 23 = .ok (.getfield 13, 3) := by decide +kernel
theorem d_Q_does_26 : decode b_Q_does 26 = .ok (.iload_n 1, 1) := by decide +kernel
theorem d_Q_does_27 : decode b_Q_does 27 = .ok (.iaload, 1) := by decide +kernel
theorem d_Q_does_28 : decode b_Q_does 28 = .ok (.iconst 0, 1) := by decide +kernel
theorem d_Q_does_29 : decode b_Q_does 29 = .ok (.invokevirtual 108, 3) := by decide +kernel
theorem d_Q_does_32 : decode b_Q_does 32 = .ok (.iaload, 1) := by decide +kernel
theorem d_Q_does_33 : decode b_Q_does 33 = .ok (.istore_n 2, 1) := by decide +kernel
theorem d_Q_does_34 : decode b_Q_does 34 = .ok (.iload_n 2, 1) := by decide +kernel
theorem d_Q_does_35 : decode b_Q_does 35 = .ok (.bipush 15, 2) := by decide +kernel
theorem d_Q_does_37 : decode b_Q_does 37 = .ok (.iand, 1) := by decide +kernel
theorem d_Q_does_38 : decode b_Q_does 38 = .ok (.istore_n 3, 1) := by decide +kernel
theorem d_Q_does_39 : decode b_Q_does 39 = .ok (.iconst 4, 1) := by decide +kernel
theorem d_Q_does_40 : decode b_Q_does 40 = .ok (.iload_n 1, 1) := by decide +kernel
theorem d_Q_does_41 : decode b_Q_does 41 = .ok (.imul, 1) := by decide +kernel
theorem d_Q_does_42 : decode b_Q_does 42 = .ok (.iload_n 2, 1) := by decide +kernel
theorem d_Q_does_43 : decode b_Q_does 43 = .ok (.iconst 4, 1) := by decide +kernel
theorem d_Q_does_44 : decode b_Q_does 44 = .ok (.ishr, 1) := by decide +kernel
theorem d_Q_does_45 : decode b_Q_does 45 = .ok (.iconst 3, 1) := by decide +kernel
theorem d_Q_does_46 : decode b_Q_does 46 = .ok (.iand, 1) := by decide +kernel
theorem d_Q_does_47 : decode b_Q_does 47 = .ok (.iadd, 1) := by decide +kernel
theorem d_Q_does_48 : decode b_Q_does 48 = .ok (.istore 4, 2) := by decide +kernel
theorem d_Q_does_50 : decode b_Q_does 50 = .ok (.aload_n 0, 1) := by decide +kernel
theorem d_Q_does_51 : decode b_Q_does 51 = .ok (.getfield 31, 3) := by decide +kernel
theorem d_Q_does_54 : decode b_Q_does 54 = .ok (.iconst 4, 1) := by decide +kernel
theorem d_Q_does_55 : decode b_Q_does 55 = .ok (.iload_n 1, 1) := by decide +kernel
theorem d_Q_does_56 : decode b_Q_does 56 = .ok (.imul, 1) := by decide +kernel
theorem d_Q_does_57 : decode b_Q_does 57 = .ok (.iload_n 2, 1) := by decide +kernel
theorem d_Q_does_58 : decode b_Q_does 58 = .ok (.bipush 6, 2) := by decide +kernel
theorem d_Q_does_60 : decode b_Q_does 60 = .ok (.ishr, 1) := by decide +kernel
theorem d_Q_does_61 : decode b_Q_does 61 = .ok (.iconst 3, 1) := by decide +kernel
theorem d_Q_does_62 : decode b_Q_does 62 = .ok (.iand, 1) := by decide +kernel
theorem d_Q_does_63 : decode b_Q_does 63 = .ok (.iadd, 1) := by decide +kernel
theorem d_Q_does_64 : decode b_Q_does 64 = .ok (.iaload, 1) := by decide +kernel
theorem d_Q_does_65 : decode b_Q_does 65 = .ok (.istore 5, 2) := by decide +kernel
theorem d_Q_does_67 : decode b_Q_does 67 = .ok (.iload_n 2, 1) := by decide +kernel
theorem d_Q_does_68 : decode b_Q_does 68 = .ok (.bipush 8, 2) := by decide +kernel
theorem d_Q_does_70 : decode b_Q_does 70 = .ok (.ishr, 1) := by decide +kernel
theorem d_Q_does_71 : decode b_Q_does 71 = .ok (.istore 6, 2) := by decide +kernel
theorem d_Q_does_73 : decode b_Q_does 73 = .ok (.aload_n 0, 1) := by decide +kernel
theorem d_Q_does_74 : decode b_Q_does 74 = .ok (.getfield 31, 3) := by decide +kernel
theorem d_Q_does_77 : decode b_Q_does 77 = .ok (.iload 4, 2) := by decide +kernel
theorem d_Q_does_79 : decode b_Q_does 79 = .ok (.iaload, 1) := by decide +kernel
theorem d_Q_does_80 : decode b_Q_does 80 = .ok (.istore 7, 2) := by decide +kernel
theorem d_Q_does_82 : decode b_Q_does 82 = .ok (.iload_n 3, 1) := by decide +kernel
theorem d_Q_does_83 : decode b_Q_does 83 = .ok (.bipush 8, 2) := by decide +kernel
theorem d_Q_does_85 : decode b_Q_does 85 = .ok (.if_icmp .ne 13, 3) := by decide +kernel
theorem d_Q_does_88 : decode b_Q_does 88 = .ok (.aload_n 0, 1) := by decide +kernel
theorem d_Q_does_89 : decode b_Q_does 89 = .ok (.iload_n 1, 1) := by decide +kernel
theorem d_Q_does_90 : decode b_Q_does 90 = .ok (.iload 4, 2) := by decide +kernel
theorem d_Q_does_92 : decode b_Q_does 92 = .ok (.iload 6, 2) := by decide +kernel
theorem d_Q_does_94 : decode b_Q_does 94 = .ok (.invokevirtual 136, 3) := by decide +kernel
theorem d_Q_does_97 : decode b_Q_does 97 = .ok (.ireturn, 1) := by decide +kernel
theorem d_Q_does_98 : decode b_Q_does 98 = .ok (.iload_n 3, 1) := by decide +kernel
theorem d_Q_does_99 : decode b_Q_does 99 = .ok (.bipush 9, 2) := by decide +kernel
theorem d_Q_does_101 : decode b_Q_does 101 = .ok (.if_icmp .le 5, 3) := by decide +kernel
theorem d_Q_does_104 : decode b_Q_does 104 = .ok (.iconst 0, 1) := by decide +kernel
theorem d_Q_does_105 : decode b_Q_does 105 = .ok (.ireturn, 1) := by decide +kernel
theorem d_Q_does_106 : decode b_Q_does 106 = .ok (.iload_n 3, 1) := by decide +kernel
theorem d_Q_does_107 : decode b_Q_does 107 = .ok (.iconst 4, 1) := by decide +kernel
theorem d_Q_does_108 : decode b_Q_does 108 = .ok (.if_icmp .eq 8, 3) := by decide +kernel
theorem d_Q_does_111 : decode b_Q_does 111 = .ok (.iload_n 3, 1) := by decide +kernel
theorem d_Q_does_112 : decode b_Q_does 112 = .ok (.iconst 5, 1) := by decide +kernel
theorem d_Q_does_113 : decode b_Q_does 113 = .ok (.if_icmp .ne 18, 3) := by decide +kernel
theorem d_Q_does_116 : decode b_Q_does 116 = .ok (.iload 5, 2) := by decide +kernel
theorem d_Q_does_118 : decode b_Q_does 118 = .ok (.iload 6, 2) := by decide +kernel
theorem d_Q_does_120 : decode b_Q_does 120 = .ok (.iadd, 1) := by decide +kernel
theorem d_Q_does_121 : decode b_Q_does 121 = .ok (.bipush 64, 2) := by decide +kernel
theorem d_Q_does_123 : decode b_Q_does 123 = .ok (.invokestatic 95, 3) := by decide +kernel
theorem d_Q_does_126 : decode b_Q_does 126 = .ok (.ifCond .ne 5, 3) := by decide +kernel
theorem d_Q_does_129 : decode b_Q_does 129 = .ok (.iconst 0, 1) := by decide +kernel
theorem d_Q_does_130 : decode b_Q_does 130 = .ok (.ireturn, 1) := by decide +kernel
theorem d_Q_does_131 : decode b_Q_does 131 = .ok (.aload_n 0, 1) := by decide +kernel
theorem d_Q_does_132 : decode b_Q_does 132 = .ok (.getfield 13, 3) := by decide +kernel
theorem d_Q_does_135 : decode b_Q_does 135 = .ok (.iload_n 1, 1) := by decide +kernel
theorem d_Q_does_136 : decode b_Q_does 136 = .ok (.iaload, 1) := by decide +kernel
theorem d_Q_does_137 : decode b_Q_does 137 = .ok (.iconst 1, 1) := by decide +kernel
theorem d_Q_does_138 : decode b_Q_does 138 = .ok (.iadd, 1) := by decide +kernel
theorem d_Q_does_139 : decode b_Q_does 139 = .ok (.istore 8, 2) := by decide +kernel
theorem d_Q_does_141 : decode b_Q_does 141 = .ok (.iload_n 3, 1) := by decide +kernel
theorem d_Q_does_142 : decode b_Q_does 142 = .ok (.tableswitch 168 0 7 #[46, 55, 67, 82, 97, 123, 144, 161], 46) := by decide +kernel
theorem d_Q_does_188 : decode b_Q_does 188 = .ok (.aload_n 0, 1) := by decide +kernel
theorem d_Q_does_189 : decode b_Q_does 189 = .ok (.iload_n 1, 1) := by decide +kernel
theorem d_Q_does_190 : decode b_Q_does 190 = .ok (.iload 7, 2) := by decide +kernel
theorem d_Q_does_192 : decode b_Q_does 192 = .ok (.invokevirtual 115, 3) := by decide +kernel
theorem d_Q_does_195 : decode b_Q_does 195 = .ok (.iconst 1, 1) := by decide +kernel
theorem d_Q_does_196 : decode b_Q_does 196 = .ok (.ireturn, 1) := by decide +kernel
theorem d_Q_does_197 : decode b_Q_does 197 = .ok (.aload_n 0, 1) := by decide +kernel
theorem d_Q_does_198 : decode b_Q_does 198 = .ok (.getfield 31, 3) := by decide +kernel
theorem d_Q_does_201 : decode b_Q_does 201 = .ok (.iload 4, 2) := by decide +kernel
theorem d_Q_does_203 : decode b_Q_does 203 = .ok (.iload 6, 2) := by decide +kernel
theorem d_Q_does_205 : decode b_Q_does 205 = .ok (.iastore, 1) := by decide +kernel
theorem d_Q_does_206 : decode b_Q_does 206 = .ok (.goto 123, 3) := by decide +kernel
theorem d_Q_does_209 : decode b_Q_does 209 = .ok (.aload_n 0, 1) := by decide +kernel
theorem d_Q_does_210 : decode b_Q_does 210 = .ok (.getfield 31, 3) := by decide +kernel
theorem d_Q_does_213 : decode b_Q_does 213 = .ok (.iload 4, 2) := by decide +kernel
theorem d_Q_does_215 : decode b_Q_does 215 = .ok (.iload 7, 2) := by decide +kernel
theorem d_Q_does_217 : decode b_Q_does 217 = .ok (.iload 5, 2) := by decide +kernel
theorem d_Q_does_219 : decode b_Q_does 219 = .ok (.iadd, 1) := by decide +kernel
theorem d_Q_does_220 : decode b_Q_does 220 = .ok (.iastore, 1) := by decide +kernel
theorem d_Q_does_221 : decode b_Q_does 221 = .ok (.goto 108, 3) := by decide +kernel
theorem d_Q_does_224 : decode b_Q_does 224 = .ok (.aload_n 0, 1) := by decide +kernel
theorem d_Q_does_225 : decode b_Q_does 225 = .ok (.getfield 31, 3) := by decide +kernel
theorem d_Q_does_228 : decode b_Q_does 228 = .ok (.iload 4, 2) := by decide +kernel
theorem d_Q_does_230 : decode b_Q_does 230 = .ok (.iload 7, 2) := by decide +kernel
theorem d_Q_does_232 : decode b_Q_does 232 = .ok (.iload 5, 2) := by decide +kernel
theorem d_Q_does_234 : decode b_Q_does 234 = .ok (.isub, 1) := by decide +kernel
theorem d_Q_does_235 : decode b_Q_does 235 = .ok (.iastore, 1) := by decide +kernel
theorem d_Q_does_236 : decode b_Q_does 236 = .ok (.goto 93, 3) := by decide +kernel
theorem d_Q_does_239 : decode b_Q_does 239 = .ok (.aload_n 0, 1) := by decide +kernel
theorem d_Q_does_240 : decode b_Q_does 240 = .ok (.getfield 31, 3) := by decide +kernel
theorem d_Q_does_243 : decode b_Q_does 243 = .ok (.iload 4, 2) := by decide +kernel
theorem d_Q_does_245 : decode b_Q_does 245 = .ok (.aload_n 0, 1) := by decide +kernel
theorem d_Q_does_246 : decode b_Q_does 246 = .ok (.getfield 53, 3) := by decide +kernel
theorem d_Q_does_249 : decode b_Q_does 249 = .ok (.aload_n 0, 1) := by decide +kernel
theorem d_Q_does_250 : decode b_Q_does 250 = .ok (.iload_n 1, 1) := by decide +kernel
theorem d_Q_does_251 : decode b_Q_does 251 = .ok (.iload 5, 2) := by decide +kernel
theorem d_Q_does_253 : decode b_Q_does 253 = .ok (.iload 6, 2) := by decide +kernel
theorem d_Q_does_255 : decode b_Q_does 255 = .ok (.iadd, 1) := by decide +kernel
theorem d_Q_does_256 : decode b_Q_does 256 = .ok (.iconst 0, 1) := by decide +kernel
theorem d_Q_does_257 : decode b_Q_does 257 = .ok (.invokevirtual 108, 3) := by decide +kernel
theorem d_Q_does_260 : decode b_Q_does 260 = .ok (.iaload, 1) := by decide +kernel
theorem d_Q_does_261 : decode b_Q_does 261 = .ok (.iastore, 1) := by decide +kernel
theorem d_Q_does_262 : decode b_Q_does 262 = .ok (.goto 67, 3) := by decide +kernel
theorem d_Q_does_265 : decode b_Q_does 265 = .ok (.aload_n 0, 1) := by decide +kernel
theorem d_Q_does_266 : decode b_Q_does 266 = .ok (.getfield 53, 3) := by decide +kernel
theorem d_Q_does_269 : decode b_Q_does 269 = .ok (.aload_n 0, 1) := by decide +kernel
theorem d_Q_does_270 : decode b_Q_does 270 = .ok (.iload_n 1, 1) := by decide +kernel
theorem d_Q_does_271 : decode b_Q_does 271 = .ok (.iload 5, 2) := by decide +kernel
theorem d_Q_does_273 : decode b_Q_does 273 = .ok (.iload 6, 2) := by decide +kernel
theorem d_Q_does_275 : decode b_Q_does 275 = .ok (.iadd, 1) := by decide +kernel
theorem d_Q_does_276 : decode b_Q_does 276 = .ok (.iconst 1, 1) := by decide +kernel
theorem d_Q_does_277 : decode b_Q_does 277 = .ok (.invokevirtual 108, 3) := by decide +kernel
theorem d_Q_does_280 : decode b_Q_does 280 = .ok (.iload 7, 2) := by decide +kernel
theorem d_Q_does_282 : decode b_Q_does 282 = .ok (.iastore, 1) := by decide +kernel
theorem d_Q_does_283 : decode b_Q_does 283 = .ok (.goto 46, 3) := by decide +kernel
theorem d_Q_does_286 : decode b_Q_does 286 = .ok (.iload 7, 2) := by decide +kernel
theorem d_Q_does_288 : decode b_Q_does 288 = .ok (.ifCond .ne 8, 3) := by decide +kernel
theorem d_Q_does_291 : decode b_Q_does 291 = .ok (.iload 6, 2) := by decide +kernel
theorem d_Q_does_293 : decode b_Q_does 293 = .ok (.goto 5, 3) := by decide +kernel
theorem d_Q_does_296 : decode b_Q_does 296 = .ok (.iload 8, 2) := by decide +kernel
theorem d_Q_does_298 : decode b_Q_does 298 = .ok (.istore 8, 2) := by decide +kernel
theorem d_Q_does_300 : decode b_Q_does 300 = .ok (.goto 29, 3) := by decide +kernel
theorem d_Q_does_303 : decode b_Q_does 303 = .ok (.iload 6, 2) := by decide +kernel
theorem d_Q_does_305 : decode b_Q_does 305 = .ok (.istore 8, 2) := by decide +kernel
theorem d_Q_does_307 : decode b_Q_does 307 = .ok (.goto 22, 3) := by decide +kernel
theorem d_Q_does_310 : decode b_Q_does 310 = .ok (.aload_n 0, 1) := by decide +kernel
theorem d_Q_does_311 : decode b_Q_does 311 = .ok (.getfield 31, 3) := by decide +kernel
theorem d_Q_does_314 : decode b_Q_does 314 = .ok (.iload 4, 2) := by decide +kernel
theorem d_Q_does_316 : decode b_Q_does 316 = .ok (.iload 7, 2) := by decide +kernel
theorem d_Q_does_318 : decode b_Q_does 318 = .ok (.iload 5, 2) := by decide +kernel
theorem d_Q_does_320 : decode b_Q_does 320 = .ok (.if_icmp .ge 7, 3) := by decide +kernel
theorem d_Q_does_323 : decode b_Q_does 323 = .ok (.iconst 1, 1) := by decide +kernel
theorem d_Q_does_324 : decode b_Q_does 324 = .ok (.goto 4, 3) := by decide +kernel
theorem d_Q_does_327 : decode b_Q_does 327 = .ok (.iconst 0, 1) := by decide +kernel
theorem d_Q_does_328 : decode b_Q_does 328 = .ok (.iastore, 1) := by decide +kernel
theorem d_Q_does_329 : decode b_Q_does 329 = .ok (.aload_n 0, 1) := by decide +kernel
theorem d_Q_does_330 : decode b_Q_does 330 = .ok (.getfield 13, 3) := by decide +kernel
theorem d_Q_does_333 : decode b_Q_does 333 = .ok (.iload_n 1, 1) := by decide +kernel
theorem d_Q_does_334 : decode b_Q_does 334 = .ok (.iload 8, 2) := by decide +kernel
theorem d_Q_does_336 : decode b_Q_does 336 = .ok (.iastore, 1) := by decide +kernel
theorem d_Q_does_337 : decode b_Q_does 337 = .ok (.iconst 1, 1) := by decide +kernel
theorem d_Q_does_338 : decode b_Q_does 338 = .ok (.ireturn, 1) := by decide +kernel
theorem d_Q_calls_0 : decode b_Q_calls 0 = .ok (.iload_n 3, 1) := by decide +kernel
theorem d_Q_calls_1 : decode b_Q_calls 1 = .ok (.bipush 6, 2) := by decide +kernel
theorem d_Q_calls_3 : decode b_Q_calls 3 = .ok (.invokestatic 95, 3) := by decide +kernel
theorem d_Q_calls_6 : decode b_Q_calls 6 = .ok (.ifCond .ne 5, 3) := by decide +kernel
theorem d_Q_calls_9 : decode b_Q_calls 9 = .ok (.iconst 0, 1) := by decide +kernel
theorem d_Q_calls_10 : decode b_Q_calls 10 = .ok (.ireturn, 1) := by decide +kernel
theorem d_Q_calls_11 : decode b_Q_calls 11 = .ok (.aload_n 0, 1) := by decide +kernel
theorem d_Q_calls_12 : decode b_Q_calls 12 = .ok (.getfield 31, 3) := by decide +kernel
theorem d_Q_calls_15 : decode b_Q_calls 15 = .ok (.iload_n 2, 1) := by decide +kernel
theorem d_Q_calls_16 : decode b_Q_calls 16 = .ok (.iaload, 1) := by decide +kernel
theorem d_Q_calls_17 : decode b_Q_calls 17 = .ok (.istore 4, 2) := by decide +kernel
theorem d_Q_calls_19 : decode b_Q_calls 19 = .ok (.iload_n 3, 1) := by decide +kernel
theorem d_Q_calls_20 : decode b_Q_calls 20 = .ok (.iconst 4, 1) := by decide +kernel
theorem d_Q_calls_21 : decode b_Q_calls 21 = .ok (.if_icmp .ne 14, 3) := by decide +kernel
theorem d_Q_calls_24 : decode b_Q_calls 24 = .ok (.aload_n 0, 1) := by decide +kernel
theorem d_Q_calls_25 : decode b_Q_calls 25 = .ok (.iload_n 1, 1) := by decide +kernel
theorem d_Q_calls_26 : decode b_Q_calls 26 = .ok (.iload_n 2, 1) := by decide +kernel
theorem d_Q_calls_27 : decode b_Q_calls 27 = .ok (.invokevirtual 140, 3) := by decide +kernel
theorem d_Q_calls_30 : decode b_Q_calls 30 = .ok (.ifCond .ne 5, 3) := by decide +kernel
theorem d_Q_calls_33 : decode b_Q_calls 33 = .ok (.iconst 1, 1) := by decide +kernel
theorem d_Q_calls_34 : decode b_Q_calls 34 = .ok (.ireturn, 1) := by decide +kernel
theorem d_Q_calls_35 : decode b_Q_calls 35 = .ok (.aload_n 0, 1) := by decide +kernel
theorem d_Q_calls_36 : decode b_Q_calls 36 = .ok (.getfield 13, 3) := by decide +kernel
theorem d_Q_calls_39 : decode b_Q_calls 39 = .ok (.iload_n 1, 1) := by decide +kernel
theorem d_Q_calls_40 : decode b_Q_calls 40 = .ok (.dup2, 1) := by decide +kernel
theorem d_Q_calls_41 : decode b_Q_calls 41 = .ok (.iaload, 1) := by decide +kernel
theorem d_Q_calls_42 : decode b_Q_calls 42 = .ok (.iconst 1, 1) := by decide +kernel
theorem d_Q_calls_43 : decode b_Q_calls 43 = .ok (.iadd, 1) := by decide +kernel
theorem d_Q_calls_44 : decode b_Q_calls 44 = .ok (.iastore, 1) := by decide +kernel
theorem d_Q_calls_45 : decode b_Q_calls 45 = .ok (.iload_n 3, 1) := by decide +kernel
theorem d_Q_calls_46 : decode b_Q_calls 46 = .ok (.tableswitch 133 0 5 #[38, 71, 88, 96, 133, 123], 38) := by decide +kernel
theorem d_Q_calls_84 : decode b_Q_calls 84 = .ok (.aload_n 0, 1) := by decide +kernel
theorem d_Q_calls_85 : decode b_Q_calls 85 = .ok (.getfield 143, 3) := by decide +kernel
theorem d_Q_calls_88 : decode b_Q_calls 88 = .ok (.bipush 40, 2) := by decide +kernel
theorem d_Q_calls_90 : decode b_Q_calls 90 = .ok (.if_icmp .ge 14, 3) := by decide +kernel
theorem d_Q_calls_93 : decode b_Q_calls 93 = .ok (.aload_n 0, 1) := by decide +kernel
theorem d_Q_calls_94 : decode b_Q_calls 94 = .ok (.getfield 56, 3) := by decide +kernel
theorem d_Q_calls_97 : decode b_Q_calls 97 = .ok (.aload_n 0, 1) := by decide +kernel
theorem d_Q_calls_98 : decode b_Q_calls 98 = .ok (.getfield 143, 3) := by decide +kernel
theorem d_Q_calls_101 : decode b_Q_calls 101 = .ok (.iload 4, 2) := by decide +kernel
theorem d_Q_calls_103 : decode b_Q_calls 103 = .ok (.iastore, 1) := by decide +kernel
theorem d_Q_calls_104 : decode b_Q_calls 104 = .ok (.aload_n 0, 1) := by decide +kernel
theorem d_Q_calls_105 : decode b_Q_calls 105 = .ok (.dup, 1) := by decide +kernel
theorem d_Q_calls_106 : decode b_Q_calls 106 = .ok (.getfield 143, 3) := by decide +kernel
theorem d_Q_calls_109 : decode b_Q_calls 109 = .ok (.iconst 1, 1) := by decide +kernel
theorem d_Q_calls_110 : decode b_Q_calls 110 = .ok (.iadd, 1) := by decide +kernel
theorem d_Q_calls_111 : decode b_Q_calls 111 = .ok (.putfield 143, 3) := by decide +kernel
theorem d_Q_calls_114 : decode b_Q_calls 114 = .ok (.goto 65, 3) := by decide +kernel
theorem d_Q_calls_117 : decode b_Q_calls 117 = .ok (.aload_n 0, 1) := by decide +kernel
theorem d_Q_calls_118 : decode b_Q_calls 118 = .ok (.getfield 31, 3) := by decide +kernel
theorem d_Q_calls_121 : decode b_Q_calls 121 = .ok (.iload_n 2, 1) := by decide +kernel
theorem d_Q_calls_122 : decode b_Q_calls 122 = .ok (.aload_n 0, 1) := by decide +kernel
theorem d_Q_calls_123 : decode b_Q_calls 123 = .ok (.iload_n 1, 1) := by decide +kernel
theorem d_Q_calls_124 : decode b_Q_calls 124 = .ok (.iload_n 2, 1) := by decide +kernel
theorem d_Q_calls_125 : decode b_Q_calls 125 = .ok (.iconst 4, 1) := by decide +kernel
theorem d_Q_calls_126 : decode b_Q_calls 126 = .ok (.irem, 1) := by decide +kernel
theorem d_Q_calls_127 : decode b_Q_calls 127 = .ok (.invokevirtual 146, 3) := by decide +kernel
theorem d_Q_calls_130 : decode b_Q_calls 130 = .ok (.iastore, 1) := by decide +kernel
theorem d_Q_calls_131 : decode b_Q_calls 131 = .ok (.goto 48, 3) := by decide +kernel
theorem d_Q_calls_134 : decode b_Q_calls 134 = .ok (.aload_n 0, 1) := by decide +kernel
theorem d_Q_calls_135 : decode b_Q_calls 135 = .ok (.iconst 1, 1) := by decide +kernel
theorem d_Q_calls_136 : decode b_Q_calls 136 = .ok (.putfield 126, 3) := by decide +kernel
theorem d_Q_calls_139 : decode b_Q_calls 139 = .ok (.goto 40, 3) := by decide +kernel
theorem d_Q_calls_142 : decode b_Q_calls 142 = .ok (.iload 4, 2) := by decide +kernel
theorem d_Q_calls_144 : decode b_Q_calls 144 = .ok (.iconst 1, 1) := by decide +kernel
theorem d_Q_calls_145 : decode b_Q_calls 145 = .ok (.if_icmp .ge 6, 3) := by decide +kernel
theorem d_Q_calls_148 : decode b_Q_calls 148 = .ok (.goto 31, 3) := by decide +kernel
theorem d_Q_calls_151 : decode b_Q_calls 151 = .ok (.aload_n 0, 1) := by decide +kernel
theorem d_Q_calls_152 : decode b_Q_calls 152 = .ok (.getfield 7, 3) := by decide +kernel
theorem d_Q_calls_155 : decode b_Q_calls 155 = .ok (.iload_n 1, 1) := by decide +kernel
theorem d_Q_calls_156 : decode b_Q_calls 156 = .ok (.iconst 2, 1) := by decide +kernel
theorem d_Q_calls_157 : decode b_Q_calls 157 = .ok (.iastore, 1) := by decide +kernel
theorem d_Q_calls_158 : decode b_Q_calls 158 = .ok (.aload_n 0, 1) := by decide +kernel
theorem d_Q_calls_159 : decode b_Q_calls 159 = .ok (.getfield 22, 3) := by decide +kernel
theorem d_Q_calls_162 : decode b_Q_calls 162 = .ok (.iload_n 1, 1) := by decide +kernel
theorem d_Q_calls_163 : decode b_Q_calls 163 = .ok (.iload 4, 2) := by decide +kernel
theorem d_Q_calls_165 : decode b_Q_calls 165 = .ok (.iastore, 1) := by decide +kernel
theorem d_Q_calls_166 : decode b_Q_calls 166 = .ok (.goto 13, 3) := by decide +kernel
theorem d_Q_calls_169 : decode b_Q_calls 169 = .ok (.aload_n 0, 1) := by decide +kernel
theorem d_Q_calls_170 : decode b_Q_calls 170 = .ok (.getfield 31, 3) := by decide +kernel
theorem d_Q_calls_173 : decode b_Q_calls 173 = .ok (.iload_n 2, 1) := by decide +kernel
theorem d_Q_calls_174 : decode b_Q_calls 174 = .ok (.iload_n 1, 1) := by decide +kernel
theorem d_Q_calls_175 : decode b_Q_calls 175 = .ok (.iastore, 1) := by decide +kernel
theorem d_Q_calls_176 : decode b_Q_calls 176 = .ok (.goto 3, 3) := by decide +kernel
theorem d_Q_calls_179 : decode b_Q_calls 179 = .ok (.iconst 1, 1) := by decide +kernel
theorem d_Q_calls_180 : decode b_Q_calls 180 = .ok (.ireturn, 1) := by decide +kernel
end
section
theorem d_Q_waits_0 : decode b_Q_waits 0 = .ok (.iconst 0, 1) := by decide +kernel
theorem d_Q_waits_1 : decode b_Q_waits 1 = .ok (.istore_n 3, 1) := by decide +kernel
theorem d_Q_waits_2 : decode b_Q_waits 2 = .ok (.iconst 0, 1) := by decide +kernel
theorem d_Q_waits_3 : decode b_Q_waits 3 = .ok (.istore 4, 2) := by decide +kernel
theorem d_Q_waits_5 : decode b_Q_waits 5 = .ok (.iload 4, 2) := by decide +kernel
theorem d_Q_waits_7 : decode b_Q_waits 7 = .ok (.iconst 4, 1) := by decide +kernel
theorem d_Q_waits_8 : decode b_Q_waits 8 = .ok (.if_icmp .ge 72, 3) := by decide +kernel
theorem d_Q_waits_11 : decode b_Q_waits 11 = .ok (.aload_n 0, 1) := by decide +kernel
theorem d_Q_waits_12 : decode b_Q_waits 12 = .ok (.getfield 7, 3) := by decide +kernel
theorem d_Q_waits_15 : decode b_Q_waits 15 = .ok (.iload 4, 2) := by decide +kernel
theorem d_Q_waits_17 : decode b_Q_waits 17 = .ok (.iaload, 1) := by decide +kernel
theorem d_Q_waits_18 : decode b_Q_waits 18 = .ok (.ifCond .eq 56, 3) := by decide +kernel
theorem d_Q_waits_21 : decode b_Q_waits 21 = .ok (.aload_n 0, 1) := by decide +kernel
theorem d_Q_waits_22 : decode b_Q_waits 22 = .ok (.getfield 16, 3) := by decide +kernel
theorem d_Q_waits_25 : decode b_Q_waits 25 = .ok (.iload 4, 2) := by decide +kernel
theorem d_Q_waits_27 : decode b_Q_waits 27 = .ok (.iaload, 1) := by decide +kernel
theorem d_Q_waits_28 : decode b_Q_waits 28 = .ok (.iload_n 1, 1) := by decide +kernel
theorem d_Q_waits_29 : decode b_Q_waits 29 = .ok (.if_icmp .eq 6, 3) := by decide +kernel
theorem d_Q_waits_32 : decode b_Q_waits 32 = .ok (.goto 42, 3) := by decide +kernel
theorem d_Q_waits_35 : decode b_Q_waits 35 = .ok (.iconst 1, 1) := by decide +kernel
theorem d_Q_waits_36 : decode b_Q_waits 36 = .ok (.istore_n 3, 1) := by decide +kernel
theorem d_Q_waits_37 : decode b_Q_waits 37 = .ok (.aload_n 0, 1) := by decide +kernel
theorem d_Q_waits_38 : decode b_Q_waits 38 = .ok (.getfield 7, 3) := by decide +kernel
theorem d_Q_waits_41 : decode b_Q_waits 41 = .ok (.iload 4, 2) := by decide +kernel
theorem d_Q_waits_43 : decode b_Q_waits 43 = .ok (.iaload, 1) := by decide +kernel
theorem d_Q_waits_44 : decode b_Q_waits 44 = .ok (.iconst 4, 1) := by decide +kernel
theorem d_Q_waits_45 : decode b_Q_waits 45 = .ok (.if_icmp .eq 6, 3) := by decide +kernel
theorem d_Q_waits_48 : decode b_Q_waits 48 = .ok (.goto 26, 3) := by decide +kernel
theorem d_Q_waits_51 : decode b_Q_waits 51 = .ok (.aload_n 0, 1) := by decide +kernel
theorem d_Q_waits_52 : decode b_Q_waits 52 = .ok (.getfield 7, 3) := by decide +kernel
theorem d_Q_waits_55 : decode b_Q_waits 55 = .ok (.iload 4, 2) := by decide +kernel
theorem d_Q_waits_57 : decode b_Q_waits 57 = .ok (.iconst 0, 1) := by decide +kernel
theorem d_Q_waits_58 : decode b_Q_waits 58 = .ok (.iastore, 1) := by decide +kernel
theorem d_Q_waits_59 : decode b_Q_waits 59 = .ok (.aload_n 0, 1) := by decide +kernel
theorem d_Q_waits_60 : decode b_Q_waits 60 = .ok (.getfield 31, 3) := by decide +kernel
theorem d_Q_waits_63 : decode b_Q_waits 63 = .ok (.iload_n 2, 1) := by decide +kernel
theorem d_Q_waits_64 : decode b_Q_waits 64 = .ok (.aload_n 0, 1) := by decide +kernel
theorem d_Q_waits_65 : decode b_Q_waits 65 = .ok (.getfield 19, 3) := by decide +kernel
theorem d_Q_waits_68 : decode b_Q_waits 68 = .ok (.iload 4, 2) := by decide +kernel
theorem d_Q_waits_70 : decode b_Q_waits 70 = .ok (.iaload, 1) := by decide +kernel
theorem d_Q_waits_71 : decode b_Q_waits 71 = .ok (.iastore, 1) := by decide +kernel
theorem d_Q_waits_72 : decode b_Q_waits 72 = .ok (.iconst 1, 1) := by decide +kernel
theorem d_Q_waits_73 : decode b_Q_waits 73 = .ok (.ireturn, 1) := by decide +kernel
theorem d_Q_waits_74 : decode b_Q_waits 74 = .ok (.iinc 4 1, 3) := by decide +kernel
theorem d_Q_waits_77 : decode b_Q_waits 77 = .ok (.goto (-72), 3) := by decide +kernel
theorem d_Q_waits_80 : decode b_Q_waits 80 = .ok (.iload_n 3, 1) := by decide +kernel
theorem d_Q_waits_81 : decode b_Q_waits 81 = .ok (.ifCond .eq 13, 3) := by decide +kernel
theorem d_Q_waits_84 : decode b_Q_waits 84 = .ok (.aload_n 0, 1) := by decide +kernel
theorem d_Q_waits_85 : decode b_Q_waits 85 = .ok (.getfield 7, 3) := by decide +kernel
theorem d_Q_waits_88 : decode b_Q_waits 88 = .ok (.iload_n 1, 1) := by decide +kernel
theorem d_Q_waits_89 : decode b_Q_waits 89 = .ok (.iconst 3, 1) := by decide +kernel
theorem d_Q_waits_90 : decode b_Q_waits 90 = .ok (.iastore, 1) := by decide +kernel
theorem d_Q_waits_91 : decode b_Q_waits 91 = .ok (.goto 11, 3) := by decide +kernel
theorem d_Q_waits_94 : decode b_Q_waits 94 = .ok (.aload_n 0, 1) := by decide +kernel
theorem d_Q_waits_95 : decode b_Q_waits 95 = .ok (.getfield 31, 3) := by decide +kernel
theorem d_Q_waits_98 : decode b_Q_waits 98 = .ok (.iload_n 2, 1) := by decide +kernel
theorem d_Q_waits_99 : decode b_Q_waits 99 = .ok (.bipush (-2), 2) := by decide +kernel
theorem d_Q_waits_101 : decode b_Q_waits 101 = .ok (.iastore, 1) := by decide +kernel
theorem d_Q_waits_102 : decode b_Q_waits 102 = .ok (.iload_n 3, 1) := by decide +kernel
theorem d_Q_waits_103 : decode b_Q_waits 103 = .ok (.ifCond .ne 7, 3) := by decide +kernel
theorem d_Q_waits_106 : decode b_Q_waits 106 = .ok (.iconst 1, 1) := by decide +kernel
theorem d_Q_waits_107 : decode b_Q_waits 107 = .ok (.goto 4, 3) := by decide +kernel
theorem d_Q_waits_110 : decode b_Q_waits 110 = .ok (.iconst 0, 1) := by decide +kernel
theorem d_Q_waits_111 : decode b_Q_waits 111 = .ok (.ireturn, 1) := by decide +kernel
theorem d_Q_fork_0 : decode b_Q_fork 0 = .ok (.aload_n 0, 1) := by decide +kernel
theorem d_Q_fork_1 : decode b_Q_fork 1 = .ok (.iload_n 1, 1) := by decide +kernel
theorem d_Q_fork_2 : decode b_Q_fork 2 = .ok (.invokevirtual 102, 3) := by decide +kernel
theorem d_Q_fork_5 : decode b_Q_fork 5 = .ok (.istore_n 3, 1) := by decide +kernel
theorem d_Q_fork_6 : decode b_Q_fork 6 = .ok (.iload_n 3, 1) := by decide +kernel
theorem d_Q_fork_7 : decode b_Q_fork 7 = .ok (.ifCond .ge 6, 3) := by decide +kernel
theorem d_Q_fork_10 : decode b_Q_fork 10 = .ok (.bipush (-2), 2) := by decide +kernel
theorem d_Q_fork_12 : decode b_Q_fork 12 = .ok (.ireturn, 1) := by decide +kernel
theorem d_Q_fork_13 : decode b_Q_fork 13 = .ok (.iconst 0, 1) := by decide +kernel
theorem d_Q_fork_14 : decode b_Q_fork 14 = .ok (.istore 4, 2) := by decide +kernel
theorem d_Q_fork_16 : decode b_Q_fork 16 = .ok (.iload 4, 2) := by decide +kernel
theorem d_Q_fork_18 : decode b_Q_fork 18 = .ok (.iconst 4, 1) := by decide +kernel
theorem d_Q_fork_19 : decode b_Q_fork 19 = .ok (.if_icmp .ge 31, 3) := by decide +kernel
theorem d_Q_fork_22 : decode b_Q_fork 22 = .ok (.aload_n 0, 1) := by decide +kernel
theorem d_Q_fork_23 : decode b_Q_fork 23 = .ok (.getfield 31, 3) := by decide +kernel
theorem d_Q_fork_26 : decode b_Q_fork 26 = .ok (.iconst 4, 1) := by decide +kernel
theorem d_Q_fork_27 : decode b_Q_fork 27 = .ok (.iload_n 3, 1) := by decide +kernel
theorem d_Q_fork_28 : decode b_Q_fork 28 = .ok (.imul, 1) := by decide +kernel
theorem d_Q_fork_29 : decode b_Q_fork 29 = .ok (.iload 4, 2) := by decide +kernel
theorem d_Q_fork_31 : decode b_Q_fork 31 = .ok (.iadd, 1) := by decide +kernel
theorem d_Q_fork_32 : decode b_Q_fork 32 = .ok (.aload_n 0, 1) := by decide +kernel
theorem d_Q_fork_33 : decode b_Q_fork 33 = .ok (.getfield 31, 3) := by decide +kernel
theorem d_Q_fork_36 : decode b_Q_fork 36 = .ok (.iconst 4, 1) := by decide +kernel
theorem d_Q_fork_37 : decode b_Q_fork 37 = .ok (.iload_n 1, 1) := by decide +kernel
theorem d_Q_fork_38 : decode b_Q_fork 38 = .ok (.imul, 1) := by decide +kernel
theorem d_Q_fork_39 : decode b_Q_fork 39 = .ok (.iload 4, 2) := by decide +kernel
theorem d_Q_fork_41 : decode b_Q_fork 41 = .ok (.iadd, 1) := by decide +kernel
theorem d_Q_fork_42 : decode b_Q_fork 42 = .ok (.iaload, 1) := by decide +kernel
theorem d_Q_fork_43 : decode b_Q_fork 43 = .ok (.iastore, 1) := by decide +kernel
theorem d_Q_fork_44 : decode b_Q_fork 44 = .ok (.iinc 4 1, 3) := by decide +kernel
theorem d_Q_fork_47 : decode b_Q_fork 47 = .ok (.goto (-31), 3) := by decide +kernel
theorem d_Q_fork_50 : decode b_Q_fork 50 = .ok (.iconst 0, 1) := by decide +kernel
theorem d_Q_fork_51 : decode b_Q_fork 51 = .ok (.istore 4, 2) := by decide +kernel
theorem d_Q_fork_53 : decode b_Q_fork 53 = .ok (.iload 4, 2) := by decide +kernel
theorem d_Q_fork_55 : decode b_Q_fork 55 = .ok (.bipush 8, 2) := by decide +kernel
theorem d_Q_fork_57 : decode b_Q_fork 57 = .ok (.if_icmp .ge 33, 3) := by decide +kernel
theorem d_Q_fork_60 : decode b_Q_fork 60 = .ok (.aload_n 0, 1) := by decide +kernel
theorem d_Q_fork_61 : decode b_Q_fork 61 = .ok (.getfield 34, 3) := by decide +kernel
theorem d_Q_fork_64 : decode b_Q_fork 64 = .ok (.bipush 8, 2) := by decide +kernel
theorem d_Q_fork_66 : decode b_Q_fork 66 = .ok (.iload_n 3, 1) := by decide +kernel
theorem d_Q_fork_67 : decode b_Q_fork 67 = .ok (.imul, 1) := by decide +kernel
theorem d_Q_fork_68 : decode b_Q_fork 68 = .ok (.iload 4, 2) := by decide +kernel
theorem d_Q_fork_70 : decode b_Q_fork 70 = .ok (.iadd, 1) := by decide +kernel
theorem d_Q_fork_71 : decode b_Q_fork 71 = .ok (.aload_n 0, 1) := by decide +kernel
theorem d_Q_fork_72 : decode b_Q_fork 72 = .ok (.getfield 34, 3) := by decide +kernel
theorem d_Q_fork_75 : decode b_Q_fork 75 = .ok (.bipush 8, 2) := by decide +kernel
theorem d_Q_fork_77 : decode b_Q_fork 77 = .ok (.iload_n 1, 1) := by decide +kernel
theorem d_Q_fork_78 : decode b_Q_fork 78 = .ok (.imul, 1) := by decide +kernel
theorem d_Q_fork_79 : decode b_Q_fork 79 = .ok (.iload 4, 2) := by decide +kernel
theorem d_Q_fork_81 : decode b_Q_fork 81 = .ok (.iadd, 1) := by decide +kernel
theorem d_Q_fork_82 : decode b_Q_fork 82 = .ok (.iaload, 1) := by decide +kernel
theorem d_Q_fork_83 : decode b_Q_fork 83 = .ok (.iastore, 1) := by decide +kernel
theorem d_Q_fork_84 : decode b_Q_fork 84 = .ok (.iinc 4 1, 3) := by decide +kernel
theorem d_Q_fork_87 : decode b_Q_fork 87 = .ok (.goto (-34), 3) := by decide +kernel
theorem d_Q_fork_90 : decode b_Q_fork 90 = .ok (.aload_n 0, 1) := by decide +kernel
theorem d_Q_fork_91 : decode b_Q_fork 91 = .ok (.getfield 31, 3) := by decide +kernel
theorem d_Q_fork_94 : decode b_Q_fork 94 = .ok (.iconst 4, 1) := by decide +kernel
theorem d_Q_fork_95 : decode b_Q_fork 95 = .ok (.iload_n 3, 1) := by decide +kernel
theorem d_Q_fork_96 : decode b_Q_fork 96 = .ok (.imul, 1) := by decide +kernel
theorem d_Q_fork_97 : decode b_Q_fork 97 = .ok (.iload_n 2, 1) := by decide +kernel
theorem d_Q_fork_98 : decode b_Q_fork 98 = .ok (.iadd, 1) := by decide +kernel
theorem d_Q_fork_99 : decode b_Q_fork 99 = .ok (.iconst (-1), 1) := by decide +kernel
theorem d_Q_fork_100 : decode b_Q_fork 100 = .ok (.iastore, 1) := by decide +kernel
theorem d_Q_fork_101 : decode b_Q_fork 101 = .ok (.aload_n 0, 1) := by decide +kernel
theorem d_Q_fork_102 : decode b_Q_fork 102 = .ok (.getfield 13, 3) := by decide +kernel
theorem d_Q_fork_105 : decode b_Q_fork 105 = .ok (.iload_n 3, 1) := by decide +kernel
theorem d_Q_fork_106 : decode b_Q_fork 106 = .ok (.aload_n 0, 1) := by decide +kernel
theorem d_Q_fork_107 : decode b_Q_fork 107 = .ok (.getfield 13, 3) := by decide +kernel
theorem d_Q_fork_110 : decode b_Q_fork 110 = .ok (.iload_n 1, 1) := by decide +kernel
theorem d_Q_fork_111 : decode b_Q_fork 111 = .ok (.iaload, 1) := by decide +kernel
theorem d_Q_fork_112 : decode b_Q_fork 112 = .ok (.iastore, 1) := by decide +kernel
theorem d_Q_fork_113 : decode b_Q_fork 113 = .ok (.iload_n 3, 1) := by decide +kernel
theorem d_Q_fork_114 : decode b_Q_fork 114 = .ok (.ireturn, 1) := by decide +kernel
theorem d_Q_process_0 : decode b_Q_process 0 = .ok (.iload_n 1, 1) := by decide +kernel
theorem d_Q_process_1 : decode b_Q_process 1 = .ok (.iconst 4, 1) := by decide +kernel
theorem d_Q_process_2 : decode b_Q_process 2 = .ok (.invokestatic 95, 3) := by decide +kernel
theorem d_Q_process_5 : decode b_Q_process 5 = .ok (.ifCond .eq 23, 3) := by decide +kernel
theorem d_Q_process_8 : decode b_Q_process 8 = .ok (.iload_n 2, 1) := by decide +kernel
theorem d_Q_process_9 : decode b_Q_process 9 = .ok (.bipush 7, 2) := by decide +kernel
theorem d_Q_process_11 : decode b_Q_process 11 = .ok (.invokestatic 95, 3) := by decide +kernel
theorem d_Q_process_14 : decode b_Q_process 14 = .ok (.ifCond .ne 16, 3) := by decide +kernel
theorem d_Q_process_17 : decode b_Q_process 17 = .ok (.iload_n 2, 1) := by decide +kernel
theorem d_Q_process_18 : decode b_Q_process 18 = .ok (.bipush 10, 2) := by decide +kernel
theorem d_Q_process_20 : decode b_Q_process 20 = .ok (.isub, 1) := by decide +kernel
theorem d_Q_process_21 : decode b_Q_process 21 = .ok (.iconst 4, 1) := by decide +kernel
theorem d_Q_process_22 : decode b_Q_process 22 = .ok (.invokestatic 95, 3) := by decide +kernel
theorem d_Q_process_25 : decode b_Q_process 25 = .ok (.ifCond .ne 5, 3) := by decide +kernel
theorem d_Q_process_28 : decode b_Q_process 28 = .ok (.iconst (-1), 1) := by decide +kernel
theorem d_Q_process_29 : decode b_Q_process 29 = .ok (.ireturn, 1) := by decide +kernel
theorem d_Q_process_30 : decode b_Q_process 30 = .ok (.aload_n 0, 1) := by decide +kernel
theorem d_Q_process_31 : decode b_Q_process 31 = .ok (.getfield 7, 3) := by decide +kernel
theorem d_Q_process_34 : decode b_Q_process 34 = .ok (.iload_n 1, 1) := by decide +kernel
theorem d_Q_process_35 : decode b_Q_process 35 = .ok (.iaload, 1) := by decide +kernel
theorem d_Q_process_36 : decode b_Q_process 36 = .ok (.ifCond .ne 5, 3) := by decide +kernel
theorem d_Q_process_39 : decode b_Q_process 39 = .ok (.iconst 0, 1) := by decide +kernel
theorem d_Q_process_40 : decode b_Q_process 40 = .ok (.ireturn, 1) := by decide +kernel
theorem d_Q_process_41 : decode b_Q_process 41 = .ok (.iload_n 2, 1) := by decide +kernel
theorem d_Q_process_42 : decode b_Q_process 42 = .ok (.bipush 10, 2) := by decide +kernel
theorem d_Q_process_44 : decode b_Q_process 44 = .ok (.if_icmp .lt 17, 3) := by decide +kernel
theorem d_Q_process_47 : decode b_Q_process 47 = .ok (.aload_n 0, 1) := by decide +kernel
theorem d_Q_process_48 : decode b_Q_process 48 = .ok (.getfield 31, 3) := by decide +kernel
theorem d_Q_process_51 : decode b_Q_process 51 = .ok (.iconst 4, 1) := by decide +kernel
theorem d_Q_process_52 : decode b_Q_process 52 = .ok (.iload_n 1, 1) := by decide +kernel
theorem d_Q_process_53 : decode b_Q_process 53 = .ok (.imul, 1) := by decide +kernel
theorem d_Q_process_54 : decode b_Q_process 54 = .ok (.iload_n 2, 1) := by decide +kernel
theorem d_Q_process_55 : decode b_Q_process 55 = .ok (.iadd, 1) := by decide +kernel
theorem d_Q_process_56 : decode b_Q_process 56 = .ok (.bipush 10, 2) := by decide +kernel
theorem d_Q_process_58 : decode b_Q_process 58 = .ok (.isub, 1) := by decide +kernel
theorem d_Q_process_59 : decode b_Q_process 59 = .ok (.iaload, 1) := by decide +kernel
theorem d_Q_process_60 : decode b_Q_process 60 = .ok (.ireturn, 1) := by decide +kernel
theorem d_Q_process_61 : decode b_Q_process 61 = .ok (.iload_n 2, 1) := by decide +kernel
theorem d_Q_process_62 : decode b_Q_process 62 = .ok (.tableswitch 108 0 5 #[38, 45, 52, 59, 80, 101], 38) := by decide +kernel
theorem d_Q_process_100 : decode b_Q_process 100 = .ok (.aload_n 0, 1) := by decide +kernel
theorem d_Q_process_101 : decode b_Q_process 101 = .ok (.getfield 7, 3) := by decide +kernel
theorem d_Q_process_104 : decode b_Q_process 104 = .ok (.iload_n 1, 1) := by decide +kernel
theorem d_Q_process_105 : decode b_Q_process 105 = .ok (.iaload, 1) := by decide +kernel
theorem d_Q_process_106 : decode b_Q_process 106 = .ok (.ireturn, 1) := by decide +kernel
theorem d_Q_process_107 : decode b_Q_process 107 = .ok (.aload_n 0, 1) := by decide +kernel
theorem d_Q_process_108 : decode b_Q_process 108 = .ok (.getfield 13, 3) := by decide +kernel
theorem d_Q_process_111 : decode b_Q_process 111 = .ok (.iload_n 1, 1) := by decide +kernel
theorem d_Q_process_112 : decode b_Q_process 112 = .ok (.iaload, 1) := by decide +kernel
theorem d_Q_process_113 : decode b_Q_process 113 = .ok (.ireturn, 1) := by decide +kernel
theorem d_Q_process_114 : decode b_Q_process 114 = .ok (.aload_n 0, 1) := by decide +kernel
theorem d_Q_process_115 : decode b_Q_process 115 = .ok (.getfield 16, 3) := by decide +kernel
theorem d_Q_process_118 : decode b_Q_process 118 = .ok (.iload_n 1, 1) := by decide +kernel
theorem d_Q_process_119 : decode b_Q_process 119 = .ok (.iaload, 1) := by decide +kernel
theorem d_Q_process_120 : decode b_Q_process 120 = .ok (.ireturn, 1) := by decide +kernel
theorem d_Q_process_121 : decode b_Q_process 121 = .ok (.aload_n 0, 1) := by decide +kernel
theorem d_Q_process_122 : decode b_Q_process 122 = .ok (.getfield 7, 3) := by decide +kernel
theorem d_Q_process_125 : decode b_Q_process 125 = .ok (.iload_n 1, 1) := by decide +kernel
theorem d_Q_process_126 : decode b_Q_process 126 = .ok (.iaload, 1) := by decide +kernel
theorem d_Q_process_127 : decode b_Q_process 127 = .ok (.iconst 4, 1) := by decide +kernel
theorem d_Q_process_128 : decode b_Q_process 128 = .ok (.if_icmp .ne 12, 3) := by decide +kernel
theorem d_Q_process_131 : decode b_Q_process 131 = .ok (.aload_n 0, 1) := by decide +kernel
theorem d_Q_process_132 : decode b_Q_process 132 = .ok (.getfield 19, 3) := by decide +kernel
theorem d_Q_process_135 : decode b_Q_process 135 = .ok (.iload_n 1, 1) := by decide +kernel
theorem d_Q_process_136 : decode b_Q_process 136 = .ok (.iaload, 1) := by decide +kernel
theorem d_Q_process_137 : decode b_Q_process 137 = .ok (.goto 4, 3) := by decide +kernel
theorem d_Q_process_140 : decode b_Q_process 140 = .ok (.iconst 0, 1) := by decide +kernel
theorem d_Q_process_141 : decode b_Q_process 141 = .ok (.ireturn, 1) := by decide +kernel
theorem d_Q_process_142 : decode b_Q_process 142 = .ok (.aload_n 0, 1) := by decide +kernel
theorem d_Q_process_143 : decode b_Q_process 143 = .ok (.getfield 7, 3) := by decide +kernel
theorem d_Q_process_146 : decode b_Q_process 146 = .ok (.iload_n 1, 1) := by decide +kernel
theorem d_Q_process_147 : decode b_Q_process 147 = .ok (.iaload, 1) := by decide +kernel
theorem d_Q_process_148 : decode b_Q_process 148 = .ok (.iconst 2, 1) := by decide +kernel
theorem d_Q_process_149 : decode b_Q_process 149 = .ok (.if_icmp .ne 12, 3) := by decide +kernel
theorem d_Q_process_152 : decode b_Q_process 152 = .ok (.aload_n 0, 1) := by decide +kernel
theorem d_Q_process_153 : decode b_Q_process 153 = .ok (.getfield 22, 3) := by decide +kernel
theorem d_Q_process_156 : decode b_Q_process 156 = .ok (.iload_n 1, 1) := by decide +kernel
theorem d_Q_process_157 : decode b_Q_process 157 = .ok (.iaload, 1) := by decide +kernel
theorem d_Q_process_158 : decode b_Q_process 158 = .ok (.goto 4, 3) := by decide +kernel
theorem d_Q_process_161 : decode b_Q_process 161 = .ok (.iconst 0, 1) := by decide +kernel
theorem d_Q_process_162 : decode b_Q_process 162 = .ok (.ireturn, 1) := by decide +kernel
theorem d_Q_process_163 : decode b_Q_process 163 = .ok (.aload_n 0, 1) := by decide +kernel
theorem d_Q_process_164 : decode b_Q_process 164 = .ok (.getfield 25, 3) := by decide +kernel
theorem d_Q_process_167 : decode b_Q_process 167 = .ok (.iload_n 1, 1) := by decide +kernel
theorem d_Q_process_168 : decode b_Q_process 168 = .ok (.iaload, 1) := by decide +kernel
theorem d_Q_process_169 : decode b_Q_process 169 = .ok (.ireturn, 1) := by decide +kernel
theorem d_Q_process_170 : decode b_Q_process 170 = .ok (.aload_n 0, 1) := by decide +kernel
theorem d_Q_process_171 : decode b_Q_process 171 = .ok (.getfield 28, 3) := by decide +kernel
theorem d_Q_process_174 : decode b_Q_process 174 = .ok (.iload_n 1, 1) := by decide +kernel
theorem d_Q_process_175 : decode b_Q_process 175 = .ok (.iaload, 1) := by decide +kernel
theorem d_Q_process_176 : decode b_Q_process 176 = .ok (.ireturn, 1) := by decide +kernel
theorem d_Q_page_0 : decode b_Q_page 0 = .ok (.aload_n 0, 1) := by decide +kernel
theorem d_Q_page_1 : decode b_Q_page 1 = .ok (.iload_n 1, 1) := by decide +kernel
theorem d_Q_page_2 : decode b_Q_page 2 = .ok (.invokevirtual 99, 3) := by decide +kernel
theorem d_Q_page_5 : decode b_Q_page 5 = .ok (.ifCond .eq 21, 3) := by decide +kernel
theorem d_Q_page_8 : decode b_Q_page 8 = .ok (.iload_n 2, 1) := by decide +kernel
theorem d_Q_page_9 : decode b_Q_page 9 = .ok (.bipush 8, 2) := by decide +kernel
theorem d_Q_page_11 : decode b_Q_page 11 = .ok (.invokestatic 95, 3) := by decide +kernel
theorem d_Q_page_14 : decode b_Q_page 14 = .ok (.ifCond .eq 12, 3) := by decide +kernel
theorem d_Q_page_17 : decode b_Q_page 17 = .ok (.iload_n 3, 1) := by decide +kernel
theorem d_Q_page_18 : decode b_Q_page 18 = .ok (.bipush 6, 2) := by decide +kernel
theorem d_Q_page_20 : decode b_Q_page 20 = .ok (.invokestatic 95, 3) := by decide +kernel
theorem d_Q_page_23 : decode b_Q_page 23 = .ok (.ifCond .ne 5, 3) := by decide +kernel
theorem d_Q_page_26 : decode b_Q_page 26 = .ok (.iconst (-1), 1) := by decide +kernel
theorem d_Q_page_27 : decode b_Q_page 27 = .ok (.ireturn, 1) := by decide +kernel
theorem d_Q_page_28 : decode b_Q_page 28 = .ok (.aload_n 0, 1) := by decide +kernel
theorem d_Q_page_29 : decode b_Q_page 29 = .ok (.getfield 34, 3) := by decide +kernel
theorem d_Q_page_32 : decode b_Q_page 32 = .ok (.bipush 8, 2) := by decide +kernel
theorem d_Q_page_34 : decode b_Q_page 34 = .ok (.iload_n 1, 1) := by decide +kernel
theorem d_Q_page_35 : decode b_Q_page 35 = .ok (.imul, 1) := by decide +kernel
theorem d_Q_page_36 : decode b_Q_page 36 = .ok (.iload_n 2, 1) := by decide +kernel
theorem d_Q_page_37 : decode b_Q_page 37 = .ok (.iadd, 1) := by decide +kernel
theorem d_Q_page_38 : decode b_Q_page 38 = .ok (.iaload, 1) := by decide +kernel
theorem d_Q_page_39 : decode b_Q_page 39 = .ok (.istore 4, 2) := by decide +kernel
theorem d_Q_page_41 : decode b_Q_page 41 = .ok (.iload_n 3, 1) := by decide +kernel
theorem d_Q_page_42 : decode b_Q_page 42 = .ok (.tableswitch 157 0 4 #[34, 59, 87, 115, 136], 34) := by decide +kernel
theorem d_Q_page_76 : decode b_Q_page 76 = .ok (.iload 4, 2) := by decide +kernel
theorem d_Q_page_78 : decode b_Q_page 78 = .ok (.ifCond .ge 7, 3) := by decide +kernel
theorem d_Q_page_81 : decode b_Q_page 81 = .ok (.iconst 0, 1) := by decide +kernel
theorem d_Q_page_82 : decode b_Q_page 82 = .ok (.goto 18, 3) := by decide +kernel
theorem d_Q_page_85 : decode b_Q_page 85 = .ok (.aload_n 0, 1) := by decide +kernel
theorem d_Q_page_86 : decode b_Q_page 86 = .ok (.getfield 47, 3) := by decide +kernel
theorem d_Q_page_89 : decode b_Q_page 89 = .ok (.iload 4, 2) := by decide +kernel
theorem d_Q_page_91 : decode b_Q_page 91 = .ok (.iaload, 1) := by decide +kernel
theorem d_Q_page_92 : decode b_Q_page 92 = .ok (.ifCond .ge 7, 3) := by decide +kernel
theorem d_Q_page_95 : decode b_Q_page 95 = .ok (.iconst 2, 1) := by decide +kernel
theorem d_Q_page_96 : decode b_Q_page 96 = .ok (.goto 4, 3) := by decide +kernel
theorem d_Q_page_99 : decode b_Q_page 99 = .ok (.iconst 1, 1) := by decide +kernel
theorem d_Q_page_100 : decode b_Q_page 100 = .ok (.ireturn, 1) := by decide +kernel
theorem d_Q_page_101 : decode b_Q_page 101 = .ok (.iload 4, 2) := by decide +kernel
theorem d_Q_page_103 : decode b_Q_page 103 = .ok (.ifCond .lt 13, 3) := by decide +kernel
theorem d_Q_page_106 : decode b_Q_page 106 = .ok (.aload_n 0, 1) := by decide +kernel
theorem d_Q_page_107 : decode b_Q_page 107 = .ok (.getfield 47, 3) := by decide +kernel
theorem d_Q_page_110 : decode b_Q_page 110 = .ok (.iload 4, 2) := by decide +kernel
theorem d_Q_page_112 : decode b_Q_page 112 = .ok (.iaload, 1) := by decide +kernel
theorem d_Q_page_113 : decode b_Q_page 113 = .ok (.ifCond .ge 8, 3) := by decide +kernel
theorem d_Q_page_116 : decode b_Q_page 116 = .ok (.bipush (-2), 2) := by decide +kernel
theorem d_Q_page_118 : decode b_Q_page 118 = .ok (.goto 10, 3) := by decide +kernel
theorem d_Q_page_121 : decode b_Q_page 121 = .ok (.aload_n 0, 1) := by decide +kernel
theorem d_Q_page_122 : decode b_Q_page 122 = .ok (.getfield 47, 3) := by decide +kernel
theorem d_Q_page_125 : decode b_Q_page 125 = .ok (.iload 4, 2) := by decide +kernel
theorem d_Q_page_127 : decode b_Q_page 127 = .ok (.iaload, 1) := by decide +kernel
theorem d_Q_page_128 : decode b_Q_page 128 = .ok (.ireturn, 1) := by decide +kernel
theorem d_Q_page_129 : decode b_Q_page 129 = .ok (.iload 4, 2) := by decide +kernel
theorem d_Q_page_131 : decode b_Q_page 131 = .ok (.ifCond .lt 13, 3) := by decide +kernel
theorem d_Q_page_134 : decode b_Q_page 134 = .ok (.aload_n 0, 1) := by decide +kernel
theorem d_Q_page_135 : decode b_Q_page 135 = .ok (.getfield 50, 3) := by decide +kernel
theorem d_Q_page_138 : decode b_Q_page 138 = .ok (.iload 4, 2) := by decide +kernel
theorem d_Q_page_140 : decode b_Q_page 140 = .ok (.iaload, 1) := by decide +kernel
theorem d_Q_page_141 : decode b_Q_page 141 = .ok (.ifCond .ge 8, 3) := by decide +kernel
theorem d_Q_page_144 : decode b_Q_page 144 = .ok (.bipush (-2), 2) := by decide +kernel
theorem d_Q_page_146 : decode b_Q_page 146 = .ok (.goto 10, 3) := by decide +kernel
theorem d_Q_page_149 : decode b_Q_page 149 = .ok (.aload_n 0, 1) := by decide +kernel
theorem d_Q_page_150 : decode b_Q_page 150 = .ok (.getfield 50, 3) := by decide +kernel
theorem d_Q_page_153 : decode b_Q_page 153 = .ok (.iload 4, 2) := by decide +kernel
theorem d_Q_page_155 : decode b_Q_page 155 = .ok (.iaload, 1) := by decide +kernel
theorem d_Q_page_156 : decode b_Q_page 156 = .ok (.ireturn, 1) := by decide +kernel
theorem d_Q_page_157 : decode b_Q_page 157 = .ok (.iload 4, 2) := by decide +kernel
theorem d_Q_page_159 : decode b_Q_page 159 = .ok (.ifCond .lt 17, 3) := by decide +kernel
theorem d_Q_page_162 : decode b_Q_page 162 = .ok (.aload_n 0, 1) := by decide +kernel
theorem d_Q_page_163 : decode b_Q_page 163 = .ok (.getfield 41, 3) := by decide +kernel
theorem d_Q_page_166 : decode b_Q_page 166 = .ok (.iload 4, 2) := by decide +kernel
theorem d_Q_page_168 : decode b_Q_page 168 = .ok (.baload, 1) := by decide +kernel
theorem d_Q_page_169 : decode b_Q_page 169 = .ok (.ifCond .eq 7, 3) := by decide +kernel
theorem d_Q_page_172 : decode b_Q_page 172 = .ok (.iconst 1, 1) := by decide +kernel
theorem d_Q_page_173 : decode b_Q_page 173 = .ok (.goto 4, 3) := by decide +kernel
theorem d_Q_page_176 : decode b_Q_page 176 = .ok (.iconst 0, 1) := by decide +kernel
theorem d_Q_page_177 : decode b_Q_page 177 = .ok (.ireturn, 1) := by decide +kernel
theorem d_Q_page_178 : decode b_Q_page 178 = .ok (.iload 4, 2) := by decide +kernel
theorem d_Q_page_180 : decode b_Q_page 180 = .ok (.ifCond .lt 17, 3) := by decide +kernel
theorem d_Q_page_183 : decode b_Q_page 183 = .ok (.aload_n 0, 1) := by decide +kernel
theorem d_Q_page_184 : decode b_Q_page 184 = .ok (.getfield 44, 3) := by decide +kernel
theorem d_Q_page_187 : decode b_Q_page 187 = .ok (.iload 4, 2) := by decide +kernel
theorem d_Q_page_189 : decode b_Q_page 189 = .ok (.baload, 1) := by decide +kernel
theorem d_Q_page_190 : decode b_Q_page 190 = .ok (.ifCond .eq 7, 3) := by decide +kernel
theorem d_Q_page_193 : decode b_Q_page 193 = .ok (.iconst 1, 1) := by decide +kernel
theorem d_Q_page_194 : decode b_Q_page 194 = .ok (.goto 4, 3) := by decide +kernel
theorem d_Q_page_197 : decode b_Q_page 197 = .ok (.iconst 0, 1) := by decide +kernel
theorem d_Q_page_198 : decode b_Q_page 198 = .ok (.ireturn, 1) := by decide +kernel
theorem d_Q_page_199 : decode b_Q_page 199 = .ok (.iload 4, 2) := by decide +kernel
theorem d_Q_page_201 : decode b_Q_page 201 = .ok (.ifCond .ge 7, 3) := by decide +kernel
theorem d_Q_page_204 : decode b_Q_page 204 = .ok (.iconst 0, 1) := by decide +kernel
theorem d_Q_page_205 : decode b_Q_page 205 = .ok (.goto 9, 3) := by decide +kernel
theorem d_Q_page_208 : decode b_Q_page 208 = .ok (.aload_n 0, 1) := by decide +kernel
theorem d_Q_page_209 : decode b_Q_page 209 = .ok (.iload 4, 2) := by decide +kernel
theorem d_Q_page_211 : decode b_Q_page 211 = .ok (.invokevirtual 66, 3) := by decide +kernel
theorem d_Q_page_214 : decode b_Q_page 214 = .ok (.ireturn, 1) := by decide +kernel
theorem d_Q_printed_0 : decode b_Q_printed 0 = .ok (.iload_n 1, 1) := by decide +kernel
theorem d_Q_printed_1 : decode b_Q_printed 1 = .ok (.bipush 40, 2) := by decide +kernel
theorem d_Q_printed_3 : decode b_Q_printed 3 = .ok (.invokestatic 95, 3) := by decide +kernel
theorem d_Q_printed_6 : decode b_Q_printed 6 = .ok (.ifCond .eq 12, 3) := by decide +kernel
theorem d_Q_printed_9 : decode b_Q_printed 9 = .ok (.aload_n 0, 1) := by decide +kernel
theorem d_Q_printed_10 : decode b_Q_printed 10 = .ok (.getfield 56, 3) := by decide +kernel
theorem d_Q_printed_13 : decode b_Q_printed 13 = .ok (.iload_n 1, 1) := by decide +kernel
theorem d_Q_printed_14 : decode b_Q_printed 14 = .ok (.iaload, 1) := by decide +kernel
theorem d_Q_printed_15 : decode b_Q_printed 15 = .ok (.goto 4, 3) := by decide +kernel
theorem d_Q_printed_18 : decode b_Q_printed 18 = .ok (.iconst 0, 1) := by decide +kernel
theorem d_Q_printed_19 : decode b_Q_printed 19 = .ok (.ireturn, 1) := by decide +kernel
theorem d_Q_count_0 : decode b_Q_count 0 = .ok (.iconst 0, 1) := by decide +kernel
theorem d_Q_count_1 : decode b_Q_count 1 = .ok (.istore_n 2, 1) := by decide +kernel
theorem d_Q_count_2 : decode b_Q_count 2 = .ok (.iload_n 1, 1) := by decide +kernel
theorem d_Q_count_3 : decode b_Q_count 3 = .ok (.tableswitch 171 0 12 #[65, 70, 97, 102, 107, 134, 161, 171, 171, 171, 171, 171, 166], 65) := by decide +kernel
theorem d_Q_count_68 : decode b_Q_count 68 = .ok (.aload_n 0, 1) := by decide +kernel
theorem d_Q_count_69 : decode b_Q_count 69 = .ok (.getfield 123, 3) := by decide +kernel
theorem d_Q_count_72 : decode b_Q_count 72 = .ok (.ireturn, 1) := by decide +kernel
theorem d_Q_count_73 : decode b_Q_count 73 = .ok (.iconst 0, 1) := by decide +kernel
theorem d_Q_count_74 : decode b_Q_count 74 = .ok (.istore_n 3, 1) := by decide +kernel
theorem d_Q_count_75 : decode b_Q_count 75 = .ok (.iload_n 3, 1) := by decide +kernel
theorem d_Q_count_76 : decode b_Q_count 76 = .ok (.iconst 4, 1) := by decide +kernel
theorem d_Q_count_77 : decode b_Q_count 77 = .ok (.if_icmp .ge 21, 3) := by decide +kernel
theorem d_Q_count_80 : decode b_Q_count 80 = .ok (.aload_n 0, 1) := by decide +kernel
theorem d_Q_count_81 : decode b_Q_count 81 = .ok (.getfield 7, 3) := by decide +kernel
theorem d_Q_count_84 : decode b_Q_count 84 = .ok (.iload_n 3, 1) := by decide +kernel
theorem d_Q_count_85 : decode b_Q_count 85 = .ok (.iaload, 1) := by decide +kernel
theorem d_Q_count_86 : decode b_Q_count 86 = .ok (.ifCond .eq 6, 3) := by decide +kernel
theorem d_Q_count_89 : decode b_Q_count 89 = .ok (.iinc 2 1, 3) := by decide +kernel
theorem d_Q_count_92 : decode b_Q_count 92 = .ok (.iinc 3 1, 3) := by decide +kernel
theorem d_Q_count_95 : decode b_Q_count 95 = .ok (.goto (-20), 3) := by decide +kernel
theorem d_Q_count_98 : decode b_Q_count 98 = .ok (.iload_n 2, 1) := by decide +kernel
theorem d_Q_count_99 : decode b_Q_count 99 = .ok (.ireturn, 1) := by decide +kernel
theorem d_Q_count_100 : decode b_Q_count 100 = .ok (.aload_n 0, 1) := by decide +kernel
theorem d_Q_count_101 : decode b_Q_count 101 = .ok (.getfield 62, 3) := by decide +kernel
theorem d_Q_count_104 : decode b_Q_count 104 = .ok (.ireturn, 1) := by decide +kernel
theorem d_Q_count_105 : decode b_Q_count 105 = .ok (.aload_n 0, 1) := by decide +kernel
theorem d_Q_count_106 : decode b_Q_count 106 = .ok (.getfield 130, 3) := by decide +kernel
theorem d_Q_count_109 : decode b_Q_count 109 = .ok (.ireturn, 1) := by decide +kernel
theorem d_Q_count_110 : decode b_Q_count 110 = .ok (.iconst 0, 1) := by decide +kernel
theorem d_Q_count_111 : decode b_Q_count 111 = .ok (.istore_n 3, 1) := by decide +kernel
theorem d_Q_count_112 : decode b_Q_count 112 = .ok (.iload_n 3, 1) := by decide +kernel
theorem d_Q_count_113 : decode b_Q_count 113 = .ok (.bipush 6, 2) := by decide +kernel
theorem d_Q_count_115 : decode b_Q_count 115 = .ok (.if_icmp .ge 20, 3) := by decide +kernel
theorem d_Q_count_118 : decode b_Q_count 118 = .ok (.aload_n 0, 1) := by decide +kernel
theorem d_Q_count_119 : decode b_Q_count 119 = .ok (.iload_n 3, 1) := by decide +kernel
theorem d_Q_count_120 : decode b_Q_count 120 = .ok (.invokevirtual 74, 3) := by decide +kernel
theorem d_Q_count_123 : decode b_Q_count 123 = .ok (.ifCond .lt 6, 3) := by decide +kernel
theorem d_Q_count_126 : decode b_Q_count 126 = .ok (.iinc 2 1, 3) := by decide +kernel
theorem d_Q_count_129 : decode b_Q_count 129 = .ok (.iinc 3 1, 3) := by decide +kernel
theorem d_Q_count_132 : decode b_Q_count 132 = .ok (.goto (-20), 3) := by decide +kernel
theorem d_Q_count_135 : decode b_Q_count 135 = .ok (.iload_n 2, 1) := by decide +kernel
theorem d_Q_count_136 : decode b_Q_count 136 = .ok (.ireturn, 1) := by decide +kernel
theorem d_Q_count_137 : decode b_Q_count 137 = .ok (.iconst 0, 1) := by decide +kernel
theorem d_Q_count_138 : decode b_Q_count 138 = .ok (.istore_n 3, 1) := by decide +kernel
theorem d_Q_count_139 : decode b_Q_count 139 = .ok (.iload_n 3, 1) := by decide +kernel
theorem d_Q_count_140 : decode b_Q_count 140 = .ok (.bipush 32, 2) := by decide +kernel
theorem d_Q_count_142 : decode b_Q_count 142 = .ok (.if_icmp .ge 20, 3) := by decide +kernel
theorem d_Q_count_145 : decode b_Q_count 145 = .ok (.aload_n 0, 1) := by decide +kernel
theorem d_Q_count_146 : decode b_Q_count 146 = .ok (.iload_n 3, 1) := by decide +kernel
theorem d_Q_count_147 : decode b_Q_count 147 = .ok (.invokevirtual 70, 3) := by decide +kernel
theorem d_Q_count_150 : decode b_Q_count 150 = .ok (.ifCond .eq 6, 3) := by decide +kernel
theorem d_Q_count_153 : decode b_Q_count 153 = .ok (.iinc 2 1, 3) := by decide +kernel
theorem d_Q_count_156 : decode b_Q_count 156 = .ok (.iinc 3 1, 3) := by decide +kernel
theorem d_Q_count_159 : decode b_Q_count 159 = .ok (.goto (-20), 3) := by decide +kernel
theorem d_Q_count_162 : decode b_Q_count 162 = .ok (.iload_n 2, 1) := by decide +kernel
theorem d_Q_count_163 : decode b_Q_count 163 = .ok (.ireturn, 1) := by decide +kernel
theorem d_Q_count_164 : decode b_Q_count 164 = .ok (.aload_n 0, 1) := by decide +kernel
theorem d_Q_count_165 : decode b_Q_count 165 = .ok (.getfield 77, 3) := by decide +kernel
theorem d_Q_count_168 : decode b_Q_count 168 = .ok (.ireturn, 1) := by decide +kernel
theorem d_Q_count_169 : decode b_Q_count 169 = .ok (.aload_n 0, 1) := by decide +kernel
theorem d_Q_count_170 : decode b_Q_count 170 = .ok (.getfield 143, 3) := by decide +kernel
theorem d_Q_count_173 : decode b_Q_count 173 = .ok (.ireturn, 1) := by decide +kernel
theorem d_Q_count_174 : decode b_Q_count 174 = .ok (.iload_n 1, 1) := by decide +kernel
theorem d_Q_count_175 : decode b_Q_count 175 = .ok (.bipush 14, 2) := by decide +kernel
theorem d_Q_count_177 : decode b_Q_count 177 = .ok (.invokestatic 95, 3) := by decide +kernel
theorem d_Q_count_180 : decode b_Q_count 180 = .ok (.ifCond .eq 12, 3) := by decide +kernel
theorem d_Q_count_183 : decode b_Q_count 183 = .ok (.aload_n 0, 1) := by decide +kernel
theorem d_Q_count_184 : decode b_Q_count 184 = .ok (.getfield 59, 3) := by decide +kernel
theorem d_Q_count_187 : decode b_Q_count 187 = .ok (.iload_n 1, 1) := by decide +kernel
theorem d_Q_count_188 : decode b_Q_count 188 = .ok (.iaload, 1) := by decide +kernel
theorem d_Q_count_189 : decode b_Q_count 189 = .ok (.goto 4, 3) := by decide +kernel
theorem d_Q_count_192 : decode b_Q_count 192 = .ok (.iconst (-1), 1) := by decide +kernel
theorem d_Q_count_193 : decode b_Q_count 193 = .ok (.ireturn, 1) := by decide +kernel
end
section
theorem w_copy : Cond.methodLink R_M 79 arraycopyName ∈ TT ∧ Cond.native arraycopyName ∈ TT ∧ Cond.static arraycopyName ∈ TT ∧ Cond.initialized "java/lang/System" ∈ TT := ⟨mm_ (List.mem_append_right _ (List.mem_of_getElem? (l := tables_1) (i := 232) (by decide +kernel))) rfl, mm_ (List.mem_append_right _ (List.mem_of_getElem? (l := tables_1) (i := 234) (by decide +kernel))) rfl, mm_ (List.mem_append_right _ (List.mem_of_getElem? (l := tables_1) (i := 233) (by decide +kernel))) rfl, mm_ (List.mem_append_right _ (List.mem_of_getElem? (l := tables_1) (i := 7) (by decide +kernel))) rfl⟩
end
section
def kw_pa (x : Nat) : Int32 := if x < 4 then nI x else -2
def kw_fr (x : Nat) : Int32 := if x < 6 then nI x else -2
def kw_sl (x : Nat) : Int32 := if x < 32 then nI x else -2
abbrev kw_ty (cI cT cS : ClassId) : List (ClassId × FieldType) := [(cI, .int), (cT, .object "SheetKernel$Task"), (cS, .object "SheetKernel$Sheet")]
abbrev kw_S : Type := (Nat → Nat → Nat → Int32) × (Nat → Nat → Nat → Nat)
def kw_si (S : kw_S) (c i j : Nat) (v : Int32) : kw_S := (fun a b => if a = c ∧ b = i then (fun d => if d = j then v else S.1 a b d) else S.1 a b, S.2)
theorem kw_si_ne {S : kw_S} {c i j : Nat} {v : Int32} {a b : Nat} (h : ¬ (a = c ∧ b = i)) : (kw_si S c i j v).1 a b = S.1 a b := if_neg h
theorem kw_si_eq {S : kw_S} {c i j : Nat} {v : Int32} : (kw_si S c i j v).1 c i = fun d => if d = j then v else S.1 c i d := if_pos ⟨rfl, rfl⟩
theorem kw_si_at {S : kw_S} {c i j : Nat} {v : Int32} {a b d : Nat} : (kw_si S c i j v).1 a b d = if a = c ∧ b = i ∧ d = j then v else S.1 a b d := by
  unfold kw_si
  by_cases h : a = c ∧ b = i
  · simp only [h, and_self, if_true, true_and]
  · simp only [h, if_false]
    rw [if_neg (fun q => h ⟨q.1, q.2.1⟩)]
theorem kw_si_o {S : kw_S} {c i j : Nat} {v : Int32} : (kw_si S c i j v).2 = S.2 := rfl
def kw_sn (S : kw_S) (c i j : Nat) (v : Nat) : kw_S := (S.1, fun a b => if a = c ∧ b = i then (fun d => if d = j then v else S.2 a b d) else S.2 a b)
theorem kw_sn_ne {S : kw_S} {c i j : Nat} {v : Nat} {a b : Nat} (h : ¬ (a = c ∧ b = i)) : (kw_sn S c i j v).2 a b = S.2 a b := if_neg h
theorem kw_sn_eq {S : kw_S} {c i j : Nat} {v : Nat} : (kw_sn S c i j v).2 c i = fun d => if d = j then v else S.2 c i d := if_pos ⟨rfl, rfl⟩
theorem kw_sn_at {S : kw_S} {c i j : Nat} {v : Nat} {a b d : Nat} : (kw_sn S c i j v).2 a b d = if a = c ∧ b = i ∧ d = j then v else S.2 a b d := by
  unfold kw_sn
  by_cases h : a = c ∧ b = i
  · simp only [h, and_self, if_true, true_and]
  · simp only [h, if_false]
    rw [if_neg (fun q => h ⟨q.1, q.2.1⟩)]
theorem kw_sn_o {S : kw_S} {c i j : Nat} {v : Nat} : (kw_sn S c i j v).1 = S.1 := rfl
def kw_sr (S : kw_S) (c i : Nat) (f : Nat → Int32) : kw_S := (fun a b => if a = c ∧ b = i then f else S.1 a b, S.2)
theorem kw_sr_ne {S : kw_S} {c i : Nat} {f : Nat → Int32} {a b : Nat} (h : ¬ (a = c ∧ b = i)) : (kw_sr S c i f).1 a b = S.1 a b := if_neg h
theorem kw_sr_eq {S : kw_S} {c i : Nat} {f : Nat → Int32} : (kw_sr S c i f).1 c i = f := if_pos ⟨rfl, rfl⟩
theorem kw_sr_at {S : kw_S} {c i : Nat} {f : Nat → Int32} {a b d : Nat} : (kw_sr S c i f).1 a b d = if a = c ∧ b = i then f d else S.1 a b d := by
  unfold kw_sr
  by_cases h : a = c ∧ b = i
  · rw [if_pos h]
    exact congrFun (if_pos h) d
  · rw [if_neg h]
    exact congrFun (if_neg h) d
theorem kw_sr_o {S : kw_S} {c i : Nat} {f : Nat → Int32} : (kw_sr S c i f).2 = S.2 := rfl
def kw_co (q : Nat) : Nat := if q < 1 then 0 else if q < 2 then 1 else if q < 3 then 2 else if q < 4 then 3 else if q < 5 then 4 else if q < 6 then 5 else if q < 7 then 6 else if q < 11 then 7 else if q < 15 then 8 else if q < 19 then 9 else if q < 51 then 10 else 11
def kw_ix (q : Nat) : Nat := if q < 1 then q - 0 else if q < 2 then q - 1 else if q < 3 then q - 2 else if q < 4 then q - 3 else if q < 5 then q - 4 else if q < 6 then q - 5 else if q < 7 then q - 6 else if q < 11 then q - 7 else if q < 15 then q - 11 else if q < 19 then q - 15 else if q < 51 then q - 19 else q - 51
def kw_pl (c i : Nat) : Nat := match c with
  | 0 => 0 + i
  | 1 => 1 + i
  | 2 => 2 + i
  | 3 => 3 + i
  | 4 => 4 + i
  | 5 => 5 + i
  | 6 => 6 + i
  | 7 => 7 + i
  | 8 => 11 + i
  | 9 => 15 + i
  | 10 => 19 + i
  | _ => 51 + i
theorem kw_plc (q : Nat) : kw_pl (kw_co q) (kw_ix q) = q := by
  unfold kw_co kw_ix
  by_cases h0 : q < 1
  · rw [if_pos h0, if_pos h0]
    show 0 + (q - 0) = q
    omega
  rw [if_neg h0, if_neg h0]
  by_cases h1 : q < 2
  · rw [if_pos h1, if_pos h1]
    show 1 + (q - 1) = q
    omega
  rw [if_neg h1, if_neg h1]
  by_cases h2 : q < 3
  · rw [if_pos h2, if_pos h2]
    show 2 + (q - 2) = q
    omega
  rw [if_neg h2, if_neg h2]
  by_cases h3 : q < 4
  · rw [if_pos h3, if_pos h3]
    show 3 + (q - 3) = q
    omega
  rw [if_neg h3, if_neg h3]
  by_cases h4 : q < 5
  · rw [if_pos h4, if_pos h4]
    show 4 + (q - 4) = q
    omega
  rw [if_neg h4, if_neg h4]
  by_cases h5 : q < 6
  · rw [if_pos h5, if_pos h5]
    show 5 + (q - 5) = q
    omega
  rw [if_neg h5, if_neg h5]
  by_cases h6 : q < 7
  · rw [if_pos h6, if_pos h6]
    show 6 + (q - 6) = q
    omega
  rw [if_neg h6, if_neg h6]
  by_cases h7 : q < 11
  · rw [if_pos h7, if_pos h7]
    show 7 + (q - 7) = q
    omega
  rw [if_neg h7, if_neg h7]
  by_cases h8 : q < 15
  · rw [if_pos h8, if_pos h8]
    show 11 + (q - 11) = q
    omega
  rw [if_neg h8, if_neg h8]
  by_cases h9 : q < 19
  · rw [if_pos h9, if_pos h9]
    show 15 + (q - 15) = q
    omega
  rw [if_neg h9, if_neg h9]
  by_cases h10 : q < 51
  · rw [if_pos h10, if_pos h10]
    show 19 + (q - 19) = q
    omega
  rw [if_neg h10, if_neg h10]
  show 51 + (q - 51) = q
  omega
theorem kw_inj {q r : Nat} (h1 : kw_co q = kw_co r) (h2 : kw_ix q = kw_ix r) : q = r := by
  rw [← kw_plc q, ← kw_plc r, h1, h2]
def kw_rE (ad : Nat → Nat) (x : Nat) : Option Nat := if x < 32 then some (ad (19 + x)) else none
def kw_cell (cI cT cS : ClassId) (ad : Nat → Nat) (c i : Nat) (f : Nat → Int32) (g : Nat → Nat) : va_E := match c with
  | 0 => .inr (0, [.ref (ad 1), .ref (ad 2), .ref (ad 3), .int (nI (g 0)), .int (f 0), .int (f 1), .int (f 2), .int (nI ((g 1) % 4)), .int (f 3), .int (f 4)])
  | 1 => .inl (cT, 4, .inr (.inr (.inr (.inr (fun j => some (ad (7 + j)))))))
  | 2 => .inr (1, [.ref (ad 4), .ref (ad 5), .ref (ad 6), .int (nI ((g 0) % 6)), .int (f 0), .int (f 1), .int (f 2), .int (f 3)])
  | 3 => .inl (cI, 40, .inl (f))
  | 4 => .inl (cS, 32, .inr (.inr (.inr (.inr (fun j => some (ad (19 + j)))))))
  | 5 => .inl (cS, 6, .inr (.inr (.inr (.inr (fun j => kw_rE ad (g j))))))
  | 6 => .inl (cS, 32, .inr (.inr (.inr (.inr (fun j => kw_rE ad (g j))))))
  | 7 => .inr (2, [.ref (ad (11 + i)), .ref (ad (15 + i)), .int (f 0), .int (f 1), .int (kw_pa (g 0)), .int (f 2), .int (f 3), .int (f 4), .int (f 5)])
  | 8 => .inl (cI, 4, .inl (f))
  | 9 => .inl (cS, 8, .inr (.inr (.inr (.inr (fun j => kw_rE ad (g j))))))
  | 10 => .inr (3, [.ref (ad (51 + i)), .int (f 0), .int (kw_fr (g 0)), .int (kw_sl (g 1)), .int (f 1), .int (f 2)])
  | _ => .inl (cI, 8, .inl (f))
def kw_C (cI cT cS : ClassId) (ad : Nat → Nat) (S : kw_S) : Nat → va_E := fun q => kw_cell cI cT cS ad (kw_co q) (kw_ix q) (S.1 (kw_co q) (kw_ix q)) (S.2 (kw_co q) (kw_ix q))
theorem kw_up {cI cT cS : ClassId} {ad : Nat → Nat} {S S2 : kw_S} {q0 c i : Nat} {e : va_E} (hc : kw_co q0 = c ∧ kw_ix q0 = i) (h1 : ∀ a b, ¬ (a = c ∧ b = i) → S2.1 a b = S.1 a b) (h2 : ∀ a b, ¬ (a = c ∧ b = i) → S2.2 a b = S.2 a b) (he : e = kw_cell cI cT cS ad c i (S2.1 c i) (S2.2 c i)) : va_up (kw_C cI cT cS ad S) q0 e = kw_C cI cT cS ad S2 := by
  funext q
  by_cases hq : q = q0
  · subst hq
    rw [va_up_self, he]
    unfold kw_C
    rw [hc.1, hc.2]
  · rw [va_up_ne _ _ hq]
    have hne : ¬ (kw_co q = c ∧ kw_ix q = i) := fun h => hq (kw_inj (h.1.trans hc.1.symm) (h.2.trans hc.2.symm))
    unfold kw_C
    rw [h1 _ _ hne, h2 _ _ hne]
theorem kw_coK : kw_co 0 = 0 ∧ kw_ix 0 = 0 := ⟨by decide, by decide⟩
theorem kw_cK {cI cT cS : ClassId} {ad : Nat → Nat} {S : kw_S} : kw_C cI cT cS ad S 0 = .inr (0, [.ref (ad 1), .ref (ad 2), .ref (ad 3), .int (nI (S.2 0 0 0)), .int (S.1 0 0 0), .int (S.1 0 0 1), .int (S.1 0 0 2), .int (nI ((S.2 0 0 1) % 4)), .int (S.1 0 0 3), .int (S.1 0 0 4)]) := by
  unfold kw_C
  rw [(kw_coK).1, (kw_coK).2]
  rfl
theorem kw_pK_values {cI cT cS : ClassId} {ad : Nat → Nat} {S : kw_S} {x : Nat} {v : Int32} (hv : v = nI x) : va_up (kw_C cI cT cS ad S) 0 (.inr (0, [.ref (ad 1), .ref (ad 2), .ref (ad 3), .int (nI (S.2 0 0 0)), .int (S.1 0 0 0), .int (S.1 0 0 1), .int (S.1 0 0 2), .int (nI ((S.2 0 0 1) % 4)), .int (S.1 0 0 3), .int (S.1 0 0 4)].set 3 (.int v))) = kw_C cI cT cS ad (kw_sn S 0 0 0 x) := by
  subst hv
  refine kw_up (kw_coK) (fun _ _ _ => rfl) (fun _ _ h9 => kw_sn_ne h9) ?_
  rw [kw_sn_eq]
  rfl
theorem kw_pK_time {cI cT cS : ClassId} {ad : Nat → Nat} {S : kw_S} {v : Int32} : va_up (kw_C cI cT cS ad S) 0 (.inr (0, [.ref (ad 1), .ref (ad 2), .ref (ad 3), .int (nI (S.2 0 0 0)), .int (S.1 0 0 0), .int (S.1 0 0 1), .int (S.1 0 0 2), .int (nI ((S.2 0 0 1) % 4)), .int (S.1 0 0 3), .int (S.1 0 0 4)].set 4 (.int v))) = kw_C cI cT cS ad (kw_si S 0 0 0 v) := by
  refine kw_up (kw_coK) (fun _ _ h9 => kw_si_ne h9) (fun _ _ _ => rfl) ?_
  rw [kw_si_eq]
  rfl
theorem kw_pK_idleTicks {cI cT cS : ClassId} {ad : Nat → Nat} {S : kw_S} {v : Int32} : va_up (kw_C cI cT cS ad S) 0 (.inr (0, [.ref (ad 1), .ref (ad 2), .ref (ad 3), .int (nI (S.2 0 0 0)), .int (S.1 0 0 0), .int (S.1 0 0 1), .int (S.1 0 0 2), .int (nI ((S.2 0 0 1) % 4)), .int (S.1 0 0 3), .int (S.1 0 0 4)].set 5 (.int v))) = kw_C cI cT cS ad (kw_si S 0 0 1 v) := by
  refine kw_up (kw_coK) (fun _ _ h9 => kw_si_ne h9) (fun _ _ _ => rfl) ?_
  rw [kw_si_eq]
  rfl
theorem kw_pK_wildInstructions {cI cT cS : ClassId} {ad : Nat → Nat} {S : kw_S} {v : Int32} : va_up (kw_C cI cT cS ad S) 0 (.inr (0, [.ref (ad 1), .ref (ad 2), .ref (ad 3), .int (nI (S.2 0 0 0)), .int (S.1 0 0 0), .int (S.1 0 0 1), .int (S.1 0 0 2), .int (nI ((S.2 0 0 1) % 4)), .int (S.1 0 0 3), .int (S.1 0 0 4)].set 6 (.int v))) = kw_C cI cT cS ad (kw_si S 0 0 2 v) := by
  refine kw_up (kw_coK) (fun _ _ h9 => kw_si_ne h9) (fun _ _ _ => rfl) ?_
  rw [kw_si_eq]
  rfl
theorem kw_pK_turn {cI cT cS : ClassId} {ad : Nat → Nat} {S : kw_S} {x : Nat} {v : Int32} (hv : v = nI (x % 4)) : va_up (kw_C cI cT cS ad S) 0 (.inr (0, [.ref (ad 1), .ref (ad 2), .ref (ad 3), .int (nI (S.2 0 0 0)), .int (S.1 0 0 0), .int (S.1 0 0 1), .int (S.1 0 0 2), .int (nI ((S.2 0 0 1) % 4)), .int (S.1 0 0 3), .int (S.1 0 0 4)].set 7 (.int v))) = kw_C cI cT cS ad (kw_sn S 0 0 1 x) := by
  subst hv
  refine kw_up (kw_coK) (fun _ _ _ => rfl) (fun _ _ h9 => kw_sn_ne h9) ?_
  rw [kw_sn_eq]
  rfl
theorem kw_pK_doneInTurn {cI cT cS : ClassId} {ad : Nat → Nat} {S : kw_S} {v : Int32} : va_up (kw_C cI cT cS ad S) 0 (.inr (0, [.ref (ad 1), .ref (ad 2), .ref (ad 3), .int (nI (S.2 0 0 0)), .int (S.1 0 0 0), .int (S.1 0 0 1), .int (S.1 0 0 2), .int (nI ((S.2 0 0 1) % 4)), .int (S.1 0 0 3), .int (S.1 0 0 4)].set 8 (.int v))) = kw_C cI cT cS ad (kw_si S 0 0 3 v) := by
  refine kw_up (kw_coK) (fun _ _ h9 => kw_si_ne h9) (fun _ _ _ => rfl) ?_
  rw [kw_si_eq]
  rfl
theorem kw_pK_yielded {cI cT cS : ClassId} {ad : Nat → Nat} {S : kw_S} {v : Int32} : va_up (kw_C cI cT cS ad S) 0 (.inr (0, [.ref (ad 1), .ref (ad 2), .ref (ad 3), .int (nI (S.2 0 0 0)), .int (S.1 0 0 0), .int (S.1 0 0 1), .int (S.1 0 0 2), .int (nI ((S.2 0 0 1) % 4)), .int (S.1 0 0 3), .int (S.1 0 0 4)].set 9 (.int v))) = kw_C cI cT cS ad (kw_si S 0 0 4 v) := by
  refine kw_up (kw_coK) (fun _ _ h9 => kw_si_ne h9) (fun _ _ _ => rfl) ?_
  rw [kw_si_eq]
  rfl
theorem kw_coAT : kw_co 1 = 1 ∧ kw_ix 1 = 0 := ⟨by decide, by decide⟩
theorem kw_cAT {cI cT cS : ClassId} {ad : Nat → Nat} {S : kw_S} : kw_C cI cT cS ad S 1 = .inl (cT, 4, .inr (.inr (.inr (.inr (fun j => some (ad (7 + j))))))) := by
  unfold kw_C
  rw [(kw_coAT).1, (kw_coAT).2]
  rfl
theorem kw_coM : kw_co 2 = 2 ∧ kw_ix 2 = 0 := ⟨by decide, by decide⟩
theorem kw_cM {cI cT cS : ClassId} {ad : Nat → Nat} {S : kw_S} : kw_C cI cT cS ad S 2 = .inr (1, [.ref (ad 4), .ref (ad 5), .ref (ad 6), .int (nI ((S.2 2 0 0) % 6)), .int (S.1 2 0 0), .int (S.1 2 0 1), .int (S.1 2 0 2), .int (S.1 2 0 3)]) := by
  unfold kw_C
  rw [(kw_coM).1, (kw_coM).2]
  rfl
theorem kw_pM_hand {cI cT cS : ClassId} {ad : Nat → Nat} {S : kw_S} {x : Nat} {v : Int32} (hv : v = nI (x % 6)) : va_up (kw_C cI cT cS ad S) 2 (.inr (1, [.ref (ad 4), .ref (ad 5), .ref (ad 6), .int (nI ((S.2 2 0 0) % 6)), .int (S.1 2 0 0), .int (S.1 2 0 1), .int (S.1 2 0 2), .int (S.1 2 0 3)].set 3 (.int v))) = kw_C cI cT cS ad (kw_sn S 2 0 0 x) := by
  subst hv
  refine kw_up (kw_coM) (fun _ _ _ => rfl) (fun _ _ h9 => kw_sn_ne h9) ?_
  rw [kw_sn_eq]
  rfl
theorem kw_pM_faults {cI cT cS : ClassId} {ad : Nat → Nat} {S : kw_S} {v : Int32} : va_up (kw_C cI cT cS ad S) 2 (.inr (1, [.ref (ad 4), .ref (ad 5), .ref (ad 6), .int (nI ((S.2 2 0 0) % 6)), .int (S.1 2 0 0), .int (S.1 2 0 1), .int (S.1 2 0 2), .int (S.1 2 0 3)].set 4 (.int v))) = kw_C cI cT cS ad (kw_si S 2 0 0 v) := by
  refine kw_up (kw_coM) (fun _ _ h9 => kw_si_ne h9) (fun _ _ _ => rfl) ?_
  rw [kw_si_eq]
  rfl
theorem kw_pM_written {cI cT cS : ClassId} {ad : Nat → Nat} {S : kw_S} {v : Int32} : va_up (kw_C cI cT cS ad S) 2 (.inr (1, [.ref (ad 4), .ref (ad 5), .ref (ad 6), .int (nI ((S.2 2 0 0) % 6)), .int (S.1 2 0 0), .int (S.1 2 0 1), .int (S.1 2 0 2), .int (S.1 2 0 3)].set 5 (.int v))) = kw_C cI cT cS ad (kw_si S 2 0 1 v) := by
  refine kw_up (kw_coM) (fun _ _ h9 => kw_si_ne h9) (fun _ _ _ => rfl) ?_
  rw [kw_si_eq]
  rfl
theorem kw_pM_read {cI cT cS : ClassId} {ad : Nat → Nat} {S : kw_S} {v : Int32} : va_up (kw_C cI cT cS ad S) 2 (.inr (1, [.ref (ad 4), .ref (ad 5), .ref (ad 6), .int (nI ((S.2 2 0 0) % 6)), .int (S.1 2 0 0), .int (S.1 2 0 1), .int (S.1 2 0 2), .int (S.1 2 0 3)].set 6 (.int v))) = kw_C cI cT cS ad (kw_si S 2 0 2 v) := by
  refine kw_up (kw_coM) (fun _ _ h9 => kw_si_ne h9) (fun _ _ _ => rfl) ?_
  rw [kw_si_eq]
  rfl
theorem kw_pM_copies {cI cT cS : ClassId} {ad : Nat → Nat} {S : kw_S} {v : Int32} : va_up (kw_C cI cT cS ad S) 2 (.inr (1, [.ref (ad 4), .ref (ad 5), .ref (ad 6), .int (nI ((S.2 2 0 0) % 6)), .int (S.1 2 0 0), .int (S.1 2 0 1), .int (S.1 2 0 2), .int (S.1 2 0 3)].set 7 (.int v))) = kw_C cI cT cS ad (kw_si S 2 0 3 v) := by
  refine kw_up (kw_coM) (fun _ _ h9 => kw_si_ne h9) (fun _ _ _ => rfl) ?_
  rw [kw_si_eq]
  rfl
theorem kw_coAK : kw_co 3 = 3 ∧ kw_ix 3 = 0 := ⟨by decide, by decide⟩
theorem kw_cAK {cI cT cS : ClassId} {ad : Nat → Nat} {S : kw_S} : kw_C cI cT cS ad S 3 = .inl (cI, 40, .inl (S.1 3 0)) := by
  unfold kw_C
  rw [(kw_coAK).1, (kw_coAK).2]
  rfl
theorem kw_pAK {cI cT cS : ClassId} {ad : Nat → Nat} {S : kw_S} {j : Nat} {v : Int32} : va_up (kw_C cI cT cS ad S) 3 (.inl (cI, 40, .inl (upd (S.1 3 0) j v))) = kw_C cI cT cS ad (kw_si S 3 0 j v) := by
  refine kw_up (kw_coAK) (fun _ _ h9 => kw_si_ne h9) (fun _ _ _ => rfl) ?_
  rw [kw_si_eq]
  rfl
theorem kw_pfAK {cI cT cS : ClassId} {ad : Nat → Nat} {S : kw_S} {f : Nat → Int32} : va_up (kw_C cI cT cS ad S) 3 (.inl (cI, 40, .inl f)) = kw_C cI cT cS ad (kw_sr S 3 0 f) := by
  refine kw_up (kw_coAK) (fun _ _ h9 => kw_sr_ne h9) (fun _ _ _ => rfl) ?_
  rw [kw_sr_eq]
  rfl
theorem kw_coAS : kw_co 4 = 4 ∧ kw_ix 4 = 0 := ⟨by decide, by decide⟩
theorem kw_cAS {cI cT cS : ClassId} {ad : Nat → Nat} {S : kw_S} : kw_C cI cT cS ad S 4 = .inl (cS, 32, .inr (.inr (.inr (.inr (fun j => some (ad (19 + j))))))) := by
  unfold kw_C
  rw [(kw_coAS).1, (kw_coAS).2]
  rfl
theorem kw_coAF : kw_co 5 = 5 ∧ kw_ix 5 = 0 := ⟨by decide, by decide⟩
theorem kw_cAF {cI cT cS : ClassId} {ad : Nat → Nat} {S : kw_S} : kw_C cI cT cS ad S 5 = .inl (cS, 6, .inr (.inr (.inr (.inr (fun j => kw_rE ad (S.2 5 0 j)))))) := by
  unfold kw_C
  rw [(kw_coAF).1, (kw_coAF).2]
  rfl
theorem kw_prAF {cI cT cS : ClassId} {ad : Nat → Nat} {S : kw_S} {j : Nat} {x : Nat} (hx : x < 32) : va_up (kw_C cI cT cS ad S) 5 (.inl (cS, 6, .inr (.inr (.inr (.inr (va_up (fun j => kw_rE ad (S.2 5 0 j)) j (some (ad (19 + x))))))))) = kw_C cI cT cS ad (kw_sn S 5 0 j x) := by
  refine kw_up (kw_coAF) (fun _ _ _ => rfl) (fun _ _ h9 => kw_sn_ne h9) ?_
  rw [kw_sn_eq]
  have hf : va_up (fun j => kw_rE ad (S.2 5 0 j)) j (some (ad (19 + x))) = fun d => kw_rE ad (if d = j then x else S.2 5 0 d) := by
    funext d
    unfold va_up kw_rE
    by_cases h9 : d = j
    · rw [if_pos h9, if_pos h9, if_pos hx]
    · rw [if_neg h9, if_neg h9]
  rw [hf]
  rfl
theorem kw_pnAF {cI cT cS : ClassId} {ad : Nat → Nat} {S : kw_S} {j : Nat} : va_up (kw_C cI cT cS ad S) 5 (.inl (cS, 6, .inr (.inr (.inr (.inr (va_up (fun j => kw_rE ad (S.2 5 0 j)) j (none))))))) = kw_C cI cT cS ad (kw_sn S 5 0 j 32) := by
  refine kw_up (kw_coAF) (fun _ _ _ => rfl) (fun _ _ h9 => kw_sn_ne h9) ?_
  rw [kw_sn_eq]
  have hf : va_up (fun j => kw_rE ad (S.2 5 0 j)) j (none) = fun d => kw_rE ad (if d = j then 32 else S.2 5 0 d) := by
    funext d
    unfold va_up kw_rE
    by_cases h9 : d = j
    · rw [if_pos h9, if_pos h9, if_neg (by decide)]
    · rw [if_neg h9, if_neg h9]
  rw [hf]
  rfl
theorem kw_coAL : kw_co 6 = 6 ∧ kw_ix 6 = 0 := ⟨by decide, by decide⟩
theorem kw_cAL {cI cT cS : ClassId} {ad : Nat → Nat} {S : kw_S} : kw_C cI cT cS ad S 6 = .inl (cS, 32, .inr (.inr (.inr (.inr (fun j => kw_rE ad (S.2 6 0 j)))))) := by
  unfold kw_C
  rw [(kw_coAL).1, (kw_coAL).2]
  rfl
theorem kw_prAL {cI cT cS : ClassId} {ad : Nat → Nat} {S : kw_S} {j : Nat} {x : Nat} (hx : x < 32) : va_up (kw_C cI cT cS ad S) 6 (.inl (cS, 32, .inr (.inr (.inr (.inr (va_up (fun j => kw_rE ad (S.2 6 0 j)) j (some (ad (19 + x))))))))) = kw_C cI cT cS ad (kw_sn S 6 0 j x) := by
  refine kw_up (kw_coAL) (fun _ _ _ => rfl) (fun _ _ h9 => kw_sn_ne h9) ?_
  rw [kw_sn_eq]
  have hf : va_up (fun j => kw_rE ad (S.2 6 0 j)) j (some (ad (19 + x))) = fun d => kw_rE ad (if d = j then x else S.2 6 0 d) := by
    funext d
    unfold va_up kw_rE
    by_cases h9 : d = j
    · rw [if_pos h9, if_pos h9, if_pos hx]
    · rw [if_neg h9, if_neg h9]
  rw [hf]
  rfl
theorem kw_pnAL {cI cT cS : ClassId} {ad : Nat → Nat} {S : kw_S} {j : Nat} : va_up (kw_C cI cT cS ad S) 6 (.inl (cS, 32, .inr (.inr (.inr (.inr (va_up (fun j => kw_rE ad (S.2 6 0 j)) j (none))))))) = kw_C cI cT cS ad (kw_sn S 6 0 j 32) := by
  refine kw_up (kw_coAL) (fun _ _ _ => rfl) (fun _ _ h9 => kw_sn_ne h9) ?_
  rw [kw_sn_eq]
  have hf : va_up (fun j => kw_rE ad (S.2 6 0 j)) j (none) = fun d => kw_rE ad (if d = j then 32 else S.2 6 0 d) := by
    funext d
    unfold va_up kw_rE
    by_cases h9 : d = j
    · rw [if_pos h9, if_pos h9, if_neg (by decide)]
    · rw [if_neg h9, if_neg h9]
  rw [hf]
  rfl
theorem kw_coT {i : Nat} (h : i < 4) : kw_co (7 + i) = 7 ∧ kw_ix (7 + i) = i := ⟨by unfold kw_co; rw [if_neg (by omega), if_neg (by omega), if_neg (by omega), if_neg (by omega), if_neg (by omega), if_neg (by omega), if_neg (by omega), if_pos (by omega)], by unfold kw_ix; rw [if_neg (by omega), if_neg (by omega), if_neg (by omega), if_neg (by omega), if_neg (by omega), if_neg (by omega), if_neg (by omega), if_pos (by omega)]; omega⟩
theorem kw_cT {cI cT cS : ClassId} {ad : Nat → Nat} {S : kw_S} {i : Nat} (h : i < 4) : kw_C cI cT cS ad S (7 + i) = .inr (2, [.ref (ad (11 + i)), .ref (ad (15 + i)), .int (S.1 7 i 0), .int (S.1 7 i 1), .int (kw_pa (S.2 7 i 0)), .int (S.1 7 i 2), .int (S.1 7 i 3), .int (S.1 7 i 4), .int (S.1 7 i 5)]) := by
  unfold kw_C
  rw [(kw_coT h).1, (kw_coT h).2]
  rfl
theorem kw_pT_state {cI cT cS : ClassId} {ad : Nat → Nat} {S : kw_S} {i : Nat} (h : i < 4) {v : Int32} : va_up (kw_C cI cT cS ad S) (7 + i) (.inr (2, [.ref (ad (11 + i)), .ref (ad (15 + i)), .int (S.1 7 i 0), .int (S.1 7 i 1), .int (kw_pa (S.2 7 i 0)), .int (S.1 7 i 2), .int (S.1 7 i 3), .int (S.1 7 i 4), .int (S.1 7 i 5)].set 2 (.int v))) = kw_C cI cT cS ad (kw_si S 7 i 0 v) := by
  refine kw_up (kw_coT h) (fun _ _ h9 => kw_si_ne h9) (fun _ _ _ => rfl) ?_
  rw [kw_si_eq]
  rfl
theorem kw_pT_place {cI cT cS : ClassId} {ad : Nat → Nat} {S : kw_S} {i : Nat} (h : i < 4) {v : Int32} : va_up (kw_C cI cT cS ad S) (7 + i) (.inr (2, [.ref (ad (11 + i)), .ref (ad (15 + i)), .int (S.1 7 i 0), .int (S.1 7 i 1), .int (kw_pa (S.2 7 i 0)), .int (S.1 7 i 2), .int (S.1 7 i 3), .int (S.1 7 i 4), .int (S.1 7 i 5)].set 3 (.int v))) = kw_C cI cT cS ad (kw_si S 7 i 1 v) := by
  refine kw_up (kw_coT h) (fun _ _ h9 => kw_si_ne h9) (fun _ _ _ => rfl) ?_
  rw [kw_si_eq]
  rfl
theorem kw_pT_parent {cI cT cS : ClassId} {ad : Nat → Nat} {S : kw_S} {i : Nat} (h : i < 4) {x : Nat} {v : Int32} (hv : v = kw_pa x) : va_up (kw_C cI cT cS ad S) (7 + i) (.inr (2, [.ref (ad (11 + i)), .ref (ad (15 + i)), .int (S.1 7 i 0), .int (S.1 7 i 1), .int (kw_pa (S.2 7 i 0)), .int (S.1 7 i 2), .int (S.1 7 i 3), .int (S.1 7 i 4), .int (S.1 7 i 5)].set 4 (.int v))) = kw_C cI cT cS ad (kw_sn S 7 i 0 x) := by
  subst hv
  refine kw_up (kw_coT h) (fun _ _ _ => rfl) (fun _ _ h9 => kw_sn_ne h9) ?_
  rw [kw_sn_eq]
  rfl
theorem kw_pT_code {cI cT cS : ClassId} {ad : Nat → Nat} {S : kw_S} {i : Nat} (h : i < 4) {v : Int32} : va_up (kw_C cI cT cS ad S) (7 + i) (.inr (2, [.ref (ad (11 + i)), .ref (ad (15 + i)), .int (S.1 7 i 0), .int (S.1 7 i 1), .int (kw_pa (S.2 7 i 0)), .int (S.1 7 i 2), .int (S.1 7 i 3), .int (S.1 7 i 4), .int (S.1 7 i 5)].set 5 (.int v))) = kw_C cI cT cS ad (kw_si S 7 i 2 v) := by
  refine kw_up (kw_coT h) (fun _ _ h9 => kw_si_ne h9) (fun _ _ _ => rfl) ?_
  rw [kw_si_eq]
  rfl
theorem kw_pT_sleepLeft {cI cT cS : ClassId} {ad : Nat → Nat} {S : kw_S} {i : Nat} (h : i < 4) {v : Int32} : va_up (kw_C cI cT cS ad S) (7 + i) (.inr (2, [.ref (ad (11 + i)), .ref (ad (15 + i)), .int (S.1 7 i 0), .int (S.1 7 i 1), .int (kw_pa (S.2 7 i 0)), .int (S.1 7 i 2), .int (S.1 7 i 3), .int (S.1 7 i 4), .int (S.1 7 i 5)].set 6 (.int v))) = kw_C cI cT cS ad (kw_si S 7 i 3 v) := by
  refine kw_up (kw_coT h) (fun _ _ h9 => kw_si_ne h9) (fun _ _ _ => rfl) ?_
  rw [kw_si_eq]
  rfl
theorem kw_pT_faults {cI cT cS : ClassId} {ad : Nat → Nat} {S : kw_S} {i : Nat} (h : i < 4) {v : Int32} : va_up (kw_C cI cT cS ad S) (7 + i) (.inr (2, [.ref (ad (11 + i)), .ref (ad (15 + i)), .int (S.1 7 i 0), .int (S.1 7 i 1), .int (kw_pa (S.2 7 i 0)), .int (S.1 7 i 2), .int (S.1 7 i 3), .int (S.1 7 i 4), .int (S.1 7 i 5)].set 7 (.int v))) = kw_C cI cT cS ad (kw_si S 7 i 4 v) := by
  refine kw_up (kw_coT h) (fun _ _ h9 => kw_si_ne h9) (fun _ _ _ => rfl) ?_
  rw [kw_si_eq]
  rfl
theorem kw_pT_begun {cI cT cS : ClassId} {ad : Nat → Nat} {S : kw_S} {i : Nat} (h : i < 4) {v : Int32} : va_up (kw_C cI cT cS ad S) (7 + i) (.inr (2, [.ref (ad (11 + i)), .ref (ad (15 + i)), .int (S.1 7 i 0), .int (S.1 7 i 1), .int (kw_pa (S.2 7 i 0)), .int (S.1 7 i 2), .int (S.1 7 i 3), .int (S.1 7 i 4), .int (S.1 7 i 5)].set 8 (.int v))) = kw_C cI cT cS ad (kw_si S 7 i 5 v) := by
  refine kw_up (kw_coT h) (fun _ _ h9 => kw_si_ne h9) (fun _ _ _ => rfl) ?_
  rw [kw_si_eq]
  rfl
theorem kw_coAR {i : Nat} (h : i < 4) : kw_co (11 + i) = 8 ∧ kw_ix (11 + i) = i := ⟨by unfold kw_co; rw [if_neg (by omega), if_neg (by omega), if_neg (by omega), if_neg (by omega), if_neg (by omega), if_neg (by omega), if_neg (by omega), if_neg (by omega), if_pos (by omega)], by unfold kw_ix; rw [if_neg (by omega), if_neg (by omega), if_neg (by omega), if_neg (by omega), if_neg (by omega), if_neg (by omega), if_neg (by omega), if_neg (by omega), if_pos (by omega)]; omega⟩
theorem kw_cAR {cI cT cS : ClassId} {ad : Nat → Nat} {S : kw_S} {i : Nat} (h : i < 4) : kw_C cI cT cS ad S (11 + i) = .inl (cI, 4, .inl (S.1 8 i)) := by
  unfold kw_C
  rw [(kw_coAR h).1, (kw_coAR h).2]
  rfl
theorem kw_pAR {cI cT cS : ClassId} {ad : Nat → Nat} {S : kw_S} {i : Nat} (h : i < 4) {j : Nat} {v : Int32} : va_up (kw_C cI cT cS ad S) (11 + i) (.inl (cI, 4, .inl (upd (S.1 8 i) j v))) = kw_C cI cT cS ad (kw_si S 8 i j v) := by
  refine kw_up (kw_coAR h) (fun _ _ h9 => kw_si_ne h9) (fun _ _ _ => rfl) ?_
  rw [kw_si_eq]
  rfl
theorem kw_pfAR {cI cT cS : ClassId} {ad : Nat → Nat} {S : kw_S} {i : Nat} (h : i < 4) {f : Nat → Int32} : va_up (kw_C cI cT cS ad S) (11 + i) (.inl (cI, 4, .inl f)) = kw_C cI cT cS ad (kw_sr S 8 i f) := by
  refine kw_up (kw_coAR h) (fun _ _ h9 => kw_sr_ne h9) (fun _ _ _ => rfl) ?_
  rw [kw_sr_eq]
  rfl
theorem kw_coAP {i : Nat} (h : i < 4) : kw_co (15 + i) = 9 ∧ kw_ix (15 + i) = i := ⟨by unfold kw_co; rw [if_neg (by omega), if_neg (by omega), if_neg (by omega), if_neg (by omega), if_neg (by omega), if_neg (by omega), if_neg (by omega), if_neg (by omega), if_neg (by omega), if_pos (by omega)], by unfold kw_ix; rw [if_neg (by omega), if_neg (by omega), if_neg (by omega), if_neg (by omega), if_neg (by omega), if_neg (by omega), if_neg (by omega), if_neg (by omega), if_neg (by omega), if_pos (by omega)]; omega⟩
theorem kw_cAP {cI cT cS : ClassId} {ad : Nat → Nat} {S : kw_S} {i : Nat} (h : i < 4) : kw_C cI cT cS ad S (15 + i) = .inl (cS, 8, .inr (.inr (.inr (.inr (fun j => kw_rE ad (S.2 9 i j)))))) := by
  unfold kw_C
  rw [(kw_coAP h).1, (kw_coAP h).2]
  rfl
theorem kw_prAP {cI cT cS : ClassId} {ad : Nat → Nat} {S : kw_S} {i : Nat} (h : i < 4) {j : Nat} {x : Nat} (hx : x < 32) : va_up (kw_C cI cT cS ad S) (15 + i) (.inl (cS, 8, .inr (.inr (.inr (.inr (va_up (fun j => kw_rE ad (S.2 9 i j)) j (some (ad (19 + x))))))))) = kw_C cI cT cS ad (kw_sn S 9 i j x) := by
  refine kw_up (kw_coAP h) (fun _ _ _ => rfl) (fun _ _ h9 => kw_sn_ne h9) ?_
  rw [kw_sn_eq]
  have hf : va_up (fun j => kw_rE ad (S.2 9 i j)) j (some (ad (19 + x))) = fun d => kw_rE ad (if d = j then x else S.2 9 i d) := by
    funext d
    unfold va_up kw_rE
    by_cases h9 : d = j
    · rw [if_pos h9, if_pos h9, if_pos hx]
    · rw [if_neg h9, if_neg h9]
  rw [hf]
  rfl
theorem kw_pnAP {cI cT cS : ClassId} {ad : Nat → Nat} {S : kw_S} {i : Nat} (h : i < 4) {j : Nat} : va_up (kw_C cI cT cS ad S) (15 + i) (.inl (cS, 8, .inr (.inr (.inr (.inr (va_up (fun j => kw_rE ad (S.2 9 i j)) j (none))))))) = kw_C cI cT cS ad (kw_sn S 9 i j 32) := by
  refine kw_up (kw_coAP h) (fun _ _ _ => rfl) (fun _ _ h9 => kw_sn_ne h9) ?_
  rw [kw_sn_eq]
  have hf : va_up (fun j => kw_rE ad (S.2 9 i j)) j (none) = fun d => kw_rE ad (if d = j then 32 else S.2 9 i d) := by
    funext d
    unfold va_up kw_rE
    by_cases h9 : d = j
    · rw [if_pos h9, if_pos h9, if_neg (by decide)]
    · rw [if_neg h9, if_neg h9]
  rw [hf]
  rfl
theorem kw_coE {i : Nat} (h : i < 32) : kw_co (19 + i) = 10 ∧ kw_ix (19 + i) = i := ⟨by unfold kw_co; rw [if_neg (by omega), if_neg (by omega), if_neg (by omega), if_neg (by omega), if_neg (by omega), if_neg (by omega), if_neg (by omega), if_neg (by omega), if_neg (by omega), if_neg (by omega), if_pos (by omega)], by unfold kw_ix; rw [if_neg (by omega), if_neg (by omega), if_neg (by omega), if_neg (by omega), if_neg (by omega), if_neg (by omega), if_neg (by omega), if_neg (by omega), if_neg (by omega), if_neg (by omega), if_pos (by omega)]; omega⟩
theorem kw_cE {cI cT cS : ClassId} {ad : Nat → Nat} {S : kw_S} {i : Nat} (h : i < 32) : kw_C cI cT cS ad S (19 + i) = .inr (3, [.ref (ad (51 + i)), .int (S.1 10 i 0), .int (kw_fr (S.2 10 i 0)), .int (kw_sl (S.2 10 i 1)), .int (S.1 10 i 1), .int (S.1 10 i 2)]) := by
  unfold kw_C
  rw [(kw_coE h).1, (kw_coE h).2]
  rfl
theorem kw_pE_owners {cI cT cS : ClassId} {ad : Nat → Nat} {S : kw_S} {i : Nat} (h : i < 32) {v : Int32} : va_up (kw_C cI cT cS ad S) (19 + i) (.inr (3, [.ref (ad (51 + i)), .int (S.1 10 i 0), .int (kw_fr (S.2 10 i 0)), .int (kw_sl (S.2 10 i 1)), .int (S.1 10 i 1), .int (S.1 10 i 2)].set 1 (.int v))) = kw_C cI cT cS ad (kw_si S 10 i 0 v) := by
  refine kw_up (kw_coE h) (fun _ _ h9 => kw_si_ne h9) (fun _ _ _ => rfl) ?_
  rw [kw_si_eq]
  rfl
theorem kw_pE_frame {cI cT cS : ClassId} {ad : Nat → Nat} {S : kw_S} {i : Nat} (h : i < 32) {x : Nat} {v : Int32} (hv : v = kw_fr x) : va_up (kw_C cI cT cS ad S) (19 + i) (.inr (3, [.ref (ad (51 + i)), .int (S.1 10 i 0), .int (kw_fr (S.2 10 i 0)), .int (kw_sl (S.2 10 i 1)), .int (S.1 10 i 1), .int (S.1 10 i 2)].set 2 (.int v))) = kw_C cI cT cS ad (kw_sn S 10 i 0 x) := by
  subst hv
  refine kw_up (kw_coE h) (fun _ _ _ => rfl) (fun _ _ h9 => kw_sn_ne h9) ?_
  rw [kw_sn_eq]
  rfl
theorem kw_pE_slot {cI cT cS : ClassId} {ad : Nat → Nat} {S : kw_S} {i : Nat} (h : i < 32) {x : Nat} {v : Int32} (hv : v = kw_sl x) : va_up (kw_C cI cT cS ad S) (19 + i) (.inr (3, [.ref (ad (51 + i)), .int (S.1 10 i 0), .int (kw_fr (S.2 10 i 0)), .int (kw_sl (S.2 10 i 1)), .int (S.1 10 i 1), .int (S.1 10 i 2)].set 3 (.int v))) = kw_C cI cT cS ad (kw_sn S 10 i 1 x) := by
  subst hv
  refine kw_up (kw_coE h) (fun _ _ _ => rfl) (fun _ _ h9 => kw_sn_ne h9) ?_
  rw [kw_sn_eq]
  rfl
theorem kw_pE_used {cI cT cS : ClassId} {ad : Nat → Nat} {S : kw_S} {i : Nat} (h : i < 32) {v : Int32} : va_up (kw_C cI cT cS ad S) (19 + i) (.inr (3, [.ref (ad (51 + i)), .int (S.1 10 i 0), .int (kw_fr (S.2 10 i 0)), .int (kw_sl (S.2 10 i 1)), .int (S.1 10 i 1), .int (S.1 10 i 2)].set 4 (.int v))) = kw_C cI cT cS ad (kw_si S 10 i 1 v) := by
  refine kw_up (kw_coE h) (fun _ _ h9 => kw_si_ne h9) (fun _ _ _ => rfl) ?_
  rw [kw_si_eq]
  rfl
theorem kw_pE_changed {cI cT cS : ClassId} {ad : Nat → Nat} {S : kw_S} {i : Nat} (h : i < 32) {v : Int32} : va_up (kw_C cI cT cS ad S) (19 + i) (.inr (3, [.ref (ad (51 + i)), .int (S.1 10 i 0), .int (kw_fr (S.2 10 i 0)), .int (kw_sl (S.2 10 i 1)), .int (S.1 10 i 1), .int (S.1 10 i 2)].set 5 (.int v))) = kw_C cI cT cS ad (kw_si S 10 i 2 v) := by
  refine kw_up (kw_coE h) (fun _ _ h9 => kw_si_ne h9) (fun _ _ _ => rfl) ?_
  rw [kw_si_eq]
  rfl
theorem kw_coAW {i : Nat} (h : i < 32) : kw_co (51 + i) = 11 ∧ kw_ix (51 + i) = i := ⟨by unfold kw_co; rw [if_neg (by omega), if_neg (by omega), if_neg (by omega), if_neg (by omega), if_neg (by omega), if_neg (by omega), if_neg (by omega), if_neg (by omega), if_neg (by omega), if_neg (by omega), if_neg (by omega)], by unfold kw_ix; rw [if_neg (by omega), if_neg (by omega), if_neg (by omega), if_neg (by omega), if_neg (by omega), if_neg (by omega), if_neg (by omega), if_neg (by omega), if_neg (by omega), if_neg (by omega), if_neg (by omega)]; omega⟩
theorem kw_cAW {cI cT cS : ClassId} {ad : Nat → Nat} {S : kw_S} {i : Nat} (h : i < 32) : kw_C cI cT cS ad S (51 + i) = .inl (cI, 8, .inl (S.1 11 i)) := by
  unfold kw_C
  rw [(kw_coAW h).1, (kw_coAW h).2]
  rfl
theorem kw_pAW {cI cT cS : ClassId} {ad : Nat → Nat} {S : kw_S} {i : Nat} (h : i < 32) {j : Nat} {v : Int32} : va_up (kw_C cI cT cS ad S) (51 + i) (.inl (cI, 8, .inl (upd (S.1 11 i) j v))) = kw_C cI cT cS ad (kw_si S 11 i j v) := by
  refine kw_up (kw_coAW h) (fun _ _ h9 => kw_si_ne h9) (fun _ _ _ => rfl) ?_
  rw [kw_si_eq]
  rfl
theorem kw_pfAW {cI cT cS : ClassId} {ad : Nat → Nat} {S : kw_S} {i : Nat} (h : i < 32) {f : Nat → Int32} : va_up (kw_C cI cT cS ad S) (51 + i) (.inl (cI, 8, .inl f)) = kw_C cI cT cS ad (kw_sr S 11 i f) := by
  refine kw_up (kw_coAW h) (fun _ _ h9 => kw_sr_ne h9) (fun _ _ _ => rfl) ?_
  rw [kw_sr_eq]
  rfl
theorem kw_nnE {ad : Nat → Nat} {x : Nat} (h : x < 32) : va_rf (kw_rE ad x) = .ref (ad (19 + x)) := by
  unfold kw_rE
  rw [if_pos h]
  rfl
theorem kw_caseE {p : Program} {l : Launch} {e : Env} {R : Room} {s : State} {m : MethodId} {args : Array Value} {below : List Frame} {meth : Method} {c : Code} {H : Heap} {locs : List Loc} {cells slots : Nat} {Q : State → Prop} {pc : Nat} {ls : Array Slot} {rest : List Value} {ad : Nat → Nat} {x : Nat} (h1 : x < 32 → W p l e R s m args below meth c H locs cells slots Q (F0 m pc ls (.ref (ad (19 + x)) :: rest))) (h2 : ¬ x < 32 → W p l e R s m args below meth c H locs cells slots Q (F0 m pc ls (.null :: rest))) : W p l e R s m args below meth c H locs cells slots Q (F0 m pc ls (va_rf (kw_rE ad x) :: rest)) := by
  unfold kw_rE
  by_cases h : x < 32
  · rw [if_pos h]
    exact h1 h
  · rw [if_neg h]
    exact h2 h
end
section
theorem kq_bool {x : Int32} (h : x = 0 ∨ x = 1) : narrow .boolean (.int x) = .int x := by
  rcases h with rfl | rfl <;> rfl
def k_K_isTask (p : Int32) : Int32 :=
  if p < 0 then
    (0 : Int32)
  else
    if (4 : Int32) ≤ p then
      (0 : Int32)
    else
      (1 : Int32)
set_option maxHeartbeats 4000000 in
set_option maxRecDepth 100000 in
theorem c_K_isTask {l : Launch} {D : va_G} {cI cT cS : ClassId} {ad : Nat → Nat} (hinj : wl_inj 83 ad) (S0 : kw_S) (p : Int32) : wl_Mi l y_K_isTask (Cond.code y_K_isTask b_K_isTask 1 (some .boolean) :: TT) (rm_ 0) D classes (kw_ty cI cT cS) 83 ad [.int p] (kw_C cI cT cS ad S0) (k_K_isTask p) (kw_C cI cT cS ad S0) := by
  intro sz
  refine wl_enter (own := R_K) rfl (by decide) (Nat.le_of_ble_eq_true rfl) hinj (fun p_ e_ s_ m_ below meth c_ ls hsz X hml hr hlocks hl hP hS => ?_)
  have hx := X.1
  have hb := X.2.1
  have hA : ∀ q, s_.heap.size ≤ q → (wl_A 83 ad s_.heap.size) q := fun q h => Or.inr h
  have hl : lv_has ls 1 [(0, .int p)] := hl
  refine lv_iload_n hx hb d_K_isTask_0 rfl (lv_at hl 0 rfl) ?_
  refine lv_if_lt (tgt := 13) hx hb d_K_isTask_1 (by decide) (fun c1 => ?_) (fun c1 => ?_)
  · skip
    refine lv_iconst (v := 0) hx hb d_K_isTask_13 (by decide) ?_
    have hE : k_K_isTask p = (0 : Int32) := by
      exact ((if_pos c1).trans rfl)
    rw [hE]
    exact wl_zret X hsz hr hlocks (kq_bool (Or.inl rfl)) hP hS d_K_isTask_14
  · skip
    refine lv_iload_n hx hb d_K_isTask_4 rfl (lv_at hl 0 rfl) ?_
    refine lv_iconst (v := 4) hx hb d_K_isTask_5 (by decide) ?_
    refine lv_icmp_ge (tgt := 13) hx hb d_K_isTask_6 (by decide) (fun c2 => ?_) (fun c2 => ?_)
    · skip
      refine lv_iconst (v := 0) hx hb d_K_isTask_13 (by decide) ?_
      have hE : k_K_isTask p = (0 : Int32) := by
        exact ((if_neg c1).trans ((if_pos c2).trans rfl))
      rw [hE]
      exact wl_zret X hsz hr hlocks (kq_bool (Or.inl rfl)) hP hS d_K_isTask_14
    · skip
      refine lv_iconst (v := 1) hx hb d_K_isTask_9 (by decide) ?_
      refine lv_goto (tgt := 14) hx hb d_K_isTask_10 (by decide) ?_
      have hE : k_K_isTask p = (1 : Int32) := by
        exact ((if_neg c1).trans ((if_neg c2).trans rfl))
      rw [hE]
      exact wl_zret X hsz hr hlocks (kq_bool (Or.inr rfl)) hP hS d_K_isTask_14
def k_K_isAddress (a : Int32) : Int32 :=
  if a < 0 then
    (0 : Int32)
  else
    if (64 : Int32) ≤ a then
      (0 : Int32)
    else
      (1 : Int32)
set_option maxHeartbeats 4000000 in
set_option maxRecDepth 100000 in
theorem c_K_isAddress {l : Launch} {D : va_G} {cI cT cS : ClassId} {ad : Nat → Nat} (hinj : wl_inj 83 ad) (S0 : kw_S) (a : Int32) : wl_Mi l y_K_isAddress (Cond.code y_K_isAddress b_K_isAddress 1 (some .boolean) :: TT) (rm_ 0) D classes (kw_ty cI cT cS) 83 ad [.int a] (kw_C cI cT cS ad S0) (k_K_isAddress a) (kw_C cI cT cS ad S0) := by
  intro sz
  refine wl_enter (own := R_K) rfl (by decide) (Nat.le_of_ble_eq_true rfl) hinj (fun p_ e_ s_ m_ below meth c_ ls hsz X hml hr hlocks hl hP hS => ?_)
  have hx := X.1
  have hb := X.2.1
  have hA : ∀ q, s_.heap.size ≤ q → (wl_A 83 ad s_.heap.size) q := fun q h => Or.inr h
  have hl : lv_has ls 1 [(0, .int a)] := hl
  refine lv_iload_n hx hb d_K_isAddress_0 rfl (lv_at hl 0 rfl) ?_
  refine lv_if_lt (tgt := 14) hx hb d_K_isAddress_1 (by decide) (fun c1 => ?_) (fun c1 => ?_)
  · skip
    refine lv_iconst (v := 0) hx hb d_K_isAddress_14 (by decide) ?_
    have hE : k_K_isAddress a = (0 : Int32) := by
      exact ((if_pos c1).trans rfl)
    rw [hE]
    exact wl_zret X hsz hr hlocks (kq_bool (Or.inl rfl)) hP hS d_K_isAddress_15
  · skip
    refine lv_iload_n hx hb d_K_isAddress_4 rfl (lv_at hl 0 rfl) ?_
    refine lv_bipush (v := 64) hx hb d_K_isAddress_5 (by decide) ?_
    refine lv_icmp_ge (tgt := 14) hx hb d_K_isAddress_7 (by decide) (fun c2 => ?_) (fun c2 => ?_)
    · skip
      refine lv_iconst (v := 0) hx hb d_K_isAddress_14 (by decide) ?_
      have hE : k_K_isAddress a = (0 : Int32) := by
        exact ((if_neg c1).trans ((if_pos c2).trans rfl))
      rw [hE]
      exact wl_zret X hsz hr hlocks (kq_bool (Or.inl rfl)) hP hS d_K_isAddress_15
    · skip
      refine lv_iconst (v := 1) hx hb d_K_isAddress_10 (by decide) ?_
      refine lv_goto (tgt := 15) hx hb d_K_isAddress_11 (by decide) ?_
      have hE : k_K_isAddress a = (1 : Int32) := by
        exact ((if_neg c1).trans ((if_neg c2).trans rfl))
      rw [hE]
      exact wl_zret X hsz hr hlocks (kq_bool (Or.inr rfl)) hP hS d_K_isAddress_15
theorem kq_isTask {p : Int32} (h : ¬ k_K_isTask p = 0) : p = nI p.toNatClampNeg ∧ p.toNatClampNeg < 4 := by
  unfold k_K_isTask at h
  by_cases h0 : p < 0
  · rw [if_pos h0] at h
    exact absurd rfl h
  · rw [if_neg h0] at h
    by_cases h1 : (4 : Int32) ≤ p
    · rw [if_pos h1] at h
      exact absurd rfl h
    · exact sk_rng 4 h0 h1 (by decide)
theorem kq_isAddress {p : Int32} (h : ¬ k_K_isAddress p = 0) : p = nI p.toNatClampNeg ∧ p.toNatClampNeg < 64 := by
  unfold k_K_isAddress at h
  by_cases h0 : p < 0
  · rw [if_pos h0] at h
    exact absurd rfl h
  · rw [if_neg h0] at h
    by_cases h1 : (64 : Int32) ≤ p
    · rw [if_pos h1] at h
      exact absurd rfl h
    · exact sk_rng 64 h0 h1 (by decide)
def k_K_isThere (S0 : kw_S) (p : Int32) : Int32 :=
  let r1 := k_K_isTask p
  if r1 = 0 then
    (0 : Int32)
  else
    if (S0.1 7 p.toNatClampNeg 0) = 0 then
      (0 : Int32)
    else
      (1 : Int32)
set_option maxHeartbeats 4000000 in
set_option maxRecDepth 100000 in
theorem c_K_isThere {l : Launch} {D : va_G} {cI cT cS : ClassId} {ad : Nat → Nat} (hinj : wl_inj 83 ad) (S0 : kw_S) (p : Int32) : wl_Mi l y_K_isThere (Cond.code y_K_isThere b_K_isThere 2 (some .boolean) :: TT) (rm_ 1) D classes (kw_ty cI cT cS) 83 ad [.ref (ad 0), .int p] (kw_C cI cT cS ad S0) (k_K_isThere S0 p) (kw_C cI cT cS ad S0) := by
  intro sz
  refine wl_enter (own := R_K) rfl (by decide) (Nat.le_of_ble_eq_true rfl) hinj (fun p_ e_ s_ m_ below meth c_ ls hsz X hml hr hlocks hl hP hS => ?_)
  have hx := X.1
  have hb := X.2.1
  have hA : ∀ q, s_.heap.size ≤ q → (wl_A 83 ad s_.heap.size) q := fun q h => Or.inr h
  have hl : lv_has ls 2 [(0, .ref (ad 0)), (1, .int p)] := hl
  refine lv_iload_n hx hb d_K_isThere_0 rfl (lv_at hl 1 rfl) ?_
  refine wl_goi1 (cf := kw_C cI cT cS ad) (r := k_K_isTask p) hS hA X.2.2.2.2.2.2 (wl_runS (As := [.int p]) (rest := []) X hml hl.1 hP g_TT (c_K_isTask hinj S0 p _) wv_K_82 (na := 1) (by decide +kernel) rfl ⟨Nat.le_of_ble_eq_true rfl, Nat.le_of_ble_eq_true rfl⟩ rfl (Nat.le_of_ble_eq_true rfl) d_K_isThere_1 ⟨Nat.le_refl _, Nat.le_refl _⟩) (fun r1 er1 H locs hP hS => ?_)
  refine lv_if_eq (tgt := 23) hx hb d_K_isThere_4 (by decide) (fun c2 => ?_) (fun c2 => ?_)
  · skip
    refine lv_iconst (v := 0) hx hb d_K_isThere_23 (by decide) ?_
    have hE : k_K_isThere S0 p = (0 : Int32) := by
      subst er1
      exact ((if_pos c2).trans rfl)
    rw [hE]
    exact wl_zret X hsz hr hlocks (kq_bool (Or.inl rfl)) hP hS d_K_isThere_24
  · skip
    obtain ⟨hp1, hp2⟩ := kq_isTask (fun h => c2 (er1.trans h))
    refine lv_aload_n hx hb d_K_isThere_7 rfl (lv_at hl 0 rfl) ?_
    refine wl_get (v := .ref (ad 1)) X hP (i := 0) (by decide) (kw_cK ) rfl i_K 0 (by decide) lf_K_11 rfl d_K_isThere_8 ?_
    refine lv_iload_n hx hb d_K_isThere_11 rfl (lv_at hl 1 rfl) ?_
    refine wl_aald X hP (i := 1) (by decide) 1 (kw_cAT ) rfl (j := p.toNatClampNeg) hp1 hp2 (by decide) d_K_isThere_12 ?_
    refine wl_topv (y := .ref (ad (7 + p.toNatClampNeg))) rfl ?_
    refine wl_get (v := .int (S0.1 7 p.toNatClampNeg 0)) X hP (i := (7 + p.toNatClampNeg)) (by omega) (kw_cT (by omega)) rfl i_T 2 (by decide) lf_K_85 rfl d_K_isThere_13 ?_
    refine lv_if_eq (tgt := 23) hx hb d_K_isThere_16 (by decide) (fun c3 => ?_) (fun c3 => ?_)
    · skip
      refine lv_iconst (v := 0) hx hb d_K_isThere_23 (by decide) ?_
      have hE : k_K_isThere S0 p = (0 : Int32) := by
        subst er1
        exact ((if_neg c2).trans ((if_pos c3).trans rfl))
      rw [hE]
      exact wl_zret X hsz hr hlocks (kq_bool (Or.inl rfl)) hP hS d_K_isThere_24
    · skip
      refine lv_iconst (v := 1) hx hb d_K_isThere_19 (by decide) ?_
      refine lv_goto (tgt := 24) hx hb d_K_isThere_20 (by decide) ?_
      have hE : k_K_isThere S0 p = (1 : Int32) := by
        subst er1
        exact ((if_neg c2).trans ((if_neg c3).trans rfl))
      rw [hE]
      exact wl_zret X hsz hr hlocks (kq_bool (Or.inr rfl)) hP hS d_K_isThere_24
theorem kq_isThere {S : kw_S} {p : Int32} (h : ¬ k_K_isThere S p = 0) : p = nI p.toNatClampNeg ∧ p.toNatClampNeg < 4 := by
  unfold k_K_isThere at h
  by_cases h0 : k_K_isTask p = 0
  · exact absurd (if_pos h0) h
  · exact kq_isTask h0
def k_K_lives (S0 : kw_S) (p : Int32) : Int32 :=
  let r1 := k_K_isThere S0 p
  if r1 = 0 then
    (0 : Int32)
  else
    if (S0.1 7 p.toNatClampNeg 0) = (4 : Int32) then
      (0 : Int32)
    else
      (1 : Int32)
set_option maxHeartbeats 4000000 in
set_option maxRecDepth 100000 in
theorem c_K_lives {l : Launch} {D : va_G} {cI cT cS : ClassId} {ad : Nat → Nat} (hinj : wl_inj 83 ad) (S0 : kw_S) (p : Int32) : wl_Mi l y_K_lives (Cond.code y_K_lives b_K_lives 2 (some .boolean) :: TT) (rm_ 2) D classes (kw_ty cI cT cS) 83 ad [.ref (ad 0), .int p] (kw_C cI cT cS ad S0) (k_K_lives S0 p) (kw_C cI cT cS ad S0) := by
  intro sz
  refine wl_enter (own := R_K) rfl (by decide) (Nat.le_of_ble_eq_true rfl) hinj (fun p_ e_ s_ m_ below meth c_ ls hsz X hml hr hlocks hl hP hS => ?_)
  have hx := X.1
  have hb := X.2.1
  have hA : ∀ q, s_.heap.size ≤ q → (wl_A 83 ad s_.heap.size) q := fun q h => Or.inr h
  have hl : lv_has ls 2 [(0, .ref (ad 0)), (1, .int p)] := hl
  refine lv_aload_n hx hb d_K_lives_0 rfl (lv_at hl 0 rfl) ?_
  refine lv_iload_n hx hb d_K_lives_1 rfl (lv_at hl 1 rfl) ?_
  refine wl_goi1 (cf := kw_C cI cT cS ad) (r := k_K_isThere S0 p) hS hA X.2.2.2.2.2.2 (wl_runV (As := [.int p]) (rest := []) X hml hl.1 hP g_TT (c_K_isThere hinj S0 p _) (by decide) (kw_cK ) rfl wv_K_95 (na := 1) (by decide +kernel) rfl ⟨Nat.le_of_ble_eq_true rfl, Nat.le_of_ble_eq_true rfl⟩ rfl (Nat.le_of_ble_eq_true rfl) d_K_lives_2 ⟨Nat.le_refl _, Nat.le_refl _⟩) (fun r1 er1 H locs hP hS => ?_)
  refine lv_if_eq (tgt := 25) hx hb d_K_lives_5 (by decide) (fun c2 => ?_) (fun c2 => ?_)
  · skip
    refine lv_iconst (v := 0) hx hb d_K_lives_25 (by decide) ?_
    have hE : k_K_lives S0 p = (0 : Int32) := by
      subst er1
      exact ((if_pos c2).trans rfl)
    rw [hE]
    exact wl_zret X hsz hr hlocks (kq_bool (Or.inl rfl)) hP hS d_K_lives_26
  · skip
    obtain ⟨hp1, hp2⟩ := kq_isThere (fun h => c2 (er1.trans h))
    refine lv_aload_n hx hb d_K_lives_8 rfl (lv_at hl 0 rfl) ?_
    refine wl_get (v := .ref (ad 1)) X hP (i := 0) (by decide) (kw_cK ) rfl i_K 0 (by decide) lf_K_11 rfl d_K_lives_9 ?_
    refine lv_iload_n hx hb d_K_lives_12 rfl (lv_at hl 1 rfl) ?_
    refine wl_aald X hP (i := 1) (by decide) 1 (kw_cAT ) rfl (j := p.toNatClampNeg) hp1 hp2 (by decide) d_K_lives_13 ?_
    refine wl_topv (y := .ref (ad (7 + p.toNatClampNeg))) rfl ?_
    refine wl_get (v := .int (S0.1 7 p.toNatClampNeg 0)) X hP (i := (7 + p.toNatClampNeg)) (by omega) (kw_cT (by omega)) rfl i_T 2 (by decide) lf_K_85 rfl d_K_lives_14 ?_
    refine lv_iconst (v := 4) hx hb d_K_lives_17 (by decide) ?_
    refine lv_icmp_eq (tgt := 25) hx hb d_K_lives_18 (by decide) (fun c3 => ?_) (fun c3 => ?_)
    · skip
      refine lv_iconst (v := 0) hx hb d_K_lives_25 (by decide) ?_
      have hE : k_K_lives S0 p = (0 : Int32) := by
        subst er1
        exact ((if_neg c2).trans ((if_pos c3).trans rfl))
      rw [hE]
      exact wl_zret X hsz hr hlocks (kq_bool (Or.inl rfl)) hP hS d_K_lives_26
    · skip
      refine lv_iconst (v := 1) hx hb d_K_lives_21 (by decide) ?_
      refine lv_goto (tgt := 26) hx hb d_K_lives_22 (by decide) ?_
      have hE : k_K_lives S0 p = (1 : Int32) := by
        subst er1
        exact ((if_neg c2).trans ((if_neg c3).trans rfl))
      rw [hE]
      exact wl_zret X hsz hr hlocks (kq_bool (Or.inr rfl)) hP hS d_K_lives_26
theorem kq_lives {S : kw_S} {p : Int32} (h : ¬ k_K_lives S p = 0) : p = nI p.toNatClampNeg ∧ p.toNatClampNeg < 4 := by
  unfold k_K_lives at h
  by_cases h0 : k_K_isThere S p = 0
  · exact absurd (if_pos h0) h
  · exact kq_isThere h0
def k_K_leastAbsent_L2 : Nat → Nat → kw_S → Int32
  | 0, i, S0 =>
    (-2 : Int32)
  | i_n + 1, i, S0 =>
    if (S0.1 7 i 0) = 0 then
      nI i
    else
      k_K_leastAbsent_L2 i_n (i + 1) S0
set_option maxHeartbeats 4000000 in
set_option maxRecDepth 100000 in
theorem c_K_leastAbsent_L2 {l : Launch} {D : va_G} {cI cT cS : ClassId} {ad : Nat → Nat} {p_ : Program} {e_ : Env} {s_ : State} {m_ : MethodId} {args : Array Value} {below : List Frame} {meth : Method} {c_ : Code} {sz : Nat} (hinj : wl_inj 83 ad) (X : wl_X p_ s_ m_ args c_ b_K_leastAbsent R_K TT D classes (kw_ty cI cT cS) 83 ad (wl_A 83 ad s_.heap.size)) (hsz : s_.heap.size = sz) (hml : c_.maxLocals = 2) (hr : meth.sig.returnType = some .int) (hlocks : meth.locks = false) :
    ∀ (i_n i : Nat) (S0 : kw_S) (h_i : i + i_n = 4) (H : Heap) (locs : List Loc) (ls : Array Slot), lv_has ls 2 [(0, .ref (ad 0)), (1, .int (nI i))] → va_P D classes (wl_W 83 ad (kw_C cI cT cS ad S0)) H → va_S (wl_A 83 ad s_.heap.size) s_.heap H locs → W p_ l e_ (rm_ 0) s_ m_ args below meth c_ H locs 0 0 (MQ below (wl_Qi D classes (kw_ty cI cT cS) 83 ad (k_K_leastAbsent_L2 i_n i S0) (kw_C cI cT cS ad S0) sz) args s_ 0 0 (wl_A 83 ad sz)) (F0 m_ 2 ls []) := by
  have hx := X.1
  have hb := X.2.1
  have hA : ∀ q, s_.heap.size ≤ q → (wl_A 83 ad s_.heap.size) q := fun q h => Or.inr h
  intro i_n
  induction i_n with
  | zero =>
    intro i S0 h_i H locs ls hl hP hS
    refine lv_iload_n hx hb d_K_leastAbsent_2 rfl (lv_at hl 1 rfl) ?_
    refine lv_iconst (v := 4) hx hb d_K_leastAbsent_3 (by decide) ?_
    refine lv_icmp_ge (tgt := 27) hx hb d_K_leastAbsent_4 (by decide) (fun c1 => ?_) (fun c1 => ?_)
    · skip
      refine lv_bipush (v := -2) hx hb d_K_leastAbsent_27 (by decide) ?_
      have hE : k_K_leastAbsent_L2 0 i S0 = (-2 : Int32) := by
        exact rfl
      rw [hE]
      exact wl_iret X hsz hr hlocks hP hS d_K_leastAbsent_29
    · exact absurd (sk_lhz h_i) c1
  | succ i_n ih =>
    intro i S0 h_i H locs ls hl hP hS
    refine lv_iload_n hx hb d_K_leastAbsent_2 rfl (lv_at hl 1 rfl) ?_
    refine lv_iconst (v := 4) hx hb d_K_leastAbsent_3 (by decide) ?_
    refine lv_icmp_ge (tgt := 27) hx hb d_K_leastAbsent_4 (by decide) (fun c101 => ?_) (fun c101 => ?_)
    · exact absurd c101 (sk_lhs h_i)
    · skip
      refine lv_aload_n hx hb d_K_leastAbsent_7 rfl (lv_at hl 0 rfl) ?_
      refine wl_get (v := .ref (ad 1)) X hP (i := 0) (by decide) (kw_cK ) rfl i_K 0 (by decide) lf_K_11 rfl d_K_leastAbsent_8 ?_
      refine lv_iload_n hx hb d_K_leastAbsent_11 rfl (lv_at hl 1 rfl) ?_
      refine wl_aald X hP (i := 1) (by decide) 1 (kw_cAT ) rfl (j := i) rfl (by omega) (by decide) d_K_leastAbsent_12 ?_
      refine wl_topv (y := .ref (ad (7 + i))) rfl ?_
      refine wl_get (v := .int (S0.1 7 i 0)) X hP (i := (7 + i)) (by omega) (kw_cT (by omega)) rfl i_T 2 (by decide) lf_K_85 rfl d_K_leastAbsent_13 ?_
      refine lv_if_ne (tgt := 21) hx hb d_K_leastAbsent_16 (by decide) (fun c102 => ?_) (fun c102 => ?_)
      · skip
        refine lv_iinc (v := nI (i + 1)) (lv' := [(1, .int (nI (i + 1))), (0, .ref (ad 0))]) hx hb d_K_leastAbsent_21 hl (k := 1) rfl (nI_1 _) (by decide) rfl (fun ls hl => ?_)
        refine lv_goto (tgt := 2) hx hb d_K_leastAbsent_24 (by decide) ?_
        have hE : k_K_leastAbsent_L2 (i_n + 1) i S0 = k_K_leastAbsent_L2 i_n (i + 1) S0 := by
          exact ((if_neg c102).trans rfl)
        rw [hE]
        exact ih (i + 1) S0 (by omega) _ _ _ (lv_sub hl [1, 0] rfl) hP hS
      · skip
        refine lv_iload_n hx hb d_K_leastAbsent_19 rfl (lv_at hl 1 rfl) ?_
        have hE : k_K_leastAbsent_L2 (i_n + 1) i S0 = nI i := by
          exact ((if_pos c102).trans rfl)
        rw [hE]
        exact wl_iret X hsz hr hlocks hP hS d_K_leastAbsent_20
def k_K_leastAbsent (S0 : kw_S) : Int32 :=
  k_K_leastAbsent_L2 4 0 S0
set_option maxHeartbeats 4000000 in
set_option maxRecDepth 100000 in
theorem c_K_leastAbsent {l : Launch} {D : va_G} {cI cT cS : ClassId} {ad : Nat → Nat} (hinj : wl_inj 83 ad) (S0 : kw_S)  : wl_Mi l y_K_leastAbsent (Cond.code y_K_leastAbsent b_K_leastAbsent 2 (some .int) :: TT) (rm_ 0) D classes (kw_ty cI cT cS) 83 ad [.ref (ad 0)] (kw_C cI cT cS ad S0) (k_K_leastAbsent S0) (kw_C cI cT cS ad S0) := by
  intro sz
  refine wl_enter (own := R_K) rfl (by decide) (Nat.le_of_ble_eq_true rfl) hinj (fun p_ e_ s_ m_ below meth c_ ls hsz X hml hr hlocks hl hP hS => ?_)
  have hx := X.1
  have hb := X.2.1
  have hA : ∀ q, s_.heap.size ≤ q → (wl_A 83 ad s_.heap.size) q := fun q h => Or.inr h
  have hl : lv_has ls 2 [(0, .ref (ad 0))] := hl
  refine lv_iconst (v := 0) hx hb d_K_leastAbsent_0 (by decide) ?_
  refine lv_istore_n (lv' := [(1, .int (0 : Int32)), (0, .ref (ad 0))]) hx hb d_K_leastAbsent_1 rfl hl (by decide) rfl (fun ls hl => ?_)
  have hE : k_K_leastAbsent S0 = k_K_leastAbsent_L2 4 0 S0 := by
    exact rfl
  rw [hE]
  exact c_K_leastAbsent_L2 hinj X hsz hml hr hlocks 4 0 S0 (by omega) _ _ _ (lv_sub hl [1, 0] rfl) hP hS
def k_K_presentTasks_L4 : Nat → Nat → Int32 → kw_S → Int32
  | 0, i, n, S0 =>
    n
  | i_n + 1, i, n, S0 =>
    if (S0.1 7 i 0) = 0 then
      k_K_presentTasks_L4 i_n (i + 1) n S0
    else
      let x103 := n + Int32.ofInt (1)
      k_K_presentTasks_L4 i_n (i + 1) x103 S0
set_option maxHeartbeats 4000000 in
set_option maxRecDepth 100000 in
theorem c_K_presentTasks_L4 {l : Launch} {D : va_G} {cI cT cS : ClassId} {ad : Nat → Nat} {p_ : Program} {e_ : Env} {s_ : State} {m_ : MethodId} {args : Array Value} {below : List Frame} {meth : Method} {c_ : Code} {sz : Nat} (hinj : wl_inj 83 ad) (X : wl_X p_ s_ m_ args c_ b_K_presentTasks R_K TT D classes (kw_ty cI cT cS) 83 ad (wl_A 83 ad s_.heap.size)) (hsz : s_.heap.size = sz) (hml : c_.maxLocals = 3) (hr : meth.sig.returnType = some .int) (hlocks : meth.locks = false) :
    ∀ (i_n i : Nat) (n : Int32) (S0 : kw_S) (h_i : i + i_n = 4) (H : Heap) (locs : List Loc) (ls : Array Slot), lv_has ls 3 [(0, .ref (ad 0)), (1, .int n), (2, .int (nI i))] → va_P D classes (wl_W 83 ad (kw_C cI cT cS ad S0)) H → va_S (wl_A 83 ad s_.heap.size) s_.heap H locs → W p_ l e_ (rm_ 0) s_ m_ args below meth c_ H locs 0 0 (MQ below (wl_Qi D classes (kw_ty cI cT cS) 83 ad (k_K_presentTasks_L4 i_n i n S0) (kw_C cI cT cS ad S0) sz) args s_ 0 0 (wl_A 83 ad sz)) (F0 m_ 4 ls []) := by
  have hx := X.1
  have hb := X.2.1
  have hA : ∀ q, s_.heap.size ≤ q → (wl_A 83 ad s_.heap.size) q := fun q h => Or.inr h
  intro i_n
  induction i_n with
  | zero =>
    intro i n S0 h_i H locs ls hl hP hS
    refine lv_iload_n hx hb d_K_presentTasks_4 rfl (lv_at hl 2 rfl) ?_
    refine lv_iconst (v := 4) hx hb d_K_presentTasks_5 (by decide) ?_
    refine lv_icmp_ge (tgt := 30) hx hb d_K_presentTasks_6 (by decide) (fun c1 => ?_) (fun c1 => ?_)
    · skip
      refine lv_iload_n hx hb d_K_presentTasks_30 rfl (lv_at hl 1 rfl) ?_
      have hE : k_K_presentTasks_L4 0 i n S0 = n := by
        exact rfl
      rw [hE]
      exact wl_iret X hsz hr hlocks hP hS d_K_presentTasks_31
    · exact absurd (sk_lhz h_i) c1
  | succ i_n ih =>
    intro i n S0 h_i H locs ls hl hP hS
    refine lv_iload_n hx hb d_K_presentTasks_4 rfl (lv_at hl 2 rfl) ?_
    refine lv_iconst (v := 4) hx hb d_K_presentTasks_5 (by decide) ?_
    refine lv_icmp_ge (tgt := 30) hx hb d_K_presentTasks_6 (by decide) (fun c101 => ?_) (fun c101 => ?_)
    · exact absurd c101 (sk_lhs h_i)
    · skip
      refine lv_aload_n hx hb d_K_presentTasks_9 rfl (lv_at hl 0 rfl) ?_
      refine wl_get (v := .ref (ad 1)) X hP (i := 0) (by decide) (kw_cK ) rfl i_K 0 (by decide) lf_K_11 rfl d_K_presentTasks_10 ?_
      refine lv_iload_n hx hb d_K_presentTasks_13 rfl (lv_at hl 2 rfl) ?_
      refine wl_aald X hP (i := 1) (by decide) 1 (kw_cAT ) rfl (j := i) rfl (by omega) (by decide) d_K_presentTasks_14 ?_
      refine wl_topv (y := .ref (ad (7 + i))) rfl ?_
      refine wl_get (v := .int (S0.1 7 i 0)) X hP (i := (7 + i)) (by omega) (kw_cT (by omega)) rfl i_T 2 (by decide) lf_K_85 rfl d_K_presentTasks_15 ?_
      refine lv_if_eq (tgt := 24) hx hb d_K_presentTasks_18 (by decide) (fun c102 => ?_) (fun c102 => ?_)
      · skip
        refine lv_iinc (v := nI (i + 1)) (lv' := [(2, .int (nI (i + 1))), (0, .ref (ad 0)), (1, .int n)]) hx hb d_K_presentTasks_24 hl (k := 2) rfl (nI_1 _) (by decide) rfl (fun ls hl => ?_)
        refine lv_goto (tgt := 4) hx hb d_K_presentTasks_27 (by decide) ?_
        have hE : k_K_presentTasks_L4 (i_n + 1) i n S0 = k_K_presentTasks_L4 i_n (i + 1) n S0 := by
          exact ((if_pos c102).trans rfl)
        rw [hE]
        exact ih (i + 1) n S0 (by omega) _ _ _ (lv_sub hl [1, 2, 0] rfl) hP hS
      · skip
        obtain ⟨x103, ex103⟩ : ∃ z : Int32, z = n + Int32.ofInt (1) := ⟨_, rfl⟩
        refine lv_iinc (v := x103) (lv' := [(1, .int x103), (0, .ref (ad 0)), (2, .int (nI i))]) hx hb d_K_presentTasks_21 hl (k := 1) rfl (ex103.symm) (by decide) rfl (fun ls hl => ?_)
        refine lv_iinc (v := nI (i + 1)) (lv' := [(2, .int (nI (i + 1))), (1, .int x103), (0, .ref (ad 0))]) hx hb d_K_presentTasks_24 hl (k := 2) rfl (nI_1 _) (by decide) rfl (fun ls hl => ?_)
        refine lv_goto (tgt := 4) hx hb d_K_presentTasks_27 (by decide) ?_
        have hE : k_K_presentTasks_L4 (i_n + 1) i n S0 = k_K_presentTasks_L4 i_n (i + 1) x103 S0 := by
          subst ex103
          exact ((if_neg c102).trans rfl)
        rw [hE]
        exact ih (i + 1) x103 S0 (by omega) _ _ _ (lv_sub hl [2, 1, 0] rfl) hP hS
def k_K_presentTasks (S0 : kw_S) : Int32 :=
  k_K_presentTasks_L4 4 0 (0 : Int32) S0
set_option maxHeartbeats 4000000 in
set_option maxRecDepth 100000 in
theorem c_K_presentTasks {l : Launch} {D : va_G} {cI cT cS : ClassId} {ad : Nat → Nat} (hinj : wl_inj 83 ad) (S0 : kw_S)  : wl_Mi l y_K_presentTasks (Cond.code y_K_presentTasks b_K_presentTasks 3 (some .int) :: TT) (rm_ 0) D classes (kw_ty cI cT cS) 83 ad [.ref (ad 0)] (kw_C cI cT cS ad S0) (k_K_presentTasks S0) (kw_C cI cT cS ad S0) := by
  intro sz
  refine wl_enter (own := R_K) rfl (by decide) (Nat.le_of_ble_eq_true rfl) hinj (fun p_ e_ s_ m_ below meth c_ ls hsz X hml hr hlocks hl hP hS => ?_)
  have hx := X.1
  have hb := X.2.1
  have hA : ∀ q, s_.heap.size ≤ q → (wl_A 83 ad s_.heap.size) q := fun q h => Or.inr h
  have hl : lv_has ls 3 [(0, .ref (ad 0))] := hl
  refine lv_iconst (v := 0) hx hb d_K_presentTasks_0 (by decide) ?_
  refine lv_istore_n (lv' := [(1, .int (0 : Int32)), (0, .ref (ad 0))]) hx hb d_K_presentTasks_1 rfl hl (by decide) rfl (fun ls hl => ?_)
  refine lv_iconst (v := 0) hx hb d_K_presentTasks_2 (by decide) ?_
  refine lv_istore_n (lv' := [(2, .int (0 : Int32)), (1, .int (0 : Int32)), (0, .ref (ad 0))]) hx hb d_K_presentTasks_3 rfl hl (by decide) rfl (fun ls hl => ?_)
  have hE : k_K_presentTasks S0 = k_K_presentTasks_L4 4 0 (0 : Int32) S0 := by
    exact rfl
  rw [hE]
  exact c_K_presentTasks_L4 hinj X hsz hml hr hlocks 4 0 (0 : Int32) S0 (by omega) _ _ _ (lv_sub hl [2, 1, 0] rfl) hP hS
def k_K_wakeSleepers_L2 : Nat → Nat → kw_S → kw_S
  | 0, i, S0 =>
    S0
  | i_n + 1, i, S0 =>
    if (S0.1 7 i 0) = (2 : Int32) then
      let S103 := kw_si S0 7 i 3 ((S0.1 7 i 3) - (1 : Int32))
      if (S103.1 7 i 3) = 0 then
        let S105 := kw_si S103 7 i 0 (1 : Int32)
        k_K_wakeSleepers_L2 i_n (i + 1) S105
      else
        k_K_wakeSleepers_L2 i_n (i + 1) S103
    else
      k_K_wakeSleepers_L2 i_n (i + 1) S0
set_option maxHeartbeats 4000000 in
set_option maxRecDepth 100000 in
theorem c_K_wakeSleepers_L2 {l : Launch} {D : va_G} {cI cT cS : ClassId} {ad : Nat → Nat} {p_ : Program} {e_ : Env} {s_ : State} {m_ : MethodId} {args : Array Value} {below : List Frame} {meth : Method} {c_ : Code} {sz : Nat} (hinj : wl_inj 83 ad) (X : wl_X p_ s_ m_ args c_ b_K_wakeSleepers R_K TT D classes (kw_ty cI cT cS) 83 ad (wl_A 83 ad s_.heap.size)) (hsz : s_.heap.size = sz) (hml : c_.maxLocals = 3) (hr : meth.sig.returnType = none) (hlocks : meth.locks = false) :
    ∀ (i_n i : Nat) (S0 : kw_S) (h_i : i + i_n = 4) (H : Heap) (locs : List Loc) (ls : Array Slot), lv_has ls 3 [(0, .ref (ad 0)), (1, .int (nI i))] → va_P D classes (wl_W 83 ad (kw_C cI cT cS ad S0)) H → va_S (wl_A 83 ad s_.heap.size) s_.heap H locs → W p_ l e_ (rm_ 0) s_ m_ args below meth c_ H locs 0 0 (MQ below (wl_Qv D classes (kw_ty cI cT cS) 83 ad (kw_C cI cT cS ad (k_K_wakeSleepers_L2 i_n i S0)) sz) args s_ 0 0 (wl_A 83 ad sz)) (F0 m_ 2 ls []) := by
  have hx := X.1
  have hb := X.2.1
  have hA : ∀ q, s_.heap.size ≤ q → (wl_A 83 ad s_.heap.size) q := fun q h => Or.inr h
  intro i_n
  induction i_n with
  | zero =>
    intro i S0 h_i H locs ls hl hP hS
    refine lv_iload_n hx hb d_K_wakeSleepers_2 rfl (lv_at hl 1 rfl) ?_
    refine lv_iconst (v := 4) hx hb d_K_wakeSleepers_3 (by decide) ?_
    refine lv_icmp_ge (tgt := 50) hx hb d_K_wakeSleepers_4 (by decide) (fun c1 => ?_) (fun c1 => ?_)
    · skip
      have hE : k_K_wakeSleepers_L2 0 i S0 = S0 := by
        exact rfl
      rw [hE]
      exact wl_vret X hsz hr hlocks hP hS d_K_wakeSleepers_50
    · exact absurd (sk_lhz h_i) c1
  | succ i_n ih =>
    intro i S0 h_i H locs ls hl hP hS
    refine lv_iload_n hx hb d_K_wakeSleepers_2 rfl (lv_at hl 1 rfl) ?_
    refine lv_iconst (v := 4) hx hb d_K_wakeSleepers_3 (by decide) ?_
    refine lv_icmp_ge (tgt := 50) hx hb d_K_wakeSleepers_4 (by decide) (fun c101 => ?_) (fun c101 => ?_)
    · exact absurd c101 (sk_lhs h_i)
    · skip
      refine lv_aload_n hx hb d_K_wakeSleepers_7 rfl (lv_at hl 0 rfl) ?_
      refine wl_get (v := .ref (ad 1)) X hP (i := 0) (by decide) (kw_cK ) rfl i_K 0 (by decide) lf_K_11 rfl d_K_wakeSleepers_8 ?_
      refine lv_iload_n hx hb d_K_wakeSleepers_11 rfl (lv_at hl 1 rfl) ?_
      refine wl_aald X hP (i := 1) (by decide) 1 (kw_cAT ) rfl (j := i) rfl (by omega) (by decide) d_K_wakeSleepers_12 ?_
      refine wl_topv (y := .ref (ad (7 + i))) rfl ?_
      refine lv_astore_n (lv' := [(2, .ref (ad (7 + i))), (0, .ref (ad 0)), (1, .int (nI i))]) hx hb d_K_wakeSleepers_13 rfl hl (by decide) rfl (fun ls hl => ?_)
      refine lv_aload_n hx hb d_K_wakeSleepers_14 rfl (lv_at hl 0 rfl) ?_
      refine wl_get (v := .int (S0.1 7 i 0)) X hP (i := (7 + i)) (by omega) (kw_cT (by omega)) rfl i_T 2 (by decide) lf_K_85 rfl d_K_wakeSleepers_15 ?_
      refine lv_iconst (v := 2) hx hb d_K_wakeSleepers_18 (by decide) ?_
      refine lv_icmp_ne (tgt := 44) hx hb d_K_wakeSleepers_19 (by decide) (fun c102 => ?_) (fun c102 => ?_)
      · skip
        refine lv_iinc (v := nI (i + 1)) (lv' := [(1, .int (nI (i + 1))), (2, .ref (ad (7 + i))), (0, .ref (ad 0))]) hx hb d_K_wakeSleepers_44 hl (k := 2) rfl (nI_1 _) (by decide) rfl (fun ls hl => ?_)
        refine lv_goto (tgt := 2) hx hb d_K_wakeSleepers_47 (by decide) ?_
        have hE : k_K_wakeSleepers_L2 (i_n + 1) i S0 = k_K_wakeSleepers_L2 i_n (i + 1) S0 := by
          exact ((if_neg c102).trans rfl)
        rw [hE]
        exact ih (i + 1) S0 (by omega) _ _ _ (lv_sub hl [2, 0] rfl) hP hS
      · skip
        refine lv_aload_n hx hb d_K_wakeSleepers_22 rfl (lv_at hl 0 rfl) ?_
        refine lv_dup hx hb d_K_wakeSleepers_23 rfl ?_
        refine wl_get (v := .int (S0.1 7 i 3)) X hP (i := (7 + i)) (by omega) (kw_cT (by omega)) rfl i_T 6 (by decide) lf_K_133 rfl d_K_wakeSleepers_24 ?_
        refine lv_iconst (v := 1) hx hb d_K_wakeSleepers_27 (by decide) ?_
        refine lv_isub hx hb d_K_wakeSleepers_28 ?_
        refine wl_put X hP hS (i := (7 + i)) (by omega) (kw_cT (by omega)) rfl i_T ft_T ft_T_ok fn_T 6 (by decide) lf_K_133 rfl rfl rfl (Nat.le_of_ble_eq_true rfl) d_K_wakeSleepers_29 (kw_pT_sleepLeft (by omega)) (fun H locs hP hS => ?_)
        obtain ⟨S103, eS103⟩ : ∃ z, z = kw_si S0 7 i 3 ((S0.1 7 i 3) - (1 : Int32)) := ⟨_, rfl⟩
        rw [← eS103] at hP
        refine lv_aload_n hx hb d_K_wakeSleepers_32 rfl (lv_at hl 0 rfl) ?_
        refine wl_get (v := .int (S103.1 7 i 3)) X hP (i := (7 + i)) (by omega) (kw_cT (by omega)) rfl i_T 6 (by decide) lf_K_133 rfl d_K_wakeSleepers_33 ?_
        refine lv_if_ne (tgt := 44) hx hb d_K_wakeSleepers_36 (by decide) (fun c104 => ?_) (fun c104 => ?_)
        · skip
          refine lv_iinc (v := nI (i + 1)) (lv' := [(1, .int (nI (i + 1))), (2, .ref (ad (7 + i))), (0, .ref (ad 0))]) hx hb d_K_wakeSleepers_44 hl (k := 2) rfl (nI_1 _) (by decide) rfl (fun ls hl => ?_)
          refine lv_goto (tgt := 2) hx hb d_K_wakeSleepers_47 (by decide) ?_
          have hE : k_K_wakeSleepers_L2 (i_n + 1) i S0 = k_K_wakeSleepers_L2 i_n (i + 1) S103 := by
            subst eS103
            exact ((if_pos c102).trans ((if_neg c104).trans rfl))
          rw [hE]
          exact ih (i + 1) S103 (by omega) _ _ _ (lv_sub hl [2, 0] rfl) hP hS
        · skip
          refine lv_aload_n hx hb d_K_wakeSleepers_39 rfl (lv_at hl 0 rfl) ?_
          refine lv_iconst (v := 1) hx hb d_K_wakeSleepers_40 (by decide) ?_
          refine wl_put X hP hS (i := (7 + i)) (by omega) (kw_cT (by omega)) rfl i_T ft_T ft_T_ok fn_T 2 (by decide) lf_K_85 rfl rfl rfl (Nat.le_of_ble_eq_true rfl) d_K_wakeSleepers_41 (kw_pT_state (by omega)) (fun H locs hP hS => ?_)
          obtain ⟨S105, eS105⟩ : ∃ z, z = kw_si S103 7 i 0 (1 : Int32) := ⟨_, rfl⟩
          rw [← eS105] at hP
          refine lv_iinc (v := nI (i + 1)) (lv' := [(1, .int (nI (i + 1))), (2, .ref (ad (7 + i))), (0, .ref (ad 0))]) hx hb d_K_wakeSleepers_44 hl (k := 2) rfl (nI_1 _) (by decide) rfl (fun ls hl => ?_)
          refine lv_goto (tgt := 2) hx hb d_K_wakeSleepers_47 (by decide) ?_
          have hE : k_K_wakeSleepers_L2 (i_n + 1) i S0 = k_K_wakeSleepers_L2 i_n (i + 1) S105 := by
            subst eS105
            subst eS103
            exact ((if_pos c102).trans ((if_pos c104).trans rfl))
          rw [hE]
          exact ih (i + 1) S105 (by omega) _ _ _ (lv_sub hl [2, 0] rfl) hP hS
def k_K_wakeSleepers (S0 : kw_S) : kw_S :=
  k_K_wakeSleepers_L2 4 0 S0
set_option maxHeartbeats 4000000 in
set_option maxRecDepth 100000 in
theorem c_K_wakeSleepers {l : Launch} {D : va_G} {cI cT cS : ClassId} {ad : Nat → Nat} (hinj : wl_inj 83 ad) (S0 : kw_S)  : wl_Mv l y_K_wakeSleepers (Cond.code y_K_wakeSleepers b_K_wakeSleepers 3 none :: TT) (rm_ 0) D classes (kw_ty cI cT cS) 83 ad [.ref (ad 0)] (kw_C cI cT cS ad S0)  (kw_C cI cT cS ad (k_K_wakeSleepers S0)) := by
  intro sz
  refine wl_enter (own := R_K) rfl (by decide) (Nat.le_of_ble_eq_true rfl) hinj (fun p_ e_ s_ m_ below meth c_ ls hsz X hml hr hlocks hl hP hS => ?_)
  have hx := X.1
  have hb := X.2.1
  have hA : ∀ q, s_.heap.size ≤ q → (wl_A 83 ad s_.heap.size) q := fun q h => Or.inr h
  have hl : lv_has ls 3 [(0, .ref (ad 0))] := hl
  refine lv_iconst (v := 0) hx hb d_K_wakeSleepers_0 (by decide) ?_
  refine lv_istore_n (lv' := [(1, .int (0 : Int32)), (0, .ref (ad 0))]) hx hb d_K_wakeSleepers_1 rfl hl (by decide) rfl (fun ls hl => ?_)
  have hE : k_K_wakeSleepers S0 = k_K_wakeSleepers_L2 4 0 S0 := by
    exact rfl
  rw [hE]
  exact c_K_wakeSleepers_L2 hinj X hsz hml hr hlocks 4 0 S0 (by omega) _ _ _ (lv_sub hl [1, 0] rfl) hP hS
def k_E_tell (S0 : kw_S) (self : Nat) (w : Int32) : Int32 :=
  if w = (0 : Int32) then
    if (kw_fr (S0.2 10 self 0)) = (-2 : Int32) then
      (2 : Int32)
    else
      (1 : Int32)
  else
    if w = (1 : Int32) then
      kw_fr (S0.2 10 self 0)
    else
      if w = (2 : Int32) then
        kw_sl (S0.2 10 self 1)
      else
        if w = (3 : Int32) then
          if (S0.1 10 self 1) = 0 then
            (0 : Int32)
          else
            (1 : Int32)
        else
          if w = (4 : Int32) then
            if (S0.1 10 self 2) = 0 then
              (0 : Int32)
            else
              (1 : Int32)
          else
            S0.1 10 self 0
set_option maxHeartbeats 4000000 in
set_option maxRecDepth 100000 in
theorem c_E_tell {l : Launch} {D : va_G} {cI cT cS : ClassId} {ad : Nat → Nat} (hinj : wl_inj 83 ad) (S0 : kw_S) (self : Nat) (h_self : self < 32) (w : Int32) : wl_Mi l y_E_tell (Cond.code y_E_tell b_E_tell 2 (some .int) :: TT) (rm_ 0) D classes (kw_ty cI cT cS) 83 ad [.ref (ad (19 + self)), .int w] (kw_C cI cT cS ad S0) (k_E_tell S0 self w) (kw_C cI cT cS ad S0) := by
  intro sz
  refine wl_enter (own := R_E) rfl (by decide) (Nat.le_of_ble_eq_true rfl) hinj (fun p_ e_ s_ m_ below meth c_ ls hsz X hml hr hlocks hl hP hS => ?_)
  have hx := X.1
  have hb := X.2.1
  have hA : ∀ q, s_.heap.size ≤ q → (wl_A 83 ad s_.heap.size) q := fun q h => Or.inr h
  have hl : lv_has ls 2 [(0, .ref (ad (19 + self))), (1, .int w)] := hl
  refine lv_iload_n hx hb d_E_tell_0 rfl (lv_at hl 1 rfl) ?_
  by_cases c1 : w = (0 : Int32)
  · refine wl_top c1 ?_
    refine lv_tableIn (tgt := 36) hx hb d_E_tell_1 (by decide) (by decide) rfl (by decide) ?_
    refine lv_aload_n hx hb d_E_tell_36 rfl (lv_at hl 0 rfl) ?_
    refine wl_get (v := .int (kw_fr (S0.2 10 self 0))) X hP (i := (19 + self)) (by omega) (kw_cE (by omega)) rfl i_E 2 (by decide) lf_E_15 rfl d_E_tell_37 ?_
    refine lv_bipush (v := -2) hx hb d_E_tell_40 (by decide) ?_
    refine lv_icmp_ne (tgt := 49) hx hb d_E_tell_42 (by decide) (fun c2 => ?_) (fun c2 => ?_)
    · skip
      refine lv_iconst (v := 1) hx hb d_E_tell_49 (by decide) ?_
      have hE : k_E_tell S0 self w = (1 : Int32) := by
        exact ((if_pos c1).trans ((if_neg c2).trans rfl))
      rw [hE]
      exact wl_iret X hsz hr hlocks hP hS d_E_tell_50
    · skip
      refine lv_iconst (v := 2) hx hb d_E_tell_45 (by decide) ?_
      refine lv_goto (tgt := 50) hx hb d_E_tell_46 (by decide) ?_
      have hE : k_E_tell S0 self w = (2 : Int32) := by
        exact ((if_pos c1).trans ((if_pos c2).trans rfl))
      rw [hE]
      exact wl_iret X hsz hr hlocks hP hS d_E_tell_50
  by_cases c3 : w = (1 : Int32)
  · refine wl_top c3 ?_
    refine lv_tableIn (tgt := 51) hx hb d_E_tell_1 (by decide) (by decide) rfl (by decide) ?_
    refine lv_aload_n hx hb d_E_tell_51 rfl (lv_at hl 0 rfl) ?_
    refine wl_get (v := .int (kw_fr (S0.2 10 self 0))) X hP (i := (19 + self)) (by omega) (kw_cE (by omega)) rfl i_E 2 (by decide) lf_E_15 rfl d_E_tell_52 ?_
    have hE : k_E_tell S0 self w = kw_fr (S0.2 10 self 0) := by
      exact ((if_neg c1).trans ((if_pos c3).trans rfl))
    rw [hE]
    exact wl_iret X hsz hr hlocks hP hS d_E_tell_55
  by_cases c4 : w = (2 : Int32)
  · refine wl_top c4 ?_
    refine lv_tableIn (tgt := 56) hx hb d_E_tell_1 (by decide) (by decide) rfl (by decide) ?_
    refine lv_aload_n hx hb d_E_tell_56 rfl (lv_at hl 0 rfl) ?_
    refine wl_get (v := .int (kw_sl (S0.2 10 self 1))) X hP (i := (19 + self)) (by omega) (kw_cE (by omega)) rfl i_E 3 (by decide) lf_E_19 rfl d_E_tell_57 ?_
    have hE : k_E_tell S0 self w = kw_sl (S0.2 10 self 1) := by
      exact ((if_neg c1).trans ((if_neg c3).trans ((if_pos c4).trans rfl)))
    rw [hE]
    exact wl_iret X hsz hr hlocks hP hS d_E_tell_60
  by_cases c5 : w = (3 : Int32)
  · refine wl_top c5 ?_
    refine lv_tableIn (tgt := 61) hx hb d_E_tell_1 (by decide) (by decide) rfl (by decide) ?_
    refine lv_aload_n hx hb d_E_tell_61 rfl (lv_at hl 0 rfl) ?_
    refine wl_get (v := .int (S0.1 10 self 1)) X hP (i := (19 + self)) (by omega) (kw_cE (by omega)) rfl i_E 4 (by decide) lf_E_22 rfl d_E_tell_62 ?_
    refine lv_if_eq (tgt := 72) hx hb d_E_tell_65 (by decide) (fun c6 => ?_) (fun c6 => ?_)
    · skip
      refine lv_iconst (v := 0) hx hb d_E_tell_72 (by decide) ?_
      have hE : k_E_tell S0 self w = (0 : Int32) := by
        exact ((if_neg c1).trans ((if_neg c3).trans ((if_neg c4).trans ((if_pos c5).trans ((if_pos c6).trans rfl)))))
      rw [hE]
      exact wl_iret X hsz hr hlocks hP hS d_E_tell_73
    · skip
      refine lv_iconst (v := 1) hx hb d_E_tell_68 (by decide) ?_
      refine lv_goto (tgt := 73) hx hb d_E_tell_69 (by decide) ?_
      have hE : k_E_tell S0 self w = (1 : Int32) := by
        exact ((if_neg c1).trans ((if_neg c3).trans ((if_neg c4).trans ((if_pos c5).trans ((if_neg c6).trans rfl)))))
      rw [hE]
      exact wl_iret X hsz hr hlocks hP hS d_E_tell_73
  by_cases c7 : w = (4 : Int32)
  · refine wl_top c7 ?_
    refine lv_tableIn (tgt := 74) hx hb d_E_tell_1 (by decide) (by decide) rfl (by decide) ?_
    refine lv_aload_n hx hb d_E_tell_74 rfl (lv_at hl 0 rfl) ?_
    refine wl_get (v := .int (S0.1 10 self 2)) X hP (i := (19 + self)) (by omega) (kw_cE (by omega)) rfl i_E 5 (by decide) lf_E_26 rfl d_E_tell_75 ?_
    refine lv_if_eq (tgt := 85) hx hb d_E_tell_78 (by decide) (fun c8 => ?_) (fun c8 => ?_)
    · skip
      refine lv_iconst (v := 0) hx hb d_E_tell_85 (by decide) ?_
      have hE : k_E_tell S0 self w = (0 : Int32) := by
        exact ((if_neg c1).trans ((if_neg c3).trans ((if_neg c4).trans ((if_neg c5).trans ((if_pos c7).trans ((if_pos c8).trans rfl))))))
      rw [hE]
      exact wl_iret X hsz hr hlocks hP hS d_E_tell_86
    · skip
      refine lv_iconst (v := 1) hx hb d_E_tell_81 (by decide) ?_
      refine lv_goto (tgt := 86) hx hb d_E_tell_82 (by decide) ?_
      have hE : k_E_tell S0 self w = (1 : Int32) := by
        exact ((if_neg c1).trans ((if_neg c3).trans ((if_neg c4).trans ((if_neg c5).trans ((if_pos c7).trans ((if_neg c8).trans rfl))))))
      rw [hE]
      exact wl_iret X hsz hr hlocks hP hS d_E_tell_86
  refine lv_tableOut (tgt := 87) hx hb d_E_tell_1 (by have := lv_neT c1 (a := 0) rfl; have := lv_neT c3 (a := 1) rfl; have := lv_neT c4 (a := 2) rfl; have := lv_neT c5 (a := 3) rfl; have := lv_neT c7 (a := 4) rfl; omega) (by decide) ?_
  refine lv_aload_n hx hb d_E_tell_87 rfl (lv_at hl 0 rfl) ?_
  refine wl_get (v := .int (S0.1 10 self 0)) X hP (i := (19 + self)) (by omega) (kw_cE (by omega)) rfl i_E 1 (by decide) lf_E_29 rfl d_E_tell_88 ?_
  have hE : k_E_tell S0 self w = S0.1 10 self 0 := by
    exact ((if_neg c1).trans ((if_neg c3).trans ((if_neg c4).trans ((if_neg c5).trans ((if_neg c7).trans rfl)))))
  rw [hE]
  exact wl_iret X hsz hr hlocks hP hS d_E_tell_91
def k_T_tell (S0 : kw_S) (self : Nat) (w : Int32) : Int32 :=
  if w = (0 : Int32) then
    S0.1 7 self 0
  else
    if w = (1 : Int32) then
      S0.1 7 self 1
    else
      if w = (2 : Int32) then
        kw_pa (S0.2 7 self 0)
      else
        if w = (3 : Int32) then
          S0.1 7 self 2
        else
          if w = (4 : Int32) then
            if (S0.1 7 self 0) = (2 : Int32) then
              S0.1 7 self 3
            else
              (0 : Int32)
          else
            if w = (5 : Int32) then
              S0.1 7 self 4
            else
              S0.1 7 self 5
set_option maxHeartbeats 4000000 in
set_option maxRecDepth 100000 in
theorem c_T_tell {l : Launch} {D : va_G} {cI cT cS : ClassId} {ad : Nat → Nat} (hinj : wl_inj 83 ad) (S0 : kw_S) (self : Nat) (h_self : self < 4) (w : Int32) : wl_Mi l y_T_tell (Cond.code y_T_tell b_T_tell 2 (some .int) :: TT) (rm_ 0) D classes (kw_ty cI cT cS) 83 ad [.ref (ad (7 + self)), .int w] (kw_C cI cT cS ad S0) (k_T_tell S0 self w) (kw_C cI cT cS ad S0) := by
  intro sz
  refine wl_enter (own := R_T) rfl (by decide) (Nat.le_of_ble_eq_true rfl) hinj (fun p_ e_ s_ m_ below meth c_ ls hsz X hml hr hlocks hl hP hS => ?_)
  have hx := X.1
  have hb := X.2.1
  have hA : ∀ q, s_.heap.size ≤ q → (wl_A 83 ad s_.heap.size) q := fun q h => Or.inr h
  have hl : lv_has ls 2 [(0, .ref (ad (7 + self))), (1, .int w)] := hl
  refine lv_iload_n hx hb d_T_tell_0 rfl (lv_at hl 1 rfl) ?_
  by_cases c1 : w = (0 : Int32)
  · refine wl_top c1 ?_
    refine lv_tableIn (tgt := 40) hx hb d_T_tell_1 (by decide) (by decide) rfl (by decide) ?_
    refine lv_aload_n hx hb d_T_tell_40 rfl (lv_at hl 0 rfl) ?_
    refine wl_get (v := .int (S0.1 7 self 0)) X hP (i := (7 + self)) (by omega) (kw_cT (by omega)) rfl i_T 2 (by decide) lf_T_21 rfl d_T_tell_41 ?_
    have hE : k_T_tell S0 self w = S0.1 7 self 0 := by
      exact ((if_pos c1).trans rfl)
    rw [hE]
    exact wl_iret X hsz hr hlocks hP hS d_T_tell_44
  by_cases c2 : w = (1 : Int32)
  · refine wl_top c2 ?_
    refine lv_tableIn (tgt := 45) hx hb d_T_tell_1 (by decide) (by decide) rfl (by decide) ?_
    refine lv_aload_n hx hb d_T_tell_45 rfl (lv_at hl 0 rfl) ?_
    refine wl_get (v := .int (S0.1 7 self 1)) X hP (i := (7 + self)) (by omega) (kw_cT (by omega)) rfl i_T 3 (by decide) lf_T_34 rfl d_T_tell_46 ?_
    have hE : k_T_tell S0 self w = S0.1 7 self 1 := by
      exact ((if_neg c1).trans ((if_pos c2).trans rfl))
    rw [hE]
    exact wl_iret X hsz hr hlocks hP hS d_T_tell_49
  by_cases c3 : w = (2 : Int32)
  · refine wl_top c3 ?_
    refine lv_tableIn (tgt := 50) hx hb d_T_tell_1 (by decide) (by decide) rfl (by decide) ?_
    refine lv_aload_n hx hb d_T_tell_50 rfl (lv_at hl 0 rfl) ?_
    refine wl_get (v := .int (kw_pa (S0.2 7 self 0))) X hP (i := (7 + self)) (by omega) (kw_cT (by omega)) rfl i_T 4 (by decide) lf_T_25 rfl d_T_tell_51 ?_
    have hE : k_T_tell S0 self w = kw_pa (S0.2 7 self 0) := by
      exact ((if_neg c1).trans ((if_neg c2).trans ((if_pos c3).trans rfl)))
    rw [hE]
    exact wl_iret X hsz hr hlocks hP hS d_T_tell_54
  by_cases c4 : w = (3 : Int32)
  · refine wl_top c4 ?_
    refine lv_tableIn (tgt := 55) hx hb d_T_tell_1 (by decide) (by decide) rfl (by decide) ?_
    refine lv_aload_n hx hb d_T_tell_55 rfl (lv_at hl 0 rfl) ?_
    refine wl_get (v := .int (S0.1 7 self 2)) X hP (i := (7 + self)) (by omega) (kw_cT (by omega)) rfl i_T 5 (by decide) lf_T_37 rfl d_T_tell_56 ?_
    have hE : k_T_tell S0 self w = S0.1 7 self 2 := by
      exact ((if_neg c1).trans ((if_neg c2).trans ((if_neg c3).trans ((if_pos c4).trans rfl))))
    rw [hE]
    exact wl_iret X hsz hr hlocks hP hS d_T_tell_59
  by_cases c5 : w = (4 : Int32)
  · refine wl_top c5 ?_
    refine lv_tableIn (tgt := 60) hx hb d_T_tell_1 (by decide) (by decide) rfl (by decide) ?_
    refine lv_aload_n hx hb d_T_tell_60 rfl (lv_at hl 0 rfl) ?_
    refine wl_get (v := .int (S0.1 7 self 0)) X hP (i := (7 + self)) (by omega) (kw_cT (by omega)) rfl i_T 2 (by decide) lf_T_21 rfl d_T_tell_61 ?_
    refine lv_iconst (v := 2) hx hb d_T_tell_64 (by decide) ?_
    refine lv_icmp_ne (tgt := 75) hx hb d_T_tell_65 (by decide) (fun c6 => ?_) (fun c6 => ?_)
    · skip
      refine lv_iconst (v := 0) hx hb d_T_tell_75 (by decide) ?_
      have hE : k_T_tell S0 self w = (0 : Int32) := by
        exact ((if_neg c1).trans ((if_neg c2).trans ((if_neg c3).trans ((if_neg c4).trans ((if_pos c5).trans ((if_neg c6).trans rfl))))))
      rw [hE]
      exact wl_iret X hsz hr hlocks hP hS d_T_tell_76
    · skip
      refine lv_aload_n hx hb d_T_tell_68 rfl (lv_at hl 0 rfl) ?_
      refine wl_get (v := .int (S0.1 7 self 3)) X hP (i := (7 + self)) (by omega) (kw_cT (by omega)) rfl i_T 6 (by decide) lf_T_40 rfl d_T_tell_69 ?_
      refine lv_goto (tgt := 76) hx hb d_T_tell_72 (by decide) ?_
      have hE : k_T_tell S0 self w = S0.1 7 self 3 := by
        exact ((if_neg c1).trans ((if_neg c2).trans ((if_neg c3).trans ((if_neg c4).trans ((if_pos c5).trans ((if_pos c6).trans rfl))))))
      rw [hE]
      exact wl_iret X hsz hr hlocks hP hS d_T_tell_76
  by_cases c7 : w = (5 : Int32)
  · refine wl_top c7 ?_
    refine lv_tableIn (tgt := 77) hx hb d_T_tell_1 (by decide) (by decide) rfl (by decide) ?_
    refine lv_aload_n hx hb d_T_tell_77 rfl (lv_at hl 0 rfl) ?_
    refine wl_get (v := .int (S0.1 7 self 4)) X hP (i := (7 + self)) (by omega) (kw_cT (by omega)) rfl i_T 7 (by decide) lf_T_43 rfl d_T_tell_78 ?_
    have hE : k_T_tell S0 self w = S0.1 7 self 4 := by
      exact ((if_neg c1).trans ((if_neg c2).trans ((if_neg c3).trans ((if_neg c4).trans ((if_neg c5).trans ((if_pos c7).trans rfl))))))
    rw [hE]
    exact wl_iret X hsz hr hlocks hP hS d_T_tell_81
  refine lv_tableOut (tgt := 82) hx hb d_T_tell_1 (by have := lv_neT c1 (a := 0) rfl; have := lv_neT c2 (a := 1) rfl; have := lv_neT c3 (a := 2) rfl; have := lv_neT c4 (a := 3) rfl; have := lv_neT c5 (a := 4) rfl; have := lv_neT c7 (a := 5) rfl; omega) (by decide) ?_
  refine lv_aload_n hx hb d_T_tell_82 rfl (lv_at hl 0 rfl) ?_
  refine wl_get (v := .int (S0.1 7 self 5)) X hP (i := (7 + self)) (by omega) (kw_cT (by omega)) rfl i_T 8 (by decide) lf_T_46 rfl d_T_tell_83 ?_
  have hE : k_T_tell S0 self w = S0.1 7 self 5 := by
    exact ((if_neg c1).trans ((if_neg c2).trans ((if_neg c3).trans ((if_neg c4).trans ((if_neg c5).trans ((if_neg c7).trans rfl))))))
  rw [hE]
  exact wl_iret X hsz hr hlocks hP hS d_T_tell_86
def k_J_fill_AR_L5 : Nat → Nat → Nat → Int32 → kw_S → kw_S
  | 0, i, q, v, S0 =>
    S0
  | i_n + 1, i, q, v, S0 =>
    let S102 := kw_si S0 8 q i v
    k_J_fill_AR_L5 i_n (i + 1) q v S102
set_option maxHeartbeats 4000000 in
set_option maxRecDepth 100000 in
theorem c_J_fill_AR_L5 {l : Launch} {D : va_G} {cI cT cS : ClassId} {ad : Nat → Nat} {p_ : Program} {e_ : Env} {s_ : State} {m_ : MethodId} {args : Array Value} {below : List Frame} {meth : Method} {c_ : Code} {sz : Nat} (hinj : wl_inj 83 ad) (X : wl_X p_ s_ m_ args c_ b_J_fill R_J TT D classes (kw_ty cI cT cS) 83 ad (wl_A 83 ad s_.heap.size)) (hsz : s_.heap.size = sz) (hml : c_.maxLocals = 4) (hr : meth.sig.returnType = none) (hlocks : meth.locks = false) :
    ∀ (i_n i : Nat) (q : Nat) (h_q : q < 4) (v : Int32) (S0 : kw_S) (h_i : i + i_n = 4) (H : Heap) (locs : List Loc) (ls : Array Slot), lv_has ls 4 [(0, .ref (ad (11 + q))), (1, .int v), (2, .int (nI i)), (3, .int (nI 4))] → va_P D classes (wl_W 83 ad (kw_C cI cT cS ad S0)) H → va_S (wl_A 83 ad s_.heap.size) s_.heap H locs → W p_ l e_ (rm_ 0) s_ m_ args below meth c_ H locs 0 0 (MQ below (wl_Qv D classes (kw_ty cI cT cS) 83 ad (kw_C cI cT cS ad (k_J_fill_AR_L5 i_n i q v S0)) sz) args s_ 0 0 (wl_A 83 ad sz)) (F0 m_ 5 ls []) := by
  have hx := X.1
  have hb := X.2.1
  have hA : ∀ q, s_.heap.size ≤ q → (wl_A 83 ad s_.heap.size) q := fun q h => Or.inr h
  intro i_n
  induction i_n with
  | zero =>
    intro i q h_q v S0 h_i H locs ls hl hP hS
    refine lv_iload_n hx hb d_J_fill_5 rfl (lv_at hl 2 rfl) ?_
    refine lv_iload_n hx hb d_J_fill_6 rfl (lv_at hl 3 rfl) ?_
    refine lv_icmp_ge (tgt := 20) hx hb d_J_fill_7 (by decide) (fun c1 => ?_) (fun c1 => ?_)
    · skip
      have hE : k_J_fill_AR_L5 0 i q v S0 = S0 := by
        exact rfl
      rw [hE]
      exact wl_vret X hsz hr hlocks hP hS d_J_fill_20
    · exact absurd (sk_lhz h_i) c1
  | succ i_n ih =>
    intro i q h_q v S0 h_i H locs ls hl hP hS
    refine lv_iload_n hx hb d_J_fill_5 rfl (lv_at hl 2 rfl) ?_
    refine lv_iload_n hx hb d_J_fill_6 rfl (lv_at hl 3 rfl) ?_
    refine lv_icmp_ge (tgt := 20) hx hb d_J_fill_7 (by decide) (fun c101 => ?_) (fun c101 => ?_)
    · exact absurd c101 (sk_lhs h_i)
    · skip
      refine lv_aload_n hx hb d_J_fill_10 rfl (lv_at hl 0 rfl) ?_
      refine lv_iload_n hx hb d_J_fill_11 rfl (lv_at hl 2 rfl) ?_
      refine lv_iload_n hx hb d_J_fill_12 rfl (lv_at hl 1 rfl) ?_
      refine wl_iast X hP hS (i := (11 + q)) (by omega) 0 (kw_cAR (by omega)) rfl (j := i) rfl (by omega) (by decide) d_J_fill_13 (kw_pAR (by omega)) (fun H locs hP hS => ?_)
      obtain ⟨S102, eS102⟩ : ∃ z, z = kw_si S0 8 q i v := ⟨_, rfl⟩
      rw [← eS102] at hP
      refine lv_iinc (v := nI (i + 1)) (lv' := [(2, .int (nI (i + 1))), (0, .ref (ad (11 + q))), (1, .int v), (3, .int (nI 4))]) hx hb d_J_fill_14 hl (k := 2) rfl (nI_1 _) (by decide) rfl (fun ls hl => ?_)
      refine lv_goto (tgt := 5) hx hb d_J_fill_17 (by decide) ?_
      have hE : k_J_fill_AR_L5 (i_n + 1) i q v S0 = k_J_fill_AR_L5 i_n (i + 1) q v S102 := by
        subst eS102
        exact rfl
      rw [hE]
      exact ih (i + 1) q (by omega) v S102 (by omega) _ _ _ (lv_sub hl [1, 2, 0, 3] rfl) hP hS
def k_J_fill_AR (S0 : kw_S) (q : Nat) (v : Int32) : kw_S :=
  k_J_fill_AR_L5 4 0 q v S0
set_option maxHeartbeats 4000000 in
set_option maxRecDepth 100000 in
theorem c_J_fill_AR {l : Launch} {D : va_G} {cI cT cS : ClassId} {ad : Nat → Nat} (hinj : wl_inj 83 ad) (S0 : kw_S) (q : Nat) (h_q : q < 4) (v : Int32) : wl_Mv l y_J_fill (Cond.code y_J_fill b_J_fill 4 none :: TT) (rm_ 0) D classes (kw_ty cI cT cS) 83 ad [.ref (ad (11 + q)), .int v] (kw_C cI cT cS ad S0)  (kw_C cI cT cS ad (k_J_fill_AR S0 q v)) := by
  intro sz
  refine wl_enter (own := R_J) rfl (by decide) (Nat.le_of_ble_eq_true rfl) hinj (fun p_ e_ s_ m_ below meth c_ ls hsz X hml hr hlocks hl hP hS => ?_)
  have hx := X.1
  have hb := X.2.1
  have hA : ∀ q, s_.heap.size ≤ q → (wl_A 83 ad s_.heap.size) q := fun q h => Or.inr h
  have hl : lv_has ls 4 [(0, .ref (ad (11 + q))), (1, .int v)] := hl
  refine lv_iconst (v := 0) hx hb d_J_fill_0 (by decide) ?_
  refine lv_istore_n (lv' := [(2, .int (0 : Int32)), (0, .ref (ad (11 + q))), (1, .int v)]) hx hb d_J_fill_1 rfl hl (by decide) rfl (fun ls hl => ?_)
  refine lv_aload_n hx hb d_J_fill_2 rfl (lv_at hl 1 rfl) ?_
  refine wl_alen X hP (i := (11 + q)) (by omega) 0 (kw_cAR (by omega)) rfl d_J_fill_3 ?_
  refine wl_top (y := nI 4) rfl ?_
  refine lv_istore_n (lv' := [(3, .int (nI 4)), (2, .int (0 : Int32)), (0, .ref (ad (11 + q))), (1, .int v)]) hx hb d_J_fill_4 rfl hl (by decide) rfl (fun ls hl => ?_)
  have hE : k_J_fill_AR S0 q v = k_J_fill_AR_L5 4 0 q v S0 := by
    exact rfl
  rw [hE]
  exact c_J_fill_AR_L5 hinj X hsz hml hr hlocks 4 0 q (by omega) v S0 (by omega) _ _ _ (lv_sub hl [2, 3, 1, 0] rfl) hP hS
def k_J_fill_AW_L5 : Nat → Nat → Nat → Int32 → kw_S → kw_S
  | 0, i, q, v, S0 =>
    S0
  | i_n + 1, i, q, v, S0 =>
    let S102 := kw_si S0 11 q i v
    k_J_fill_AW_L5 i_n (i + 1) q v S102
set_option maxHeartbeats 4000000 in
set_option maxRecDepth 100000 in
theorem c_J_fill_AW_L5 {l : Launch} {D : va_G} {cI cT cS : ClassId} {ad : Nat → Nat} {p_ : Program} {e_ : Env} {s_ : State} {m_ : MethodId} {args : Array Value} {below : List Frame} {meth : Method} {c_ : Code} {sz : Nat} (hinj : wl_inj 83 ad) (X : wl_X p_ s_ m_ args c_ b_J_fill R_J TT D classes (kw_ty cI cT cS) 83 ad (wl_A 83 ad s_.heap.size)) (hsz : s_.heap.size = sz) (hml : c_.maxLocals = 4) (hr : meth.sig.returnType = none) (hlocks : meth.locks = false) :
    ∀ (i_n i : Nat) (q : Nat) (h_q : q < 32) (v : Int32) (S0 : kw_S) (h_i : i + i_n = 8) (H : Heap) (locs : List Loc) (ls : Array Slot), lv_has ls 4 [(0, .ref (ad (51 + q))), (1, .int v), (2, .int (nI i)), (3, .int (nI 8))] → va_P D classes (wl_W 83 ad (kw_C cI cT cS ad S0)) H → va_S (wl_A 83 ad s_.heap.size) s_.heap H locs → W p_ l e_ (rm_ 0) s_ m_ args below meth c_ H locs 0 0 (MQ below (wl_Qv D classes (kw_ty cI cT cS) 83 ad (kw_C cI cT cS ad (k_J_fill_AW_L5 i_n i q v S0)) sz) args s_ 0 0 (wl_A 83 ad sz)) (F0 m_ 5 ls []) := by
  have hx := X.1
  have hb := X.2.1
  have hA : ∀ q, s_.heap.size ≤ q → (wl_A 83 ad s_.heap.size) q := fun q h => Or.inr h
  intro i_n
  induction i_n with
  | zero =>
    intro i q h_q v S0 h_i H locs ls hl hP hS
    refine lv_iload_n hx hb d_J_fill_5 rfl (lv_at hl 2 rfl) ?_
    refine lv_iload_n hx hb d_J_fill_6 rfl (lv_at hl 3 rfl) ?_
    refine lv_icmp_ge (tgt := 20) hx hb d_J_fill_7 (by decide) (fun c1 => ?_) (fun c1 => ?_)
    · skip
      have hE : k_J_fill_AW_L5 0 i q v S0 = S0 := by
        exact rfl
      rw [hE]
      exact wl_vret X hsz hr hlocks hP hS d_J_fill_20
    · exact absurd (sk_lhz h_i) c1
  | succ i_n ih =>
    intro i q h_q v S0 h_i H locs ls hl hP hS
    refine lv_iload_n hx hb d_J_fill_5 rfl (lv_at hl 2 rfl) ?_
    refine lv_iload_n hx hb d_J_fill_6 rfl (lv_at hl 3 rfl) ?_
    refine lv_icmp_ge (tgt := 20) hx hb d_J_fill_7 (by decide) (fun c101 => ?_) (fun c101 => ?_)
    · exact absurd c101 (sk_lhs h_i)
    · skip
      refine lv_aload_n hx hb d_J_fill_10 rfl (lv_at hl 0 rfl) ?_
      refine lv_iload_n hx hb d_J_fill_11 rfl (lv_at hl 2 rfl) ?_
      refine lv_iload_n hx hb d_J_fill_12 rfl (lv_at hl 1 rfl) ?_
      refine wl_iast X hP hS (i := (51 + q)) (by omega) 0 (kw_cAW (by omega)) rfl (j := i) rfl (by omega) (by decide) d_J_fill_13 (kw_pAW (by omega)) (fun H locs hP hS => ?_)
      obtain ⟨S102, eS102⟩ : ∃ z, z = kw_si S0 11 q i v := ⟨_, rfl⟩
      rw [← eS102] at hP
      refine lv_iinc (v := nI (i + 1)) (lv' := [(2, .int (nI (i + 1))), (0, .ref (ad (51 + q))), (1, .int v), (3, .int (nI 8))]) hx hb d_J_fill_14 hl (k := 2) rfl (nI_1 _) (by decide) rfl (fun ls hl => ?_)
      refine lv_goto (tgt := 5) hx hb d_J_fill_17 (by decide) ?_
      have hE : k_J_fill_AW_L5 (i_n + 1) i q v S0 = k_J_fill_AW_L5 i_n (i + 1) q v S102 := by
        subst eS102
        exact rfl
      rw [hE]
      exact ih (i + 1) q (by omega) v S102 (by omega) _ _ _ (lv_sub hl [1, 2, 0, 3] rfl) hP hS
def k_J_fill_AW (S0 : kw_S) (q : Nat) (v : Int32) : kw_S :=
  k_J_fill_AW_L5 8 0 q v S0
set_option maxHeartbeats 4000000 in
set_option maxRecDepth 100000 in
theorem c_J_fill_AW {l : Launch} {D : va_G} {cI cT cS : ClassId} {ad : Nat → Nat} (hinj : wl_inj 83 ad) (S0 : kw_S) (q : Nat) (h_q : q < 32) (v : Int32) : wl_Mv l y_J_fill (Cond.code y_J_fill b_J_fill 4 none :: TT) (rm_ 0) D classes (kw_ty cI cT cS) 83 ad [.ref (ad (51 + q)), .int v] (kw_C cI cT cS ad S0)  (kw_C cI cT cS ad (k_J_fill_AW S0 q v)) := by
  intro sz
  refine wl_enter (own := R_J) rfl (by decide) (Nat.le_of_ble_eq_true rfl) hinj (fun p_ e_ s_ m_ below meth c_ ls hsz X hml hr hlocks hl hP hS => ?_)
  have hx := X.1
  have hb := X.2.1
  have hA : ∀ q, s_.heap.size ≤ q → (wl_A 83 ad s_.heap.size) q := fun q h => Or.inr h
  have hl : lv_has ls 4 [(0, .ref (ad (51 + q))), (1, .int v)] := hl
  refine lv_iconst (v := 0) hx hb d_J_fill_0 (by decide) ?_
  refine lv_istore_n (lv' := [(2, .int (0 : Int32)), (0, .ref (ad (51 + q))), (1, .int v)]) hx hb d_J_fill_1 rfl hl (by decide) rfl (fun ls hl => ?_)
  refine lv_aload_n hx hb d_J_fill_2 rfl (lv_at hl 1 rfl) ?_
  refine wl_alen X hP (i := (51 + q)) (by omega) 0 (kw_cAW (by omega)) rfl d_J_fill_3 ?_
  refine wl_top (y := nI 8) rfl ?_
  refine lv_istore_n (lv' := [(3, .int (nI 8)), (2, .int (0 : Int32)), (0, .ref (ad (51 + q))), (1, .int v)]) hx hb d_J_fill_4 rfl hl (by decide) rfl (fun ls hl => ?_)
  have hE : k_J_fill_AW S0 q v = k_J_fill_AW_L5 8 0 q v S0 := by
    exact rfl
  rw [hE]
  exact c_J_fill_AW_L5 hinj X hsz hml hr hlocks 8 0 q (by omega) v S0 (by omega) _ _ _ (lv_sub hl [2, 3, 1, 0] rfl) hP hS
def k_T_begin (S0 : kw_S) (self : Nat) (q : Nat) : kw_S :=
  let S1 := k_J_fill_AR S0 self (0 : Int32)
  let S2 := kw_si S1 7 self 0 (1 : Int32)
  let S3 := kw_si S2 7 self 1 (0 : Int32)
  let S4 := kw_sn S3 7 self 0 q
  let S5 := kw_si S4 7 self 2 (0 : Int32)
  let S6 := kw_si S5 7 self 3 (0 : Int32)
  let S7 := kw_si S6 7 self 4 (0 : Int32)
  let S8 := kw_si S7 7 self 5 (0 : Int32)
  S8
set_option maxHeartbeats 4000000 in
set_option maxRecDepth 100000 in
theorem c_T_begin {l : Launch} {D : va_G} {cI cT cS : ClassId} {ad : Nat → Nat} (hinj : wl_inj 83 ad) (S0 : kw_S) (self : Nat) (h_self : self < 4) (x_q : Int32) (q : Nat) (e_q : x_q = kw_pa q) : wl_Mv l y_T_begin (Cond.code y_T_begin b_T_begin 2 none :: TT) (rm_ 1) D classes (kw_ty cI cT cS) 83 ad [.ref (ad (7 + self)), .int x_q] (kw_C cI cT cS ad S0)  (kw_C cI cT cS ad (k_T_begin S0 self q)) := by
  subst e_q
  intro sz
  refine wl_enter (own := R_T) rfl (by decide) (Nat.le_of_ble_eq_true rfl) hinj (fun p_ e_ s_ m_ below meth c_ ls hsz X hml hr hlocks hl hP hS => ?_)
  have hx := X.1
  have hb := X.2.1
  have hA : ∀ q, s_.heap.size ≤ q → (wl_A 83 ad s_.heap.size) q := fun q h => Or.inr h
  have hl : lv_has ls 2 [(0, .ref (ad (7 + self))), (1, .int (kw_pa q))] := hl
  refine lv_aload_n hx hb d_T_begin_0 rfl (lv_at hl 0 rfl) ?_
  refine wl_get (v := .ref (ad (11 + self))) X hP (i := (7 + self)) (by omega) (kw_cT (by omega)) rfl i_T 0 (by decide) lf_T_9 rfl d_T_begin_1 ?_
  refine lv_iconst (v := 0) hx hb d_T_begin_4 (by decide) ?_
  refine wl_gov2 (cf := kw_C cI cT cS ad) (S2 := k_J_fill_AR S0 self (0 : Int32)) hS hA X.2.2.2.2.2.2 (wl_runS (As := [.ref (ad (11 + self)), .int (0 : Int32)]) (rest := []) X hml hl.1 hP g_TT (c_J_fill_AR hinj S0 self (by omega) (0 : Int32) _) wv_T_28 (na := 2) (by decide +kernel) rfl ⟨Nat.le_of_ble_eq_true rfl, Nat.le_of_ble_eq_true rfl⟩ rfl (Nat.le_of_ble_eq_true rfl) d_T_begin_5 ⟨Nat.le_refl _, Nat.le_refl _⟩) (fun S1 eS1 H locs hP hS => ?_)
  refine lv_aload_n hx hb d_T_begin_8 rfl (lv_at hl 0 rfl) ?_
  refine lv_iconst (v := 1) hx hb d_T_begin_9 (by decide) ?_
  refine wl_put X hP hS (i := (7 + self)) (by omega) (kw_cT (by omega)) rfl i_T ft_T ft_T_ok fn_T 2 (by decide) lf_T_21 rfl rfl rfl (Nat.le_of_ble_eq_true rfl) d_T_begin_10 (kw_pT_state (by omega)) (fun H locs hP hS => ?_)
  obtain ⟨S2, eS2⟩ : ∃ z, z = kw_si S1 7 self 0 (1 : Int32) := ⟨_, rfl⟩
  rw [← eS2] at hP
  refine lv_aload_n hx hb d_T_begin_13 rfl (lv_at hl 0 rfl) ?_
  refine lv_iconst (v := 0) hx hb d_T_begin_14 (by decide) ?_
  refine wl_put X hP hS (i := (7 + self)) (by omega) (kw_cT (by omega)) rfl i_T ft_T ft_T_ok fn_T 3 (by decide) lf_T_34 rfl rfl rfl (Nat.le_of_ble_eq_true rfl) d_T_begin_15 (kw_pT_place (by omega)) (fun H locs hP hS => ?_)
  obtain ⟨S3, eS3⟩ : ∃ z, z = kw_si S2 7 self 1 (0 : Int32) := ⟨_, rfl⟩
  rw [← eS3] at hP
  refine lv_aload_n hx hb d_T_begin_18 rfl (lv_at hl 0 rfl) ?_
  refine lv_iload_n hx hb d_T_begin_19 rfl (lv_at hl 1 rfl) ?_
  refine wl_put X hP hS (i := (7 + self)) (by omega) (kw_cT (by omega)) rfl i_T ft_T ft_T_ok fn_T 4 (by decide) lf_T_25 rfl rfl rfl (Nat.le_of_ble_eq_true rfl) d_T_begin_20 (kw_pT_parent (x := q) (by omega) rfl) (fun H locs hP hS => ?_)
  obtain ⟨S4, eS4⟩ : ∃ z, z = kw_sn S3 7 self 0 q := ⟨_, rfl⟩
  rw [← eS4] at hP
  refine lv_aload_n hx hb d_T_begin_23 rfl (lv_at hl 0 rfl) ?_
  refine lv_iconst (v := 0) hx hb d_T_begin_24 (by decide) ?_
  refine wl_put X hP hS (i := (7 + self)) (by omega) (kw_cT (by omega)) rfl i_T ft_T ft_T_ok fn_T 5 (by decide) lf_T_37 rfl rfl rfl (Nat.le_of_ble_eq_true rfl) d_T_begin_25 (kw_pT_code (by omega)) (fun H locs hP hS => ?_)
  obtain ⟨S5, eS5⟩ : ∃ z, z = kw_si S4 7 self 2 (0 : Int32) := ⟨_, rfl⟩
  rw [← eS5] at hP
  refine lv_aload_n hx hb d_T_begin_28 rfl (lv_at hl 0 rfl) ?_
  refine lv_iconst (v := 0) hx hb d_T_begin_29 (by decide) ?_
  refine wl_put X hP hS (i := (7 + self)) (by omega) (kw_cT (by omega)) rfl i_T ft_T ft_T_ok fn_T 6 (by decide) lf_T_40 rfl rfl rfl (Nat.le_of_ble_eq_true rfl) d_T_begin_30 (kw_pT_sleepLeft (by omega)) (fun H locs hP hS => ?_)
  obtain ⟨S6, eS6⟩ : ∃ z, z = kw_si S5 7 self 3 (0 : Int32) := ⟨_, rfl⟩
  rw [← eS6] at hP
  refine lv_aload_n hx hb d_T_begin_33 rfl (lv_at hl 0 rfl) ?_
  refine lv_iconst (v := 0) hx hb d_T_begin_34 (by decide) ?_
  refine wl_put X hP hS (i := (7 + self)) (by omega) (kw_cT (by omega)) rfl i_T ft_T ft_T_ok fn_T 7 (by decide) lf_T_43 rfl rfl rfl (Nat.le_of_ble_eq_true rfl) d_T_begin_35 (kw_pT_faults (by omega)) (fun H locs hP hS => ?_)
  obtain ⟨S7, eS7⟩ : ∃ z, z = kw_si S6 7 self 4 (0 : Int32) := ⟨_, rfl⟩
  rw [← eS7] at hP
  refine lv_aload_n hx hb d_T_begin_38 rfl (lv_at hl 0 rfl) ?_
  refine lv_iconst (v := 0) hx hb d_T_begin_39 (by decide) ?_
  refine wl_put X hP hS (i := (7 + self)) (by omega) (kw_cT (by omega)) rfl i_T ft_T ft_T_ok fn_T 8 (by decide) lf_T_46 rfl rfl rfl (Nat.le_of_ble_eq_true rfl) d_T_begin_40 (kw_pT_begun (by omega)) (fun H locs hP hS => ?_)
  obtain ⟨S8, eS8⟩ : ∃ z, z = kw_si S7 7 self 5 (0 : Int32) := ⟨_, rfl⟩
  rw [← eS8] at hP
  have hE : k_T_begin S0 self q = S8 := by
    subst eS8
    subst eS7
    subst eS6
    subst eS5
    subst eS4
    subst eS3
    subst eS2
    subst eS1
    exact rfl
  rw [hE]
  exact wl_vret X hsz hr hlocks hP hS d_T_begin_43
def k_T_leave (S0 : kw_S) (self : Nat) : kw_S :=
  let S1 := kw_si S0 7 self 0 (0 : Int32)
  let S2 := kw_sn S1 7 self 0 4
  S2
set_option maxHeartbeats 4000000 in
set_option maxRecDepth 100000 in
theorem c_T_leave {l : Launch} {D : va_G} {cI cT cS : ClassId} {ad : Nat → Nat} (hinj : wl_inj 83 ad) (S0 : kw_S) (self : Nat) (h_self : self < 4) : wl_Mv l y_T_leave (Cond.code y_T_leave b_T_leave 1 none :: TT) (rm_ 0) D classes (kw_ty cI cT cS) 83 ad [.ref (ad (7 + self))] (kw_C cI cT cS ad S0)  (kw_C cI cT cS ad (k_T_leave S0 self)) := by
  intro sz
  refine wl_enter (own := R_T) rfl (by decide) (Nat.le_of_ble_eq_true rfl) hinj (fun p_ e_ s_ m_ below meth c_ ls hsz X hml hr hlocks hl hP hS => ?_)
  have hx := X.1
  have hb := X.2.1
  have hA : ∀ q, s_.heap.size ≤ q → (wl_A 83 ad s_.heap.size) q := fun q h => Or.inr h
  have hl : lv_has ls 1 [(0, .ref (ad (7 + self)))] := hl
  refine lv_aload_n hx hb d_T_leave_0 rfl (lv_at hl 0 rfl) ?_
  refine lv_iconst (v := 0) hx hb d_T_leave_1 (by decide) ?_
  refine wl_put X hP hS (i := (7 + self)) (by omega) (kw_cT (by omega)) rfl i_T ft_T ft_T_ok fn_T 2 (by decide) lf_T_21 rfl rfl rfl (Nat.le_of_ble_eq_true rfl) d_T_leave_2 (kw_pT_state (by omega)) (fun H locs hP hS => ?_)
  obtain ⟨S1, eS1⟩ : ∃ z, z = kw_si S0 7 self 0 (0 : Int32) := ⟨_, rfl⟩
  rw [← eS1] at hP
  refine lv_aload_n hx hb d_T_leave_5 rfl (lv_at hl 0 rfl) ?_
  refine lv_bipush (v := -2) hx hb d_T_leave_6 (by decide) ?_
  refine wl_put X hP hS (i := (7 + self)) (by omega) (kw_cT (by omega)) rfl i_T ft_T ft_T_ok fn_T 4 (by decide) lf_T_25 rfl rfl rfl (Nat.le_of_ble_eq_true rfl) d_T_leave_8 (kw_pT_parent (x := 4) (by omega) (by decide)) (fun H locs hP hS => ?_)
  obtain ⟨S2, eS2⟩ : ∃ z, z = kw_sn S1 7 self 0 4 := ⟨_, rfl⟩
  rw [← eS2] at hP
  have hE : k_T_leave S0 self = S2 := by
    subst eS2
    subst eS1
    exact rfl
  rw [hE]
  exact wl_vret X hsz hr hlocks hP hS d_T_leave_11
theorem kq_least {S : kw_S} : ∀ n i, i + n = 4 → k_K_leastAbsent_L2 n i S = -2 ∨ ∃ j, j < 4 ∧ k_K_leastAbsent_L2 n i S = nI j := by
  intro n
  induction n with
  | zero => exact fun i _ => Or.inl rfl
  | succ n ih =>
    intro i h
    by_cases h0 : S.1 7 i 0 = 0
    · exact Or.inr ⟨i, by omega, if_pos h0⟩
    · have e : k_K_leastAbsent_L2 (n + 1) i S = k_K_leastAbsent_L2 n (i + 1) S := if_neg h0
      rw [e]
      exact ih (i + 1) (by omega)
theorem kq_leastAbsent {S : kw_S} (h : ¬ k_K_leastAbsent S = -2) : k_K_leastAbsent S = nI (k_K_leastAbsent S).toNatClampNeg ∧ (k_K_leastAbsent S).toNatClampNeg < 4 := by
  rcases kq_least (S := S) 4 0 rfl with h1 | ⟨j, hj, h1⟩
  · exact absurd h1 h
  · have e : k_K_leastAbsent S = nI j := h1
    rw [e, nI_clamp (by omega)]
    exact ⟨rfl, hj⟩
def k_K_spawn (S0 : kw_S) : Int32 × kw_S :=
  let r1 := k_K_leastAbsent S0
  if r1 = (-2 : Int32) then
    ((-3 : Int32), S0)
  else
    let S3 := k_T_begin S0 r1.toNatClampNeg 4
    (r1, S3)
set_option maxHeartbeats 4000000 in
set_option maxRecDepth 100000 in
theorem c_K_spawn {l : Launch} {D : va_G} {cI cT cS : ClassId} {ad : Nat → Nat} (hinj : wl_inj 83 ad) (S0 : kw_S)  : wl_Mi l y_K_spawn (Cond.code y_K_spawn b_K_spawn 2 (some .int) :: TT) (rm_ 2) D classes (kw_ty cI cT cS) 83 ad [.ref (ad 0)] (kw_C cI cT cS ad S0) ((k_K_spawn S0).1) (kw_C cI cT cS ad ((k_K_spawn S0).2)) := by
  intro sz
  refine wl_enter (own := R_K) rfl (by decide) (Nat.le_of_ble_eq_true rfl) hinj (fun p_ e_ s_ m_ below meth c_ ls hsz X hml hr hlocks hl hP hS => ?_)
  have hx := X.1
  have hb := X.2.1
  have hA : ∀ q, s_.heap.size ≤ q → (wl_A 83 ad s_.heap.size) q := fun q h => Or.inr h
  have hl : lv_has ls 2 [(0, .ref (ad 0))] := hl
  refine lv_aload_n hx hb d_K_spawn_0 rfl (lv_at hl 0 rfl) ?_
  refine wl_goi1 (cf := kw_C cI cT cS ad) (r := k_K_leastAbsent S0) hS hA X.2.2.2.2.2.2 (wl_runV (As := []) (rest := []) X hml hl.1 hP g_TT (c_K_leastAbsent hinj S0 _) (by decide) (kw_cK ) rfl wv_K_31 (na := 0) (by decide +kernel) rfl ⟨Nat.le_of_ble_eq_true rfl, Nat.le_of_ble_eq_true rfl⟩ rfl (Nat.le_of_ble_eq_true rfl) d_K_spawn_1 ⟨Nat.le_refl _, Nat.le_refl _⟩) (fun r1 er1 H locs hP hS => ?_)
  refine lv_istore_n (lv' := [(1, .int r1), (0, .ref (ad 0))]) hx hb d_K_spawn_4 rfl hl (by decide) rfl (fun ls hl => ?_)
  refine lv_iload_n hx hb d_K_spawn_5 rfl (lv_at hl 0 rfl) ?_
  refine lv_bipush (v := -2) hx hb d_K_spawn_6 (by decide) ?_
  refine lv_icmp_ne (tgt := 14) hx hb d_K_spawn_8 (by decide) (fun c2 => ?_) (fun c2 => ?_)
  · skip
    obtain ⟨hp1, hp2⟩ := kq_leastAbsent (fun h => c2 (er1.trans h))
    rw [← er1] at hp1 hp2
    refine lv_aload_n hx hb d_K_spawn_14 rfl (lv_at hl 1 rfl) ?_
    refine wl_get (v := .ref (ad 1)) X hP (i := 0) (by decide) (kw_cK ) rfl i_K 0 (by decide) lf_K_11 rfl d_K_spawn_15 ?_
    refine lv_iload_n hx hb d_K_spawn_18 rfl (lv_at hl 0 rfl) ?_
    refine wl_aald X hP (i := 1) (by decide) 1 (kw_cAT ) rfl (j := r1.toNatClampNeg) hp1 hp2 (by decide) d_K_spawn_19 ?_
    refine wl_topv (y := .ref (ad (7 + r1.toNatClampNeg))) rfl ?_
    refine lv_bipush (v := -2) hx hb d_K_spawn_20 (by decide) ?_
    refine wl_gov2 (cf := kw_C cI cT cS ad) (S2 := k_T_begin S0 r1.toNatClampNeg 4) hS hA X.2.2.2.2.2.2 (wl_runV (As := [.int (-2 : Int32)]) (rest := []) X hml hl.1 hP g_TT (c_T_begin hinj S0 r1.toNatClampNeg (by omega) (-2 : Int32) 4 (by decide) _) (by omega) (kw_cT (by omega)) rfl wv_K_35 (na := 1) (by decide +kernel) rfl ⟨Nat.le_of_ble_eq_true rfl, Nat.le_of_ble_eq_true rfl⟩ rfl (Nat.le_of_ble_eq_true rfl) d_K_spawn_22 ⟨Nat.le_refl _, Nat.le_refl _⟩) (fun S3 eS3 H locs hP hS => ?_)
    refine lv_iload_n hx hb d_K_spawn_25 rfl (lv_at hl 0 rfl) ?_
    have hE : k_K_spawn S0 = (r1, S3) := by
      subst eS3
      subst er1
      exact ((if_neg c2).trans rfl)
    rw [hE]
    exact wl_iret X hsz hr hlocks hP hS d_K_spawn_26
  · skip
    refine lv_bipush (v := -3) hx hb d_K_spawn_11 (by decide) ?_
    have hE : k_K_spawn S0 = ((-3 : Int32), S0) := by
      subst er1
      exact ((if_pos c2).trans rfl)
    rw [hE]
    exact wl_iret X hsz hr hlocks hP hS d_K_spawn_13
def k_K_sleep (S0 : kw_S) (t : Nat) (n : Int32) : kw_S :=
  if n < (1 : Int32) then
    S0
  else
    let S2 := kw_si S0 7 t 0 (2 : Int32)
    let S3 := kw_si S2 7 t 3 n
    S3
set_option maxHeartbeats 4000000 in
set_option maxRecDepth 100000 in
theorem c_K_sleep {l : Launch} {D : va_G} {cI cT cS : ClassId} {ad : Nat → Nat} (hinj : wl_inj 83 ad) (S0 : kw_S) (t : Nat) (h_t : t < 4) (n : Int32) : wl_Mv l y_K_sleep (Cond.code y_K_sleep b_K_sleep 3 none :: TT) (rm_ 0) D classes (kw_ty cI cT cS) 83 ad [.ref (ad 0), .ref (ad (7 + t)), .int n] (kw_C cI cT cS ad S0)  (kw_C cI cT cS ad (k_K_sleep S0 t n)) := by
  intro sz
  refine wl_enter (own := R_K) rfl (by decide) (Nat.le_of_ble_eq_true rfl) hinj (fun p_ e_ s_ m_ below meth c_ ls hsz X hml hr hlocks hl hP hS => ?_)
  have hx := X.1
  have hb := X.2.1
  have hA : ∀ q, s_.heap.size ≤ q → (wl_A 83 ad s_.heap.size) q := fun q h => Or.inr h
  have hl : lv_has ls 3 [(0, .ref (ad 0)), (1, .ref (ad (7 + t))), (2, .int n)] := hl
  refine lv_iload_n hx hb d_K_sleep_0 rfl (lv_at hl 2 rfl) ?_
  refine lv_iconst (v := 1) hx hb d_K_sleep_1 (by decide) ?_
  refine lv_icmp_lt (tgt := 15) hx hb d_K_sleep_2 (by decide) (fun c1 => ?_) (fun c1 => ?_)
  · skip
    have hE : k_K_sleep S0 t n = S0 := by
      exact ((if_pos c1).trans rfl)
    rw [hE]
    exact wl_vret X hsz hr hlocks hP hS d_K_sleep_15
  · skip
    refine lv_aload_n hx hb d_K_sleep_5 rfl (lv_at hl 1 rfl) ?_
    refine lv_iconst (v := 2) hx hb d_K_sleep_6 (by decide) ?_
    refine wl_put X hP hS (i := (7 + t)) (by omega) (kw_cT (by omega)) rfl i_T ft_T ft_T_ok fn_T 2 (by decide) lf_K_85 rfl rfl rfl (Nat.le_of_ble_eq_true rfl) d_K_sleep_7 (kw_pT_state (by omega)) (fun H locs hP hS => ?_)
    obtain ⟨S2, eS2⟩ : ∃ z, z = kw_si S0 7 t 0 (2 : Int32) := ⟨_, rfl⟩
    rw [← eS2] at hP
    refine lv_aload_n hx hb d_K_sleep_10 rfl (lv_at hl 1 rfl) ?_
    refine lv_iload_n hx hb d_K_sleep_11 rfl (lv_at hl 2 rfl) ?_
    refine wl_put X hP hS (i := (7 + t)) (by omega) (kw_cT (by omega)) rfl i_T ft_T ft_T_ok fn_T 6 (by decide) lf_K_133 rfl rfl rfl (Nat.le_of_ble_eq_true rfl) d_K_sleep_12 (kw_pT_sleepLeft (by omega)) (fun H locs hP hS => ?_)
    obtain ⟨S3, eS3⟩ : ∃ z, z = kw_si S2 7 t 3 n := ⟨_, rfl⟩
    rw [← eS3] at hP
    have hE : k_K_sleep S0 t n = S3 := by
      subst eS3
      subst eS2
      exact ((if_neg c1).trans rfl)
    rw [hE]
    exact wl_vret X hsz hr hlocks hP hS d_K_sleep_15
def k_K_orphanChildren_L2 : Nat → Nat → Nat → kw_S → kw_S
  | 0, i, p, S0 =>
    S0
  | i_n + 1, i, p, S0 =>
    if (kw_pa (S0.2 7 i 0)) = (nI p) then
      let S103 := kw_sn S0 7 i 0 4
      if (S103.1 7 i 0) = (4 : Int32) then
        let S105 := k_T_leave S103 i
        k_K_orphanChildren_L2 i_n (i + 1) p S105
      else
        k_K_orphanChildren_L2 i_n (i + 1) p S103
    else
      k_K_orphanChildren_L2 i_n (i + 1) p S0
set_option maxHeartbeats 4000000 in
set_option maxRecDepth 100000 in
theorem c_K_orphanChildren_L2 {l : Launch} {D : va_G} {cI cT cS : ClassId} {ad : Nat → Nat} {p_ : Program} {e_ : Env} {s_ : State} {m_ : MethodId} {args : Array Value} {below : List Frame} {meth : Method} {c_ : Code} {sz : Nat} (hinj : wl_inj 83 ad) (X : wl_X p_ s_ m_ args c_ b_K_orphanChildren R_K TT D classes (kw_ty cI cT cS) 83 ad (wl_A 83 ad s_.heap.size)) (hsz : s_.heap.size = sz) (hml : c_.maxLocals = 4) (hr : meth.sig.returnType = none) (hlocks : meth.locks = false) :
    ∀ (i_n i : Nat) (x_p : Int32) (p : Nat) (e_p : x_p = nI p) (h_p : p < 4) (S0 : kw_S) (h_i : i + i_n = 4) (H : Heap) (locs : List Loc) (ls : Array Slot), lv_has ls 4 [(0, .ref (ad 0)), (1, .int x_p), (2, .int (nI i))] → va_P D classes (wl_W 83 ad (kw_C cI cT cS ad S0)) H → va_S (wl_A 83 ad s_.heap.size) s_.heap H locs → W p_ l e_ (rm_ 1) s_ m_ args below meth c_ H locs 0 0 (MQ below (wl_Qv D classes (kw_ty cI cT cS) 83 ad (kw_C cI cT cS ad (k_K_orphanChildren_L2 i_n i p S0)) sz) args s_ 0 0 (wl_A 83 ad sz)) (F0 m_ 2 ls []) := by
  have hx := X.1
  have hb := X.2.1
  have hA : ∀ q, s_.heap.size ≤ q → (wl_A 83 ad s_.heap.size) q := fun q h => Or.inr h
  intro i_n
  induction i_n with
  | zero =>
    intro i x_p p e_p h_p S0 h_i H locs ls hl hP hS
    subst e_p
    refine lv_iload_n hx hb d_K_orphanChildren_2 rfl (lv_at hl 2 rfl) ?_
    refine lv_iconst (v := 4) hx hb d_K_orphanChildren_3 (by decide) ?_
    refine lv_icmp_ge (tgt := 46) hx hb d_K_orphanChildren_4 (by decide) (fun c1 => ?_) (fun c1 => ?_)
    · skip
      have hE : k_K_orphanChildren_L2 0 i p S0 = S0 := by
        exact rfl
      rw [hE]
      exact wl_vret X hsz hr hlocks hP hS d_K_orphanChildren_46
    · exact absurd (sk_lhz h_i) c1
  | succ i_n ih =>
    intro i x_p p e_p h_p S0 h_i H locs ls hl hP hS
    subst e_p
    refine lv_iload_n hx hb d_K_orphanChildren_2 rfl (lv_at hl 2 rfl) ?_
    refine lv_iconst (v := 4) hx hb d_K_orphanChildren_3 (by decide) ?_
    refine lv_icmp_ge (tgt := 46) hx hb d_K_orphanChildren_4 (by decide) (fun c101 => ?_) (fun c101 => ?_)
    · exact absurd c101 (sk_lhs h_i)
    · skip
      refine lv_aload_n hx hb d_K_orphanChildren_7 rfl (lv_at hl 0 rfl) ?_
      refine wl_get (v := .ref (ad 1)) X hP (i := 0) (by decide) (kw_cK ) rfl i_K 0 (by decide) lf_K_11 rfl d_K_orphanChildren_8 ?_
      refine lv_iload_n hx hb d_K_orphanChildren_11 rfl (lv_at hl 2 rfl) ?_
      refine wl_aald X hP (i := 1) (by decide) 1 (kw_cAT ) rfl (j := i) rfl (by omega) (by decide) d_K_orphanChildren_12 ?_
      refine wl_topv (y := .ref (ad (7 + i))) rfl ?_
      refine lv_astore_n (lv' := [(3, .ref (ad (7 + i))), (0, .ref (ad 0)), (1, .int (nI p)), (2, .int (nI i))]) hx hb d_K_orphanChildren_13 rfl hl (by decide) rfl (fun ls hl => ?_)
      refine lv_aload_n hx hb d_K_orphanChildren_14 rfl (lv_at hl 0 rfl) ?_
      refine wl_get (v := .int (kw_pa (S0.2 7 i 0))) X hP (i := (7 + i)) (by omega) (kw_cT (by omega)) rfl i_T 4 (by decide) lf_K_174 rfl d_K_orphanChildren_15 ?_
      refine lv_iload_n hx hb d_K_orphanChildren_18 rfl (lv_at hl 2 rfl) ?_
      refine lv_icmp_ne (tgt := 40) hx hb d_K_orphanChildren_19 (by decide) (fun c102 => ?_) (fun c102 => ?_)
      · skip
        refine lv_iinc (v := nI (i + 1)) (lv' := [(2, .int (nI (i + 1))), (3, .ref (ad (7 + i))), (0, .ref (ad 0)), (1, .int (nI p))]) hx hb d_K_orphanChildren_40 hl (k := 3) rfl (nI_1 _) (by decide) rfl (fun ls hl => ?_)
        refine lv_goto (tgt := 2) hx hb d_K_orphanChildren_43 (by decide) ?_
        have hE : k_K_orphanChildren_L2 (i_n + 1) i p S0 = k_K_orphanChildren_L2 i_n (i + 1) p S0 := by
          exact ((if_neg c102).trans rfl)
        rw [hE]
        exact ih (i + 1) (nI p) p rfl (by omega) S0 (by omega) _ _ _ (lv_sub hl [2, 3, 0] rfl) hP hS
      · skip
        refine lv_aload_n hx hb d_K_orphanChildren_22 rfl (lv_at hl 0 rfl) ?_
        refine lv_bipush (v := -2) hx hb d_K_orphanChildren_23 (by decide) ?_
        refine wl_put X hP hS (i := (7 + i)) (by omega) (kw_cT (by omega)) rfl i_T ft_T ft_T_ok fn_T 4 (by decide) lf_K_174 rfl rfl rfl (Nat.le_of_ble_eq_true rfl) d_K_orphanChildren_25 (kw_pT_parent (x := 4) (by omega) (by decide)) (fun H locs hP hS => ?_)
        obtain ⟨S103, eS103⟩ : ∃ z, z = kw_sn S0 7 i 0 4 := ⟨_, rfl⟩
        rw [← eS103] at hP
        refine lv_aload_n hx hb d_K_orphanChildren_28 rfl (lv_at hl 0 rfl) ?_
        refine wl_get (v := .int (S103.1 7 i 0)) X hP (i := (7 + i)) (by omega) (kw_cT (by omega)) rfl i_T 2 (by decide) lf_K_85 rfl d_K_orphanChildren_29 ?_
        refine lv_iconst (v := 4) hx hb d_K_orphanChildren_32 (by decide) ?_
        refine lv_icmp_ne (tgt := 40) hx hb d_K_orphanChildren_33 (by decide) (fun c104 => ?_) (fun c104 => ?_)
        · skip
          refine lv_iinc (v := nI (i + 1)) (lv' := [(2, .int (nI (i + 1))), (3, .ref (ad (7 + i))), (0, .ref (ad 0)), (1, .int (nI p))]) hx hb d_K_orphanChildren_40 hl (k := 3) rfl (nI_1 _) (by decide) rfl (fun ls hl => ?_)
          refine lv_goto (tgt := 2) hx hb d_K_orphanChildren_43 (by decide) ?_
          have hE : k_K_orphanChildren_L2 (i_n + 1) i p S0 = k_K_orphanChildren_L2 i_n (i + 1) p S103 := by
            subst eS103
            exact ((if_pos c102).trans ((if_neg c104).trans rfl))
          rw [hE]
          exact ih (i + 1) (nI p) p rfl (by omega) S103 (by omega) _ _ _ (lv_sub hl [2, 3, 0] rfl) hP hS
        · skip
          refine lv_aload_n hx hb d_K_orphanChildren_36 rfl (lv_at hl 0 rfl) ?_
          refine wl_gov2 (cf := kw_C cI cT cS ad) (S2 := k_T_leave S103 i) hS hA X.2.2.2.2.2.2 (wl_runV (As := []) (rest := []) X hml hl.1 hP g_TT (c_T_leave hinj S103 i (by omega) _) (by omega) (kw_cT (by omega)) rfl wv_K_180 (na := 0) (by decide +kernel) rfl ⟨Nat.le_of_ble_eq_true rfl, Nat.le_of_ble_eq_true rfl⟩ rfl (Nat.le_of_ble_eq_true rfl) d_K_orphanChildren_37 ⟨Nat.le_refl _, Nat.le_refl _⟩) (fun S105 eS105 H locs hP hS => ?_)
          refine lv_iinc (v := nI (i + 1)) (lv' := [(2, .int (nI (i + 1))), (3, .ref (ad (7 + i))), (0, .ref (ad 0)), (1, .int (nI p))]) hx hb d_K_orphanChildren_40 hl (k := 3) rfl (nI_1 _) (by decide) rfl (fun ls hl => ?_)
          refine lv_goto (tgt := 2) hx hb d_K_orphanChildren_43 (by decide) ?_
          have hE : k_K_orphanChildren_L2 (i_n + 1) i p S0 = k_K_orphanChildren_L2 i_n (i + 1) p S105 := by
            subst eS105
            subst eS103
            exact ((if_pos c102).trans ((if_pos c104).trans rfl))
          rw [hE]
          exact ih (i + 1) (nI p) p rfl (by omega) S105 (by omega) _ _ _ (lv_sub hl [2, 3, 0] rfl) hP hS
def k_K_orphanChildren (S0 : kw_S) (p : Nat) : kw_S :=
  k_K_orphanChildren_L2 4 0 p S0
set_option maxHeartbeats 4000000 in
set_option maxRecDepth 100000 in
theorem c_K_orphanChildren {l : Launch} {D : va_G} {cI cT cS : ClassId} {ad : Nat → Nat} (hinj : wl_inj 83 ad) (S0 : kw_S) (x_p : Int32) (p : Nat) (e_p : x_p = nI p) (h_p : p < 4) : wl_Mv l y_K_orphanChildren (Cond.code y_K_orphanChildren b_K_orphanChildren 4 none :: TT) (rm_ 1) D classes (kw_ty cI cT cS) 83 ad [.ref (ad 0), .int x_p] (kw_C cI cT cS ad S0)  (kw_C cI cT cS ad (k_K_orphanChildren S0 p)) := by
  subst e_p
  intro sz
  refine wl_enter (own := R_K) rfl (by decide) (Nat.le_of_ble_eq_true rfl) hinj (fun p_ e_ s_ m_ below meth c_ ls hsz X hml hr hlocks hl hP hS => ?_)
  have hx := X.1
  have hb := X.2.1
  have hA : ∀ q, s_.heap.size ≤ q → (wl_A 83 ad s_.heap.size) q := fun q h => Or.inr h
  have hl : lv_has ls 4 [(0, .ref (ad 0)), (1, .int (nI p))] := hl
  refine lv_iconst (v := 0) hx hb d_K_orphanChildren_0 (by decide) ?_
  refine lv_istore_n (lv' := [(2, .int (0 : Int32)), (0, .ref (ad 0)), (1, .int (nI p))]) hx hb d_K_orphanChildren_1 rfl hl (by decide) rfl (fun ls hl => ?_)
  have hE : k_K_orphanChildren S0 p = k_K_orphanChildren_L2 4 0 p S0 := by
    exact rfl
  rw [hE]
  exact c_K_orphanChildren_L2 hinj X hsz hml hr hlocks 4 0 (nI p) p rfl (by omega) S0 (by omega) _ _ _ (lv_sub hl [1, 2, 0] rfl) hP hS
theorem kw_fr_in {x : Nat} (h : ¬ kw_fr x = -2) : kw_fr x = nI x ∧ x < 6 := by
  by_cases h1 : x < 6
  · exact ⟨if_pos h1, h1⟩
  · exact absurd (if_neg h1) h
theorem kw_n2 {x : Nat} (h : x < 64) : ¬ nI x = -2 := by
  intro q
  have h1 := congrArg Int32.toInt q
  rw [nI_toInt (by omega)] at h1
  have h2 : (-2 : Int32).toInt = -2 := by decide
  omega
theorem kw_fr_no {x : Nat} (h : kw_fr x = -2) : ¬ x < 6 := fun hlt => by
  have h1 : kw_fr x = nI x := if_pos hlt
  rw [h1] at h
  exact kw_n2 (by omega) h
theorem kw_fr_lt {x : Nat} (h : x < 6) : kw_fr x = nI x ∧ x < 6 := ⟨if_pos h, h⟩
theorem kw_sl_in {x : Nat} (h : ¬ kw_sl x = -2) : kw_sl x = nI x ∧ x < 32 := by
  by_cases h1 : x < 32
  · exact ⟨if_pos h1, h1⟩
  · exact absurd (if_neg h1) h
theorem kw_sl_lt {x : Nat} (h : x < 32) : kw_sl x = nI x ∧ x < 32 := ⟨if_pos h, h⟩
theorem kw_pa_in {x : Nat} (h : ¬ kw_pa x = -2) : kw_pa x = nI x ∧ x < 4 := by
  by_cases h1 : x < 4
  · exact ⟨if_pos h1, h1⟩
  · exact absurd (if_neg h1) h
/-- whoever lies in a frame knows it -/
def kw_FI (S : kw_S) : Prop := ∀ f, f < 6 → S.2 5 0 f < 32 → S.2 10 (S.2 5 0 f) 0 = f
theorem kw_FI_of {S S2 : kw_S} (h : kw_FI S) (h5 : S2.2 5 = S.2 5) (h10 : S2.2 10 = S.2 10) : kw_FI S2 := by
  intro f hf
  rw [h5, h10]
  exact h f hf
theorem kw_sn_nc {S : kw_S} {c i j v a : Nat} (h : a ≠ c) : (kw_sn S c i j v).2 a = S.2 a := funext fun _ => kw_sn_ne (fun q => h q.1)
theorem kw_si_nc {S : kw_S} {c i j a : Nat} {v : Int32} (h : a ≠ c) : (kw_si S c i j v).1 a = S.1 a := funext fun _ => kw_si_ne (fun q => h q.1)
theorem kw_sr_nc {S : kw_S} {c i a : Nat} {f : Nat → Int32} (h : a ≠ c) : (kw_sr S c i f).1 a = S.1 a := funext fun _ => kw_sr_ne (fun q => h q.1)
end
section
def k_M_taken_AF_L4 : Nat → Nat → Int32 → kw_S → Int32
  | 0, i, n, S0 =>
    n
  | i_n + 1, i, n, S0 =>
    if S0.2 5 0 i < 32 then
      let x103 := n + Int32.ofInt (1)
      k_M_taken_AF_L4 i_n (i + 1) x103 S0
    else
      k_M_taken_AF_L4 i_n (i + 1) n S0
set_option maxHeartbeats 4000000 in
set_option maxRecDepth 100000 in
theorem c_M_taken_AF_L4 {l : Launch} {D : va_G} {cI cT cS : ClassId} {ad : Nat → Nat} {p_ : Program} {e_ : Env} {s_ : State} {m_ : MethodId} {args : Array Value} {below : List Frame} {meth : Method} {c_ : Code} {sz : Nat} (hinj : wl_inj 83 ad) (X : wl_X p_ s_ m_ args c_ b_M_taken R_M TT D classes (kw_ty cI cT cS) 83 ad (wl_A 83 ad s_.heap.size)) (hsz : s_.heap.size = sz) (hml : c_.maxLocals = 3) (hr : meth.sig.returnType = some .int) (hlocks : meth.locks = false) :
    ∀ (i_n i : Nat) (n : Int32) (S0 : kw_S) (h_i : i + i_n = 6) (H : Heap) (locs : List Loc) (ls : Array Slot), lv_has ls 3 [(0, .ref (ad 5)), (1, .int n), (2, .int (nI i))] → va_P D classes (wl_W 83 ad (kw_C cI cT cS ad S0)) H → va_S (wl_A 83 ad s_.heap.size) s_.heap H locs → W p_ l e_ (rm_ 0) s_ m_ args below meth c_ H locs 0 0 (MQ below (wl_Qi D classes (kw_ty cI cT cS) 83 ad (k_M_taken_AF_L4 i_n i n S0) (kw_C cI cT cS ad S0) sz) args s_ 0 0 (wl_A 83 ad sz)) (F0 m_ 4 ls []) := by
  have hx := X.1
  have hb := X.2.1
  have hA : ∀ q, s_.heap.size ≤ q → (wl_A 83 ad s_.heap.size) q := fun q h => Or.inr h
  intro i_n
  induction i_n with
  | zero =>
    intro i n S0 h_i H locs ls hl hP hS
    refine lv_iload_n hx hb d_M_taken_4 rfl (lv_at hl 2 rfl) ?_
    refine lv_aload_n hx hb d_M_taken_5 rfl (lv_at hl 0 rfl) ?_
    refine wl_alen X hP (i := 5) (by decide) 2 (kw_cAF ) rfl d_M_taken_6 ?_
    refine wl_top (y := nI 6) rfl ?_
    refine lv_icmp_ge (tgt := 25) hx hb d_M_taken_7 (by decide) (fun c1 => ?_) (fun c1 => ?_)
    · skip
      refine lv_iload_n hx hb d_M_taken_25 rfl (lv_at hl 1 rfl) ?_
      have hE : k_M_taken_AF_L4 0 i n S0 = n := by
        exact rfl
      rw [hE]
      exact wl_iret X hsz hr hlocks hP hS d_M_taken_26
    · exact absurd (sk_lhz h_i) c1
  | succ i_n ih =>
    intro i n S0 h_i H locs ls hl hP hS
    refine lv_iload_n hx hb d_M_taken_4 rfl (lv_at hl 2 rfl) ?_
    refine lv_aload_n hx hb d_M_taken_5 rfl (lv_at hl 0 rfl) ?_
    refine wl_alen X hP (i := 5) (by decide) 2 (kw_cAF ) rfl d_M_taken_6 ?_
    refine wl_top (y := nI 6) rfl ?_
    refine lv_icmp_ge (tgt := 25) hx hb d_M_taken_7 (by decide) (fun c101 => ?_) (fun c101 => ?_)
    · exact absurd c101 (sk_lhs h_i)
    · skip
      refine lv_aload_n hx hb d_M_taken_10 rfl (lv_at hl 0 rfl) ?_
      refine lv_iload_n hx hb d_M_taken_11 rfl (lv_at hl 2 rfl) ?_
      refine wl_aald X hP (i := 5) (by decide) 2 (kw_cAF ) rfl (j := i) rfl (by omega) (by decide) d_M_taken_12 ?_
      refine kw_caseE (fun h102 => ?_) (fun h102 => ?_)
      · skip
        refine lv_ifnull hx hb d_M_taken_13 ?_
        obtain ⟨x103, ex103⟩ : ∃ z : Int32, z = n + Int32.ofInt (1) := ⟨_, rfl⟩
        refine lv_iinc (v := x103) (lv' := [(1, .int x103), (0, .ref (ad 5)), (2, .int (nI i))]) hx hb d_M_taken_16 hl (k := 1) rfl (ex103.symm) (by decide) rfl (fun ls hl => ?_)
        refine lv_iinc (v := nI (i + 1)) (lv' := [(2, .int (nI (i + 1))), (1, .int x103), (0, .ref (ad 5))]) hx hb d_M_taken_19 hl (k := 2) rfl (nI_1 _) (by decide) rfl (fun ls hl => ?_)
        refine lv_goto (tgt := 4) hx hb d_M_taken_22 (by decide) ?_
        have hE : k_M_taken_AF_L4 (i_n + 1) i n S0 = k_M_taken_AF_L4 i_n (i + 1) x103 S0 := by
          subst ex103
          exact ((if_pos h102).trans rfl)
        rw [hE]
        exact ih (i + 1) x103 S0 (by omega) _ _ _ (lv_sub hl [2, 1, 0] rfl) hP hS
      · skip
        refine lv_ifnullN (tgt := 19) hx hb d_M_taken_13 (by decide) ?_
        refine lv_iinc (v := nI (i + 1)) (lv' := [(2, .int (nI (i + 1))), (0, .ref (ad 5)), (1, .int n)]) hx hb d_M_taken_19 hl (k := 2) rfl (nI_1 _) (by decide) rfl (fun ls hl => ?_)
        refine lv_goto (tgt := 4) hx hb d_M_taken_22 (by decide) ?_
        have hE : k_M_taken_AF_L4 (i_n + 1) i n S0 = k_M_taken_AF_L4 i_n (i + 1) n S0 := by
          exact ((if_neg h102).trans rfl)
        rw [hE]
        exact ih (i + 1) n S0 (by omega) _ _ _ (lv_sub hl [1, 2, 0] rfl) hP hS
def k_M_taken_AF (S0 : kw_S) : Int32 :=
  k_M_taken_AF_L4 6 0 (0 : Int32) S0
set_option maxHeartbeats 4000000 in
set_option maxRecDepth 100000 in
theorem c_M_taken_AF {l : Launch} {D : va_G} {cI cT cS : ClassId} {ad : Nat → Nat} (hinj : wl_inj 83 ad) (S0 : kw_S)  : wl_Mi l y_M_taken (Cond.code y_M_taken b_M_taken 3 (some .int) :: TT) (rm_ 0) D classes (kw_ty cI cT cS) 83 ad [.ref (ad 5)] (kw_C cI cT cS ad S0) (k_M_taken_AF S0) (kw_C cI cT cS ad S0) := by
  intro sz
  refine wl_enter (own := R_M) rfl (by decide) (Nat.le_of_ble_eq_true rfl) hinj (fun p_ e_ s_ m_ below meth c_ ls hsz X hml hr hlocks hl hP hS => ?_)
  have hx := X.1
  have hb := X.2.1
  have hA : ∀ q, s_.heap.size ≤ q → (wl_A 83 ad s_.heap.size) q := fun q h => Or.inr h
  have hl : lv_has ls 3 [(0, .ref (ad 5))] := hl
  refine lv_iconst (v := 0) hx hb d_M_taken_0 (by decide) ?_
  refine lv_istore_n (lv' := [(1, .int (0 : Int32)), (0, .ref (ad 5))]) hx hb d_M_taken_1 rfl hl (by decide) rfl (fun ls hl => ?_)
  refine lv_iconst (v := 0) hx hb d_M_taken_2 (by decide) ?_
  refine lv_istore_n (lv' := [(2, .int (0 : Int32)), (1, .int (0 : Int32)), (0, .ref (ad 5))]) hx hb d_M_taken_3 rfl hl (by decide) rfl (fun ls hl => ?_)
  have hE : k_M_taken_AF S0 = k_M_taken_AF_L4 6 0 (0 : Int32) S0 := by
    exact rfl
  rw [hE]
  exact c_M_taken_AF_L4 hinj X hsz hml hr hlocks 6 0 (0 : Int32) S0 (by omega) _ _ _ (lv_sub hl [2, 1, 0] rfl) hP hS
def k_M_taken_AL_L4 : Nat → Nat → Int32 → kw_S → Int32
  | 0, i, n, S0 =>
    n
  | i_n + 1, i, n, S0 =>
    if S0.2 6 0 i < 32 then
      let x103 := n + Int32.ofInt (1)
      k_M_taken_AL_L4 i_n (i + 1) x103 S0
    else
      k_M_taken_AL_L4 i_n (i + 1) n S0
set_option maxHeartbeats 4000000 in
set_option maxRecDepth 100000 in
theorem c_M_taken_AL_L4 {l : Launch} {D : va_G} {cI cT cS : ClassId} {ad : Nat → Nat} {p_ : Program} {e_ : Env} {s_ : State} {m_ : MethodId} {args : Array Value} {below : List Frame} {meth : Method} {c_ : Code} {sz : Nat} (hinj : wl_inj 83 ad) (X : wl_X p_ s_ m_ args c_ b_M_taken R_M TT D classes (kw_ty cI cT cS) 83 ad (wl_A 83 ad s_.heap.size)) (hsz : s_.heap.size = sz) (hml : c_.maxLocals = 3) (hr : meth.sig.returnType = some .int) (hlocks : meth.locks = false) :
    ∀ (i_n i : Nat) (n : Int32) (S0 : kw_S) (h_i : i + i_n = 32) (H : Heap) (locs : List Loc) (ls : Array Slot), lv_has ls 3 [(0, .ref (ad 6)), (1, .int n), (2, .int (nI i))] → va_P D classes (wl_W 83 ad (kw_C cI cT cS ad S0)) H → va_S (wl_A 83 ad s_.heap.size) s_.heap H locs → W p_ l e_ (rm_ 0) s_ m_ args below meth c_ H locs 0 0 (MQ below (wl_Qi D classes (kw_ty cI cT cS) 83 ad (k_M_taken_AL_L4 i_n i n S0) (kw_C cI cT cS ad S0) sz) args s_ 0 0 (wl_A 83 ad sz)) (F0 m_ 4 ls []) := by
  have hx := X.1
  have hb := X.2.1
  have hA : ∀ q, s_.heap.size ≤ q → (wl_A 83 ad s_.heap.size) q := fun q h => Or.inr h
  intro i_n
  induction i_n with
  | zero =>
    intro i n S0 h_i H locs ls hl hP hS
    refine lv_iload_n hx hb d_M_taken_4 rfl (lv_at hl 2 rfl) ?_
    refine lv_aload_n hx hb d_M_taken_5 rfl (lv_at hl 0 rfl) ?_
    refine wl_alen X hP (i := 6) (by decide) 2 (kw_cAL ) rfl d_M_taken_6 ?_
    refine wl_top (y := nI 32) rfl ?_
    refine lv_icmp_ge (tgt := 25) hx hb d_M_taken_7 (by decide) (fun c1 => ?_) (fun c1 => ?_)
    · skip
      refine lv_iload_n hx hb d_M_taken_25 rfl (lv_at hl 1 rfl) ?_
      have hE : k_M_taken_AL_L4 0 i n S0 = n := by
        exact rfl
      rw [hE]
      exact wl_iret X hsz hr hlocks hP hS d_M_taken_26
    · exact absurd (sk_lhz h_i) c1
  | succ i_n ih =>
    intro i n S0 h_i H locs ls hl hP hS
    refine lv_iload_n hx hb d_M_taken_4 rfl (lv_at hl 2 rfl) ?_
    refine lv_aload_n hx hb d_M_taken_5 rfl (lv_at hl 0 rfl) ?_
    refine wl_alen X hP (i := 6) (by decide) 2 (kw_cAL ) rfl d_M_taken_6 ?_
    refine wl_top (y := nI 32) rfl ?_
    refine lv_icmp_ge (tgt := 25) hx hb d_M_taken_7 (by decide) (fun c101 => ?_) (fun c101 => ?_)
    · exact absurd c101 (sk_lhs h_i)
    · skip
      refine lv_aload_n hx hb d_M_taken_10 rfl (lv_at hl 0 rfl) ?_
      refine lv_iload_n hx hb d_M_taken_11 rfl (lv_at hl 2 rfl) ?_
      refine wl_aald X hP (i := 6) (by decide) 2 (kw_cAL ) rfl (j := i) rfl (by omega) (by decide) d_M_taken_12 ?_
      refine kw_caseE (fun h102 => ?_) (fun h102 => ?_)
      · skip
        refine lv_ifnull hx hb d_M_taken_13 ?_
        obtain ⟨x103, ex103⟩ : ∃ z : Int32, z = n + Int32.ofInt (1) := ⟨_, rfl⟩
        refine lv_iinc (v := x103) (lv' := [(1, .int x103), (0, .ref (ad 6)), (2, .int (nI i))]) hx hb d_M_taken_16 hl (k := 1) rfl (ex103.symm) (by decide) rfl (fun ls hl => ?_)
        refine lv_iinc (v := nI (i + 1)) (lv' := [(2, .int (nI (i + 1))), (1, .int x103), (0, .ref (ad 6))]) hx hb d_M_taken_19 hl (k := 2) rfl (nI_1 _) (by decide) rfl (fun ls hl => ?_)
        refine lv_goto (tgt := 4) hx hb d_M_taken_22 (by decide) ?_
        have hE : k_M_taken_AL_L4 (i_n + 1) i n S0 = k_M_taken_AL_L4 i_n (i + 1) x103 S0 := by
          subst ex103
          exact ((if_pos h102).trans rfl)
        rw [hE]
        exact ih (i + 1) x103 S0 (by omega) _ _ _ (lv_sub hl [2, 1, 0] rfl) hP hS
      · skip
        refine lv_ifnullN (tgt := 19) hx hb d_M_taken_13 (by decide) ?_
        refine lv_iinc (v := nI (i + 1)) (lv' := [(2, .int (nI (i + 1))), (0, .ref (ad 6)), (1, .int n)]) hx hb d_M_taken_19 hl (k := 2) rfl (nI_1 _) (by decide) rfl (fun ls hl => ?_)
        refine lv_goto (tgt := 4) hx hb d_M_taken_22 (by decide) ?_
        have hE : k_M_taken_AL_L4 (i_n + 1) i n S0 = k_M_taken_AL_L4 i_n (i + 1) n S0 := by
          exact ((if_neg h102).trans rfl)
        rw [hE]
        exact ih (i + 1) n S0 (by omega) _ _ _ (lv_sub hl [1, 2, 0] rfl) hP hS
def k_M_taken_AL (S0 : kw_S) : Int32 :=
  k_M_taken_AL_L4 32 0 (0 : Int32) S0
set_option maxHeartbeats 4000000 in
set_option maxRecDepth 100000 in
theorem c_M_taken_AL {l : Launch} {D : va_G} {cI cT cS : ClassId} {ad : Nat → Nat} (hinj : wl_inj 83 ad) (S0 : kw_S)  : wl_Mi l y_M_taken (Cond.code y_M_taken b_M_taken 3 (some .int) :: TT) (rm_ 0) D classes (kw_ty cI cT cS) 83 ad [.ref (ad 6)] (kw_C cI cT cS ad S0) (k_M_taken_AL S0) (kw_C cI cT cS ad S0) := by
  intro sz
  refine wl_enter (own := R_M) rfl (by decide) (Nat.le_of_ble_eq_true rfl) hinj (fun p_ e_ s_ m_ below meth c_ ls hsz X hml hr hlocks hl hP hS => ?_)
  have hx := X.1
  have hb := X.2.1
  have hA : ∀ q, s_.heap.size ≤ q → (wl_A 83 ad s_.heap.size) q := fun q h => Or.inr h
  have hl : lv_has ls 3 [(0, .ref (ad 6))] := hl
  refine lv_iconst (v := 0) hx hb d_M_taken_0 (by decide) ?_
  refine lv_istore_n (lv' := [(1, .int (0 : Int32)), (0, .ref (ad 6))]) hx hb d_M_taken_1 rfl hl (by decide) rfl (fun ls hl => ?_)
  refine lv_iconst (v := 0) hx hb d_M_taken_2 (by decide) ?_
  refine lv_istore_n (lv' := [(2, .int (0 : Int32)), (1, .int (0 : Int32)), (0, .ref (ad 6))]) hx hb d_M_taken_3 rfl hl (by decide) rfl (fun ls hl => ?_)
  have hE : k_M_taken_AL S0 = k_M_taken_AL_L4 32 0 (0 : Int32) S0 := by
    exact rfl
  rw [hE]
  exact c_M_taken_AL_L4 hinj X hsz hml hr hlocks 32 0 (0 : Int32) S0 (by omega) _ _ _ (lv_sub hl [2, 1, 0] rfl) hP hS
def k_M_newSheet_J26 (i : Nat) (S0 : kw_S) : Nat × kw_S :=
  let S1 := k_J_fill_AW S0 i (0 : Int32)
  let S2 := kw_si S1 10 i 0 (1 : Int32)
  (i, S2)
set_option maxHeartbeats 4000000 in
set_option maxRecDepth 100000 in
theorem c_M_newSheet_J26 {l : Launch} {D : va_G} {cI cT cS : ClassId} {ad : Nat → Nat} {p_ : Program} {e_ : Env} {s_ : State} {m_ : MethodId} {args : Array Value} {below : List Frame} {meth : Method} {c_ : Code} {sz : Nat} (hinj : wl_inj 83 ad) (X : wl_X p_ s_ m_ args c_ b_M_newSheet R_M TT D classes (kw_ty cI cT cS) 83 ad (wl_A 83 ad s_.heap.size)) (hsz : s_.heap.size = sz) (hml : c_.maxLocals = 3) (hr : meth.sig.returnType = some (.object "SheetKernel$Sheet")) (hlocks : meth.locks = false) :
    ∀ (x_i : Int32) (i : Nat) (e_i : x_i = nI i) (h_i : i < 32) (S0 : kw_S) (H : Heap) (locs : List Loc) (ls : Array Slot), lv_has ls 3 [(0, .ref (ad 2)), (1, .int x_i)] → va_P D classes (wl_W 83 ad (kw_C cI cT cS ad S0)) H → va_S (wl_A 83 ad s_.heap.size) s_.heap H locs → W p_ l e_ (rm_ 1) s_ m_ args below meth c_ H locs 0 0 (MQ below (wl_Qr D classes (kw_ty cI cT cS) 83 ad (ad (19 + ((k_M_newSheet_J26 i S0).1))) (kw_C cI cT cS ad ((k_M_newSheet_J26 i S0).2)) sz) args s_ 0 0 (wl_A 83 ad sz)) (F0 m_ 26 ls []) := by
  have hx := X.1
  have hb := X.2.1
  have hA : ∀ q, s_.heap.size ≤ q → (wl_A 83 ad s_.heap.size) q := fun q h => Or.inr h
  intro x_i i e_i h_i S0 H locs ls hl hP hS
  subst e_i
  refine lv_aload_n hx hb d_M_newSheet_26 rfl (lv_at hl 0 rfl) ?_
  refine wl_get (v := .ref (ad 4)) X hP (i := 2) (by decide) (kw_cM ) rfl i_M 0 (by decide) lf_M_11 rfl d_M_newSheet_27 ?_
  refine lv_iload_n hx hb d_M_newSheet_30 rfl (lv_at hl 1 rfl) ?_
  refine wl_aald X hP (i := 4) (by decide) 2 (kw_cAS ) rfl (j := i) rfl (by omega) (by decide) d_M_newSheet_31 ?_
  refine wl_topv (y := .ref (ad (19 + i))) rfl ?_
  refine lv_astore_n (lv' := [(2, .ref (ad (19 + i))), (0, .ref (ad 2)), (1, .int (nI i))]) hx hb d_M_newSheet_32 rfl hl (by decide) rfl (fun ls hl => ?_)
  refine lv_aload_n hx hb d_M_newSheet_33 rfl (lv_at hl 0 rfl) ?_
  refine wl_get (v := .ref (ad (51 + i))) X hP (i := (19 + i)) (by omega) (kw_cE (by omega)) rfl i_E 0 (by decide) lf_M_28 rfl d_M_newSheet_34 ?_
  refine lv_iconst (v := 0) hx hb d_M_newSheet_37 (by decide) ?_
  refine wl_gov2 (cf := kw_C cI cT cS ad) (S2 := k_J_fill_AW S0 i (0 : Int32)) hS hA X.2.2.2.2.2.2 (wl_runS (As := [.ref (ad (51 + i)), .int (0 : Int32)]) (rest := []) X hml hl.1 hP g_TT (c_J_fill_AW hinj S0 i (by omega) (0 : Int32) _) wv_M_73 (na := 2) (by decide +kernel) rfl ⟨Nat.le_of_ble_eq_true rfl, Nat.le_of_ble_eq_true rfl⟩ rfl (Nat.le_of_ble_eq_true rfl) d_M_newSheet_38 ⟨Nat.le_refl _, Nat.le_refl _⟩) (fun S1 eS1 H locs hP hS => ?_)
  refine lv_aload_n hx hb d_M_newSheet_41 rfl (lv_at hl 0 rfl) ?_
  refine lv_iconst (v := 1) hx hb d_M_newSheet_42 (by decide) ?_
  refine wl_put X hP hS (i := (19 + i)) (by omega) (kw_cE (by omega)) rfl i_E ft_E ft_E_ok fn_E 1 (by decide) lf_M_59 rfl rfl rfl (Nat.le_of_ble_eq_true rfl) d_M_newSheet_43 (kw_pE_owners (by omega)) (fun H locs hP hS => ?_)
  obtain ⟨S2, eS2⟩ : ∃ z, z = kw_si S1 10 i 0 (1 : Int32) := ⟨_, rfl⟩
  rw [← eS2] at hP
  refine lv_aload_n hx hb d_M_newSheet_46 rfl (lv_at hl 0 rfl) ?_
  have hE : k_M_newSheet_J26 i S0 = (i, S2) := by
    subst eS2
    subst eS1
    exact rfl
  rw [hE]
  exact wl_aret X hsz hr hlocks hP hS d_M_newSheet_47
def k_M_newSheet_L2 : Nat → Nat → kw_S → Nat × kw_S
  | 0, i, S0 =>
    k_M_newSheet_J26 i S0
  | i_n + 1, i, S0 =>
    if (S0.1 10 i 0) ≤ 0 then
      k_M_newSheet_J26 i S0
    else
      k_M_newSheet_L2 i_n (i + 1) S0
set_option maxHeartbeats 4000000 in
set_option maxRecDepth 100000 in
theorem c_M_newSheet_L2 {l : Launch} {D : va_G} {cI cT cS : ClassId} {ad : Nat → Nat} {p_ : Program} {e_ : Env} {s_ : State} {m_ : MethodId} {args : Array Value} {below : List Frame} {meth : Method} {c_ : Code} {sz : Nat} (hinj : wl_inj 83 ad) (X : wl_X p_ s_ m_ args c_ b_M_newSheet R_M TT D classes (kw_ty cI cT cS) 83 ad (wl_A 83 ad s_.heap.size)) (hsz : s_.heap.size = sz) (hml : c_.maxLocals = 3) (hr : meth.sig.returnType = some (.object "SheetKernel$Sheet")) (hlocks : meth.locks = false) :
    ∀ (i_n i : Nat) (S0 : kw_S) (h_i : i + i_n = 31) (H : Heap) (locs : List Loc) (ls : Array Slot), lv_has ls 3 [(0, .ref (ad 2)), (1, .int (nI i))] → va_P D classes (wl_W 83 ad (kw_C cI cT cS ad S0)) H → va_S (wl_A 83 ad s_.heap.size) s_.heap H locs → W p_ l e_ (rm_ 1) s_ m_ args below meth c_ H locs 0 0 (MQ below (wl_Qr D classes (kw_ty cI cT cS) 83 ad (ad (19 + ((k_M_newSheet_L2 i_n i S0).1))) (kw_C cI cT cS ad ((k_M_newSheet_L2 i_n i S0).2)) sz) args s_ 0 0 (wl_A 83 ad sz)) (F0 m_ 2 ls []) := by
  have hx := X.1
  have hb := X.2.1
  have hA : ∀ q, s_.heap.size ≤ q → (wl_A 83 ad s_.heap.size) q := fun q h => Or.inr h
  intro i_n
  induction i_n with
  | zero =>
    intro i S0 h_i H locs ls hl hP hS
    refine lv_iload_n hx hb d_M_newSheet_2 rfl (lv_at hl 1 rfl) ?_
    refine lv_bipush (v := 31) hx hb d_M_newSheet_3 (by decide) ?_
    refine lv_icmp_ge (tgt := 26) hx hb d_M_newSheet_5 (by decide) (fun c1 => ?_) (fun c1 => ?_)
    · skip
      have hE : k_M_newSheet_L2 0 i S0 = k_M_newSheet_J26 i S0 := by
        exact rfl
      rw [hE]
      exact c_M_newSheet_J26 hinj X hsz hml hr hlocks (nI i) i rfl (by omega) S0 _ _ _ (lv_sub hl [0, 1] rfl) hP hS
    · exact absurd (sk_lhz h_i) c1
  | succ i_n ih =>
    intro i S0 h_i H locs ls hl hP hS
    refine lv_iload_n hx hb d_M_newSheet_2 rfl (lv_at hl 1 rfl) ?_
    refine lv_bipush (v := 31) hx hb d_M_newSheet_3 (by decide) ?_
    refine lv_icmp_ge (tgt := 26) hx hb d_M_newSheet_5 (by decide) (fun c101 => ?_) (fun c101 => ?_)
    · exact absurd c101 (sk_lhs h_i)
    · skip
      refine lv_aload_n hx hb d_M_newSheet_8 rfl (lv_at hl 0 rfl) ?_
      refine wl_get (v := .ref (ad 4)) X hP (i := 2) (by decide) (kw_cM ) rfl i_M 0 (by decide) lf_M_11 rfl d_M_newSheet_9 ?_
      refine lv_iload_n hx hb d_M_newSheet_12 rfl (lv_at hl 1 rfl) ?_
      refine wl_aald X hP (i := 4) (by decide) 2 (kw_cAS ) rfl (j := i) rfl (by omega) (by decide) d_M_newSheet_13 ?_
      refine wl_topv (y := .ref (ad (19 + i))) rfl ?_
      refine wl_get (v := .int (S0.1 10 i 0)) X hP (i := (19 + i)) (by omega) (kw_cE (by omega)) rfl i_E 1 (by decide) lf_M_59 rfl d_M_newSheet_14 ?_
      refine lv_if_le (tgt := 26) hx hb d_M_newSheet_17 (by decide) (fun c102 => ?_) (fun c102 => ?_)
      · skip
        have hE : k_M_newSheet_L2 (i_n + 1) i S0 = k_M_newSheet_J26 i S0 := by
          exact ((if_pos c102).trans rfl)
        rw [hE]
        exact c_M_newSheet_J26 hinj X hsz hml hr hlocks (nI i) i rfl (by omega) S0 _ _ _ (lv_sub hl [0, 1] rfl) hP hS
      · skip
        refine lv_iinc (v := nI (i + 1)) (lv' := [(1, .int (nI (i + 1))), (0, .ref (ad 2))]) hx hb d_M_newSheet_20 hl (k := 1) rfl (nI_1 _) (by decide) rfl (fun ls hl => ?_)
        refine lv_goto (tgt := 2) hx hb d_M_newSheet_23 (by decide) ?_
        have hE : k_M_newSheet_L2 (i_n + 1) i S0 = k_M_newSheet_L2 i_n (i + 1) S0 := by
          exact ((if_neg c102).trans rfl)
        rw [hE]
        exact ih (i + 1) S0 (by omega) _ _ _ (lv_sub hl [1, 0] rfl) hP hS
def k_M_newSheet (S0 : kw_S) : Nat × kw_S :=
  k_M_newSheet_L2 31 0 S0
set_option maxHeartbeats 4000000 in
set_option maxRecDepth 100000 in
theorem c_M_newSheet {l : Launch} {D : va_G} {cI cT cS : ClassId} {ad : Nat → Nat} (hinj : wl_inj 83 ad) (S0 : kw_S)  : wl_Mr l y_M_newSheet (Cond.code y_M_newSheet b_M_newSheet 3 (some (.object "SheetKernel$Sheet")) :: TT) (rm_ 1) D classes (kw_ty cI cT cS) 83 ad [.ref (ad 2)] (kw_C cI cT cS ad S0) (ad (19 + ((k_M_newSheet S0).1))) (kw_C cI cT cS ad ((k_M_newSheet S0).2)) := by
  intro sz
  refine wl_enter (own := R_M) rfl (by decide) (Nat.le_of_ble_eq_true rfl) hinj (fun p_ e_ s_ m_ below meth c_ ls hsz X hml hr hlocks hl hP hS => ?_)
  have hx := X.1
  have hb := X.2.1
  have hA : ∀ q, s_.heap.size ≤ q → (wl_A 83 ad s_.heap.size) q := fun q h => Or.inr h
  have hl : lv_has ls 3 [(0, .ref (ad 2))] := hl
  refine lv_iconst (v := 0) hx hb d_M_newSheet_0 (by decide) ?_
  refine lv_istore_n (lv' := [(1, .int (0 : Int32)), (0, .ref (ad 2))]) hx hb d_M_newSheet_1 rfl hl (by decide) rfl (fun ls hl => ?_)
  have hE : k_M_newSheet S0 = k_M_newSheet_L2 31 0 S0 := by
    exact rfl
  rw [hE]
  exact c_M_newSheet_L2 hinj X hsz hml hr hlocks 31 0 S0 (by omega) _ _ _ (lv_sub hl [1, 0] rfl) hP hS
theorem kq_newL {S : kw_S} : ∀ n i, i + n = 31 → (k_M_newSheet_L2 n i S).1 < 32 := by
  intro n
  induction n with
  | zero =>
    intro i h
    show i < 32
    omega
  | succ n ih =>
    intro i h
    by_cases h0 : S.1 10 i 0 ≤ 0
    · have e : k_M_newSheet_L2 (n + 1) i S = k_M_newSheet_J26 i S := if_pos h0
      rw [e]
      show i < 32
      omega
    · have e : k_M_newSheet_L2 (n + 1) i S = k_M_newSheet_L2 n (i + 1) S := if_neg h0
      rw [e]
      exact ih (i + 1) (by omega)
theorem kq_newSheet {S : kw_S} : (k_M_newSheet S).1 < 32 := kq_newL 31 0 rfl
def k_M_copyOf (S0 : kw_S) (e : Nat) : Nat × kw_S :=
  let r1 := (k_M_newSheet S0).1
  let S2 := (k_M_newSheet S0).2
  let S3 := kw_sr S2 11 r1 (va_cpy (S2.1 11 e) (S2.1 11 r1) 0 0 8)
  let S4 := kw_si S3 10 e 0 ((S3.1 10 e 0) - (1 : Int32))
  let S5 := kw_si S4 2 0 3 ((S4.1 2 0 3) + (1 : Int32))
  (r1, S5)
set_option maxHeartbeats 4000000 in
set_option maxRecDepth 100000 in
theorem c_M_copyOf {l : Launch} {D : va_G} {cI cT cS : ClassId} {ad : Nat → Nat} (hinj : wl_inj 83 ad) (S0 : kw_S) (e : Nat) (h_e : e < 32) : wl_Mr l y_M_copyOf (Cond.code y_M_copyOf b_M_copyOf 3 (some (.object "SheetKernel$Sheet")) :: TT) (rm_ 2) D classes (kw_ty cI cT cS) 83 ad [.ref (ad 2), .ref (ad (19 + e))] (kw_C cI cT cS ad S0) (ad (19 + ((k_M_copyOf S0 e).1))) (kw_C cI cT cS ad ((k_M_copyOf S0 e).2)) := by
  intro sz
  refine wl_enter (own := R_M) rfl (by decide) (Nat.le_of_ble_eq_true rfl) hinj (fun p_ e_ s_ m_ below meth c_ ls hsz X hml hr hlocks hl hP hS => ?_)
  have hx := X.1
  have hb := X.2.1
  have hA : ∀ q, s_.heap.size ≤ q → (wl_A 83 ad s_.heap.size) q := fun q h => Or.inr h
  have hl : lv_has ls 3 [(0, .ref (ad 2)), (1, .ref (ad (19 + e)))] := hl
  refine lv_aload_n hx hb d_M_copyOf_0 rfl (lv_at hl 0 rfl) ?_
  refine wl_gor2 (cf := kw_C cI cT cS ad) (pl := fun r => (19 + r)) (res := k_M_newSheet S0) hS hA X.2.2.2.2.2.2 (wl_runV (As := []) (rest := []) X hml hl.1 hP g_TT (c_M_newSheet hinj S0 _) (by decide) (kw_cM ) rfl wv_M_37 (na := 0) (by decide +kernel) rfl ⟨Nat.le_of_ble_eq_true rfl, Nat.le_of_ble_eq_true rfl⟩ rfl (Nat.le_of_ble_eq_true rfl) d_M_copyOf_1 ⟨Nat.le_refl _, Nat.le_refl _⟩) (fun r1 S2 er1 eS2 H locs hP hS => ?_)
  have hc_r : r1 < 32 := by
    rw [er1]
    exact kq_newSheet
  refine lv_astore_n (lv' := [(2, .ref (ad (19 + r1))), (0, .ref (ad 2)), (1, .ref (ad (19 + e)))]) hx hb d_M_copyOf_4 rfl hl (by decide) rfl (fun ls hl => ?_)
  refine lv_aload_n hx hb d_M_copyOf_5 rfl (lv_at hl 2 rfl) ?_
  refine wl_get (v := .ref (ad (51 + e))) X hP (i := (19 + e)) (by omega) (kw_cE (by omega)) rfl i_E 0 (by decide) lf_M_28 rfl d_M_copyOf_6 ?_
  refine lv_iconst (v := 0) hx hb d_M_copyOf_9 (by decide) ?_
  refine lv_aload_n hx hb d_M_copyOf_10 rfl (lv_at hl 0 rfl) ?_
  refine wl_get (v := .ref (ad (51 + r1))) X hP (i := (19 + r1)) (by omega) (kw_cE (by omega)) rfl i_E 0 (by decide) lf_M_28 rfl d_M_copyOf_11 ?_
  refine lv_iconst (v := 0) hx hb d_M_copyOf_14 (by decide) ?_
  refine lv_bipush (v := 8) hx hb d_M_copyOf_15 (by decide) ?_
  refine wl_copyi X (hml.trans hl.1.symm) hP hS (i0 := (51 + e)) (i1 := (51 + r1)) (by omega) (by omega) 0 (kw_cAW (by omega)) (kw_cAW (by omega)) rfl (k := 8) (by decide) (by decide) (by decide) w_copy (Nat.le_of_ble_eq_true rfl) (Nat.le_of_ble_eq_true rfl) d_M_copyOf_17 (kw_pfAW (by omega)) (fun H locs hP hS => ?_)
  obtain ⟨S3, eS3⟩ : ∃ z, z = kw_sr S2 11 r1 (va_cpy (S2.1 11 e) (S2.1 11 r1) 0 0 8) := ⟨_, rfl⟩
  rw [← eS3] at hP
  refine lv_aload_n hx hb d_M_copyOf_20 rfl (lv_at hl 2 rfl) ?_
  refine lv_dup hx hb d_M_copyOf_21 rfl ?_
  refine wl_get (v := .int (S3.1 10 e 0)) X hP (i := (19 + e)) (by omega) (kw_cE (by omega)) rfl i_E 1 (by decide) lf_M_59 rfl d_M_copyOf_22 ?_
  refine lv_iconst (v := 1) hx hb d_M_copyOf_25 (by decide) ?_
  refine lv_isub hx hb d_M_copyOf_26 ?_
  refine wl_put X hP hS (i := (19 + e)) (by omega) (kw_cE (by omega)) rfl i_E ft_E ft_E_ok fn_E 1 (by decide) lf_M_59 rfl rfl rfl (Nat.le_of_ble_eq_true rfl) d_M_copyOf_27 (kw_pE_owners (by omega)) (fun H locs hP hS => ?_)
  obtain ⟨S4, eS4⟩ : ∃ z, z = kw_si S3 10 e 0 ((S3.1 10 e 0) - (1 : Int32)) := ⟨_, rfl⟩
  rw [← eS4] at hP
  refine lv_aload_n hx hb d_M_copyOf_30 rfl (lv_at hl 1 rfl) ?_
  refine lv_dup hx hb d_M_copyOf_31 rfl ?_
  refine wl_get (v := .int (S4.1 2 0 3)) X hP (i := 2) (by decide) (kw_cM ) rfl i_M 7 (by decide) lf_M_85 rfl d_M_copyOf_32 ?_
  refine lv_iconst (v := 1) hx hb d_M_copyOf_35 (by decide) ?_
  refine lv_iadd hx hb d_M_copyOf_36 ?_
  refine wl_put X hP hS (i := 2) (by decide) (kw_cM ) rfl i_M ft_M ft_M_ok fn_M 7 (by decide) lf_M_85 rfl rfl rfl (Nat.le_of_ble_eq_true rfl) d_M_copyOf_37 (kw_pM_copies ) (fun H locs hP hS => ?_)
  obtain ⟨S5, eS5⟩ : ∃ z, z = kw_si S4 2 0 3 ((S4.1 2 0 3) + (1 : Int32)) := ⟨_, rfl⟩
  rw [← eS5] at hP
  refine lv_aload_n hx hb d_M_copyOf_40 rfl (lv_at hl 0 rfl) ?_
  have hE : k_M_copyOf S0 e = (r1, S5) := by
    subst eS5
    subst eS4
    subst eS3
    subst eS2
    subst er1
    exact rfl
  rw [hE]
  exact wl_aret X hsz hr hlocks hP hS d_M_copyOf_41
def k_M_leastFreeSlot_L2 : Nat → Nat → kw_S → Int32
  | 0, i, S0 =>
    nI i
  | i_n + 1, i, S0 =>
    if S0.2 6 0 i < 32 then
      k_M_leastFreeSlot_L2 i_n (i + 1) S0
    else
      nI i
set_option maxHeartbeats 4000000 in
set_option maxRecDepth 100000 in
theorem c_M_leastFreeSlot_L2 {l : Launch} {D : va_G} {cI cT cS : ClassId} {ad : Nat → Nat} {p_ : Program} {e_ : Env} {s_ : State} {m_ : MethodId} {args : Array Value} {below : List Frame} {meth : Method} {c_ : Code} {sz : Nat} (hinj : wl_inj 83 ad) (X : wl_X p_ s_ m_ args c_ b_M_leastFreeSlot R_M TT D classes (kw_ty cI cT cS) 83 ad (wl_A 83 ad s_.heap.size)) (hsz : s_.heap.size = sz) (hml : c_.maxLocals = 2) (hr : meth.sig.returnType = some .int) (hlocks : meth.locks = false) :
    ∀ (i_n i : Nat) (S0 : kw_S) (h_i : i + i_n = 31) (H : Heap) (locs : List Loc) (ls : Array Slot), lv_has ls 2 [(0, .ref (ad 2)), (1, .int (nI i))] → va_P D classes (wl_W 83 ad (kw_C cI cT cS ad S0)) H → va_S (wl_A 83 ad s_.heap.size) s_.heap H locs → W p_ l e_ (rm_ 0) s_ m_ args below meth c_ H locs 0 0 (MQ below (wl_Qi D classes (kw_ty cI cT cS) 83 ad (k_M_leastFreeSlot_L2 i_n i S0) (kw_C cI cT cS ad S0) sz) args s_ 0 0 (wl_A 83 ad sz)) (F0 m_ 2 ls []) := by
  have hx := X.1
  have hb := X.2.1
  have hA : ∀ q, s_.heap.size ≤ q → (wl_A 83 ad s_.heap.size) q := fun q h => Or.inr h
  intro i_n
  induction i_n with
  | zero =>
    intro i S0 h_i H locs ls hl hP hS
    refine lv_iload_n hx hb d_M_leastFreeSlot_2 rfl (lv_at hl 1 rfl) ?_
    refine lv_bipush (v := 31) hx hb d_M_leastFreeSlot_3 (by decide) ?_
    refine lv_icmp_ge (tgt := 23) hx hb d_M_leastFreeSlot_5 (by decide) (fun c1 => ?_) (fun c1 => ?_)
    · skip
      refine lv_iload_n hx hb d_M_leastFreeSlot_23 rfl (lv_at hl 1 rfl) ?_
      have hE : k_M_leastFreeSlot_L2 0 i S0 = nI i := by
        exact rfl
      rw [hE]
      exact wl_iret X hsz hr hlocks hP hS d_M_leastFreeSlot_24
    · exact absurd (sk_lhz h_i) c1
  | succ i_n ih =>
    intro i S0 h_i H locs ls hl hP hS
    refine lv_iload_n hx hb d_M_leastFreeSlot_2 rfl (lv_at hl 1 rfl) ?_
    refine lv_bipush (v := 31) hx hb d_M_leastFreeSlot_3 (by decide) ?_
    refine lv_icmp_ge (tgt := 23) hx hb d_M_leastFreeSlot_5 (by decide) (fun c101 => ?_) (fun c101 => ?_)
    · exact absurd c101 (sk_lhs h_i)
    · skip
      refine lv_aload_n hx hb d_M_leastFreeSlot_8 rfl (lv_at hl 0 rfl) ?_
      refine wl_get (v := .ref (ad 6)) X hP (i := 2) (by decide) (kw_cM ) rfl i_M 2 (by decide) lf_M_20 rfl d_M_leastFreeSlot_9 ?_
      refine lv_iload_n hx hb d_M_leastFreeSlot_12 rfl (lv_at hl 1 rfl) ?_
      refine wl_aald X hP (i := 6) (by decide) 2 (kw_cAL ) rfl (j := i) rfl (by omega) (by decide) d_M_leastFreeSlot_13 ?_
      refine kw_caseE (fun h102 => ?_) (fun h102 => ?_)
      · skip
        refine lv_ifnull hx hb d_M_leastFreeSlot_14 ?_
        refine lv_iinc (v := nI (i + 1)) (lv' := [(1, .int (nI (i + 1))), (0, .ref (ad 2))]) hx hb d_M_leastFreeSlot_17 hl (k := 1) rfl (nI_1 _) (by decide) rfl (fun ls hl => ?_)
        refine lv_goto (tgt := 2) hx hb d_M_leastFreeSlot_20 (by decide) ?_
        have hE : k_M_leastFreeSlot_L2 (i_n + 1) i S0 = k_M_leastFreeSlot_L2 i_n (i + 1) S0 := by
          exact ((if_pos h102).trans rfl)
        rw [hE]
        exact ih (i + 1) S0 (by omega) _ _ _ (lv_sub hl [1, 0] rfl) hP hS
      · skip
        refine lv_ifnullN (tgt := 23) hx hb d_M_leastFreeSlot_14 (by decide) ?_
        refine lv_iload_n hx hb d_M_leastFreeSlot_23 rfl (lv_at hl 1 rfl) ?_
        have hE : k_M_leastFreeSlot_L2 (i_n + 1) i S0 = nI i := by
          exact ((if_neg h102).trans rfl)
        rw [hE]
        exact wl_iret X hsz hr hlocks hP hS d_M_leastFreeSlot_24
def k_M_leastFreeSlot (S0 : kw_S) : Int32 :=
  k_M_leastFreeSlot_L2 31 0 S0
set_option maxHeartbeats 4000000 in
set_option maxRecDepth 100000 in
theorem c_M_leastFreeSlot {l : Launch} {D : va_G} {cI cT cS : ClassId} {ad : Nat → Nat} (hinj : wl_inj 83 ad) (S0 : kw_S)  : wl_Mi l y_M_leastFreeSlot (Cond.code y_M_leastFreeSlot b_M_leastFreeSlot 2 (some .int) :: TT) (rm_ 0) D classes (kw_ty cI cT cS) 83 ad [.ref (ad 2)] (kw_C cI cT cS ad S0) (k_M_leastFreeSlot S0) (kw_C cI cT cS ad S0) := by
  intro sz
  refine wl_enter (own := R_M) rfl (by decide) (Nat.le_of_ble_eq_true rfl) hinj (fun p_ e_ s_ m_ below meth c_ ls hsz X hml hr hlocks hl hP hS => ?_)
  have hx := X.1
  have hb := X.2.1
  have hA : ∀ q, s_.heap.size ≤ q → (wl_A 83 ad s_.heap.size) q := fun q h => Or.inr h
  have hl : lv_has ls 2 [(0, .ref (ad 2))] := hl
  refine lv_iconst (v := 0) hx hb d_M_leastFreeSlot_0 (by decide) ?_
  refine lv_istore_n (lv' := [(1, .int (0 : Int32)), (0, .ref (ad 2))]) hx hb d_M_leastFreeSlot_1 rfl hl (by decide) rfl (fun ls hl => ?_)
  have hE : k_M_leastFreeSlot S0 = k_M_leastFreeSlot_L2 31 0 S0 := by
    exact rfl
  rw [hE]
  exact c_M_leastFreeSlot_L2 hinj X hsz hml hr hlocks 31 0 S0 (by omega) _ _ _ (lv_sub hl [1, 0] rfl) hP hS
theorem kq_freeL {S : kw_S} : ∀ n i, i + n = 31 → ∃ j, j < 32 ∧ k_M_leastFreeSlot_L2 n i S = nI j := by
  intro n
  induction n with
  | zero => exact fun i h => ⟨i, by omega, rfl⟩
  | succ n ih =>
    intro i h
    by_cases h0 : S.2 6 0 i < 32
    · have e : k_M_leastFreeSlot_L2 (n + 1) i S = k_M_leastFreeSlot_L2 n (i + 1) S := if_pos h0
      rw [e]
      exact ih (i + 1) (by omega)
    · exact ⟨i, by omega, if_neg h0⟩
theorem kq_leastFreeSlot {S : kw_S} : k_M_leastFreeSlot S = nI (k_M_leastFreeSlot S).toNatClampNeg ∧ (k_M_leastFreeSlot S).toNatClampNeg < 32 := by
  obtain ⟨j, hj, h⟩ := kq_freeL (S := S) 31 0 rfl
  have e : k_M_leastFreeSlot S = nI j := h
  rw [e, nI_clamp (by omega)]
  exact ⟨rfl, hj⟩
def k_M_goOut_J49 (e : Nat) (S0 : kw_S) : kw_S :=
  let S1 := kw_sn S0 5 0 (S0.2 10 e 0) 32
  let S2 := kw_sn S1 10 e 0 6
  S2
set_option maxHeartbeats 4000000 in
set_option maxRecDepth 100000 in
theorem c_M_goOut_J49 {l : Launch} {D : va_G} {cI cT cS : ClassId} {ad : Nat → Nat} {p_ : Program} {e_ : Env} {s_ : State} {m_ : MethodId} {args : Array Value} {below : List Frame} {meth : Method} {c_ : Code} {sz : Nat} (hinj : wl_inj 83 ad) (X : wl_X p_ s_ m_ args c_ b_M_goOut R_M TT D classes (kw_ty cI cT cS) 83 ad (wl_A 83 ad s_.heap.size)) (hsz : s_.heap.size = sz) (hml : c_.maxLocals = 2) (hr : meth.sig.returnType = none) (hlocks : meth.locks = false) :
    ∀ (e : Nat) (h_e : e < 32) (S0 : kw_S) (hf : S0.2 10 e 0 < 6) (H : Heap) (locs : List Loc) (ls : Array Slot), lv_has ls 2 [(0, .ref (ad 2)), (1, .ref (ad (19 + e)))] → va_P D classes (wl_W 83 ad (kw_C cI cT cS ad S0)) H → va_S (wl_A 83 ad s_.heap.size) s_.heap H locs → W p_ l e_ (rm_ 1) s_ m_ args below meth c_ H locs 0 0 (MQ below (wl_Qv D classes (kw_ty cI cT cS) 83 ad (kw_C cI cT cS ad (k_M_goOut_J49 e S0)) sz) args s_ 0 0 (wl_A 83 ad sz)) (F0 m_ 49 ls []) := by
  have hx := X.1
  have hb := X.2.1
  have hA : ∀ q, s_.heap.size ≤ q → (wl_A 83 ad s_.heap.size) q := fun q h => Or.inr h
  intro e h_e S0 hf H locs ls hl hP hS
  refine lv_aload_n hx hb d_M_goOut_49 rfl (lv_at hl 0 rfl) ?_
  refine wl_get (v := .ref (ad 5)) X hP (i := 2) (by decide) (kw_cM ) rfl i_M 1 (by decide) lf_M_17 rfl d_M_goOut_50 ?_
  refine lv_aload_n hx hb d_M_goOut_53 rfl (lv_at hl 1 rfl) ?_
  refine wl_get (v := .int (kw_fr (S0.2 10 e 0))) X hP (i := (19 + e)) (by omega) (kw_cE (by omega)) rfl i_E 2 (by decide) lf_M_41 rfl d_M_goOut_54 ?_
  refine lv_null hx hb d_M_goOut_57 ?_
  refine wl_aastN X hP hS (i := 5) (by decide) 2 (kw_cAF ) rfl (j := (S0.2 10 e 0)) (kw_fr_lt hf).1 (kw_fr_lt hf).2 (by decide) d_M_goOut_58 (kw_pnAF ) (fun H locs hP hS => ?_)
  obtain ⟨S1, eS1⟩ : ∃ z, z = kw_sn S0 5 0 (S0.2 10 e 0) 32 := ⟨_, rfl⟩
  rw [← eS1] at hP
  refine lv_aload_n hx hb d_M_goOut_59 rfl (lv_at hl 1 rfl) ?_
  refine lv_bipush (v := -2) hx hb d_M_goOut_60 (by decide) ?_
  refine wl_put X hP hS (i := (19 + e)) (by omega) (kw_cE (by omega)) rfl i_E ft_E ft_E_ok fn_E 2 (by decide) lf_M_41 rfl rfl rfl (Nat.le_of_ble_eq_true rfl) d_M_goOut_62 (kw_pE_frame (x := 6) (by omega) (by decide)) (fun H locs hP hS => ?_)
  obtain ⟨S2, eS2⟩ : ∃ z, z = kw_sn S1 10 e 0 6 := ⟨_, rfl⟩
  rw [← eS2] at hP
  have hE : k_M_goOut_J49 e S0 = S2 := by
    subst eS2
    subst eS1
    exact rfl
  rw [hE]
  exact wl_vret X hsz hr hlocks hP hS d_M_goOut_65
def k_M_goOut_J34 (e : Nat) (S0 : kw_S) : kw_S :=
  let S1 := kw_si S0 2 0 1 ((S0.1 2 0 1) + (1 : Int32))
  let S2 := kw_si S1 10 e 2 (0 : Int32)
  k_M_goOut_J49 e S2
set_option maxHeartbeats 4000000 in
set_option maxRecDepth 100000 in
theorem c_M_goOut_J34 {l : Launch} {D : va_G} {cI cT cS : ClassId} {ad : Nat → Nat} {p_ : Program} {e_ : Env} {s_ : State} {m_ : MethodId} {args : Array Value} {below : List Frame} {meth : Method} {c_ : Code} {sz : Nat} (hinj : wl_inj 83 ad) (X : wl_X p_ s_ m_ args c_ b_M_goOut R_M TT D classes (kw_ty cI cT cS) 83 ad (wl_A 83 ad s_.heap.size)) (hsz : s_.heap.size = sz) (hml : c_.maxLocals = 2) (hr : meth.sig.returnType = none) (hlocks : meth.locks = false) :
    ∀ (e : Nat) (h_e : e < 32) (S0 : kw_S) (hf : S0.2 10 e 0 < 6) (H : Heap) (locs : List Loc) (ls : Array Slot), lv_has ls 2 [(0, .ref (ad 2)), (1, .ref (ad (19 + e)))] → va_P D classes (wl_W 83 ad (kw_C cI cT cS ad S0)) H → va_S (wl_A 83 ad s_.heap.size) s_.heap H locs → W p_ l e_ (rm_ 1) s_ m_ args below meth c_ H locs 0 0 (MQ below (wl_Qv D classes (kw_ty cI cT cS) 83 ad (kw_C cI cT cS ad (k_M_goOut_J34 e S0)) sz) args s_ 0 0 (wl_A 83 ad sz)) (F0 m_ 34 ls []) := by
  have hx := X.1
  have hb := X.2.1
  have hA : ∀ q, s_.heap.size ≤ q → (wl_A 83 ad s_.heap.size) q := fun q h => Or.inr h
  intro e h_e S0 hf H locs ls hl hP hS
  refine lv_aload_n hx hb d_M_goOut_34 rfl (lv_at hl 0 rfl) ?_
  refine lv_dup hx hb d_M_goOut_35 rfl ?_
  refine wl_get (v := .int (S0.1 2 0 1)) X hP (i := 2) (by decide) (kw_cM ) rfl i_M 5 (by decide) lf_M_101 rfl d_M_goOut_36 ?_
  refine lv_iconst (v := 1) hx hb d_M_goOut_39 (by decide) ?_
  refine lv_iadd hx hb d_M_goOut_40 ?_
  refine wl_put X hP hS (i := 2) (by decide) (kw_cM ) rfl i_M ft_M ft_M_ok fn_M 5 (by decide) lf_M_101 rfl rfl rfl (Nat.le_of_ble_eq_true rfl) d_M_goOut_41 (kw_pM_written ) (fun H locs hP hS => ?_)
  obtain ⟨S1, eS1⟩ : ∃ z, z = kw_si S0 2 0 1 ((S0.1 2 0 1) + (1 : Int32)) := ⟨_, rfl⟩
  rw [← eS1] at hP
  refine lv_aload_n hx hb d_M_goOut_44 rfl (lv_at hl 1 rfl) ?_
  refine lv_iconst (v := 0) hx hb d_M_goOut_45 (by decide) ?_
  refine wl_put X hP hS (i := (19 + e)) (by omega) (kw_cE (by omega)) rfl i_E ft_E ft_E_ok fn_E 5 (by decide) lf_M_70 rfl rfl rfl (Nat.le_of_ble_eq_true rfl) d_M_goOut_46 (kw_pE_changed (by omega)) (fun H locs hP hS => ?_)
  obtain ⟨S2, eS2⟩ : ∃ z, z = kw_si S1 10 e 2 (0 : Int32) := ⟨_, rfl⟩
  rw [← eS2] at hP
  have hE : k_M_goOut_J34 e S0 = k_M_goOut_J49 e S2 := by
    subst eS2
    subst eS1
    exact rfl
  rw [hE]
  exact c_M_goOut_J49 hinj X hsz hml hr hlocks e (by omega) S2 (by subst_vars; simpa [kw_sn_at, kw_si_o] using hf) _ _ _ (lv_sub hl [0, 1] rfl) hP hS
def k_M_goOut (S0 : kw_S) (e : Nat) : kw_S :=
  if (S0.1 10 e 2) = 0 then
    k_M_goOut_J49 e S0
  else
    if (kw_sl (S0.2 10 e 1)) = (-2 : Int32) then
      let r3 := k_M_leastFreeSlot S0
      let S4 := kw_sn S0 10 e 1 r3.toNatClampNeg
      let S5 := kw_sn S4 6 0 (S4.2 10 e 1) e
      k_M_goOut_J34 e S5
    else
      k_M_goOut_J34 e S0
set_option maxHeartbeats 4000000 in
set_option maxRecDepth 100000 in
theorem c_M_goOut {l : Launch} {D : va_G} {cI cT cS : ClassId} {ad : Nat → Nat} (hinj : wl_inj 83 ad) (S0 : kw_S) (e : Nat) (h_e : e < 32) (hf : S0.2 10 e 0 < 6) : wl_Mv l y_M_goOut (Cond.code y_M_goOut b_M_goOut 2 none :: TT) (rm_ 1) D classes (kw_ty cI cT cS) 83 ad [.ref (ad 2), .ref (ad (19 + e))] (kw_C cI cT cS ad S0)  (kw_C cI cT cS ad (k_M_goOut S0 e)) := by
  intro sz
  refine wl_enter (own := R_M) rfl (by decide) (Nat.le_of_ble_eq_true rfl) hinj (fun p_ e_ s_ m_ below meth c_ ls hsz X hml hr hlocks hl hP hS => ?_)
  have hx := X.1
  have hb := X.2.1
  have hA : ∀ q, s_.heap.size ≤ q → (wl_A 83 ad s_.heap.size) q := fun q h => Or.inr h
  have hl : lv_has ls 2 [(0, .ref (ad 2)), (1, .ref (ad (19 + e)))] := hl
  refine lv_aload_n hx hb d_M_goOut_0 rfl (lv_at hl 1 rfl) ?_
  refine wl_get (v := .int (S0.1 10 e 2)) X hP (i := (19 + e)) (by omega) (kw_cE (by omega)) rfl i_E 5 (by decide) lf_M_70 rfl d_M_goOut_1 ?_
  refine lv_if_eq (tgt := 49) hx hb d_M_goOut_4 (by decide) (fun c1 => ?_) (fun c1 => ?_)
  · skip
    have hE : k_M_goOut S0 e = k_M_goOut_J49 e S0 := by
      exact ((if_pos c1).trans rfl)
    rw [hE]
    exact c_M_goOut_J49 hinj X hsz hml hr hlocks e (by omega) S0 (by subst_vars; simpa [kw_sn_at, kw_si_o] using hf) _ _ _ (lv_sub hl [0, 1] rfl) hP hS
  · skip
    refine lv_aload_n hx hb d_M_goOut_7 rfl (lv_at hl 1 rfl) ?_
    refine wl_get (v := .int (kw_sl (S0.2 10 e 1))) X hP (i := (19 + e)) (by omega) (kw_cE (by omega)) rfl i_E 3 (by decide) lf_M_49 rfl d_M_goOut_8 ?_
    refine lv_bipush (v := -2) hx hb d_M_goOut_11 (by decide) ?_
    refine lv_icmp_ne (tgt := 34) hx hb d_M_goOut_13 (by decide) (fun c2 => ?_) (fun c2 => ?_)
    · skip
      have hE : k_M_goOut S0 e = k_M_goOut_J34 e S0 := by
        exact ((if_neg c1).trans ((if_neg c2).trans rfl))
      rw [hE]
      exact c_M_goOut_J34 hinj X hsz hml hr hlocks e (by omega) S0 (by subst_vars; simpa [kw_sn_at, kw_si_o] using hf) _ _ _ (lv_sub hl [0, 1] rfl) hP hS
    · skip
      refine lv_aload_n hx hb d_M_goOut_16 rfl (lv_at hl 1 rfl) ?_
      refine lv_aload_n hx hb d_M_goOut_17 rfl (lv_at hl 0 rfl) ?_
      refine wl_goi1 (cf := kw_C cI cT cS ad) (r := k_M_leastFreeSlot S0) hS hA X.2.2.2.2.2.2 (wl_runV (As := []) (rest := [.ref (ad (19 + e))]) X hml hl.1 hP g_TT (c_M_leastFreeSlot hinj S0 _) (by decide) (kw_cM ) rfl wv_M_98 (na := 0) (by decide +kernel) rfl ⟨Nat.le_of_ble_eq_true rfl, Nat.le_of_ble_eq_true rfl⟩ rfl (Nat.le_of_ble_eq_true rfl) d_M_goOut_18 ⟨Nat.le_refl _, Nat.le_refl _⟩) (fun r3 er3 H locs hP hS => ?_)
      obtain ⟨hs1, hs2⟩ := kq_leastFreeSlot (S := S0)
      rw [← er3] at hs1 hs2
      refine wl_put X hP hS (i := (19 + e)) (by omega) (kw_cE (by omega)) rfl i_E ft_E ft_E_ok fn_E 3 (by decide) lf_M_49 rfl rfl rfl (Nat.le_of_ble_eq_true rfl) d_M_goOut_21 (kw_pE_slot (x := r3.toNatClampNeg) (by omega) (by unfold kw_sl; rw [if_pos (by omega)] <;> exact hs1)) (fun H locs hP hS => ?_)
      obtain ⟨S4, eS4⟩ : ∃ z, z = kw_sn S0 10 e 1 r3.toNatClampNeg := ⟨_, rfl⟩
      rw [← eS4] at hP
      refine lv_aload_n hx hb d_M_goOut_24 rfl (lv_at hl 0 rfl) ?_
      refine wl_get (v := .ref (ad 6)) X hP (i := 2) (by decide) (kw_cM ) rfl i_M 2 (by decide) lf_M_20 rfl d_M_goOut_25 ?_
      refine lv_aload_n hx hb d_M_goOut_28 rfl (lv_at hl 1 rfl) ?_
      refine wl_get (v := .int (kw_sl (S4.2 10 e 1))) X hP (i := (19 + e)) (by omega) (kw_cE (by omega)) rfl i_E 3 (by decide) lf_M_49 rfl d_M_goOut_29 ?_
      refine lv_aload_n hx hb d_M_goOut_32 rfl (lv_at hl 1 rfl) ?_
      have hq : S4.2 10 e 1 < 32 := by
        rw [eS4, kw_sn_at, if_pos ⟨rfl, rfl, rfl⟩]
        exact hs2
      refine wl_aast X hP hS (i := 6) (by decide) 2 (r := (R_E, F_E, 6)) (kw_cAL ) rfl (j := (S4.2 10 e 1)) (kw_sl_lt hq).1 (kw_sl_lt hq).2 (by decide) (k := (19 + e)) (by omega) (kw_cE (by omega)) rfl d_M_goOut_33 (kw_prAL  (by omega)) (fun H locs hP hS => ?_)
      obtain ⟨S5, eS5⟩ : ∃ z, z = kw_sn S4 6 0 (S4.2 10 e 1) e := ⟨_, rfl⟩
      rw [← eS5] at hP
      have hE : k_M_goOut S0 e = k_M_goOut_J34 e S5 := by
        subst eS5
        subst eS4
        subst er3
        exact ((if_neg c1).trans ((if_pos c2).trans rfl))
      rw [hE]
      exact c_M_goOut_J34 hinj X hsz hml hr hlocks e (by omega) S5 (by subst_vars; simpa [kw_sn_at, kw_si_o] using hf) _ _ _ (lv_sub hl [0, 1] rfl) hP hS
def k_M_chooseFrame_J80  (S0 : kw_S) : Int32 × kw_S :=
  let x1 := nI ((S0.2 2 0 0) % 6)
  let S2 := kw_sn S0 2 0 0 ((((S0.2 2 0 0) % 6) + 1) % 6)
  (x1, S2)
set_option maxHeartbeats 4000000 in
set_option maxRecDepth 100000 in
theorem c_M_chooseFrame_J80 {l : Launch} {D : va_G} {cI cT cS : ClassId} {ad : Nat → Nat} {p_ : Program} {e_ : Env} {s_ : State} {m_ : MethodId} {args : Array Value} {below : List Frame} {meth : Method} {c_ : Code} {sz : Nat} (hinj : wl_inj 83 ad) (X : wl_X p_ s_ m_ args c_ b_M_chooseFrame R_M TT D classes (kw_ty cI cT cS) 83 ad (wl_A 83 ad s_.heap.size)) (hsz : s_.heap.size = sz) (hml : c_.maxLocals = 2) (hr : meth.sig.returnType = some .int) (hlocks : meth.locks = false) :
    ∀ (S0 : kw_S) (H : Heap) (locs : List Loc) (ls : Array Slot), lv_has ls 2 [(0, .ref (ad 2))] → va_P D classes (wl_W 83 ad (kw_C cI cT cS ad S0)) H → va_S (wl_A 83 ad s_.heap.size) s_.heap H locs → W p_ l e_ (rm_ 0) s_ m_ args below meth c_ H locs 0 0 (MQ below (wl_Qi D classes (kw_ty cI cT cS) 83 ad ((k_M_chooseFrame_J80 S0).1) (kw_C cI cT cS ad ((k_M_chooseFrame_J80 S0).2)) sz) args s_ 0 0 (wl_A 83 ad sz)) (F0 m_ 80 ls []) := by
  have hx := X.1
  have hb := X.2.1
  have hA : ∀ q, s_.heap.size ≤ q → (wl_A 83 ad s_.heap.size) q := fun q h => Or.inr h
  intro S0 H locs ls hl hP hS
  refine lv_aload_n hx hb d_M_chooseFrame_80 rfl (lv_at hl 0 rfl) ?_
  refine wl_get (v := .int (nI ((S0.2 2 0 0) % 6))) X hP (i := 2) (by decide) (kw_cM ) rfl i_M 3 (by decide) lf_M_95 rfl d_M_chooseFrame_81 ?_
  refine lv_topi (fun x1 ex1 => ?_)
  refine lv_istore_n (lv' := [(1, .int x1), (0, .ref (ad 2))]) hx hb d_M_chooseFrame_84 rfl hl (by decide) rfl (fun ls hl => ?_)
  refine lv_aload_n hx hb d_M_chooseFrame_85 rfl (lv_at hl 1 rfl) ?_
  refine lv_aload_n hx hb d_M_chooseFrame_86 rfl (lv_at hl 1 rfl) ?_
  refine wl_get (v := .int (nI ((S0.2 2 0 0) % 6))) X hP (i := 2) (by decide) (kw_cM ) rfl i_M 3 (by decide) lf_M_95 rfl d_M_chooseFrame_87 ?_
  refine lv_iconst (v := 1) hx hb d_M_chooseFrame_90 (by decide) ?_
  refine lv_iadd hx hb d_M_chooseFrame_91 ?_
  refine lv_bipush (v := 6) hx hb d_M_chooseFrame_92 (by decide) ?_
  refine lv_irem hx hb d_M_chooseFrame_94 (by decide) ?_
  refine wl_put X hP hS (i := 2) (by decide) (kw_cM ) rfl i_M ft_M ft_M_ok fn_M 3 (by decide) lf_M_95 rfl rfl rfl (Nat.le_of_ble_eq_true rfl) d_M_chooseFrame_95 (kw_pM_hand (x := ((((S0.2 2 0 0) % 6) + 1) % 6))  (by rw [Nat.mod_eq_of_lt (show ((((S0.2 2 0 0) % 6) + 1) % 6) < 6 by omega)] <;> exact ((congr (congrArg (fun (a b : Int32) => a - a / b * b) (show (nI ((S0.2 2 0 0) % 6)) + (1 : Int32) = nI (((S0.2 2 0 0) % 6) + 1) from (show (nI ((S0.2 2 0 0) % 6)) + (1 : Int32) = nI (((S0.2 2 0 0) % 6) + 1) from nI_add ((S0.2 2 0 0) % 6) 1))) (show (6 : Int32) = nI 6 from rfl)).trans (pk_rem (a := (((S0.2 2 0 0) % 6) + 1)) (d := 6) (by omega) (by omega) (by omega))))) (fun H locs hP hS => ?_)
  obtain ⟨S2, eS2⟩ : ∃ z, z = kw_sn S0 2 0 0 ((((S0.2 2 0 0) % 6) + 1) % 6) := ⟨_, rfl⟩
  rw [← eS2] at hP
  refine lv_iload_n hx hb d_M_chooseFrame_98 rfl (lv_at hl 0 rfl) ?_
  have hE : k_M_chooseFrame_J80 S0 = (x1, S2) := by
    subst eS2
    subst ex1
    exact rfl
  rw [hE]
  exact wl_iret X hsz hr hlocks hP hS d_M_chooseFrame_99
def k_M_chooseFrame_L27 : Nat → Nat → kw_S → Int32 × kw_S
  | 0, i, S0 =>
    k_M_chooseFrame_J80 S0
  | i_n + 1, i, S0 =>
    if (S0.1 10 (S0.2 5 0 ((S0.2 2 0 0) % 6)) 1) = 0 then
      k_M_chooseFrame_J80 S0
    else
      let S105 := kw_si S0 10 (S0.2 5 0 ((S0.2 2 0 0) % 6)) 1 (0 : Int32)
      let S106 := kw_sn S105 2 0 0 ((((S105.2 2 0 0) % 6) + 1) % 6)
      k_M_chooseFrame_L27 i_n (i + 1) S106
set_option maxHeartbeats 4000000 in
set_option maxRecDepth 100000 in
theorem c_M_chooseFrame_L27 {l : Launch} {D : va_G} {cI cT cS : ClassId} {ad : Nat → Nat} {p_ : Program} {e_ : Env} {s_ : State} {m_ : MethodId} {args : Array Value} {below : List Frame} {meth : Method} {c_ : Code} {sz : Nat} (hinj : wl_inj 83 ad) (X : wl_X p_ s_ m_ args c_ b_M_chooseFrame R_M TT D classes (kw_ty cI cT cS) 83 ad (wl_A 83 ad s_.heap.size)) (hsz : s_.heap.size = sz) (hml : c_.maxLocals = 2) (hr : meth.sig.returnType = some .int) (hlocks : meth.locks = false) :
    ∀ (i_n i : Nat) (S0 : kw_S) (h_i : i + i_n = 6) (hF : ∀ f, f < 6 → S0.2 5 0 f < 32) (H : Heap) (locs : List Loc) (ls : Array Slot), lv_has ls 2 [(0, .ref (ad 2)), (1, .int (nI i))] → va_P D classes (wl_W 83 ad (kw_C cI cT cS ad S0)) H → va_S (wl_A 83 ad s_.heap.size) s_.heap H locs → W p_ l e_ (rm_ 0) s_ m_ args below meth c_ H locs 0 0 (MQ below (wl_Qi D classes (kw_ty cI cT cS) 83 ad ((k_M_chooseFrame_L27 i_n i S0).1) (kw_C cI cT cS ad ((k_M_chooseFrame_L27 i_n i S0).2)) sz) args s_ 0 0 (wl_A 83 ad sz)) (F0 m_ 27 ls []) := by
  have hx := X.1
  have hb := X.2.1
  have hA : ∀ q, s_.heap.size ≤ q → (wl_A 83 ad s_.heap.size) q := fun q h => Or.inr h
  intro i_n
  induction i_n with
  | zero =>
    intro i S0 h_i hF H locs ls hl hP hS
    refine lv_iload_n hx hb d_M_chooseFrame_27 rfl (lv_at hl 1 rfl) ?_
    refine lv_bipush (v := 6) hx hb d_M_chooseFrame_28 (by decide) ?_
    refine lv_icmp_ge (tgt := 80) hx hb d_M_chooseFrame_30 (by decide) (fun c1 => ?_) (fun c1 => ?_)
    · skip
      have hE : k_M_chooseFrame_L27 0 i S0 = k_M_chooseFrame_J80 S0 := by
        exact rfl
      rw [hE]
      exact c_M_chooseFrame_J80 hinj X hsz hml hr hlocks S0 _ _ _ (lv_sub hl [0] rfl) hP hS
    · exact absurd (sk_lhz h_i) c1
  | succ i_n ih =>
    intro i S0 h_i hF H locs ls hl hP hS
    refine lv_iload_n hx hb d_M_chooseFrame_27 rfl (lv_at hl 1 rfl) ?_
    refine lv_bipush (v := 6) hx hb d_M_chooseFrame_28 (by decide) ?_
    refine lv_icmp_ge (tgt := 80) hx hb d_M_chooseFrame_30 (by decide) (fun c101 => ?_) (fun c101 => ?_)
    · exact absurd c101 (sk_lhs h_i)
    · skip
      refine lv_aload_n hx hb d_M_chooseFrame_33 rfl (lv_at hl 0 rfl) ?_
      refine wl_get (v := .ref (ad 5)) X hP (i := 2) (by decide) (kw_cM ) rfl i_M 1 (by decide) lf_M_17 rfl d_M_chooseFrame_34 ?_
      refine lv_aload_n hx hb d_M_chooseFrame_37 rfl (lv_at hl 0 rfl) ?_
      refine wl_get (v := .int (nI ((S0.2 2 0 0) % 6))) X hP (i := 2) (by decide) (kw_cM ) rfl i_M 3 (by decide) lf_M_95 rfl d_M_chooseFrame_38 ?_
      refine wl_aald X hP (i := 5) (by decide) 2 (kw_cAF ) rfl (j := ((S0.2 2 0 0) % 6)) rfl (by omega) (by decide) d_M_chooseFrame_41 ?_
      have hn102 : S0.2 5 0 ((S0.2 2 0 0) % 6) < 32 := (hF _ (by omega))
      refine wl_topv (y := .ref (ad (19 + (S0.2 5 0 ((S0.2 2 0 0) % 6))))) (kw_nnE hn102) ?_
      refine wl_get (v := .int (S0.1 10 (S0.2 5 0 ((S0.2 2 0 0) % 6)) 1)) X hP (i := (19 + (S0.2 5 0 ((S0.2 2 0 0) % 6)))) (by omega) (kw_cE (by omega)) rfl i_E 4 (by decide) lf_M_66 rfl d_M_chooseFrame_42 ?_
      refine lv_if_eq (tgt := 80) hx hb d_M_chooseFrame_45 (by decide) (fun c103 => ?_) (fun c103 => ?_)
      · skip
        have hE : k_M_chooseFrame_L27 (i_n + 1) i S0 = k_M_chooseFrame_J80 S0 := by
          exact ((if_pos c103).trans rfl)
        rw [hE]
        exact c_M_chooseFrame_J80 hinj X hsz hml hr hlocks S0 _ _ _ (lv_sub hl [0] rfl) hP hS
      · skip
        refine lv_aload_n hx hb d_M_chooseFrame_48 rfl (lv_at hl 0 rfl) ?_
        refine wl_get (v := .ref (ad 5)) X hP (i := 2) (by decide) (kw_cM ) rfl i_M 1 (by decide) lf_M_17 rfl d_M_chooseFrame_49 ?_
        refine lv_aload_n hx hb d_M_chooseFrame_52 rfl (lv_at hl 0 rfl) ?_
        refine wl_get (v := .int (nI ((S0.2 2 0 0) % 6))) X hP (i := 2) (by decide) (kw_cM ) rfl i_M 3 (by decide) lf_M_95 rfl d_M_chooseFrame_53 ?_
        refine wl_aald X hP (i := 5) (by decide) 2 (kw_cAF ) rfl (j := ((S0.2 2 0 0) % 6)) rfl (by omega) (by decide) d_M_chooseFrame_56 ?_
        have hn104 : S0.2 5 0 ((S0.2 2 0 0) % 6) < 32 := (hF _ (by omega))
        refine wl_topv (y := .ref (ad (19 + (S0.2 5 0 ((S0.2 2 0 0) % 6))))) (kw_nnE hn104) ?_
        refine lv_iconst (v := 0) hx hb d_M_chooseFrame_57 (by decide) ?_
        refine wl_put X hP hS (i := (19 + (S0.2 5 0 ((S0.2 2 0 0) % 6)))) (by omega) (kw_cE (by omega)) rfl i_E ft_E ft_E_ok fn_E 4 (by decide) lf_M_66 rfl rfl rfl (Nat.le_of_ble_eq_true rfl) d_M_chooseFrame_58 (kw_pE_used (by omega)) (fun H locs hP hS => ?_)
        obtain ⟨S105, eS105⟩ : ∃ z, z = kw_si S0 10 (S0.2 5 0 ((S0.2 2 0 0) % 6)) 1 (0 : Int32) := ⟨_, rfl⟩
        rw [← eS105] at hP
        refine lv_aload_n hx hb d_M_chooseFrame_61 rfl (lv_at hl 0 rfl) ?_
        refine lv_aload_n hx hb d_M_chooseFrame_62 rfl (lv_at hl 0 rfl) ?_
        refine wl_get (v := .int (nI ((S105.2 2 0 0) % 6))) X hP (i := 2) (by decide) (kw_cM ) rfl i_M 3 (by decide) lf_M_95 rfl d_M_chooseFrame_63 ?_
        refine lv_iconst (v := 1) hx hb d_M_chooseFrame_66 (by decide) ?_
        refine lv_iadd hx hb d_M_chooseFrame_67 ?_
        refine lv_bipush (v := 6) hx hb d_M_chooseFrame_68 (by decide) ?_
        refine lv_irem hx hb d_M_chooseFrame_70 (by decide) ?_
        refine wl_put X hP hS (i := 2) (by decide) (kw_cM ) rfl i_M ft_M ft_M_ok fn_M 3 (by decide) lf_M_95 rfl rfl rfl (Nat.le_of_ble_eq_true rfl) d_M_chooseFrame_71 (kw_pM_hand (x := ((((S105.2 2 0 0) % 6) + 1) % 6))  (by rw [Nat.mod_eq_of_lt (show ((((S105.2 2 0 0) % 6) + 1) % 6) < 6 by omega)] <;> exact ((congr (congrArg (fun (a b : Int32) => a - a / b * b) (show (nI ((S105.2 2 0 0) % 6)) + (1 : Int32) = nI (((S105.2 2 0 0) % 6) + 1) from (show (nI ((S105.2 2 0 0) % 6)) + (1 : Int32) = nI (((S105.2 2 0 0) % 6) + 1) from nI_add ((S105.2 2 0 0) % 6) 1))) (show (6 : Int32) = nI 6 from rfl)).trans (pk_rem (a := (((S105.2 2 0 0) % 6) + 1)) (d := 6) (by omega) (by omega) (by omega))))) (fun H locs hP hS => ?_)
        obtain ⟨S106, eS106⟩ : ∃ z, z = kw_sn S105 2 0 0 ((((S105.2 2 0 0) % 6) + 1) % 6) := ⟨_, rfl⟩
        rw [← eS106] at hP
        refine lv_iinc (v := nI (i + 1)) (lv' := [(1, .int (nI (i + 1))), (0, .ref (ad 2))]) hx hb d_M_chooseFrame_74 hl (k := 1) rfl (nI_1 _) (by decide) rfl (fun ls hl => ?_)
        refine lv_goto (tgt := 27) hx hb d_M_chooseFrame_77 (by decide) ?_
        have hE : k_M_chooseFrame_L27 (i_n + 1) i S0 = k_M_chooseFrame_L27 i_n (i + 1) S106 := by
          subst eS106
          subst eS105
          exact ((if_neg c103).trans rfl)
        rw [hE]
        exact ih (i + 1) S106 (by omega) (fun f hf => by subst_vars; simpa [kw_sn_at, kw_si_o] using hF f hf) _ _ _ (lv_sub hl [1, 0] rfl) hP hS
def k_M_chooseFrame_L2 : Nat → Nat → kw_S → Int32 × kw_S
  | 0, i, S0 =>
    k_M_chooseFrame_L27 6 0 S0
  | i_n + 1, i, S0 =>
    if S0.2 5 0 i < 32 then
      k_M_chooseFrame_L2 i_n (i + 1) S0
    else
      (nI i, S0)
set_option maxHeartbeats 4000000 in
set_option maxRecDepth 100000 in
theorem c_M_chooseFrame_L2 {l : Launch} {D : va_G} {cI cT cS : ClassId} {ad : Nat → Nat} {p_ : Program} {e_ : Env} {s_ : State} {m_ : MethodId} {args : Array Value} {below : List Frame} {meth : Method} {c_ : Code} {sz : Nat} (hinj : wl_inj 83 ad) (X : wl_X p_ s_ m_ args c_ b_M_chooseFrame R_M TT D classes (kw_ty cI cT cS) 83 ad (wl_A 83 ad s_.heap.size)) (hsz : s_.heap.size = sz) (hml : c_.maxLocals = 2) (hr : meth.sig.returnType = some .int) (hlocks : meth.locks = false) :
    ∀ (i_n i : Nat) (S0 : kw_S) (h_i : i + i_n = 6) (hG : ∀ f, f < i → S0.2 5 0 f < 32) (H : Heap) (locs : List Loc) (ls : Array Slot), lv_has ls 2 [(0, .ref (ad 2)), (1, .int (nI i))] → va_P D classes (wl_W 83 ad (kw_C cI cT cS ad S0)) H → va_S (wl_A 83 ad s_.heap.size) s_.heap H locs → W p_ l e_ (rm_ 0) s_ m_ args below meth c_ H locs 0 0 (MQ below (wl_Qi D classes (kw_ty cI cT cS) 83 ad ((k_M_chooseFrame_L2 i_n i S0).1) (kw_C cI cT cS ad ((k_M_chooseFrame_L2 i_n i S0).2)) sz) args s_ 0 0 (wl_A 83 ad sz)) (F0 m_ 2 ls []) := by
  have hx := X.1
  have hb := X.2.1
  have hA : ∀ q, s_.heap.size ≤ q → (wl_A 83 ad s_.heap.size) q := fun q h => Or.inr h
  intro i_n
  induction i_n with
  | zero =>
    intro i S0 h_i hG H locs ls hl hP hS
    refine lv_iload_n hx hb d_M_chooseFrame_2 rfl (lv_at hl 1 rfl) ?_
    refine lv_bipush (v := 6) hx hb d_M_chooseFrame_3 (by decide) ?_
    refine lv_icmp_ge (tgt := 25) hx hb d_M_chooseFrame_5 (by decide) (fun c1 => ?_) (fun c1 => ?_)
    · skip
      refine lv_iconst (v := 0) hx hb d_M_chooseFrame_25 (by decide) ?_
      refine lv_istore_n (lv' := [(1, .int (0 : Int32)), (0, .ref (ad 2))]) hx hb d_M_chooseFrame_26 rfl hl (by decide) rfl (fun ls hl => ?_)
      have hE : k_M_chooseFrame_L2 0 i S0 = k_M_chooseFrame_L27 6 0 S0 := by
        exact rfl
      rw [hE]
      exact c_M_chooseFrame_L27 hinj X hsz hml hr hlocks 6 0 S0 (by omega) (fun f hf => hG f (by omega)) _ _ _ (lv_sub hl [1, 0] rfl) hP hS
    · exact absurd (sk_lhz h_i) c1
  | succ i_n ih =>
    intro i S0 h_i hG H locs ls hl hP hS
    refine lv_iload_n hx hb d_M_chooseFrame_2 rfl (lv_at hl 1 rfl) ?_
    refine lv_bipush (v := 6) hx hb d_M_chooseFrame_3 (by decide) ?_
    refine lv_icmp_ge (tgt := 25) hx hb d_M_chooseFrame_5 (by decide) (fun c101 => ?_) (fun c101 => ?_)
    · exact absurd c101 (sk_lhs h_i)
    · skip
      refine lv_aload_n hx hb d_M_chooseFrame_8 rfl (lv_at hl 0 rfl) ?_
      refine wl_get (v := .ref (ad 5)) X hP (i := 2) (by decide) (kw_cM ) rfl i_M 1 (by decide) lf_M_17 rfl d_M_chooseFrame_9 ?_
      refine lv_iload_n hx hb d_M_chooseFrame_12 rfl (lv_at hl 1 rfl) ?_
      refine wl_aald X hP (i := 5) (by decide) 2 (kw_cAF ) rfl (j := i) rfl (by omega) (by decide) d_M_chooseFrame_13 ?_
      refine kw_caseE (fun h102 => ?_) (fun h102 => ?_)
      · skip
        refine lv_ifnonnull (tgt := 19) hx hb d_M_chooseFrame_14 (by decide) ?_
        refine lv_iinc (v := nI (i + 1)) (lv' := [(1, .int (nI (i + 1))), (0, .ref (ad 2))]) hx hb d_M_chooseFrame_19 hl (k := 1) rfl (nI_1 _) (by decide) rfl (fun ls hl => ?_)
        refine lv_goto (tgt := 2) hx hb d_M_chooseFrame_22 (by decide) ?_
        have hE : k_M_chooseFrame_L2 (i_n + 1) i S0 = k_M_chooseFrame_L2 i_n (i + 1) S0 := by
          exact ((if_pos h102).trans rfl)
        rw [hE]
        exact ih (i + 1) S0 (by omega) (lt_s (p := fun f => S0.2 5 0 f < 32) hG h102) _ _ _ (lv_sub hl [1, 0] rfl) hP hS
      · skip
        refine lv_ifnonnullN hx hb d_M_chooseFrame_14 ?_
        refine lv_iload_n hx hb d_M_chooseFrame_17 rfl (lv_at hl 1 rfl) ?_
        have hE : k_M_chooseFrame_L2 (i_n + 1) i S0 = (nI i, S0) := by
          exact ((if_neg h102).trans rfl)
        rw [hE]
        exact wl_iret X hsz hr hlocks hP hS d_M_chooseFrame_18
def k_M_chooseFrame (S0 : kw_S) : Int32 × kw_S :=
  k_M_chooseFrame_L2 6 0 S0
set_option maxHeartbeats 4000000 in
set_option maxRecDepth 100000 in
theorem c_M_chooseFrame {l : Launch} {D : va_G} {cI cT cS : ClassId} {ad : Nat → Nat} (hinj : wl_inj 83 ad) (S0 : kw_S)  : wl_Mi l y_M_chooseFrame (Cond.code y_M_chooseFrame b_M_chooseFrame 2 (some .int) :: TT) (rm_ 0) D classes (kw_ty cI cT cS) 83 ad [.ref (ad 2)] (kw_C cI cT cS ad S0) ((k_M_chooseFrame S0).1) (kw_C cI cT cS ad ((k_M_chooseFrame S0).2)) := by
  intro sz
  refine wl_enter (own := R_M) rfl (by decide) (Nat.le_of_ble_eq_true rfl) hinj (fun p_ e_ s_ m_ below meth c_ ls hsz X hml hr hlocks hl hP hS => ?_)
  have hx := X.1
  have hb := X.2.1
  have hA : ∀ q, s_.heap.size ≤ q → (wl_A 83 ad s_.heap.size) q := fun q h => Or.inr h
  have hl : lv_has ls 2 [(0, .ref (ad 2))] := hl
  refine lv_iconst (v := 0) hx hb d_M_chooseFrame_0 (by decide) ?_
  refine lv_istore_n (lv' := [(1, .int (0 : Int32)), (0, .ref (ad 2))]) hx hb d_M_chooseFrame_1 rfl hl (by decide) rfl (fun ls hl => ?_)
  have hE : k_M_chooseFrame S0 = k_M_chooseFrame_L2 6 0 S0 := by
    exact rfl
  rw [hE]
  exact c_M_chooseFrame_L2 hinj X hsz hml hr hlocks 6 0 S0 (by omega) (fun f hf => absurd hf (Nat.not_lt_zero f)) _ _ _ (lv_sub hl [1, 0] rfl) hP hS
def k_M_release_J68 (e : Nat) (S0 : kw_S) : kw_S :=
  let S1 := kw_si S0 10 e 1 (0 : Int32)
  let S2 := kw_si S1 10 e 2 (0 : Int32)
  S2
set_option maxHeartbeats 4000000 in
set_option maxRecDepth 100000 in
theorem c_M_release_J68 {l : Launch} {D : va_G} {cI cT cS : ClassId} {ad : Nat → Nat} {p_ : Program} {e_ : Env} {s_ : State} {m_ : MethodId} {args : Array Value} {below : List Frame} {meth : Method} {c_ : Code} {sz : Nat} (hinj : wl_inj 83 ad) (X : wl_X p_ s_ m_ args c_ b_M_release R_M TT D classes (kw_ty cI cT cS) 83 ad (wl_A 83 ad s_.heap.size)) (hsz : s_.heap.size = sz) (hml : c_.maxLocals = 2) (hr : meth.sig.returnType = none) (hlocks : meth.locks = false) :
    ∀ (e : Nat) (h_e : e < 32) (S0 : kw_S) (H : Heap) (locs : List Loc) (ls : Array Slot), lv_has ls 2 [(0, .ref (ad 2)), (1, .ref (ad (19 + e)))] → va_P D classes (wl_W 83 ad (kw_C cI cT cS ad S0)) H → va_S (wl_A 83 ad s_.heap.size) s_.heap H locs → W p_ l e_ (rm_ 0) s_ m_ args below meth c_ H locs 0 0 (MQ below (wl_Qv D classes (kw_ty cI cT cS) 83 ad (kw_C cI cT cS ad (k_M_release_J68 e S0)) sz) args s_ 0 0 (wl_A 83 ad sz)) (F0 m_ 68 ls []) := by
  have hx := X.1
  have hb := X.2.1
  have hA : ∀ q, s_.heap.size ≤ q → (wl_A 83 ad s_.heap.size) q := fun q h => Or.inr h
  intro e h_e S0 H locs ls hl hP hS
  refine lv_aload_n hx hb d_M_release_68 rfl (lv_at hl 1 rfl) ?_
  refine lv_iconst (v := 0) hx hb d_M_release_69 (by decide) ?_
  refine wl_put X hP hS (i := (19 + e)) (by omega) (kw_cE (by omega)) rfl i_E ft_E ft_E_ok fn_E 4 (by decide) lf_M_66 rfl rfl rfl (Nat.le_of_ble_eq_true rfl) d_M_release_70 (kw_pE_used (by omega)) (fun H locs hP hS => ?_)
  obtain ⟨S1, eS1⟩ : ∃ z, z = kw_si S0 10 e 1 (0 : Int32) := ⟨_, rfl⟩
  rw [← eS1] at hP
  refine lv_aload_n hx hb d_M_release_73 rfl (lv_at hl 1 rfl) ?_
  refine lv_iconst (v := 0) hx hb d_M_release_74 (by decide) ?_
  refine wl_put X hP hS (i := (19 + e)) (by omega) (kw_cE (by omega)) rfl i_E ft_E ft_E_ok fn_E 5 (by decide) lf_M_70 rfl rfl rfl (Nat.le_of_ble_eq_true rfl) d_M_release_75 (kw_pE_changed (by omega)) (fun H locs hP hS => ?_)
  obtain ⟨S2, eS2⟩ : ∃ z, z = kw_si S1 10 e 2 (0 : Int32) := ⟨_, rfl⟩
  rw [← eS2] at hP
  have hE : k_M_release_J68 e S0 = S2 := by
    subst eS2
    subst eS1
    exact rfl
  rw [hE]
  exact wl_vret X hsz hr hlocks hP hS d_M_release_78
def k_M_release_J43 (e : Nat) (S0 : kw_S) : kw_S :=
  if (kw_sl (S0.2 10 e 1)) = (-2 : Int32) then
    k_M_release_J68 e S0
  else
    let S2 := kw_sn S0 6 0 (S0.2 10 e 1) 32
    let S3 := kw_sn S2 10 e 1 32
    k_M_release_J68 e S3
set_option maxHeartbeats 4000000 in
set_option maxRecDepth 100000 in
theorem c_M_release_J43 {l : Launch} {D : va_G} {cI cT cS : ClassId} {ad : Nat → Nat} {p_ : Program} {e_ : Env} {s_ : State} {m_ : MethodId} {args : Array Value} {below : List Frame} {meth : Method} {c_ : Code} {sz : Nat} (hinj : wl_inj 83 ad) (X : wl_X p_ s_ m_ args c_ b_M_release R_M TT D classes (kw_ty cI cT cS) 83 ad (wl_A 83 ad s_.heap.size)) (hsz : s_.heap.size = sz) (hml : c_.maxLocals = 2) (hr : meth.sig.returnType = none) (hlocks : meth.locks = false) :
    ∀ (e : Nat) (h_e : e < 32) (S0 : kw_S) (H : Heap) (locs : List Loc) (ls : Array Slot), lv_has ls 2 [(0, .ref (ad 2)), (1, .ref (ad (19 + e)))] → va_P D classes (wl_W 83 ad (kw_C cI cT cS ad S0)) H → va_S (wl_A 83 ad s_.heap.size) s_.heap H locs → W p_ l e_ (rm_ 0) s_ m_ args below meth c_ H locs 0 0 (MQ below (wl_Qv D classes (kw_ty cI cT cS) 83 ad (kw_C cI cT cS ad (k_M_release_J43 e S0)) sz) args s_ 0 0 (wl_A 83 ad sz)) (F0 m_ 43 ls []) := by
  have hx := X.1
  have hb := X.2.1
  have hA : ∀ q, s_.heap.size ≤ q → (wl_A 83 ad s_.heap.size) q := fun q h => Or.inr h
  intro e h_e S0 H locs ls hl hP hS
  refine lv_aload_n hx hb d_M_release_43 rfl (lv_at hl 1 rfl) ?_
  refine wl_get (v := .int (kw_sl (S0.2 10 e 1))) X hP (i := (19 + e)) (by omega) (kw_cE (by omega)) rfl i_E 3 (by decide) lf_M_49 rfl d_M_release_44 ?_
  refine lv_bipush (v := -2) hx hb d_M_release_47 (by decide) ?_
  refine lv_icmp_eq (tgt := 68) hx hb d_M_release_49 (by decide) (fun c1 => ?_) (fun c1 => ?_)
  · skip
    have hE : k_M_release_J43 e S0 = k_M_release_J68 e S0 := by
      exact ((if_pos c1).trans rfl)
    rw [hE]
    exact c_M_release_J68 hinj X hsz hml hr hlocks e (by omega) S0 _ _ _ (lv_sub hl [0, 1] rfl) hP hS
  · skip
    refine lv_aload_n hx hb d_M_release_52 rfl (lv_at hl 0 rfl) ?_
    refine wl_get (v := .ref (ad 6)) X hP (i := 2) (by decide) (kw_cM ) rfl i_M 2 (by decide) lf_M_20 rfl d_M_release_53 ?_
    refine lv_aload_n hx hb d_M_release_56 rfl (lv_at hl 1 rfl) ?_
    refine wl_get (v := .int (kw_sl (S0.2 10 e 1))) X hP (i := (19 + e)) (by omega) (kw_cE (by omega)) rfl i_E 3 (by decide) lf_M_49 rfl d_M_release_57 ?_
    refine lv_null hx hb d_M_release_60 ?_
    refine wl_aastN X hP hS (i := 6) (by decide) 2 (kw_cAL ) rfl (j := (S0.2 10 e 1)) (kw_sl_in c1).1 (kw_sl_in c1).2 (by decide) d_M_release_61 (kw_pnAL ) (fun H locs hP hS => ?_)
    obtain ⟨S2, eS2⟩ : ∃ z, z = kw_sn S0 6 0 (S0.2 10 e 1) 32 := ⟨_, rfl⟩
    rw [← eS2] at hP
    refine lv_aload_n hx hb d_M_release_62 rfl (lv_at hl 1 rfl) ?_
    refine lv_bipush (v := -2) hx hb d_M_release_63 (by decide) ?_
    refine wl_put X hP hS (i := (19 + e)) (by omega) (kw_cE (by omega)) rfl i_E ft_E ft_E_ok fn_E 3 (by decide) lf_M_49 rfl rfl rfl (Nat.le_of_ble_eq_true rfl) d_M_release_65 (kw_pE_slot (x := 32) (by omega) (by decide)) (fun H locs hP hS => ?_)
    obtain ⟨S3, eS3⟩ : ∃ z, z = kw_sn S2 10 e 1 32 := ⟨_, rfl⟩
    rw [← eS3] at hP
    have hE : k_M_release_J43 e S0 = k_M_release_J68 e S3 := by
      subst eS3
      subst eS2
      exact ((if_neg c1).trans rfl)
    rw [hE]
    exact c_M_release_J68 hinj X hsz hml hr hlocks e (by omega) S3 _ _ _ (lv_sub hl [0, 1] rfl) hP hS
def k_M_release (S0 : kw_S) (e : Nat) : kw_S :=
  let S1 := kw_si S0 10 e 0 ((S0.1 10 e 0) - (1 : Int32))
  if (S1.1 10 e 0) ≤ 0 then
    if (kw_fr (S1.2 10 e 0)) = (-2 : Int32) then
      k_M_release_J43 e S1
    else
      let S4 := kw_sn S1 5 0 (S1.2 10 e 0) 32
      let S5 := kw_sn S4 10 e 0 6
      k_M_release_J43 e S5
  else
    S1
set_option maxHeartbeats 4000000 in
set_option maxRecDepth 100000 in
theorem c_M_release {l : Launch} {D : va_G} {cI cT cS : ClassId} {ad : Nat → Nat} (hinj : wl_inj 83 ad) (S0 : kw_S) (e : Nat) (h_e : e < 32) : wl_Mv l y_M_release (Cond.code y_M_release b_M_release 2 none :: TT) (rm_ 0) D classes (kw_ty cI cT cS) 83 ad [.ref (ad 2), .ref (ad (19 + e))] (kw_C cI cT cS ad S0)  (kw_C cI cT cS ad (k_M_release S0 e)) := by
  intro sz
  refine wl_enter (own := R_M) rfl (by decide) (Nat.le_of_ble_eq_true rfl) hinj (fun p_ e_ s_ m_ below meth c_ ls hsz X hml hr hlocks hl hP hS => ?_)
  have hx := X.1
  have hb := X.2.1
  have hA : ∀ q, s_.heap.size ≤ q → (wl_A 83 ad s_.heap.size) q := fun q h => Or.inr h
  have hl : lv_has ls 2 [(0, .ref (ad 2)), (1, .ref (ad (19 + e)))] := hl
  refine lv_aload_n hx hb d_M_release_0 rfl (lv_at hl 1 rfl) ?_
  refine lv_dup hx hb d_M_release_1 rfl ?_
  refine wl_get (v := .int (S0.1 10 e 0)) X hP (i := (19 + e)) (by omega) (kw_cE (by omega)) rfl i_E 1 (by decide) lf_M_59 rfl d_M_release_2 ?_
  refine lv_iconst (v := 1) hx hb d_M_release_5 (by decide) ?_
  refine lv_isub hx hb d_M_release_6 ?_
  refine wl_put X hP hS (i := (19 + e)) (by omega) (kw_cE (by omega)) rfl i_E ft_E ft_E_ok fn_E 1 (by decide) lf_M_59 rfl rfl rfl (Nat.le_of_ble_eq_true rfl) d_M_release_7 (kw_pE_owners (by omega)) (fun H locs hP hS => ?_)
  obtain ⟨S1, eS1⟩ : ∃ z, z = kw_si S0 10 e 0 ((S0.1 10 e 0) - (1 : Int32)) := ⟨_, rfl⟩
  rw [← eS1] at hP
  refine lv_aload_n hx hb d_M_release_10 rfl (lv_at hl 1 rfl) ?_
  refine wl_get (v := .int (S1.1 10 e 0)) X hP (i := (19 + e)) (by omega) (kw_cE (by omega)) rfl i_E 1 (by decide) lf_M_59 rfl d_M_release_11 ?_
  refine lv_if_le (tgt := 18) hx hb d_M_release_14 (by decide) (fun c2 => ?_) (fun c2 => ?_)
  · skip
    refine lv_aload_n hx hb d_M_release_18 rfl (lv_at hl 1 rfl) ?_
    refine wl_get (v := .int (kw_fr (S1.2 10 e 0))) X hP (i := (19 + e)) (by omega) (kw_cE (by omega)) rfl i_E 2 (by decide) lf_M_41 rfl d_M_release_19 ?_
    refine lv_bipush (v := -2) hx hb d_M_release_22 (by decide) ?_
    refine lv_icmp_eq (tgt := 43) hx hb d_M_release_24 (by decide) (fun c3 => ?_) (fun c3 => ?_)
    · skip
      have hE : k_M_release S0 e = k_M_release_J43 e S1 := by
        subst eS1
        exact ((if_pos c2).trans ((if_pos c3).trans rfl))
      rw [hE]
      exact c_M_release_J43 hinj X hsz hml hr hlocks e (by omega) S1 _ _ _ (lv_sub hl [0, 1] rfl) hP hS
    · skip
      refine lv_aload_n hx hb d_M_release_27 rfl (lv_at hl 0 rfl) ?_
      refine wl_get (v := .ref (ad 5)) X hP (i := 2) (by decide) (kw_cM ) rfl i_M 1 (by decide) lf_M_17 rfl d_M_release_28 ?_
      refine lv_aload_n hx hb d_M_release_31 rfl (lv_at hl 1 rfl) ?_
      refine wl_get (v := .int (kw_fr (S1.2 10 e 0))) X hP (i := (19 + e)) (by omega) (kw_cE (by omega)) rfl i_E 2 (by decide) lf_M_41 rfl d_M_release_32 ?_
      refine lv_null hx hb d_M_release_35 ?_
      refine wl_aastN X hP hS (i := 5) (by decide) 2 (kw_cAF ) rfl (j := (S1.2 10 e 0)) (kw_fr_in c3).1 (kw_fr_in c3).2 (by decide) d_M_release_36 (kw_pnAF ) (fun H locs hP hS => ?_)
      obtain ⟨S4, eS4⟩ : ∃ z, z = kw_sn S1 5 0 (S1.2 10 e 0) 32 := ⟨_, rfl⟩
      rw [← eS4] at hP
      refine lv_aload_n hx hb d_M_release_37 rfl (lv_at hl 1 rfl) ?_
      refine lv_bipush (v := -2) hx hb d_M_release_38 (by decide) ?_
      refine wl_put X hP hS (i := (19 + e)) (by omega) (kw_cE (by omega)) rfl i_E ft_E ft_E_ok fn_E 2 (by decide) lf_M_41 rfl rfl rfl (Nat.le_of_ble_eq_true rfl) d_M_release_40 (kw_pE_frame (x := 6) (by omega) (by decide)) (fun H locs hP hS => ?_)
      obtain ⟨S5, eS5⟩ : ∃ z, z = kw_sn S4 10 e 0 6 := ⟨_, rfl⟩
      rw [← eS5] at hP
      have hE : k_M_release S0 e = k_M_release_J43 e S5 := by
        subst eS5
        subst eS4
        subst eS1
        exact ((if_pos c2).trans ((if_neg c3).trans rfl))
      rw [hE]
      exact c_M_release_J43 hinj X hsz hml hr hlocks e (by omega) S5 _ _ _ (lv_sub hl [0, 1] rfl) hP hS
  · skip
    have hE : k_M_release S0 e = S1 := by
      subst eS1
      exact ((if_neg c2).trans rfl)
    rw [hE]
    exact wl_vret X hsz hr hlocks hP hS d_M_release_17
def k_M_releaseAll_L2 : Nat → Nat → Nat → kw_S → kw_S
  | 0, i, p, S0 =>
    S0
  | i_n + 1, i, p, S0 =>
    if S0.2 9 p i < 32 then
      let S103 := kw_sn S0 9 p i 32
      let S104 := k_M_release S103 (S0.2 9 p i)
      k_M_releaseAll_L2 i_n (i + 1) p S104
    else
      k_M_releaseAll_L2 i_n (i + 1) p S0
set_option maxHeartbeats 4000000 in
set_option maxRecDepth 100000 in
theorem c_M_releaseAll_L2 {l : Launch} {D : va_G} {cI cT cS : ClassId} {ad : Nat → Nat} {p_ : Program} {e_ : Env} {s_ : State} {m_ : MethodId} {args : Array Value} {below : List Frame} {meth : Method} {c_ : Code} {sz : Nat} (hinj : wl_inj 83 ad) (X : wl_X p_ s_ m_ args c_ b_M_releaseAll R_M TT D classes (kw_ty cI cT cS) 83 ad (wl_A 83 ad s_.heap.size)) (hsz : s_.heap.size = sz) (hml : c_.maxLocals = 4) (hr : meth.sig.returnType = none) (hlocks : meth.locks = false) :
    ∀ (i_n i : Nat) (p : Nat) (h_p : p < 4) (S0 : kw_S) (h_i : i + i_n = 8) (H : Heap) (locs : List Loc) (ls : Array Slot), lv_has ls 4 [(0, .ref (ad 2)), (1, .ref (ad (7 + p))), (2, .int (nI i))] → va_P D classes (wl_W 83 ad (kw_C cI cT cS ad S0)) H → va_S (wl_A 83 ad s_.heap.size) s_.heap H locs → W p_ l e_ (rm_ 1) s_ m_ args below meth c_ H locs 0 0 (MQ below (wl_Qv D classes (kw_ty cI cT cS) 83 ad (kw_C cI cT cS ad (k_M_releaseAll_L2 i_n i p S0)) sz) args s_ 0 0 (wl_A 83 ad sz)) (F0 m_ 2 ls []) := by
  have hx := X.1
  have hb := X.2.1
  have hA : ∀ q, s_.heap.size ≤ q → (wl_A 83 ad s_.heap.size) q := fun q h => Or.inr h
  intro i_n
  induction i_n with
  | zero =>
    intro i p h_p S0 h_i H locs ls hl hP hS
    refine lv_iload_n hx hb d_M_releaseAll_2 rfl (lv_at hl 2 rfl) ?_
    refine lv_bipush (v := 8) hx hb d_M_releaseAll_3 (by decide) ?_
    refine lv_icmp_ge (tgt := 37) hx hb d_M_releaseAll_5 (by decide) (fun c1 => ?_) (fun c1 => ?_)
    · skip
      have hE : k_M_releaseAll_L2 0 i p S0 = S0 := by
        exact rfl
      rw [hE]
      exact wl_vret X hsz hr hlocks hP hS d_M_releaseAll_37
    · exact absurd (sk_lhz h_i) c1
  | succ i_n ih =>
    intro i p h_p S0 h_i H locs ls hl hP hS
    refine lv_iload_n hx hb d_M_releaseAll_2 rfl (lv_at hl 2 rfl) ?_
    refine lv_bipush (v := 8) hx hb d_M_releaseAll_3 (by decide) ?_
    refine lv_icmp_ge (tgt := 37) hx hb d_M_releaseAll_5 (by decide) (fun c101 => ?_) (fun c101 => ?_)
    · exact absurd c101 (sk_lhs h_i)
    · skip
      refine lv_aload_n hx hb d_M_releaseAll_8 rfl (lv_at hl 1 rfl) ?_
      refine wl_get (v := .ref (ad (15 + p))) X hP (i := (7 + p)) (by omega) (kw_cT (by omega)) rfl i_T 1 (by decide) lf_M_32 rfl d_M_releaseAll_9 ?_
      refine lv_iload_n hx hb d_M_releaseAll_12 rfl (lv_at hl 2 rfl) ?_
      refine wl_aald X hP (i := (15 + p)) (by omega) 2 (kw_cAP (by omega)) rfl (j := i) rfl (by omega) (by decide) d_M_releaseAll_13 ?_
      refine kw_caseE (fun h102 => ?_) (fun h102 => ?_)
      · skip
        refine lv_astore_n (lv' := [(3, .ref (ad (19 + (S0.2 9 p i)))), (0, .ref (ad 2)), (1, .ref (ad (7 + p))), (2, .int (nI i))]) hx hb d_M_releaseAll_14 rfl hl (by decide) rfl (fun ls hl => ?_)
        refine lv_aload_n hx hb d_M_releaseAll_15 rfl (lv_at hl 0 rfl) ?_
        refine lv_ifnull hx hb d_M_releaseAll_16 ?_
        refine lv_aload_n hx hb d_M_releaseAll_19 rfl (lv_at hl 2 rfl) ?_
        refine wl_get (v := .ref (ad (15 + p))) X hP (i := (7 + p)) (by omega) (kw_cT (by omega)) rfl i_T 1 (by decide) lf_M_32 rfl d_M_releaseAll_20 ?_
        refine lv_iload_n hx hb d_M_releaseAll_23 rfl (lv_at hl 3 rfl) ?_
        refine lv_null hx hb d_M_releaseAll_24 ?_
        refine wl_aastN X hP hS (i := (15 + p)) (by omega) 2 (kw_cAP (by omega)) rfl (j := i) rfl (by omega) (by decide) d_M_releaseAll_25 (kw_pnAP (by omega)) (fun H locs hP hS => ?_)
        obtain ⟨S103, eS103⟩ : ∃ z, z = kw_sn S0 9 p i 32 := ⟨_, rfl⟩
        rw [← eS103] at hP
        refine lv_aload_n hx hb d_M_releaseAll_26 rfl (lv_at hl 1 rfl) ?_
        refine lv_aload_n hx hb d_M_releaseAll_27 rfl (lv_at hl 0 rfl) ?_
        refine wl_gov2 (cf := kw_C cI cT cS ad) (S2 := k_M_release S103 (S0.2 9 p i)) hS hA X.2.2.2.2.2.2 (wl_runV (As := [.ref (ad (19 + (S0.2 9 p i)))]) (rest := []) X hml hl.1 hP g_TT (c_M_release hinj S103 (S0.2 9 p i) (by omega) _) (by decide) (kw_cM ) rfl wv_M_104 (na := 1) (by decide +kernel) rfl ⟨Nat.le_of_ble_eq_true rfl, Nat.le_of_ble_eq_true rfl⟩ rfl (Nat.le_of_ble_eq_true rfl) d_M_releaseAll_28 ⟨Nat.le_refl _, Nat.le_refl _⟩) (fun S104 eS104 H locs hP hS => ?_)
        refine lv_iinc (v := nI (i + 1)) (lv' := [(2, .int (nI (i + 1))), (3, .ref (ad (19 + (S0.2 9 p i)))), (0, .ref (ad 2)), (1, .ref (ad (7 + p)))]) hx hb d_M_releaseAll_31 hl (k := 3) rfl (nI_1 _) (by decide) rfl (fun ls hl => ?_)
        refine lv_goto (tgt := 2) hx hb d_M_releaseAll_34 (by decide) ?_
        have hE : k_M_releaseAll_L2 (i_n + 1) i p S0 = k_M_releaseAll_L2 i_n (i + 1) p S104 := by
          subst eS104
          subst eS103
          exact ((if_pos h102).trans rfl)
        rw [hE]
        exact ih (i + 1) p (by omega) S104 (by omega) _ _ _ (lv_sub hl [2, 3, 0] rfl) hP hS
      · skip
        refine lv_astore_nN (lv' := [(3, .null), (0, .ref (ad 2)), (1, .ref (ad (7 + p))), (2, .int (nI i))]) hx hb d_M_releaseAll_14 rfl hl (by decide) rfl (fun ls hl => ?_)
        refine lv_aload_nN hx hb d_M_releaseAll_15 rfl (lv_at hl 0 rfl) ?_
        refine lv_ifnullN (tgt := 31) hx hb d_M_releaseAll_16 (by decide) ?_
        refine lv_iinc (v := nI (i + 1)) (lv' := [(2, .int (nI (i + 1))), (3, .null), (0, .ref (ad 2)), (1, .ref (ad (7 + p)))]) hx hb d_M_releaseAll_31 hl (k := 3) rfl (nI_1 _) (by decide) rfl (fun ls hl => ?_)
        refine lv_goto (tgt := 2) hx hb d_M_releaseAll_34 (by decide) ?_
        have hE : k_M_releaseAll_L2 (i_n + 1) i p S0 = k_M_releaseAll_L2 i_n (i + 1) p S0 := by
          exact ((if_neg h102).trans rfl)
        rw [hE]
        exact ih (i + 1) p (by omega) S0 (by omega) _ _ _ (lv_sub hl [2, 3, 0] rfl) hP hS
def k_M_releaseAll (S0 : kw_S) (p : Nat) : kw_S :=
  k_M_releaseAll_L2 8 0 p S0
set_option maxHeartbeats 4000000 in
set_option maxRecDepth 100000 in
theorem c_M_releaseAll {l : Launch} {D : va_G} {cI cT cS : ClassId} {ad : Nat → Nat} (hinj : wl_inj 83 ad) (S0 : kw_S) (p : Nat) (h_p : p < 4) : wl_Mv l y_M_releaseAll (Cond.code y_M_releaseAll b_M_releaseAll 4 none :: TT) (rm_ 1) D classes (kw_ty cI cT cS) 83 ad [.ref (ad 2), .ref (ad (7 + p))] (kw_C cI cT cS ad S0)  (kw_C cI cT cS ad (k_M_releaseAll S0 p)) := by
  intro sz
  refine wl_enter (own := R_M) rfl (by decide) (Nat.le_of_ble_eq_true rfl) hinj (fun p_ e_ s_ m_ below meth c_ ls hsz X hml hr hlocks hl hP hS => ?_)
  have hx := X.1
  have hb := X.2.1
  have hA : ∀ q, s_.heap.size ≤ q → (wl_A 83 ad s_.heap.size) q := fun q h => Or.inr h
  have hl : lv_has ls 4 [(0, .ref (ad 2)), (1, .ref (ad (7 + p)))] := hl
  refine lv_iconst (v := 0) hx hb d_M_releaseAll_0 (by decide) ?_
  refine lv_istore_n (lv' := [(2, .int (0 : Int32)), (0, .ref (ad 2)), (1, .ref (ad (7 + p)))]) hx hb d_M_releaseAll_1 rfl hl (by decide) rfl (fun ls hl => ?_)
  have hE : k_M_releaseAll S0 p = k_M_releaseAll_L2 8 0 p S0 := by
    exact rfl
  rw [hE]
  exact c_M_releaseAll_L2 hinj X hsz hml hr hlocks 8 0 p (by omega) S0 (by omega) _ _ _ (lv_sub hl [1, 2, 0] rfl) hP hS
end
section
theorem kq_fillAW {v : Int32} {q : Nat} : ∀ n i (S : kw_S), (k_J_fill_AW_L5 n i q v S).2 = S.2 := by
  intro n
  induction n with
  | zero => exact fun _ _ => rfl
  | succ n ih => exact fun i S => ih (i + 1) _
theorem kq_new2L {S : kw_S} : ∀ n i, (k_M_newSheet_L2 n i S).2.2 = S.2 := by
  intro n
  induction n with
  | zero => exact fun i => kq_fillAW _ _ _
  | succ n ih =>
    intro i
    by_cases h0 : S.1 10 i 0 ≤ 0
    · have e : k_M_newSheet_L2 (n + 1) i S = k_M_newSheet_J26 i S := if_pos h0
      rw [e]
      exact kq_fillAW _ _ _
    · have e : k_M_newSheet_L2 (n + 1) i S = k_M_newSheet_L2 n (i + 1) S := if_neg h0
      rw [e]
      exact ih (i + 1)
theorem kq_new2 {S : kw_S} : (k_M_newSheet S).2.2 = S.2 := kq_new2L _ _
theorem kq_copy2 {S : kw_S} {e : Nat} : (k_M_copyOf S e).2.2 = S.2 := kq_new2 (S := S)
theorem kq_copyLt {S : kw_S} {e : Nat} : (k_M_copyOf S e).1 < 32 := kq_newSheet (S := S)
theorem kq_J80 {S : kw_S} : (∃ j, j < 6 ∧ (k_M_chooseFrame_J80 S).1 = nI j) ∧ ∀ c, c ≠ 2 → (k_M_chooseFrame_J80 S).2.2 c = S.2 c :=
  ⟨⟨_, Nat.mod_lt _ (by decide), rfl⟩, fun c hc => kw_sn_nc hc⟩
theorem kq_L27 : ∀ n i (S : kw_S), (∃ j, j < 6 ∧ (k_M_chooseFrame_L27 n i S).1 = nI j) ∧ ∀ c, c ≠ 2 → (k_M_chooseFrame_L27 n i S).2.2 c = S.2 c := by
  intro n
  induction n with
  | zero => exact fun i S => kq_J80
  | succ n ih =>
    intro i S
    by_cases h0 : S.1 10 (S.2 5 0 (S.2 2 0 0 % 6)) 1 = 0
    · have e : k_M_chooseFrame_L27 (n + 1) i S = k_M_chooseFrame_J80 S := if_pos h0
      rw [e]
      exact kq_J80
    · have e2 : k_M_chooseFrame_L27 (n + 1) i S = k_M_chooseFrame_L27 n (i + 1) (kw_sn (kw_si S 10 (S.2 5 0 (S.2 2 0 0 % 6)) 1 (0 : Int32)) 2 0 0 ((S.2 2 0 0 % 6 + 1) % 6)) := if_neg h0
      rw [e2]
      obtain ⟨h1, h2⟩ := ih (i + 1) (kw_sn (kw_si S 10 (S.2 5 0 (S.2 2 0 0 % 6)) 1 (0 : Int32)) 2 0 0 ((S.2 2 0 0 % 6 + 1) % 6))
      exact ⟨h1, fun c hc => (h2 c hc).trans (kw_sn_nc hc)⟩
theorem kq_chL2 {S : kw_S} : ∀ n i, i + n = 6 → (∃ j, j < 6 ∧ (k_M_chooseFrame_L2 n i S).1 = nI j) ∧ ∀ c, c ≠ 2 → (k_M_chooseFrame_L2 n i S).2.2 c = S.2 c := by
  intro n
  induction n with
  | zero => exact fun i _ => kq_L27 6 0 S
  | succ n ih =>
    intro i h
    by_cases h0 : S.2 5 0 i < 32
    · have e : k_M_chooseFrame_L2 (n + 1) i S = k_M_chooseFrame_L2 n (i + 1) S := if_pos h0
      rw [e]
      exact ih (i + 1) (by omega)
    · have e : k_M_chooseFrame_L2 (n + 1) i S = (nI i, S) := if_neg h0
      rw [e]
      exact ⟨⟨i, by omega, rfl⟩, fun c _ => rfl⟩
theorem kq_choose {S : kw_S} : (k_M_chooseFrame S).1 = nI (k_M_chooseFrame S).1.toNatClampNeg ∧ (k_M_chooseFrame S).1.toNatClampNeg < 6 := by
  obtain ⟨⟨j, hj, h⟩, -⟩ := kq_chL2 (S := S) 6 0 rfl
  have e : (k_M_chooseFrame S).1 = nI j := h
  rw [e, nI_clamp (by omega)]
  exact ⟨rfl, hj⟩
theorem kq_choose2 {S : kw_S} : ∀ c, c ≠ 2 → (k_M_chooseFrame S).2.2 c = S.2 c := (kq_chL2 (S := S) 6 0 rfl).2
def k_M_layInFrame_J24 (e : Nat) (f : Nat) (S0 : kw_S) : kw_S :=
  let S1 := kw_sn S0 5 0 f e
  let S2 := kw_sn S1 10 e 0 f
  S2
set_option maxHeartbeats 4000000 in
set_option maxRecDepth 100000 in
theorem c_M_layInFrame_J24 {l : Launch} {D : va_G} {cI cT cS : ClassId} {ad : Nat → Nat} {p_ : Program} {e_ : Env} {s_ : State} {m_ : MethodId} {args : Array Value} {below : List Frame} {meth : Method} {c_ : Code} {sz : Nat} (hinj : wl_inj 83 ad) (X : wl_X p_ s_ m_ args c_ b_M_layInFrame R_M TT D classes (kw_ty cI cT cS) 83 ad (wl_A 83 ad s_.heap.size)) (hsz : s_.heap.size = sz) (hml : c_.maxLocals = 3) (hr : meth.sig.returnType = none) (hlocks : meth.locks = false) :
    ∀ (e : Nat) (h_e : e < 32) (x_f : Int32) (f : Nat) (e_f : x_f = nI f) (h_f : f < 6) (S0 : kw_S) (H : Heap) (locs : List Loc) (ls : Array Slot), lv_has ls 3 [(0, .ref (ad 2)), (1, .ref (ad (19 + e))), (2, .int x_f)] → va_P D classes (wl_W 83 ad (kw_C cI cT cS ad S0)) H → va_S (wl_A 83 ad s_.heap.size) s_.heap H locs → W p_ l e_ (rm_ 2) s_ m_ args below meth c_ H locs 0 0 (MQ below (wl_Qv D classes (kw_ty cI cT cS) 83 ad (kw_C cI cT cS ad (k_M_layInFrame_J24 e f S0)) sz) args s_ 0 0 (wl_A 83 ad sz)) (F0 m_ 24 ls []) := by
  have hx := X.1
  have hb := X.2.1
  have hA : ∀ q, s_.heap.size ≤ q → (wl_A 83 ad s_.heap.size) q := fun q h => Or.inr h
  intro e h_e x_f f e_f h_f S0 H locs ls hl hP hS
  subst e_f
  refine lv_aload_n hx hb d_M_layInFrame_24 rfl (lv_at hl 0 rfl) ?_
  refine wl_get (v := .ref (ad 5)) X hP (i := 2) (by decide) (kw_cM ) rfl i_M 1 (by decide) lf_M_17 rfl d_M_layInFrame_25 ?_
  refine lv_iload_n hx hb d_M_layInFrame_28 rfl (lv_at hl 2 rfl) ?_
  refine lv_aload_n hx hb d_M_layInFrame_29 rfl (lv_at hl 1 rfl) ?_
  refine wl_aast X hP hS (i := 5) (by decide) 2 (r := (R_E, F_E, 6)) (kw_cAF ) rfl (j := f) rfl (by omega) (by decide) (k := (19 + e)) (by omega) (kw_cE (by omega)) rfl d_M_layInFrame_30 (kw_prAF  (by omega)) (fun H locs hP hS => ?_)
  obtain ⟨S1, eS1⟩ : ∃ z, z = kw_sn S0 5 0 f e := ⟨_, rfl⟩
  rw [← eS1] at hP
  refine lv_aload_n hx hb d_M_layInFrame_31 rfl (lv_at hl 1 rfl) ?_
  refine lv_iload_n hx hb d_M_layInFrame_32 rfl (lv_at hl 2 rfl) ?_
  refine wl_put X hP hS (i := (19 + e)) (by omega) (kw_cE (by omega)) rfl i_E ft_E ft_E_ok fn_E 2 (by decide) lf_M_41 rfl rfl rfl (Nat.le_of_ble_eq_true rfl) d_M_layInFrame_33 (kw_pE_frame (x := f) (by omega) (by unfold kw_fr; rw [if_pos (by omega)] <;> exact rfl)) (fun H locs hP hS => ?_)
  obtain ⟨S2, eS2⟩ : ∃ z, z = kw_sn S1 10 e 0 f := ⟨_, rfl⟩
  rw [← eS2] at hP
  have hE : k_M_layInFrame_J24 e f S0 = S2 := by
    subst eS2
    subst eS1
    exact rfl
  rw [hE]
  exact wl_vret X hsz hr hlocks hP hS d_M_layInFrame_36
def k_M_layInFrame (S0 : kw_S) (e : Nat) : kw_S :=
  let r1 := (k_M_chooseFrame S0).1
  let S2 := (k_M_chooseFrame S0).2
  if S2.2 5 0 r1.toNatClampNeg < 32 then
    let S5 := k_M_goOut S2 (S2.2 5 0 r1.toNatClampNeg)
    k_M_layInFrame_J24 e r1.toNatClampNeg S5
  else
    k_M_layInFrame_J24 e r1.toNatClampNeg S2
set_option maxHeartbeats 4000000 in
set_option maxRecDepth 100000 in
theorem c_M_layInFrame {l : Launch} {D : va_G} {cI cT cS : ClassId} {ad : Nat → Nat} (hinj : wl_inj 83 ad) (S0 : kw_S) (e : Nat) (h_e : e < 32) (hI : kw_FI S0) : wl_Mv l y_M_layInFrame (Cond.code y_M_layInFrame b_M_layInFrame 3 none :: TT) (rm_ 2) D classes (kw_ty cI cT cS) 83 ad [.ref (ad 2), .ref (ad (19 + e))] (kw_C cI cT cS ad S0)  (kw_C cI cT cS ad (k_M_layInFrame S0 e)) := by
  intro sz
  refine wl_enter (own := R_M) rfl (by decide) (Nat.le_of_ble_eq_true rfl) hinj (fun p_ e_ s_ m_ below meth c_ ls hsz X hml hr hlocks hl hP hS => ?_)
  have hx := X.1
  have hb := X.2.1
  have hA : ∀ q, s_.heap.size ≤ q → (wl_A 83 ad s_.heap.size) q := fun q h => Or.inr h
  have hl : lv_has ls 3 [(0, .ref (ad 2)), (1, .ref (ad (19 + e)))] := hl
  refine lv_aload_n hx hb d_M_layInFrame_0 rfl (lv_at hl 0 rfl) ?_
  refine wl_goi2 (cf := kw_C cI cT cS ad) (res := k_M_chooseFrame S0) hS hA X.2.2.2.2.2.2 (wl_runV (As := []) (rest := []) X hml hl.1 hP g_TT (c_M_chooseFrame hinj S0 _) (by decide) (kw_cM ) rfl wv_M_88 (na := 0) (by decide +kernel) rfl ⟨Nat.le_of_ble_eq_true rfl, Nat.le_of_ble_eq_true rfl⟩ rfl (Nat.le_of_ble_eq_true rfl) d_M_layInFrame_1 ⟨Nat.le_refl _, Nat.le_refl _⟩) (fun r1 S2 er1 eS2 H locs hP hS => ?_)
  obtain ⟨hc1, hc2⟩ := kq_choose (S := S0)
  rw [← er1] at hc1 hc2
  have hI1 : kw_FI S2 := by
    rw [eS2]
    exact kw_FI_of hI (kq_choose2 5 (by decide)) (kq_choose2 10 (by decide))
  refine lv_istore_n (lv' := [(2, .int r1), (0, .ref (ad 2)), (1, .ref (ad (19 + e)))]) hx hb d_M_layInFrame_4 rfl hl (by decide) rfl (fun ls hl => ?_)
  refine lv_aload_n hx hb d_M_layInFrame_5 rfl (lv_at hl 1 rfl) ?_
  refine wl_get (v := .ref (ad 5)) X hP (i := 2) (by decide) (kw_cM ) rfl i_M 1 (by decide) lf_M_17 rfl d_M_layInFrame_6 ?_
  refine lv_iload_n hx hb d_M_layInFrame_9 rfl (lv_at hl 0 rfl) ?_
  refine wl_aald X hP (i := 5) (by decide) 2 (kw_cAF ) rfl (j := r1.toNatClampNeg) hc1 (by omega) (by decide) d_M_layInFrame_10 ?_
  refine kw_caseE (fun h3 => ?_) (fun h3 => ?_)
  · skip
    refine lv_ifnull hx hb d_M_layInFrame_11 ?_
    refine lv_aload_n hx hb d_M_layInFrame_14 rfl (lv_at hl 1 rfl) ?_
    refine lv_aload_n hx hb d_M_layInFrame_15 rfl (lv_at hl 1 rfl) ?_
    refine wl_get (v := .ref (ad 5)) X hP (i := 2) (by decide) (kw_cM ) rfl i_M 1 (by decide) lf_M_17 rfl d_M_layInFrame_16 ?_
    refine lv_iload_n hx hb d_M_layInFrame_19 rfl (lv_at hl 0 rfl) ?_
    refine wl_aald X hP (i := 5) (by decide) 2 (kw_cAF ) rfl (j := r1.toNatClampNeg) hc1 (by omega) (by decide) d_M_layInFrame_20 ?_
    have hn4 : S2.2 5 0 r1.toNatClampNeg < 32 := h3
    refine wl_topv (y := .ref (ad (19 + (S2.2 5 0 r1.toNatClampNeg)))) (kw_nnE hn4) ?_
    refine wl_gov2 (cf := kw_C cI cT cS ad) (S2 := k_M_goOut S2 (S2.2 5 0 r1.toNatClampNeg)) hS hA X.2.2.2.2.2.2 (wl_runV (As := [.ref (ad (19 + (S2.2 5 0 r1.toNatClampNeg)))]) (rest := []) X hml hl.1 hP g_TT (c_M_goOut hinj S2 (S2.2 5 0 r1.toNatClampNeg) (by omega) (by have := hI1 _ hc2 h3; omega) _) (by decide) (kw_cM ) rfl wv_M_92 (na := 1) (by decide +kernel) rfl ⟨Nat.le_of_ble_eq_true rfl, Nat.le_of_ble_eq_true rfl⟩ rfl (Nat.le_of_ble_eq_true rfl) d_M_layInFrame_21 ⟨Nat.le_refl _, Nat.le_refl _⟩) (fun S5 eS5 H locs hP hS => ?_)
    have hE : k_M_layInFrame S0 e = k_M_layInFrame_J24 e r1.toNatClampNeg S5 := by
      subst eS5
      subst eS2
      subst er1
      exact ((if_pos h3).trans rfl)
    rw [hE]
    exact c_M_layInFrame_J24 hinj X hsz hml hr hlocks e (by omega) r1 r1.toNatClampNeg hc1 (by omega) S5 _ _ _ (lv_sub hl [1, 2, 0] rfl) hP hS
  · skip
    refine lv_ifnullN (tgt := 24) hx hb d_M_layInFrame_11 (by decide) ?_
    have hE : k_M_layInFrame S0 e = k_M_layInFrame_J24 e r1.toNatClampNeg S2 := by
      subst eS2
      subst er1
      exact ((if_neg h3).trans rfl)
    rw [hE]
    exact c_M_layInFrame_J24 hinj X hsz hml hr hlocks e (by omega) r1 r1.toNatClampNeg hc1 (by omega) S2 _ _ _ (lv_sub hl [1, 2, 0] rfl) hP hS
theorem kq_goOut2 {S : kw_S} {e : Nat} : ∀ c, c ≠ 5 → c ≠ 6 → c ≠ 10 → (k_M_goOut S e).2 c = S.2 c := by
  intro c h5 h6 h10
  have hJ : ∀ U : kw_S, (k_M_goOut_J49 e U).2 c = U.2 c := fun U => (kw_sn_nc h10).trans (kw_sn_nc h5)
  unfold k_M_goOut
  by_cases h0 : S.1 10 e 2 = 0
  · rw [if_pos h0]
    exact hJ S
  · rw [if_neg h0]
    by_cases h1 : kw_sl (S.2 10 e 1) = -2
    · rw [if_pos h1]
      exact (hJ _).trans ((kw_sn_nc h6).trans (kw_sn_nc h10))
    · rw [if_neg h1]
      exact hJ _
theorem kq_lay2 {S : kw_S} {e : Nat} : ∀ c, c ≠ 2 → c ≠ 5 → c ≠ 6 → c ≠ 10 → (k_M_layInFrame S e).2 c = S.2 c := by
  intro c h2 h5 h6 h10
  have hJ : ∀ (f : Nat) (U : kw_S), (k_M_layInFrame_J24 e f U).2 c = U.2 c := fun f U => (kw_sn_nc h10).trans (kw_sn_nc h5)
  unfold k_M_layInFrame
  dsimp only
  by_cases h0 : (k_M_chooseFrame S).2.2 5 0 (k_M_chooseFrame S).1.toNatClampNeg < 32
  · rw [if_pos h0]
    exact (hJ _ _).trans ((kq_goOut2 c h5 h6 h10).trans (kq_choose2 c h2))
  · rw [if_neg h0]
    exact (hJ _ _).trans (kq_choose2 c h2)
theorem kq_goOut5 {S : kw_S} {e f : Nat} (he : S.2 10 e 0 = f) : (k_M_goOut S e).2 5 0 = fun d => if d = f then 32 else S.2 5 0 d := by
  have hJ : ∀ U : kw_S, U.2 10 e 0 = f → U.2 5 = S.2 5 → (k_M_goOut_J49 e U).2 5 0 = fun d => if d = f then 32 else S.2 5 0 d := by
    intro U h1 h2
    funext d
    show (kw_sn (kw_sn U 5 0 (U.2 10 e 0) 32) 10 e 0 6).2 5 0 d = _
    rw [kw_sn_at, if_neg (by simp), kw_sn_at, h1, h2]
    simp
  have hS : ∀ U : kw_S, U.2 = S.2 → (k_M_goOut_J34 e U).2 5 0 = fun d => if d = f then 32 else S.2 5 0 d := fun U h => hJ _ (by show U.2 10 e 0 = f; rw [h]; exact he) (by show U.2 5 = S.2 5; rw [h])
  unfold k_M_goOut
  by_cases h0 : S.1 10 e 2 = 0
  · rw [if_pos h0]
    exact hJ S he rfl
  · rw [if_neg h0]
    by_cases h1 : kw_sl (S.2 10 e 1) = -2
    · rw [if_pos h1]
      refine hJ _ ?_ ?_
      · show (kw_sn (kw_sn S 10 e 1 (k_M_leastFreeSlot S).toNatClampNeg) 6 0 ((kw_sn S 10 e 1 (k_M_leastFreeSlot S).toNatClampNeg).2 10 e 1) e).2 10 e 0 = f
        rw [kw_sn_at, if_neg (by simp), kw_sn_at, if_neg (by simp)]
        exact he
      · show (kw_sn (kw_sn S 10 e 1 (k_M_leastFreeSlot S).toNatClampNeg) 6 0 ((kw_sn S 10 e 1 (k_M_leastFreeSlot S).toNatClampNeg).2 10 e 1) e).2 5 = S.2 5
        rw [kw_sn_nc (by decide), kw_sn_nc (by decide)]
    · rw [if_neg h1]
      exact hS S rfl
theorem kq_goOut10 {S : kw_S} {e : Nat} : ∀ x, (k_M_goOut S e).2 10 x 0 = if x = e then 6 else S.2 10 x 0 := by
  intro x
  have hJ : ∀ U : kw_S, (∀ y, U.2 10 y 0 = S.2 10 y 0) → (k_M_goOut_J49 e U).2 10 x 0 = if x = e then 6 else S.2 10 x 0 := by
    intro U h
    show (kw_sn (kw_sn U 5 0 (U.2 10 e 0) 32) 10 e 0 6).2 10 x 0 = _
    rw [kw_sn_at]
    by_cases hx : x = e
    · rw [if_pos ⟨rfl, hx, rfl⟩, if_pos hx]
    · rw [if_neg (fun q => hx q.2.1), if_neg hx, kw_sn_at, if_neg (by simp)]
      exact h x
  unfold k_M_goOut
  by_cases h0 : S.1 10 e 2 = 0
  · rw [if_pos h0]
    exact hJ S (fun _ => rfl)
  · rw [if_neg h0]
    by_cases h1 : kw_sl (S.2 10 e 1) = -2
    · rw [if_pos h1]
      refine hJ _ (fun y => ?_)
      show (kw_sn (kw_sn S 10 e 1 (k_M_leastFreeSlot S).toNatClampNeg) 6 0 ((kw_sn S 10 e 1 (k_M_leastFreeSlot S).toNatClampNeg).2 10 e 1) e).2 10 y 0 = _
      rw [kw_sn_at, if_neg (by simp), kw_sn_at, if_neg (by simp)]
    · rw [if_neg h1]
      exact hJ _ (fun _ => rfl)
theorem kq_FI_J24 {S : kw_S} {e f : Nat} (hI : kw_FI S) (he : ¬ S.2 10 e 0 < 6) (hf : f < 6) : kw_FI (k_M_layInFrame_J24 e f S) := by
  intro g hg hlt
  have e5 : ∀ d, (k_M_layInFrame_J24 e f S).2 5 0 d = if d = f then e else S.2 5 0 d := by
    intro d
    show (kw_sn (kw_sn S 5 0 f e) 10 e 0 f).2 5 0 d = _
    rw [kw_sn_at, if_neg (by simp), kw_sn_at]
    simp
  have e10 : ∀ x, (k_M_layInFrame_J24 e f S).2 10 x 0 = if x = e then f else S.2 10 x 0 := by
    intro x
    show (kw_sn (kw_sn S 5 0 f e) 10 e 0 f).2 10 x 0 = _
    rw [kw_sn_at, kw_sn_at]
    simp
  rw [e5] at hlt ⊢
  rw [e10]
  by_cases h : g = f
  · rw [if_pos h, if_pos rfl, h]
  · rw [if_neg h] at hlt ⊢
    have h1 := hI g hg hlt
    by_cases h2 : S.2 5 0 g = e
    · rw [h2] at h1
      exact absurd hg (by omega)
    · rw [if_neg h2]
      exact h1
theorem kq_FI_lay {S : kw_S} {e : Nat} (hI : kw_FI S) (he : ¬ S.2 10 e 0 < 6) : kw_FI (k_M_layInFrame S e) := by
  have hc := kq_choose (S := S)
  have hI1 : kw_FI (k_M_chooseFrame S).2 := kw_FI_of hI (kq_choose2 5 (by decide)) (kq_choose2 10 (by decide))
  have he1 : ¬ (k_M_chooseFrame S).2.2 10 e 0 < 6 := by rw [kq_choose2 10 (by decide)]; exact he
  generalize hS1 : (k_M_chooseFrame S).2 = S1 at hI1 he1
  generalize hf : (k_M_chooseFrame S).1.toNatClampNeg = f at hc
  have key : k_M_layInFrame S e = if S1.2 5 0 f < 32 then k_M_layInFrame_J24 e f (k_M_goOut S1 (S1.2 5 0 f)) else k_M_layInFrame_J24 e f S1 := by
    rw [← hS1, ← hf]
    rfl
  rw [key]
  by_cases h0 : S1.2 5 0 f < 32
  · rw [if_pos h0]
    have h1 := hI1 f hc.2 h0
    refine kq_FI_J24 (fun g hg hlt => ?_) ?_ hc.2
    · rw [kq_goOut5 h1] at hlt ⊢
      dsimp only at hlt ⊢
      by_cases h2 : g = f
      · rw [if_pos h2] at hlt
        exact absurd hlt (by omega)
      · rw [if_neg h2] at hlt ⊢
        have h3 := hI1 g hg hlt
        rw [kq_goOut10]
        by_cases h4 : S1.2 5 0 g = S1.2 5 0 f
        · rw [h4, h1] at h3
          exact absurd h3.symm h2
        · rw [if_neg h4]
          exact h3
    · rw [kq_goOut10]
      by_cases h4 : e = S1.2 5 0 f
      · rw [if_pos h4]
        omega
      · rw [if_neg h4]
        exact he1
  · rw [if_neg h0]
    exact kq_FI_J24 hI1 he1 hc.2
def k_M_reach_J118 (w : Int32) (x : Nat) (S0 : kw_S) : Nat × kw_S :=
  let S1 := kw_si S0 10 x 1 (1 : Int32)
  if w = 0 then
    (x, S1)
  else
    let S3 := kw_si S1 10 x 2 (1 : Int32)
    (x, S3)
set_option maxHeartbeats 4000000 in
set_option maxRecDepth 100000 in
theorem c_M_reach_J118 {l : Launch} {D : va_G} {cI cT cS : ClassId} {ad : Nat → Nat} {p_ : Program} {e_ : Env} {s_ : State} {m_ : MethodId} {args : Array Value} {below : List Frame} {meth : Method} {c_ : Code} {sz : Nat} (hinj : wl_inj 83 ad) (X : wl_X p_ s_ m_ args c_ b_M_reach R_M TT D classes (kw_ty cI cT cS) 83 ad (wl_A 83 ad s_.heap.size)) (hsz : s_.heap.size = sz) (hml : c_.maxLocals = 5) (hr : meth.sig.returnType = some (.object "SheetKernel$Sheet")) (hlocks : meth.locks = false) :
    ∀ (w : Int32) (x : Nat) (h_x : x < 32) (S0 : kw_S) (H : Heap) (locs : List Loc) (ls : Array Slot), lv_has ls 5 [(0, .ref (ad 2)), (3, .int w), (4, .ref (ad (19 + x)))] → va_P D classes (wl_W 83 ad (kw_C cI cT cS ad S0)) H → va_S (wl_A 83 ad s_.heap.size) s_.heap H locs → W p_ l e_ (rm_ 3) s_ m_ args below meth c_ H locs 0 0 (MQ below (wl_Qr D classes (kw_ty cI cT cS) 83 ad (ad (19 + ((k_M_reach_J118 w x S0).1))) (kw_C cI cT cS ad ((k_M_reach_J118 w x S0).2)) sz) args s_ 0 0 (wl_A 83 ad sz)) (F0 m_ 118 ls []) := by
  have hx := X.1
  have hb := X.2.1
  have hA : ∀ q, s_.heap.size ≤ q → (wl_A 83 ad s_.heap.size) q := fun q h => Or.inr h
  intro w x h_x S0 H locs ls hl hP hS
  refine lv_aload hx hb d_M_reach_118 (lv_at hl 2 rfl) ?_
  refine lv_iconst (v := 1) hx hb d_M_reach_120 (by decide) ?_
  refine wl_put X hP hS (i := (19 + x)) (by omega) (kw_cE (by omega)) rfl i_E ft_E ft_E_ok fn_E 4 (by decide) lf_M_66 rfl rfl rfl (Nat.le_of_ble_eq_true rfl) d_M_reach_121 (kw_pE_used (by omega)) (fun H locs hP hS => ?_)
  obtain ⟨S1, eS1⟩ : ∃ z, z = kw_si S0 10 x 1 (1 : Int32) := ⟨_, rfl⟩
  rw [← eS1] at hP
  refine lv_iload_n hx hb d_M_reach_124 rfl (lv_at hl 1 rfl) ?_
  refine lv_if_eq (tgt := 134) hx hb d_M_reach_125 (by decide) (fun c2 => ?_) (fun c2 => ?_)
  · skip
    refine lv_aload hx hb d_M_reach_134 (lv_at hl 2 rfl) ?_
    have hE : k_M_reach_J118 w x S0 = (x, S1) := by
      subst eS1
      exact ((if_pos c2).trans rfl)
    rw [hE]
    exact wl_aret X hsz hr hlocks hP hS d_M_reach_136
  · skip
    refine lv_aload hx hb d_M_reach_128 (lv_at hl 2 rfl) ?_
    refine lv_iconst (v := 1) hx hb d_M_reach_130 (by decide) ?_
    refine wl_put X hP hS (i := (19 + x)) (by omega) (kw_cE (by omega)) rfl i_E ft_E ft_E_ok fn_E 5 (by decide) lf_M_70 rfl rfl rfl (Nat.le_of_ble_eq_true rfl) d_M_reach_131 (kw_pE_changed (by omega)) (fun H locs hP hS => ?_)
    obtain ⟨S3, eS3⟩ : ∃ z, z = kw_si S1 10 x 2 (1 : Int32) := ⟨_, rfl⟩
    rw [← eS3] at hP
    refine lv_aload hx hb d_M_reach_134 (lv_at hl 2 rfl) ?_
    have hE : k_M_reach_J118 w x S0 = (x, S3) := by
      subst eS3
      subst eS1
      exact ((if_neg c2).trans rfl)
    rw [hE]
    exact wl_aret X hsz hr hlocks hP hS d_M_reach_136
def k_M_reach_J83 (p : Nat) (k : Nat) (w : Int32) (x : Nat) (S0 : kw_S) : Nat × kw_S :=
  if w = 0 then
    k_M_reach_J118 w x S0
  else
    if (S0.1 10 x 0) ≤ (1 : Int32) then
      k_M_reach_J118 w x S0
    else
      let r3 := (k_M_copyOf S0 x).1
      let S4 := (k_M_copyOf S0 x).2
      let S5 := kw_sn S4 9 p k r3
      let S6 := k_M_layInFrame S5 r3
      k_M_reach_J118 w r3 S6
set_option maxHeartbeats 4000000 in
set_option maxRecDepth 100000 in
theorem c_M_reach_J83 {l : Launch} {D : va_G} {cI cT cS : ClassId} {ad : Nat → Nat} {p_ : Program} {e_ : Env} {s_ : State} {m_ : MethodId} {args : Array Value} {below : List Frame} {meth : Method} {c_ : Code} {sz : Nat} (hinj : wl_inj 83 ad) (X : wl_X p_ s_ m_ args c_ b_M_reach R_M TT D classes (kw_ty cI cT cS) 83 ad (wl_A 83 ad s_.heap.size)) (hsz : s_.heap.size = sz) (hml : c_.maxLocals = 5) (hr : meth.sig.returnType = some (.object "SheetKernel$Sheet")) (hlocks : meth.locks = false) :
    ∀ (p : Nat) (h_p : p < 4) (x_k : Int32) (k : Nat) (e_k : x_k = nI k) (h_k : k < 8) (w : Int32) (x : Nat) (h_x : x < 32) (S0 : kw_S) (hI : kw_FI S0) (H : Heap) (locs : List Loc) (ls : Array Slot), lv_has ls 5 [(0, .ref (ad 2)), (1, .ref (ad (7 + p))), (2, .int x_k), (3, .int w), (4, .ref (ad (19 + x)))] → va_P D classes (wl_W 83 ad (kw_C cI cT cS ad S0)) H → va_S (wl_A 83 ad s_.heap.size) s_.heap H locs → W p_ l e_ (rm_ 3) s_ m_ args below meth c_ H locs 0 0 (MQ below (wl_Qr D classes (kw_ty cI cT cS) 83 ad (ad (19 + ((k_M_reach_J83 p k w x S0).1))) (kw_C cI cT cS ad ((k_M_reach_J83 p k w x S0).2)) sz) args s_ 0 0 (wl_A 83 ad sz)) (F0 m_ 83 ls []) := by
  have hx := X.1
  have hb := X.2.1
  have hA : ∀ q, s_.heap.size ≤ q → (wl_A 83 ad s_.heap.size) q := fun q h => Or.inr h
  intro p h_p x_k k e_k h_k w x h_x S0 hI H locs ls hl hP hS
  subst e_k
  refine lv_iload_n hx hb d_M_reach_83 rfl (lv_at hl 3 rfl) ?_
  refine lv_if_eq (tgt := 118) hx hb d_M_reach_84 (by decide) (fun c1 => ?_) (fun c1 => ?_)
  · skip
    have hE : k_M_reach_J83 p k w x S0 = k_M_reach_J118 w x S0 := by
      exact ((if_pos c1).trans rfl)
    rw [hE]
    exact c_M_reach_J118 hinj X hsz hml hr hlocks w x (by omega) S0 _ _ _ (lv_sub hl [0, 3, 4] rfl) hP hS
  · skip
    refine lv_aload hx hb d_M_reach_87 (lv_at hl 4 rfl) ?_
    refine wl_get (v := .int (S0.1 10 x 0)) X hP (i := (19 + x)) (by omega) (kw_cE (by omega)) rfl i_E 1 (by decide) lf_M_59 rfl d_M_reach_89 ?_
    refine lv_iconst (v := 1) hx hb d_M_reach_92 (by decide) ?_
    refine lv_icmp_le (tgt := 118) hx hb d_M_reach_93 (by decide) (fun c2 => ?_) (fun c2 => ?_)
    · skip
      have hE : k_M_reach_J83 p k w x S0 = k_M_reach_J118 w x S0 := by
        exact ((if_neg c1).trans ((if_pos c2).trans rfl))
      rw [hE]
      exact c_M_reach_J118 hinj X hsz hml hr hlocks w x (by omega) S0 _ _ _ (lv_sub hl [0, 3, 4] rfl) hP hS
    · skip
      refine lv_aload_n hx hb d_M_reach_96 rfl (lv_at hl 0 rfl) ?_
      refine lv_aload hx hb d_M_reach_97 (lv_at hl 4 rfl) ?_
      refine wl_gor2 (cf := kw_C cI cT cS ad) (pl := fun r => (19 + r)) (res := k_M_copyOf S0 x) hS hA X.2.2.2.2.2.2 (wl_runV (As := [.ref (ad (19 + x))]) (rest := []) X hml hl.1 hP g_TT (c_M_copyOf hinj S0 x (by omega) _) (by decide) (kw_cM ) rfl wv_M_62 (na := 1) (by decide +kernel) rfl ⟨Nat.le_of_ble_eq_true rfl, Nat.le_of_ble_eq_true rfl⟩ rfl (Nat.le_of_ble_eq_true rfl) d_M_reach_99 ⟨Nat.le_refl _, Nat.le_refl _⟩) (fun r3 S4 er3 eS4 H locs hP hS => ?_)
      have hc_r : r3 < 32 := by
        rw [er3]
        exact kq_copyLt
      have hI1 : kw_FI S4 := by
        rw [eS4]
        exact kw_FI_of hI (by rw [kq_copy2]) (by rw [kq_copy2])
      refine lv_astore (lv' := [(4, .ref (ad (19 + r3))), (0, .ref (ad 2)), (1, .ref (ad (7 + p))), (2, .int (nI k)), (3, .int w)]) hx hb d_M_reach_102 hl (by decide) rfl (fun ls hl => ?_)
      refine lv_aload_n hx hb d_M_reach_104 rfl (lv_at hl 2 rfl) ?_
      refine wl_get (v := .ref (ad (15 + p))) X hP (i := (7 + p)) (by omega) (kw_cT (by omega)) rfl i_T 1 (by decide) lf_M_32 rfl d_M_reach_105 ?_
      refine lv_iload_n hx hb d_M_reach_108 rfl (lv_at hl 3 rfl) ?_
      refine lv_aload hx hb d_M_reach_109 (lv_at hl 0 rfl) ?_
      refine wl_aast X hP hS (i := (15 + p)) (by omega) 2 (r := (R_E, F_E, 6)) (kw_cAP (by omega)) rfl (j := k) rfl (by omega) (by decide) (k := (19 + r3)) (by omega) (kw_cE (by omega)) rfl d_M_reach_111 (kw_prAP (by omega) (by omega)) (fun H locs hP hS => ?_)
      obtain ⟨S5, eS5⟩ : ∃ z, z = kw_sn S4 9 p k r3 := ⟨_, rfl⟩
      rw [← eS5] at hP
      refine lv_aload_n hx hb d_M_reach_112 rfl (lv_at hl 1 rfl) ?_
      refine lv_aload hx hb d_M_reach_113 (lv_at hl 0 rfl) ?_
      refine wl_gov2 (cf := kw_C cI cT cS ad) (S2 := k_M_layInFrame S5 r3) hS hA X.2.2.2.2.2.2 (wl_runV (As := [.ref (ad (19 + r3))]) (rest := []) X hml hl.1 hP g_TT (c_M_layInFrame hinj S5 r3 (by omega) (by rw [eS5]; exact kw_FI_of hI1 (kw_sn_nc (by decide)) (kw_sn_nc (by decide))) _) (by decide) (kw_cM ) rfl wv_M_55 (na := 1) (by decide +kernel) rfl ⟨Nat.le_of_ble_eq_true rfl, Nat.le_of_ble_eq_true rfl⟩ rfl (Nat.le_of_ble_eq_true rfl) d_M_reach_115 ⟨Nat.le_refl _, Nat.le_refl _⟩) (fun S6 eS6 H locs hP hS => ?_)
      have hE : k_M_reach_J83 p k w x S0 = k_M_reach_J118 w r3 S6 := by
        subst eS6
        subst eS5
        subst eS4
        subst er3
        exact ((if_neg c1).trans ((if_neg c2).trans rfl))
      rw [hE]
      exact c_M_reach_J118 hinj X hsz hml hr hlocks w r3 (by omega) S6 _ _ _ (lv_sub hl [1, 4, 0] rfl) hP hS
def k_M_reach_J19 (p : Nat) (k : Nat) (w : Int32) (S0 : kw_S) : Nat × kw_S :=
  if (kw_fr (S0.2 10 (S0.2 9 p k) 0)) = (-2 : Int32) then
    let S3 := kw_si S0 7 p 4 ((S0.1 7 p 4) + (1 : Int32))
    let S4 := kw_si S3 2 0 0 ((S3.1 2 0 0) + (1 : Int32))
    if (kw_sl (S4.2 10 (S0.2 9 p k) 1)) = (-2 : Int32) then
      let S6 := k_M_layInFrame S4 (S0.2 9 p k)
      k_M_reach_J83 p k w (S0.2 9 p k) S6
    else
      let S7 := kw_si S4 2 0 2 ((S4.1 2 0 2) + (1 : Int32))
      let S8 := k_M_layInFrame S7 (S0.2 9 p k)
      k_M_reach_J83 p k w (S0.2 9 p k) S8
  else
    k_M_reach_J83 p k w (S0.2 9 p k) S0
set_option maxHeartbeats 4000000 in
set_option maxRecDepth 100000 in
theorem c_M_reach_J19 {l : Launch} {D : va_G} {cI cT cS : ClassId} {ad : Nat → Nat} {p_ : Program} {e_ : Env} {s_ : State} {m_ : MethodId} {args : Array Value} {below : List Frame} {meth : Method} {c_ : Code} {sz : Nat} (hinj : wl_inj 83 ad) (X : wl_X p_ s_ m_ args c_ b_M_reach R_M TT D classes (kw_ty cI cT cS) 83 ad (wl_A 83 ad s_.heap.size)) (hsz : s_.heap.size = sz) (hml : c_.maxLocals = 5) (hr : meth.sig.returnType = some (.object "SheetKernel$Sheet")) (hlocks : meth.locks = false) :
    ∀ (p : Nat) (h_p : p < 4) (x_k : Int32) (k : Nat) (e_k : x_k = nI k) (h_k : k < 8) (w : Int32) (S0 : kw_S) (hI : kw_FI S0) (hk : S0.2 9 p k < 32) (H : Heap) (locs : List Loc) (ls : Array Slot), lv_has ls 5 [(0, .ref (ad 2)), (1, .ref (ad (7 + p))), (2, .int x_k), (3, .int w)] → va_P D classes (wl_W 83 ad (kw_C cI cT cS ad S0)) H → va_S (wl_A 83 ad s_.heap.size) s_.heap H locs → W p_ l e_ (rm_ 3) s_ m_ args below meth c_ H locs 0 0 (MQ below (wl_Qr D classes (kw_ty cI cT cS) 83 ad (ad (19 + ((k_M_reach_J19 p k w S0).1))) (kw_C cI cT cS ad ((k_M_reach_J19 p k w S0).2)) sz) args s_ 0 0 (wl_A 83 ad sz)) (F0 m_ 19 ls []) := by
  have hx := X.1
  have hb := X.2.1
  have hA : ∀ q, s_.heap.size ≤ q → (wl_A 83 ad s_.heap.size) q := fun q h => Or.inr h
  intro p h_p x_k k e_k h_k w S0 hI hk H locs ls hl hP hS
  subst e_k
  refine lv_aload_n hx hb d_M_reach_19 rfl (lv_at hl 1 rfl) ?_
  refine wl_get (v := .ref (ad (15 + p))) X hP (i := (7 + p)) (by omega) (kw_cT (by omega)) rfl i_T 1 (by decide) lf_M_32 rfl d_M_reach_20 ?_
  refine lv_iload_n hx hb d_M_reach_23 rfl (lv_at hl 2 rfl) ?_
  refine wl_aald X hP (i := (15 + p)) (by omega) 2 (kw_cAP (by omega)) rfl (j := k) rfl (by omega) (by decide) d_M_reach_24 ?_
  have hn1 : S0.2 9 p k < 32 := hk
  refine wl_topv (y := .ref (ad (19 + (S0.2 9 p k)))) (kw_nnE hn1) ?_
  refine lv_astore (lv' := [(4, .ref (ad (19 + (S0.2 9 p k)))), (0, .ref (ad 2)), (1, .ref (ad (7 + p))), (2, .int (nI k)), (3, .int w)]) hx hb d_M_reach_25 hl (by decide) rfl (fun ls hl => ?_)
  refine lv_aload hx hb d_M_reach_27 (lv_at hl 0 rfl) ?_
  refine wl_get (v := .int (kw_fr (S0.2 10 (S0.2 9 p k) 0))) X hP (i := (19 + (S0.2 9 p k))) (by omega) (kw_cE (by omega)) rfl i_E 2 (by decide) lf_M_41 rfl d_M_reach_29 ?_
  refine lv_bipush (v := -2) hx hb d_M_reach_32 (by decide) ?_
  refine lv_icmp_ne (tgt := 83) hx hb d_M_reach_34 (by decide) (fun c2 => ?_) (fun c2 => ?_)
  · skip
    have hE : k_M_reach_J19 p k w S0 = k_M_reach_J83 p k w (S0.2 9 p k) S0 := by
      exact ((if_neg c2).trans rfl)
    rw [hE]
    exact c_M_reach_J83 hinj X hsz hml hr hlocks p (by omega) (nI k) k rfl (by omega) w (S0.2 9 p k) (by omega) S0 (by first | exact hI2 | exact hI) _ _ _ (lv_sub hl [1, 2, 3, 4, 0] rfl) hP hS
  · skip
    have hf_ := c2
    refine lv_aload_n hx hb d_M_reach_37 rfl (lv_at hl 2 rfl) ?_
    refine lv_dup hx hb d_M_reach_38 rfl ?_
    refine wl_get (v := .int (S0.1 7 p 4)) X hP (i := (7 + p)) (by omega) (kw_cT (by omega)) rfl i_T 7 (by decide) lf_M_45 rfl d_M_reach_39 ?_
    refine lv_iconst (v := 1) hx hb d_M_reach_42 (by decide) ?_
    refine lv_iadd hx hb d_M_reach_43 ?_
    refine wl_put X hP hS (i := (7 + p)) (by omega) (kw_cT (by omega)) rfl i_T ft_T ft_T_ok fn_T 7 (by decide) lf_M_45 rfl rfl rfl (Nat.le_of_ble_eq_true rfl) d_M_reach_44 (kw_pT_faults (by omega)) (fun H locs hP hS => ?_)
    obtain ⟨S3, eS3⟩ : ∃ z, z = kw_si S0 7 p 4 ((S0.1 7 p 4) + (1 : Int32)) := ⟨_, rfl⟩
    rw [← eS3] at hP
    refine lv_aload_n hx hb d_M_reach_47 rfl (lv_at hl 1 rfl) ?_
    refine lv_dup hx hb d_M_reach_48 rfl ?_
    refine wl_get (v := .int (S3.1 2 0 0)) X hP (i := 2) (by decide) (kw_cM ) rfl i_M 4 (by decide) lf_M_48 rfl d_M_reach_49 ?_
    refine lv_iconst (v := 1) hx hb d_M_reach_52 (by decide) ?_
    refine lv_iadd hx hb d_M_reach_53 ?_
    refine wl_put X hP hS (i := 2) (by decide) (kw_cM ) rfl i_M ft_M ft_M_ok fn_M 4 (by decide) lf_M_48 rfl rfl rfl (Nat.le_of_ble_eq_true rfl) d_M_reach_54 (kw_pM_faults ) (fun H locs hP hS => ?_)
    obtain ⟨S4, eS4⟩ : ∃ z, z = kw_si S3 2 0 0 ((S3.1 2 0 0) + (1 : Int32)) := ⟨_, rfl⟩
    rw [← eS4] at hP
    refine lv_aload hx hb d_M_reach_57 (lv_at hl 0 rfl) ?_
    refine wl_get (v := .int (kw_sl (S4.2 10 (S0.2 9 p k) 1))) X hP (i := (19 + (S0.2 9 p k))) (by omega) (kw_cE (by omega)) rfl i_E 3 (by decide) lf_M_49 rfl d_M_reach_59 ?_
    refine lv_bipush (v := -2) hx hb d_M_reach_62 (by decide) ?_
    refine lv_icmp_eq (tgt := 77) hx hb d_M_reach_64 (by decide) (fun c5 => ?_) (fun c5 => ?_)
    · skip
      refine lv_aload_n hx hb d_M_reach_77 rfl (lv_at hl 1 rfl) ?_
      refine lv_aload hx hb d_M_reach_78 (lv_at hl 0 rfl) ?_
      refine wl_gov2 (cf := kw_C cI cT cS ad) (S2 := k_M_layInFrame S4 (S0.2 9 p k)) hS hA X.2.2.2.2.2.2 (wl_runV (As := [.ref (ad (19 + (S0.2 9 p k)))]) (rest := []) X hml hl.1 hP g_TT (c_M_layInFrame hinj S4 (S0.2 9 p k) (by omega) (by subst_vars; exact hI) _) (by decide) (kw_cM ) rfl wv_M_55 (na := 1) (by decide +kernel) rfl ⟨Nat.le_of_ble_eq_true rfl, Nat.le_of_ble_eq_true rfl⟩ rfl (Nat.le_of_ble_eq_true rfl) d_M_reach_80 ⟨Nat.le_refl _, Nat.le_refl _⟩) (fun S6 eS6 H locs hP hS => ?_)
      have hI2 : kw_FI S6 := by
        rw [eS6]
        refine kq_FI_lay (by subst_vars; exact hI) ?_
        have h9 := kw_fr_no hf_
        subst_vars
        exact h9
      have hE : k_M_reach_J19 p k w S0 = k_M_reach_J83 p k w (S0.2 9 p k) S6 := by
        subst eS6
        subst eS4
        subst eS3
        exact ((if_pos c2).trans ((if_pos c5).trans rfl))
      rw [hE]
      exact c_M_reach_J83 hinj X hsz hml hr hlocks p (by omega) (nI k) k rfl (by omega) w (S0.2 9 p k) (by omega) S6 (by first | exact hI2 | exact hI) _ _ _ (lv_sub hl [1, 2, 3, 4, 0] rfl) hP hS
    · skip
      refine lv_aload_n hx hb d_M_reach_67 rfl (lv_at hl 1 rfl) ?_
      refine lv_dup hx hb d_M_reach_68 rfl ?_
      refine wl_get (v := .int (S4.1 2 0 2)) X hP (i := 2) (by decide) (kw_cM ) rfl i_M 6 (by decide) lf_M_52 rfl d_M_reach_69 ?_
      refine lv_iconst (v := 1) hx hb d_M_reach_72 (by decide) ?_
      refine lv_iadd hx hb d_M_reach_73 ?_
      refine wl_put X hP hS (i := 2) (by decide) (kw_cM ) rfl i_M ft_M ft_M_ok fn_M 6 (by decide) lf_M_52 rfl rfl rfl (Nat.le_of_ble_eq_true rfl) d_M_reach_74 (kw_pM_read ) (fun H locs hP hS => ?_)
      obtain ⟨S7, eS7⟩ : ∃ z, z = kw_si S4 2 0 2 ((S4.1 2 0 2) + (1 : Int32)) := ⟨_, rfl⟩
      rw [← eS7] at hP
      refine lv_aload_n hx hb d_M_reach_77 rfl (lv_at hl 1 rfl) ?_
      refine lv_aload hx hb d_M_reach_78 (lv_at hl 0 rfl) ?_
      refine wl_gov2 (cf := kw_C cI cT cS ad) (S2 := k_M_layInFrame S7 (S0.2 9 p k)) hS hA X.2.2.2.2.2.2 (wl_runV (As := [.ref (ad (19 + (S0.2 9 p k)))]) (rest := []) X hml hl.1 hP g_TT (c_M_layInFrame hinj S7 (S0.2 9 p k) (by omega) (by subst_vars; exact hI) _) (by decide) (kw_cM ) rfl wv_M_55 (na := 1) (by decide +kernel) rfl ⟨Nat.le_of_ble_eq_true rfl, Nat.le_of_ble_eq_true rfl⟩ rfl (Nat.le_of_ble_eq_true rfl) d_M_reach_80 ⟨Nat.le_refl _, Nat.le_refl _⟩) (fun S8 eS8 H locs hP hS => ?_)
      have hI2 : kw_FI S8 := by
        rw [eS8]
        refine kq_FI_lay (by subst_vars; exact hI) ?_
        have h9 := kw_fr_no hf_
        subst_vars
        exact h9
      have hE : k_M_reach_J19 p k w S0 = k_M_reach_J83 p k w (S0.2 9 p k) S8 := by
        subst eS8
        subst eS7
        subst eS4
        subst eS3
        exact ((if_pos c2).trans ((if_neg c5).trans rfl))
      rw [hE]
      exact c_M_reach_J83 hinj X hsz hml hr hlocks p (by omega) (nI k) k rfl (by omega) w (S0.2 9 p k) (by omega) S8 (by first | exact hI2 | exact hI) _ _ _ (lv_sub hl [1, 2, 3, 4, 0] rfl) hP hS
def k_M_reach (S0 : kw_S) (p : Nat) (k : Nat) (w : Int32) : Nat × kw_S :=
  if S0.2 9 p k < 32 then
    k_M_reach_J19 p k w S0
  else
    let r2 := (k_M_newSheet S0).1
    let S3 := (k_M_newSheet S0).2
    let S4 := kw_sn S3 9 p k r2
    k_M_reach_J19 p k w S4
set_option maxHeartbeats 4000000 in
set_option maxRecDepth 100000 in
theorem c_M_reach {l : Launch} {D : va_G} {cI cT cS : ClassId} {ad : Nat → Nat} (hinj : wl_inj 83 ad) (S0 : kw_S) (p : Nat) (h_p : p < 4) (x_k : Int32) (k : Nat) (e_k : x_k = nI k) (h_k : k < 8) (w : Int32) (hI : kw_FI S0) : wl_Mr l y_M_reach (Cond.code y_M_reach b_M_reach 5 (some (.object "SheetKernel$Sheet")) :: TT) (rm_ 3) D classes (kw_ty cI cT cS) 83 ad [.ref (ad 2), .ref (ad (7 + p)), .int x_k, .int w] (kw_C cI cT cS ad S0) (ad (19 + ((k_M_reach S0 p k w).1))) (kw_C cI cT cS ad ((k_M_reach S0 p k w).2)) := by
  subst e_k
  intro sz
  refine wl_enter (own := R_M) rfl (by decide) (Nat.le_of_ble_eq_true rfl) hinj (fun p_ e_ s_ m_ below meth c_ ls hsz X hml hr hlocks hl hP hS => ?_)
  have hx := X.1
  have hb := X.2.1
  have hA : ∀ q, s_.heap.size ≤ q → (wl_A 83 ad s_.heap.size) q := fun q h => Or.inr h
  have hl : lv_has ls 5 [(0, .ref (ad 2)), (1, .ref (ad (7 + p))), (2, .int (nI k)), (3, .int w)] := hl
  refine lv_aload_n hx hb d_M_reach_0 rfl (lv_at hl 1 rfl) ?_
  refine wl_get (v := .ref (ad (15 + p))) X hP (i := (7 + p)) (by omega) (kw_cT (by omega)) rfl i_T 1 (by decide) lf_M_32 rfl d_M_reach_1 ?_
  refine lv_iload_n hx hb d_M_reach_4 rfl (lv_at hl 2 rfl) ?_
  refine wl_aald X hP (i := (15 + p)) (by omega) 2 (kw_cAP (by omega)) rfl (j := k) rfl (by omega) (by decide) d_M_reach_5 ?_
  refine kw_caseE (fun h1 => ?_) (fun h1 => ?_)
  · skip
    refine lv_ifnonnull (tgt := 19) hx hb d_M_reach_6 (by decide) ?_
    have hE : k_M_reach S0 p k w = k_M_reach_J19 p k w S0 := by
      exact ((if_pos h1).trans rfl)
    rw [hE]
    exact c_M_reach_J19 hinj X hsz hml hr hlocks p (by omega) (nI k) k rfl (by omega) w S0 (by first | exact hI | (rw [eS0]; exact kw_FI_of hI1 (kw_sn_nc (by decide)) (kw_sn_nc (by decide)))) (by first | exact h1 | (rw [eS0, kw_sn_at, if_pos ⟨rfl, rfl, rfl⟩]; exact hc_r)) _ _ _ (lv_sub hl [0, 1, 2, 3] rfl) hP hS
  · skip
    refine lv_ifnonnullN hx hb d_M_reach_6 ?_
    refine lv_aload_n hx hb d_M_reach_9 rfl (lv_at hl 1 rfl) ?_
    refine wl_get (v := .ref (ad (15 + p))) X hP (i := (7 + p)) (by omega) (kw_cT (by omega)) rfl i_T 1 (by decide) lf_M_32 rfl d_M_reach_10 ?_
    refine lv_iload_n hx hb d_M_reach_13 rfl (lv_at hl 2 rfl) ?_
    refine lv_aload_n hx hb d_M_reach_14 rfl (lv_at hl 0 rfl) ?_
    refine wl_gor2 (cf := kw_C cI cT cS ad) (pl := fun r => (19 + r)) (res := k_M_newSheet S0) hS hA X.2.2.2.2.2.2 (wl_runV (As := []) (rest := [.int (nI k), .ref (ad (15 + p))]) X hml hl.1 hP g_TT (c_M_newSheet hinj S0 _) (by decide) (kw_cM ) rfl wv_M_37 (na := 0) (by decide +kernel) rfl ⟨Nat.le_of_ble_eq_true rfl, Nat.le_of_ble_eq_true rfl⟩ rfl (Nat.le_of_ble_eq_true rfl) d_M_reach_15 ⟨Nat.le_refl _, Nat.le_refl _⟩) (fun r2 S3 er2 eS3 H locs hP hS => ?_)
    have hc_r : r2 < 32 := by
      rw [er2]
      exact kq_newSheet
    have hI1 : kw_FI S3 := by
      rw [eS3]
      exact kw_FI_of hI (by rw [kq_new2]) (by rw [kq_new2])
    refine wl_aast X hP hS (i := (15 + p)) (by omega) 2 (r := (R_E, F_E, 6)) (kw_cAP (by omega)) rfl (j := k) rfl (by omega) (by decide) (k := (19 + r2)) (by omega) (kw_cE (by omega)) rfl d_M_reach_18 (kw_prAP (by omega) (by omega)) (fun H locs hP hS => ?_)
    obtain ⟨S4, eS4⟩ : ∃ z, z = kw_sn S3 9 p k r2 := ⟨_, rfl⟩
    rw [← eS4] at hP
    have hE : k_M_reach S0 p k w = k_M_reach_J19 p k w S4 := by
      subst eS4
      subst eS3
      subst er2
      exact ((if_neg h1).trans rfl)
    rw [hE]
    exact c_M_reach_J19 hinj X hsz hml hr hlocks p (by omega) (nI k) k rfl (by omega) w S4 (by first | exact hI | (rw [eS4]; exact kw_FI_of hI1 (kw_sn_nc (by decide)) (kw_sn_nc (by decide)))) (by first | exact h1 | (rw [eS4, kw_sn_at, if_pos ⟨rfl, rfl, rfl⟩]; exact hc_r)) _ _ _ (lv_sub hl [0, 1, 2, 3] rfl) hP hS
end
section
theorem kq_J118 {w : Int32} {x : Nat} {S : kw_S} : (k_M_reach_J118 w x S).1 = x ∧ (k_M_reach_J118 w x S).2.2 = S.2 := by
  unfold k_M_reach_J118
  dsimp only
  by_cases h : w = 0
  · rw [if_pos h]
    exact ⟨rfl, rfl⟩
  · rw [if_neg h]
    exact ⟨rfl, rfl⟩
theorem kq_J83 {p k x : Nat} {w : Int32} {S : kw_S} (hx : x < 32) : (k_M_reach_J83 p k w x S).1 < 32 ∧ (k_M_reach_J83 p k w x S).2.2 0 = S.2 0 := by
  have h1 : ∀ y U, y < 32 → (k_M_reach_J118 w y U).1 < 32 ∧ (k_M_reach_J118 w y U).2.2 0 = U.2 0 := fun y U hy => ⟨by rw [kq_J118.1]; exact hy, by rw [kq_J118.2]⟩
  unfold k_M_reach_J83
  dsimp only
  by_cases h : w = 0
  · rw [if_pos h]
    exact h1 x S hx
  · rw [if_neg h]
    by_cases h2 : S.1 10 x 0 ≤ 1
    · rw [if_pos h2]
      exact h1 x S hx
    · rw [if_neg h2]
      obtain ⟨a, b⟩ := h1 (k_M_copyOf S x).1 (k_M_layInFrame (kw_sn (k_M_copyOf S x).2 9 p k (k_M_copyOf S x).1) (k_M_copyOf S x).1) kq_copyLt
      refine ⟨a, b.trans ?_⟩
      rw [kq_lay2 0 (by decide) (by decide) (by decide) (by decide), kw_sn_nc (by decide), kq_copy2]
theorem kq_J83r {p k x : Nat} {S : kw_S} (hI : kw_FI S) : kw_FI (k_M_reach_J83 p k 0 x S).2 := by
  have e : k_M_reach_J83 p k 0 x S = k_M_reach_J118 0 x S := if_pos rfl
  rw [e]
  exact kw_FI_of hI (by rw [kq_J118.2]) (by rw [kq_J118.2])
theorem kq_J19 {p k : Nat} {w : Int32} {S : kw_S} (hk : S.2 9 p k < 32) : (k_M_reach_J19 p k w S).1 < 32 ∧ (k_M_reach_J19 p k w S).2.2 0 = S.2 0 := by
  unfold k_M_reach_J19
  dsimp only
  by_cases h : kw_fr (S.2 10 (S.2 9 p k) 0) = -2
  · rw [if_pos h]
    by_cases h2 : kw_sl ((kw_si (kw_si S 7 p 4 (S.1 7 p 4 + 1)) 2 0 0 ((kw_si S 7 p 4 (S.1 7 p 4 + 1)).1 2 0 0 + 1)).2 10 (S.2 9 p k) 1) = -2
    · rw [if_pos h2]
      obtain ⟨a, b⟩ := kq_J83 (p := p) (k := k) (w := w) (S := k_M_layInFrame (kw_si (kw_si S 7 p 4 (S.1 7 p 4 + 1)) 2 0 0 ((kw_si S 7 p 4 (S.1 7 p 4 + 1)).1 2 0 0 + 1)) (S.2 9 p k)) hk
      exact ⟨a, b.trans (kq_lay2 0 (by decide) (by decide) (by decide) (by decide))⟩
    · rw [if_neg h2]
      refine ⟨(kq_J83 hk).1, (kq_J83 hk).2.trans ?_⟩
      exact kq_lay2 0 (by decide) (by decide) (by decide) (by decide)
  · rw [if_neg h]
    exact kq_J83 hk
theorem kq_J19r {p k : Nat} {S : kw_S} (hI : kw_FI S) : kw_FI (k_M_reach_J19 p k 0 S).2 := by
  unfold k_M_reach_J19
  dsimp only
  by_cases h : kw_fr (S.2 10 (S.2 9 p k) 0) = -2
  · rw [if_pos h]
    by_cases h2 : kw_sl ((kw_si (kw_si S 7 p 4 (S.1 7 p 4 + 1)) 2 0 0 ((kw_si S 7 p 4 (S.1 7 p 4 + 1)).1 2 0 0 + 1)).2 10 (S.2 9 p k) 1) = -2
    · rw [if_pos h2]
      exact kq_J83r (kq_FI_lay (S := kw_si (kw_si S 7 p 4 (S.1 7 p 4 + 1)) 2 0 0 ((kw_si S 7 p 4 (S.1 7 p 4 + 1)).1 2 0 0 + 1)) hI (kw_fr_no h))
    · rw [if_neg h2]
      refine kq_J83r (kq_FI_lay ?_ ?_)
      · exact hI
      · exact kw_fr_no h
  · rw [if_neg h]
    exact kq_J83r hI
theorem kq_reach {p k : Nat} {w : Int32} {S : kw_S} : (k_M_reach S p k w).1 < 32 ∧ (k_M_reach S p k w).2.2 0 = S.2 0 := by
  unfold k_M_reach
  dsimp only
  by_cases h : S.2 9 p k < 32
  · rw [if_pos h]
    exact kq_J19 h
  · rw [if_neg h]
    have hk : (kw_sn (k_M_newSheet S).2 9 p k (k_M_newSheet S).1).2 9 p k < 32 := by
      rw [kw_sn_at, if_pos ⟨rfl, rfl, rfl⟩]
      exact kq_newSheet
    refine ⟨(kq_J19 hk).1, (kq_J19 hk).2.trans ?_⟩
    rw [kw_sn_nc (by decide), kq_new2]
theorem kq_reachR {p k : Nat} {S : kw_S} (hI : kw_FI S) : kw_FI (k_M_reach S p k 0).2 := by
  unfold k_M_reach
  dsimp only
  by_cases h : S.2 9 p k < 32
  · rw [if_pos h]
    exact kq_J19r hI
  · rw [if_neg h]
    refine kq_J19r (kw_FI_of hI ?_ ?_)
    · rw [kw_sn_nc (by decide), kq_new2]
    · rw [kw_sn_nc (by decide), kq_new2]
def k_M_fetch (S0 : kw_S) (p : Nat) (a : Nat) : Int32 × kw_S :=
  let r1 := (k_M_reach S0 p (a / 8) (0 : Int32)).1
  let S2 := (k_M_reach S0 p (a / 8) (0 : Int32)).2
  (S2.1 11 r1 (a % 8), S2)
set_option maxHeartbeats 4000000 in
set_option maxRecDepth 100000 in
theorem c_M_fetch {l : Launch} {D : va_G} {cI cT cS : ClassId} {ad : Nat → Nat} (hinj : wl_inj 83 ad) (S0 : kw_S) (p : Nat) (h_p : p < 4) (x_a : Int32) (a : Nat) (e_a : x_a = nI a) (h_a : a < 64) (hI : kw_FI S0) : wl_Mi l y_M_fetch (Cond.code y_M_fetch b_M_fetch 3 (some .int) :: TT) (rm_ 4) D classes (kw_ty cI cT cS) 83 ad [.ref (ad 2), .ref (ad (7 + p)), .int x_a] (kw_C cI cT cS ad S0) ((k_M_fetch S0 p a).1) (kw_C cI cT cS ad ((k_M_fetch S0 p a).2)) := by
  subst e_a
  intro sz
  refine wl_enter (own := R_M) rfl (by decide) (Nat.le_of_ble_eq_true rfl) hinj (fun p_ e_ s_ m_ below meth c_ ls hsz X hml hr hlocks hl hP hS => ?_)
  have hx := X.1
  have hb := X.2.1
  have hA : ∀ q, s_.heap.size ≤ q → (wl_A 83 ad s_.heap.size) q := fun q h => Or.inr h
  have hl : lv_has ls 3 [(0, .ref (ad 2)), (1, .ref (ad (7 + p))), (2, .int (nI a))] := hl
  refine lv_aload_n hx hb d_M_fetch_0 rfl (lv_at hl 0 rfl) ?_
  refine lv_aload_n hx hb d_M_fetch_1 rfl (lv_at hl 1 rfl) ?_
  refine lv_iload_n hx hb d_M_fetch_2 rfl (lv_at hl 2 rfl) ?_
  refine lv_bipush (v := 8) hx hb d_M_fetch_3 (by decide) ?_
  refine lv_idiv hx hb d_M_fetch_5 (by decide) ?_
  refine lv_iconst (v := 0) hx hb d_M_fetch_6 (by decide) ?_
  refine wl_gor2 (cf := kw_C cI cT cS ad) (pl := fun r => (19 + r)) (res := k_M_reach S0 p (a / 8) (0 : Int32)) hS hA X.2.2.2.2.2.2 (wl_runV (As := [.ref (ad (7 + p)), .int ((nI a) / (8 : Int32)), .int (0 : Int32)]) (rest := []) X hml hl.1 hP g_TT (c_M_reach hinj S0 p (by omega) ((nI a) / (8 : Int32)) (a / 8) (show (nI a) / (8 : Int32) = nI (a / 8) from pk_div (a := a) (d := 8) (by omega) (by omega) (by omega)) (by omega) (0 : Int32) hI _) (by decide) (kw_cM ) rfl wv_M_24 (na := 3) (by decide +kernel) rfl ⟨Nat.le_of_ble_eq_true rfl, Nat.le_of_ble_eq_true rfl⟩ rfl (Nat.le_of_ble_eq_true rfl) d_M_fetch_7 ⟨Nat.le_refl _, Nat.le_refl _⟩) (fun r1 S2 er1 eS2 H locs hP hS => ?_)
  have hc_r : r1 < 32 := by
    rw [er1]
    exact kq_reach.1
  refine wl_get (v := .ref (ad (51 + r1))) X hP (i := (19 + r1)) (by omega) (kw_cE (by omega)) rfl i_E 0 (by decide) lf_M_28 rfl d_M_fetch_10 ?_
  refine lv_iload_n hx hb d_M_fetch_13 rfl (lv_at hl 2 rfl) ?_
  refine lv_bipush (v := 8) hx hb d_M_fetch_14 (by decide) ?_
  refine lv_irem hx hb d_M_fetch_16 (by decide) ?_
  refine wl_iald X hP (i := (51 + r1)) (by omega) 0 (kw_cAW (by omega)) rfl (j := (a % 8)) (show (nI a) - (nI a) / (8 : Int32) * (8 : Int32) = nI (a % 8) from pk_rem (a := a) (d := 8) (by omega) (by omega) (by omega)) (by omega) (by decide) d_M_fetch_17 ?_
  have hE : k_M_fetch S0 p a = (S2.1 11 r1 (a % 8), S2) := by
    subst eS2
    subst er1
    exact rfl
  rw [hE]
  exact wl_iret X hsz hr hlocks hP hS d_M_fetch_18
def k_M_write (S0 : kw_S) (p : Nat) (a : Nat) (w : Int32) : kw_S :=
  let r1 := (k_M_reach S0 p (a / 8) (1 : Int32)).1
  let S2 := (k_M_reach S0 p (a / 8) (1 : Int32)).2
  let S3 := kw_si S2 11 r1 (a % 8) w
  S3
set_option maxHeartbeats 4000000 in
set_option maxRecDepth 100000 in
theorem c_M_write {l : Launch} {D : va_G} {cI cT cS : ClassId} {ad : Nat → Nat} (hinj : wl_inj 83 ad) (S0 : kw_S) (p : Nat) (h_p : p < 4) (x_a : Int32) (a : Nat) (e_a : x_a = nI a) (h_a : a < 64) (w : Int32) (hI : kw_FI S0) : wl_Mv l y_M_write (Cond.code y_M_write b_M_write 4 none :: TT) (rm_ 4) D classes (kw_ty cI cT cS) 83 ad [.ref (ad 2), .ref (ad (7 + p)), .int x_a, .int w] (kw_C cI cT cS ad S0)  (kw_C cI cT cS ad (k_M_write S0 p a w)) := by
  subst e_a
  intro sz
  refine wl_enter (own := R_M) rfl (by decide) (Nat.le_of_ble_eq_true rfl) hinj (fun p_ e_ s_ m_ below meth c_ ls hsz X hml hr hlocks hl hP hS => ?_)
  have hx := X.1
  have hb := X.2.1
  have hA : ∀ q, s_.heap.size ≤ q → (wl_A 83 ad s_.heap.size) q := fun q h => Or.inr h
  have hl : lv_has ls 4 [(0, .ref (ad 2)), (1, .ref (ad (7 + p))), (2, .int (nI a)), (3, .int w)] := hl
  refine lv_aload_n hx hb d_M_write_0 rfl (lv_at hl 0 rfl) ?_
  refine lv_aload_n hx hb d_M_write_1 rfl (lv_at hl 1 rfl) ?_
  refine lv_iload_n hx hb d_M_write_2 rfl (lv_at hl 2 rfl) ?_
  refine lv_bipush (v := 8) hx hb d_M_write_3 (by decide) ?_
  refine lv_idiv hx hb d_M_write_5 (by decide) ?_
  refine lv_iconst (v := 1) hx hb d_M_write_6 (by decide) ?_
  refine wl_gor2 (cf := kw_C cI cT cS ad) (pl := fun r => (19 + r)) (res := k_M_reach S0 p (a / 8) (1 : Int32)) hS hA X.2.2.2.2.2.2 (wl_runV (As := [.ref (ad (7 + p)), .int ((nI a) / (8 : Int32)), .int (1 : Int32)]) (rest := []) X hml hl.1 hP g_TT (c_M_reach hinj S0 p (by omega) ((nI a) / (8 : Int32)) (a / 8) (show (nI a) / (8 : Int32) = nI (a / 8) from pk_div (a := a) (d := 8) (by omega) (by omega) (by omega)) (by omega) (1 : Int32) hI _) (by decide) (kw_cM ) rfl wv_M_24 (na := 3) (by decide +kernel) rfl ⟨Nat.le_of_ble_eq_true rfl, Nat.le_of_ble_eq_true rfl⟩ rfl (Nat.le_of_ble_eq_true rfl) d_M_write_7 ⟨Nat.le_refl _, Nat.le_refl _⟩) (fun r1 S2 er1 eS2 H locs hP hS => ?_)
  have hc_r : r1 < 32 := by
    rw [er1]
    exact kq_reach.1
  refine wl_get (v := .ref (ad (51 + r1))) X hP (i := (19 + r1)) (by omega) (kw_cE (by omega)) rfl i_E 0 (by decide) lf_M_28 rfl d_M_write_10 ?_
  refine lv_iload_n hx hb d_M_write_13 rfl (lv_at hl 2 rfl) ?_
  refine lv_bipush (v := 8) hx hb d_M_write_14 (by decide) ?_
  refine lv_irem hx hb d_M_write_16 (by decide) ?_
  refine lv_iload_n hx hb d_M_write_17 rfl (lv_at hl 3 rfl) ?_
  refine wl_iast X hP hS (i := (51 + r1)) (by omega) 0 (kw_cAW (by omega)) rfl (j := (a % 8)) (show (nI a) - (nI a) / (8 : Int32) * (8 : Int32) = nI (a % 8) from pk_rem (a := a) (d := 8) (by omega) (by omega) (by omega)) (by omega) (by decide) d_M_write_18 (kw_pAW (by omega)) (fun H locs hP hS => ?_)
  obtain ⟨S3, eS3⟩ : ∃ z, z = kw_si S2 11 r1 (a % 8) w := ⟨_, rfl⟩
  rw [← eS3] at hP
  have hE : k_M_write S0 p a w = S3 := by
    subst eS3
    subst eS2
    subst er1
    exact rfl
  rw [hE]
  exact wl_vret X hsz hr hlocks hP hS d_M_write_19
theorem kq_fetch0 {p a : Nat} {S : kw_S} : (k_M_fetch S p a).2.2 0 = S.2 0 := (kq_reach (S := S)).2
theorem kq_fetchI {p a : Nat} {S : kw_S} (hI : kw_FI S) : kw_FI (k_M_fetch S p a).2 := kq_reachR hI
theorem kw_r1 (w : Int32) : (w &&& 3) = nI (w &&& 3).toNatClampNeg ∧ (w &&& 3).toNatClampNeg < 4 := sk_and3 w
def kw_rr (w : Int32) : Nat := (w >>> ((4 : Int32) &&& 31) &&& 3).toNatClampNeg
def kw_rs (w : Int32) : Nat := (w >>> ((6 : Int32) &&& 31) &&& 3).toNatClampNeg
theorem kw_rr_eq (w : Int32) : (w >>> ((4 : Int32) &&& 31)) &&& (3 : Int32) = nI (kw_rr w) ∧ kw_rr w < 4 := sk_and3 _
theorem kw_rs_eq (w : Int32) : (w >>> ((6 : Int32) &&& 31)) &&& (3 : Int32) = nI (kw_rs w) ∧ kw_rs w < 4 := sk_and3 _
theorem kq_lt40 {x : Nat} (hv : x < 2 ^ 30) (h : ¬ (40 : Int32) ≤ nI x) : x < 40 := by
  apply Nat.lt_of_not_le
  intro h2
  exact h (nI_le (a := 40) h2 (by omega))
def k_K_end (S0 : kw_S) (p : Nat) (x : Int32) : kw_S :=
  let S1 := k_M_releaseAll S0 p
  let S2 := k_K_orphanChildren S1 p
  if (kw_pa (S2.2 7 p 0)) = (-2 : Int32) then
    let S8 := k_T_leave S2 p
    S8
  else
    let S4 := kw_si S2 7 p 0 (4 : Int32)
    let S5 := kw_si S4 7 p 2 x
    if (S5.1 7 (S5.2 7 p 0) 0) = (3 : Int32) then
      let S7 := kw_si S5 7 (S5.2 7 p 0) 0 (1 : Int32)
      S7
    else
      S5
set_option maxHeartbeats 4000000 in
set_option maxRecDepth 100000 in
theorem c_K_end {l : Launch} {D : va_G} {cI cT cS : ClassId} {ad : Nat → Nat} (hinj : wl_inj 83 ad) (S0 : kw_S) (x_p : Int32) (p : Nat) (e_p : x_p = nI p) (h_p : p < 4) (x : Int32) : wl_Mv l y_K_end (Cond.code y_K_end b_K_end 5 none :: TT) (rm_ 2) D classes (kw_ty cI cT cS) 83 ad [.ref (ad 0), .int x_p, .int x] (kw_C cI cT cS ad S0)  (kw_C cI cT cS ad (k_K_end S0 p x)) := by
  subst e_p
  intro sz
  refine wl_enter (own := R_K) rfl (by decide) (Nat.le_of_ble_eq_true rfl) hinj (fun p_ e_ s_ m_ below meth c_ ls hsz X hml hr hlocks hl hP hS => ?_)
  have hx := X.1
  have hb := X.2.1
  have hA : ∀ q, s_.heap.size ≤ q → (wl_A 83 ad s_.heap.size) q := fun q h => Or.inr h
  have hl : lv_has ls 5 [(0, .ref (ad 0)), (1, .int (nI p)), (2, .int x)] := hl
  refine lv_aload_n hx hb d_K_end_0 rfl (lv_at hl 0 rfl) ?_
  refine wl_get (v := .ref (ad 1)) X hP (i := 0) (by decide) (kw_cK ) rfl i_K 0 (by decide) lf_K_11 rfl d_K_end_1 ?_
  refine lv_iload_n hx hb d_K_end_4 rfl (lv_at hl 1 rfl) ?_
  refine wl_aald X hP (i := 1) (by decide) 1 (kw_cAT ) rfl (j := p) rfl (by omega) (by decide) d_K_end_5 ?_
  refine wl_topv (y := .ref (ad (7 + p))) rfl ?_
  refine lv_astore_n (lv' := [(3, .ref (ad (7 + p))), (0, .ref (ad 0)), (1, .int (nI p)), (2, .int x)]) hx hb d_K_end_6 rfl hl (by decide) rfl (fun ls hl => ?_)
  refine lv_aload_n hx hb d_K_end_7 rfl (lv_at hl 1 rfl) ?_
  refine wl_get (v := .ref (ad 2)) X hP (i := 0) (by decide) (kw_cK ) rfl i_K 1 (by decide) lf_K_18 rfl d_K_end_8 ?_
  refine lv_aload_n hx hb d_K_end_11 rfl (lv_at hl 0 rfl) ?_
  refine wl_gov2 (cf := kw_C cI cT cS ad) (S2 := k_M_releaseAll S0 p) hS hA X.2.2.2.2.2.2 (wl_runV (As := [.ref (ad (7 + p))]) (rest := []) X hml hl.1 hP g_TT (c_M_releaseAll hinj S0 p (by omega) _) (by decide) (kw_cM ) rfl wv_K_183 (na := 1) (by decide +kernel) rfl ⟨Nat.le_of_ble_eq_true rfl, Nat.le_of_ble_eq_true rfl⟩ rfl (Nat.le_of_ble_eq_true rfl) d_K_end_12 ⟨Nat.le_refl _, Nat.le_refl _⟩) (fun S1 eS1 H locs hP hS => ?_)
  refine lv_aload_n hx hb d_K_end_15 rfl (lv_at hl 1 rfl) ?_
  refine lv_iload_n hx hb d_K_end_16 rfl (lv_at hl 2 rfl) ?_
  refine wl_gov2 (cf := kw_C cI cT cS ad) (S2 := k_K_orphanChildren S1 p) hS hA X.2.2.2.2.2.2 (wl_runV (As := [.int (nI p)]) (rest := []) X hml hl.1 hP g_TT (c_K_orphanChildren hinj S1 (nI p) p rfl (by omega) _) (by decide) (kw_cK ) rfl wv_K_187 (na := 1) (by decide +kernel) rfl ⟨Nat.le_of_ble_eq_true rfl, Nat.le_of_ble_eq_true rfl⟩ rfl (Nat.le_of_ble_eq_true rfl) d_K_end_17 ⟨Nat.le_refl _, Nat.le_refl _⟩) (fun S2 eS2 H locs hP hS => ?_)
  refine lv_aload_n hx hb d_K_end_20 rfl (lv_at hl 0 rfl) ?_
  refine wl_get (v := .int (kw_pa (S2.2 7 p 0))) X hP (i := (7 + p)) (by omega) (kw_cT (by omega)) rfl i_T 4 (by decide) lf_K_174 rfl d_K_end_21 ?_
  refine lv_bipush (v := -2) hx hb d_K_end_24 (by decide) ?_
  refine lv_icmp_ne (tgt := 34) hx hb d_K_end_26 (by decide) (fun c3 => ?_) (fun c3 => ?_)
  · skip
    refine lv_aload_n hx hb d_K_end_34 rfl (lv_at hl 0 rfl) ?_
    refine lv_iconst (v := 4) hx hb d_K_end_35 (by decide) ?_
    refine wl_put X hP hS (i := (7 + p)) (by omega) (kw_cT (by omega)) rfl i_T ft_T ft_T_ok fn_T 2 (by decide) lf_K_85 rfl rfl rfl (Nat.le_of_ble_eq_true rfl) d_K_end_36 (kw_pT_state (by omega)) (fun H locs hP hS => ?_)
    obtain ⟨S4, eS4⟩ : ∃ z, z = kw_si S2 7 p 0 (4 : Int32) := ⟨_, rfl⟩
    rw [← eS4] at hP
    refine lv_aload_n hx hb d_K_end_39 rfl (lv_at hl 0 rfl) ?_
    refine lv_iload_n hx hb d_K_end_40 rfl (lv_at hl 3 rfl) ?_
    refine wl_put X hP hS (i := (7 + p)) (by omega) (kw_cT (by omega)) rfl i_T ft_T ft_T_ok fn_T 5 (by decide) lf_K_177 rfl rfl rfl (Nat.le_of_ble_eq_true rfl) d_K_end_41 (kw_pT_code (by omega)) (fun H locs hP hS => ?_)
    obtain ⟨S5, eS5⟩ : ∃ z, z = kw_si S4 7 p 2 x := ⟨_, rfl⟩
    rw [← eS5] at hP
    refine lv_aload_n hx hb d_K_end_44 rfl (lv_at hl 1 rfl) ?_
    refine wl_get (v := .ref (ad 1)) X hP (i := 0) (by decide) (kw_cK ) rfl i_K 0 (by decide) lf_K_11 rfl d_K_end_45 ?_
    refine lv_aload_n hx hb d_K_end_48 rfl (lv_at hl 0 rfl) ?_
    refine wl_get (v := .int (kw_pa (S5.2 7 p 0))) X hP (i := (7 + p)) (by omega) (kw_cT (by omega)) rfl i_T 4 (by decide) lf_K_174 rfl d_K_end_49 ?_
    have hq : ¬ kw_pa (S5.2 7 p 0) = -2 := by
      have h9 := c3
      subst_vars
      exact h9
    have hq2 := (kw_pa_in hq).2
    refine wl_aald X hP (i := 1) (by decide) 1 (kw_cAT ) rfl (j := (S5.2 7 p 0)) (kw_pa_in hq).1 (kw_pa_in hq).2 (by decide) d_K_end_52 ?_
    refine wl_topv (y := .ref (ad (7 + (S5.2 7 p 0)))) rfl ?_
    refine lv_astore (lv' := [(4, .ref (ad (7 + (S5.2 7 p 0)))), (3, .ref (ad (7 + p))), (0, .ref (ad 0)), (1, .int (nI p)), (2, .int x)]) hx hb d_K_end_53 hl (by decide) rfl (fun ls hl => ?_)
    refine lv_aload hx hb d_K_end_55 (lv_at hl 0 rfl) ?_
    refine wl_get (v := .int (S5.1 7 (S5.2 7 p 0) 0)) X hP (i := (7 + (S5.2 7 p 0))) (by omega) (kw_cT (by omega)) rfl i_T 2 (by decide) lf_K_85 rfl d_K_end_57 ?_
    refine lv_iconst (v := 3) hx hb d_K_end_60 (by decide) ?_
    refine lv_icmp_ne (tgt := 70) hx hb d_K_end_61 (by decide) (fun c6 => ?_) (fun c6 => ?_)
    · skip
      have hE : k_K_end S0 p x = S5 := by
        subst eS5
        subst eS4
        subst eS2
        subst eS1
        exact ((if_neg c3).trans ((if_neg c6).trans rfl))
      rw [hE]
      exact wl_vret X hsz hr hlocks hP hS d_K_end_70
    · skip
      refine lv_aload hx hb d_K_end_64 (lv_at hl 0 rfl) ?_
      refine lv_iconst (v := 1) hx hb d_K_end_66 (by decide) ?_
      refine wl_put X hP hS (i := (7 + (S5.2 7 p 0))) (by omega) (kw_cT (by omega)) rfl i_T ft_T ft_T_ok fn_T 2 (by decide) lf_K_85 rfl rfl rfl (Nat.le_of_ble_eq_true rfl) d_K_end_67 (kw_pT_state (by omega)) (fun H locs hP hS => ?_)
      obtain ⟨S7, eS7⟩ : ∃ z, z = kw_si S5 7 (S5.2 7 p 0) 0 (1 : Int32) := ⟨_, rfl⟩
      rw [← eS7] at hP
      have hE : k_K_end S0 p x = S7 := by
        subst eS7
        subst eS5
        subst eS4
        subst eS2
        subst eS1
        exact ((if_neg c3).trans ((if_pos c6).trans rfl))
      rw [hE]
      exact wl_vret X hsz hr hlocks hP hS d_K_end_70
  · skip
    refine lv_aload_n hx hb d_K_end_29 rfl (lv_at hl 0 rfl) ?_
    refine wl_gov2 (cf := kw_C cI cT cS ad) (S2 := k_T_leave S2 p) hS hA X.2.2.2.2.2.2 (wl_runV (As := []) (rest := []) X hml hl.1 hP g_TT (c_T_leave hinj S2 p (by omega) _) (by omega) (kw_cT (by omega)) rfl wv_K_180 (na := 0) (by decide +kernel) rfl ⟨Nat.le_of_ble_eq_true rfl, Nat.le_of_ble_eq_true rfl⟩ rfl (Nat.le_of_ble_eq_true rfl) d_K_end_30 ⟨Nat.le_refl _, Nat.le_refl _⟩) (fun S8 eS8 H locs hP hS => ?_)
    have hE : k_K_end S0 p x = S8 := by
      subst eS8
      subst eS2
      subst eS1
      exact ((if_pos c3).trans rfl)
    rw [hE]
    exact wl_vret X hsz hr hlocks hP hS d_K_end_33
def k_K_awaitChild_L13 : Nat → Nat → Nat → Nat → Int32 → kw_S → kw_S
  | 0, i, p, r, b, S0 =>
    if b = 0 then
      let S3 := kw_si S0 8 p r (-2 : Int32)
      S3
    else
      let S4 := kw_si S0 7 p 0 (3 : Int32)
      let S5 := kw_si S4 7 p 1 ((S4.1 7 p 1) - (1 : Int32))
      S5
  | i_n + 1, i, p, r, b, S0 =>
    if (kw_pa (S0.2 7 i 0)) = (nI p) then
      if (S0.1 7 i 0) = (4 : Int32) then
        let S104 := kw_si S0 8 p r (S0.1 7 i 2)
        let S105 := k_T_leave S104 i
        S105
      else
        k_K_awaitChild_L13 i_n (i + 1) p r (1 : Int32) S0
    else
      k_K_awaitChild_L13 i_n (i + 1) p r b S0
set_option maxHeartbeats 4000000 in
set_option maxRecDepth 100000 in
theorem c_K_awaitChild_L13 {l : Launch} {D : va_G} {cI cT cS : ClassId} {ad : Nat → Nat} {p_ : Program} {e_ : Env} {s_ : State} {m_ : MethodId} {args : Array Value} {below : List Frame} {meth : Method} {c_ : Code} {sz : Nat} (hinj : wl_inj 83 ad) (X : wl_X p_ s_ m_ args c_ b_K_awaitChild R_K TT D classes (kw_ty cI cT cS) 83 ad (wl_A 83 ad s_.heap.size)) (hsz : s_.heap.size = sz) (hml : c_.maxLocals = 7) (hr : meth.sig.returnType = none) (hlocks : meth.locks = false) :
    ∀ (i_n i : Nat) (x_p : Int32) (p : Nat) (e_p : x_p = nI p) (h_p : p < 4) (x_r : Int32) (r : Nat) (e_r : x_r = nI r) (h_r : r < 4) (b : Int32) (S0 : kw_S) (h_i : i + i_n = 4) (H : Heap) (locs : List Loc) (ls : Array Slot), lv_has ls 7 [(0, .ref (ad 0)), (1, .int x_p), (2, .int x_r), (3, .ref (ad (7 + p))), (4, .int b), (5, .int (nI i))] → va_P D classes (wl_W 83 ad (kw_C cI cT cS ad S0)) H → va_S (wl_A 83 ad s_.heap.size) s_.heap H locs → W p_ l e_ (rm_ 1) s_ m_ args below meth c_ H locs 0 0 (MQ below (wl_Qv D classes (kw_ty cI cT cS) 83 ad (kw_C cI cT cS ad (k_K_awaitChild_L13 i_n i p r b S0)) sz) args s_ 0 0 (wl_A 83 ad sz)) (F0 m_ 13 ls []) := by
  have hx := X.1
  have hb := X.2.1
  have hA : ∀ q, s_.heap.size ≤ q → (wl_A 83 ad s_.heap.size) q := fun q h => Or.inr h
  intro i_n
  induction i_n with
  | zero =>
    intro i x_p p e_p h_p x_r r e_r h_r b S0 h_i H locs ls hl hP hS
    subst e_p
    subst e_r
    refine lv_iload hx hb d_K_awaitChild_13 (lv_at hl 5 rfl) ?_
    refine lv_iconst (v := 4) hx hb d_K_awaitChild_15 (by decide) ?_
    refine lv_icmp_ge (tgt := 72) hx hb d_K_awaitChild_16 (by decide) (fun c1 => ?_) (fun c1 => ?_)
    · skip
      refine lv_iload hx hb d_K_awaitChild_72 (lv_at hl 4 rfl) ?_
      refine lv_if_eq (tgt := 95) hx hb d_K_awaitChild_74 (by decide) (fun c2 => ?_) (fun c2 => ?_)
      · skip
        refine lv_aload_n hx hb d_K_awaitChild_95 rfl (lv_at hl 3 rfl) ?_
        refine wl_get (v := .ref (ad (11 + p))) X hP (i := (7 + p)) (by omega) (kw_cT (by omega)) rfl i_T 0 (by decide) lf_K_88 rfl d_K_awaitChild_96 ?_
        refine lv_iload_n hx hb d_K_awaitChild_99 rfl (lv_at hl 2 rfl) ?_
        refine lv_bipush (v := -2) hx hb d_K_awaitChild_100 (by decide) ?_
        refine wl_iast X hP hS (i := (11 + p)) (by omega) 0 (kw_cAR (by omega)) rfl (j := r) rfl (by omega) (by decide) d_K_awaitChild_102 (kw_pAR (by omega)) (fun H locs hP hS => ?_)
        obtain ⟨S3, eS3⟩ : ∃ z, z = kw_si S0 8 p r (-2 : Int32) := ⟨_, rfl⟩
        rw [← eS3] at hP
        have hE : k_K_awaitChild_L13 0 i p r b S0 = S3 := by
          subst eS3
          exact ((if_pos c2).trans rfl)
        rw [hE]
        exact wl_vret X hsz hr hlocks hP hS d_K_awaitChild_103
      · skip
        refine lv_aload_n hx hb d_K_awaitChild_77 rfl (lv_at hl 3 rfl) ?_
        refine lv_iconst (v := 3) hx hb d_K_awaitChild_78 (by decide) ?_
        refine wl_put X hP hS (i := (7 + p)) (by omega) (kw_cT (by omega)) rfl i_T ft_T ft_T_ok fn_T 2 (by decide) lf_K_85 rfl rfl rfl (Nat.le_of_ble_eq_true rfl) d_K_awaitChild_79 (kw_pT_state (by omega)) (fun H locs hP hS => ?_)
        obtain ⟨S4, eS4⟩ : ∃ z, z = kw_si S0 7 p 0 (3 : Int32) := ⟨_, rfl⟩
        rw [← eS4] at hP
        refine lv_aload_n hx hb d_K_awaitChild_82 rfl (lv_at hl 3 rfl) ?_
        refine lv_dup hx hb d_K_awaitChild_83 rfl ?_
        refine wl_get (v := .int (S4.1 7 p 1)) X hP (i := (7 + p)) (by omega) (kw_cT (by omega)) rfl i_T 3 (by decide) lf_K_143 rfl d_K_awaitChild_84 ?_
        refine lv_iconst (v := 1) hx hb d_K_awaitChild_87 (by decide) ?_
        refine lv_isub hx hb d_K_awaitChild_88 ?_
        refine wl_put X hP hS (i := (7 + p)) (by omega) (kw_cT (by omega)) rfl i_T ft_T ft_T_ok fn_T 3 (by decide) lf_K_143 rfl rfl rfl (Nat.le_of_ble_eq_true rfl) d_K_awaitChild_89 (kw_pT_place (by omega)) (fun H locs hP hS => ?_)
        obtain ⟨S5, eS5⟩ : ∃ z, z = kw_si S4 7 p 1 ((S4.1 7 p 1) - (1 : Int32)) := ⟨_, rfl⟩
        rw [← eS5] at hP
        refine lv_goto (tgt := 103) hx hb d_K_awaitChild_92 (by decide) ?_
        have hE : k_K_awaitChild_L13 0 i p r b S0 = S5 := by
          subst eS5
          subst eS4
          exact ((if_neg c2).trans rfl)
        rw [hE]
        exact wl_vret X hsz hr hlocks hP hS d_K_awaitChild_103
    · exact absurd (sk_lhz h_i) c1
  | succ i_n ih =>
    intro i x_p p e_p h_p x_r r e_r h_r b S0 h_i H locs ls hl hP hS
    subst e_p
    subst e_r
    refine lv_iload hx hb d_K_awaitChild_13 (lv_at hl 5 rfl) ?_
    refine lv_iconst (v := 4) hx hb d_K_awaitChild_15 (by decide) ?_
    refine lv_icmp_ge (tgt := 72) hx hb d_K_awaitChild_16 (by decide) (fun c101 => ?_) (fun c101 => ?_)
    · exact absurd c101 (sk_lhs h_i)
    · skip
      refine lv_aload_n hx hb d_K_awaitChild_19 rfl (lv_at hl 0 rfl) ?_
      refine wl_get (v := .ref (ad 1)) X hP (i := 0) (by decide) (kw_cK ) rfl i_K 0 (by decide) lf_K_11 rfl d_K_awaitChild_20 ?_
      refine lv_iload hx hb d_K_awaitChild_23 (lv_at hl 5 rfl) ?_
      refine wl_aald X hP (i := 1) (by decide) 1 (kw_cAT ) rfl (j := i) rfl (by omega) (by decide) d_K_awaitChild_25 ?_
      refine wl_topv (y := .ref (ad (7 + i))) rfl ?_
      refine lv_astore (lv' := [(6, .ref (ad (7 + i))), (0, .ref (ad 0)), (1, .int (nI p)), (2, .int (nI r)), (3, .ref (ad (7 + p))), (4, .int b), (5, .int (nI i))]) hx hb d_K_awaitChild_26 hl (by decide) rfl (fun ls hl => ?_)
      refine lv_aload hx hb d_K_awaitChild_28 (lv_at hl 0 rfl) ?_
      refine wl_get (v := .int (kw_pa (S0.2 7 i 0))) X hP (i := (7 + i)) (by omega) (kw_cT (by omega)) rfl i_T 4 (by decide) lf_K_174 rfl d_K_awaitChild_30 ?_
      refine lv_iload_n hx hb d_K_awaitChild_33 rfl (lv_at hl 2 rfl) ?_
      refine lv_icmp_ne (tgt := 66) hx hb d_K_awaitChild_34 (by decide) (fun c102 => ?_) (fun c102 => ?_)
      · skip
        refine lv_iinc (v := nI (i + 1)) (lv' := [(5, .int (nI (i + 1))), (6, .ref (ad (7 + i))), (0, .ref (ad 0)), (1, .int (nI p)), (2, .int (nI r)), (3, .ref (ad (7 + p))), (4, .int b)]) hx hb d_K_awaitChild_66 hl (k := 6) rfl (nI_1 _) (by decide) rfl (fun ls hl => ?_)
        refine lv_goto (tgt := 13) hx hb d_K_awaitChild_69 (by decide) ?_
        have hE : k_K_awaitChild_L13 (i_n + 1) i p r b S0 = k_K_awaitChild_L13 i_n (i + 1) p r b S0 := by
          exact ((if_neg c102).trans rfl)
        rw [hE]
        exact ih (i + 1) (nI p) p rfl (by omega) (nI r) r rfl (by omega) b S0 (by omega) _ _ _ (lv_sub hl [2, 3, 4, 5, 6, 0] rfl) hP hS
      · skip
        refine lv_aload hx hb d_K_awaitChild_37 (lv_at hl 0 rfl) ?_
        refine wl_get (v := .int (S0.1 7 i 0)) X hP (i := (7 + i)) (by omega) (kw_cT (by omega)) rfl i_T 2 (by decide) lf_K_85 rfl d_K_awaitChild_39 ?_
        refine lv_iconst (v := 4) hx hb d_K_awaitChild_42 (by decide) ?_
        refine lv_icmp_ne (tgt := 63) hx hb d_K_awaitChild_43 (by decide) (fun c103 => ?_) (fun c103 => ?_)
        · skip
          refine lv_iconst (v := 1) hx hb d_K_awaitChild_63 (by decide) ?_
          refine lv_istore (lv' := [(4, .int (1 : Int32)), (6, .ref (ad (7 + i))), (0, .ref (ad 0)), (1, .int (nI p)), (2, .int (nI r)), (3, .ref (ad (7 + p))), (5, .int (nI i))]) hx hb d_K_awaitChild_64 hl (by decide) rfl (fun ls hl => ?_)
          refine lv_iinc (v := nI (i + 1)) (lv' := [(5, .int (nI (i + 1))), (4, .int (1 : Int32)), (6, .ref (ad (7 + i))), (0, .ref (ad 0)), (1, .int (nI p)), (2, .int (nI r)), (3, .ref (ad (7 + p)))]) hx hb d_K_awaitChild_66 hl (k := 6) rfl (nI_1 _) (by decide) rfl (fun ls hl => ?_)
          refine lv_goto (tgt := 13) hx hb d_K_awaitChild_69 (by decide) ?_
          have hE : k_K_awaitChild_L13 (i_n + 1) i p r b S0 = k_K_awaitChild_L13 i_n (i + 1) p r (1 : Int32) S0 := by
            exact ((if_pos c102).trans ((if_neg c103).trans rfl))
          rw [hE]
          exact ih (i + 1) (nI p) p rfl (by omega) (nI r) r rfl (by omega) (1 : Int32) S0 (by omega) _ _ _ (lv_sub hl [3, 4, 5, 6, 1, 0] rfl) hP hS
        · skip
          refine lv_aload_n hx hb d_K_awaitChild_46 rfl (lv_at hl 4 rfl) ?_
          refine wl_get (v := .ref (ad (11 + p))) X hP (i := (7 + p)) (by omega) (kw_cT (by omega)) rfl i_T 0 (by decide) lf_K_88 rfl d_K_awaitChild_47 ?_
          refine lv_iload_n hx hb d_K_awaitChild_50 rfl (lv_at hl 3 rfl) ?_
          refine lv_aload hx hb d_K_awaitChild_51 (lv_at hl 0 rfl) ?_
          refine wl_get (v := .int (S0.1 7 i 2)) X hP (i := (7 + i)) (by omega) (kw_cT (by omega)) rfl i_T 5 (by decide) lf_K_177 rfl d_K_awaitChild_53 ?_
          refine wl_iast X hP hS (i := (11 + p)) (by omega) 0 (kw_cAR (by omega)) rfl (j := r) rfl (by omega) (by decide) d_K_awaitChild_56 (kw_pAR (by omega)) (fun H locs hP hS => ?_)
          obtain ⟨S104, eS104⟩ : ∃ z, z = kw_si S0 8 p r (S0.1 7 i 2) := ⟨_, rfl⟩
          rw [← eS104] at hP
          refine lv_aload hx hb d_K_awaitChild_57 (lv_at hl 0 rfl) ?_
          refine wl_gov2 (cf := kw_C cI cT cS ad) (S2 := k_T_leave S104 i) hS hA X.2.2.2.2.2.2 (wl_runV (As := []) (rest := []) X hml hl.1 hP g_TT (c_T_leave hinj S104 i (by omega) _) (by omega) (kw_cT (by omega)) rfl wv_K_180 (na := 0) (by decide +kernel) rfl ⟨Nat.le_of_ble_eq_true rfl, Nat.le_of_ble_eq_true rfl⟩ rfl (Nat.le_of_ble_eq_true rfl) d_K_awaitChild_59 ⟨Nat.le_refl _, Nat.le_refl _⟩) (fun S105 eS105 H locs hP hS => ?_)
          have hE : k_K_awaitChild_L13 (i_n + 1) i p r b S0 = S105 := by
            subst eS105
            subst eS104
            exact ((if_pos c102).trans ((if_pos c103).trans rfl))
          rw [hE]
          exact wl_vret X hsz hr hlocks hP hS d_K_awaitChild_62
def k_K_awaitChild (S0 : kw_S) (p : Nat) (r : Nat) : kw_S :=
  k_K_awaitChild_L13 4 0 p r (0 : Int32) S0
set_option maxHeartbeats 4000000 in
set_option maxRecDepth 100000 in
theorem c_K_awaitChild {l : Launch} {D : va_G} {cI cT cS : ClassId} {ad : Nat → Nat} (hinj : wl_inj 83 ad) (S0 : kw_S) (x_p : Int32) (p : Nat) (e_p : x_p = nI p) (h_p : p < 4) (x_r : Int32) (r : Nat) (e_r : x_r = nI r) (h_r : r < 4) : wl_Mv l y_K_awaitChild (Cond.code y_K_awaitChild b_K_awaitChild 7 none :: TT) (rm_ 1) D classes (kw_ty cI cT cS) 83 ad [.ref (ad 0), .int x_p, .int x_r] (kw_C cI cT cS ad S0)  (kw_C cI cT cS ad (k_K_awaitChild S0 p r)) := by
  subst e_p
  subst e_r
  intro sz
  refine wl_enter (own := R_K) rfl (by decide) (Nat.le_of_ble_eq_true rfl) hinj (fun p_ e_ s_ m_ below meth c_ ls hsz X hml hr hlocks hl hP hS => ?_)
  have hx := X.1
  have hb := X.2.1
  have hA : ∀ q, s_.heap.size ≤ q → (wl_A 83 ad s_.heap.size) q := fun q h => Or.inr h
  have hl : lv_has ls 7 [(0, .ref (ad 0)), (1, .int (nI p)), (2, .int (nI r))] := hl
  refine lv_aload_n hx hb d_K_awaitChild_0 rfl (lv_at hl 0 rfl) ?_
  refine wl_get (v := .ref (ad 1)) X hP (i := 0) (by decide) (kw_cK ) rfl i_K 0 (by decide) lf_K_11 rfl d_K_awaitChild_1 ?_
  refine lv_iload_n hx hb d_K_awaitChild_4 rfl (lv_at hl 1 rfl) ?_
  refine wl_aald X hP (i := 1) (by decide) 1 (kw_cAT ) rfl (j := p) rfl (by omega) (by decide) d_K_awaitChild_5 ?_
  refine wl_topv (y := .ref (ad (7 + p))) rfl ?_
  refine lv_astore_n (lv' := [(3, .ref (ad (7 + p))), (0, .ref (ad 0)), (1, .int (nI p)), (2, .int (nI r))]) hx hb d_K_awaitChild_6 rfl hl (by decide) rfl (fun ls hl => ?_)
  refine lv_iconst (v := 0) hx hb d_K_awaitChild_7 (by decide) ?_
  refine lv_istore (lv' := [(4, .int (0 : Int32)), (3, .ref (ad (7 + p))), (0, .ref (ad 0)), (1, .int (nI p)), (2, .int (nI r))]) hx hb d_K_awaitChild_8 hl (by decide) rfl (fun ls hl => ?_)
  refine lv_iconst (v := 0) hx hb d_K_awaitChild_10 (by decide) ?_
  refine lv_istore (lv' := [(5, .int (0 : Int32)), (4, .int (0 : Int32)), (3, .ref (ad (7 + p))), (0, .ref (ad 0)), (1, .int (nI p)), (2, .int (nI r))]) hx hb d_K_awaitChild_11 hl (by decide) rfl (fun ls hl => ?_)
  have hE : k_K_awaitChild S0 p r = k_K_awaitChild_L13 4 0 p r (0 : Int32) S0 := by
    exact rfl
  rw [hE]
  exact c_K_awaitChild_L13 hinj X hsz hml hr hlocks 4 0 (nI p) p rfl (by omega) (nI r) r rfl (by omega) (0 : Int32) S0 (by omega) _ _ _ (lv_sub hl [3, 4, 5, 2, 1, 0] rfl) hP hS
def k_K_fork_L102 : Nat → Nat → Nat → Nat → Nat → kw_S → kw_S
  | 0, i, p, r, c, S0 =>
    S0
  | i_n + 1, i, p, r, c, S0 =>
    if S0.2 9 p i < 32 then
      let S103 := kw_si S0 10 (S0.2 9 p i) 0 ((S0.1 10 (S0.2 9 p i) 0) + (1 : Int32))
      let S104 := kw_sn S103 9 c i (S0.2 9 p i)
      k_K_fork_L102 i_n (i + 1) p r c S104
    else
      k_K_fork_L102 i_n (i + 1) p r c S0
set_option maxHeartbeats 4000000 in
set_option maxRecDepth 100000 in
theorem c_K_fork_L102 {l : Launch} {D : va_G} {cI cT cS : ClassId} {ad : Nat → Nat} {p_ : Program} {e_ : Env} {s_ : State} {m_ : MethodId} {args : Array Value} {below : List Frame} {meth : Method} {c_ : Code} {sz : Nat} (hinj : wl_inj 83 ad) (X : wl_X p_ s_ m_ args c_ b_K_fork R_K TT D classes (kw_ty cI cT cS) 83 ad (wl_A 83 ad s_.heap.size)) (hsz : s_.heap.size = sz) (hml : c_.maxLocals = 8) (hr : meth.sig.returnType = none) (hlocks : meth.locks = false) :
    ∀ (i_n i : Nat) (x_p : Int32) (p : Nat) (e_p : x_p = nI p) (h_p : p < 4) (x_r : Int32) (r : Nat) (e_r : x_r = nI r) (h_r : r < 4) (x_c : Int32) (c : Nat) (e_c : x_c = nI c) (h_c : c < 4) (S0 : kw_S) (h_i : i + i_n = 8) (H : Heap) (locs : List Loc) (ls : Array Slot), lv_has ls 8 [(0, .ref (ad 0)), (1, .int x_p), (2, .int x_r), (3, .ref (ad (7 + p))), (4, .int x_c), (5, .ref (ad (7 + c))), (6, .int (nI i))] → va_P D classes (wl_W 83 ad (kw_C cI cT cS ad S0)) H → va_S (wl_A 83 ad s_.heap.size) s_.heap H locs → W p_ l e_ (rm_ 2) s_ m_ args below meth c_ H locs 0 0 (MQ below (wl_Qv D classes (kw_ty cI cT cS) 83 ad (kw_C cI cT cS ad (k_K_fork_L102 i_n i p r c S0)) sz) args s_ 0 0 (wl_A 83 ad sz)) (F0 m_ 102 ls []) := by
  have hx := X.1
  have hb := X.2.1
  have hA : ∀ q, s_.heap.size ≤ q → (wl_A 83 ad s_.heap.size) q := fun q h => Or.inr h
  intro i_n
  induction i_n with
  | zero =>
    intro i x_p p e_p h_p x_r r e_r h_r x_c c e_c h_c S0 h_i H locs ls hl hP hS
    subst e_p
    subst e_r
    subst e_c
    refine lv_iload hx hb d_K_fork_102 (lv_at hl 6 rfl) ?_
    refine lv_bipush (v := 8) hx hb d_K_fork_104 (by decide) ?_
    refine lv_icmp_ge (tgt := 150) hx hb d_K_fork_106 (by decide) (fun c1 => ?_) (fun c1 => ?_)
    · skip
      have hE : k_K_fork_L102 0 i p r c S0 = S0 := by
        exact rfl
      rw [hE]
      exact wl_vret X hsz hr hlocks hP hS d_K_fork_150
    · exact absurd (sk_lhz h_i) c1
  | succ i_n ih =>
    intro i x_p p e_p h_p x_r r e_r h_r x_c c e_c h_c S0 h_i H locs ls hl hP hS
    subst e_p
    subst e_r
    subst e_c
    refine lv_iload hx hb d_K_fork_102 (lv_at hl 6 rfl) ?_
    refine lv_bipush (v := 8) hx hb d_K_fork_104 (by decide) ?_
    refine lv_icmp_ge (tgt := 150) hx hb d_K_fork_106 (by decide) (fun c101 => ?_) (fun c101 => ?_)
    · exact absurd c101 (sk_lhs h_i)
    · skip
      refine lv_aload_n hx hb d_K_fork_109 rfl (lv_at hl 3 rfl) ?_
      refine wl_get (v := .ref (ad (15 + p))) X hP (i := (7 + p)) (by omega) (kw_cT (by omega)) rfl i_T 1 (by decide) lf_K_53 rfl d_K_fork_110 ?_
      refine lv_iload hx hb d_K_fork_113 (lv_at hl 6 rfl) ?_
      refine wl_aald X hP (i := (15 + p)) (by omega) 2 (kw_cAP (by omega)) rfl (j := i) rfl (by omega) (by decide) d_K_fork_115 ?_
      refine kw_caseE (fun h102 => ?_) (fun h102 => ?_)
      · skip
        refine lv_astore (lv' := [(7, .ref (ad (19 + (S0.2 9 p i)))), (0, .ref (ad 0)), (1, .int (nI p)), (2, .int (nI r)), (3, .ref (ad (7 + p))), (4, .int (nI c)), (5, .ref (ad (7 + c))), (6, .int (nI i))]) hx hb d_K_fork_116 hl (by decide) rfl (fun ls hl => ?_)
        refine lv_aload hx hb d_K_fork_118 (lv_at hl 0 rfl) ?_
        refine lv_ifnull hx hb d_K_fork_120 ?_
        refine lv_aload hx hb d_K_fork_123 (lv_at hl 0 rfl) ?_
        refine lv_dup hx hb d_K_fork_125 rfl ?_
        refine wl_get (v := .int (S0.1 10 (S0.2 9 p i) 0)) X hP (i := (19 + (S0.2 9 p i))) (by omega) (kw_cE (by omega)) rfl i_E 1 (by decide) lf_K_171 rfl d_K_fork_126 ?_
        refine lv_iconst (v := 1) hx hb d_K_fork_129 (by decide) ?_
        refine lv_iadd hx hb d_K_fork_130 ?_
        refine wl_put X hP hS (i := (19 + (S0.2 9 p i))) (by omega) (kw_cE (by omega)) rfl i_E ft_E ft_E_ok fn_E 1 (by decide) lf_K_171 rfl rfl rfl (Nat.le_of_ble_eq_true rfl) d_K_fork_131 (kw_pE_owners (by omega)) (fun H locs hP hS => ?_)
        obtain ⟨S103, eS103⟩ : ∃ z, z = kw_si S0 10 (S0.2 9 p i) 0 ((S0.1 10 (S0.2 9 p i) 0) + (1 : Int32)) := ⟨_, rfl⟩
        rw [← eS103] at hP
        refine lv_aload hx hb d_K_fork_134 (lv_at hl 6 rfl) ?_
        refine wl_get (v := .ref (ad (15 + c))) X hP (i := (7 + c)) (by omega) (kw_cT (by omega)) rfl i_T 1 (by decide) lf_K_53 rfl d_K_fork_136 ?_
        refine lv_iload hx hb d_K_fork_139 (lv_at hl 7 rfl) ?_
        refine lv_aload hx hb d_K_fork_141 (lv_at hl 0 rfl) ?_
        refine wl_aast X hP hS (i := (15 + c)) (by omega) 2 (r := (R_E, F_E, 6)) (kw_cAP (by omega)) rfl (j := i) rfl (by omega) (by decide) (k := (19 + (S0.2 9 p i))) (by omega) (kw_cE (by omega)) rfl d_K_fork_143 (kw_prAP (by omega) (by omega)) (fun H locs hP hS => ?_)
        obtain ⟨S104, eS104⟩ : ∃ z, z = kw_sn S103 9 c i (S0.2 9 p i) := ⟨_, rfl⟩
        rw [← eS104] at hP
        refine lv_iinc (v := nI (i + 1)) (lv' := [(6, .int (nI (i + 1))), (7, .ref (ad (19 + (S0.2 9 p i)))), (0, .ref (ad 0)), (1, .int (nI p)), (2, .int (nI r)), (3, .ref (ad (7 + p))), (4, .int (nI c)), (5, .ref (ad (7 + c)))]) hx hb d_K_fork_144 hl (k := 7) rfl (nI_1 _) (by decide) rfl (fun ls hl => ?_)
        refine lv_goto (tgt := 102) hx hb d_K_fork_147 (by decide) ?_
        have hE : k_K_fork_L102 (i_n + 1) i p r c S0 = k_K_fork_L102 i_n (i + 1) p r c S104 := by
          subst eS104
          subst eS103
          exact ((if_pos h102).trans rfl)
        rw [hE]
        exact ih (i + 1) (nI p) p rfl (by omega) (nI r) r rfl (by omega) (nI c) c rfl (by omega) S104 (by omega) _ _ _ (lv_sub hl [2, 3, 4, 5, 6, 7, 0] rfl) hP hS
      · skip
        refine lv_astoreN (lv' := [(7, .null), (0, .ref (ad 0)), (1, .int (nI p)), (2, .int (nI r)), (3, .ref (ad (7 + p))), (4, .int (nI c)), (5, .ref (ad (7 + c))), (6, .int (nI i))]) hx hb d_K_fork_116 hl (by decide) rfl (fun ls hl => ?_)
        refine lv_aloadN hx hb d_K_fork_118 (lv_at hl 0 rfl) ?_
        refine lv_ifnullN (tgt := 144) hx hb d_K_fork_120 (by decide) ?_
        refine lv_iinc (v := nI (i + 1)) (lv' := [(6, .int (nI (i + 1))), (7, .null), (0, .ref (ad 0)), (1, .int (nI p)), (2, .int (nI r)), (3, .ref (ad (7 + p))), (4, .int (nI c)), (5, .ref (ad (7 + c)))]) hx hb d_K_fork_144 hl (k := 7) rfl (nI_1 _) (by decide) rfl (fun ls hl => ?_)
        refine lv_goto (tgt := 102) hx hb d_K_fork_147 (by decide) ?_
        have hE : k_K_fork_L102 (i_n + 1) i p r c S0 = k_K_fork_L102 i_n (i + 1) p r c S0 := by
          exact ((if_neg h102).trans rfl)
        rw [hE]
        exact ih (i + 1) (nI p) p rfl (by omega) (nI r) r rfl (by omega) (nI c) c rfl (by omega) S0 (by omega) _ _ _ (lv_sub hl [2, 3, 4, 5, 6, 7, 0] rfl) hP hS
def k_K_fork_L56 : Nat → Nat → Nat → Nat → Nat → kw_S → kw_S
  | 0, i, p, r, c, S0 =>
    let S2 := kw_si S0 8 c r (-1 : Int32)
    let S3 := kw_si S2 8 p r (nI c)
    k_K_fork_L102 8 0 p r c S3
  | i_n + 1, i, p, r, c, S0 =>
    let S102 := kw_si S0 8 c i (S0.1 8 p i)
    k_K_fork_L56 i_n (i + 1) p r c S102
set_option maxHeartbeats 4000000 in
set_option maxRecDepth 100000 in
theorem c_K_fork_L56 {l : Launch} {D : va_G} {cI cT cS : ClassId} {ad : Nat → Nat} {p_ : Program} {e_ : Env} {s_ : State} {m_ : MethodId} {args : Array Value} {below : List Frame} {meth : Method} {c_ : Code} {sz : Nat} (hinj : wl_inj 83 ad) (X : wl_X p_ s_ m_ args c_ b_K_fork R_K TT D classes (kw_ty cI cT cS) 83 ad (wl_A 83 ad s_.heap.size)) (hsz : s_.heap.size = sz) (hml : c_.maxLocals = 8) (hr : meth.sig.returnType = none) (hlocks : meth.locks = false) :
    ∀ (i_n i : Nat) (x_p : Int32) (p : Nat) (e_p : x_p = nI p) (h_p : p < 4) (x_r : Int32) (r : Nat) (e_r : x_r = nI r) (h_r : r < 4) (x_c : Int32) (c : Nat) (e_c : x_c = nI c) (h_c : c < 4) (S0 : kw_S) (h_i : i + i_n = 4) (H : Heap) (locs : List Loc) (ls : Array Slot), lv_has ls 8 [(0, .ref (ad 0)), (1, .int x_p), (2, .int x_r), (3, .ref (ad (7 + p))), (4, .int x_c), (5, .ref (ad (7 + c))), (6, .int (nI i))] → va_P D classes (wl_W 83 ad (kw_C cI cT cS ad S0)) H → va_S (wl_A 83 ad s_.heap.size) s_.heap H locs → W p_ l e_ (rm_ 2) s_ m_ args below meth c_ H locs 0 0 (MQ below (wl_Qv D classes (kw_ty cI cT cS) 83 ad (kw_C cI cT cS ad (k_K_fork_L56 i_n i p r c S0)) sz) args s_ 0 0 (wl_A 83 ad sz)) (F0 m_ 56 ls []) := by
  have hx := X.1
  have hb := X.2.1
  have hA : ∀ q, s_.heap.size ≤ q → (wl_A 83 ad s_.heap.size) q := fun q h => Or.inr h
  intro i_n
  induction i_n with
  | zero =>
    intro i x_p p e_p h_p x_r r e_r h_r x_c c e_c h_c S0 h_i H locs ls hl hP hS
    subst e_p
    subst e_r
    subst e_c
    refine lv_iload hx hb d_K_fork_56 (lv_at hl 6 rfl) ?_
    refine lv_iconst (v := 4) hx hb d_K_fork_58 (by decide) ?_
    refine lv_icmp_ge (tgt := 83) hx hb d_K_fork_59 (by decide) (fun c1 => ?_) (fun c1 => ?_)
    · skip
      refine lv_aload hx hb d_K_fork_83 (lv_at hl 5 rfl) ?_
      refine wl_get (v := .ref (ad (11 + c))) X hP (i := (7 + c)) (by omega) (kw_cT (by omega)) rfl i_T 0 (by decide) lf_K_88 rfl d_K_fork_85 ?_
      refine lv_iload_n hx hb d_K_fork_88 rfl (lv_at hl 2 rfl) ?_
      refine lv_iconst (v := -1) hx hb d_K_fork_89 (by decide) ?_
      refine wl_iast X hP hS (i := (11 + c)) (by omega) 0 (kw_cAR (by omega)) rfl (j := r) rfl (by omega) (by decide) d_K_fork_90 (kw_pAR (by omega)) (fun H locs hP hS => ?_)
      obtain ⟨S2, eS2⟩ : ∃ z, z = kw_si S0 8 c r (-1 : Int32) := ⟨_, rfl⟩
      rw [← eS2] at hP
      refine lv_aload_n hx hb d_K_fork_91 rfl (lv_at hl 3 rfl) ?_
      refine wl_get (v := .ref (ad (11 + p))) X hP (i := (7 + p)) (by omega) (kw_cT (by omega)) rfl i_T 0 (by decide) lf_K_88 rfl d_K_fork_92 ?_
      refine lv_iload_n hx hb d_K_fork_95 rfl (lv_at hl 2 rfl) ?_
      refine lv_iload hx hb d_K_fork_96 (lv_at hl 4 rfl) ?_
      refine wl_iast X hP hS (i := (11 + p)) (by omega) 0 (kw_cAR (by omega)) rfl (j := r) rfl (by omega) (by decide) d_K_fork_98 (kw_pAR (by omega)) (fun H locs hP hS => ?_)
      obtain ⟨S3, eS3⟩ : ∃ z, z = kw_si S2 8 p r (nI c) := ⟨_, rfl⟩
      rw [← eS3] at hP
      refine lv_iconst (v := 0) hx hb d_K_fork_99 (by decide) ?_
      refine lv_istore (lv' := [(6, .int (0 : Int32)), (0, .ref (ad 0)), (1, .int (nI p)), (2, .int (nI r)), (3, .ref (ad (7 + p))), (4, .int (nI c)), (5, .ref (ad (7 + c)))]) hx hb d_K_fork_100 hl (by decide) rfl (fun ls hl => ?_)
      have hE : k_K_fork_L56 0 i p r c S0 = k_K_fork_L102 8 0 p r c S3 := by
        subst eS3
        subst eS2
        exact rfl
      rw [hE]
      exact c_K_fork_L102 hinj X hsz hml hr hlocks 8 0 (nI p) p rfl (by omega) (nI r) r rfl (by omega) (nI c) c rfl (by omega) S3 (by omega) _ _ _ (lv_sub hl [1, 2, 3, 4, 5, 6, 0] rfl) hP hS
    · exact absurd (sk_lhz h_i) c1
  | succ i_n ih =>
    intro i x_p p e_p h_p x_r r e_r h_r x_c c e_c h_c S0 h_i H locs ls hl hP hS
    subst e_p
    subst e_r
    subst e_c
    refine lv_iload hx hb d_K_fork_56 (lv_at hl 6 rfl) ?_
    refine lv_iconst (v := 4) hx hb d_K_fork_58 (by decide) ?_
    refine lv_icmp_ge (tgt := 83) hx hb d_K_fork_59 (by decide) (fun c101 => ?_) (fun c101 => ?_)
    · exact absurd c101 (sk_lhs h_i)
    · skip
      refine lv_aload hx hb d_K_fork_62 (lv_at hl 5 rfl) ?_
      refine wl_get (v := .ref (ad (11 + c))) X hP (i := (7 + c)) (by omega) (kw_cT (by omega)) rfl i_T 0 (by decide) lf_K_88 rfl d_K_fork_64 ?_
      refine lv_iload hx hb d_K_fork_67 (lv_at hl 6 rfl) ?_
      refine lv_aload_n hx hb d_K_fork_69 rfl (lv_at hl 3 rfl) ?_
      refine wl_get (v := .ref (ad (11 + p))) X hP (i := (7 + p)) (by omega) (kw_cT (by omega)) rfl i_T 0 (by decide) lf_K_88 rfl d_K_fork_70 ?_
      refine lv_iload hx hb d_K_fork_73 (lv_at hl 6 rfl) ?_
      refine wl_iald X hP (i := (11 + p)) (by omega) 0 (kw_cAR (by omega)) rfl (j := i) rfl (by omega) (by decide) d_K_fork_75 ?_
      refine wl_iast X hP hS (i := (11 + c)) (by omega) 0 (kw_cAR (by omega)) rfl (j := i) rfl (by omega) (by decide) d_K_fork_76 (kw_pAR (by omega)) (fun H locs hP hS => ?_)
      obtain ⟨S102, eS102⟩ : ∃ z, z = kw_si S0 8 c i (S0.1 8 p i) := ⟨_, rfl⟩
      rw [← eS102] at hP
      refine lv_iinc (v := nI (i + 1)) (lv' := [(6, .int (nI (i + 1))), (0, .ref (ad 0)), (1, .int (nI p)), (2, .int (nI r)), (3, .ref (ad (7 + p))), (4, .int (nI c)), (5, .ref (ad (7 + c)))]) hx hb d_K_fork_77 hl (k := 6) rfl (nI_1 _) (by decide) rfl (fun ls hl => ?_)
      refine lv_goto (tgt := 56) hx hb d_K_fork_80 (by decide) ?_
      have hE : k_K_fork_L56 (i_n + 1) i p r c S0 = k_K_fork_L56 i_n (i + 1) p r c S102 := by
        subst eS102
        exact rfl
      rw [hE]
      exact ih (i + 1) (nI p) p rfl (by omega) (nI r) r rfl (by omega) (nI c) c rfl (by omega) S102 (by omega) _ _ _ (lv_sub hl [1, 2, 3, 4, 5, 6, 0] rfl) hP hS
def k_K_fork (S0 : kw_S) (p : Nat) (r : Nat) : kw_S :=
  let r1 := k_K_leastAbsent S0
  if r1 = (-2 : Int32) then
    let S5 := kw_si S0 8 p r (-2 : Int32)
    S5
  else
    let S3 := k_T_begin S0 r1.toNatClampNeg p
    let S4 := kw_si S3 7 r1.toNatClampNeg 1 (S3.1 7 p 1)
    k_K_fork_L56 4 0 p r r1.toNatClampNeg S4
set_option maxHeartbeats 4000000 in
set_option maxRecDepth 100000 in
theorem c_K_fork {l : Launch} {D : va_G} {cI cT cS : ClassId} {ad : Nat → Nat} (hinj : wl_inj 83 ad) (S0 : kw_S) (x_p : Int32) (p : Nat) (e_p : x_p = nI p) (h_p : p < 4) (x_r : Int32) (r : Nat) (e_r : x_r = nI r) (h_r : r < 4) : wl_Mv l y_K_fork (Cond.code y_K_fork b_K_fork 8 none :: TT) (rm_ 2) D classes (kw_ty cI cT cS) 83 ad [.ref (ad 0), .int x_p, .int x_r] (kw_C cI cT cS ad S0)  (kw_C cI cT cS ad (k_K_fork S0 p r)) := by
  subst e_p
  subst e_r
  intro sz
  refine wl_enter (own := R_K) rfl (by decide) (Nat.le_of_ble_eq_true rfl) hinj (fun p_ e_ s_ m_ below meth c_ ls hsz X hml hr hlocks hl hP hS => ?_)
  have hx := X.1
  have hb := X.2.1
  have hA : ∀ q, s_.heap.size ≤ q → (wl_A 83 ad s_.heap.size) q := fun q h => Or.inr h
  have hl : lv_has ls 8 [(0, .ref (ad 0)), (1, .int (nI p)), (2, .int (nI r))] := hl
  refine lv_aload_n hx hb d_K_fork_0 rfl (lv_at hl 0 rfl) ?_
  refine wl_get (v := .ref (ad 1)) X hP (i := 0) (by decide) (kw_cK ) rfl i_K 0 (by decide) lf_K_11 rfl d_K_fork_1 ?_
  refine lv_iload_n hx hb d_K_fork_4 rfl (lv_at hl 1 rfl) ?_
  refine wl_aald X hP (i := 1) (by decide) 1 (kw_cAT ) rfl (j := p) rfl (by omega) (by decide) d_K_fork_5 ?_
  refine wl_topv (y := .ref (ad (7 + p))) rfl ?_
  refine lv_astore_n (lv' := [(3, .ref (ad (7 + p))), (0, .ref (ad 0)), (1, .int (nI p)), (2, .int (nI r))]) hx hb d_K_fork_6 rfl hl (by decide) rfl (fun ls hl => ?_)
  refine lv_aload_n hx hb d_K_fork_7 rfl (lv_at hl 1 rfl) ?_
  refine wl_goi1 (cf := kw_C cI cT cS ad) (r := k_K_leastAbsent S0) hS hA X.2.2.2.2.2.2 (wl_runV (As := []) (rest := []) X hml hl.1 hP g_TT (c_K_leastAbsent hinj S0 _) (by decide) (kw_cK ) rfl wv_K_31 (na := 0) (by decide +kernel) rfl ⟨Nat.le_of_ble_eq_true rfl, Nat.le_of_ble_eq_true rfl⟩ rfl (Nat.le_of_ble_eq_true rfl) d_K_fork_8 ⟨Nat.le_refl _, Nat.le_refl _⟩) (fun r1 er1 H locs hP hS => ?_)
  refine lv_istore (lv' := [(4, .int r1), (3, .ref (ad (7 + p))), (0, .ref (ad 0)), (1, .int (nI p)), (2, .int (nI r))]) hx hb d_K_fork_11 hl (by decide) rfl (fun ls hl => ?_)
  refine lv_iload hx hb d_K_fork_13 (lv_at hl 0 rfl) ?_
  refine lv_bipush (v := -2) hx hb d_K_fork_15 (by decide) ?_
  refine lv_icmp_ne (tgt := 29) hx hb d_K_fork_17 (by decide) (fun c2 => ?_) (fun c2 => ?_)
  · skip
    obtain ⟨hp1, hp2⟩ := kq_leastAbsent (fun h => c2 (er1.trans h))
    rw [← er1] at hp1 hp2
    refine lv_aload_n hx hb d_K_fork_29 rfl (lv_at hl 2 rfl) ?_
    refine wl_get (v := .ref (ad 1)) X hP (i := 0) (by decide) (kw_cK ) rfl i_K 0 (by decide) lf_K_11 rfl d_K_fork_30 ?_
    refine lv_iload hx hb d_K_fork_33 (lv_at hl 0 rfl) ?_
    refine wl_aald X hP (i := 1) (by decide) 1 (kw_cAT ) rfl (j := r1.toNatClampNeg) hp1 (by omega) (by decide) d_K_fork_35 ?_
    refine wl_topv (y := .ref (ad (7 + r1.toNatClampNeg))) rfl ?_
    refine lv_astore (lv' := [(5, .ref (ad (7 + r1.toNatClampNeg))), (4, .int r1), (3, .ref (ad (7 + p))), (0, .ref (ad 0)), (1, .int (nI p)), (2, .int (nI r))]) hx hb d_K_fork_36 hl (by decide) rfl (fun ls hl => ?_)
    refine lv_aload hx hb d_K_fork_38 (lv_at hl 0 rfl) ?_
    refine lv_iload_n hx hb d_K_fork_40 rfl (lv_at hl 4 rfl) ?_
    refine wl_gov2 (cf := kw_C cI cT cS ad) (S2 := k_T_begin S0 r1.toNatClampNeg p) hS hA X.2.2.2.2.2.2 (wl_runV (As := [.int (nI p)]) (rest := []) X hml hl.1 hP g_TT (c_T_begin hinj S0 r1.toNatClampNeg (by omega) (nI p) p (by unfold kw_pa; rw [if_pos (by omega)] <;> exact rfl) _) (by omega) (kw_cT (by omega)) rfl wv_K_35 (na := 1) (by decide +kernel) rfl ⟨Nat.le_of_ble_eq_true rfl, Nat.le_of_ble_eq_true rfl⟩ rfl (Nat.le_of_ble_eq_true rfl) d_K_fork_41 ⟨Nat.le_refl _, Nat.le_refl _⟩) (fun S3 eS3 H locs hP hS => ?_)
    refine lv_aload hx hb d_K_fork_44 (lv_at hl 0 rfl) ?_
    refine lv_aload_n hx hb d_K_fork_46 rfl (lv_at hl 2 rfl) ?_
    refine wl_get (v := .int (S3.1 7 p 1)) X hP (i := (7 + p)) (by omega) (kw_cT (by omega)) rfl i_T 3 (by decide) lf_K_143 rfl d_K_fork_47 ?_
    refine wl_put X hP hS (i := (7 + r1.toNatClampNeg)) (by omega) (kw_cT (by omega)) rfl i_T ft_T ft_T_ok fn_T 3 (by decide) lf_K_143 rfl rfl rfl (Nat.le_of_ble_eq_true rfl) d_K_fork_50 (kw_pT_place (by omega)) (fun H locs hP hS => ?_)
    obtain ⟨S4, eS4⟩ : ∃ z, z = kw_si S3 7 r1.toNatClampNeg 1 (S3.1 7 p 1) := ⟨_, rfl⟩
    rw [← eS4] at hP
    refine lv_iconst (v := 0) hx hb d_K_fork_53 (by decide) ?_
    refine lv_istore (lv' := [(6, .int (0 : Int32)), (5, .ref (ad (7 + r1.toNatClampNeg))), (4, .int r1), (3, .ref (ad (7 + p))), (0, .ref (ad 0)), (1, .int (nI p)), (2, .int (nI r))]) hx hb d_K_fork_54 hl (by decide) rfl (fun ls hl => ?_)
    have hE : k_K_fork S0 p r = k_K_fork_L56 4 0 p r r1.toNatClampNeg S4 := by
      subst eS4
      subst eS3
      subst er1
      exact ((if_neg c2).trans rfl)
    rw [hE]
    exact c_K_fork_L56 hinj X hsz hml hr hlocks 4 0 (nI p) p rfl (by omega) (nI r) r rfl (by omega) r1 r1.toNatClampNeg hp1 (by omega) S4 (by omega) _ _ _ (lv_sub hl [4, 5, 6, 3, 2, 1, 0] rfl) hP hS
  · skip
    refine lv_aload_n hx hb d_K_fork_20 rfl (lv_at hl 1 rfl) ?_
    refine wl_get (v := .ref (ad (11 + p))) X hP (i := (7 + p)) (by omega) (kw_cT (by omega)) rfl i_T 0 (by decide) lf_K_88 rfl d_K_fork_21 ?_
    refine lv_iload_n hx hb d_K_fork_24 rfl (lv_at hl 4 rfl) ?_
    refine lv_bipush (v := -2) hx hb d_K_fork_25 (by decide) ?_
    refine wl_iast X hP hS (i := (11 + p)) (by omega) 0 (kw_cAR (by omega)) rfl (j := r) rfl (by omega) (by decide) d_K_fork_27 (kw_pAR (by omega)) (fun H locs hP hS => ?_)
    obtain ⟨S5, eS5⟩ : ∃ z, z = kw_si S0 8 p r (-2 : Int32) := ⟨_, rfl⟩
    rw [← eS5] at hP
    have hE : k_K_fork S0 p r = S5 := by
      subst eS5
      subst er1
      exact ((if_pos c2).trans rfl)
    rw [hE]
    exact wl_vret X hsz hr hlocks hP hS d_K_fork_28
def k_K_print (S0 : kw_S) (v : Int32) : kw_S :=
  if (40 : Int32) ≤ (nI (S0.2 0 0 0)) then
    let S2 := kw_sn S0 0 0 0 ((S0.2 0 0 0) + 1)
    S2
  else
    let S3 := kw_si S0 3 0 (S0.2 0 0 0) v
    let S4 := kw_sn S3 0 0 0 ((S3.2 0 0 0) + 1)
    S4
set_option maxHeartbeats 4000000 in
set_option maxRecDepth 100000 in
theorem c_K_print {l : Launch} {D : va_G} {cI cT cS : ClassId} {ad : Nat → Nat} (hinj : wl_inj 83 ad) (S0 : kw_S) (v : Int32) (hv : S0.2 0 0 0 < 2 ^ 30) : wl_Mv l y_K_print (Cond.code y_K_print b_K_print 2 none :: TT) (rm_ 0) D classes (kw_ty cI cT cS) 83 ad [.ref (ad 0), .int v] (kw_C cI cT cS ad S0)  (kw_C cI cT cS ad (k_K_print S0 v)) := by
  intro sz
  refine wl_enter (own := R_K) rfl (by decide) (Nat.le_of_ble_eq_true rfl) hinj (fun p_ e_ s_ m_ below meth c_ ls hsz X hml hr hlocks hl hP hS => ?_)
  have hx := X.1
  have hb := X.2.1
  have hA : ∀ q, s_.heap.size ≤ q → (wl_A 83 ad s_.heap.size) q := fun q h => Or.inr h
  have hl : lv_has ls 2 [(0, .ref (ad 0)), (1, .int v)] := hl
  refine lv_aload_n hx hb d_K_print_0 rfl (lv_at hl 0 rfl) ?_
  refine wl_get (v := .int (nI (S0.2 0 0 0))) X hP (i := 0) (by decide) (kw_cK ) rfl i_K 3 (by decide) lf_K_99 rfl d_K_print_1 ?_
  refine lv_bipush (v := 40) hx hb d_K_print_4 (by decide) ?_
  refine lv_icmp_ge (tgt := 19) hx hb d_K_print_6 (by decide) (fun c1 => ?_) (fun c1 => ?_)
  · skip
    refine lv_aload_n hx hb d_K_print_19 rfl (lv_at hl 0 rfl) ?_
    refine lv_dup hx hb d_K_print_20 rfl ?_
    refine wl_get (v := .int (nI (S0.2 0 0 0))) X hP (i := 0) (by decide) (kw_cK ) rfl i_K 3 (by decide) lf_K_99 rfl d_K_print_21 ?_
    refine lv_iconst (v := 1) hx hb d_K_print_24 (by decide) ?_
    refine lv_iadd hx hb d_K_print_25 ?_
    refine wl_put X hP hS (i := 0) (by decide) (kw_cK ) rfl i_K ft_K ft_K_ok fn_K 3 (by decide) lf_K_99 rfl rfl rfl (Nat.le_of_ble_eq_true rfl) d_K_print_26 (kw_pK_values (x := ((S0.2 0 0 0) + 1))  (show (nI (S0.2 0 0 0)) + (1 : Int32) = nI ((S0.2 0 0 0) + 1) from nI_add (S0.2 0 0 0) 1)) (fun H locs hP hS => ?_)
    obtain ⟨S2, eS2⟩ : ∃ z, z = kw_sn S0 0 0 0 ((S0.2 0 0 0) + 1) := ⟨_, rfl⟩
    rw [← eS2] at hP
    have hE : k_K_print S0 v = S2 := by
      subst eS2
      exact ((if_pos c1).trans rfl)
    rw [hE]
    exact wl_vret X hsz hr hlocks hP hS d_K_print_29
  · skip
    refine lv_aload_n hx hb d_K_print_9 rfl (lv_at hl 0 rfl) ?_
    refine wl_get (v := .ref (ad 3)) X hP (i := 0) (by decide) (kw_cK ) rfl i_K 2 (by decide) lf_K_22 rfl d_K_print_10 ?_
    refine lv_aload_n hx hb d_K_print_13 rfl (lv_at hl 0 rfl) ?_
    refine wl_get (v := .int (nI (S0.2 0 0 0))) X hP (i := 0) (by decide) (kw_cK ) rfl i_K 3 (by decide) lf_K_99 rfl d_K_print_14 ?_
    refine lv_iload_n hx hb d_K_print_17 rfl (lv_at hl 1 rfl) ?_
    refine wl_iast X hP hS (i := 3) (by decide) 0 (kw_cAK ) rfl (j := (S0.2 0 0 0)) rfl (kq_lt40 hv c1) (by decide) d_K_print_18 (kw_pAK ) (fun H locs hP hS => ?_)
    obtain ⟨S3, eS3⟩ : ∃ z, z = kw_si S0 3 0 (S0.2 0 0 0) v := ⟨_, rfl⟩
    rw [← eS3] at hP
    refine lv_aload_n hx hb d_K_print_19 rfl (lv_at hl 0 rfl) ?_
    refine lv_dup hx hb d_K_print_20 rfl ?_
    refine wl_get (v := .int (nI (S3.2 0 0 0))) X hP (i := 0) (by decide) (kw_cK ) rfl i_K 3 (by decide) lf_K_99 rfl d_K_print_21 ?_
    refine lv_iconst (v := 1) hx hb d_K_print_24 (by decide) ?_
    refine lv_iadd hx hb d_K_print_25 ?_
    refine wl_put X hP hS (i := 0) (by decide) (kw_cK ) rfl i_K ft_K ft_K_ok fn_K 3 (by decide) lf_K_99 rfl rfl rfl (Nat.le_of_ble_eq_true rfl) d_K_print_26 (kw_pK_values (x := ((S3.2 0 0 0) + 1))  (show (nI (S3.2 0 0 0)) + (1 : Int32) = nI ((S3.2 0 0 0) + 1) from nI_add (S3.2 0 0 0) 1)) (fun H locs hP hS => ?_)
    obtain ⟨S4, eS4⟩ : ∃ z, z = kw_sn S3 0 0 0 ((S3.2 0 0 0) + 1) := ⟨_, rfl⟩
    rw [← eS4] at hP
    have hE : k_K_print S0 v = S4 := by
      subst eS4
      subst eS3
      exact ((if_neg c1).trans rfl)
    rw [hE]
    exact wl_vret X hsz hr hlocks hP hS d_K_print_29
def k_K_callSystem (S0 : kw_S) (p : Nat) (r : Nat) (n : Int32) : Int32 × kw_S :=
  if n = (0 : Int32) then
    let S2 := k_K_print S0 (S0.1 8 p r)
    ((1 : Int32), S2)
  else
    if n = (1 : Int32) then
      let S4 := k_K_fork S0 p r
      ((1 : Int32), S4)
    else
      if n = (2 : Int32) then
        let S6 := kw_si S0 0 0 4 (1 : Int32)
        ((1 : Int32), S6)
      else
        if n = (3 : Int32) then
          let S8 := k_K_sleep S0 p (S0.1 8 p r)
          ((1 : Int32), S8)
        else
          if n = (4 : Int32) then
            let S10 := k_K_awaitChild S0 p r
            ((1 : Int32), S10)
          else
            if n = (5 : Int32) then
              let S12 := kw_si S0 8 p r (nI p)
              ((1 : Int32), S12)
            else
              ((0 : Int32), S0)
set_option maxHeartbeats 4000000 in
set_option maxRecDepth 100000 in
theorem c_K_callSystem {l : Launch} {D : va_G} {cI cT cS : ClassId} {ad : Nat → Nat} (hinj : wl_inj 83 ad) (S0 : kw_S) (x_p : Int32) (p : Nat) (e_p : x_p = nI p) (h_p : p < 4) (x_r : Int32) (r : Nat) (e_r : x_r = nI r) (h_r : r < 4) (n : Int32) (hv : S0.2 0 0 0 < 2 ^ 30) : wl_Mi l y_K_callSystem (Cond.code y_K_callSystem b_K_callSystem 5 (some .boolean) :: TT) (rm_ 3) D classes (kw_ty cI cT cS) 83 ad [.ref (ad 0), .int x_p, .int x_r, .int n] (kw_C cI cT cS ad S0) ((k_K_callSystem S0 p r n).1) (kw_C cI cT cS ad ((k_K_callSystem S0 p r n).2)) := by
  subst e_p
  subst e_r
  intro sz
  refine wl_enter (own := R_K) rfl (by decide) (Nat.le_of_ble_eq_true rfl) hinj (fun p_ e_ s_ m_ below meth c_ ls hsz X hml hr hlocks hl hP hS => ?_)
  have hx := X.1
  have hb := X.2.1
  have hA : ∀ q, s_.heap.size ≤ q → (wl_A 83 ad s_.heap.size) q := fun q h => Or.inr h
  have hl : lv_has ls 5 [(0, .ref (ad 0)), (1, .int (nI p)), (2, .int (nI r)), (3, .int n)] := hl
  refine lv_aload_n hx hb d_K_callSystem_0 rfl (lv_at hl 0 rfl) ?_
  refine wl_get (v := .ref (ad 1)) X hP (i := 0) (by decide) (kw_cK ) rfl i_K 0 (by decide) lf_K_11 rfl d_K_callSystem_1 ?_
  refine lv_iload_n hx hb d_K_callSystem_4 rfl (lv_at hl 1 rfl) ?_
  refine wl_aald X hP (i := 1) (by decide) 1 (kw_cAT ) rfl (j := p) rfl (by omega) (by decide) d_K_callSystem_5 ?_
  refine wl_topv (y := .ref (ad (7 + p))) rfl ?_
  refine lv_astore (lv' := [(4, .ref (ad (7 + p))), (0, .ref (ad 0)), (1, .int (nI p)), (2, .int (nI r)), (3, .int n)]) hx hb d_K_callSystem_6 hl (by decide) rfl (fun ls hl => ?_)
  refine lv_iload_n hx hb d_K_callSystem_8 rfl (lv_at hl 4 rfl) ?_
  by_cases c1 : n = (0 : Int32)
  · refine wl_top c1 ?_
    refine lv_tableIn (tgt := 48) hx hb d_K_callSystem_9 (by decide) (by decide) rfl (by decide) ?_
    refine lv_aload_n hx hb d_K_callSystem_48 rfl (lv_at hl 1 rfl) ?_
    refine lv_aload hx hb d_K_callSystem_49 (lv_at hl 0 rfl) ?_
    refine wl_get (v := .ref (ad (11 + p))) X hP (i := (7 + p)) (by omega) (kw_cT (by omega)) rfl i_T 0 (by decide) lf_K_88 rfl d_K_callSystem_51 ?_
    refine lv_iload_n hx hb d_K_callSystem_54 rfl (lv_at hl 3 rfl) ?_
    refine wl_iald X hP (i := (11 + p)) (by omega) 0 (kw_cAR (by omega)) rfl (j := r) rfl (by omega) (by decide) d_K_callSystem_55 ?_
    refine wl_gov2 (cf := kw_C cI cT cS ad) (S2 := k_K_print S0 (S0.1 8 p r)) hS hA X.2.2.2.2.2.2 (wl_runV (As := [.int (S0.1 8 p r)]) (rest := []) X hml hl.1 hP g_TT (c_K_print hinj S0 (S0.1 8 p r) hv _) (by decide) (kw_cK ) rfl wv_K_158 (na := 1) (by decide +kernel) rfl ⟨Nat.le_of_ble_eq_true rfl, Nat.le_of_ble_eq_true rfl⟩ rfl (Nat.le_of_ble_eq_true rfl) d_K_callSystem_56 ⟨Nat.le_refl _, Nat.le_refl _⟩) (fun S2 eS2 H locs hP hS => ?_)
    refine lv_iconst (v := 1) hx hb d_K_callSystem_59 (by decide) ?_
    have hE : k_K_callSystem S0 p r n = ((1 : Int32), S2) := by
      subst eS2
      exact ((if_pos c1).trans rfl)
    rw [hE]
    exact wl_zret X hsz hr hlocks (kq_bool (Or.inr rfl)) hP hS d_K_callSystem_60
  by_cases c3 : n = (1 : Int32)
  · refine wl_top c3 ?_
    refine lv_tableIn (tgt := 61) hx hb d_K_callSystem_9 (by decide) (by decide) rfl (by decide) ?_
    refine lv_aload_n hx hb d_K_callSystem_61 rfl (lv_at hl 1 rfl) ?_
    refine lv_iload_n hx hb d_K_callSystem_62 rfl (lv_at hl 2 rfl) ?_
    refine lv_iload_n hx hb d_K_callSystem_63 rfl (lv_at hl 3 rfl) ?_
    refine wl_gov2 (cf := kw_C cI cT cS ad) (S2 := k_K_fork S0 p r) hS hA X.2.2.2.2.2.2 (wl_runV (As := [.int (nI p), .int (nI r)]) (rest := []) X hml hl.1 hP g_TT (c_K_fork hinj S0 (nI p) p rfl (by omega) (nI r) r rfl (by omega) _) (by decide) (kw_cK ) rfl wv_K_161 (na := 2) (by decide +kernel) rfl ⟨Nat.le_of_ble_eq_true rfl, Nat.le_of_ble_eq_true rfl⟩ rfl (Nat.le_of_ble_eq_true rfl) d_K_callSystem_64 ⟨Nat.le_refl _, Nat.le_refl _⟩) (fun S4 eS4 H locs hP hS => ?_)
    refine lv_iconst (v := 1) hx hb d_K_callSystem_67 (by decide) ?_
    have hE : k_K_callSystem S0 p r n = ((1 : Int32), S4) := by
      subst eS4
      exact ((if_neg c1).trans ((if_pos c3).trans rfl))
    rw [hE]
    exact wl_zret X hsz hr hlocks (kq_bool (Or.inr rfl)) hP hS d_K_callSystem_68
  by_cases c5 : n = (2 : Int32)
  · refine wl_top c5 ?_
    refine lv_tableIn (tgt := 69) hx hb d_K_callSystem_9 (by decide) (by decide) rfl (by decide) ?_
    refine lv_aload_n hx hb d_K_callSystem_69 rfl (lv_at hl 1 rfl) ?_
    refine lv_iconst (v := 1) hx hb d_K_callSystem_70 (by decide) ?_
    refine wl_put X hP hS (i := 0) (by decide) (kw_cK ) rfl i_K ft_K ft_K_ok fn_K 9 (by decide) lf_K_136 rfl rfl rfl (Nat.le_of_ble_eq_true rfl) d_K_callSystem_71 (kw_pK_yielded ) (fun H locs hP hS => ?_)
    obtain ⟨S6, eS6⟩ : ∃ z, z = kw_si S0 0 0 4 (1 : Int32) := ⟨_, rfl⟩
    rw [← eS6] at hP
    refine lv_iconst (v := 1) hx hb d_K_callSystem_74 (by decide) ?_
    have hE : k_K_callSystem S0 p r n = ((1 : Int32), S6) := by
      subst eS6
      exact ((if_neg c1).trans ((if_neg c3).trans ((if_pos c5).trans rfl)))
    rw [hE]
    exact wl_zret X hsz hr hlocks (kq_bool (Or.inr rfl)) hP hS d_K_callSystem_75
  by_cases c7 : n = (3 : Int32)
  · refine wl_top c7 ?_
    refine lv_tableIn (tgt := 76) hx hb d_K_callSystem_9 (by decide) (by decide) rfl (by decide) ?_
    refine lv_aload_n hx hb d_K_callSystem_76 rfl (lv_at hl 1 rfl) ?_
    refine lv_aload hx hb d_K_callSystem_77 (lv_at hl 0 rfl) ?_
    refine lv_aload hx hb d_K_callSystem_79 (lv_at hl 0 rfl) ?_
    refine wl_get (v := .ref (ad (11 + p))) X hP (i := (7 + p)) (by omega) (kw_cT (by omega)) rfl i_T 0 (by decide) lf_K_88 rfl d_K_callSystem_81 ?_
    refine lv_iload_n hx hb d_K_callSystem_84 rfl (lv_at hl 3 rfl) ?_
    refine wl_iald X hP (i := (11 + p)) (by omega) 0 (kw_cAR (by omega)) rfl (j := r) rfl (by omega) (by decide) d_K_callSystem_85 ?_
    refine wl_gov2 (cf := kw_C cI cT cS ad) (S2 := k_K_sleep S0 p (S0.1 8 p r)) hS hA X.2.2.2.2.2.2 (wl_runV (As := [.ref (ad (7 + p)), .int (S0.1 8 p r)]) (rest := []) X hml hl.1 hP g_TT (c_K_sleep hinj S0 p (by omega) (S0.1 8 p r) _) (by decide) (kw_cK ) rfl wv_K_164 (na := 2) (by decide +kernel) rfl ⟨Nat.le_of_ble_eq_true rfl, Nat.le_of_ble_eq_true rfl⟩ rfl (Nat.le_of_ble_eq_true rfl) d_K_callSystem_86 ⟨Nat.le_refl _, Nat.le_refl _⟩) (fun S8 eS8 H locs hP hS => ?_)
    refine lv_iconst (v := 1) hx hb d_K_callSystem_89 (by decide) ?_
    have hE : k_K_callSystem S0 p r n = ((1 : Int32), S8) := by
      subst eS8
      exact ((if_neg c1).trans ((if_neg c3).trans ((if_neg c5).trans ((if_pos c7).trans rfl))))
    rw [hE]
    exact wl_zret X hsz hr hlocks (kq_bool (Or.inr rfl)) hP hS d_K_callSystem_90
  by_cases c9 : n = (4 : Int32)
  · refine wl_top c9 ?_
    refine lv_tableIn (tgt := 91) hx hb d_K_callSystem_9 (by decide) (by decide) rfl (by decide) ?_
    refine lv_aload_n hx hb d_K_callSystem_91 rfl (lv_at hl 1 rfl) ?_
    refine lv_iload_n hx hb d_K_callSystem_92 rfl (lv_at hl 2 rfl) ?_
    refine lv_iload_n hx hb d_K_callSystem_93 rfl (lv_at hl 3 rfl) ?_
    refine wl_gov2 (cf := kw_C cI cT cS ad) (S2 := k_K_awaitChild S0 p r) hS hA X.2.2.2.2.2.2 (wl_runV (As := [.int (nI p), .int (nI r)]) (rest := []) X hml hl.1 hP g_TT (c_K_awaitChild hinj S0 (nI p) p rfl (by omega) (nI r) r rfl (by omega) _) (by decide) (kw_cK ) rfl wv_K_168 (na := 2) (by decide +kernel) rfl ⟨Nat.le_of_ble_eq_true rfl, Nat.le_of_ble_eq_true rfl⟩ rfl (Nat.le_of_ble_eq_true rfl) d_K_callSystem_94 ⟨Nat.le_refl _, Nat.le_refl _⟩) (fun S10 eS10 H locs hP hS => ?_)
    refine lv_iconst (v := 1) hx hb d_K_callSystem_97 (by decide) ?_
    have hE : k_K_callSystem S0 p r n = ((1 : Int32), S10) := by
      subst eS10
      exact ((if_neg c1).trans ((if_neg c3).trans ((if_neg c5).trans ((if_neg c7).trans ((if_pos c9).trans rfl)))))
    rw [hE]
    exact wl_zret X hsz hr hlocks (kq_bool (Or.inr rfl)) hP hS d_K_callSystem_98
  by_cases c11 : n = (5 : Int32)
  · refine wl_top c11 ?_
    refine lv_tableIn (tgt := 99) hx hb d_K_callSystem_9 (by decide) (by decide) rfl (by decide) ?_
    refine lv_aload hx hb d_K_callSystem_99 (lv_at hl 0 rfl) ?_
    refine wl_get (v := .ref (ad (11 + p))) X hP (i := (7 + p)) (by omega) (kw_cT (by omega)) rfl i_T 0 (by decide) lf_K_88 rfl d_K_callSystem_101 ?_
    refine lv_iload_n hx hb d_K_callSystem_104 rfl (lv_at hl 3 rfl) ?_
    refine lv_iload_n hx hb d_K_callSystem_105 rfl (lv_at hl 2 rfl) ?_
    refine wl_iast X hP hS (i := (11 + p)) (by omega) 0 (kw_cAR (by omega)) rfl (j := r) rfl (by omega) (by decide) d_K_callSystem_106 (kw_pAR (by omega)) (fun H locs hP hS => ?_)
    obtain ⟨S12, eS12⟩ : ∃ z, z = kw_si S0 8 p r (nI p) := ⟨_, rfl⟩
    rw [← eS12] at hP
    refine lv_iconst (v := 1) hx hb d_K_callSystem_107 (by decide) ?_
    have hE : k_K_callSystem S0 p r n = ((1 : Int32), S12) := by
      subst eS12
      exact ((if_neg c1).trans ((if_neg c3).trans ((if_neg c5).trans ((if_neg c7).trans ((if_neg c9).trans ((if_pos c11).trans rfl))))))
    rw [hE]
    exact wl_zret X hsz hr hlocks (kq_bool (Or.inr rfl)) hP hS d_K_callSystem_108
  refine lv_tableOut (tgt := 109) hx hb d_K_callSystem_9 (by have := lv_neT c1 (a := 0) rfl; have := lv_neT c3 (a := 1) rfl; have := lv_neT c5 (a := 2) rfl; have := lv_neT c7 (a := 3) rfl; have := lv_neT c9 (a := 4) rfl; have := lv_neT c11 (a := 5) rfl; omega) (by decide) ?_
  refine lv_iconst (v := 0) hx hb d_K_callSystem_109 (by decide) ?_
  have hE : k_K_callSystem S0 p r n = ((0 : Int32), S0) := by
    exact ((if_neg c1).trans ((if_neg c3).trans ((if_neg c5).trans ((if_neg c7).trans ((if_neg c9).trans ((if_neg c11).trans rfl))))))
  rw [hE]
  exact wl_zret X hsz hr hlocks (kq_bool (Or.inl rfl)) hP hS d_K_callSystem_110
theorem kq_csb {S : kw_S} {p r : Nat} {n : Int32} : (k_K_callSystem S p r n).1 = 0 ∨ (k_K_callSystem S p r n).1 = 1 := by
  unfold k_K_callSystem
  dsimp only
  repeat' split
  all_goals first | exact Or.inl rfl | exact Or.inr rfl

def k_K_obey (S0 : kw_S) (p : Nat) (w : Int32) : Int32 × kw_S :=
  let x1 := nI (kw_rr w)
  let x2 := S0.1 8 p (kw_rs w)
  let x3 := w >>> ((8 : Int32) &&& 31)
  let x4 := w &&& (15 : Int32)
  if x4 = (0 : Int32) then
    let S6 := k_K_end S0 p (S0.1 8 p (kw_rr w))
    ((1 : Int32), S6)
  else
    if x4 = (1 : Int32) then
      let S8 := kw_si S0 8 p (kw_rr w) x3
      ((1 : Int32), S8)
    else
      if x4 = (2 : Int32) then
        let S10 := kw_si S0 8 p (kw_rr w) ((S0.1 8 p (kw_rr w)) + x2)
        ((1 : Int32), S10)
      else
        if x4 = (3 : Int32) then
          let S12 := kw_si S0 8 p (kw_rr w) ((S0.1 8 p (kw_rr w)) - x2)
          ((1 : Int32), S12)
        else
          if x4 = (4 : Int32) then
            let r14 := k_K_isAddress (x2 + x3)
            if r14 = 0 then
              ((0 : Int32), S0)
            else
              let r16 := (k_M_fetch S0 p ((x2 + x3).toNatClampNeg)).1
              let S17 := (k_M_fetch S0 p ((x2 + x3).toNatClampNeg)).2
              let S18 := kw_si S17 8 p (kw_rr w) r16
              ((1 : Int32), S18)
          else
            if x4 = (5 : Int32) then
              let r20 := k_K_isAddress (x2 + x3)
              if r20 = 0 then
                ((0 : Int32), S0)
              else
                let S22 := k_M_write S0 p ((x2 + x3).toNatClampNeg) (S0.1 8 p (kw_rr w))
                ((1 : Int32), S22)
            else
              if x4 = (6 : Int32) then
                if (S0.1 8 p (kw_rr w)) = 0 then
                  let S25 := kw_si S0 7 p 1 x3
                  ((1 : Int32), S25)
                else
                  ((1 : Int32), S0)
              else
                if x4 = (7 : Int32) then
                  let S27 := kw_si S0 7 p 1 x3
                  ((1 : Int32), S27)
                else
                  if x4 = (8 : Int32) then
                    let r29 := (k_K_callSystem S0 p (kw_rr w) x3).1
                    let S30 := (k_K_callSystem S0 p (kw_rr w) x3).2
                    (r29, S30)
                  else
                    if x4 = (9 : Int32) then
                      if x2 ≤ (S0.1 8 p (kw_rr w)) then
                        let S33 := kw_si S0 8 p (kw_rr w) (0 : Int32)
                        ((1 : Int32), S33)
                      else
                        let S34 := kw_si S0 8 p (kw_rr w) (1 : Int32)
                        ((1 : Int32), S34)
                    else
                      ((0 : Int32), S0)
set_option maxHeartbeats 4000000 in
set_option maxRecDepth 100000 in
theorem c_K_obey {l : Launch} {D : va_G} {cI cT cS : ClassId} {ad : Nat → Nat} (hinj : wl_inj 83 ad) (S0 : kw_S) (x_p : Int32) (p : Nat) (e_p : x_p = nI p) (h_p : p < 4) (w : Int32) (hv : S0.2 0 0 0 < 2 ^ 30) (hI : kw_FI S0) : wl_Mi l y_K_obey (Cond.code y_K_obey b_K_obey 8 (some .boolean) :: TT) (rm_ 5) D classes (kw_ty cI cT cS) 83 ad [.ref (ad 0), .int x_p, .int w] (kw_C cI cT cS ad S0) ((k_K_obey S0 p w).1) (kw_C cI cT cS ad ((k_K_obey S0 p w).2)) := by
  subst e_p
  intro sz
  refine wl_enter (own := R_K) rfl (by decide) (Nat.le_of_ble_eq_true rfl) hinj (fun p_ e_ s_ m_ below meth c_ ls hsz X hml hr hlocks hl hP hS => ?_)
  have hx := X.1
  have hb := X.2.1
  have hA : ∀ q, s_.heap.size ≤ q → (wl_A 83 ad s_.heap.size) q := fun q h => Or.inr h
  have hl : lv_has ls 8 [(0, .ref (ad 0)), (1, .int (nI p)), (2, .int w)] := hl
  refine lv_aload_n hx hb d_K_obey_0 rfl (lv_at hl 0 rfl) ?_
  refine wl_get (v := .ref (ad 1)) X hP (i := 0) (by decide) (kw_cK ) rfl i_K 0 (by decide) lf_K_11 rfl d_K_obey_1 ?_
  refine lv_iload_n hx hb d_K_obey_4 rfl (lv_at hl 1 rfl) ?_
  refine wl_aald X hP (i := 1) (by decide) 1 (kw_cAT ) rfl (j := p) rfl (by omega) (by decide) d_K_obey_5 ?_
  refine wl_topv (y := .ref (ad (7 + p))) rfl ?_
  refine lv_astore_n (lv' := [(3, .ref (ad (7 + p))), (0, .ref (ad 0)), (1, .int (nI p)), (2, .int w)]) hx hb d_K_obey_6 rfl hl (by decide) rfl (fun ls hl => ?_)
  refine lv_aload_n hx hb d_K_obey_7 rfl (lv_at hl 0 rfl) ?_
  refine wl_get (v := .ref (ad (11 + p))) X hP (i := (7 + p)) (by omega) (kw_cT (by omega)) rfl i_T 0 (by decide) lf_K_88 rfl d_K_obey_8 ?_
  refine lv_astore (lv' := [(4, .ref (ad (11 + p))), (3, .ref (ad (7 + p))), (0, .ref (ad 0)), (1, .int (nI p)), (2, .int w)]) hx hb d_K_obey_11 hl (by decide) rfl (fun ls hl => ?_)
  refine lv_iload_n hx hb d_K_obey_13 rfl (lv_at hl 4 rfl) ?_
  refine lv_iconst (v := 4) hx hb d_K_obey_14 (by decide) ?_
  refine lv_ishr hx hb d_K_obey_15 ?_
  refine lv_iconst (v := 3) hx hb d_K_obey_16 (by decide) ?_
  refine lv_iand hx hb d_K_obey_17 ?_
  have hrr := (kw_rr_eq w).2
  have hrs := (kw_rs_eq w).2
  refine wl_top (kw_rr_eq w).1 ?_
  refine lv_topi (fun x1 ex1 => ?_)
  refine lv_istore (lv' := [(5, .int x1), (4, .ref (ad (11 + p))), (3, .ref (ad (7 + p))), (0, .ref (ad 0)), (1, .int (nI p)), (2, .int w)]) hx hb d_K_obey_18 hl (by decide) rfl (fun ls hl => ?_)
  refine lv_aload hx hb d_K_obey_20 (lv_at hl 1 rfl) ?_
  refine lv_iload_n hx hb d_K_obey_22 rfl (lv_at hl 5 rfl) ?_
  refine lv_bipush (v := 6) hx hb d_K_obey_23 (by decide) ?_
  refine lv_ishr hx hb d_K_obey_25 ?_
  refine lv_iconst (v := 3) hx hb d_K_obey_26 (by decide) ?_
  refine lv_iand hx hb d_K_obey_27 ?_
  refine wl_top (kw_rs_eq w).1 ?_
  refine wl_iald X hP (i := (11 + p)) (by omega) 0 (kw_cAR (by omega)) rfl (j := (kw_rs w)) rfl (by omega) (by decide) d_K_obey_28 ?_
  refine lv_topi (fun x2 ex2 => ?_)
  refine lv_istore (lv' := [(6, .int x2), (5, .int x1), (4, .ref (ad (11 + p))), (3, .ref (ad (7 + p))), (0, .ref (ad 0)), (1, .int (nI p)), (2, .int w)]) hx hb d_K_obey_29 hl (by decide) rfl (fun ls hl => ?_)
  refine lv_iload_n hx hb d_K_obey_31 rfl (lv_at hl 6 rfl) ?_
  refine lv_bipush (v := 8) hx hb d_K_obey_32 (by decide) ?_
  refine lv_ishr hx hb d_K_obey_34 ?_
  refine lv_topi (fun x3 ex3 => ?_)
  refine lv_istore (lv' := [(7, .int x3), (6, .int x2), (5, .int x1), (4, .ref (ad (11 + p))), (3, .ref (ad (7 + p))), (0, .ref (ad 0)), (1, .int (nI p)), (2, .int w)]) hx hb d_K_obey_35 hl (by decide) rfl (fun ls hl => ?_)
  refine lv_iload_n hx hb d_K_obey_37 rfl (lv_at hl 7 rfl) ?_
  refine lv_bipush (v := 15) hx hb d_K_obey_38 (by decide) ?_
  refine lv_iand hx hb d_K_obey_40 ?_
  refine lv_topi (fun x4 ex4 => ?_)
  by_cases c5 : x4 = (0 : Int32)
  · refine wl_top c5 ?_
    refine lv_tableIn (tgt := 96) hx hb d_K_obey_41 (by decide) (by decide) rfl (by decide) ?_
    refine lv_aload_n hx hb d_K_obey_96 rfl (lv_at hl 5 rfl) ?_
    refine lv_iload_n hx hb d_K_obey_97 rfl (lv_at hl 6 rfl) ?_
    refine lv_aload hx hb d_K_obey_98 (lv_at hl 3 rfl) ?_
    refine lv_iload hx hb d_K_obey_100 (lv_at hl 2 rfl) ?_
    refine wl_iald X hP (i := (11 + p)) (by omega) 0 (kw_cAR (by omega)) rfl (j := (kw_rr w)) (ex1.trans rfl) (by omega) (by decide) d_K_obey_102 ?_
    refine wl_gov2 (cf := kw_C cI cT cS ad) (S2 := k_K_end S0 p (S0.1 8 p (kw_rr w))) hS hA X.2.2.2.2.2.2 (wl_runV (As := [.int (nI p), .int (S0.1 8 p (kw_rr w))]) (rest := []) X hml hl.1 hP g_TT (c_K_end hinj S0 (nI p) p rfl (by omega) (S0.1 8 p (kw_rr w)) _) (by decide) (kw_cK ) rfl wv_K_62 (na := 2) (by decide +kernel) rfl ⟨Nat.le_of_ble_eq_true rfl, Nat.le_of_ble_eq_true rfl⟩ rfl (Nat.le_of_ble_eq_true rfl) d_K_obey_103 ⟨Nat.le_refl _, Nat.le_refl _⟩) (fun S6 eS6 H locs hP hS => ?_)
    refine lv_iconst (v := 1) hx hb d_K_obey_106 (by decide) ?_
    have hE : k_K_obey S0 p w = ((1 : Int32), S6) := by
      subst eS6
      subst ex4
      subst ex3
      subst ex2
      subst ex1
      exact ((if_pos c5).trans rfl)
    rw [hE]
    exact wl_zret X hsz hr hlocks (kq_bool (Or.inr rfl)) hP hS d_K_obey_107
  by_cases c7 : x4 = (1 : Int32)
  · refine wl_top c7 ?_
    refine lv_tableIn (tgt := 108) hx hb d_K_obey_41 (by decide) (by decide) rfl (by decide) ?_
    refine lv_aload hx hb d_K_obey_108 (lv_at hl 3 rfl) ?_
    refine lv_iload hx hb d_K_obey_110 (lv_at hl 2 rfl) ?_
    refine lv_iload hx hb d_K_obey_112 (lv_at hl 0 rfl) ?_
    refine wl_iast X hP hS (i := (11 + p)) (by omega) 0 (kw_cAR (by omega)) rfl (j := (kw_rr w)) (ex1.trans rfl) (by omega) (by decide) d_K_obey_114 (kw_pAR (by omega)) (fun H locs hP hS => ?_)
    obtain ⟨S8, eS8⟩ : ∃ z, z = kw_si S0 8 p (kw_rr w) x3 := ⟨_, rfl⟩
    rw [← eS8] at hP
    refine lv_iconst (v := 1) hx hb d_K_obey_115 (by decide) ?_
    have hE : k_K_obey S0 p w = ((1 : Int32), S8) := by
      subst eS8
      subst ex4
      subst ex3
      subst ex2
      subst ex1
      exact ((if_neg c5).trans ((if_pos c7).trans rfl))
    rw [hE]
    exact wl_zret X hsz hr hlocks (kq_bool (Or.inr rfl)) hP hS d_K_obey_116
  by_cases c9 : x4 = (2 : Int32)
  · refine wl_top c9 ?_
    refine lv_tableIn (tgt := 117) hx hb d_K_obey_41 (by decide) (by decide) rfl (by decide) ?_
    refine lv_aload hx hb d_K_obey_117 (lv_at hl 3 rfl) ?_
    refine lv_iload hx hb d_K_obey_119 (lv_at hl 2 rfl) ?_
    refine lv_dup2_11 hx hb d_K_obey_121 rfl rfl ?_
    refine wl_iald X hP (i := (11 + p)) (by omega) 0 (kw_cAR (by omega)) rfl (j := (kw_rr w)) (ex1.trans rfl) (by omega) (by decide) d_K_obey_122 ?_
    refine lv_iload hx hb d_K_obey_123 (lv_at hl 1 rfl) ?_
    refine lv_iadd hx hb d_K_obey_125 ?_
    refine wl_iast X hP hS (i := (11 + p)) (by omega) 0 (kw_cAR (by omega)) rfl (j := (kw_rr w)) (ex1.trans rfl) (by omega) (by decide) d_K_obey_126 (kw_pAR (by omega)) (fun H locs hP hS => ?_)
    obtain ⟨S10, eS10⟩ : ∃ z, z = kw_si S0 8 p (kw_rr w) ((S0.1 8 p (kw_rr w)) + x2) := ⟨_, rfl⟩
    rw [← eS10] at hP
    refine lv_iconst (v := 1) hx hb d_K_obey_127 (by decide) ?_
    have hE : k_K_obey S0 p w = ((1 : Int32), S10) := by
      subst eS10
      subst ex4
      subst ex3
      subst ex2
      subst ex1
      exact ((if_neg c5).trans ((if_neg c7).trans ((if_pos c9).trans rfl)))
    rw [hE]
    exact wl_zret X hsz hr hlocks (kq_bool (Or.inr rfl)) hP hS d_K_obey_128
  by_cases c11 : x4 = (3 : Int32)
  · refine wl_top c11 ?_
    refine lv_tableIn (tgt := 129) hx hb d_K_obey_41 (by decide) (by decide) rfl (by decide) ?_
    refine lv_aload hx hb d_K_obey_129 (lv_at hl 3 rfl) ?_
    refine lv_iload hx hb d_K_obey_131 (lv_at hl 2 rfl) ?_
    refine lv_dup2_11 hx hb d_K_obey_133 rfl rfl ?_
    refine wl_iald X hP (i := (11 + p)) (by omega) 0 (kw_cAR (by omega)) rfl (j := (kw_rr w)) (ex1.trans rfl) (by omega) (by decide) d_K_obey_134 ?_
    refine lv_iload hx hb d_K_obey_135 (lv_at hl 1 rfl) ?_
    refine lv_isub hx hb d_K_obey_137 ?_
    refine wl_iast X hP hS (i := (11 + p)) (by omega) 0 (kw_cAR (by omega)) rfl (j := (kw_rr w)) (ex1.trans rfl) (by omega) (by decide) d_K_obey_138 (kw_pAR (by omega)) (fun H locs hP hS => ?_)
    obtain ⟨S12, eS12⟩ : ∃ z, z = kw_si S0 8 p (kw_rr w) ((S0.1 8 p (kw_rr w)) - x2) := ⟨_, rfl⟩
    rw [← eS12] at hP
    refine lv_iconst (v := 1) hx hb d_K_obey_139 (by decide) ?_
    have hE : k_K_obey S0 p w = ((1 : Int32), S12) := by
      subst eS12
      subst ex4
      subst ex3
      subst ex2
      subst ex1
      exact ((if_neg c5).trans ((if_neg c7).trans ((if_neg c9).trans ((if_pos c11).trans rfl))))
    rw [hE]
    exact wl_zret X hsz hr hlocks (kq_bool (Or.inr rfl)) hP hS d_K_obey_140
  by_cases c13 : x4 = (4 : Int32)
  · refine wl_top c13 ?_
    refine lv_tableIn (tgt := 141) hx hb d_K_obey_41 (by decide) (by decide) rfl (by decide) ?_
    refine lv_iload hx hb d_K_obey_141 (lv_at hl 1 rfl) ?_
    refine lv_iload hx hb d_K_obey_143 (lv_at hl 0 rfl) ?_
    refine lv_iadd hx hb d_K_obey_145 ?_
    refine wl_goi1 (cf := kw_C cI cT cS ad) (r := k_K_isAddress (x2 + x3)) hS hA X.2.2.2.2.2.2 (wl_runS (As := [.int (x2 + x3)]) (rest := []) X hml hl.1 hP g_TT (c_K_isAddress hinj S0 (x2 + x3) _) wv_K_43 (na := 1) (by decide +kernel) rfl ⟨Nat.le_of_ble_eq_true rfl, Nat.le_of_ble_eq_true rfl⟩ rfl (Nat.le_of_ble_eq_true rfl) d_K_obey_146 ⟨Nat.le_refl _, Nat.le_refl _⟩) (fun r14 er14 H locs hP hS => ?_)
    refine lv_if_ne (tgt := 154) hx hb d_K_obey_149 (by decide) (fun c15 => ?_) (fun c15 => ?_)
    · skip
      obtain ⟨ha1, ha2⟩ := kq_isAddress (fun h => c15 (er14.trans h))
      refine lv_aload hx hb d_K_obey_154 (lv_at hl 3 rfl) ?_
      refine lv_iload hx hb d_K_obey_156 (lv_at hl 2 rfl) ?_
      refine lv_aload_n hx hb d_K_obey_158 rfl (lv_at hl 5 rfl) ?_
      refine wl_get (v := .ref (ad 2)) X hP (i := 0) (by decide) (kw_cK ) rfl i_K 1 (by decide) lf_K_18 rfl d_K_obey_159 ?_
      refine lv_aload_n hx hb d_K_obey_162 rfl (lv_at hl 4 rfl) ?_
      refine lv_iload hx hb d_K_obey_163 (lv_at hl 1 rfl) ?_
      refine lv_iload hx hb d_K_obey_165 (lv_at hl 0 rfl) ?_
      refine lv_iadd hx hb d_K_obey_167 ?_
      refine wl_goi2 (cf := kw_C cI cT cS ad) (res := k_M_fetch S0 p ((x2 + x3).toNatClampNeg)) hS hA X.2.2.2.2.2.2 (wl_runV (As := [.ref (ad (7 + p)), .int (x2 + x3)]) (rest := [.int x1, .ref (ad (11 + p))]) X hml hl.1 hP g_TT (c_M_fetch hinj S0 p (by omega) (x2 + x3) ((x2 + x3).toNatClampNeg) ha1 (by omega) hI _) (by decide) (kw_cM ) rfl wv_K_146 (na := 2) (by decide +kernel) rfl ⟨Nat.le_of_ble_eq_true rfl, Nat.le_of_ble_eq_true rfl⟩ rfl (Nat.le_of_ble_eq_true rfl) d_K_obey_168 ⟨Nat.le_refl _, Nat.le_refl _⟩) (fun r16 S17 er16 eS17 H locs hP hS => ?_)
      refine wl_iast X hP hS (i := (11 + p)) (by omega) 0 (kw_cAR (by omega)) rfl (j := (kw_rr w)) (ex1.trans rfl) (by omega) (by decide) d_K_obey_171 (kw_pAR (by omega)) (fun H locs hP hS => ?_)
      obtain ⟨S18, eS18⟩ : ∃ z, z = kw_si S17 8 p (kw_rr w) r16 := ⟨_, rfl⟩
      rw [← eS18] at hP
      refine lv_iconst (v := 1) hx hb d_K_obey_172 (by decide) ?_
      have hE : k_K_obey S0 p w = ((1 : Int32), S18) := by
        subst eS18
        subst eS17
        subst er16
        subst er14
        subst ex4
        subst ex3
        subst ex2
        subst ex1
        exact ((if_neg c5).trans ((if_neg c7).trans ((if_neg c9).trans ((if_neg c11).trans ((if_pos c13).trans ((if_neg c15).trans rfl))))))
      rw [hE]
      exact wl_zret X hsz hr hlocks (kq_bool (Or.inr rfl)) hP hS d_K_obey_173
    · skip
      refine lv_iconst (v := 0) hx hb d_K_obey_152 (by decide) ?_
      have hE : k_K_obey S0 p w = ((0 : Int32), S0) := by
        subst er14
        subst ex4
        subst ex3
        subst ex2
        subst ex1
        exact ((if_neg c5).trans ((if_neg c7).trans ((if_neg c9).trans ((if_neg c11).trans ((if_pos c13).trans ((if_pos c15).trans rfl))))))
      rw [hE]
      exact wl_zret X hsz hr hlocks (kq_bool (Or.inl rfl)) hP hS d_K_obey_153
  by_cases c19 : x4 = (5 : Int32)
  · refine wl_top c19 ?_
    refine lv_tableIn (tgt := 174) hx hb d_K_obey_41 (by decide) (by decide) rfl (by decide) ?_
    refine lv_iload hx hb d_K_obey_174 (lv_at hl 1 rfl) ?_
    refine lv_iload hx hb d_K_obey_176 (lv_at hl 0 rfl) ?_
    refine lv_iadd hx hb d_K_obey_178 ?_
    refine wl_goi1 (cf := kw_C cI cT cS ad) (r := k_K_isAddress (x2 + x3)) hS hA X.2.2.2.2.2.2 (wl_runS (As := [.int (x2 + x3)]) (rest := []) X hml hl.1 hP g_TT (c_K_isAddress hinj S0 (x2 + x3) _) wv_K_43 (na := 1) (by decide +kernel) rfl ⟨Nat.le_of_ble_eq_true rfl, Nat.le_of_ble_eq_true rfl⟩ rfl (Nat.le_of_ble_eq_true rfl) d_K_obey_179 ⟨Nat.le_refl _, Nat.le_refl _⟩) (fun r20 er20 H locs hP hS => ?_)
    refine lv_if_ne (tgt := 187) hx hb d_K_obey_182 (by decide) (fun c21 => ?_) (fun c21 => ?_)
    · skip
      obtain ⟨ha1, ha2⟩ := kq_isAddress (fun h => c21 (er20.trans h))
      refine lv_aload_n hx hb d_K_obey_187 rfl (lv_at hl 5 rfl) ?_
      refine wl_get (v := .ref (ad 2)) X hP (i := 0) (by decide) (kw_cK ) rfl i_K 1 (by decide) lf_K_18 rfl d_K_obey_188 ?_
      refine lv_aload_n hx hb d_K_obey_191 rfl (lv_at hl 4 rfl) ?_
      refine lv_iload hx hb d_K_obey_192 (lv_at hl 1 rfl) ?_
      refine lv_iload hx hb d_K_obey_194 (lv_at hl 0 rfl) ?_
      refine lv_iadd hx hb d_K_obey_196 ?_
      refine lv_aload hx hb d_K_obey_197 (lv_at hl 3 rfl) ?_
      refine lv_iload hx hb d_K_obey_199 (lv_at hl 2 rfl) ?_
      refine wl_iald X hP (i := (11 + p)) (by omega) 0 (kw_cAR (by omega)) rfl (j := (kw_rr w)) (ex1.trans rfl) (by omega) (by decide) d_K_obey_201 ?_
      refine wl_gov2 (cf := kw_C cI cT cS ad) (S2 := k_M_write S0 p ((x2 + x3).toNatClampNeg) (S0.1 8 p (kw_rr w))) hS hA X.2.2.2.2.2.2 (wl_runV (As := [.ref (ad (7 + p)), .int (x2 + x3), .int (S0.1 8 p (kw_rr w))]) (rest := []) X hml hl.1 hP g_TT (c_M_write hinj S0 p (by omega) (x2 + x3) ((x2 + x3).toNatClampNeg) ha1 (by omega) (S0.1 8 p (kw_rr w)) hI _) (by decide) (kw_cM ) rfl wv_K_49 (na := 3) (by decide +kernel) rfl ⟨Nat.le_of_ble_eq_true rfl, Nat.le_of_ble_eq_true rfl⟩ rfl (Nat.le_of_ble_eq_true rfl) d_K_obey_202 ⟨Nat.le_refl _, Nat.le_refl _⟩) (fun S22 eS22 H locs hP hS => ?_)
      refine lv_iconst (v := 1) hx hb d_K_obey_205 (by decide) ?_
      have hE : k_K_obey S0 p w = ((1 : Int32), S22) := by
        subst eS22
        subst er20
        subst ex4
        subst ex3
        subst ex2
        subst ex1
        exact ((if_neg c5).trans ((if_neg c7).trans ((if_neg c9).trans ((if_neg c11).trans ((if_neg c13).trans ((if_pos c19).trans ((if_neg c21).trans rfl)))))))
      rw [hE]
      exact wl_zret X hsz hr hlocks (kq_bool (Or.inr rfl)) hP hS d_K_obey_206
    · skip
      refine lv_iconst (v := 0) hx hb d_K_obey_185 (by decide) ?_
      have hE : k_K_obey S0 p w = ((0 : Int32), S0) := by
        subst er20
        subst ex4
        subst ex3
        subst ex2
        subst ex1
        exact ((if_neg c5).trans ((if_neg c7).trans ((if_neg c9).trans ((if_neg c11).trans ((if_neg c13).trans ((if_pos c19).trans ((if_pos c21).trans rfl)))))))
      rw [hE]
      exact wl_zret X hsz hr hlocks (kq_bool (Or.inl rfl)) hP hS d_K_obey_186
  by_cases c23 : x4 = (6 : Int32)
  · refine wl_top c23 ?_
    refine lv_tableIn (tgt := 207) hx hb d_K_obey_41 (by decide) (by decide) rfl (by decide) ?_
    refine lv_aload hx hb d_K_obey_207 (lv_at hl 3 rfl) ?_
    refine lv_iload hx hb d_K_obey_209 (lv_at hl 2 rfl) ?_
    refine wl_iald X hP (i := (11 + p)) (by omega) 0 (kw_cAR (by omega)) rfl (j := (kw_rr w)) (ex1.trans rfl) (by omega) (by decide) d_K_obey_211 ?_
    refine lv_if_ne (tgt := 221) hx hb d_K_obey_212 (by decide) (fun c24 => ?_) (fun c24 => ?_)
    · skip
      refine lv_iconst (v := 1) hx hb d_K_obey_221 (by decide) ?_
      have hE : k_K_obey S0 p w = ((1 : Int32), S0) := by
        subst ex4
        subst ex3
        subst ex2
        subst ex1
        exact ((if_neg c5).trans ((if_neg c7).trans ((if_neg c9).trans ((if_neg c11).trans ((if_neg c13).trans ((if_neg c19).trans ((if_pos c23).trans ((if_neg c24).trans rfl))))))))
      rw [hE]
      exact wl_zret X hsz hr hlocks (kq_bool (Or.inr rfl)) hP hS d_K_obey_222
    · skip
      refine lv_aload_n hx hb d_K_obey_215 rfl (lv_at hl 4 rfl) ?_
      refine lv_iload hx hb d_K_obey_216 (lv_at hl 0 rfl) ?_
      refine wl_put X hP hS (i := (7 + p)) (by omega) (kw_cT (by omega)) rfl i_T ft_T ft_T_ok fn_T 3 (by decide) lf_K_143 rfl rfl rfl (Nat.le_of_ble_eq_true rfl) d_K_obey_218 (kw_pT_place (by omega)) (fun H locs hP hS => ?_)
      obtain ⟨S25, eS25⟩ : ∃ z, z = kw_si S0 7 p 1 x3 := ⟨_, rfl⟩
      rw [← eS25] at hP
      refine lv_iconst (v := 1) hx hb d_K_obey_221 (by decide) ?_
      have hE : k_K_obey S0 p w = ((1 : Int32), S25) := by
        subst eS25
        subst ex4
        subst ex3
        subst ex2
        subst ex1
        exact ((if_neg c5).trans ((if_neg c7).trans ((if_neg c9).trans ((if_neg c11).trans ((if_neg c13).trans ((if_neg c19).trans ((if_pos c23).trans ((if_pos c24).trans rfl))))))))
      rw [hE]
      exact wl_zret X hsz hr hlocks (kq_bool (Or.inr rfl)) hP hS d_K_obey_222
  by_cases c26 : x4 = (7 : Int32)
  · refine wl_top c26 ?_
    refine lv_tableIn (tgt := 223) hx hb d_K_obey_41 (by decide) (by decide) rfl (by decide) ?_
    refine lv_aload_n hx hb d_K_obey_223 rfl (lv_at hl 4 rfl) ?_
    refine lv_iload hx hb d_K_obey_224 (lv_at hl 0 rfl) ?_
    refine wl_put X hP hS (i := (7 + p)) (by omega) (kw_cT (by omega)) rfl i_T ft_T ft_T_ok fn_T 3 (by decide) lf_K_143 rfl rfl rfl (Nat.le_of_ble_eq_true rfl) d_K_obey_226 (kw_pT_place (by omega)) (fun H locs hP hS => ?_)
    obtain ⟨S27, eS27⟩ : ∃ z, z = kw_si S0 7 p 1 x3 := ⟨_, rfl⟩
    rw [← eS27] at hP
    refine lv_iconst (v := 1) hx hb d_K_obey_229 (by decide) ?_
    have hE : k_K_obey S0 p w = ((1 : Int32), S27) := by
      subst eS27
      subst ex4
      subst ex3
      subst ex2
      subst ex1
      exact ((if_neg c5).trans ((if_neg c7).trans ((if_neg c9).trans ((if_neg c11).trans ((if_neg c13).trans ((if_neg c19).trans ((if_neg c23).trans ((if_pos c26).trans rfl))))))))
    rw [hE]
    exact wl_zret X hsz hr hlocks (kq_bool (Or.inr rfl)) hP hS d_K_obey_230
  by_cases c28 : x4 = (8 : Int32)
  · refine wl_top c28 ?_
    refine lv_tableIn (tgt := 231) hx hb d_K_obey_41 (by decide) (by decide) rfl (by decide) ?_
    refine lv_aload_n hx hb d_K_obey_231 rfl (lv_at hl 5 rfl) ?_
    refine lv_iload_n hx hb d_K_obey_232 rfl (lv_at hl 6 rfl) ?_
    refine lv_iload hx hb d_K_obey_233 (lv_at hl 2 rfl) ?_
    refine lv_iload hx hb d_K_obey_235 (lv_at hl 0 rfl) ?_
    refine wl_goi2 (cf := kw_C cI cT cS ad) (res := k_K_callSystem S0 p (kw_rr w) x3) hS hA X.2.2.2.2.2.2 (wl_runV (As := [.int (nI p), .int x1, .int x3]) (rest := []) X hml hl.1 hP g_TT (c_K_callSystem hinj S0 (nI p) p rfl (by omega) x1 (kw_rr w) (ex1.trans rfl) (by omega) x3 hv _) (by decide) (kw_cK ) rfl wv_K_154 (na := 3) (by decide +kernel) rfl ⟨Nat.le_of_ble_eq_true rfl, Nat.le_of_ble_eq_true rfl⟩ rfl (Nat.le_of_ble_eq_true rfl) d_K_obey_237 ⟨Nat.le_refl _, Nat.le_refl _⟩) (fun r29 S30 er29 eS30 H locs hP hS => ?_)
    have hE : k_K_obey S0 p w = (r29, S30) := by
      subst eS30
      subst er29
      subst ex4
      subst ex3
      subst ex2
      subst ex1
      exact ((if_neg c5).trans ((if_neg c7).trans ((if_neg c9).trans ((if_neg c11).trans ((if_neg c13).trans ((if_neg c19).trans ((if_neg c23).trans ((if_neg c26).trans ((if_pos c28).trans rfl)))))))))
    rw [hE]
    exact wl_zret X hsz hr hlocks (kq_bool (by rw [er29]; exact kq_csb)) hP hS d_K_obey_240
  by_cases c31 : x4 = (9 : Int32)
  · refine wl_top c31 ?_
    refine lv_tableIn (tgt := 241) hx hb d_K_obey_41 (by decide) (by decide) rfl (by decide) ?_
    refine lv_aload hx hb d_K_obey_241 (lv_at hl 3 rfl) ?_
    refine lv_iload hx hb d_K_obey_243 (lv_at hl 2 rfl) ?_
    refine lv_aload hx hb d_K_obey_245 (lv_at hl 3 rfl) ?_
    refine lv_iload hx hb d_K_obey_247 (lv_at hl 2 rfl) ?_
    refine wl_iald X hP (i := (11 + p)) (by omega) 0 (kw_cAR (by omega)) rfl (j := (kw_rr w)) (ex1.trans rfl) (by omega) (by decide) d_K_obey_249 ?_
    refine lv_iload hx hb d_K_obey_250 (lv_at hl 1 rfl) ?_
    refine lv_icmp_ge (tgt := 259) hx hb d_K_obey_252 (by decide) (fun c32 => ?_) (fun c32 => ?_)
    · skip
      refine lv_iconst (v := 0) hx hb d_K_obey_259 (by decide) ?_
      refine wl_iast X hP hS (i := (11 + p)) (by omega) 0 (kw_cAR (by omega)) rfl (j := (kw_rr w)) (ex1.trans rfl) (by omega) (by decide) d_K_obey_260 (kw_pAR (by omega)) (fun H locs hP hS => ?_)
      obtain ⟨S33, eS33⟩ : ∃ z, z = kw_si S0 8 p (kw_rr w) (0 : Int32) := ⟨_, rfl⟩
      rw [← eS33] at hP
      refine lv_iconst (v := 1) hx hb d_K_obey_261 (by decide) ?_
      have hE : k_K_obey S0 p w = ((1 : Int32), S33) := by
        subst eS33
        subst ex4
        subst ex3
        subst ex2
        subst ex1
        exact ((if_neg c5).trans ((if_neg c7).trans ((if_neg c9).trans ((if_neg c11).trans ((if_neg c13).trans ((if_neg c19).trans ((if_neg c23).trans ((if_neg c26).trans ((if_neg c28).trans ((if_pos c31).trans ((if_pos c32).trans rfl)))))))))))
      rw [hE]
      exact wl_zret X hsz hr hlocks (kq_bool (Or.inr rfl)) hP hS d_K_obey_262
    · skip
      refine lv_iconst (v := 1) hx hb d_K_obey_255 (by decide) ?_
      refine lv_goto (tgt := 260) hx hb d_K_obey_256 (by decide) ?_
      refine wl_iast X hP hS (i := (11 + p)) (by omega) 0 (kw_cAR (by omega)) rfl (j := (kw_rr w)) (ex1.trans rfl) (by omega) (by decide) d_K_obey_260 (kw_pAR (by omega)) (fun H locs hP hS => ?_)
      obtain ⟨S34, eS34⟩ : ∃ z, z = kw_si S0 8 p (kw_rr w) (1 : Int32) := ⟨_, rfl⟩
      rw [← eS34] at hP
      refine lv_iconst (v := 1) hx hb d_K_obey_261 (by decide) ?_
      have hE : k_K_obey S0 p w = ((1 : Int32), S34) := by
        subst eS34
        subst ex4
        subst ex3
        subst ex2
        subst ex1
        exact ((if_neg c5).trans ((if_neg c7).trans ((if_neg c9).trans ((if_neg c11).trans ((if_neg c13).trans ((if_neg c19).trans ((if_neg c23).trans ((if_neg c26).trans ((if_neg c28).trans ((if_pos c31).trans ((if_neg c32).trans rfl)))))))))))
      rw [hE]
      exact wl_zret X hsz hr hlocks (kq_bool (Or.inr rfl)) hP hS d_K_obey_262
  refine lv_tableOut (tgt := 263) hx hb d_K_obey_41 (by have := lv_neT c5 (a := 0) rfl; have := lv_neT c7 (a := 1) rfl; have := lv_neT c9 (a := 2) rfl; have := lv_neT c11 (a := 3) rfl; have := lv_neT c13 (a := 4) rfl; have := lv_neT c19 (a := 5) rfl; have := lv_neT c23 (a := 6) rfl; have := lv_neT c26 (a := 7) rfl; have := lv_neT c28 (a := 8) rfl; have := lv_neT c31 (a := 9) rfl; omega) (by decide) ?_
  refine lv_iconst (v := 0) hx hb d_K_obey_263 (by decide) ?_
  have hE : k_K_obey S0 p w = ((0 : Int32), S0) := by
    subst ex4
    subst ex3
    subst ex2
    subst ex1
    exact ((if_neg c5).trans ((if_neg c7).trans ((if_neg c9).trans ((if_neg c11).trans ((if_neg c13).trans ((if_neg c19).trans ((if_neg c23).trans ((if_neg c26).trans ((if_neg c28).trans ((if_neg c31).trans rfl))))))))))
  rw [hE]
  exact wl_zret X hsz hr hlocks (kq_bool (Or.inl rfl)) hP hS d_K_obey_264
def k_K_giveTurn_L45 : Nat → Nat → kw_S → Int32 × kw_S
  | 0, i, S0 =>
    ((0 : Int32), S0)
  | i_n + 1, i, S0 =>
    let x102 := ((nI ((S0.2 0 0 1) % 4)) + (nI i)) - ((nI ((S0.2 0 0 1) % 4)) + (nI i)) / (4 : Int32) * (4 : Int32)
    if (S0.1 7 ((((S0.2 0 0 1) % 4) + i) % 4) 0) = (1 : Int32) then
      let S104 := kw_sn S0 0 0 1 ((((S0.2 0 0 1) % 4) + i) % 4)
      let S105 := kw_si S104 0 0 3 (0 : Int32)
      let S106 := kw_si S105 0 0 4 (0 : Int32)
      ((1 : Int32), S106)
    else
      k_K_giveTurn_L45 i_n (i + 1) S0
set_option maxHeartbeats 4000000 in
set_option maxRecDepth 100000 in
theorem c_K_giveTurn_L45 {l : Launch} {D : va_G} {cI cT cS : ClassId} {ad : Nat → Nat} {p_ : Program} {e_ : Env} {s_ : State} {m_ : MethodId} {args : Array Value} {below : List Frame} {meth : Method} {c_ : Code} {sz : Nat} (hinj : wl_inj 83 ad) (X : wl_X p_ s_ m_ args c_ b_K_giveTurn R_K TT D classes (kw_ty cI cT cS) 83 ad (wl_A 83 ad s_.heap.size)) (hsz : s_.heap.size = sz) (hml : c_.maxLocals = 4) (hr : meth.sig.returnType = some .boolean) (hlocks : meth.locks = false) :
    ∀ (i_n i : Nat) (S0 : kw_S) (h_i : i + i_n = 5) (H : Heap) (locs : List Loc) (ls : Array Slot), lv_has ls 4 [(0, .ref (ad 0)), (2, .int (nI i))] → va_P D classes (wl_W 83 ad (kw_C cI cT cS ad S0)) H → va_S (wl_A 83 ad s_.heap.size) s_.heap H locs → W p_ l e_ (rm_ 0) s_ m_ args below meth c_ H locs 0 0 (MQ below (wl_Qi D classes (kw_ty cI cT cS) 83 ad ((k_K_giveTurn_L45 i_n i S0).1) (kw_C cI cT cS ad ((k_K_giveTurn_L45 i_n i S0).2)) sz) args s_ 0 0 (wl_A 83 ad sz)) (F0 m_ 45 ls []) := by
  have hx := X.1
  have hb := X.2.1
  have hA : ∀ q, s_.heap.size ≤ q → (wl_A 83 ad s_.heap.size) q := fun q h => Or.inr h
  intro i_n
  induction i_n with
  | zero =>
    intro i S0 h_i H locs ls hl hP hS
    refine lv_iload_n hx hb d_K_giveTurn_45 rfl (lv_at hl 1 rfl) ?_
    refine lv_iconst (v := 4) hx hb d_K_giveTurn_46 (by decide) ?_
    refine lv_icmp_gt (tgt := 95) hx hb d_K_giveTurn_47 (by decide) (fun c1 => ?_) (fun c1 => ?_)
    · skip
      refine lv_iconst (v := 0) hx hb d_K_giveTurn_95 (by decide) ?_
      have hE : k_K_giveTurn_L45 0 i S0 = ((0 : Int32), S0) := by
        exact rfl
      rw [hE]
      exact wl_zret X hsz hr hlocks (kq_bool (Or.inl rfl)) hP hS d_K_giveTurn_96
    · exact absurd (sk_lgz (N := 4) h_i) c1
  | succ i_n ih =>
    intro i S0 h_i H locs ls hl hP hS
    refine lv_iload_n hx hb d_K_giveTurn_45 rfl (lv_at hl 1 rfl) ?_
    refine lv_iconst (v := 4) hx hb d_K_giveTurn_46 (by decide) ?_
    refine lv_icmp_gt (tgt := 95) hx hb d_K_giveTurn_47 (by decide) (fun c101 => ?_) (fun c101 => ?_)
    · exact absurd c101 (sk_lgs (N := 4) h_i)
    · skip
      refine lv_aload_n hx hb d_K_giveTurn_50 rfl (lv_at hl 0 rfl) ?_
      refine wl_get (v := .int (nI ((S0.2 0 0 1) % 4))) X hP (i := 0) (by decide) (kw_cK ) rfl i_K 7 (by decide) lf_K_26 rfl d_K_giveTurn_51 ?_
      refine lv_iload_n hx hb d_K_giveTurn_54 rfl (lv_at hl 1 rfl) ?_
      refine lv_iadd hx hb d_K_giveTurn_55 ?_
      refine lv_iconst (v := 4) hx hb d_K_giveTurn_56 (by decide) ?_
      refine lv_irem hx hb d_K_giveTurn_57 (by decide) ?_
      refine lv_topi (fun x102 ex102 => ?_)
      refine lv_istore_n (lv' := [(3, .int x102), (0, .ref (ad 0)), (2, .int (nI i))]) hx hb d_K_giveTurn_58 rfl hl (by decide) rfl (fun ls hl => ?_)
      refine lv_aload_n hx hb d_K_giveTurn_59 rfl (lv_at hl 1 rfl) ?_
      refine wl_get (v := .ref (ad 1)) X hP (i := 0) (by decide) (kw_cK ) rfl i_K 0 (by decide) lf_K_11 rfl d_K_giveTurn_60 ?_
      refine lv_iload_n hx hb d_K_giveTurn_63 rfl (lv_at hl 0 rfl) ?_
      refine wl_aald X hP (i := 1) (by decide) 1 (kw_cAT ) rfl (j := ((((S0.2 0 0 1) % 4) + i) % 4)) (ex102.trans ((congr (congrArg (fun (a b : Int32) => a - a / b * b) (show (nI ((S0.2 0 0 1) % 4)) + (nI i) = nI (((S0.2 0 0 1) % 4) + i) from (show (nI ((S0.2 0 0 1) % 4)) + (nI i) = nI (((S0.2 0 0 1) % 4) + i) from nI_add ((S0.2 0 0 1) % 4) i))) (show (4 : Int32) = nI 4 from rfl)).trans (pk_rem (a := (((S0.2 0 0 1) % 4) + i)) (d := 4) (by omega) (by omega) (by omega)))) (by omega) (by decide) d_K_giveTurn_64 ?_
      refine wl_topv (y := .ref (ad (7 + ((((S0.2 0 0 1) % 4) + i) % 4)))) rfl ?_
      refine wl_get (v := .int (S0.1 7 ((((S0.2 0 0 1) % 4) + i) % 4) 0)) X hP (i := (7 + ((((S0.2 0 0 1) % 4) + i) % 4))) (by omega) (kw_cT (by omega)) rfl i_T 2 (by decide) lf_K_85 rfl d_K_giveTurn_65 ?_
      refine lv_iconst (v := 1) hx hb d_K_giveTurn_68 (by decide) ?_
      refine lv_icmp_ne (tgt := 89) hx hb d_K_giveTurn_69 (by decide) (fun c103 => ?_) (fun c103 => ?_)
      · skip
        refine lv_iinc (v := nI (i + 1)) (lv' := [(2, .int (nI (i + 1))), (3, .int x102), (0, .ref (ad 0))]) hx hb d_K_giveTurn_89 hl (k := 2) rfl (nI_1 _) (by decide) rfl (fun ls hl => ?_)
        refine lv_goto (tgt := 45) hx hb d_K_giveTurn_92 (by decide) ?_
        have hE : k_K_giveTurn_L45 (i_n + 1) i S0 = k_K_giveTurn_L45 i_n (i + 1) S0 := by
          subst ex102
          exact ((if_neg c103).trans rfl)
        rw [hE]
        exact ih (i + 1) S0 (by omega) _ _ _ (lv_sub hl [2, 0] rfl) hP hS
      · skip
        refine lv_aload_n hx hb d_K_giveTurn_72 rfl (lv_at hl 1 rfl) ?_
        refine lv_iload_n hx hb d_K_giveTurn_73 rfl (lv_at hl 0 rfl) ?_
        refine wl_put X hP hS (i := 0) (by decide) (kw_cK ) rfl i_K ft_K ft_K_ok fn_K 7 (by decide) lf_K_26 rfl rfl rfl (Nat.le_of_ble_eq_true rfl) d_K_giveTurn_74 (kw_pK_turn (x := ((((S0.2 0 0 1) % 4) + i) % 4))  (by rw [Nat.mod_eq_of_lt (show ((((S0.2 0 0 1) % 4) + i) % 4) < 4 by omega)] <;> exact (ex102.trans ((congr (congrArg (fun (a b : Int32) => a - a / b * b) (show (nI ((S0.2 0 0 1) % 4)) + (nI i) = nI (((S0.2 0 0 1) % 4) + i) from (show (nI ((S0.2 0 0 1) % 4)) + (nI i) = nI (((S0.2 0 0 1) % 4) + i) from nI_add ((S0.2 0 0 1) % 4) i))) (show (4 : Int32) = nI 4 from rfl)).trans (pk_rem (a := (((S0.2 0 0 1) % 4) + i)) (d := 4) (by omega) (by omega) (by omega)))))) (fun H locs hP hS => ?_)
        obtain ⟨S104, eS104⟩ : ∃ z, z = kw_sn S0 0 0 1 ((((S0.2 0 0 1) % 4) + i) % 4) := ⟨_, rfl⟩
        rw [← eS104] at hP
        refine lv_aload_n hx hb d_K_giveTurn_77 rfl (lv_at hl 1 rfl) ?_
        refine lv_iconst (v := 0) hx hb d_K_giveTurn_78 (by decide) ?_
        refine wl_put X hP hS (i := 0) (by decide) (kw_cK ) rfl i_K ft_K ft_K_ok fn_K 8 (by decide) lf_K_105 rfl rfl rfl (Nat.le_of_ble_eq_true rfl) d_K_giveTurn_79 (kw_pK_doneInTurn ) (fun H locs hP hS => ?_)
        obtain ⟨S105, eS105⟩ : ∃ z, z = kw_si S104 0 0 3 (0 : Int32) := ⟨_, rfl⟩
        rw [← eS105] at hP
        refine lv_aload_n hx hb d_K_giveTurn_82 rfl (lv_at hl 1 rfl) ?_
        refine lv_iconst (v := 0) hx hb d_K_giveTurn_83 (by decide) ?_
        refine wl_put X hP hS (i := 0) (by decide) (kw_cK ) rfl i_K ft_K ft_K_ok fn_K 9 (by decide) lf_K_136 rfl rfl rfl (Nat.le_of_ble_eq_true rfl) d_K_giveTurn_84 (kw_pK_yielded ) (fun H locs hP hS => ?_)
        obtain ⟨S106, eS106⟩ : ∃ z, z = kw_si S105 0 0 4 (0 : Int32) := ⟨_, rfl⟩
        rw [← eS106] at hP
        refine lv_iconst (v := 1) hx hb d_K_giveTurn_87 (by decide) ?_
        have hE : k_K_giveTurn_L45 (i_n + 1) i S0 = ((1 : Int32), S106) := by
          subst eS106
          subst eS105
          subst eS104
          subst ex102
          exact ((if_pos c103).trans rfl)
        rw [hE]
        exact wl_zret X hsz hr hlocks (kq_bool (Or.inr rfl)) hP hS d_K_giveTurn_88
def k_K_giveTurn (S0 : kw_S) : Int32 × kw_S :=
  if (S0.1 0 0 4) = 0 then
    if (S0.1 0 0 3) < (4 : Int32) then
      if (S0.1 7 ((S0.2 0 0 1) % 4) 0) = (1 : Int32) then
        ((1 : Int32), S0)
      else
        k_K_giveTurn_L45 4 1 S0
    else
      if (S0.1 7 ((S0.2 0 0 1) % 4) 0) = (1 : Int32) then
        k_K_giveTurn_L45 4 1 S0
      else
        k_K_giveTurn_L45 4 1 S0
  else
    if (S0.1 7 ((S0.2 0 0 1) % 4) 0) = (1 : Int32) then
      k_K_giveTurn_L45 4 1 S0
    else
      k_K_giveTurn_L45 4 1 S0
set_option maxHeartbeats 4000000 in
set_option maxRecDepth 100000 in
theorem c_K_giveTurn {l : Launch} {D : va_G} {cI cT cS : ClassId} {ad : Nat → Nat} (hinj : wl_inj 83 ad) (S0 : kw_S)  : wl_Mi l y_K_giveTurn (Cond.code y_K_giveTurn b_K_giveTurn 4 (some .boolean) :: TT) (rm_ 0) D classes (kw_ty cI cT cS) 83 ad [.ref (ad 0)] (kw_C cI cT cS ad S0) ((k_K_giveTurn S0).1) (kw_C cI cT cS ad ((k_K_giveTurn S0).2)) := by
  intro sz
  refine wl_enter (own := R_K) rfl (by decide) (Nat.le_of_ble_eq_true rfl) hinj (fun p_ e_ s_ m_ below meth c_ ls hsz X hml hr hlocks hl hP hS => ?_)
  have hx := X.1
  have hb := X.2.1
  have hA : ∀ q, s_.heap.size ≤ q → (wl_A 83 ad s_.heap.size) q := fun q h => Or.inr h
  have hl : lv_has ls 4 [(0, .ref (ad 0))] := hl
  refine lv_aload_n hx hb d_K_giveTurn_0 rfl (lv_at hl 0 rfl) ?_
  refine wl_get (v := .int (S0.1 0 0 4)) X hP (i := 0) (by decide) (kw_cK ) rfl i_K 9 (by decide) lf_K_136 rfl d_K_giveTurn_1 ?_
  refine lv_if_ne (tgt := 15) hx hb d_K_giveTurn_4 (by decide) (fun c1 => ?_) (fun c1 => ?_)
  · skip
    refine lv_iconst (v := 1) hx hb d_K_giveTurn_15 (by decide) ?_
    refine lv_goto (tgt := 20) hx hb d_K_giveTurn_16 (by decide) ?_
    refine lv_istore_n (lv' := [(1, .int (1 : Int32)), (0, .ref (ad 0))]) hx hb d_K_giveTurn_20 rfl hl (by decide) rfl (fun ls hl => ?_)
    refine lv_aload_n hx hb d_K_giveTurn_21 rfl (lv_at hl 1 rfl) ?_
    refine wl_get (v := .ref (ad 1)) X hP (i := 0) (by decide) (kw_cK ) rfl i_K 0 (by decide) lf_K_11 rfl d_K_giveTurn_22 ?_
    refine lv_aload_n hx hb d_K_giveTurn_25 rfl (lv_at hl 1 rfl) ?_
    refine wl_get (v := .int (nI ((S0.2 0 0 1) % 4))) X hP (i := 0) (by decide) (kw_cK ) rfl i_K 7 (by decide) lf_K_26 rfl d_K_giveTurn_26 ?_
    refine wl_aald X hP (i := 1) (by decide) 1 (kw_cAT ) rfl (j := ((S0.2 0 0 1) % 4)) rfl (by omega) (by decide) d_K_giveTurn_29 ?_
    refine wl_topv (y := .ref (ad (7 + ((S0.2 0 0 1) % 4)))) rfl ?_
    refine wl_get (v := .int (S0.1 7 ((S0.2 0 0 1) % 4) 0)) X hP (i := (7 + ((S0.2 0 0 1) % 4))) (by omega) (kw_cT (by omega)) rfl i_T 2 (by decide) lf_K_85 rfl d_K_giveTurn_30 ?_
    refine lv_iconst (v := 1) hx hb d_K_giveTurn_33 (by decide) ?_
    refine lv_icmp_ne (tgt := 43) hx hb d_K_giveTurn_34 (by decide) (fun c2 => ?_) (fun c2 => ?_)
    · skip
      refine lv_iconst (v := 1) hx hb d_K_giveTurn_43 (by decide) ?_
      refine lv_istore_n (lv' := [(2, .int (1 : Int32)), (1, .int (1 : Int32)), (0, .ref (ad 0))]) hx hb d_K_giveTurn_44 rfl hl (by decide) rfl (fun ls hl => ?_)
      have hE : k_K_giveTurn S0 = k_K_giveTurn_L45 4 1 S0 := by
        exact ((if_neg c1).trans ((if_neg c2).trans rfl))
      rw [hE]
      exact c_K_giveTurn_L45 hinj X hsz hml hr hlocks 4 1 S0 (by omega) _ _ _ (lv_sub hl [2, 0] rfl) hP hS
    · skip
      refine lv_iload_n hx hb d_K_giveTurn_37 rfl (lv_at hl 0 rfl) ?_
      refine lv_if_ne (tgt := 43) hx hb d_K_giveTurn_38 (by decide) (fun c3 => ?_) (fun c3 => ?_)
      · skip
        refine lv_iconst (v := 1) hx hb d_K_giveTurn_43 (by decide) ?_
        refine lv_istore_n (lv' := [(2, .int (1 : Int32)), (1, .int (1 : Int32)), (0, .ref (ad 0))]) hx hb d_K_giveTurn_44 rfl hl (by decide) rfl (fun ls hl => ?_)
        have hE : k_K_giveTurn S0 = k_K_giveTurn_L45 4 1 S0 := by
          exact ((if_neg c1).trans ((if_pos c2).trans rfl))
        rw [hE]
        exact c_K_giveTurn_L45 hinj X hsz hml hr hlocks 4 1 S0 (by omega) _ _ _ (lv_sub hl [2, 0] rfl) hP hS
      · exact absurd c3 (by decide)
  · skip
    refine lv_aload_n hx hb d_K_giveTurn_7 rfl (lv_at hl 0 rfl) ?_
    refine wl_get (v := .int (S0.1 0 0 3)) X hP (i := 0) (by decide) (kw_cK ) rfl i_K 8 (by decide) lf_K_105 rfl d_K_giveTurn_8 ?_
    refine lv_iconst (v := 4) hx hb d_K_giveTurn_11 (by decide) ?_
    refine lv_icmp_lt (tgt := 19) hx hb d_K_giveTurn_12 (by decide) (fun c4 => ?_) (fun c4 => ?_)
    · skip
      refine lv_iconst (v := 0) hx hb d_K_giveTurn_19 (by decide) ?_
      refine lv_istore_n (lv' := [(1, .int (0 : Int32)), (0, .ref (ad 0))]) hx hb d_K_giveTurn_20 rfl hl (by decide) rfl (fun ls hl => ?_)
      refine lv_aload_n hx hb d_K_giveTurn_21 rfl (lv_at hl 1 rfl) ?_
      refine wl_get (v := .ref (ad 1)) X hP (i := 0) (by decide) (kw_cK ) rfl i_K 0 (by decide) lf_K_11 rfl d_K_giveTurn_22 ?_
      refine lv_aload_n hx hb d_K_giveTurn_25 rfl (lv_at hl 1 rfl) ?_
      refine wl_get (v := .int (nI ((S0.2 0 0 1) % 4))) X hP (i := 0) (by decide) (kw_cK ) rfl i_K 7 (by decide) lf_K_26 rfl d_K_giveTurn_26 ?_
      refine wl_aald X hP (i := 1) (by decide) 1 (kw_cAT ) rfl (j := ((S0.2 0 0 1) % 4)) rfl (by omega) (by decide) d_K_giveTurn_29 ?_
      refine wl_topv (y := .ref (ad (7 + ((S0.2 0 0 1) % 4)))) rfl ?_
      refine wl_get (v := .int (S0.1 7 ((S0.2 0 0 1) % 4) 0)) X hP (i := (7 + ((S0.2 0 0 1) % 4))) (by omega) (kw_cT (by omega)) rfl i_T 2 (by decide) lf_K_85 rfl d_K_giveTurn_30 ?_
      refine lv_iconst (v := 1) hx hb d_K_giveTurn_33 (by decide) ?_
      refine lv_icmp_ne (tgt := 43) hx hb d_K_giveTurn_34 (by decide) (fun c5 => ?_) (fun c5 => ?_)
      · skip
        refine lv_iconst (v := 1) hx hb d_K_giveTurn_43 (by decide) ?_
        refine lv_istore_n (lv' := [(2, .int (1 : Int32)), (1, .int (0 : Int32)), (0, .ref (ad 0))]) hx hb d_K_giveTurn_44 rfl hl (by decide) rfl (fun ls hl => ?_)
        have hE : k_K_giveTurn S0 = k_K_giveTurn_L45 4 1 S0 := by
          exact ((if_pos c1).trans ((if_pos c4).trans ((if_neg c5).trans rfl)))
        rw [hE]
        exact c_K_giveTurn_L45 hinj X hsz hml hr hlocks 4 1 S0 (by omega) _ _ _ (lv_sub hl [2, 0] rfl) hP hS
      · skip
        refine lv_iload_n hx hb d_K_giveTurn_37 rfl (lv_at hl 0 rfl) ?_
        refine lv_if_ne (tgt := 43) hx hb d_K_giveTurn_38 (by decide) (fun c6 => ?_) (fun c6 => ?_)
        · exact absurd c6 (by decide)
        · skip
          refine lv_iconst (v := 1) hx hb d_K_giveTurn_41 (by decide) ?_
          have hE : k_K_giveTurn S0 = ((1 : Int32), S0) := by
            exact ((if_pos c1).trans ((if_pos c4).trans ((if_pos c5).trans rfl)))
          rw [hE]
          exact wl_zret X hsz hr hlocks (kq_bool (Or.inr rfl)) hP hS d_K_giveTurn_42
    · skip
      refine lv_iconst (v := 1) hx hb d_K_giveTurn_15 (by decide) ?_
      refine lv_goto (tgt := 20) hx hb d_K_giveTurn_16 (by decide) ?_
      refine lv_istore_n (lv' := [(1, .int (1 : Int32)), (0, .ref (ad 0))]) hx hb d_K_giveTurn_20 rfl hl (by decide) rfl (fun ls hl => ?_)
      refine lv_aload_n hx hb d_K_giveTurn_21 rfl (lv_at hl 1 rfl) ?_
      refine wl_get (v := .ref (ad 1)) X hP (i := 0) (by decide) (kw_cK ) rfl i_K 0 (by decide) lf_K_11 rfl d_K_giveTurn_22 ?_
      refine lv_aload_n hx hb d_K_giveTurn_25 rfl (lv_at hl 1 rfl) ?_
      refine wl_get (v := .int (nI ((S0.2 0 0 1) % 4))) X hP (i := 0) (by decide) (kw_cK ) rfl i_K 7 (by decide) lf_K_26 rfl d_K_giveTurn_26 ?_
      refine wl_aald X hP (i := 1) (by decide) 1 (kw_cAT ) rfl (j := ((S0.2 0 0 1) % 4)) rfl (by omega) (by decide) d_K_giveTurn_29 ?_
      refine wl_topv (y := .ref (ad (7 + ((S0.2 0 0 1) % 4)))) rfl ?_
      refine wl_get (v := .int (S0.1 7 ((S0.2 0 0 1) % 4) 0)) X hP (i := (7 + ((S0.2 0 0 1) % 4))) (by omega) (kw_cT (by omega)) rfl i_T 2 (by decide) lf_K_85 rfl d_K_giveTurn_30 ?_
      refine lv_iconst (v := 1) hx hb d_K_giveTurn_33 (by decide) ?_
      refine lv_icmp_ne (tgt := 43) hx hb d_K_giveTurn_34 (by decide) (fun c7 => ?_) (fun c7 => ?_)
      · skip
        refine lv_iconst (v := 1) hx hb d_K_giveTurn_43 (by decide) ?_
        refine lv_istore_n (lv' := [(2, .int (1 : Int32)), (1, .int (1 : Int32)), (0, .ref (ad 0))]) hx hb d_K_giveTurn_44 rfl hl (by decide) rfl (fun ls hl => ?_)
        have hE : k_K_giveTurn S0 = k_K_giveTurn_L45 4 1 S0 := by
          exact ((if_pos c1).trans ((if_neg c4).trans ((if_neg c7).trans rfl)))
        rw [hE]
        exact c_K_giveTurn_L45 hinj X hsz hml hr hlocks 4 1 S0 (by omega) _ _ _ (lv_sub hl [2, 0] rfl) hP hS
      · skip
        refine lv_iload_n hx hb d_K_giveTurn_37 rfl (lv_at hl 0 rfl) ?_
        refine lv_if_ne (tgt := 43) hx hb d_K_giveTurn_38 (by decide) (fun c8 => ?_) (fun c8 => ?_)
        · skip
          refine lv_iconst (v := 1) hx hb d_K_giveTurn_43 (by decide) ?_
          refine lv_istore_n (lv' := [(2, .int (1 : Int32)), (1, .int (1 : Int32)), (0, .ref (ad 0))]) hx hb d_K_giveTurn_44 rfl hl (by decide) rfl (fun ls hl => ?_)
          have hE : k_K_giveTurn S0 = k_K_giveTurn_L45 4 1 S0 := by
            exact ((if_pos c1).trans ((if_neg c4).trans ((if_pos c7).trans rfl)))
          rw [hE]
          exact c_K_giveTurn_L45 hinj X hsz hml hr hlocks 4 1 S0 (by omega) _ _ _ (lv_sub hl [2, 0] rfl) hP hS
        · exact absurd c8 (by decide)
def k_K_doInstruction (S0 : kw_S) (p : Nat) : kw_S :=
  let S1 := kw_si S0 7 p 5 ((S0.1 7 p 5) + (1 : Int32))
  let S2 := kw_si S1 0 0 3 ((S1.1 0 0 3) + (1 : Int32))
  let x3 := S2.1 7 p 1
  let r4 := k_K_isAddress x3
  if r4 = 0 then
    if r4 = 0 then
      let S7 := kw_si S2 0 0 2 ((S2.1 0 0 2) + (1 : Int32))
      let S8 := k_K_end S7 p (-99 : Int32)
      S8
    else
      S2
  else
    let r9 := (k_M_fetch S2 p x3.toNatClampNeg).1
    let S10 := (k_M_fetch S2 p x3.toNatClampNeg).2
    let S11 := kw_si S10 7 p 1 (x3 + (1 : Int32))
    let r12 := (k_K_obey S11 p r9).1
    let S13 := (k_K_obey S11 p r9).2
    if r12 = 0 then
      let S15 := kw_si S13 0 0 2 ((S13.1 0 0 2) + (1 : Int32))
      let S16 := k_K_end S15 p (-99 : Int32)
      S16
    else
      S13
set_option maxHeartbeats 4000000 in
set_option maxRecDepth 100000 in
theorem c_K_doInstruction {l : Launch} {D : va_G} {cI cT cS : ClassId} {ad : Nat → Nat} (hinj : wl_inj 83 ad) (S0 : kw_S) (x_p : Int32) (p : Nat) (e_p : x_p = nI p) (h_p : p < 4) (hv : S0.2 0 0 0 < 2 ^ 30) (hI : kw_FI S0) : wl_Mv l y_K_doInstruction (Cond.code y_K_doInstruction b_K_doInstruction 6 none :: TT) (rm_ 6) D classes (kw_ty cI cT cS) 83 ad [.ref (ad 0), .int x_p] (kw_C cI cT cS ad S0)  (kw_C cI cT cS ad (k_K_doInstruction S0 p)) := by
  subst e_p
  intro sz
  refine wl_enter (own := R_K) rfl (by decide) (Nat.le_of_ble_eq_true rfl) hinj (fun p_ e_ s_ m_ below meth c_ ls hsz X hml hr hlocks hl hP hS => ?_)
  have hx := X.1
  have hb := X.2.1
  have hA : ∀ q, s_.heap.size ≤ q → (wl_A 83 ad s_.heap.size) q := fun q h => Or.inr h
  have hl : lv_has ls 6 [(0, .ref (ad 0)), (1, .int (nI p))] := hl
  refine lv_aload_n hx hb d_K_doInstruction_0 rfl (lv_at hl 0 rfl) ?_
  refine wl_get (v := .ref (ad 1)) X hP (i := 0) (by decide) (kw_cK ) rfl i_K 0 (by decide) lf_K_11 rfl d_K_doInstruction_1 ?_
  refine lv_iload_n hx hb d_K_doInstruction_4 rfl (lv_at hl 1 rfl) ?_
  refine wl_aald X hP (i := 1) (by decide) 1 (kw_cAT ) rfl (j := p) rfl (by omega) (by decide) d_K_doInstruction_5 ?_
  refine wl_topv (y := .ref (ad (7 + p))) rfl ?_
  refine lv_astore_n (lv' := [(2, .ref (ad (7 + p))), (0, .ref (ad 0)), (1, .int (nI p))]) hx hb d_K_doInstruction_6 rfl hl (by decide) rfl (fun ls hl => ?_)
  refine lv_aload_n hx hb d_K_doInstruction_7 rfl (lv_at hl 0 rfl) ?_
  refine lv_dup hx hb d_K_doInstruction_8 rfl ?_
  refine wl_get (v := .int (S0.1 7 p 5)) X hP (i := (7 + p)) (by omega) (kw_cT (by omega)) rfl i_T 8 (by decide) lf_K_140 rfl d_K_doInstruction_9 ?_
  refine lv_iconst (v := 1) hx hb d_K_doInstruction_12 (by decide) ?_
  refine lv_iadd hx hb d_K_doInstruction_13 ?_
  refine wl_put X hP hS (i := (7 + p)) (by omega) (kw_cT (by omega)) rfl i_T ft_T ft_T_ok fn_T 8 (by decide) lf_K_140 rfl rfl rfl (Nat.le_of_ble_eq_true rfl) d_K_doInstruction_14 (kw_pT_begun (by omega)) (fun H locs hP hS => ?_)
  obtain ⟨S1, eS1⟩ : ∃ z, z = kw_si S0 7 p 5 ((S0.1 7 p 5) + (1 : Int32)) := ⟨_, rfl⟩
  rw [← eS1] at hP
  refine lv_aload_n hx hb d_K_doInstruction_17 rfl (lv_at hl 1 rfl) ?_
  refine lv_dup hx hb d_K_doInstruction_18 rfl ?_
  refine wl_get (v := .int (S1.1 0 0 3)) X hP (i := 0) (by decide) (kw_cK ) rfl i_K 8 (by decide) lf_K_105 rfl d_K_doInstruction_19 ?_
  refine lv_iconst (v := 1) hx hb d_K_doInstruction_22 (by decide) ?_
  refine lv_iadd hx hb d_K_doInstruction_23 ?_
  refine wl_put X hP hS (i := 0) (by decide) (kw_cK ) rfl i_K ft_K ft_K_ok fn_K 8 (by decide) lf_K_105 rfl rfl rfl (Nat.le_of_ble_eq_true rfl) d_K_doInstruction_24 (kw_pK_doneInTurn ) (fun H locs hP hS => ?_)
  obtain ⟨S2, eS2⟩ : ∃ z, z = kw_si S1 0 0 3 ((S1.1 0 0 3) + (1 : Int32)) := ⟨_, rfl⟩
  rw [← eS2] at hP
  refine lv_aload_n hx hb d_K_doInstruction_27 rfl (lv_at hl 0 rfl) ?_
  refine wl_get (v := .int (S2.1 7 p 1)) X hP (i := (7 + p)) (by omega) (kw_cT (by omega)) rfl i_T 3 (by decide) lf_K_143 rfl d_K_doInstruction_28 ?_
  refine lv_topi (fun x3 ex3 => ?_)
  refine lv_istore_n (lv' := [(3, .int x3), (2, .ref (ad (7 + p))), (0, .ref (ad 0)), (1, .int (nI p))]) hx hb d_K_doInstruction_31 rfl hl (by decide) rfl (fun ls hl => ?_)
  refine lv_iload_n hx hb d_K_doInstruction_32 rfl (lv_at hl 0 rfl) ?_
  refine wl_goi1 (cf := kw_C cI cT cS ad) (r := k_K_isAddress x3) hS hA X.2.2.2.2.2.2 (wl_runS (As := [.int x3]) (rest := []) X hml hl.1 hP g_TT (c_K_isAddress hinj S2 x3 _) wv_K_43 (na := 1) (by decide +kernel) rfl ⟨Nat.le_of_ble_eq_true rfl, Nat.le_of_ble_eq_true rfl⟩ rfl (Nat.le_of_ble_eq_true rfl) d_K_doInstruction_33 ⟨Nat.le_refl _, Nat.le_refl _⟩) (fun r4 er4 H locs hP hS => ?_)
  refine lv_istore (lv' := [(4, .int r4), (3, .int x3), (2, .ref (ad (7 + p))), (0, .ref (ad 0)), (1, .int (nI p))]) hx hb d_K_doInstruction_36 hl (by decide) rfl (fun ls hl => ?_)
  refine lv_iload hx hb d_K_doInstruction_38 (lv_at hl 0 rfl) ?_
  refine lv_if_eq (tgt := 70) hx hb d_K_doInstruction_40 (by decide) (fun c5 => ?_) (fun c5 => ?_)
  · skip
    refine lv_iload hx hb d_K_doInstruction_70 (lv_at hl 0 rfl) ?_
    refine lv_if_ne (tgt := 92) hx hb d_K_doInstruction_72 (by decide) (fun c6 => ?_) (fun c6 => ?_)
    · skip
      have hE : k_K_doInstruction S0 p = S2 := by
        subst er4
        subst ex3
        subst eS2
        subst eS1
        exact ((if_pos c5).trans ((if_neg c6).trans rfl))
      rw [hE]
      exact wl_vret X hsz hr hlocks hP hS d_K_doInstruction_92
    · skip
      refine lv_aload_n hx hb d_K_doInstruction_75 rfl (lv_at hl 3 rfl) ?_
      refine lv_dup hx hb d_K_doInstruction_76 rfl ?_
      refine wl_get (v := .int (S2.1 0 0 2)) X hP (i := 0) (by decide) (kw_cK ) rfl i_K 6 (by decide) lf_K_130 rfl d_K_doInstruction_77 ?_
      refine lv_iconst (v := 1) hx hb d_K_doInstruction_80 (by decide) ?_
      refine lv_iadd hx hb d_K_doInstruction_81 ?_
      refine wl_put X hP hS (i := 0) (by decide) (kw_cK ) rfl i_K ft_K ft_K_ok fn_K 6 (by decide) lf_K_130 rfl rfl rfl (Nat.le_of_ble_eq_true rfl) d_K_doInstruction_82 (kw_pK_wildInstructions ) (fun H locs hP hS => ?_)
      obtain ⟨S7, eS7⟩ : ∃ z, z = kw_si S2 0 0 2 ((S2.1 0 0 2) + (1 : Int32)) := ⟨_, rfl⟩
      rw [← eS7] at hP
      refine lv_aload_n hx hb d_K_doInstruction_85 rfl (lv_at hl 3 rfl) ?_
      refine lv_iload_n hx hb d_K_doInstruction_86 rfl (lv_at hl 4 rfl) ?_
      refine lv_bipush (v := -99) hx hb d_K_doInstruction_87 (by decide) ?_
      refine wl_gov2 (cf := kw_C cI cT cS ad) (S2 := k_K_end S7 p (-99 : Int32)) hS hA X.2.2.2.2.2.2 (wl_runV (As := [.int (nI p), .int (-99 : Int32)]) (rest := []) X hml hl.1 hP g_TT (c_K_end hinj S7 (nI p) p rfl (by omega) (-99 : Int32) _) (by decide) (kw_cK ) rfl wv_K_62 (na := 2) (by decide +kernel) rfl ⟨Nat.le_of_ble_eq_true rfl, Nat.le_of_ble_eq_true rfl⟩ rfl (Nat.le_of_ble_eq_true rfl) d_K_doInstruction_89 ⟨Nat.le_refl _, Nat.le_refl _⟩) (fun S8 eS8 H locs hP hS => ?_)
      have hE : k_K_doInstruction S0 p = S8 := by
        subst eS8
        subst eS7
        subst er4
        subst ex3
        subst eS2
        subst eS1
        exact ((if_pos c5).trans ((if_pos c6).trans rfl))
      rw [hE]
      exact wl_vret X hsz hr hlocks hP hS d_K_doInstruction_92
  · skip
    obtain ⟨ha1, ha2⟩ := kq_isAddress (fun h => c5 (er4.trans h))
    refine lv_aload_n hx hb d_K_doInstruction_43 rfl (lv_at hl 3 rfl) ?_
    refine wl_get (v := .ref (ad 2)) X hP (i := 0) (by decide) (kw_cK ) rfl i_K 1 (by decide) lf_K_18 rfl d_K_doInstruction_44 ?_
    refine lv_aload_n hx hb d_K_doInstruction_47 rfl (lv_at hl 2 rfl) ?_
    refine lv_iload_n hx hb d_K_doInstruction_48 rfl (lv_at hl 1 rfl) ?_
    refine wl_goi2 (cf := kw_C cI cT cS ad) (res := k_M_fetch S2 p x3.toNatClampNeg) hS hA X.2.2.2.2.2.2 (wl_runV (As := [.ref (ad (7 + p)), .int x3]) (rest := []) X hml hl.1 hP g_TT (c_M_fetch hinj S2 p (by omega) x3 x3.toNatClampNeg ha1 (by omega) (by subst_vars; exact hI) _) (by decide) (kw_cM ) rfl wv_K_146 (na := 2) (by decide +kernel) rfl ⟨Nat.le_of_ble_eq_true rfl, Nat.le_of_ble_eq_true rfl⟩ rfl (Nat.le_of_ble_eq_true rfl) d_K_doInstruction_49 ⟨Nat.le_refl _, Nat.le_refl _⟩) (fun r9 S10 er9 eS10 H locs hP hS => ?_)
    have hv2 : S10.2 0 0 0 < 2 ^ 30 := by
      rw [eS10, kq_fetch0]
      subst_vars
      exact hv
    have hI2 : kw_FI S10 := by
      rw [eS10]
      refine kq_fetchI ?_
      subst_vars
      exact hI
    refine lv_istore (lv' := [(5, .int r9), (4, .int r4), (3, .int x3), (2, .ref (ad (7 + p))), (0, .ref (ad 0)), (1, .int (nI p))]) hx hb d_K_doInstruction_52 hl (by decide) rfl (fun ls hl => ?_)
    refine lv_aload_n hx hb d_K_doInstruction_54 rfl (lv_at hl 3 rfl) ?_
    refine lv_iload_n hx hb d_K_doInstruction_55 rfl (lv_at hl 2 rfl) ?_
    refine lv_iconst (v := 1) hx hb d_K_doInstruction_56 (by decide) ?_
    refine lv_iadd hx hb d_K_doInstruction_57 ?_
    refine wl_put X hP hS (i := (7 + p)) (by omega) (kw_cT (by omega)) rfl i_T ft_T ft_T_ok fn_T 3 (by decide) lf_K_143 rfl rfl rfl (Nat.le_of_ble_eq_true rfl) d_K_doInstruction_58 (kw_pT_place (by omega)) (fun H locs hP hS => ?_)
    obtain ⟨S11, eS11⟩ : ∃ z, z = kw_si S10 7 p 1 (x3 + (1 : Int32)) := ⟨_, rfl⟩
    rw [← eS11] at hP
    refine lv_aload_n hx hb d_K_doInstruction_61 rfl (lv_at hl 4 rfl) ?_
    refine lv_iload_n hx hb d_K_doInstruction_62 rfl (lv_at hl 5 rfl) ?_
    refine lv_iload hx hb d_K_doInstruction_63 (lv_at hl 0 rfl) ?_
    refine wl_goi2 (cf := kw_C cI cT cS ad) (res := k_K_obey S11 p r9) hS hA X.2.2.2.2.2.2 (wl_runV (As := [.int (nI p), .int r9]) (rest := []) X hml hl.1 hP g_TT (c_K_obey hinj S11 (nI p) p rfl (by omega) r9 (by rw [eS11]; exact hv2) (by rw [eS11]; exact hI2) _) (by decide) (kw_cK ) rfl wv_K_150 (na := 2) (by decide +kernel) rfl ⟨Nat.le_of_ble_eq_true rfl, Nat.le_of_ble_eq_true rfl⟩ rfl (Nat.le_of_ble_eq_true rfl) d_K_doInstruction_65 ⟨Nat.le_refl _, Nat.le_refl _⟩) (fun r12 S13 er12 eS13 H locs hP hS => ?_)
    refine lv_istore (lv' := [(4, .int r12), (5, .int r9), (3, .int x3), (2, .ref (ad (7 + p))), (0, .ref (ad 0)), (1, .int (nI p))]) hx hb d_K_doInstruction_68 hl (by decide) rfl (fun ls hl => ?_)
    refine lv_iload hx hb d_K_doInstruction_70 (lv_at hl 0 rfl) ?_
    refine lv_if_ne (tgt := 92) hx hb d_K_doInstruction_72 (by decide) (fun c14 => ?_) (fun c14 => ?_)
    · skip
      have hE : k_K_doInstruction S0 p = S13 := by
        subst eS13
        subst er12
        subst eS11
        subst eS10
        subst er9
        subst er4
        subst ex3
        subst eS2
        subst eS1
        exact ((if_neg c5).trans ((if_neg c14).trans rfl))
      rw [hE]
      exact wl_vret X hsz hr hlocks hP hS d_K_doInstruction_92
    · skip
      refine lv_aload_n hx hb d_K_doInstruction_75 rfl (lv_at hl 4 rfl) ?_
      refine lv_dup hx hb d_K_doInstruction_76 rfl ?_
      refine wl_get (v := .int (S13.1 0 0 2)) X hP (i := 0) (by decide) (kw_cK ) rfl i_K 6 (by decide) lf_K_130 rfl d_K_doInstruction_77 ?_
      refine lv_iconst (v := 1) hx hb d_K_doInstruction_80 (by decide) ?_
      refine lv_iadd hx hb d_K_doInstruction_81 ?_
      refine wl_put X hP hS (i := 0) (by decide) (kw_cK ) rfl i_K ft_K ft_K_ok fn_K 6 (by decide) lf_K_130 rfl rfl rfl (Nat.le_of_ble_eq_true rfl) d_K_doInstruction_82 (kw_pK_wildInstructions ) (fun H locs hP hS => ?_)
      obtain ⟨S15, eS15⟩ : ∃ z, z = kw_si S13 0 0 2 ((S13.1 0 0 2) + (1 : Int32)) := ⟨_, rfl⟩
      rw [← eS15] at hP
      refine lv_aload_n hx hb d_K_doInstruction_85 rfl (lv_at hl 4 rfl) ?_
      refine lv_iload_n hx hb d_K_doInstruction_86 rfl (lv_at hl 5 rfl) ?_
      refine lv_bipush (v := -99) hx hb d_K_doInstruction_87 (by decide) ?_
      refine wl_gov2 (cf := kw_C cI cT cS ad) (S2 := k_K_end S15 p (-99 : Int32)) hS hA X.2.2.2.2.2.2 (wl_runV (As := [.int (nI p), .int (-99 : Int32)]) (rest := []) X hml hl.1 hP g_TT (c_K_end hinj S15 (nI p) p rfl (by omega) (-99 : Int32) _) (by decide) (kw_cK ) rfl wv_K_62 (na := 2) (by decide +kernel) rfl ⟨Nat.le_of_ble_eq_true rfl, Nat.le_of_ble_eq_true rfl⟩ rfl (Nat.le_of_ble_eq_true rfl) d_K_doInstruction_89 ⟨Nat.le_refl _, Nat.le_refl _⟩) (fun S16 eS16 H locs hP hS => ?_)
      have hE : k_K_doInstruction S0 p = S16 := by
        subst eS16
        subst eS15
        subst eS13
        subst er12
        subst eS11
        subst eS10
        subst er9
        subst er4
        subst ex3
        subst eS2
        subst eS1
        exact ((if_neg c5).trans ((if_pos c14).trans rfl))
      rw [hE]
      exact wl_vret X hsz hr hlocks hP hS d_K_doInstruction_92
def k_K_poke (S0 : kw_S) (p : Int32) (a : Int32) (w : Int32) : Int32 × kw_S :=
  let r1 := k_K_lives S0 p
  if r1 = 0 then
    ((-1 : Int32), S0)
  else
    let r3 := k_K_isAddress a
    if r3 = 0 then
      ((-1 : Int32), S0)
    else
      let x5 := S0.1 2 0 0
      let S6 := k_M_write S0 p.toNatClampNeg a.toNatClampNeg w
      ((S6.1 2 0 0) - x5, S6)
set_option maxHeartbeats 4000000 in
set_option maxRecDepth 100000 in
theorem c_K_poke {l : Launch} {D : va_G} {cI cT cS : ClassId} {ad : Nat → Nat} (hinj : wl_inj 83 ad) (S0 : kw_S) (p : Int32) (a : Int32) (w : Int32) (hI : kw_FI S0) : wl_Mi l y_K_poke (Cond.code y_K_poke b_K_poke 5 (some .int) :: TT) (rm_ 5) D classes (kw_ty cI cT cS) 83 ad [.ref (ad 0), .int p, .int a, .int w] (kw_C cI cT cS ad S0) ((k_K_poke S0 p a w).1) (kw_C cI cT cS ad ((k_K_poke S0 p a w).2)) := by
  intro sz
  refine wl_enter (own := R_K) rfl (by decide) (Nat.le_of_ble_eq_true rfl) hinj (fun p_ e_ s_ m_ below meth c_ ls hsz X hml hr hlocks hl hP hS => ?_)
  have hx := X.1
  have hb := X.2.1
  have hA : ∀ q, s_.heap.size ≤ q → (wl_A 83 ad s_.heap.size) q := fun q h => Or.inr h
  have hl : lv_has ls 5 [(0, .ref (ad 0)), (1, .int p), (2, .int a), (3, .int w)] := hl
  refine lv_aload_n hx hb d_K_poke_0 rfl (lv_at hl 0 rfl) ?_
  refine lv_iload_n hx hb d_K_poke_1 rfl (lv_at hl 1 rfl) ?_
  refine wl_goi1 (cf := kw_C cI cT cS ad) (r := k_K_lives S0 p) hS hA X.2.2.2.2.2.2 (wl_runV (As := [.int p]) (rest := []) X hml hl.1 hP g_TT (c_K_lives hinj S0 p _) (by decide) (kw_cK ) rfl wv_K_39 (na := 1) (by decide +kernel) rfl ⟨Nat.le_of_ble_eq_true rfl, Nat.le_of_ble_eq_true rfl⟩ rfl (Nat.le_of_ble_eq_true rfl) d_K_poke_2 ⟨Nat.le_refl _, Nat.le_refl _⟩) (fun r1 er1 H locs hP hS => ?_)
  refine lv_if_eq (tgt := 15) hx hb d_K_poke_5 (by decide) (fun c2 => ?_) (fun c2 => ?_)
  · skip
    refine lv_iconst (v := -1) hx hb d_K_poke_15 (by decide) ?_
    have hE : k_K_poke S0 p a w = ((-1 : Int32), S0) := by
      subst er1
      exact ((if_pos c2).trans rfl)
    rw [hE]
    exact wl_iret X hsz hr hlocks hP hS d_K_poke_16
  · skip
    obtain ⟨hp1, hp2⟩ := kq_lives (fun h => c2 (er1.trans h))
    refine lv_iload_n hx hb d_K_poke_8 rfl (lv_at hl 2 rfl) ?_
    refine wl_goi1 (cf := kw_C cI cT cS ad) (r := k_K_isAddress a) hS hA X.2.2.2.2.2.2 (wl_runS (As := [.int a]) (rest := []) X hml hl.1 hP g_TT (c_K_isAddress hinj S0 a _) wv_K_43 (na := 1) (by decide +kernel) rfl ⟨Nat.le_of_ble_eq_true rfl, Nat.le_of_ble_eq_true rfl⟩ rfl (Nat.le_of_ble_eq_true rfl) d_K_poke_9 ⟨Nat.le_refl _, Nat.le_refl _⟩) (fun r3 er3 H locs hP hS => ?_)
    refine lv_if_ne (tgt := 17) hx hb d_K_poke_12 (by decide) (fun c4 => ?_) (fun c4 => ?_)
    · skip
      obtain ⟨ha1, ha2⟩ := kq_isAddress (fun h => c4 (er3.trans h))
      refine lv_aload_n hx hb d_K_poke_17 rfl (lv_at hl 0 rfl) ?_
      refine wl_get (v := .ref (ad 2)) X hP (i := 0) (by decide) (kw_cK ) rfl i_K 1 (by decide) lf_K_18 rfl d_K_poke_18 ?_
      refine wl_get (v := .int (S0.1 2 0 0)) X hP (i := 2) (by decide) (kw_cM ) rfl i_M 4 (by decide) lf_K_46 rfl d_K_poke_21 ?_
      refine lv_topi (fun x5 ex5 => ?_)
      refine lv_istore (lv' := [(4, .int x5), (0, .ref (ad 0)), (1, .int p), (2, .int a), (3, .int w)]) hx hb d_K_poke_24 hl (by decide) rfl (fun ls hl => ?_)
      refine lv_aload_n hx hb d_K_poke_26 rfl (lv_at hl 1 rfl) ?_
      refine wl_get (v := .ref (ad 2)) X hP (i := 0) (by decide) (kw_cK ) rfl i_K 1 (by decide) lf_K_18 rfl d_K_poke_27 ?_
      refine lv_aload_n hx hb d_K_poke_30 rfl (lv_at hl 1 rfl) ?_
      refine wl_get (v := .ref (ad 1)) X hP (i := 0) (by decide) (kw_cK ) rfl i_K 0 (by decide) lf_K_11 rfl d_K_poke_31 ?_
      refine lv_iload_n hx hb d_K_poke_34 rfl (lv_at hl 2 rfl) ?_
      refine wl_aald X hP (i := 1) (by decide) 1 (kw_cAT ) rfl (j := p.toNatClampNeg) hp1 hp2 (by decide) d_K_poke_35 ?_
      refine wl_topv (y := .ref (ad (7 + p.toNatClampNeg))) rfl ?_
      refine lv_iload_n hx hb d_K_poke_36 rfl (lv_at hl 3 rfl) ?_
      refine lv_iload_n hx hb d_K_poke_37 rfl (lv_at hl 4 rfl) ?_
      refine wl_gov2 (cf := kw_C cI cT cS ad) (S2 := k_M_write S0 p.toNatClampNeg a.toNatClampNeg w) hS hA X.2.2.2.2.2.2 (wl_runV (As := [.ref (ad (7 + p.toNatClampNeg)), .int a, .int w]) (rest := []) X hml hl.1 hP g_TT (c_M_write hinj S0 p.toNatClampNeg (by omega) a a.toNatClampNeg ha1 (by omega) w hI _) (by decide) (kw_cM ) rfl wv_K_49 (na := 3) (by decide +kernel) rfl ⟨Nat.le_of_ble_eq_true rfl, Nat.le_of_ble_eq_true rfl⟩ rfl (Nat.le_of_ble_eq_true rfl) d_K_poke_38 ⟨Nat.le_refl _, Nat.le_refl _⟩) (fun S6 eS6 H locs hP hS => ?_)
      refine lv_aload_n hx hb d_K_poke_41 rfl (lv_at hl 1 rfl) ?_
      refine wl_get (v := .ref (ad 2)) X hP (i := 0) (by decide) (kw_cK ) rfl i_K 1 (by decide) lf_K_18 rfl d_K_poke_42 ?_
      refine wl_get (v := .int (S6.1 2 0 0)) X hP (i := 2) (by decide) (kw_cM ) rfl i_M 4 (by decide) lf_K_46 rfl d_K_poke_45 ?_
      refine lv_iload hx hb d_K_poke_48 (lv_at hl 0 rfl) ?_
      refine lv_isub hx hb d_K_poke_50 ?_
      have hE : k_K_poke S0 p a w = ((S6.1 2 0 0) - x5, S6) := by
        subst eS6
        subst ex5
        subst er3
        subst er1
        exact ((if_neg c2).trans ((if_neg c4).trans rfl))
      rw [hE]
      exact wl_iret X hsz hr hlocks hP hS d_K_poke_51
    · skip
      refine lv_iconst (v := -1) hx hb d_K_poke_15 (by decide) ?_
      have hE : k_K_poke S0 p a w = ((-1 : Int32), S0) := by
        subst er3
        subst er1
        exact ((if_neg c2).trans ((if_pos c4).trans rfl))
      rw [hE]
      exact wl_iret X hsz hr hlocks hP hS d_K_poke_16
def k_K_peek (S0 : kw_S) (p : Int32) (a : Int32) : Int32 :=
  let r1 := k_K_lives S0 p
  if r1 = 0 then
    (-1 : Int32)
  else
    let r3 := k_K_isAddress a
    if r3 = 0 then
      (-1 : Int32)
    else
      if S0.2 9 p.toNatClampNeg (a.toNatClampNeg / 8) < 32 then
        S0.1 11 (S0.2 9 p.toNatClampNeg (a.toNatClampNeg / 8)) (a.toNatClampNeg % 8)
      else
        (0 : Int32)
set_option maxHeartbeats 4000000 in
set_option maxRecDepth 100000 in
theorem c_K_peek {l : Launch} {D : va_G} {cI cT cS : ClassId} {ad : Nat → Nat} (hinj : wl_inj 83 ad) (S0 : kw_S) (p : Int32) (a : Int32) : wl_Mi l y_K_peek (Cond.code y_K_peek b_K_peek 4 (some .int) :: TT) (rm_ 3) D classes (kw_ty cI cT cS) 83 ad [.ref (ad 0), .int p, .int a] (kw_C cI cT cS ad S0) (k_K_peek S0 p a) (kw_C cI cT cS ad S0) := by
  intro sz
  refine wl_enter (own := R_K) rfl (by decide) (Nat.le_of_ble_eq_true rfl) hinj (fun p_ e_ s_ m_ below meth c_ ls hsz X hml hr hlocks hl hP hS => ?_)
  have hx := X.1
  have hb := X.2.1
  have hA : ∀ q, s_.heap.size ≤ q → (wl_A 83 ad s_.heap.size) q := fun q h => Or.inr h
  have hl : lv_has ls 4 [(0, .ref (ad 0)), (1, .int p), (2, .int a)] := hl
  refine lv_aload_n hx hb d_K_peek_0 rfl (lv_at hl 0 rfl) ?_
  refine lv_iload_n hx hb d_K_peek_1 rfl (lv_at hl 1 rfl) ?_
  refine wl_goi1 (cf := kw_C cI cT cS ad) (r := k_K_lives S0 p) hS hA X.2.2.2.2.2.2 (wl_runV (As := [.int p]) (rest := []) X hml hl.1 hP g_TT (c_K_lives hinj S0 p _) (by decide) (kw_cK ) rfl wv_K_39 (na := 1) (by decide +kernel) rfl ⟨Nat.le_of_ble_eq_true rfl, Nat.le_of_ble_eq_true rfl⟩ rfl (Nat.le_of_ble_eq_true rfl) d_K_peek_2 ⟨Nat.le_refl _, Nat.le_refl _⟩) (fun r1 er1 H locs hP hS => ?_)
  refine lv_if_eq (tgt := 15) hx hb d_K_peek_5 (by decide) (fun c2 => ?_) (fun c2 => ?_)
  · skip
    refine lv_iconst (v := -1) hx hb d_K_peek_15 (by decide) ?_
    have hE : k_K_peek S0 p a = (-1 : Int32) := by
      subst er1
      exact ((if_pos c2).trans rfl)
    rw [hE]
    exact wl_iret X hsz hr hlocks hP hS d_K_peek_16
  · skip
    obtain ⟨hp1, hp2⟩ := kq_lives (fun h => c2 (er1.trans h))
    refine lv_iload_n hx hb d_K_peek_8 rfl (lv_at hl 2 rfl) ?_
    refine wl_goi1 (cf := kw_C cI cT cS ad) (r := k_K_isAddress a) hS hA X.2.2.2.2.2.2 (wl_runS (As := [.int a]) (rest := []) X hml hl.1 hP g_TT (c_K_isAddress hinj S0 a _) wv_K_43 (na := 1) (by decide +kernel) rfl ⟨Nat.le_of_ble_eq_true rfl, Nat.le_of_ble_eq_true rfl⟩ rfl (Nat.le_of_ble_eq_true rfl) d_K_peek_9 ⟨Nat.le_refl _, Nat.le_refl _⟩) (fun r3 er3 H locs hP hS => ?_)
    refine lv_if_ne (tgt := 17) hx hb d_K_peek_12 (by decide) (fun c4 => ?_) (fun c4 => ?_)
    · skip
      obtain ⟨ha1, ha2⟩ := kq_isAddress (fun h => c4 (er3.trans h))
      refine lv_aload_n hx hb d_K_peek_17 rfl (lv_at hl 0 rfl) ?_
      refine wl_get (v := .ref (ad 1)) X hP (i := 0) (by decide) (kw_cK ) rfl i_K 0 (by decide) lf_K_11 rfl d_K_peek_18 ?_
      refine lv_iload_n hx hb d_K_peek_21 rfl (lv_at hl 1 rfl) ?_
      refine wl_aald X hP (i := 1) (by decide) 1 (kw_cAT ) rfl (j := p.toNatClampNeg) hp1 (by omega) (by decide) d_K_peek_22 ?_
      refine wl_topv (y := .ref (ad (7 + p.toNatClampNeg))) rfl ?_
      refine wl_get (v := .ref (ad (15 + p.toNatClampNeg))) X hP (i := (7 + p.toNatClampNeg)) (by omega) (kw_cT (by omega)) rfl i_T 1 (by decide) lf_K_53 rfl d_K_peek_23 ?_
      refine lv_iload_n hx hb d_K_peek_26 rfl (lv_at hl 2 rfl) ?_
      refine lv_bipush (v := 8) hx hb d_K_peek_27 (by decide) ?_
      refine lv_idiv hx hb d_K_peek_29 (by decide) ?_
      refine wl_aald X hP (i := (15 + p.toNatClampNeg)) (by omega) 2 (kw_cAP (by omega)) rfl (j := (a.toNatClampNeg / 8)) ((congr (congrArg (fun (a b : Int32) => a / b) (show a = nI a.toNatClampNeg from ha1)) (show (8 : Int32) = nI 8 from rfl)).trans (pk_div (a := a.toNatClampNeg) (d := 8) (by omega) (by omega) (by omega))) (by omega) (by decide) d_K_peek_30 ?_
      refine kw_caseE (fun h5 => ?_) (fun h5 => ?_)
      · skip
        refine lv_astore_n (lv' := [(3, .ref (ad (19 + (S0.2 9 p.toNatClampNeg (a.toNatClampNeg / 8))))), (0, .ref (ad 0)), (1, .int p), (2, .int a)]) hx hb d_K_peek_31 rfl hl (by decide) rfl (fun ls hl => ?_)
        refine lv_aload_n hx hb d_K_peek_32 rfl (lv_at hl 0 rfl) ?_
        refine lv_ifnonnull (tgt := 40) hx hb d_K_peek_33 (by decide) ?_
        refine lv_aload_n hx hb d_K_peek_40 rfl (lv_at hl 0 rfl) ?_
        refine wl_get (v := .ref (ad (51 + (S0.2 9 p.toNatClampNeg (a.toNatClampNeg / 8))))) X hP (i := (19 + (S0.2 9 p.toNatClampNeg (a.toNatClampNeg / 8)))) (by omega) (kw_cE (by omega)) rfl i_E 0 (by decide) lf_K_57 rfl d_K_peek_41 ?_
        refine lv_iload_n hx hb d_K_peek_44 rfl (lv_at hl 3 rfl) ?_
        refine lv_bipush (v := 8) hx hb d_K_peek_45 (by decide) ?_
        refine lv_irem hx hb d_K_peek_47 (by decide) ?_
        refine wl_iald X hP (i := (51 + (S0.2 9 p.toNatClampNeg (a.toNatClampNeg / 8)))) (by omega) 0 (kw_cAW (by omega)) rfl (j := (a.toNatClampNeg % 8)) ((congr (congrArg (fun (a b : Int32) => a - a / b * b) (show a = nI a.toNatClampNeg from ha1)) (show (8 : Int32) = nI 8 from rfl)).trans (pk_rem (a := a.toNatClampNeg) (d := 8) (by omega) (by omega) (by omega))) (by omega) (by decide) d_K_peek_48 ?_
        have hE : k_K_peek S0 p a = S0.1 11 (S0.2 9 p.toNatClampNeg (a.toNatClampNeg / 8)) (a.toNatClampNeg % 8) := by
          subst er3
          subst er1
          exact ((if_neg c2).trans ((if_neg c4).trans ((if_pos h5).trans rfl)))
        rw [hE]
        exact wl_iret X hsz hr hlocks hP hS d_K_peek_49
      · skip
        refine lv_astore_nN (lv' := [(3, .null), (0, .ref (ad 0)), (1, .int p), (2, .int a)]) hx hb d_K_peek_31 rfl hl (by decide) rfl (fun ls hl => ?_)
        refine lv_aload_nN hx hb d_K_peek_32 rfl (lv_at hl 0 rfl) ?_
        refine lv_ifnonnullN hx hb d_K_peek_33 ?_
        refine lv_iconst (v := 0) hx hb d_K_peek_36 (by decide) ?_
        refine lv_goto (tgt := 49) hx hb d_K_peek_37 (by decide) ?_
        have hE : k_K_peek S0 p a = (0 : Int32) := by
          subst er3
          subst er1
          exact ((if_neg c2).trans ((if_neg c4).trans ((if_neg h5).trans rfl)))
        rw [hE]
        exact wl_iret X hsz hr hlocks hP hS d_K_peek_49
    · skip
      refine lv_iconst (v := -1) hx hb d_K_peek_15 (by decide) ?_
      have hE : k_K_peek S0 p a = (-1 : Int32) := by
        subst er3
        subst er1
        exact ((if_neg c2).trans ((if_pos c4).trans rfl))
      rw [hE]
      exact wl_iret X hsz hr hlocks hP hS d_K_peek_16
def k_K_kill (S0 : kw_S) (p : Int32) : Int32 × kw_S :=
  let r1 := k_K_lives S0 p
  if r1 = 0 then
    ((0 : Int32), S0)
  else
    let S3 := k_K_end S0 p.toNatClampNeg (-9 : Int32)
    ((1 : Int32), S3)
set_option maxHeartbeats 4000000 in
set_option maxRecDepth 100000 in
theorem c_K_kill {l : Launch} {D : va_G} {cI cT cS : ClassId} {ad : Nat → Nat} (hinj : wl_inj 83 ad) (S0 : kw_S) (p : Int32) : wl_Mi l y_K_kill (Cond.code y_K_kill b_K_kill 2 (some .boolean) :: TT) (rm_ 3) D classes (kw_ty cI cT cS) 83 ad [.ref (ad 0), .int p] (kw_C cI cT cS ad S0) ((k_K_kill S0 p).1) (kw_C cI cT cS ad ((k_K_kill S0 p).2)) := by
  intro sz
  refine wl_enter (own := R_K) rfl (by decide) (Nat.le_of_ble_eq_true rfl) hinj (fun p_ e_ s_ m_ below meth c_ ls hsz X hml hr hlocks hl hP hS => ?_)
  have hx := X.1
  have hb := X.2.1
  have hA : ∀ q, s_.heap.size ≤ q → (wl_A 83 ad s_.heap.size) q := fun q h => Or.inr h
  have hl : lv_has ls 2 [(0, .ref (ad 0)), (1, .int p)] := hl
  refine lv_aload_n hx hb d_K_kill_0 rfl (lv_at hl 0 rfl) ?_
  refine lv_iload_n hx hb d_K_kill_1 rfl (lv_at hl 1 rfl) ?_
  refine wl_goi1 (cf := kw_C cI cT cS ad) (r := k_K_lives S0 p) hS hA X.2.2.2.2.2.2 (wl_runV (As := [.int p]) (rest := []) X hml hl.1 hP g_TT (c_K_lives hinj S0 p _) (by decide) (kw_cK ) rfl wv_K_39 (na := 1) (by decide +kernel) rfl ⟨Nat.le_of_ble_eq_true rfl, Nat.le_of_ble_eq_true rfl⟩ rfl (Nat.le_of_ble_eq_true rfl) d_K_kill_2 ⟨Nat.le_refl _, Nat.le_refl _⟩) (fun r1 er1 H locs hP hS => ?_)
  refine lv_if_ne (tgt := 10) hx hb d_K_kill_5 (by decide) (fun c2 => ?_) (fun c2 => ?_)
  · skip
    obtain ⟨hp1, hp2⟩ := kq_lives (fun h => c2 (er1.trans h))
    refine lv_aload_n hx hb d_K_kill_10 rfl (lv_at hl 0 rfl) ?_
    refine lv_iload_n hx hb d_K_kill_11 rfl (lv_at hl 1 rfl) ?_
    refine lv_bipush (v := -9) hx hb d_K_kill_12 (by decide) ?_
    refine wl_gov2 (cf := kw_C cI cT cS ad) (S2 := k_K_end S0 p.toNatClampNeg (-9 : Int32)) hS hA X.2.2.2.2.2.2 (wl_runV (As := [.int p, .int (-9 : Int32)]) (rest := []) X hml hl.1 hP g_TT (c_K_end hinj S0 p p.toNatClampNeg hp1 (by omega) (-9 : Int32) _) (by decide) (kw_cK ) rfl wv_K_62 (na := 2) (by decide +kernel) rfl ⟨Nat.le_of_ble_eq_true rfl, Nat.le_of_ble_eq_true rfl⟩ rfl (Nat.le_of_ble_eq_true rfl) d_K_kill_14 ⟨Nat.le_refl _, Nat.le_refl _⟩) (fun S3 eS3 H locs hP hS => ?_)
    refine lv_iconst (v := 1) hx hb d_K_kill_17 (by decide) ?_
    have hE : k_K_kill S0 p = ((1 : Int32), S3) := by
      subst eS3
      subst er1
      exact ((if_neg c2).trans rfl)
    rw [hE]
    exact wl_zret X hsz hr hlocks (kq_bool (Or.inr rfl)) hP hS d_K_kill_18
  · skip
    refine lv_iconst (v := 0) hx hb d_K_kill_8 (by decide) ?_
    have hE : k_K_kill S0 p = ((0 : Int32), S0) := by
      subst er1
      exact ((if_pos c2).trans rfl)
    rw [hE]
    exact wl_zret X hsz hr hlocks (kq_bool (Or.inl rfl)) hP hS d_K_kill_9
def k_K_printed (S0 : kw_S) (k : Int32) : Int32 :=
  if k < 0 then
    (0 : Int32)
  else
    if (40 : Int32) ≤ k then
      (0 : Int32)
    else
      if (nI (S0.2 0 0 0)) ≤ k then
        (0 : Int32)
      else
        S0.1 3 0 k.toNatClampNeg
set_option maxHeartbeats 4000000 in
set_option maxRecDepth 100000 in
theorem c_K_printed {l : Launch} {D : va_G} {cI cT cS : ClassId} {ad : Nat → Nat} (hinj : wl_inj 83 ad) (S0 : kw_S) (k : Int32) : wl_Mi l y_K_printed (Cond.code y_K_printed b_K_printed 2 (some .int) :: TT) (rm_ 0) D classes (kw_ty cI cT cS) 83 ad [.ref (ad 0), .int k] (kw_C cI cT cS ad S0) (k_K_printed S0 k) (kw_C cI cT cS ad S0) := by
  intro sz
  refine wl_enter (own := R_K) rfl (by decide) (Nat.le_of_ble_eq_true rfl) hinj (fun p_ e_ s_ m_ below meth c_ ls hsz X hml hr hlocks hl hP hS => ?_)
  have hx := X.1
  have hb := X.2.1
  have hA : ∀ q, s_.heap.size ≤ q → (wl_A 83 ad s_.heap.size) q := fun q h => Or.inr h
  have hl : lv_has ls 2 [(0, .ref (ad 0)), (1, .int k)] := hl
  refine lv_iload_n hx hb d_K_printed_0 rfl (lv_at hl 1 rfl) ?_
  refine lv_if_lt (tgt := 27) hx hb d_K_printed_1 (by decide) (fun c1 => ?_) (fun c1 => ?_)
  · skip
    refine lv_iconst (v := 0) hx hb d_K_printed_27 (by decide) ?_
    have hE : k_K_printed S0 k = (0 : Int32) := by
      exact ((if_pos c1).trans rfl)
    rw [hE]
    exact wl_iret X hsz hr hlocks hP hS d_K_printed_28
  · skip
    refine lv_iload_n hx hb d_K_printed_4 rfl (lv_at hl 1 rfl) ?_
    refine lv_bipush (v := 40) hx hb d_K_printed_5 (by decide) ?_
    refine lv_icmp_ge (tgt := 27) hx hb d_K_printed_7 (by decide) (fun c2 => ?_) (fun c2 => ?_)
    · skip
      refine lv_iconst (v := 0) hx hb d_K_printed_27 (by decide) ?_
      have hE : k_K_printed S0 k = (0 : Int32) := by
        exact ((if_neg c1).trans ((if_pos c2).trans rfl))
      rw [hE]
      exact wl_iret X hsz hr hlocks hP hS d_K_printed_28
    · skip
      refine lv_iload_n hx hb d_K_printed_10 rfl (lv_at hl 1 rfl) ?_
      refine lv_aload_n hx hb d_K_printed_11 rfl (lv_at hl 0 rfl) ?_
      refine wl_get (v := .int (nI (S0.2 0 0 0))) X hP (i := 0) (by decide) (kw_cK ) rfl i_K 3 (by decide) lf_K_99 rfl d_K_printed_12 ?_
      refine lv_icmp_ge (tgt := 27) hx hb d_K_printed_15 (by decide) (fun c3 => ?_) (fun c3 => ?_)
      · skip
        refine lv_iconst (v := 0) hx hb d_K_printed_27 (by decide) ?_
        have hE : k_K_printed S0 k = (0 : Int32) := by
          exact ((if_neg c1).trans ((if_neg c2).trans ((if_pos c3).trans rfl)))
        rw [hE]
        exact wl_iret X hsz hr hlocks hP hS d_K_printed_28
      · skip
        obtain ⟨hp1, hp2⟩ := sk_rng 40 c1 c2 (by decide)
        refine lv_aload_n hx hb d_K_printed_18 rfl (lv_at hl 0 rfl) ?_
        refine wl_get (v := .ref (ad 3)) X hP (i := 0) (by decide) (kw_cK ) rfl i_K 2 (by decide) lf_K_22 rfl d_K_printed_19 ?_
        refine lv_iload_n hx hb d_K_printed_22 rfl (lv_at hl 1 rfl) ?_
        refine wl_iald X hP (i := 3) (by decide) 0 (kw_cAK ) rfl (j := k.toNatClampNeg) hp1 (by omega) (by decide) d_K_printed_23 ?_
        refine lv_goto (tgt := 28) hx hb d_K_printed_24 (by decide) ?_
        have hE : k_K_printed S0 k = S0.1 3 0 k.toNatClampNeg := by
          exact ((if_neg c1).trans ((if_neg c2).trans ((if_neg c3).trans rfl)))
        rw [hE]
        exact wl_iret X hsz hr hlocks hP hS d_K_printed_28
def k_K_count (S0 : kw_S) (w : Int32) : Int32 :=
  if w = (0 : Int32) then
    S0.1 0 0 0
  else
    if w = (1 : Int32) then
      let r3 := k_K_presentTasks S0
      r3
    else
      if w = (2 : Int32) then
        nI ((S0.2 0 0 1) % 4)
      else
        if w = (3 : Int32) then
          S0.1 0 0 3
        else
          if w = (4 : Int32) then
            let r7 := k_M_taken_AF S0
            r7
          else
            if w = (5 : Int32) then
              let r9 := k_M_taken_AL S0
              r9
            else
              if w = (6 : Int32) then
                nI ((S0.2 2 0 0) % 6)
              else
                if w = (7 : Int32) then
                  S0.1 2 0 0
                else
                  if w = (8 : Int32) then
                    S0.1 2 0 1
                  else
                    if w = (9 : Int32) then
                      S0.1 2 0 2
                    else
                      if w = (10 : Int32) then
                        S0.1 2 0 3
                      else
                        if w = (11 : Int32) then
                          S0.1 0 0 1
                        else
                          if w = (12 : Int32) then
                            nI (S0.2 0 0 0)
                          else
                            if w = (13 : Int32) then
                              S0.1 0 0 2
                            else
                              (-1 : Int32)
set_option maxHeartbeats 4000000 in
set_option maxRecDepth 100000 in
theorem c_K_count {l : Launch} {D : va_G} {cI cT cS : ClassId} {ad : Nat → Nat} (hinj : wl_inj 83 ad) (S0 : kw_S) (w : Int32) : wl_Mi l y_K_count (Cond.code y_K_count b_K_count 2 (some .int) :: TT) (rm_ 1) D classes (kw_ty cI cT cS) 83 ad [.ref (ad 0), .int w] (kw_C cI cT cS ad S0) (k_K_count S0 w) (kw_C cI cT cS ad S0) := by
  intro sz
  refine wl_enter (own := R_K) rfl (by decide) (Nat.le_of_ble_eq_true rfl) hinj (fun p_ e_ s_ m_ below meth c_ ls hsz X hml hr hlocks hl hP hS => ?_)
  have hx := X.1
  have hb := X.2.1
  have hA : ∀ q, s_.heap.size ≤ q → (wl_A 83 ad s_.heap.size) q := fun q h => Or.inr h
  have hl : lv_has ls 2 [(0, .ref (ad 0)), (1, .int w)] := hl
  refine lv_iload_n hx hb d_K_count_0 rfl (lv_at hl 1 rfl) ?_
  by_cases c1 : w = (0 : Int32)
  · refine wl_top c1 ?_
    refine lv_tableIn (tgt := 72) hx hb d_K_count_1 (by decide) (by decide) rfl (by decide) ?_
    refine lv_aload_n hx hb d_K_count_72 rfl (lv_at hl 0 rfl) ?_
    refine wl_get (v := .int (S0.1 0 0 0)) X hP (i := 0) (by decide) (kw_cK ) rfl i_K 4 (by decide) lf_K_66 rfl d_K_count_73 ?_
    have hE : k_K_count S0 w = S0.1 0 0 0 := by
      exact ((if_pos c1).trans rfl)
    rw [hE]
    exact wl_iret X hsz hr hlocks hP hS d_K_count_76
  by_cases c2 : w = (1 : Int32)
  · refine wl_top c2 ?_
    refine lv_tableIn (tgt := 77) hx hb d_K_count_1 (by decide) (by decide) rfl (by decide) ?_
    refine lv_aload_n hx hb d_K_count_77 rfl (lv_at hl 0 rfl) ?_
    refine wl_goi1 (cf := kw_C cI cT cS ad) (r := k_K_presentTasks S0) hS hA X.2.2.2.2.2.2 (wl_runV (As := []) (rest := []) X hml hl.1 hP g_TT (c_K_presentTasks hinj S0 _) (by decide) (kw_cK ) rfl wv_K_102 (na := 0) (by decide +kernel) rfl ⟨Nat.le_of_ble_eq_true rfl, Nat.le_of_ble_eq_true rfl⟩ rfl (Nat.le_of_ble_eq_true rfl) d_K_count_78 ⟨Nat.le_refl _, Nat.le_refl _⟩) (fun r3 er3 H locs hP hS => ?_)
    have hE : k_K_count S0 w = r3 := by
      subst er3
      exact ((if_neg c1).trans ((if_pos c2).trans rfl))
    rw [hE]
    exact wl_iret X hsz hr hlocks hP hS d_K_count_81
  by_cases c4 : w = (2 : Int32)
  · refine wl_top c4 ?_
    refine lv_tableIn (tgt := 82) hx hb d_K_count_1 (by decide) (by decide) rfl (by decide) ?_
    refine lv_aload_n hx hb d_K_count_82 rfl (lv_at hl 0 rfl) ?_
    refine wl_get (v := .int (nI ((S0.2 0 0 1) % 4))) X hP (i := 0) (by decide) (kw_cK ) rfl i_K 7 (by decide) lf_K_26 rfl d_K_count_83 ?_
    have hE : k_K_count S0 w = nI ((S0.2 0 0 1) % 4) := by
      exact ((if_neg c1).trans ((if_neg c2).trans ((if_pos c4).trans rfl)))
    rw [hE]
    exact wl_iret X hsz hr hlocks hP hS d_K_count_86
  by_cases c5 : w = (3 : Int32)
  · refine wl_top c5 ?_
    refine lv_tableIn (tgt := 87) hx hb d_K_count_1 (by decide) (by decide) rfl (by decide) ?_
    refine lv_aload_n hx hb d_K_count_87 rfl (lv_at hl 0 rfl) ?_
    refine wl_get (v := .int (S0.1 0 0 3)) X hP (i := 0) (by decide) (kw_cK ) rfl i_K 8 (by decide) lf_K_105 rfl d_K_count_88 ?_
    have hE : k_K_count S0 w = S0.1 0 0 3 := by
      exact ((if_neg c1).trans ((if_neg c2).trans ((if_neg c4).trans ((if_pos c5).trans rfl))))
    rw [hE]
    exact wl_iret X hsz hr hlocks hP hS d_K_count_91
  by_cases c6 : w = (4 : Int32)
  · refine wl_top c6 ?_
    refine lv_tableIn (tgt := 92) hx hb d_K_count_1 (by decide) (by decide) rfl (by decide) ?_
    refine lv_aload_n hx hb d_K_count_92 rfl (lv_at hl 0 rfl) ?_
    refine wl_get (v := .ref (ad 2)) X hP (i := 0) (by decide) (kw_cK ) rfl i_K 1 (by decide) lf_K_18 rfl d_K_count_93 ?_
    refine wl_get (v := .ref (ad 5)) X hP (i := 2) (by decide) (kw_cM ) rfl i_M 1 (by decide) lf_K_108 rfl d_K_count_96 ?_
    refine wl_goi1 (cf := kw_C cI cT cS ad) (r := k_M_taken_AF S0) hS hA X.2.2.2.2.2.2 (wl_runS (As := [.ref (ad 5)]) (rest := []) X hml hl.1 hP g_TT (c_M_taken_AF hinj S0 _) wv_K_111 (na := 1) (by decide +kernel) rfl ⟨Nat.le_of_ble_eq_true rfl, Nat.le_of_ble_eq_true rfl⟩ rfl (Nat.le_of_ble_eq_true rfl) d_K_count_99 ⟨Nat.le_refl _, Nat.le_refl _⟩) (fun r7 er7 H locs hP hS => ?_)
    have hE : k_K_count S0 w = r7 := by
      subst er7
      exact ((if_neg c1).trans ((if_neg c2).trans ((if_neg c4).trans ((if_neg c5).trans ((if_pos c6).trans rfl)))))
    rw [hE]
    exact wl_iret X hsz hr hlocks hP hS d_K_count_102
  by_cases c8 : w = (5 : Int32)
  · refine wl_top c8 ?_
    refine lv_tableIn (tgt := 103) hx hb d_K_count_1 (by decide) (by decide) rfl (by decide) ?_
    refine lv_aload_n hx hb d_K_count_103 rfl (lv_at hl 0 rfl) ?_
    refine wl_get (v := .ref (ad 2)) X hP (i := 0) (by decide) (kw_cK ) rfl i_K 1 (by decide) lf_K_18 rfl d_K_count_104 ?_
    refine wl_get (v := .ref (ad 6)) X hP (i := 2) (by decide) (kw_cM ) rfl i_M 2 (by decide) lf_K_115 rfl d_K_count_107 ?_
    refine wl_goi1 (cf := kw_C cI cT cS ad) (r := k_M_taken_AL S0) hS hA X.2.2.2.2.2.2 (wl_runS (As := [.ref (ad 6)]) (rest := []) X hml hl.1 hP g_TT (c_M_taken_AL hinj S0 _) wv_K_111 (na := 1) (by decide +kernel) rfl ⟨Nat.le_of_ble_eq_true rfl, Nat.le_of_ble_eq_true rfl⟩ rfl (Nat.le_of_ble_eq_true rfl) d_K_count_110 ⟨Nat.le_refl _, Nat.le_refl _⟩) (fun r9 er9 H locs hP hS => ?_)
    have hE : k_K_count S0 w = r9 := by
      subst er9
      exact ((if_neg c1).trans ((if_neg c2).trans ((if_neg c4).trans ((if_neg c5).trans ((if_neg c6).trans ((if_pos c8).trans rfl))))))
    rw [hE]
    exact wl_iret X hsz hr hlocks hP hS d_K_count_113
  by_cases c10 : w = (6 : Int32)
  · refine wl_top c10 ?_
    refine lv_tableIn (tgt := 114) hx hb d_K_count_1 (by decide) (by decide) rfl (by decide) ?_
    refine lv_aload_n hx hb d_K_count_114 rfl (lv_at hl 0 rfl) ?_
    refine wl_get (v := .ref (ad 2)) X hP (i := 0) (by decide) (kw_cK ) rfl i_K 1 (by decide) lf_K_18 rfl d_K_count_115 ?_
    refine wl_get (v := .int (nI ((S0.2 2 0 0) % 6))) X hP (i := 2) (by decide) (kw_cM ) rfl i_M 3 (by decide) lf_K_118 rfl d_K_count_118 ?_
    have hE : k_K_count S0 w = nI ((S0.2 2 0 0) % 6) := by
      exact ((if_neg c1).trans ((if_neg c2).trans ((if_neg c4).trans ((if_neg c5).trans ((if_neg c6).trans ((if_neg c8).trans ((if_pos c10).trans rfl)))))))
    rw [hE]
    exact wl_iret X hsz hr hlocks hP hS d_K_count_121
  by_cases c11 : w = (7 : Int32)
  · refine wl_top c11 ?_
    refine lv_tableIn (tgt := 122) hx hb d_K_count_1 (by decide) (by decide) rfl (by decide) ?_
    refine lv_aload_n hx hb d_K_count_122 rfl (lv_at hl 0 rfl) ?_
    refine wl_get (v := .ref (ad 2)) X hP (i := 0) (by decide) (kw_cK ) rfl i_K 1 (by decide) lf_K_18 rfl d_K_count_123 ?_
    refine wl_get (v := .int (S0.1 2 0 0)) X hP (i := 2) (by decide) (kw_cM ) rfl i_M 4 (by decide) lf_K_46 rfl d_K_count_126 ?_
    have hE : k_K_count S0 w = S0.1 2 0 0 := by
      exact ((if_neg c1).trans ((if_neg c2).trans ((if_neg c4).trans ((if_neg c5).trans ((if_neg c6).trans ((if_neg c8).trans ((if_neg c10).trans ((if_pos c11).trans rfl))))))))
    rw [hE]
    exact wl_iret X hsz hr hlocks hP hS d_K_count_129
  by_cases c12 : w = (8 : Int32)
  · refine wl_top c12 ?_
    refine lv_tableIn (tgt := 130) hx hb d_K_count_1 (by decide) (by decide) rfl (by decide) ?_
    refine lv_aload_n hx hb d_K_count_130 rfl (lv_at hl 0 rfl) ?_
    refine wl_get (v := .ref (ad 2)) X hP (i := 0) (by decide) (kw_cK ) rfl i_K 1 (by decide) lf_K_18 rfl d_K_count_131 ?_
    refine wl_get (v := .int (S0.1 2 0 1)) X hP (i := 2) (by decide) (kw_cM ) rfl i_M 5 (by decide) lf_K_121 rfl d_K_count_134 ?_
    have hE : k_K_count S0 w = S0.1 2 0 1 := by
      exact ((if_neg c1).trans ((if_neg c2).trans ((if_neg c4).trans ((if_neg c5).trans ((if_neg c6).trans ((if_neg c8).trans ((if_neg c10).trans ((if_neg c11).trans ((if_pos c12).trans rfl)))))))))
    rw [hE]
    exact wl_iret X hsz hr hlocks hP hS d_K_count_137
  by_cases c13 : w = (9 : Int32)
  · refine wl_top c13 ?_
    refine lv_tableIn (tgt := 138) hx hb d_K_count_1 (by decide) (by decide) rfl (by decide) ?_
    refine lv_aload_n hx hb d_K_count_138 rfl (lv_at hl 0 rfl) ?_
    refine wl_get (v := .ref (ad 2)) X hP (i := 0) (by decide) (kw_cK ) rfl i_K 1 (by decide) lf_K_18 rfl d_K_count_139 ?_
    refine wl_get (v := .int (S0.1 2 0 2)) X hP (i := 2) (by decide) (kw_cM ) rfl i_M 6 (by decide) lf_K_124 rfl d_K_count_142 ?_
    have hE : k_K_count S0 w = S0.1 2 0 2 := by
      exact ((if_neg c1).trans ((if_neg c2).trans ((if_neg c4).trans ((if_neg c5).trans ((if_neg c6).trans ((if_neg c8).trans ((if_neg c10).trans ((if_neg c11).trans ((if_neg c12).trans ((if_pos c13).trans rfl))))))))))
    rw [hE]
    exact wl_iret X hsz hr hlocks hP hS d_K_count_145
  by_cases c14 : w = (10 : Int32)
  · refine wl_top c14 ?_
    refine lv_tableIn (tgt := 146) hx hb d_K_count_1 (by decide) (by decide) rfl (by decide) ?_
    refine lv_aload_n hx hb d_K_count_146 rfl (lv_at hl 0 rfl) ?_
    refine wl_get (v := .ref (ad 2)) X hP (i := 0) (by decide) (kw_cK ) rfl i_K 1 (by decide) lf_K_18 rfl d_K_count_147 ?_
    refine wl_get (v := .int (S0.1 2 0 3)) X hP (i := 2) (by decide) (kw_cM ) rfl i_M 7 (by decide) lf_K_127 rfl d_K_count_150 ?_
    have hE : k_K_count S0 w = S0.1 2 0 3 := by
      exact ((if_neg c1).trans ((if_neg c2).trans ((if_neg c4).trans ((if_neg c5).trans ((if_neg c6).trans ((if_neg c8).trans ((if_neg c10).trans ((if_neg c11).trans ((if_neg c12).trans ((if_neg c13).trans ((if_pos c14).trans rfl)))))))))))
    rw [hE]
    exact wl_iret X hsz hr hlocks hP hS d_K_count_153
  by_cases c15 : w = (11 : Int32)
  · refine wl_top c15 ?_
    refine lv_tableIn (tgt := 154) hx hb d_K_count_1 (by decide) (by decide) rfl (by decide) ?_
    refine lv_aload_n hx hb d_K_count_154 rfl (lv_at hl 0 rfl) ?_
    refine wl_get (v := .int (S0.1 0 0 1)) X hP (i := 0) (by decide) (kw_cK ) rfl i_K 5 (by decide) lf_K_79 rfl d_K_count_155 ?_
    have hE : k_K_count S0 w = S0.1 0 0 1 := by
      exact ((if_neg c1).trans ((if_neg c2).trans ((if_neg c4).trans ((if_neg c5).trans ((if_neg c6).trans ((if_neg c8).trans ((if_neg c10).trans ((if_neg c11).trans ((if_neg c12).trans ((if_neg c13).trans ((if_neg c14).trans ((if_pos c15).trans rfl))))))))))))
    rw [hE]
    exact wl_iret X hsz hr hlocks hP hS d_K_count_158
  by_cases c16 : w = (12 : Int32)
  · refine wl_top c16 ?_
    refine lv_tableIn (tgt := 159) hx hb d_K_count_1 (by decide) (by decide) rfl (by decide) ?_
    refine lv_aload_n hx hb d_K_count_159 rfl (lv_at hl 0 rfl) ?_
    refine wl_get (v := .int (nI (S0.2 0 0 0))) X hP (i := 0) (by decide) (kw_cK ) rfl i_K 3 (by decide) lf_K_99 rfl d_K_count_160 ?_
    have hE : k_K_count S0 w = nI (S0.2 0 0 0) := by
      exact ((if_neg c1).trans ((if_neg c2).trans ((if_neg c4).trans ((if_neg c5).trans ((if_neg c6).trans ((if_neg c8).trans ((if_neg c10).trans ((if_neg c11).trans ((if_neg c12).trans ((if_neg c13).trans ((if_neg c14).trans ((if_neg c15).trans ((if_pos c16).trans rfl)))))))))))))
    rw [hE]
    exact wl_iret X hsz hr hlocks hP hS d_K_count_163
  by_cases c17 : w = (13 : Int32)
  · refine wl_top c17 ?_
    refine lv_tableIn (tgt := 164) hx hb d_K_count_1 (by decide) (by decide) rfl (by decide) ?_
    refine lv_aload_n hx hb d_K_count_164 rfl (lv_at hl 0 rfl) ?_
    refine wl_get (v := .int (S0.1 0 0 2)) X hP (i := 0) (by decide) (kw_cK ) rfl i_K 6 (by decide) lf_K_130 rfl d_K_count_165 ?_
    have hE : k_K_count S0 w = S0.1 0 0 2 := by
      exact ((if_neg c1).trans ((if_neg c2).trans ((if_neg c4).trans ((if_neg c5).trans ((if_neg c6).trans ((if_neg c8).trans ((if_neg c10).trans ((if_neg c11).trans ((if_neg c12).trans ((if_neg c13).trans ((if_neg c14).trans ((if_neg c15).trans ((if_neg c16).trans ((if_pos c17).trans rfl))))))))))))))
    rw [hE]
    exact wl_iret X hsz hr hlocks hP hS d_K_count_168
  refine lv_tableOut (tgt := 169) hx hb d_K_count_1 (by have := lv_neT c1 (a := 0) rfl; have := lv_neT c2 (a := 1) rfl; have := lv_neT c4 (a := 2) rfl; have := lv_neT c5 (a := 3) rfl; have := lv_neT c6 (a := 4) rfl; have := lv_neT c8 (a := 5) rfl; have := lv_neT c10 (a := 6) rfl; have := lv_neT c11 (a := 7) rfl; have := lv_neT c12 (a := 8) rfl; have := lv_neT c13 (a := 9) rfl; have := lv_neT c14 (a := 10) rfl; have := lv_neT c15 (a := 11) rfl; have := lv_neT c16 (a := 12) rfl; have := lv_neT c17 (a := 13) rfl; omega) (by decide) ?_
  refine lv_iconst (v := -1) hx hb d_K_count_169 (by decide) ?_
  have hE : k_K_count S0 w = (-1 : Int32) := by
    exact ((if_neg c1).trans ((if_neg c2).trans ((if_neg c4).trans ((if_neg c5).trans ((if_neg c6).trans ((if_neg c8).trans ((if_neg c10).trans ((if_neg c11).trans ((if_neg c12).trans ((if_neg c13).trans ((if_neg c14).trans ((if_neg c15).trans ((if_neg c16).trans ((if_neg c17).trans rfl))))))))))))))
  rw [hE]
  exact wl_iret X hsz hr hlocks hP hS d_K_count_170
theorem kq_w10 {x : Int32} (h0 : ¬ x < 10) (h1 : ¬ (14 : Int32) ≤ x) : x - 10 = nI (x - 10).toNatClampNeg ∧ (x - 10).toNatClampNeg < 4 := by
  have a0 : ¬ x < 0 := fun h => h0 (Int32.lt_trans h (by decide))
  obtain ⟨e, l⟩ := sk_rng 14 a0 h1 (by decide)
  generalize x.toNatClampNeg = j at e l
  subst e
  have hj : 10 ≤ j := by
    apply Nat.le_of_not_lt
    intro hlt
    exact h0 (nI_lt (b := 10) hlt (by decide))
  have e2 : nI j - 10 = nI (j - 10) := pk_sub (b := 10) hj
  rw [e2, nI_clamp (by omega)]
  exact ⟨rfl, by omega⟩
def k_K_page (S0 : kw_S) (p : Int32) (k : Int32) (w : Int32) : Int32 :=
  let r1 := k_K_isThere S0 p
  if r1 = 0 then
    (-1 : Int32)
  else
    if k < 0 then
      (-1 : Int32)
    else
      if (8 : Int32) ≤ k then
        (-1 : Int32)
      else
        if w < 0 then
          (-1 : Int32)
        else
          if w ≤ (5 : Int32) then
            if S0.2 9 p.toNatClampNeg k.toNatClampNeg < 32 then
              let r6 := k_E_tell S0 (S0.2 9 p.toNatClampNeg k.toNatClampNeg) w
              r6
            else
              if w = (1 : Int32) then
                (-2 : Int32)
              else
                if w = (2 : Int32) then
                  (-2 : Int32)
                else
                  (0 : Int32)
          else
            (-1 : Int32)
set_option maxHeartbeats 4000000 in
set_option maxRecDepth 100000 in
theorem c_K_page {l : Launch} {D : va_G} {cI cT cS : ClassId} {ad : Nat → Nat} (hinj : wl_inj 83 ad) (S0 : kw_S) (p : Int32) (k : Int32) (w : Int32) : wl_Mi l y_K_page (Cond.code y_K_page b_K_page 5 (some .int) :: TT) (rm_ 2) D classes (kw_ty cI cT cS) 83 ad [.ref (ad 0), .int p, .int k, .int w] (kw_C cI cT cS ad S0) (k_K_page S0 p k w) (kw_C cI cT cS ad S0) := by
  intro sz
  refine wl_enter (own := R_K) rfl (by decide) (Nat.le_of_ble_eq_true rfl) hinj (fun p_ e_ s_ m_ below meth c_ ls hsz X hml hr hlocks hl hP hS => ?_)
  have hx := X.1
  have hb := X.2.1
  have hA : ∀ q, s_.heap.size ≤ q → (wl_A 83 ad s_.heap.size) q := fun q h => Or.inr h
  have hl : lv_has ls 5 [(0, .ref (ad 0)), (1, .int p), (2, .int k), (3, .int w)] := hl
  refine lv_aload_n hx hb d_K_page_0 rfl (lv_at hl 0 rfl) ?_
  refine lv_iload_n hx hb d_K_page_1 rfl (lv_at hl 1 rfl) ?_
  refine wl_goi1 (cf := kw_C cI cT cS ad) (r := k_K_isThere S0 p) hS hA X.2.2.2.2.2.2 (wl_runV (As := [.int p]) (rest := []) X hml hl.1 hP g_TT (c_K_isThere hinj S0 p _) (by decide) (kw_cK ) rfl wv_K_95 (na := 1) (by decide +kernel) rfl ⟨Nat.le_of_ble_eq_true rfl, Nat.le_of_ble_eq_true rfl⟩ rfl (Nat.le_of_ble_eq_true rfl) d_K_page_2 ⟨Nat.le_refl _, Nat.le_refl _⟩) (fun r1 er1 H locs hP hS => ?_)
  refine lv_if_eq (tgt := 27) hx hb d_K_page_5 (by decide) (fun c2 => ?_) (fun c2 => ?_)
  · skip
    refine lv_iconst (v := -1) hx hb d_K_page_27 (by decide) ?_
    have hE : k_K_page S0 p k w = (-1 : Int32) := by
      subst er1
      exact ((if_pos c2).trans rfl)
    rw [hE]
    exact wl_iret X hsz hr hlocks hP hS d_K_page_28
  · skip
    obtain ⟨hp1, hp2⟩ := kq_isThere (fun h => c2 (er1.trans h))
    refine lv_iload_n hx hb d_K_page_8 rfl (lv_at hl 2 rfl) ?_
    refine lv_if_lt (tgt := 27) hx hb d_K_page_9 (by decide) (fun ck0 => ?_) (fun ck0 => ?_)
    · skip
      refine lv_iconst (v := -1) hx hb d_K_page_27 (by decide) ?_
      have hE : k_K_page S0 p k w = (-1 : Int32) := by
        subst er1
        exact ((if_neg c2).trans ((if_pos ck0).trans rfl))
      rw [hE]
      exact wl_iret X hsz hr hlocks hP hS d_K_page_28
    · skip
      refine lv_iload_n hx hb d_K_page_12 rfl (lv_at hl 2 rfl) ?_
      refine lv_bipush (v := 8) hx hb d_K_page_13 (by decide) ?_
      refine lv_icmp_ge (tgt := 27) hx hb d_K_page_15 (by decide) (fun ck1 => ?_) (fun ck1 => ?_)
      · skip
        refine lv_iconst (v := -1) hx hb d_K_page_27 (by decide) ?_
        have hE : k_K_page S0 p k w = (-1 : Int32) := by
          subst er1
          exact ((if_neg c2).trans ((if_neg ck0).trans ((if_pos ck1).trans rfl)))
        rw [hE]
        exact wl_iret X hsz hr hlocks hP hS d_K_page_28
      · skip
        refine lv_iload_n hx hb d_K_page_18 rfl (lv_at hl 3 rfl) ?_
        refine lv_if_lt (tgt := 27) hx hb d_K_page_19 (by decide) (fun c3 => ?_) (fun c3 => ?_)
        · skip
          refine lv_iconst (v := -1) hx hb d_K_page_27 (by decide) ?_
          have hE : k_K_page S0 p k w = (-1 : Int32) := by
            subst er1
            exact ((if_neg c2).trans ((if_neg ck0).trans ((if_neg ck1).trans ((if_pos c3).trans rfl))))
          rw [hE]
          exact wl_iret X hsz hr hlocks hP hS d_K_page_28
        · skip
          refine lv_iload_n hx hb d_K_page_22 rfl (lv_at hl 3 rfl) ?_
          refine lv_iconst (v := 5) hx hb d_K_page_23 (by decide) ?_
          refine lv_icmp_le (tgt := 29) hx hb d_K_page_24 (by decide) (fun c4 => ?_) (fun c4 => ?_)
          · skip
            obtain ⟨hk1, hk2⟩ := sk_rng 8 ck0 ck1 (by decide)
            refine lv_aload_n hx hb d_K_page_29 rfl (lv_at hl 0 rfl) ?_
            refine wl_get (v := .ref (ad 1)) X hP (i := 0) (by decide) (kw_cK ) rfl i_K 0 (by decide) lf_K_11 rfl d_K_page_30 ?_
            refine lv_iload_n hx hb d_K_page_33 rfl (lv_at hl 1 rfl) ?_
            refine wl_aald X hP (i := 1) (by decide) 1 (kw_cAT ) rfl (j := p.toNatClampNeg) hp1 (by omega) (by decide) d_K_page_34 ?_
            refine wl_topv (y := .ref (ad (7 + p.toNatClampNeg))) rfl ?_
            refine wl_get (v := .ref (ad (15 + p.toNatClampNeg))) X hP (i := (7 + p.toNatClampNeg)) (by omega) (kw_cT (by omega)) rfl i_T 1 (by decide) lf_K_53 rfl d_K_page_35 ?_
            refine lv_iload_n hx hb d_K_page_38 rfl (lv_at hl 2 rfl) ?_
            refine wl_aald X hP (i := (15 + p.toNatClampNeg)) (by omega) 2 (kw_cAP (by omega)) rfl (j := k.toNatClampNeg) hk1 (by omega) (by decide) d_K_page_39 ?_
            refine kw_caseE (fun h5 => ?_) (fun h5 => ?_)
            · skip
              refine lv_astore (lv' := [(4, .ref (ad (19 + (S0.2 9 p.toNatClampNeg k.toNatClampNeg)))), (0, .ref (ad 0)), (1, .int p), (2, .int k), (3, .int w)]) hx hb d_K_page_40 hl (by decide) rfl (fun ls hl => ?_)
              refine lv_aload hx hb d_K_page_42 (lv_at hl 0 rfl) ?_
              refine lv_ifnonnull (tgt := 64) hx hb d_K_page_44 (by decide) ?_
              refine lv_aload hx hb d_K_page_64 (lv_at hl 0 rfl) ?_
              refine lv_iload_n hx hb d_K_page_66 rfl (lv_at hl 4 rfl) ?_
              refine wl_goi1 (cf := kw_C cI cT cS ad) (r := k_E_tell S0 (S0.2 9 p.toNatClampNeg k.toNatClampNeg) w) hS hA X.2.2.2.2.2.2 (wl_runV (As := [.int w]) (rest := []) X hml hl.1 hP g_TT (c_E_tell hinj S0 (S0.2 9 p.toNatClampNeg k.toNatClampNeg) (by omega) w _) (by omega) (kw_cE (by omega)) rfl wv_K_98 (na := 1) (by decide +kernel) rfl ⟨Nat.le_of_ble_eq_true rfl, Nat.le_of_ble_eq_true rfl⟩ rfl (Nat.le_of_ble_eq_true rfl) d_K_page_67 ⟨Nat.le_refl _, Nat.le_refl _⟩) (fun r6 er6 H locs hP hS => ?_)
              have hE : k_K_page S0 p k w = r6 := by
                subst er6
                subst er1
                exact ((if_neg c2).trans ((if_neg ck0).trans ((if_neg ck1).trans ((if_neg c3).trans ((if_pos c4).trans ((if_pos h5).trans rfl))))))
              rw [hE]
              exact wl_iret X hsz hr hlocks hP hS d_K_page_70
            · skip
              refine lv_astoreN (lv' := [(4, .null), (0, .ref (ad 0)), (1, .int p), (2, .int k), (3, .int w)]) hx hb d_K_page_40 hl (by decide) rfl (fun ls hl => ?_)
              refine lv_aloadN hx hb d_K_page_42 (lv_at hl 0 rfl) ?_
              refine lv_ifnonnullN hx hb d_K_page_44 ?_
              refine lv_iload_n hx hb d_K_page_47 rfl (lv_at hl 4 rfl) ?_
              refine lv_iconst (v := 1) hx hb d_K_page_48 (by decide) ?_
              refine lv_icmp_eq (tgt := 57) hx hb d_K_page_49 (by decide) (fun c7 => ?_) (fun c7 => ?_)
              · skip
                refine lv_bipush (v := -2) hx hb d_K_page_57 (by decide) ?_
                refine lv_goto (tgt := 63) hx hb d_K_page_59 (by decide) ?_
                have hE : k_K_page S0 p k w = (-2 : Int32) := by
                  subst er1
                  exact ((if_neg c2).trans ((if_neg ck0).trans ((if_neg ck1).trans ((if_neg c3).trans ((if_pos c4).trans ((if_neg h5).trans ((if_pos c7).trans rfl)))))))
                rw [hE]
                exact wl_iret X hsz hr hlocks hP hS d_K_page_63
              · skip
                refine lv_iload_n hx hb d_K_page_52 rfl (lv_at hl 4 rfl) ?_
                refine lv_iconst (v := 2) hx hb d_K_page_53 (by decide) ?_
                refine lv_icmp_ne (tgt := 62) hx hb d_K_page_54 (by decide) (fun c8 => ?_) (fun c8 => ?_)
                · skip
                  refine lv_iconst (v := 0) hx hb d_K_page_62 (by decide) ?_
                  have hE : k_K_page S0 p k w = (0 : Int32) := by
                    subst er1
                    exact ((if_neg c2).trans ((if_neg ck0).trans ((if_neg ck1).trans ((if_neg c3).trans ((if_pos c4).trans ((if_neg h5).trans ((if_neg c7).trans ((if_neg c8).trans rfl))))))))
                  rw [hE]
                  exact wl_iret X hsz hr hlocks hP hS d_K_page_63
                · skip
                  refine lv_bipush (v := -2) hx hb d_K_page_57 (by decide) ?_
                  refine lv_goto (tgt := 63) hx hb d_K_page_59 (by decide) ?_
                  have hE : k_K_page S0 p k w = (-2 : Int32) := by
                    subst er1
                    exact ((if_neg c2).trans ((if_neg ck0).trans ((if_neg ck1).trans ((if_neg c3).trans ((if_pos c4).trans ((if_neg h5).trans ((if_neg c7).trans ((if_pos c8).trans rfl))))))))
                  rw [hE]
                  exact wl_iret X hsz hr hlocks hP hS d_K_page_63
          · skip
            refine lv_iconst (v := -1) hx hb d_K_page_27 (by decide) ?_
            have hE : k_K_page S0 p k w = (-1 : Int32) := by
              subst er1
              exact ((if_neg c2).trans ((if_neg ck0).trans ((if_neg ck1).trans ((if_neg c3).trans ((if_neg c4).trans rfl)))))
            rw [hE]
            exact wl_iret X hsz hr hlocks hP hS d_K_page_28
def k_K_process_J18 (p : Int32) (w : Int32) (g : Int32) (S0 : kw_S) : Int32 :=
  let r1 := k_K_isTask p
  if r1 = 0 then
    (-1 : Int32)
  else
    if w < 0 then
      (-1 : Int32)
    else
      if w ≤ (6 : Int32) then
        if (S0.1 7 p.toNatClampNeg 0) = 0 then
          (0 : Int32)
        else
          if g = 0 then
            let r7 := k_T_tell S0 p.toNatClampNeg w
            r7
          else
            S0.1 8 p.toNatClampNeg (((w - (10 : Int32))).toNatClampNeg)
      else
        if g = 0 then
          (-1 : Int32)
        else
          if (S0.1 7 p.toNatClampNeg 0) = 0 then
            (0 : Int32)
          else
            if g = 0 then
              let r11 := k_T_tell S0 p.toNatClampNeg w
              r11
            else
              S0.1 8 p.toNatClampNeg (((w - (10 : Int32))).toNatClampNeg)
set_option maxHeartbeats 4000000 in
set_option maxRecDepth 100000 in
theorem c_K_process_J18 {l : Launch} {D : va_G} {cI cT cS : ClassId} {ad : Nat → Nat} {p_ : Program} {e_ : Env} {s_ : State} {m_ : MethodId} {args : Array Value} {below : List Frame} {meth : Method} {c_ : Code} {sz : Nat} (hinj : wl_inj 83 ad) (X : wl_X p_ s_ m_ args c_ b_K_process R_K TT D classes (kw_ty cI cT cS) 83 ad (wl_A 83 ad s_.heap.size)) (hsz : s_.heap.size = sz) (hml : c_.maxLocals = 5) (hr : meth.sig.returnType = some .int) (hlocks : meth.locks = false) :
    ∀ (p : Int32) (w : Int32) (g : Int32) (S0 : kw_S) (hg : ¬ g = 0 → ¬ w < 10 ∧ ¬ (14 : Int32) ≤ w) (H : Heap) (locs : List Loc) (ls : Array Slot), lv_has ls 5 [(0, .ref (ad 0)), (1, .int p), (2, .int w), (3, .int g)] → va_P D classes (wl_W 83 ad (kw_C cI cT cS ad S0)) H → va_S (wl_A 83 ad s_.heap.size) s_.heap H locs → W p_ l e_ (rm_ 1) s_ m_ args below meth c_ H locs 0 0 (MQ below (wl_Qi D classes (kw_ty cI cT cS) 83 ad (k_K_process_J18 p w g S0) (kw_C cI cT cS ad S0) sz) args s_ 0 0 (wl_A 83 ad sz)) (F0 m_ 18 ls []) := by
  have hx := X.1
  have hb := X.2.1
  have hA : ∀ q, s_.heap.size ≤ q → (wl_A 83 ad s_.heap.size) q := fun q h => Or.inr h
  intro p w g S0 hg H locs ls hl hP hS
  refine lv_iload_n hx hb d_K_process_18 rfl (lv_at hl 1 rfl) ?_
  refine wl_goi1 (cf := kw_C cI cT cS ad) (r := k_K_isTask p) hS hA X.2.2.2.2.2.2 (wl_runS (As := [.int p]) (rest := []) X hml hl.1 hP g_TT (c_K_isTask hinj S0 p _) wv_K_82 (na := 1) (by decide +kernel) rfl ⟨Nat.le_of_ble_eq_true rfl, Nat.le_of_ble_eq_true rfl⟩ rfl (Nat.le_of_ble_eq_true rfl) d_K_process_19 ⟨Nat.le_refl _, Nat.le_refl _⟩) (fun r1 er1 H locs hP hS => ?_)
  refine lv_if_eq (tgt := 39) hx hb d_K_process_22 (by decide) (fun c2 => ?_) (fun c2 => ?_)
  · skip
    refine lv_iconst (v := -1) hx hb d_K_process_39 (by decide) ?_
    have hE : k_K_process_J18 p w g S0 = (-1 : Int32) := by
      subst er1
      exact ((if_pos c2).trans rfl)
    rw [hE]
    exact wl_iret X hsz hr hlocks hP hS d_K_process_40
  · skip
    obtain ⟨hp1, hp2⟩ := kq_isTask (fun h => c2 (er1.trans h))
    refine lv_iload_n hx hb d_K_process_25 rfl (lv_at hl 2 rfl) ?_
    refine lv_if_lt (tgt := 39) hx hb d_K_process_26 (by decide) (fun c3 => ?_) (fun c3 => ?_)
    · skip
      refine lv_iconst (v := -1) hx hb d_K_process_39 (by decide) ?_
      have hE : k_K_process_J18 p w g S0 = (-1 : Int32) := by
        subst er1
        exact ((if_neg c2).trans ((if_pos c3).trans rfl))
      rw [hE]
      exact wl_iret X hsz hr hlocks hP hS d_K_process_40
    · skip
      refine lv_iload_n hx hb d_K_process_29 rfl (lv_at hl 2 rfl) ?_
      refine lv_bipush (v := 6) hx hb d_K_process_30 (by decide) ?_
      refine lv_icmp_le (tgt := 41) hx hb d_K_process_32 (by decide) (fun c4 => ?_) (fun c4 => ?_)
      · skip
        refine lv_aload_n hx hb d_K_process_41 rfl (lv_at hl 0 rfl) ?_
        refine wl_get (v := .ref (ad 1)) X hP (i := 0) (by decide) (kw_cK ) rfl i_K 0 (by decide) lf_K_11 rfl d_K_process_42 ?_
        refine lv_iload_n hx hb d_K_process_45 rfl (lv_at hl 1 rfl) ?_
        refine wl_aald X hP (i := 1) (by decide) 1 (kw_cAT ) rfl (j := p.toNatClampNeg) hp1 (by omega) (by decide) d_K_process_46 ?_
        refine wl_topv (y := .ref (ad (7 + p.toNatClampNeg))) rfl ?_
        refine lv_astore (lv' := [(4, .ref (ad (7 + p.toNatClampNeg))), (0, .ref (ad 0)), (1, .int p), (2, .int w), (3, .int g)]) hx hb d_K_process_47 hl (by decide) rfl (fun ls hl => ?_)
        refine lv_aload hx hb d_K_process_49 (lv_at hl 0 rfl) ?_
        refine wl_get (v := .int (S0.1 7 p.toNatClampNeg 0)) X hP (i := (7 + p.toNatClampNeg)) (by omega) (kw_cT (by omega)) rfl i_T 2 (by decide) lf_K_85 rfl d_K_process_51 ?_
        refine lv_if_ne (tgt := 59) hx hb d_K_process_54 (by decide) (fun c5 => ?_) (fun c5 => ?_)
        · skip
          refine lv_iload_n hx hb d_K_process_59 rfl (lv_at hl 4 rfl) ?_
          refine lv_if_eq (tgt := 76) hx hb d_K_process_60 (by decide) (fun c6 => ?_) (fun c6 => ?_)
          · skip
            refine lv_aload hx hb d_K_process_76 (lv_at hl 0 rfl) ?_
            refine lv_iload_n hx hb d_K_process_78 rfl (lv_at hl 3 rfl) ?_
            refine wl_goi1 (cf := kw_C cI cT cS ad) (r := k_T_tell S0 p.toNatClampNeg w) hS hA X.2.2.2.2.2.2 (wl_runV (As := [.int w]) (rest := []) X hml hl.1 hP g_TT (c_T_tell hinj S0 p.toNatClampNeg (by omega) w _) (by omega) (kw_cT (by omega)) rfl wv_K_91 (na := 1) (by decide +kernel) rfl ⟨Nat.le_of_ble_eq_true rfl, Nat.le_of_ble_eq_true rfl⟩ rfl (Nat.le_of_ble_eq_true rfl) d_K_process_79 ⟨Nat.le_refl _, Nat.le_refl _⟩) (fun r7 er7 H locs hP hS => ?_)
            have hE : k_K_process_J18 p w g S0 = r7 := by
              subst er7
              subst er1
              exact ((if_neg c2).trans ((if_neg c3).trans ((if_pos c4).trans ((if_neg c5).trans ((if_pos c6).trans rfl)))))
            rw [hE]
            exact wl_iret X hsz hr hlocks hP hS d_K_process_82
          · skip
            obtain ⟨hg1, hg2⟩ := hg c6
            obtain ⟨hw1, hw2⟩ := kq_w10 hg1 hg2
            refine lv_aload hx hb d_K_process_63 (lv_at hl 0 rfl) ?_
            refine wl_get (v := .ref (ad (11 + p.toNatClampNeg))) X hP (i := (7 + p.toNatClampNeg)) (by omega) (kw_cT (by omega)) rfl i_T 0 (by decide) lf_K_88 rfl d_K_process_65 ?_
            refine lv_iload_n hx hb d_K_process_68 rfl (lv_at hl 3 rfl) ?_
            refine lv_bipush (v := 10) hx hb d_K_process_69 (by decide) ?_
            refine lv_isub hx hb d_K_process_71 ?_
            refine wl_iald X hP (i := (11 + p.toNatClampNeg)) (by omega) 0 (kw_cAR (by omega)) rfl (j := ((w - (10 : Int32))).toNatClampNeg) hw1 hw2 (by decide) d_K_process_72 ?_
            refine lv_goto (tgt := 82) hx hb d_K_process_73 (by decide) ?_
            have hE : k_K_process_J18 p w g S0 = S0.1 8 p.toNatClampNeg (((w - (10 : Int32))).toNatClampNeg) := by
              subst er1
              exact ((if_neg c2).trans ((if_neg c3).trans ((if_pos c4).trans ((if_neg c5).trans ((if_neg c6).trans rfl)))))
            rw [hE]
            exact wl_iret X hsz hr hlocks hP hS d_K_process_82
        · skip
          refine lv_iconst (v := 0) hx hb d_K_process_57 (by decide) ?_
          have hE : k_K_process_J18 p w g S0 = (0 : Int32) := by
            subst er1
            exact ((if_neg c2).trans ((if_neg c3).trans ((if_pos c4).trans ((if_pos c5).trans rfl))))
          rw [hE]
          exact wl_iret X hsz hr hlocks hP hS d_K_process_58
      · skip
        refine lv_iload_n hx hb d_K_process_35 rfl (lv_at hl 3 rfl) ?_
        refine lv_if_ne (tgt := 41) hx hb d_K_process_36 (by decide) (fun c8 => ?_) (fun c8 => ?_)
        · skip
          refine lv_aload_n hx hb d_K_process_41 rfl (lv_at hl 0 rfl) ?_
          refine wl_get (v := .ref (ad 1)) X hP (i := 0) (by decide) (kw_cK ) rfl i_K 0 (by decide) lf_K_11 rfl d_K_process_42 ?_
          refine lv_iload_n hx hb d_K_process_45 rfl (lv_at hl 1 rfl) ?_
          refine wl_aald X hP (i := 1) (by decide) 1 (kw_cAT ) rfl (j := p.toNatClampNeg) hp1 (by omega) (by decide) d_K_process_46 ?_
          refine wl_topv (y := .ref (ad (7 + p.toNatClampNeg))) rfl ?_
          refine lv_astore (lv' := [(4, .ref (ad (7 + p.toNatClampNeg))), (0, .ref (ad 0)), (1, .int p), (2, .int w), (3, .int g)]) hx hb d_K_process_47 hl (by decide) rfl (fun ls hl => ?_)
          refine lv_aload hx hb d_K_process_49 (lv_at hl 0 rfl) ?_
          refine wl_get (v := .int (S0.1 7 p.toNatClampNeg 0)) X hP (i := (7 + p.toNatClampNeg)) (by omega) (kw_cT (by omega)) rfl i_T 2 (by decide) lf_K_85 rfl d_K_process_51 ?_
          refine lv_if_ne (tgt := 59) hx hb d_K_process_54 (by decide) (fun c9 => ?_) (fun c9 => ?_)
          · skip
            refine lv_iload_n hx hb d_K_process_59 rfl (lv_at hl 4 rfl) ?_
            refine lv_if_eq (tgt := 76) hx hb d_K_process_60 (by decide) (fun c10 => ?_) (fun c10 => ?_)
            · skip
              refine lv_aload hx hb d_K_process_76 (lv_at hl 0 rfl) ?_
              refine lv_iload_n hx hb d_K_process_78 rfl (lv_at hl 3 rfl) ?_
              refine wl_goi1 (cf := kw_C cI cT cS ad) (r := k_T_tell S0 p.toNatClampNeg w) hS hA X.2.2.2.2.2.2 (wl_runV (As := [.int w]) (rest := []) X hml hl.1 hP g_TT (c_T_tell hinj S0 p.toNatClampNeg (by omega) w _) (by omega) (kw_cT (by omega)) rfl wv_K_91 (na := 1) (by decide +kernel) rfl ⟨Nat.le_of_ble_eq_true rfl, Nat.le_of_ble_eq_true rfl⟩ rfl (Nat.le_of_ble_eq_true rfl) d_K_process_79 ⟨Nat.le_refl _, Nat.le_refl _⟩) (fun r11 er11 H locs hP hS => ?_)
              have hE : k_K_process_J18 p w g S0 = r11 := by
                subst er11
                subst er1
                exact ((if_neg c2).trans ((if_neg c3).trans ((if_neg c4).trans ((if_neg c8).trans ((if_neg c9).trans ((if_pos c10).trans rfl))))))
              rw [hE]
              exact wl_iret X hsz hr hlocks hP hS d_K_process_82
            · skip
              obtain ⟨hg1, hg2⟩ := hg c10
              obtain ⟨hw1, hw2⟩ := kq_w10 hg1 hg2
              refine lv_aload hx hb d_K_process_63 (lv_at hl 0 rfl) ?_
              refine wl_get (v := .ref (ad (11 + p.toNatClampNeg))) X hP (i := (7 + p.toNatClampNeg)) (by omega) (kw_cT (by omega)) rfl i_T 0 (by decide) lf_K_88 rfl d_K_process_65 ?_
              refine lv_iload_n hx hb d_K_process_68 rfl (lv_at hl 3 rfl) ?_
              refine lv_bipush (v := 10) hx hb d_K_process_69 (by decide) ?_
              refine lv_isub hx hb d_K_process_71 ?_
              refine wl_iald X hP (i := (11 + p.toNatClampNeg)) (by omega) 0 (kw_cAR (by omega)) rfl (j := ((w - (10 : Int32))).toNatClampNeg) hw1 hw2 (by decide) d_K_process_72 ?_
              refine lv_goto (tgt := 82) hx hb d_K_process_73 (by decide) ?_
              have hE : k_K_process_J18 p w g S0 = S0.1 8 p.toNatClampNeg (((w - (10 : Int32))).toNatClampNeg) := by
                subst er1
                exact ((if_neg c2).trans ((if_neg c3).trans ((if_neg c4).trans ((if_neg c8).trans ((if_neg c9).trans ((if_neg c10).trans rfl))))))
              rw [hE]
              exact wl_iret X hsz hr hlocks hP hS d_K_process_82
          · skip
            refine lv_iconst (v := 0) hx hb d_K_process_57 (by decide) ?_
            have hE : k_K_process_J18 p w g S0 = (0 : Int32) := by
              subst er1
              exact ((if_neg c2).trans ((if_neg c3).trans ((if_neg c4).trans ((if_neg c8).trans ((if_pos c9).trans rfl)))))
            rw [hE]
            exact wl_iret X hsz hr hlocks hP hS d_K_process_58
        · skip
          refine lv_iconst (v := -1) hx hb d_K_process_39 (by decide) ?_
          have hE : k_K_process_J18 p w g S0 = (-1 : Int32) := by
            subst er1
            exact ((if_neg c2).trans ((if_neg c3).trans ((if_neg c4).trans ((if_pos c8).trans rfl))))
          rw [hE]
          exact wl_iret X hsz hr hlocks hP hS d_K_process_40
def k_K_process (S0 : kw_S) (p : Int32) (w : Int32) : Int32 :=
  if w < (10 : Int32) then
    k_K_process_J18 p w (0 : Int32) S0
  else
    if (14 : Int32) ≤ w then
      k_K_process_J18 p w (0 : Int32) S0
    else
      k_K_process_J18 p w (1 : Int32) S0
set_option maxHeartbeats 4000000 in
set_option maxRecDepth 100000 in
theorem c_K_process {l : Launch} {D : va_G} {cI cT cS : ClassId} {ad : Nat → Nat} (hinj : wl_inj 83 ad) (S0 : kw_S) (p : Int32) (w : Int32) : wl_Mi l y_K_process (Cond.code y_K_process b_K_process 5 (some .int) :: TT) (rm_ 1) D classes (kw_ty cI cT cS) 83 ad [.ref (ad 0), .int p, .int w] (kw_C cI cT cS ad S0) (k_K_process S0 p w) (kw_C cI cT cS ad S0) := by
  intro sz
  refine wl_enter (own := R_K) rfl (by decide) (Nat.le_of_ble_eq_true rfl) hinj (fun p_ e_ s_ m_ below meth c_ ls hsz X hml hr hlocks hl hP hS => ?_)
  have hx := X.1
  have hb := X.2.1
  have hA : ∀ q, s_.heap.size ≤ q → (wl_A 83 ad s_.heap.size) q := fun q h => Or.inr h
  have hl : lv_has ls 5 [(0, .ref (ad 0)), (1, .int p), (2, .int w)] := hl
  refine lv_iload_n hx hb d_K_process_0 rfl (lv_at hl 2 rfl) ?_
  refine lv_bipush (v := 10) hx hb d_K_process_1 (by decide) ?_
  refine lv_icmp_lt (tgt := 16) hx hb d_K_process_3 (by decide) (fun c1 => ?_) (fun c1 => ?_)
  · skip
    refine lv_iconst (v := 0) hx hb d_K_process_16 (by decide) ?_
    refine lv_istore_n (lv' := [(3, .int (0 : Int32)), (0, .ref (ad 0)), (1, .int p), (2, .int w)]) hx hb d_K_process_17 rfl hl (by decide) rfl (fun ls hl => ?_)
    have hE : k_K_process S0 p w = k_K_process_J18 p w (0 : Int32) S0 := by
      exact ((if_pos c1).trans rfl)
    rw [hE]
    exact c_K_process_J18 hinj X hsz hml hr hlocks p w (0 : Int32) S0 (by first | exact fun h => absurd rfl h | exact fun _ => ⟨$c2, c1⟩) _ _ _ (lv_sub hl [1, 2, 3, 0] rfl) hP hS
  · skip
    refine lv_iload_n hx hb d_K_process_6 rfl (lv_at hl 2 rfl) ?_
    refine lv_bipush (v := 14) hx hb d_K_process_7 (by decide) ?_
    refine lv_icmp_ge (tgt := 16) hx hb d_K_process_9 (by decide) (fun c2 => ?_) (fun c2 => ?_)
    · skip
      refine lv_iconst (v := 0) hx hb d_K_process_16 (by decide) ?_
      refine lv_istore_n (lv' := [(3, .int (0 : Int32)), (0, .ref (ad 0)), (1, .int p), (2, .int w)]) hx hb d_K_process_17 rfl hl (by decide) rfl (fun ls hl => ?_)
      have hE : k_K_process S0 p w = k_K_process_J18 p w (0 : Int32) S0 := by
        exact ((if_neg c1).trans ((if_pos c2).trans rfl))
      rw [hE]
      exact c_K_process_J18 hinj X hsz hml hr hlocks p w (0 : Int32) S0 (by first | exact fun h => absurd rfl h | exact fun _ => ⟨c1, c2⟩) _ _ _ (lv_sub hl [1, 2, 3, 0] rfl) hP hS
    · skip
      refine lv_iconst (v := 1) hx hb d_K_process_12 (by decide) ?_
      refine lv_goto (tgt := 17) hx hb d_K_process_13 (by decide) ?_
      refine lv_istore_n (lv' := [(3, .int (1 : Int32)), (0, .ref (ad 0)), (1, .int p), (2, .int w)]) hx hb d_K_process_17 rfl hl (by decide) rfl (fun ls hl => ?_)
      have hE : k_K_process S0 p w = k_K_process_J18 p w (1 : Int32) S0 := by
        exact ((if_neg c1).trans ((if_neg c2).trans rfl))
      rw [hE]
      exact c_K_process_J18 hinj X hsz hml hr hlocks p w (1 : Int32) S0 (by first | exact fun h => absurd rfl h | exact fun _ => ⟨c1, c2⟩) _ _ _ (lv_sub hl [1, 2, 3, 0] rfl) hP hS
end
section
def kw_T3 (S : kw_S) : Int32 × kw_S := k_K_giveTurn (k_K_wakeSleepers (kw_si S 0 0 0 (S.1 0 0 0 + (1 : Int32))))
/-- what n ticks need: whoever does an instruction has room for a print, and the frames know their sheets -/
def kw_RI : Nat → kw_S → Prop
  | 0, _ => True
  | n + 1, S => if (kw_T3 S).1 = 0 then kw_RI n (kw_si (kw_T3 S).2 0 0 1 ((kw_T3 S).2.1 0 0 1 + (1 : Int32))) else (((kw_T3 S).2.2 0 0 0 < 2 ^ 30 ∧ kw_FI (kw_T3 S).2) ∧ kw_RI n (k_K_doInstruction (kw_T3 S).2 ((kw_T3 S).2.2 0 0 1 % 4)))
theorem kw_RI_i {n : Nat} {S : kw_S} (h : kw_RI (n + 1) S) (c : (kw_T3 S).1 = 0) : kw_RI n (kw_si (kw_T3 S).2 0 0 1 ((kw_T3 S).2.1 0 0 1 + (1 : Int32))) := by
  unfold kw_RI at h
  rw [if_pos c] at h
  exact h
theorem kw_RI_b {n : Nat} {S : kw_S} (h : kw_RI (n + 1) S) (c : ¬ (kw_T3 S).1 = 0) : ((kw_T3 S).2.2 0 0 0 < 2 ^ 30 ∧ kw_FI (kw_T3 S).2) ∧ kw_RI n (k_K_doInstruction (kw_T3 S).2 ((kw_T3 S).2.2 0 0 1 % 4)) := by
  unfold kw_RI at h
  rw [if_neg c] at h
  exact h
theorem kq_run {n : Int32} (h0 : ¬ n < 1) (h1 : n ≤ 40) : n = nI n.toNatClampNeg ∧ n.toNatClampNeg < 41 := by
  have a0 : ¬ n < 0 := fun h => h0 (Int32.lt_trans h (by decide))
  have a1 : ¬ nI 41 ≤ n := fun h => absurd (Int32.le_trans h h1) (by decide)
  exact sk_rng 41 a0 a1 (by decide)
def k_K_run_L17 : Nat → Nat → Nat → Int32 → kw_S → Int32 × kw_S
  | 0, i, n, b, S0 =>
    (b, S0)
  | i_n + 1, i, n, b, S0 =>
    let S102 := kw_si S0 0 0 0 ((S0.1 0 0 0) + (1 : Int32))
    let S103 := k_K_wakeSleepers S102
    let r104 := (k_K_giveTurn S103).1
    let S105 := (k_K_giveTurn S103).2
    if r104 = 0 then
      let S107 := kw_si S105 0 0 1 ((S105.1 0 0 1) + (1 : Int32))
      k_K_run_L17 i_n (i + 1) n b S107
    else
      let S108 := k_K_doInstruction S105 ((S105.2 0 0 1) % 4)
      let x109 := b + Int32.ofInt (1)
      k_K_run_L17 i_n (i + 1) n x109 S108
set_option maxHeartbeats 4000000 in
set_option maxRecDepth 100000 in
theorem c_K_run_L17 {l : Launch} {D : va_G} {cI cT cS : ClassId} {ad : Nat → Nat} {p_ : Program} {e_ : Env} {s_ : State} {m_ : MethodId} {args : Array Value} {below : List Frame} {meth : Method} {c_ : Code} {sz : Nat} (hinj : wl_inj 83 ad) (X : wl_X p_ s_ m_ args c_ b_K_run R_K TT D classes (kw_ty cI cT cS) 83 ad (wl_A 83 ad s_.heap.size)) (hsz : s_.heap.size = sz) (hml : c_.maxLocals = 4) (hr : meth.sig.returnType = some .int) (hlocks : meth.locks = false) :
    ∀ (i_n i : Nat) (x_n : Int32) (n : Nat) (e_n : x_n = nI n) (h_n : n < 41) (b : Int32) (S0 : kw_S) (h_i : i + i_n = n) (hK : kw_RI i_n S0) (H : Heap) (locs : List Loc) (ls : Array Slot), lv_has ls 4 [(0, .ref (ad 0)), (1, .int x_n), (2, .int b), (3, .int (nI i))] → va_P D classes (wl_W 83 ad (kw_C cI cT cS ad S0)) H → va_S (wl_A 83 ad s_.heap.size) s_.heap H locs → W p_ l e_ (rm_ 7) s_ m_ args below meth c_ H locs 0 0 (MQ below (wl_Qi D classes (kw_ty cI cT cS) 83 ad ((k_K_run_L17 i_n i n b S0).1) (kw_C cI cT cS ad ((k_K_run_L17 i_n i n b S0).2)) sz) args s_ 0 0 (wl_A 83 ad sz)) (F0 m_ 17 ls []) := by
  have hx := X.1
  have hb := X.2.1
  have hA : ∀ q, s_.heap.size ≤ q → (wl_A 83 ad s_.heap.size) q := fun q h => Or.inr h
  intro i_n
  induction i_n with
  | zero =>
    intro i x_n n e_n h_n b S0 h_i hK H locs ls hl hP hS
    subst e_n
    refine lv_iload_n hx hb d_K_run_17 rfl (lv_at hl 3 rfl) ?_
    refine lv_iload_n hx hb d_K_run_18 rfl (lv_at hl 1 rfl) ?_
    refine lv_icmp_ge (tgt := 73) hx hb d_K_run_19 (by decide) (fun c1 => ?_) (fun c1 => ?_)
    · skip
      refine lv_iload_n hx hb d_K_run_73 rfl (lv_at hl 2 rfl) ?_
      have hE : k_K_run_L17 0 i n b S0 = (b, S0) := by
        exact rfl
      rw [hE]
      exact wl_iret X hsz hr hlocks hP hS d_K_run_74
    · exact absurd (sk_lhz h_i (by omega)) c1
  | succ i_n ih =>
    intro i x_n n e_n h_n b S0 h_i hK H locs ls hl hP hS
    subst e_n
    refine lv_iload_n hx hb d_K_run_17 rfl (lv_at hl 3 rfl) ?_
    refine lv_iload_n hx hb d_K_run_18 rfl (lv_at hl 1 rfl) ?_
    refine lv_icmp_ge (tgt := 73) hx hb d_K_run_19 (by decide) (fun c101 => ?_) (fun c101 => ?_)
    · exact absurd c101 (sk_lhs h_i (by omega))
    · skip
      refine lv_aload_n hx hb d_K_run_22 rfl (lv_at hl 0 rfl) ?_
      refine lv_dup hx hb d_K_run_23 rfl ?_
      refine wl_get (v := .int (S0.1 0 0 0)) X hP (i := 0) (by decide) (kw_cK ) rfl i_K 4 (by decide) lf_K_66 rfl d_K_run_24 ?_
      refine lv_iconst (v := 1) hx hb d_K_run_27 (by decide) ?_
      refine lv_iadd hx hb d_K_run_28 ?_
      refine wl_put X hP hS (i := 0) (by decide) (kw_cK ) rfl i_K ft_K ft_K_ok fn_K 4 (by decide) lf_K_66 rfl rfl rfl (Nat.le_of_ble_eq_true rfl) d_K_run_29 (kw_pK_time ) (fun H locs hP hS => ?_)
      obtain ⟨S102, eS102⟩ : ∃ z, z = kw_si S0 0 0 0 ((S0.1 0 0 0) + (1 : Int32)) := ⟨_, rfl⟩
      rw [← eS102] at hP
      refine lv_aload_n hx hb d_K_run_32 rfl (lv_at hl 0 rfl) ?_
      refine wl_gov2 (cf := kw_C cI cT cS ad) (S2 := k_K_wakeSleepers S102) hS hA X.2.2.2.2.2.2 (wl_runV (As := []) (rest := []) X hml hl.1 hP g_TT (c_K_wakeSleepers hinj S102 _) (by decide) (kw_cK ) rfl wv_K_69 (na := 0) (by decide +kernel) rfl ⟨Nat.le_of_ble_eq_true rfl, Nat.le_of_ble_eq_true rfl⟩ rfl (Nat.le_of_ble_eq_true rfl) d_K_run_33 ⟨Nat.le_refl _, Nat.le_refl _⟩) (fun S103 eS103 H locs hP hS => ?_)
      refine lv_aload_n hx hb d_K_run_36 rfl (lv_at hl 0 rfl) ?_
      refine wl_goi2 (cf := kw_C cI cT cS ad) (res := k_K_giveTurn S103) hS hA X.2.2.2.2.2.2 (wl_runV (As := []) (rest := []) X hml hl.1 hP g_TT (c_K_giveTurn hinj S103 _) (by decide) (kw_cK ) rfl wv_K_72 (na := 0) (by decide +kernel) rfl ⟨Nat.le_of_ble_eq_true rfl, Nat.le_of_ble_eq_true rfl⟩ rfl (Nat.le_of_ble_eq_true rfl) d_K_run_37 ⟨Nat.le_refl _, Nat.le_refl _⟩) (fun r104 S105 er104 eS105 H locs hP hS => ?_)
      refine lv_if_eq (tgt := 57) hx hb d_K_run_40 (by decide) (fun c106 => ?_) (fun c106 => ?_)
      · skip
        have hK3 : kw_RI i_n (kw_si S105 0 0 1 (S105.1 0 0 1 + (1 : Int32))) := by
          have h9 := er104.symm.trans c106
          clear c106
          subst_vars
          exact kw_RI_i hK h9
        refine lv_aload_n hx hb d_K_run_57 rfl (lv_at hl 0 rfl) ?_
        refine lv_dup hx hb d_K_run_58 rfl ?_
        refine wl_get (v := .int (S105.1 0 0 1)) X hP (i := 0) (by decide) (kw_cK ) rfl i_K 5 (by decide) lf_K_79 rfl d_K_run_59 ?_
        refine lv_iconst (v := 1) hx hb d_K_run_62 (by decide) ?_
        refine lv_iadd hx hb d_K_run_63 ?_
        refine wl_put X hP hS (i := 0) (by decide) (kw_cK ) rfl i_K ft_K ft_K_ok fn_K 5 (by decide) lf_K_79 rfl rfl rfl (Nat.le_of_ble_eq_true rfl) d_K_run_64 (kw_pK_idleTicks ) (fun H locs hP hS => ?_)
        obtain ⟨S107, eS107⟩ : ∃ z, z = kw_si S105 0 0 1 ((S105.1 0 0 1) + (1 : Int32)) := ⟨_, rfl⟩
        rw [← eS107] at hP
        refine lv_iinc (v := nI (i + 1)) (lv' := [(3, .int (nI (i + 1))), (0, .ref (ad 0)), (1, .int (nI n)), (2, .int b)]) hx hb d_K_run_67 hl (k := 3) rfl (nI_1 _) (by decide) rfl (fun ls hl => ?_)
        refine lv_goto (tgt := 17) hx hb d_K_run_70 (by decide) ?_
        have hE : k_K_run_L17 (i_n + 1) i n b S0 = k_K_run_L17 i_n (i + 1) n b S107 := by
          subst eS107
          subst eS105
          subst er104
          subst eS103
          subst eS102
          exact ((if_pos c106).trans rfl)
        rw [hE]
        exact ih (i + 1) (nI n) n rfl (by omega) b S107 (by omega) (by first | (rw [eS107]; exact hK2.2) | (rw [eS107]; exact hK3)) _ _ _ (lv_sub hl [1, 2, 3, 0] rfl) hP hS
      · skip
        have hK2 : ((S105.2 0 0 0 < 2 ^ 30 ∧ kw_FI S105) ∧ kw_RI i_n (k_K_doInstruction S105 (S105.2 0 0 1 % 4))) := by
          have h9 := c106
          subst_vars
          exact kw_RI_b hK h9
        refine lv_aload_n hx hb d_K_run_43 rfl (lv_at hl 0 rfl) ?_
        refine lv_aload_n hx hb d_K_run_44 rfl (lv_at hl 0 rfl) ?_
        refine wl_get (v := .int (nI ((S105.2 0 0 1) % 4))) X hP (i := 0) (by decide) (kw_cK ) rfl i_K 7 (by decide) lf_K_26 rfl d_K_run_45 ?_
        refine wl_gov2 (cf := kw_C cI cT cS ad) (S2 := k_K_doInstruction S105 ((S105.2 0 0 1) % 4)) hS hA X.2.2.2.2.2.2 (wl_runV (As := [.int (nI ((S105.2 0 0 1) % 4))]) (rest := []) X hml hl.1 hP g_TT (c_K_doInstruction hinj S105 (nI ((S105.2 0 0 1) % 4)) ((S105.2 0 0 1) % 4) rfl (by omega) hK2.1.1 hK2.1.2 _) (by decide) (kw_cK ) rfl wv_K_76 (na := 1) (by decide +kernel) rfl ⟨Nat.le_of_ble_eq_true rfl, Nat.le_of_ble_eq_true rfl⟩ rfl (Nat.le_of_ble_eq_true rfl) d_K_run_48 ⟨Nat.le_refl _, Nat.le_refl _⟩) (fun S108 eS108 H locs hP hS => ?_)
        obtain ⟨x109, ex109⟩ : ∃ z : Int32, z = b + Int32.ofInt (1) := ⟨_, rfl⟩
        refine lv_iinc (v := x109) (lv' := [(2, .int x109), (0, .ref (ad 0)), (1, .int (nI n)), (3, .int (nI i))]) hx hb d_K_run_51 hl (k := 2) rfl (ex109.symm) (by decide) rfl (fun ls hl => ?_)
        refine lv_goto (tgt := 67) hx hb d_K_run_54 (by decide) ?_
        refine lv_iinc (v := nI (i + 1)) (lv' := [(3, .int (nI (i + 1))), (2, .int x109), (0, .ref (ad 0)), (1, .int (nI n))]) hx hb d_K_run_67 hl (k := 3) rfl (nI_1 _) (by decide) rfl (fun ls hl => ?_)
        refine lv_goto (tgt := 17) hx hb d_K_run_70 (by decide) ?_
        have hE : k_K_run_L17 (i_n + 1) i n b S0 = k_K_run_L17 i_n (i + 1) n x109 S108 := by
          subst ex109
          subst eS108
          subst eS105
          subst er104
          subst eS103
          subst eS102
          exact ((if_neg c106).trans rfl)
        rw [hE]
        exact ih (i + 1) (nI n) n rfl (by omega) x109 S108 (by omega) (by first | (rw [eS108]; exact hK2.2) | (rw [eS108]; exact hK3)) _ _ _ (lv_sub hl [2, 3, 1, 0] rfl) hP hS
def k_K_run (S0 : kw_S) (n : Int32) : Int32 × kw_S :=
  if n < (1 : Int32) then
    ((-1 : Int32), S0)
  else
    if n ≤ (40 : Int32) then
      k_K_run_L17 (n.toNatClampNeg - 0) 0 n.toNatClampNeg (0 : Int32) S0
    else
      ((-1 : Int32), S0)
set_option maxHeartbeats 4000000 in
set_option maxRecDepth 100000 in
theorem c_K_run {l : Launch} {D : va_G} {cI cT cS : ClassId} {ad : Nat → Nat} (hinj : wl_inj 83 ad) (S0 : kw_S) (n : Int32) (hK : kw_RI n.toNatClampNeg S0) : wl_Mi l y_K_run (Cond.code y_K_run b_K_run 4 (some .int) :: TT) (rm_ 7) D classes (kw_ty cI cT cS) 83 ad [.ref (ad 0), .int n] (kw_C cI cT cS ad S0) ((k_K_run S0 n).1) (kw_C cI cT cS ad ((k_K_run S0 n).2)) := by
  intro sz
  refine wl_enter (own := R_K) rfl (by decide) (Nat.le_of_ble_eq_true rfl) hinj (fun p_ e_ s_ m_ below meth c_ ls hsz X hml hr hlocks hl hP hS => ?_)
  have hx := X.1
  have hb := X.2.1
  have hA : ∀ q, s_.heap.size ≤ q → (wl_A 83 ad s_.heap.size) q := fun q h => Or.inr h
  have hl : lv_has ls 4 [(0, .ref (ad 0)), (1, .int n)] := hl
  refine lv_iload_n hx hb d_K_run_0 rfl (lv_at hl 1 rfl) ?_
  refine lv_iconst (v := 1) hx hb d_K_run_1 (by decide) ?_
  refine lv_icmp_lt (tgt := 11) hx hb d_K_run_2 (by decide) (fun c1 => ?_) (fun c1 => ?_)
  · skip
    refine lv_iconst (v := -1) hx hb d_K_run_11 (by decide) ?_
    have hE : k_K_run S0 n = ((-1 : Int32), S0) := by
      exact ((if_pos c1).trans rfl)
    rw [hE]
    exact wl_iret X hsz hr hlocks hP hS d_K_run_12
  · skip
    refine lv_iload_n hx hb d_K_run_5 rfl (lv_at hl 1 rfl) ?_
    refine lv_bipush (v := 40) hx hb d_K_run_6 (by decide) ?_
    refine lv_icmp_le (tgt := 13) hx hb d_K_run_8 (by decide) (fun c2 => ?_) (fun c2 => ?_)
    · skip
      obtain ⟨hn1, hn2⟩ := kq_run c1 c2
      refine lv_iconst (v := 0) hx hb d_K_run_13 (by decide) ?_
      refine lv_istore_n (lv' := [(2, .int (0 : Int32)), (0, .ref (ad 0)), (1, .int n)]) hx hb d_K_run_14 rfl hl (by decide) rfl (fun ls hl => ?_)
      refine lv_iconst (v := 0) hx hb d_K_run_15 (by decide) ?_
      refine lv_istore_n (lv' := [(3, .int (0 : Int32)), (2, .int (0 : Int32)), (0, .ref (ad 0)), (1, .int n)]) hx hb d_K_run_16 rfl hl (by decide) rfl (fun ls hl => ?_)
      have hE : k_K_run S0 n = k_K_run_L17 (n.toNatClampNeg - 0) 0 n.toNatClampNeg (0 : Int32) S0 := by
        exact ((if_neg c1).trans ((if_pos c2).trans rfl))
      rw [hE]
      exact c_K_run_L17 hinj X hsz hml hr hlocks (n.toNatClampNeg - 0) 0 n n.toNatClampNeg hn1 (by omega) (0 : Int32) S0 (by omega) hK _ _ _ (lv_sub hl [2, 3, 1, 0] rfl) hP hS
    · skip
      refine lv_iconst (v := -1) hx hb d_K_run_11 (by decide) ?_
      have hE : k_K_run S0 n = ((-1 : Int32), S0) := by
        exact ((if_neg c1).trans ((if_neg c2).trans rfl))
      rw [hE]
      exact wl_iret X hsz hr hlocks hP hS d_K_run_12
end
section
theorem pp_pos {c : Prop} {d : Decidable c} {a b : Prop} (h : c) (q : @ite Prop c d a b) : a := by
  rw [if_pos h] at q
  exact q
theorem pp_neg {c : Prop} {d : Decidable c} {a b : Prop} (h : ¬ c) (q : @ite Prop c d a b) : b := by
  rw [if_neg h] at q
  exact q
/-- an int that is an index -/
def in_ (x : Int32) (n : Nat) : Prop := x = nI x.toNatClampNeg ∧ x.toNatClampNeg < n
section WLZ
variable {p : Program} {l : Launch} {e : Env} {R : Room} {s : State} {m : MethodId} {args : Array Value} {below : List Frame} {meth : Method} {c : Code} {H : Heap} {locs : List Loc} {cells slots : Nat} {Q : State → Prop}
variable {cc : ByteArray} {pc : Nat} {ls : Array Slot} {rest : List Value} {D : va_G} {cl : List vw_C} {tys : List (ClassId × FieldType)} {H0 : Heap} {n : Nat} {ad : Nat → Nat} {ct ct' : Nat → va_E} {own : String} {Ts : List Cond} {A : Nat → Prop}
theorem wl_zald (X : wl_X p s m args c cc own Ts D cl tys n ad A) (hP : va_P D cl (wl_W n ad ct) H) {i : Nat} (hi : i < n) (t0 : Nat) {cA : ClassId} {len : Nat} {f : Nat → Int32} (he : ct i = .inl (cA, len, .inl f)) (ht : tys[t0]? = some (cA, .boolean)) {xj : Int32} {j : Nat} (hxj : xj = nI j) (hj : j < len) (hlen : len < 2 ^ 31) (hdg : decode cc pc = .ok (.baload, 1))
    (kk : W p l e R s m args below meth c H locs cells slots Q (F0 m (pc + 1) ls (.int (f j) :: rest))) : W p l e R s m args below meth c H locs cells slots Q (F0 m pc ls (.int xj :: .ref (ad i) :: rest)) := by
  subst hxj
  refine va_zald (D := D) (cl := cl) (ws := wl_W n ad ct) X.1 X.2.1 X.2.2.2.2.1 hP i t0 (by rw [wl_at hi, he]) ht (vp_in_nI hj hlen) hdg ?_
  rw [nI_clamp (Nat.lt_trans hj hlen)]
  exact kk
theorem wl_zast (X : wl_X p s m args c cc own Ts D cl tys n ad A) (hP : va_P D cl (wl_W n ad ct) H) (hS : va_S A H0 H locs) {i : Nat} (hi : i < n) (t0 : Nat) {cA : ClassId} {len : Nat} {f : Nat → Int32} (he : ct i = .inl (cA, len, .inl f)) (ht : tys[t0]? = some (cA, .boolean)) {xj : Int32} {j : Nat} (hxj : xj = nI j) (hj : j < len) (hlen : len < 2 ^ 31) {x : Int32} (hx : vp_nar .boolean x = x) (hdg : decode cc pc = .ok (.bastore, 1)) (hct : va_up ct i (.inl (cA, len, .inl (upd f j x))) = ct')
    (kk : ∀ (H1 : Heap) (locs1 : List Loc), va_P D cl (wl_W n ad ct') H1 → va_S A H0 H1 locs1 → W p l e R s m args below meth c H1 locs1 cells slots Q (F0 m (pc + 1) ls rest)) : W p l e R s m args below meth c H locs cells slots Q (F0 m pc ls (.int x :: .int xj :: .ref (ad i) :: rest)) := by
  subst hxj
  subst hct
  refine va_zast (D := D) (cl := cl) (ws := wl_W n ad ct) X.1 X.2.1 X.2.2.2.2.1 hP (wl_D X.2.2.2.2.2.1 X.2.2.2.2.2.2) hS i t0 (by rw [wl_at hi, he]) ht (vp_in_nI hj hlen) hdg (fun H1 locs1 h1 _ h3 => kk H1 locs1 ?_ h3)
  rw [nI_clamp (Nat.lt_trans hj hlen), wl_set hi, hx] at h1
  exact h1
end WLZ
def qw_pa (x : Nat) : Int32 := if x < 4 then nI x else -2
def qw_pg (x : Nat) : Int32 := if x < 34 then nI x else -1
abbrev qw_ty (cI cZ : ClassId) : List (ClassId × FieldType) := [(cI, .int), (cZ, .boolean)]
abbrev qw_S : Type := (Nat → Nat → Nat → Int32) × (Nat → Nat → Nat → Nat)
def qw_si (S : qw_S) (c i j : Nat) (v : Int32) : qw_S := (fun a b => if a = c ∧ b = i then (fun d => if d = j then v else S.1 a b d) else S.1 a b, S.2)
theorem qw_si_ne {S : qw_S} {c i j : Nat} {v : Int32} {a b : Nat} (h : ¬ (a = c ∧ b = i)) : (qw_si S c i j v).1 a b = S.1 a b := if_neg h
theorem qw_si_eq {S : qw_S} {c i j : Nat} {v : Int32} : (qw_si S c i j v).1 c i = fun d => if d = j then v else S.1 c i d := if_pos ⟨rfl, rfl⟩
theorem qw_si_at {S : qw_S} {c i j : Nat} {v : Int32} {a b d : Nat} : (qw_si S c i j v).1 a b d = if a = c ∧ b = i ∧ d = j then v else S.1 a b d := by
  unfold qw_si
  by_cases h : a = c ∧ b = i
  · simp only [h, and_self, if_true, true_and]
  · simp only [h, if_false]
    rw [if_neg (fun q => h ⟨q.1, q.2.1⟩)]
theorem qw_si_o {S : qw_S} {c i j : Nat} {v : Int32} : (qw_si S c i j v).2 = S.2 := rfl
def qw_sn (S : qw_S) (c i j : Nat) (v : Nat) : qw_S := (S.1, fun a b => if a = c ∧ b = i then (fun d => if d = j then v else S.2 a b d) else S.2 a b)
theorem qw_sn_ne {S : qw_S} {c i j : Nat} {v : Nat} {a b : Nat} (h : ¬ (a = c ∧ b = i)) : (qw_sn S c i j v).2 a b = S.2 a b := if_neg h
theorem qw_sn_eq {S : qw_S} {c i j : Nat} {v : Nat} : (qw_sn S c i j v).2 c i = fun d => if d = j then v else S.2 c i d := if_pos ⟨rfl, rfl⟩
theorem qw_sn_at {S : qw_S} {c i j : Nat} {v : Nat} {a b d : Nat} : (qw_sn S c i j v).2 a b d = if a = c ∧ b = i ∧ d = j then v else S.2 a b d := by
  unfold qw_sn
  by_cases h : a = c ∧ b = i
  · simp only [h, and_self, if_true, true_and]
  · simp only [h, if_false]
    rw [if_neg (fun q => h ⟨q.1, q.2.1⟩)]
theorem qw_sn_o {S : qw_S} {c i j : Nat} {v : Nat} : (qw_sn S c i j v).1 = S.1 := rfl
def qw_sr (S : qw_S) (c i : Nat) (f : Nat → Int32) : qw_S := (fun a b => if a = c ∧ b = i then f else S.1 a b, S.2)
theorem qw_sr_ne {S : qw_S} {c i : Nat} {f : Nat → Int32} {a b : Nat} (h : ¬ (a = c ∧ b = i)) : (qw_sr S c i f).1 a b = S.1 a b := if_neg h
theorem qw_sr_eq {S : qw_S} {c i : Nat} {f : Nat → Int32} : (qw_sr S c i f).1 c i = f := if_pos ⟨rfl, rfl⟩
theorem qw_sr_at {S : qw_S} {c i : Nat} {f : Nat → Int32} {a b d : Nat} : (qw_sr S c i f).1 a b d = if a = c ∧ b = i then f d else S.1 a b d := by
  unfold qw_sr
  by_cases h : a = c ∧ b = i
  · rw [if_pos h]
    exact congrFun (if_pos h) d
  · rw [if_neg h]
    exact congrFun (if_neg h) d
theorem qw_sr_o {S : qw_S} {c i : Nat} {f : Nat → Int32} : (qw_sr S c i f).2 = S.2 := rfl
def qw_co (q : Nat) : Nat := if q < 1 then 0 else if q < 2 then 1 else if q < 3 then 2 else if q < 4 then 3 else if q < 5 then 4 else if q < 6 then 5 else if q < 7 then 6 else if q < 8 then 7 else if q < 9 then 8 else if q < 10 then 9 else if q < 11 then 10 else if q < 12 then 11 else if q < 13 then 12 else if q < 14 then 13 else if q < 15 then 14 else if q < 16 then 15 else if q < 17 then 16 else 17
def qw_ix (q : Nat) : Nat := if q < 1 then q - 0 else if q < 2 then q - 1 else if q < 3 then q - 2 else if q < 4 then q - 3 else if q < 5 then q - 4 else if q < 6 then q - 5 else if q < 7 then q - 6 else if q < 8 then q - 7 else if q < 9 then q - 8 else if q < 10 then q - 9 else if q < 11 then q - 10 else if q < 12 then q - 11 else if q < 13 then q - 12 else if q < 14 then q - 13 else if q < 15 then q - 14 else if q < 16 then q - 15 else if q < 17 then q - 16 else q - 17
def qw_pl (c i : Nat) : Nat := match c with
  | 0 => 0 + i
  | 1 => 1 + i
  | 2 => 2 + i
  | 3 => 3 + i
  | 4 => 4 + i
  | 5 => 5 + i
  | 6 => 6 + i
  | 7 => 7 + i
  | 8 => 8 + i
  | 9 => 9 + i
  | 10 => 10 + i
  | 11 => 11 + i
  | 12 => 12 + i
  | 13 => 13 + i
  | 14 => 14 + i
  | 15 => 15 + i
  | 16 => 16 + i
  | _ => 17 + i
theorem qw_plc (q : Nat) : qw_pl (qw_co q) (qw_ix q) = q := by
  unfold qw_co qw_ix
  by_cases h0 : q < 1
  · rw [if_pos h0, if_pos h0]
    show 0 + (q - 0) = q
    omega
  rw [if_neg h0, if_neg h0]
  by_cases h1 : q < 2
  · rw [if_pos h1, if_pos h1]
    show 1 + (q - 1) = q
    omega
  rw [if_neg h1, if_neg h1]
  by_cases h2 : q < 3
  · rw [if_pos h2, if_pos h2]
    show 2 + (q - 2) = q
    omega
  rw [if_neg h2, if_neg h2]
  by_cases h3 : q < 4
  · rw [if_pos h3, if_pos h3]
    show 3 + (q - 3) = q
    omega
  rw [if_neg h3, if_neg h3]
  by_cases h4 : q < 5
  · rw [if_pos h4, if_pos h4]
    show 4 + (q - 4) = q
    omega
  rw [if_neg h4, if_neg h4]
  by_cases h5 : q < 6
  · rw [if_pos h5, if_pos h5]
    show 5 + (q - 5) = q
    omega
  rw [if_neg h5, if_neg h5]
  by_cases h6 : q < 7
  · rw [if_pos h6, if_pos h6]
    show 6 + (q - 6) = q
    omega
  rw [if_neg h6, if_neg h6]
  by_cases h7 : q < 8
  · rw [if_pos h7, if_pos h7]
    show 7 + (q - 7) = q
    omega
  rw [if_neg h7, if_neg h7]
  by_cases h8 : q < 9
  · rw [if_pos h8, if_pos h8]
    show 8 + (q - 8) = q
    omega
  rw [if_neg h8, if_neg h8]
  by_cases h9 : q < 10
  · rw [if_pos h9, if_pos h9]
    show 9 + (q - 9) = q
    omega
  rw [if_neg h9, if_neg h9]
  by_cases h10 : q < 11
  · rw [if_pos h10, if_pos h10]
    show 10 + (q - 10) = q
    omega
  rw [if_neg h10, if_neg h10]
  by_cases h11 : q < 12
  · rw [if_pos h11, if_pos h11]
    show 11 + (q - 11) = q
    omega
  rw [if_neg h11, if_neg h11]
  by_cases h12 : q < 13
  · rw [if_pos h12, if_pos h12]
    show 12 + (q - 12) = q
    omega
  rw [if_neg h12, if_neg h12]
  by_cases h13 : q < 14
  · rw [if_pos h13, if_pos h13]
    show 13 + (q - 13) = q
    omega
  rw [if_neg h13, if_neg h13]
  by_cases h14 : q < 15
  · rw [if_pos h14, if_pos h14]
    show 14 + (q - 14) = q
    omega
  rw [if_neg h14, if_neg h14]
  by_cases h15 : q < 16
  · rw [if_pos h15, if_pos h15]
    show 15 + (q - 15) = q
    omega
  rw [if_neg h15, if_neg h15]
  by_cases h16 : q < 17
  · rw [if_pos h16, if_pos h16]
    show 16 + (q - 16) = q
    omega
  rw [if_neg h16, if_neg h16]
  show 17 + (q - 17) = q
  omega
theorem qw_inj {q r : Nat} (h1 : qw_co q = qw_co r) (h2 : qw_ix q = qw_ix r) : q = r := by
  rw [← qw_plc q, ← qw_plc r, h1, h2]
def qw_cell (cI cZ : ClassId) (ad : Nat → Nat) (c i : Nat) (f : Nat → Int32) (g : Nat → Nat) : va_E := match c with
  | 0 => .inr (4, [.ref (ad 1), .ref (ad 2), .ref (ad 3), .ref (ad 4), .ref (ad 5), .ref (ad 6), .ref (ad 7), .ref (ad 8), .ref (ad 9), .ref (ad 10), .ref (ad 11), .ref (ad 12), .ref (ad 13), .ref (ad 14), .ref (ad 15), .ref (ad 16), .ref (ad 17), .int (f 0), .int (nI ((g 0) % 4)), .int (f 1), .int (nI ((g 1) % 6)), .int (nI (g 2)), .int (f 2)])
  | 1 => .inl (cI, 4, .inl (f))
  | 2 => .inl (cI, 4, .inl (f))
  | 3 => .inl (cI, 4, .inl (fun j => qw_pa (g j)))
  | 4 => .inl (cI, 4, .inl (f))
  | 5 => .inl (cI, 4, .inl (f))
  | 6 => .inl (cI, 4, .inl (f))
  | 7 => .inl (cI, 4, .inl (f))
  | 8 => .inl (cI, 16, .inl (f))
  | 9 => .inl (cI, 32, .inl (fun j => qw_pg (g j)))
  | 10 => .inl (cZ, 34, .inl (f))
  | 11 => .inl (cZ, 34, .inl (f))
  | 12 => .inl (cZ, 34, .inl (f))
  | 13 => .inl (cI, 34, .inl (f))
  | 14 => .inl (cI, 34, .inl (f))
  | 15 => .inl (cI, 272, .inl (f))
  | 16 => .inl (cI, 40, .inl (f))
  | _ => .inl (cI, 14, .inl (f))
def qw_C (cI cZ : ClassId) (ad : Nat → Nat) (S : qw_S) : Nat → va_E := fun q => qw_cell cI cZ ad (qw_co q) (qw_ix q) (S.1 (qw_co q) (qw_ix q)) (S.2 (qw_co q) (qw_ix q))
theorem qw_up {cI cZ : ClassId} {ad : Nat → Nat} {S S2 : qw_S} {q0 c i : Nat} {e : va_E} (hc : qw_co q0 = c ∧ qw_ix q0 = i) (h1 : ∀ a b, ¬ (a = c ∧ b = i) → S2.1 a b = S.1 a b) (h2 : ∀ a b, ¬ (a = c ∧ b = i) → S2.2 a b = S.2 a b) (he : e = qw_cell cI cZ ad c i (S2.1 c i) (S2.2 c i)) : va_up (qw_C cI cZ ad S) q0 e = qw_C cI cZ ad S2 := by
  funext q
  by_cases hq : q = q0
  · subst hq
    rw [va_up_self, he]
    unfold qw_C
    rw [hc.1, hc.2]
  · rw [va_up_ne _ _ hq]
    have hne : ¬ (qw_co q = c ∧ qw_ix q = i) := fun h => hq (qw_inj (h.1.trans hc.1.symm) (h.2.trans hc.2.symm))
    unfold qw_C
    rw [h1 _ _ hne, h2 _ _ hne]
theorem qw_coQ : qw_co 0 = 0 ∧ qw_ix 0 = 0 := ⟨by decide, by decide⟩
theorem qw_cQ {cI cZ : ClassId} {ad : Nat → Nat} {S : qw_S} : qw_C cI cZ ad S 0 = .inr (4, [.ref (ad 1), .ref (ad 2), .ref (ad 3), .ref (ad 4), .ref (ad 5), .ref (ad 6), .ref (ad 7), .ref (ad 8), .ref (ad 9), .ref (ad 10), .ref (ad 11), .ref (ad 12), .ref (ad 13), .ref (ad 14), .ref (ad 15), .ref (ad 16), .ref (ad 17), .int (S.1 0 0 0), .int (nI ((S.2 0 0 0) % 4)), .int (S.1 0 0 1), .int (nI ((S.2 0 0 1) % 6)), .int (nI (S.2 0 0 2)), .int (S.1 0 0 2)]) := by
  unfold qw_C
  rw [(qw_coQ).1, (qw_coQ).2]
  rfl
theorem qw_pQ_time {cI cZ : ClassId} {ad : Nat → Nat} {S : qw_S} {v : Int32} : va_up (qw_C cI cZ ad S) 0 (.inr (4, [.ref (ad 1), .ref (ad 2), .ref (ad 3), .ref (ad 4), .ref (ad 5), .ref (ad 6), .ref (ad 7), .ref (ad 8), .ref (ad 9), .ref (ad 10), .ref (ad 11), .ref (ad 12), .ref (ad 13), .ref (ad 14), .ref (ad 15), .ref (ad 16), .ref (ad 17), .int (S.1 0 0 0), .int (nI ((S.2 0 0 0) % 4)), .int (S.1 0 0 1), .int (nI ((S.2 0 0 1) % 6)), .int (nI (S.2 0 0 2)), .int (S.1 0 0 2)].set 17 (.int v))) = qw_C cI cZ ad (qw_si S 0 0 0 v) := by
  refine qw_up (qw_coQ) (fun _ _ h9 => qw_si_ne h9) (fun _ _ _ => rfl) ?_
  rw [qw_si_eq]
  rfl
theorem qw_pQ_turn {cI cZ : ClassId} {ad : Nat → Nat} {S : qw_S} {x : Nat} {v : Int32} (hv : v = nI (x % 4)) : va_up (qw_C cI cZ ad S) 0 (.inr (4, [.ref (ad 1), .ref (ad 2), .ref (ad 3), .ref (ad 4), .ref (ad 5), .ref (ad 6), .ref (ad 7), .ref (ad 8), .ref (ad 9), .ref (ad 10), .ref (ad 11), .ref (ad 12), .ref (ad 13), .ref (ad 14), .ref (ad 15), .ref (ad 16), .ref (ad 17), .int (S.1 0 0 0), .int (nI ((S.2 0 0 0) % 4)), .int (S.1 0 0 1), .int (nI ((S.2 0 0 1) % 6)), .int (nI (S.2 0 0 2)), .int (S.1 0 0 2)].set 18 (.int v))) = qw_C cI cZ ad (qw_sn S 0 0 0 x) := by
  subst hv
  refine qw_up (qw_coQ) (fun _ _ _ => rfl) (fun _ _ h9 => qw_sn_ne h9) ?_
  rw [qw_sn_eq]
  rfl
theorem qw_pQ_inTurn {cI cZ : ClassId} {ad : Nat → Nat} {S : qw_S} {v : Int32} : va_up (qw_C cI cZ ad S) 0 (.inr (4, [.ref (ad 1), .ref (ad 2), .ref (ad 3), .ref (ad 4), .ref (ad 5), .ref (ad 6), .ref (ad 7), .ref (ad 8), .ref (ad 9), .ref (ad 10), .ref (ad 11), .ref (ad 12), .ref (ad 13), .ref (ad 14), .ref (ad 15), .ref (ad 16), .ref (ad 17), .int (S.1 0 0 0), .int (nI ((S.2 0 0 0) % 4)), .int (S.1 0 0 1), .int (nI ((S.2 0 0 1) % 6)), .int (nI (S.2 0 0 2)), .int (S.1 0 0 2)].set 19 (.int v))) = qw_C cI cZ ad (qw_si S 0 0 1 v) := by
  refine qw_up (qw_coQ) (fun _ _ h9 => qw_si_ne h9) (fun _ _ _ => rfl) ?_
  rw [qw_si_eq]
  rfl
theorem qw_pQ_hand {cI cZ : ClassId} {ad : Nat → Nat} {S : qw_S} {x : Nat} {v : Int32} (hv : v = nI (x % 6)) : va_up (qw_C cI cZ ad S) 0 (.inr (4, [.ref (ad 1), .ref (ad 2), .ref (ad 3), .ref (ad 4), .ref (ad 5), .ref (ad 6), .ref (ad 7), .ref (ad 8), .ref (ad 9), .ref (ad 10), .ref (ad 11), .ref (ad 12), .ref (ad 13), .ref (ad 14), .ref (ad 15), .ref (ad 16), .ref (ad 17), .int (S.1 0 0 0), .int (nI ((S.2 0 0 0) % 4)), .int (S.1 0 0 1), .int (nI ((S.2 0 0 1) % 6)), .int (nI (S.2 0 0 2)), .int (S.1 0 0 2)].set 20 (.int v))) = qw_C cI cZ ad (qw_sn S 0 0 1 x) := by
  subst hv
  refine qw_up (qw_coQ) (fun _ _ _ => rfl) (fun _ _ h9 => qw_sn_ne h9) ?_
  rw [qw_sn_eq]
  rfl
theorem qw_pQ_print {cI cZ : ClassId} {ad : Nat → Nat} {S : qw_S} {x : Nat} {v : Int32} (hv : v = nI x) : va_up (qw_C cI cZ ad S) 0 (.inr (4, [.ref (ad 1), .ref (ad 2), .ref (ad 3), .ref (ad 4), .ref (ad 5), .ref (ad 6), .ref (ad 7), .ref (ad 8), .ref (ad 9), .ref (ad 10), .ref (ad 11), .ref (ad 12), .ref (ad 13), .ref (ad 14), .ref (ad 15), .ref (ad 16), .ref (ad 17), .int (S.1 0 0 0), .int (nI ((S.2 0 0 0) % 4)), .int (S.1 0 0 1), .int (nI ((S.2 0 0 1) % 6)), .int (nI (S.2 0 0 2)), .int (S.1 0 0 2)].set 21 (.int v))) = qw_C cI cZ ad (qw_sn S 0 0 2 x) := by
  subst hv
  refine qw_up (qw_coQ) (fun _ _ _ => rfl) (fun _ _ h9 => qw_sn_ne h9) ?_
  rw [qw_sn_eq]
  rfl
theorem qw_pQ_over {cI cZ : ClassId} {ad : Nat → Nat} {S : qw_S} {v : Int32} : va_up (qw_C cI cZ ad S) 0 (.inr (4, [.ref (ad 1), .ref (ad 2), .ref (ad 3), .ref (ad 4), .ref (ad 5), .ref (ad 6), .ref (ad 7), .ref (ad 8), .ref (ad 9), .ref (ad 10), .ref (ad 11), .ref (ad 12), .ref (ad 13), .ref (ad 14), .ref (ad 15), .ref (ad 16), .ref (ad 17), .int (S.1 0 0 0), .int (nI ((S.2 0 0 0) % 4)), .int (S.1 0 0 1), .int (nI ((S.2 0 0 1) % 6)), .int (nI (S.2 0 0 2)), .int (S.1 0 0 2)].set 22 (.int v))) = qw_C cI cZ ad (qw_si S 0 0 2 v) := by
  refine qw_up (qw_coQ) (fun _ _ h9 => qw_si_ne h9) (fun _ _ _ => rfl) ?_
  rw [qw_si_eq]
  rfl
theorem qw_costate : qw_co 1 = 1 ∧ qw_ix 1 = 0 := ⟨by decide, by decide⟩
theorem qw_cstate {cI cZ : ClassId} {ad : Nat → Nat} {S : qw_S} : qw_C cI cZ ad S 1 = .inl (cI, 4, .inl (S.1 1 0)) := by
  unfold qw_C
  rw [(qw_costate).1, (qw_costate).2]
  rfl
theorem qw_pstate {cI cZ : ClassId} {ad : Nat → Nat} {S : qw_S} {j : Nat} {v : Int32} : va_up (qw_C cI cZ ad S) 1 (.inl (cI, 4, .inl (upd (S.1 1 0) j v))) = qw_C cI cZ ad (qw_si S 1 0 j v) := by
  refine qw_up (qw_costate) (fun _ _ h9 => qw_si_ne h9) (fun _ _ _ => rfl) ?_
  rw [qw_si_eq]
  rfl
theorem qw_pfstate {cI cZ : ClassId} {ad : Nat → Nat} {S : qw_S} {f : Nat → Int32} : va_up (qw_C cI cZ ad S) 1 (.inl (cI, 4, .inl f)) = qw_C cI cZ ad (qw_sr S 1 0 f) := by
  refine qw_up (qw_costate) (fun _ _ h9 => qw_sr_ne h9) (fun _ _ _ => rfl) ?_
  rw [qw_sr_eq]
  rfl
theorem qw_coplace : qw_co 2 = 2 ∧ qw_ix 2 = 0 := ⟨by decide, by decide⟩
theorem qw_cplace {cI cZ : ClassId} {ad : Nat → Nat} {S : qw_S} : qw_C cI cZ ad S 2 = .inl (cI, 4, .inl (S.1 2 0)) := by
  unfold qw_C
  rw [(qw_coplace).1, (qw_coplace).2]
  rfl
theorem qw_pplace {cI cZ : ClassId} {ad : Nat → Nat} {S : qw_S} {j : Nat} {v : Int32} : va_up (qw_C cI cZ ad S) 2 (.inl (cI, 4, .inl (upd (S.1 2 0) j v))) = qw_C cI cZ ad (qw_si S 2 0 j v) := by
  refine qw_up (qw_coplace) (fun _ _ h9 => qw_si_ne h9) (fun _ _ _ => rfl) ?_
  rw [qw_si_eq]
  rfl
theorem qw_pfplace {cI cZ : ClassId} {ad : Nat → Nat} {S : qw_S} {f : Nat → Int32} : va_up (qw_C cI cZ ad S) 2 (.inl (cI, 4, .inl f)) = qw_C cI cZ ad (qw_sr S 2 0 f) := by
  refine qw_up (qw_coplace) (fun _ _ h9 => qw_sr_ne h9) (fun _ _ _ => rfl) ?_
  rw [qw_sr_eq]
  rfl
theorem qw_coparent : qw_co 3 = 3 ∧ qw_ix 3 = 0 := ⟨by decide, by decide⟩
theorem qw_cparent {cI cZ : ClassId} {ad : Nat → Nat} {S : qw_S} : qw_C cI cZ ad S 3 = .inl (cI, 4, .inl (fun j => qw_pa (S.2 3 0 j))) := by
  unfold qw_C
  rw [(qw_coparent).1, (qw_coparent).2]
  rfl
theorem qw_pparent {cI cZ : ClassId} {ad : Nat → Nat} {S : qw_S} {j x : Nat} {v : Int32} (hv : v = qw_pa x) : va_up (qw_C cI cZ ad S) 3 (.inl (cI, 4, .inl (upd (fun j => qw_pa (S.2 3 0 j)) j v))) = qw_C cI cZ ad (qw_sn S 3 0 j x) := by
  subst hv
  refine qw_up (qw_coparent) (fun _ _ _ => rfl) (fun _ _ h9 => qw_sn_ne h9) ?_
  rw [qw_sn_eq]
  have hf : upd (fun j => qw_pa (S.2 3 0 j)) j (qw_pa x) = fun d => qw_pa (if d = j then x else S.2 3 0 d) := by
    funext d
    unfold upd
    by_cases h9 : d = j
    · rw [if_pos h9, if_pos h9]
    · rw [if_neg h9, if_neg h9]
  rw [hf]
  rfl
theorem qw_cocode : qw_co 4 = 4 ∧ qw_ix 4 = 0 := ⟨by decide, by decide⟩
theorem qw_ccode {cI cZ : ClassId} {ad : Nat → Nat} {S : qw_S} : qw_C cI cZ ad S 4 = .inl (cI, 4, .inl (S.1 4 0)) := by
  unfold qw_C
  rw [(qw_cocode).1, (qw_cocode).2]
  rfl
theorem qw_pcode {cI cZ : ClassId} {ad : Nat → Nat} {S : qw_S} {j : Nat} {v : Int32} : va_up (qw_C cI cZ ad S) 4 (.inl (cI, 4, .inl (upd (S.1 4 0) j v))) = qw_C cI cZ ad (qw_si S 4 0 j v) := by
  refine qw_up (qw_cocode) (fun _ _ h9 => qw_si_ne h9) (fun _ _ _ => rfl) ?_
  rw [qw_si_eq]
  rfl
theorem qw_pfcode {cI cZ : ClassId} {ad : Nat → Nat} {S : qw_S} {f : Nat → Int32} : va_up (qw_C cI cZ ad S) 4 (.inl (cI, 4, .inl f)) = qw_C cI cZ ad (qw_sr S 4 0 f) := by
  refine qw_up (qw_cocode) (fun _ _ h9 => qw_sr_ne h9) (fun _ _ _ => rfl) ?_
  rw [qw_sr_eq]
  rfl
theorem qw_cowake : qw_co 5 = 5 ∧ qw_ix 5 = 0 := ⟨by decide, by decide⟩
theorem qw_cwake {cI cZ : ClassId} {ad : Nat → Nat} {S : qw_S} : qw_C cI cZ ad S 5 = .inl (cI, 4, .inl (S.1 5 0)) := by
  unfold qw_C
  rw [(qw_cowake).1, (qw_cowake).2]
  rfl
theorem qw_pwake {cI cZ : ClassId} {ad : Nat → Nat} {S : qw_S} {j : Nat} {v : Int32} : va_up (qw_C cI cZ ad S) 5 (.inl (cI, 4, .inl (upd (S.1 5 0) j v))) = qw_C cI cZ ad (qw_si S 5 0 j v) := by
  refine qw_up (qw_cowake) (fun _ _ h9 => qw_si_ne h9) (fun _ _ _ => rfl) ?_
  rw [qw_si_eq]
  rfl
theorem qw_pfwake {cI cZ : ClassId} {ad : Nat → Nat} {S : qw_S} {f : Nat → Int32} : va_up (qw_C cI cZ ad S) 5 (.inl (cI, 4, .inl f)) = qw_C cI cZ ad (qw_sr S 5 0 f) := by
  refine qw_up (qw_cowake) (fun _ _ h9 => qw_sr_ne h9) (fun _ _ _ => rfl) ?_
  rw [qw_sr_eq]
  rfl
theorem qw_cofaults : qw_co 6 = 6 ∧ qw_ix 6 = 0 := ⟨by decide, by decide⟩
theorem qw_cfaults {cI cZ : ClassId} {ad : Nat → Nat} {S : qw_S} : qw_C cI cZ ad S 6 = .inl (cI, 4, .inl (S.1 6 0)) := by
  unfold qw_C
  rw [(qw_cofaults).1, (qw_cofaults).2]
  rfl
theorem qw_pfaults {cI cZ : ClassId} {ad : Nat → Nat} {S : qw_S} {j : Nat} {v : Int32} : va_up (qw_C cI cZ ad S) 6 (.inl (cI, 4, .inl (upd (S.1 6 0) j v))) = qw_C cI cZ ad (qw_si S 6 0 j v) := by
  refine qw_up (qw_cofaults) (fun _ _ h9 => qw_si_ne h9) (fun _ _ _ => rfl) ?_
  rw [qw_si_eq]
  rfl
theorem qw_pffaults {cI cZ : ClassId} {ad : Nat → Nat} {S : qw_S} {f : Nat → Int32} : va_up (qw_C cI cZ ad S) 6 (.inl (cI, 4, .inl f)) = qw_C cI cZ ad (qw_sr S 6 0 f) := by
  refine qw_up (qw_cofaults) (fun _ _ h9 => qw_sr_ne h9) (fun _ _ _ => rfl) ?_
  rw [qw_sr_eq]
  rfl
theorem qw_cobegun : qw_co 7 = 7 ∧ qw_ix 7 = 0 := ⟨by decide, by decide⟩
theorem qw_cbegun {cI cZ : ClassId} {ad : Nat → Nat} {S : qw_S} : qw_C cI cZ ad S 7 = .inl (cI, 4, .inl (S.1 7 0)) := by
  unfold qw_C
  rw [(qw_cobegun).1, (qw_cobegun).2]
  rfl
theorem qw_pbegun {cI cZ : ClassId} {ad : Nat → Nat} {S : qw_S} {j : Nat} {v : Int32} : va_up (qw_C cI cZ ad S) 7 (.inl (cI, 4, .inl (upd (S.1 7 0) j v))) = qw_C cI cZ ad (qw_si S 7 0 j v) := by
  refine qw_up (qw_cobegun) (fun _ _ h9 => qw_si_ne h9) (fun _ _ _ => rfl) ?_
  rw [qw_si_eq]
  rfl
theorem qw_pfbegun {cI cZ : ClassId} {ad : Nat → Nat} {S : qw_S} {f : Nat → Int32} : va_up (qw_C cI cZ ad S) 7 (.inl (cI, 4, .inl f)) = qw_C cI cZ ad (qw_sr S 7 0 f) := by
  refine qw_up (qw_cobegun) (fun _ _ h9 => qw_sr_ne h9) (fun _ _ _ => rfl) ?_
  rw [qw_sr_eq]
  rfl
theorem qw_coregister : qw_co 8 = 8 ∧ qw_ix 8 = 0 := ⟨by decide, by decide⟩
theorem qw_cregister {cI cZ : ClassId} {ad : Nat → Nat} {S : qw_S} : qw_C cI cZ ad S 8 = .inl (cI, 16, .inl (S.1 8 0)) := by
  unfold qw_C
  rw [(qw_coregister).1, (qw_coregister).2]
  rfl
theorem qw_pregister {cI cZ : ClassId} {ad : Nat → Nat} {S : qw_S} {j : Nat} {v : Int32} : va_up (qw_C cI cZ ad S) 8 (.inl (cI, 16, .inl (upd (S.1 8 0) j v))) = qw_C cI cZ ad (qw_si S 8 0 j v) := by
  refine qw_up (qw_coregister) (fun _ _ h9 => qw_si_ne h9) (fun _ _ _ => rfl) ?_
  rw [qw_si_eq]
  rfl
theorem qw_pfregister {cI cZ : ClassId} {ad : Nat → Nat} {S : qw_S} {f : Nat → Int32} : va_up (qw_C cI cZ ad S) 8 (.inl (cI, 16, .inl f)) = qw_C cI cZ ad (qw_sr S 8 0 f) := by
  refine qw_up (qw_coregister) (fun _ _ h9 => qw_sr_ne h9) (fun _ _ _ => rfl) ?_
  rw [qw_sr_eq]
  rfl
theorem qw_copage : qw_co 9 = 9 ∧ qw_ix 9 = 0 := ⟨by decide, by decide⟩
theorem qw_cpage {cI cZ : ClassId} {ad : Nat → Nat} {S : qw_S} : qw_C cI cZ ad S 9 = .inl (cI, 32, .inl (fun j => qw_pg (S.2 9 0 j))) := by
  unfold qw_C
  rw [(qw_copage).1, (qw_copage).2]
  rfl
theorem qw_ppage {cI cZ : ClassId} {ad : Nat → Nat} {S : qw_S} {j x : Nat} {v : Int32} (hv : v = qw_pg x) : va_up (qw_C cI cZ ad S) 9 (.inl (cI, 32, .inl (upd (fun j => qw_pg (S.2 9 0 j)) j v))) = qw_C cI cZ ad (qw_sn S 9 0 j x) := by
  subst hv
  refine qw_up (qw_copage) (fun _ _ _ => rfl) (fun _ _ h9 => qw_sn_ne h9) ?_
  rw [qw_sn_eq]
  have hf : upd (fun j => qw_pg (S.2 9 0 j)) j (qw_pg x) = fun d => qw_pg (if d = j then x else S.2 9 0 d) := by
    funext d
    unfold upd
    by_cases h9 : d = j
    · rw [if_pos h9, if_pos h9]
    · rw [if_neg h9, if_neg h9]
  rw [hf]
  rfl
theorem qw_cois : qw_co 10 = 10 ∧ qw_ix 10 = 0 := ⟨by decide, by decide⟩
theorem qw_cis {cI cZ : ClassId} {ad : Nat → Nat} {S : qw_S} : qw_C cI cZ ad S 10 = .inl (cZ, 34, .inl (S.1 10 0)) := by
  unfold qw_C
  rw [(qw_cois).1, (qw_cois).2]
  rfl
theorem qw_pis {cI cZ : ClassId} {ad : Nat → Nat} {S : qw_S} {j : Nat} {v : Int32} : va_up (qw_C cI cZ ad S) 10 (.inl (cZ, 34, .inl (upd (S.1 10 0) j v))) = qw_C cI cZ ad (qw_si S 10 0 j v) := by
  refine qw_up (qw_cois) (fun _ _ h9 => qw_si_ne h9) (fun _ _ _ => rfl) ?_
  rw [qw_si_eq]
  rfl
theorem qw_pfis {cI cZ : ClassId} {ad : Nat → Nat} {S : qw_S} {f : Nat → Int32} : va_up (qw_C cI cZ ad S) 10 (.inl (cZ, 34, .inl f)) = qw_C cI cZ ad (qw_sr S 10 0 f) := by
  refine qw_up (qw_cois) (fun _ _ h9 => qw_sr_ne h9) (fun _ _ _ => rfl) ?_
  rw [qw_sr_eq]
  rfl
theorem qw_coused : qw_co 11 = 11 ∧ qw_ix 11 = 0 := ⟨by decide, by decide⟩
theorem qw_cused {cI cZ : ClassId} {ad : Nat → Nat} {S : qw_S} : qw_C cI cZ ad S 11 = .inl (cZ, 34, .inl (S.1 11 0)) := by
  unfold qw_C
  rw [(qw_coused).1, (qw_coused).2]
  rfl
theorem qw_pused {cI cZ : ClassId} {ad : Nat → Nat} {S : qw_S} {j : Nat} {v : Int32} : va_up (qw_C cI cZ ad S) 11 (.inl (cZ, 34, .inl (upd (S.1 11 0) j v))) = qw_C cI cZ ad (qw_si S 11 0 j v) := by
  refine qw_up (qw_coused) (fun _ _ h9 => qw_si_ne h9) (fun _ _ _ => rfl) ?_
  rw [qw_si_eq]
  rfl
theorem qw_pfused {cI cZ : ClassId} {ad : Nat → Nat} {S : qw_S} {f : Nat → Int32} : va_up (qw_C cI cZ ad S) 11 (.inl (cZ, 34, .inl f)) = qw_C cI cZ ad (qw_sr S 11 0 f) := by
  refine qw_up (qw_coused) (fun _ _ h9 => qw_sr_ne h9) (fun _ _ _ => rfl) ?_
  rw [qw_sr_eq]
  rfl
theorem qw_cochanged : qw_co 12 = 12 ∧ qw_ix 12 = 0 := ⟨by decide, by decide⟩
theorem qw_cchanged {cI cZ : ClassId} {ad : Nat → Nat} {S : qw_S} : qw_C cI cZ ad S 12 = .inl (cZ, 34, .inl (S.1 12 0)) := by
  unfold qw_C
  rw [(qw_cochanged).1, (qw_cochanged).2]
  rfl
theorem qw_pchanged {cI cZ : ClassId} {ad : Nat → Nat} {S : qw_S} {j : Nat} {v : Int32} : va_up (qw_C cI cZ ad S) 12 (.inl (cZ, 34, .inl (upd (S.1 12 0) j v))) = qw_C cI cZ ad (qw_si S 12 0 j v) := by
  refine qw_up (qw_cochanged) (fun _ _ h9 => qw_si_ne h9) (fun _ _ _ => rfl) ?_
  rw [qw_si_eq]
  rfl
theorem qw_pfchanged {cI cZ : ClassId} {ad : Nat → Nat} {S : qw_S} {f : Nat → Int32} : va_up (qw_C cI cZ ad S) 12 (.inl (cZ, 34, .inl f)) = qw_C cI cZ ad (qw_sr S 12 0 f) := by
  refine qw_up (qw_cochanged) (fun _ _ h9 => qw_sr_ne h9) (fun _ _ _ => rfl) ?_
  rw [qw_sr_eq]
  rfl
theorem qw_coframe : qw_co 13 = 13 ∧ qw_ix 13 = 0 := ⟨by decide, by decide⟩
theorem qw_cframe {cI cZ : ClassId} {ad : Nat → Nat} {S : qw_S} : qw_C cI cZ ad S 13 = .inl (cI, 34, .inl (S.1 13 0)) := by
  unfold qw_C
  rw [(qw_coframe).1, (qw_coframe).2]
  rfl
theorem qw_pframe {cI cZ : ClassId} {ad : Nat → Nat} {S : qw_S} {j : Nat} {v : Int32} : va_up (qw_C cI cZ ad S) 13 (.inl (cI, 34, .inl (upd (S.1 13 0) j v))) = qw_C cI cZ ad (qw_si S 13 0 j v) := by
  refine qw_up (qw_coframe) (fun _ _ h9 => qw_si_ne h9) (fun _ _ _ => rfl) ?_
  rw [qw_si_eq]
  rfl
theorem qw_pfframe {cI cZ : ClassId} {ad : Nat → Nat} {S : qw_S} {f : Nat → Int32} : va_up (qw_C cI cZ ad S) 13 (.inl (cI, 34, .inl f)) = qw_C cI cZ ad (qw_sr S 13 0 f) := by
  refine qw_up (qw_coframe) (fun _ _ h9 => qw_sr_ne h9) (fun _ _ _ => rfl) ?_
  rw [qw_sr_eq]
  rfl
theorem qw_coslot : qw_co 14 = 14 ∧ qw_ix 14 = 0 := ⟨by decide, by decide⟩
theorem qw_cslot {cI cZ : ClassId} {ad : Nat → Nat} {S : qw_S} : qw_C cI cZ ad S 14 = .inl (cI, 34, .inl (S.1 14 0)) := by
  unfold qw_C
  rw [(qw_coslot).1, (qw_coslot).2]
  rfl
theorem qw_pslot {cI cZ : ClassId} {ad : Nat → Nat} {S : qw_S} {j : Nat} {v : Int32} : va_up (qw_C cI cZ ad S) 14 (.inl (cI, 34, .inl (upd (S.1 14 0) j v))) = qw_C cI cZ ad (qw_si S 14 0 j v) := by
  refine qw_up (qw_coslot) (fun _ _ h9 => qw_si_ne h9) (fun _ _ _ => rfl) ?_
  rw [qw_si_eq]
  rfl
theorem qw_pfslot {cI cZ : ClassId} {ad : Nat → Nat} {S : qw_S} {f : Nat → Int32} : va_up (qw_C cI cZ ad S) 14 (.inl (cI, 34, .inl f)) = qw_C cI cZ ad (qw_sr S 14 0 f) := by
  refine qw_up (qw_coslot) (fun _ _ h9 => qw_sr_ne h9) (fun _ _ _ => rfl) ?_
  rw [qw_sr_eq]
  rfl
theorem qw_coword : qw_co 15 = 15 ∧ qw_ix 15 = 0 := ⟨by decide, by decide⟩
theorem qw_cword {cI cZ : ClassId} {ad : Nat → Nat} {S : qw_S} : qw_C cI cZ ad S 15 = .inl (cI, 272, .inl (S.1 15 0)) := by
  unfold qw_C
  rw [(qw_coword).1, (qw_coword).2]
  rfl
theorem qw_pword {cI cZ : ClassId} {ad : Nat → Nat} {S : qw_S} {j : Nat} {v : Int32} : va_up (qw_C cI cZ ad S) 15 (.inl (cI, 272, .inl (upd (S.1 15 0) j v))) = qw_C cI cZ ad (qw_si S 15 0 j v) := by
  refine qw_up (qw_coword) (fun _ _ h9 => qw_si_ne h9) (fun _ _ _ => rfl) ?_
  rw [qw_si_eq]
  rfl
theorem qw_pfword {cI cZ : ClassId} {ad : Nat → Nat} {S : qw_S} {f : Nat → Int32} : va_up (qw_C cI cZ ad S) 15 (.inl (cI, 272, .inl f)) = qw_C cI cZ ad (qw_sr S 15 0 f) := by
  refine qw_up (qw_coword) (fun _ _ h9 => qw_sr_ne h9) (fun _ _ _ => rfl) ?_
  rw [qw_sr_eq]
  rfl
theorem qw_cooutput : qw_co 16 = 16 ∧ qw_ix 16 = 0 := ⟨by decide, by decide⟩
theorem qw_coutput {cI cZ : ClassId} {ad : Nat → Nat} {S : qw_S} : qw_C cI cZ ad S 16 = .inl (cI, 40, .inl (S.1 16 0)) := by
  unfold qw_C
  rw [(qw_cooutput).1, (qw_cooutput).2]
  rfl
theorem qw_poutput {cI cZ : ClassId} {ad : Nat → Nat} {S : qw_S} {j : Nat} {v : Int32} : va_up (qw_C cI cZ ad S) 16 (.inl (cI, 40, .inl (upd (S.1 16 0) j v))) = qw_C cI cZ ad (qw_si S 16 0 j v) := by
  refine qw_up (qw_cooutput) (fun _ _ h9 => qw_si_ne h9) (fun _ _ _ => rfl) ?_
  rw [qw_si_eq]
  rfl
theorem qw_pfoutput {cI cZ : ClassId} {ad : Nat → Nat} {S : qw_S} {f : Nat → Int32} : va_up (qw_C cI cZ ad S) 16 (.inl (cI, 40, .inl f)) = qw_C cI cZ ad (qw_sr S 16 0 f) := by
  refine qw_up (qw_cooutput) (fun _ _ h9 => qw_sr_ne h9) (fun _ _ _ => rfl) ?_
  rw [qw_sr_eq]
  rfl
theorem qw_cocounts : qw_co 17 = 17 ∧ qw_ix 17 = 0 := ⟨by decide, by decide⟩
theorem qw_ccounts {cI cZ : ClassId} {ad : Nat → Nat} {S : qw_S} : qw_C cI cZ ad S 17 = .inl (cI, 14, .inl (S.1 17 0)) := by
  unfold qw_C
  rw [(qw_cocounts).1, (qw_cocounts).2]
  rfl
theorem qw_pcounts {cI cZ : ClassId} {ad : Nat → Nat} {S : qw_S} {j : Nat} {v : Int32} : va_up (qw_C cI cZ ad S) 17 (.inl (cI, 14, .inl (upd (S.1 17 0) j v))) = qw_C cI cZ ad (qw_si S 17 0 j v) := by
  refine qw_up (qw_cocounts) (fun _ _ h9 => qw_si_ne h9) (fun _ _ _ => rfl) ?_
  rw [qw_si_eq]
  rfl
theorem qw_pfcounts {cI cZ : ClassId} {ad : Nat → Nat} {S : qw_S} {f : Nat → Int32} : va_up (qw_C cI cZ ad S) 17 (.inl (cI, 14, .inl f)) = qw_C cI cZ ad (qw_sr S 17 0 f) := by
  refine qw_up (qw_cocounts) (fun _ _ h9 => qw_sr_ne h9) (fun _ _ _ => rfl) ?_
  rw [qw_sr_eq]
  rfl
end
section
theorem qw_pg_in {x : Nat} (h : ¬ qw_pg x < 0) : qw_pg x = nI x ∧ x < 34 := by
  by_cases h1 : x < 34
  · exact ⟨if_pos h1, h1⟩
  · have e : qw_pg x = -1 := if_neg h1
    rw [e] at h
    exact absurd (by decide) h
theorem qw_pg_lt {x : Nat} (h : x < 34) : qw_pg x = nI x ∧ x < 34 := ⟨if_pos h, h⟩
theorem qw_pg_ge {x : Nat} (h : 0 ≤ qw_pg x) : qw_pg x = nI x ∧ x < 34 := qw_pg_in (fun q => Int32.lt_irrefl (Int32.lt_of_lt_of_le q h))
theorem qw_pa_ge {x : Nat} (h : 0 ≤ qw_pa x) : qw_pa x = nI x ∧ x < 4 := by
  by_cases h1 : x < 4
  · exact ⟨if_pos h1, h1⟩
  · have e : qw_pa x = -2 := if_neg h1
    rw [e] at h
    exact absurd h (by decide)
def k_Q_in (v : Int32) (n : Int32) : Int32 :=
  if v < 0 then
    (0 : Int32)
  else
    if n ≤ v then
      (0 : Int32)
    else
      (1 : Int32)
set_option maxHeartbeats 4000000 in
set_option maxRecDepth 100000 in
theorem c_Q_in {l : Launch} {D : va_G} {cI cZ : ClassId} {ad : Nat → Nat} (hinj : wl_inj 18 ad) (S0 : qw_S) (v : Int32) (n : Int32) : wl_Mi l y_Q_in (Cond.code y_Q_in b_Q_in 2 (some .boolean) :: TT) (rm_ 0) D classes (qw_ty cI cZ) 18 ad [.int v, .int n] (qw_C cI cZ ad S0) (k_Q_in v n) (qw_C cI cZ ad S0) := by
  intro sz
  refine wl_enter (own := R_Q) rfl (by decide) (Nat.le_of_ble_eq_true rfl) hinj (fun p_ e_ s_ m_ below meth c_ ls hsz X hml hr hlocks hl hP hS => ?_)
  have hx := X.1
  have hb := X.2.1
  have hA : ∀ q, s_.heap.size ≤ q → (wl_A 18 ad s_.heap.size) q := fun q h => Or.inr h
  have hl : lv_has ls 2 [(0, .int v), (1, .int n)] := hl
  refine lv_iload_n hx hb d_Q_in_0 rfl (lv_at hl 0 rfl) ?_
  refine lv_if_lt (tgt := 13) hx hb d_Q_in_1 (by decide) (fun c1 => ?_) (fun c1 => ?_)
  · skip
    refine lv_iconst (v := 0) hx hb d_Q_in_13 (by decide) ?_
    have hE : k_Q_in v n = (0 : Int32) := by
      exact ((if_pos c1).trans rfl)
    rw [hE]
    exact wl_zret X hsz hr hlocks (kq_bool (Or.inl rfl)) hP hS d_Q_in_14
  · skip
    refine lv_iload_n hx hb d_Q_in_4 rfl (lv_at hl 0 rfl) ?_
    refine lv_iload_n hx hb d_Q_in_5 rfl (lv_at hl 1 rfl) ?_
    refine lv_icmp_ge (tgt := 13) hx hb d_Q_in_6 (by decide) (fun c2 => ?_) (fun c2 => ?_)
    · skip
      refine lv_iconst (v := 0) hx hb d_Q_in_13 (by decide) ?_
      have hE : k_Q_in v n = (0 : Int32) := by
        exact ((if_neg c1).trans ((if_pos c2).trans rfl))
      rw [hE]
      exact wl_zret X hsz hr hlocks (kq_bool (Or.inl rfl)) hP hS d_Q_in_14
    · skip
      refine lv_iconst (v := 1) hx hb d_Q_in_9 (by decide) ?_
      refine lv_goto (tgt := 14) hx hb d_Q_in_10 (by decide) ?_
      have hE : k_Q_in v n = (1 : Int32) := by
        exact ((if_neg c1).trans ((if_neg c2).trans rfl))
      rw [hE]
      exact wl_zret X hsz hr hlocks (kq_bool (Or.inr rfl)) hP hS d_Q_in_14
theorem qq_in {v n : Int32} (N : Nat) (h : ¬ k_Q_in v n = 0) (hn : n = nI N) (hN : N < 2 ^ 31) : v = nI v.toNatClampNeg ∧ v.toNatClampNeg < N := by
  subst hn
  unfold k_Q_in at h
  by_cases h0 : v < 0
  · rw [if_pos h0] at h
    exact absurd rfl h
  · rw [if_neg h0] at h
    by_cases h1 : nI N ≤ v
    · rw [if_pos h1] at h
      exact absurd rfl h
    · exact sk_rng N h0 h1 hN
def k_Q_sharers_L4 : Nat → Nat → Int32 → Int32 → qw_S → Int32
  | 0, i, s, n, S0 =>
    n
  | i_n + 1, i, s, n, S0 =>
    if (qw_pg (S0.2 9 0 i)) = s then
      let x103 := n + Int32.ofInt (1)
      k_Q_sharers_L4 i_n (i + 1) s x103 S0
    else
      k_Q_sharers_L4 i_n (i + 1) s n S0
set_option maxHeartbeats 4000000 in
set_option maxRecDepth 100000 in
theorem c_Q_sharers_L4 {l : Launch} {D : va_G} {cI cZ : ClassId} {ad : Nat → Nat} {p_ : Program} {e_ : Env} {s_ : State} {m_ : MethodId} {args : Array Value} {below : List Frame} {meth : Method} {c_ : Code} {sz : Nat} (hinj : wl_inj 18 ad) (X : wl_X p_ s_ m_ args c_ b_Q_sharers R_Q TT D classes (qw_ty cI cZ) 18 ad (wl_A 18 ad s_.heap.size)) (hsz : s_.heap.size = sz) (hml : c_.maxLocals = 4) (hr : meth.sig.returnType = some .int) (hlocks : meth.locks = false) :
    ∀ (i_n i : Nat) (s : Int32) (n : Int32) (S0 : qw_S) (h_i : i + i_n = 32) (H : Heap) (locs : List Loc) (ls : Array Slot), lv_has ls 4 [(0, .ref (ad 0)), (1, .int s), (2, .int n), (3, .int (nI i))] → va_P D classes (wl_W 18 ad (qw_C cI cZ ad S0)) H → va_S (wl_A 18 ad s_.heap.size) s_.heap H locs → W p_ l e_ (rm_ 0) s_ m_ args below meth c_ H locs 0 0 (MQ below (wl_Qi D classes (qw_ty cI cZ) 18 ad (k_Q_sharers_L4 i_n i s n S0) (qw_C cI cZ ad S0) sz) args s_ 0 0 (wl_A 18 ad sz)) (F0 m_ 4 ls []) := by
  have hx := X.1
  have hb := X.2.1
  have hA : ∀ q, s_.heap.size ≤ q → (wl_A 18 ad s_.heap.size) q := fun q h => Or.inr h
  intro i_n
  induction i_n with
  | zero =>
    intro i s n S0 h_i H locs ls hl hP hS
    refine lv_iload_n hx hb d_Q_sharers_4 rfl (lv_at hl 3 rfl) ?_
    refine lv_bipush (v := 32) hx hb d_Q_sharers_5 (by decide) ?_
    refine lv_icmp_ge (tgt := 29) hx hb d_Q_sharers_7 (by decide) (fun c1 => ?_) (fun c1 => ?_)
    · skip
      refine lv_iload_n hx hb d_Q_sharers_29 rfl (lv_at hl 2 rfl) ?_
      have hE : k_Q_sharers_L4 0 i s n S0 = n := by
        exact rfl
      rw [hE]
      exact wl_iret X hsz hr hlocks hP hS d_Q_sharers_30
    · exact absurd (sk_lhz h_i) c1
  | succ i_n ih =>
    intro i s n S0 h_i H locs ls hl hP hS
    refine lv_iload_n hx hb d_Q_sharers_4 rfl (lv_at hl 3 rfl) ?_
    refine lv_bipush (v := 32) hx hb d_Q_sharers_5 (by decide) ?_
    refine lv_icmp_ge (tgt := 29) hx hb d_Q_sharers_7 (by decide) (fun c101 => ?_) (fun c101 => ?_)
    · exact absurd c101 (sk_lhs h_i)
    · skip
      refine lv_aload_n hx hb d_Q_sharers_10 rfl (lv_at hl 0 rfl) ?_
      refine wl_get (v := .ref (ad 9)) X hP (i := 0) (by decide) (qw_cQ ) rfl i_Q 8 (by decide) lf_Q_34 rfl d_Q_sharers_11 ?_
      refine lv_iload_n hx hb d_Q_sharers_14 rfl (lv_at hl 3 rfl) ?_
      refine wl_iald X hP (i := 9) (by decide) 0 (qw_cpage ) rfl (j := i) rfl (by omega) (by decide) d_Q_sharers_15 ?_
      refine lv_iload_n hx hb d_Q_sharers_16 rfl (lv_at hl 1 rfl) ?_
      refine lv_icmp_ne (tgt := 23) hx hb d_Q_sharers_17 (by decide) (fun c102 => ?_) (fun c102 => ?_)
      · skip
        refine lv_iinc (v := nI (i + 1)) (lv' := [(3, .int (nI (i + 1))), (0, .ref (ad 0)), (1, .int s), (2, .int n)]) hx hb d_Q_sharers_23 hl (k := 3) rfl (nI_1 _) (by decide) rfl (fun ls hl => ?_)
        refine lv_goto (tgt := 4) hx hb d_Q_sharers_26 (by decide) ?_
        have hE : k_Q_sharers_L4 (i_n + 1) i s n S0 = k_Q_sharers_L4 i_n (i + 1) s n S0 := by
          exact ((if_neg c102).trans rfl)
        rw [hE]
        exact ih (i + 1) s n S0 (by omega) _ _ _ (lv_sub hl [1, 2, 3, 0] rfl) hP hS
      · skip
        obtain ⟨x103, ex103⟩ : ∃ z : Int32, z = n + Int32.ofInt (1) := ⟨_, rfl⟩
        refine lv_iinc (v := x103) (lv' := [(2, .int x103), (0, .ref (ad 0)), (1, .int s), (3, .int (nI i))]) hx hb d_Q_sharers_20 hl (k := 2) rfl (ex103.symm) (by decide) rfl (fun ls hl => ?_)
        refine lv_iinc (v := nI (i + 1)) (lv' := [(3, .int (nI (i + 1))), (2, .int x103), (0, .ref (ad 0)), (1, .int s)]) hx hb d_Q_sharers_23 hl (k := 3) rfl (nI_1 _) (by decide) rfl (fun ls hl => ?_)
        refine lv_goto (tgt := 4) hx hb d_Q_sharers_26 (by decide) ?_
        have hE : k_Q_sharers_L4 (i_n + 1) i s n S0 = k_Q_sharers_L4 i_n (i + 1) s x103 S0 := by
          subst ex103
          exact ((if_pos c102).trans rfl)
        rw [hE]
        exact ih (i + 1) s x103 S0 (by omega) _ _ _ (lv_sub hl [2, 3, 1, 0] rfl) hP hS
def k_Q_sharers (S0 : qw_S) (s : Int32) : Int32 :=
  k_Q_sharers_L4 32 0 s (0 : Int32) S0
set_option maxHeartbeats 4000000 in
set_option maxRecDepth 100000 in
theorem c_Q_sharers {l : Launch} {D : va_G} {cI cZ : ClassId} {ad : Nat → Nat} (hinj : wl_inj 18 ad) (S0 : qw_S) (s : Int32) : wl_Mi l y_Q_sharers (Cond.code y_Q_sharers b_Q_sharers 4 (some .int) :: TT) (rm_ 0) D classes (qw_ty cI cZ) 18 ad [.ref (ad 0), .int s] (qw_C cI cZ ad S0) (k_Q_sharers S0 s) (qw_C cI cZ ad S0) := by
  intro sz
  refine wl_enter (own := R_Q) rfl (by decide) (Nat.le_of_ble_eq_true rfl) hinj (fun p_ e_ s_ m_ below meth c_ ls hsz X hml hr hlocks hl hP hS => ?_)
  have hx := X.1
  have hb := X.2.1
  have hA : ∀ q, s_.heap.size ≤ q → (wl_A 18 ad s_.heap.size) q := fun q h => Or.inr h
  have hl : lv_has ls 4 [(0, .ref (ad 0)), (1, .int s)] := hl
  refine lv_iconst (v := 0) hx hb d_Q_sharers_0 (by decide) ?_
  refine lv_istore_n (lv' := [(2, .int (0 : Int32)), (0, .ref (ad 0)), (1, .int s)]) hx hb d_Q_sharers_1 rfl hl (by decide) rfl (fun ls hl => ?_)
  refine lv_iconst (v := 0) hx hb d_Q_sharers_2 (by decide) ?_
  refine lv_istore_n (lv' := [(3, .int (0 : Int32)), (2, .int (0 : Int32)), (0, .ref (ad 0)), (1, .int s)]) hx hb d_Q_sharers_3 rfl hl (by decide) rfl (fun ls hl => ?_)
  have hE : k_Q_sharers S0 s = k_Q_sharers_L4 32 0 s (0 : Int32) S0 := by
    exact rfl
  rw [hE]
  exact c_Q_sharers_L4 hinj X hsz hml hr hlocks 32 0 s (0 : Int32) S0 (by omega) _ _ _ (lv_sub hl [2, 3, 1, 0] rfl) hP hS
def k_Q_inFrame_L2 : Nat → Nat → Int32 → qw_S → Int32
  | 0, i, f, S0 =>
    (-1 : Int32)
  | i_n + 1, i, f, S0 =>
    if (S0.1 10 0 i) = 0 then
      k_Q_inFrame_L2 i_n (i + 1) f S0
    else
      if (S0.1 13 0 i) = f then
        nI i
      else
        k_Q_inFrame_L2 i_n (i + 1) f S0
set_option maxHeartbeats 4000000 in
set_option maxRecDepth 100000 in
theorem c_Q_inFrame_L2 {l : Launch} {D : va_G} {cI cZ : ClassId} {ad : Nat → Nat} {p_ : Program} {e_ : Env} {s_ : State} {m_ : MethodId} {args : Array Value} {below : List Frame} {meth : Method} {c_ : Code} {sz : Nat} (hinj : wl_inj 18 ad) (X : wl_X p_ s_ m_ args c_ b_Q_inFrame R_Q TT D classes (qw_ty cI cZ) 18 ad (wl_A 18 ad s_.heap.size)) (hsz : s_.heap.size = sz) (hml : c_.maxLocals = 3) (hr : meth.sig.returnType = some .int) (hlocks : meth.locks = false) :
    ∀ (i_n i : Nat) (f : Int32) (S0 : qw_S) (h_i : i + i_n = 34) (H : Heap) (locs : List Loc) (ls : Array Slot), lv_has ls 3 [(0, .ref (ad 0)), (1, .int f), (2, .int (nI i))] → va_P D classes (wl_W 18 ad (qw_C cI cZ ad S0)) H → va_S (wl_A 18 ad s_.heap.size) s_.heap H locs → W p_ l e_ (rm_ 0) s_ m_ args below meth c_ H locs 0 0 (MQ below (wl_Qi D classes (qw_ty cI cZ) 18 ad (k_Q_inFrame_L2 i_n i f S0) (qw_C cI cZ ad S0) sz) args s_ 0 0 (wl_A 18 ad sz)) (F0 m_ 2 ls []) := by
  have hx := X.1
  have hb := X.2.1
  have hA : ∀ q, s_.heap.size ≤ q → (wl_A 18 ad s_.heap.size) q := fun q h => Or.inr h
  intro i_n
  induction i_n with
  | zero =>
    intro i f S0 h_i H locs ls hl hP hS
    refine lv_iload_n hx hb d_Q_inFrame_2 rfl (lv_at hl 2 rfl) ?_
    refine lv_bipush (v := 34) hx hb d_Q_inFrame_3 (by decide) ?_
    refine lv_icmp_ge (tgt := 35) hx hb d_Q_inFrame_5 (by decide) (fun c1 => ?_) (fun c1 => ?_)
    · skip
      refine lv_iconst (v := -1) hx hb d_Q_inFrame_35 (by decide) ?_
      have hE : k_Q_inFrame_L2 0 i f S0 = (-1 : Int32) := by
        exact rfl
      rw [hE]
      exact wl_iret X hsz hr hlocks hP hS d_Q_inFrame_36
    · exact absurd (sk_lhz h_i) c1
  | succ i_n ih =>
    intro i f S0 h_i H locs ls hl hP hS
    refine lv_iload_n hx hb d_Q_inFrame_2 rfl (lv_at hl 2 rfl) ?_
    refine lv_bipush (v := 34) hx hb d_Q_inFrame_3 (by decide) ?_
    refine lv_icmp_ge (tgt := 35) hx hb d_Q_inFrame_5 (by decide) (fun c101 => ?_) (fun c101 => ?_)
    · exact absurd c101 (sk_lhs h_i)
    · skip
      refine lv_aload_n hx hb d_Q_inFrame_8 rfl (lv_at hl 0 rfl) ?_
      refine wl_get (v := .ref (ad 10)) X hP (i := 0) (by decide) (qw_cQ ) rfl i_Q 9 (by decide) lf_Q_37 rfl d_Q_inFrame_9 ?_
      refine lv_iload_n hx hb d_Q_inFrame_12 rfl (lv_at hl 2 rfl) ?_
      refine wl_zald X hP (i := 10) (by decide) 1 (qw_cis ) rfl (j := i) rfl (by omega) (by decide) d_Q_inFrame_13 ?_
      refine lv_if_eq (tgt := 29) hx hb d_Q_inFrame_14 (by decide) (fun c102 => ?_) (fun c102 => ?_)
      · skip
        refine lv_iinc (v := nI (i + 1)) (lv' := [(2, .int (nI (i + 1))), (0, .ref (ad 0)), (1, .int f)]) hx hb d_Q_inFrame_29 hl (k := 2) rfl (nI_1 _) (by decide) rfl (fun ls hl => ?_)
        refine lv_goto (tgt := 2) hx hb d_Q_inFrame_32 (by decide) ?_
        have hE : k_Q_inFrame_L2 (i_n + 1) i f S0 = k_Q_inFrame_L2 i_n (i + 1) f S0 := by
          exact ((if_pos c102).trans rfl)
        rw [hE]
        exact ih (i + 1) f S0 (by omega) _ _ _ (lv_sub hl [1, 2, 0] rfl) hP hS
      · skip
        refine lv_aload_n hx hb d_Q_inFrame_17 rfl (lv_at hl 0 rfl) ?_
        refine wl_get (v := .ref (ad 13)) X hP (i := 0) (by decide) (qw_cQ ) rfl i_Q 12 (by decide) lf_Q_47 rfl d_Q_inFrame_18 ?_
        refine lv_iload_n hx hb d_Q_inFrame_21 rfl (lv_at hl 2 rfl) ?_
        refine wl_iald X hP (i := 13) (by decide) 0 (qw_cframe ) rfl (j := i) rfl (by omega) (by decide) d_Q_inFrame_22 ?_
        refine lv_iload_n hx hb d_Q_inFrame_23 rfl (lv_at hl 1 rfl) ?_
        refine lv_icmp_ne (tgt := 29) hx hb d_Q_inFrame_24 (by decide) (fun c103 => ?_) (fun c103 => ?_)
        · skip
          refine lv_iinc (v := nI (i + 1)) (lv' := [(2, .int (nI (i + 1))), (0, .ref (ad 0)), (1, .int f)]) hx hb d_Q_inFrame_29 hl (k := 2) rfl (nI_1 _) (by decide) rfl (fun ls hl => ?_)
          refine lv_goto (tgt := 2) hx hb d_Q_inFrame_32 (by decide) ?_
          have hE : k_Q_inFrame_L2 (i_n + 1) i f S0 = k_Q_inFrame_L2 i_n (i + 1) f S0 := by
            exact ((if_neg c102).trans ((if_neg c103).trans rfl))
          rw [hE]
          exact ih (i + 1) f S0 (by omega) _ _ _ (lv_sub hl [1, 2, 0] rfl) hP hS
        · skip
          refine lv_iload_n hx hb d_Q_inFrame_27 rfl (lv_at hl 2 rfl) ?_
          have hE : k_Q_inFrame_L2 (i_n + 1) i f S0 = nI i := by
            exact ((if_neg c102).trans ((if_pos c103).trans rfl))
          rw [hE]
          exact wl_iret X hsz hr hlocks hP hS d_Q_inFrame_28
def k_Q_inFrame (S0 : qw_S) (f : Int32) : Int32 :=
  k_Q_inFrame_L2 34 0 f S0
set_option maxHeartbeats 4000000 in
set_option maxRecDepth 100000 in
theorem c_Q_inFrame {l : Launch} {D : va_G} {cI cZ : ClassId} {ad : Nat → Nat} (hinj : wl_inj 18 ad) (S0 : qw_S) (f : Int32) : wl_Mi l y_Q_inFrame (Cond.code y_Q_inFrame b_Q_inFrame 3 (some .int) :: TT) (rm_ 0) D classes (qw_ty cI cZ) 18 ad [.ref (ad 0), .int f] (qw_C cI cZ ad S0) (k_Q_inFrame S0 f) (qw_C cI cZ ad S0) := by
  intro sz
  refine wl_enter (own := R_Q) rfl (by decide) (Nat.le_of_ble_eq_true rfl) hinj (fun p_ e_ s_ m_ below meth c_ ls hsz X hml hr hlocks hl hP hS => ?_)
  have hx := X.1
  have hb := X.2.1
  have hA : ∀ q, s_.heap.size ≤ q → (wl_A 18 ad s_.heap.size) q := fun q h => Or.inr h
  have hl : lv_has ls 3 [(0, .ref (ad 0)), (1, .int f)] := hl
  refine lv_iconst (v := 0) hx hb d_Q_inFrame_0 (by decide) ?_
  refine lv_istore_n (lv' := [(2, .int (0 : Int32)), (0, .ref (ad 0)), (1, .int f)]) hx hb d_Q_inFrame_1 rfl hl (by decide) rfl (fun ls hl => ?_)
  have hE : k_Q_inFrame S0 f = k_Q_inFrame_L2 34 0 f S0 := by
    exact rfl
  rw [hE]
  exact c_Q_inFrame_L2 hinj X hsz hml hr hlocks 34 0 f S0 (by omega) _ _ _ (lv_sub hl [1, 2, 0] rfl) hP hS
def k_Q_isSlot_L2 : Nat → Nat → Int32 → qw_S → Int32
  | 0, i, t, S0 =>
    (0 : Int32)
  | i_n + 1, i, t, S0 =>
    if (S0.1 10 0 i) = 0 then
      k_Q_isSlot_L2 i_n (i + 1) t S0
    else
      if (S0.1 14 0 i) = t then
        (1 : Int32)
      else
        k_Q_isSlot_L2 i_n (i + 1) t S0
set_option maxHeartbeats 4000000 in
set_option maxRecDepth 100000 in
theorem c_Q_isSlot_L2 {l : Launch} {D : va_G} {cI cZ : ClassId} {ad : Nat → Nat} {p_ : Program} {e_ : Env} {s_ : State} {m_ : MethodId} {args : Array Value} {below : List Frame} {meth : Method} {c_ : Code} {sz : Nat} (hinj : wl_inj 18 ad) (X : wl_X p_ s_ m_ args c_ b_Q_isSlot R_Q TT D classes (qw_ty cI cZ) 18 ad (wl_A 18 ad s_.heap.size)) (hsz : s_.heap.size = sz) (hml : c_.maxLocals = 3) (hr : meth.sig.returnType = some .boolean) (hlocks : meth.locks = false) :
    ∀ (i_n i : Nat) (t : Int32) (S0 : qw_S) (h_i : i + i_n = 34) (H : Heap) (locs : List Loc) (ls : Array Slot), lv_has ls 3 [(0, .ref (ad 0)), (1, .int t), (2, .int (nI i))] → va_P D classes (wl_W 18 ad (qw_C cI cZ ad S0)) H → va_S (wl_A 18 ad s_.heap.size) s_.heap H locs → W p_ l e_ (rm_ 0) s_ m_ args below meth c_ H locs 0 0 (MQ below (wl_Qi D classes (qw_ty cI cZ) 18 ad (k_Q_isSlot_L2 i_n i t S0) (qw_C cI cZ ad S0) sz) args s_ 0 0 (wl_A 18 ad sz)) (F0 m_ 2 ls []) := by
  have hx := X.1
  have hb := X.2.1
  have hA : ∀ q, s_.heap.size ≤ q → (wl_A 18 ad s_.heap.size) q := fun q h => Or.inr h
  intro i_n
  induction i_n with
  | zero =>
    intro i t S0 h_i H locs ls hl hP hS
    refine lv_iload_n hx hb d_Q_isSlot_2 rfl (lv_at hl 2 rfl) ?_
    refine lv_bipush (v := 34) hx hb d_Q_isSlot_3 (by decide) ?_
    refine lv_icmp_ge (tgt := 35) hx hb d_Q_isSlot_5 (by decide) (fun c1 => ?_) (fun c1 => ?_)
    · skip
      refine lv_iconst (v := 0) hx hb d_Q_isSlot_35 (by decide) ?_
      have hE : k_Q_isSlot_L2 0 i t S0 = (0 : Int32) := by
        exact rfl
      rw [hE]
      exact wl_zret X hsz hr hlocks (kq_bool (Or.inl rfl)) hP hS d_Q_isSlot_36
    · exact absurd (sk_lhz h_i) c1
  | succ i_n ih =>
    intro i t S0 h_i H locs ls hl hP hS
    refine lv_iload_n hx hb d_Q_isSlot_2 rfl (lv_at hl 2 rfl) ?_
    refine lv_bipush (v := 34) hx hb d_Q_isSlot_3 (by decide) ?_
    refine lv_icmp_ge (tgt := 35) hx hb d_Q_isSlot_5 (by decide) (fun c101 => ?_) (fun c101 => ?_)
    · exact absurd c101 (sk_lhs h_i)
    · skip
      refine lv_aload_n hx hb d_Q_isSlot_8 rfl (lv_at hl 0 rfl) ?_
      refine wl_get (v := .ref (ad 10)) X hP (i := 0) (by decide) (qw_cQ ) rfl i_Q 9 (by decide) lf_Q_37 rfl d_Q_isSlot_9 ?_
      refine lv_iload_n hx hb d_Q_isSlot_12 rfl (lv_at hl 2 rfl) ?_
      refine wl_zald X hP (i := 10) (by decide) 1 (qw_cis ) rfl (j := i) rfl (by omega) (by decide) d_Q_isSlot_13 ?_
      refine lv_if_eq (tgt := 29) hx hb d_Q_isSlot_14 (by decide) (fun c102 => ?_) (fun c102 => ?_)
      · skip
        refine lv_iinc (v := nI (i + 1)) (lv' := [(2, .int (nI (i + 1))), (0, .ref (ad 0)), (1, .int t)]) hx hb d_Q_isSlot_29 hl (k := 2) rfl (nI_1 _) (by decide) rfl (fun ls hl => ?_)
        refine lv_goto (tgt := 2) hx hb d_Q_isSlot_32 (by decide) ?_
        have hE : k_Q_isSlot_L2 (i_n + 1) i t S0 = k_Q_isSlot_L2 i_n (i + 1) t S0 := by
          exact ((if_pos c102).trans rfl)
        rw [hE]
        exact ih (i + 1) t S0 (by omega) _ _ _ (lv_sub hl [1, 2, 0] rfl) hP hS
      · skip
        refine lv_aload_n hx hb d_Q_isSlot_17 rfl (lv_at hl 0 rfl) ?_
        refine wl_get (v := .ref (ad 14)) X hP (i := 0) (by decide) (qw_cQ ) rfl i_Q 13 (by decide) lf_Q_50 rfl d_Q_isSlot_18 ?_
        refine lv_iload_n hx hb d_Q_isSlot_21 rfl (lv_at hl 2 rfl) ?_
        refine wl_iald X hP (i := 14) (by decide) 0 (qw_cslot ) rfl (j := i) rfl (by omega) (by decide) d_Q_isSlot_22 ?_
        refine lv_iload_n hx hb d_Q_isSlot_23 rfl (lv_at hl 1 rfl) ?_
        refine lv_icmp_ne (tgt := 29) hx hb d_Q_isSlot_24 (by decide) (fun c103 => ?_) (fun c103 => ?_)
        · skip
          refine lv_iinc (v := nI (i + 1)) (lv' := [(2, .int (nI (i + 1))), (0, .ref (ad 0)), (1, .int t)]) hx hb d_Q_isSlot_29 hl (k := 2) rfl (nI_1 _) (by decide) rfl (fun ls hl => ?_)
          refine lv_goto (tgt := 2) hx hb d_Q_isSlot_32 (by decide) ?_
          have hE : k_Q_isSlot_L2 (i_n + 1) i t S0 = k_Q_isSlot_L2 i_n (i + 1) t S0 := by
            exact ((if_neg c102).trans ((if_neg c103).trans rfl))
          rw [hE]
          exact ih (i + 1) t S0 (by omega) _ _ _ (lv_sub hl [1, 2, 0] rfl) hP hS
        · skip
          refine lv_iconst (v := 1) hx hb d_Q_isSlot_27 (by decide) ?_
          have hE : k_Q_isSlot_L2 (i_n + 1) i t S0 = (1 : Int32) := by
            exact ((if_neg c102).trans ((if_pos c103).trans rfl))
          rw [hE]
          exact wl_zret X hsz hr hlocks (kq_bool (Or.inr rfl)) hP hS d_Q_isSlot_28
def k_Q_isSlot (S0 : qw_S) (t : Int32) : Int32 :=
  k_Q_isSlot_L2 34 0 t S0
set_option maxHeartbeats 4000000 in
set_option maxRecDepth 100000 in
theorem c_Q_isSlot {l : Launch} {D : va_G} {cI cZ : ClassId} {ad : Nat → Nat} (hinj : wl_inj 18 ad) (S0 : qw_S) (t : Int32) : wl_Mi l y_Q_isSlot (Cond.code y_Q_isSlot b_Q_isSlot 3 (some .boolean) :: TT) (rm_ 0) D classes (qw_ty cI cZ) 18 ad [.ref (ad 0), .int t] (qw_C cI cZ ad S0) (k_Q_isSlot S0 t) (qw_C cI cZ ad S0) := by
  intro sz
  refine wl_enter (own := R_Q) rfl (by decide) (Nat.le_of_ble_eq_true rfl) hinj (fun p_ e_ s_ m_ below meth c_ ls hsz X hml hr hlocks hl hP hS => ?_)
  have hx := X.1
  have hb := X.2.1
  have hA : ∀ q, s_.heap.size ≤ q → (wl_A 18 ad s_.heap.size) q := fun q h => Or.inr h
  have hl : lv_has ls 3 [(0, .ref (ad 0)), (1, .int t)] := hl
  refine lv_iconst (v := 0) hx hb d_Q_isSlot_0 (by decide) ?_
  refine lv_istore_n (lv' := [(2, .int (0 : Int32)), (0, .ref (ad 0)), (1, .int t)]) hx hb d_Q_isSlot_1 rfl hl (by decide) rfl (fun ls hl => ?_)
  have hE : k_Q_isSlot S0 t = k_Q_isSlot_L2 34 0 t S0 := by
    exact rfl
  rw [hE]
  exact c_Q_isSlot_L2 hinj X hsz hml hr hlocks 34 0 t S0 (by omega) _ _ _ (lv_sub hl [1, 2, 0] rfl) hP hS
def k_Q_fresh_L57 : Nat → Nat → Nat → qw_S → Int32 × qw_S
  | 0, i, s, S0 =>
    (nI s, S0)
  | i_n + 1, i, s, S0 =>
    let S102 := qw_si S0 15 0 i (0 : Int32)
    k_Q_fresh_L57 i_n (i + 1) s S102
set_option maxHeartbeats 4000000 in
set_option maxRecDepth 100000 in
theorem c_Q_fresh_L57 {l : Launch} {D : va_G} {cI cZ : ClassId} {ad : Nat → Nat} {p_ : Program} {e_ : Env} {s_ : State} {m_ : MethodId} {args : Array Value} {below : List Frame} {meth : Method} {c_ : Code} {sz : Nat} (hinj : wl_inj 18 ad) (X : wl_X p_ s_ m_ args c_ b_Q_fresh R_Q TT D classes (qw_ty cI cZ) 18 ad (wl_A 18 ad s_.heap.size)) (hsz : s_.heap.size = sz) (hml : c_.maxLocals = 3) (hr : meth.sig.returnType = some .int) (hlocks : meth.locks = false) :
    ∀ (i_n i : Nat) (x_s : Int32) (s : Nat) (e_s : x_s = nI s) (h_s : s < 34) (S0 : qw_S) (h_i : i + i_n = 8 * s + 8) (H : Heap) (locs : List Loc) (ls : Array Slot), lv_has ls 3 [(0, .ref (ad 0)), (1, .int x_s), (2, .int (nI i))] → va_P D classes (wl_W 18 ad (qw_C cI cZ ad S0)) H → va_S (wl_A 18 ad s_.heap.size) s_.heap H locs → W p_ l e_ (rm_ 0) s_ m_ args below meth c_ H locs 0 0 (MQ below (wl_Qi D classes (qw_ty cI cZ) 18 ad ((k_Q_fresh_L57 i_n i s S0).1) (qw_C cI cZ ad ((k_Q_fresh_L57 i_n i s S0).2)) sz) args s_ 0 0 (wl_A 18 ad sz)) (F0 m_ 57 ls []) := by
  have hx := X.1
  have hb := X.2.1
  have hA : ∀ q, s_.heap.size ≤ q → (wl_A 18 ad s_.heap.size) q := fun q h => Or.inr h
  intro i_n
  induction i_n with
  | zero =>
    intro i x_s s e_s h_s S0 h_i H locs ls hl hP hS
    subst e_s
    refine lv_iload_n hx hb d_Q_fresh_57 rfl (lv_at hl 2 rfl) ?_
    refine lv_bipush (v := 8) hx hb d_Q_fresh_58 (by decide) ?_
    refine lv_iload_n hx hb d_Q_fresh_60 rfl (lv_at hl 1 rfl) ?_
    refine lv_imul hx hb d_Q_fresh_61 ?_
    refine lv_bipush (v := 8) hx hb d_Q_fresh_62 (by decide) ?_
    refine lv_iadd hx hb d_Q_fresh_64 ?_
    refine wl_top (y := nI ((8 * s) + 8)) ((congr (congrArg (fun (a b : Int32) => a + b) (show (8 : Int32) * (nI s) = nI (8 * s) from (show (8 : Int32) * (nI s) = nI (8 * s) from pk_mul 8 s))) (show (8 : Int32) = nI 8 from rfl)).trans (nI_add (8 * s) 8)) ?_
    refine lv_icmp_ge (tgt := 81) hx hb d_Q_fresh_65 (by decide) (fun c1 => ?_) (fun c1 => ?_)
    · skip
      refine lv_iload_n hx hb d_Q_fresh_81 rfl (lv_at hl 1 rfl) ?_
      have hE : k_Q_fresh_L57 0 i s S0 = (nI s, S0) := by
        exact rfl
      rw [hE]
      exact wl_iret X hsz hr hlocks hP hS d_Q_fresh_82
    · exact absurd (sk_lhz h_i (by omega)) c1
  | succ i_n ih =>
    intro i x_s s e_s h_s S0 h_i H locs ls hl hP hS
    subst e_s
    refine lv_iload_n hx hb d_Q_fresh_57 rfl (lv_at hl 2 rfl) ?_
    refine lv_bipush (v := 8) hx hb d_Q_fresh_58 (by decide) ?_
    refine lv_iload_n hx hb d_Q_fresh_60 rfl (lv_at hl 1 rfl) ?_
    refine lv_imul hx hb d_Q_fresh_61 ?_
    refine lv_bipush (v := 8) hx hb d_Q_fresh_62 (by decide) ?_
    refine lv_iadd hx hb d_Q_fresh_64 ?_
    refine wl_top (y := nI ((8 * s) + 8)) ((congr (congrArg (fun (a b : Int32) => a + b) (show (8 : Int32) * (nI s) = nI (8 * s) from (show (8 : Int32) * (nI s) = nI (8 * s) from pk_mul 8 s))) (show (8 : Int32) = nI 8 from rfl)).trans (nI_add (8 * s) 8)) ?_
    refine lv_icmp_ge (tgt := 81) hx hb d_Q_fresh_65 (by decide) (fun c101 => ?_) (fun c101 => ?_)
    · exact absurd c101 (sk_lhs h_i (by omega))
    · skip
      refine lv_aload_n hx hb d_Q_fresh_68 rfl (lv_at hl 0 rfl) ?_
      refine wl_get (v := .ref (ad 15)) X hP (i := 0) (by decide) (qw_cQ ) rfl i_Q 14 (by decide) lf_Q_53 rfl d_Q_fresh_69 ?_
      refine lv_iload_n hx hb d_Q_fresh_72 rfl (lv_at hl 2 rfl) ?_
      refine lv_iconst (v := 0) hx hb d_Q_fresh_73 (by decide) ?_
      refine wl_iast X hP hS (i := 15) (by decide) 0 (qw_cword ) rfl (j := i) rfl (by omega) (by decide) d_Q_fresh_74 (qw_pword ) (fun H locs hP hS => ?_)
      obtain ⟨S102, eS102⟩ : ∃ z, z = qw_si S0 15 0 i (0 : Int32) := ⟨_, rfl⟩
      rw [← eS102] at hP
      refine lv_iinc (v := nI (i + 1)) (lv' := [(2, .int (nI (i + 1))), (0, .ref (ad 0)), (1, .int (nI s))]) hx hb d_Q_fresh_75 hl (k := 2) rfl (nI_1 _) (by decide) rfl (fun ls hl => ?_)
      refine lv_goto (tgt := 57) hx hb d_Q_fresh_78 (by decide) ?_
      have hE : k_Q_fresh_L57 (i_n + 1) i s S0 = k_Q_fresh_L57 i_n (i + 1) s S102 := by
        subst eS102
        exact rfl
      rw [hE]
      exact ih (i + 1) (nI s) s rfl (by omega) S102 (by omega) _ _ _ (lv_sub hl [1, 2, 0] rfl) hP hS
def k_Q_fresh_J17 (s : Nat) (S0 : qw_S) : Int32 × qw_S :=
  let S1 := qw_si S0 10 0 s (1 : Int32)
  let S2 := qw_si S1 11 0 s (0 : Int32)
  let S3 := qw_si S2 12 0 s (0 : Int32)
  let S4 := qw_si S3 13 0 s (-1 : Int32)
  let S5 := qw_si S4 14 0 s (-1 : Int32)
  k_Q_fresh_L57 8 (8 * s) s S5
set_option maxHeartbeats 4000000 in
set_option maxRecDepth 100000 in
theorem c_Q_fresh_J17 {l : Launch} {D : va_G} {cI cZ : ClassId} {ad : Nat → Nat} {p_ : Program} {e_ : Env} {s_ : State} {m_ : MethodId} {args : Array Value} {below : List Frame} {meth : Method} {c_ : Code} {sz : Nat} (hinj : wl_inj 18 ad) (X : wl_X p_ s_ m_ args c_ b_Q_fresh R_Q TT D classes (qw_ty cI cZ) 18 ad (wl_A 18 ad s_.heap.size)) (hsz : s_.heap.size = sz) (hml : c_.maxLocals = 3) (hr : meth.sig.returnType = some .int) (hlocks : meth.locks = false) :
    ∀ (x_s : Int32) (s : Nat) (e_s : x_s = nI s) (h_s : s < 34) (S0 : qw_S) (H : Heap) (locs : List Loc) (ls : Array Slot), lv_has ls 3 [(0, .ref (ad 0)), (1, .int x_s)] → va_P D classes (wl_W 18 ad (qw_C cI cZ ad S0)) H → va_S (wl_A 18 ad s_.heap.size) s_.heap H locs → W p_ l e_ (rm_ 0) s_ m_ args below meth c_ H locs 0 0 (MQ below (wl_Qi D classes (qw_ty cI cZ) 18 ad ((k_Q_fresh_J17 s S0).1) (qw_C cI cZ ad ((k_Q_fresh_J17 s S0).2)) sz) args s_ 0 0 (wl_A 18 ad sz)) (F0 m_ 17 ls []) := by
  have hx := X.1
  have hb := X.2.1
  have hA : ∀ q, s_.heap.size ≤ q → (wl_A 18 ad s_.heap.size) q := fun q h => Or.inr h
  intro x_s s e_s h_s S0 H locs ls hl hP hS
  subst e_s
  refine lv_aload_n hx hb d_Q_fresh_17 rfl (lv_at hl 0 rfl) ?_
  refine wl_get (v := .ref (ad 10)) X hP (i := 0) (by decide) (qw_cQ ) rfl i_Q 9 (by decide) lf_Q_37 rfl d_Q_fresh_18 ?_
  refine lv_iload_n hx hb d_Q_fresh_21 rfl (lv_at hl 1 rfl) ?_
  refine lv_iconst (v := 1) hx hb d_Q_fresh_22 (by decide) ?_
  refine wl_zast X hP hS (i := 10) (by decide) 1 (qw_cis ) rfl (j := s) rfl (by omega) (by decide) (x := (1 : Int32)) rfl d_Q_fresh_23 (qw_pis ) (fun H locs hP hS => ?_)
  obtain ⟨S1, eS1⟩ : ∃ z, z = qw_si S0 10 0 s (1 : Int32) := ⟨_, rfl⟩
  rw [← eS1] at hP
  refine lv_aload_n hx hb d_Q_fresh_24 rfl (lv_at hl 0 rfl) ?_
  refine wl_get (v := .ref (ad 11)) X hP (i := 0) (by decide) (qw_cQ ) rfl i_Q 10 (by decide) lf_Q_41 rfl d_Q_fresh_25 ?_
  refine lv_iload_n hx hb d_Q_fresh_28 rfl (lv_at hl 1 rfl) ?_
  refine lv_iconst (v := 0) hx hb d_Q_fresh_29 (by decide) ?_
  refine wl_zast X hP hS (i := 11) (by decide) 1 (qw_cused ) rfl (j := s) rfl (by omega) (by decide) (x := (0 : Int32)) rfl d_Q_fresh_30 (qw_pused ) (fun H locs hP hS => ?_)
  obtain ⟨S2, eS2⟩ : ∃ z, z = qw_si S1 11 0 s (0 : Int32) := ⟨_, rfl⟩
  rw [← eS2] at hP
  refine lv_aload_n hx hb d_Q_fresh_31 rfl (lv_at hl 0 rfl) ?_
  refine wl_get (v := .ref (ad 12)) X hP (i := 0) (by decide) (qw_cQ ) rfl i_Q 11 (by decide) lf_Q_44 rfl d_Q_fresh_32 ?_
  refine lv_iload_n hx hb d_Q_fresh_35 rfl (lv_at hl 1 rfl) ?_
  refine lv_iconst (v := 0) hx hb d_Q_fresh_36 (by decide) ?_
  refine wl_zast X hP hS (i := 12) (by decide) 1 (qw_cchanged ) rfl (j := s) rfl (by omega) (by decide) (x := (0 : Int32)) rfl d_Q_fresh_37 (qw_pchanged ) (fun H locs hP hS => ?_)
  obtain ⟨S3, eS3⟩ : ∃ z, z = qw_si S2 12 0 s (0 : Int32) := ⟨_, rfl⟩
  rw [← eS3] at hP
  refine lv_aload_n hx hb d_Q_fresh_38 rfl (lv_at hl 0 rfl) ?_
  refine wl_get (v := .ref (ad 13)) X hP (i := 0) (by decide) (qw_cQ ) rfl i_Q 12 (by decide) lf_Q_47 rfl d_Q_fresh_39 ?_
  refine lv_iload_n hx hb d_Q_fresh_42 rfl (lv_at hl 1 rfl) ?_
  refine lv_iconst (v := -1) hx hb d_Q_fresh_43 (by decide) ?_
  refine wl_iast X hP hS (i := 13) (by decide) 0 (qw_cframe ) rfl (j := s) rfl (by omega) (by decide) d_Q_fresh_44 (qw_pframe ) (fun H locs hP hS => ?_)
  obtain ⟨S4, eS4⟩ : ∃ z, z = qw_si S3 13 0 s (-1 : Int32) := ⟨_, rfl⟩
  rw [← eS4] at hP
  refine lv_aload_n hx hb d_Q_fresh_45 rfl (lv_at hl 0 rfl) ?_
  refine wl_get (v := .ref (ad 14)) X hP (i := 0) (by decide) (qw_cQ ) rfl i_Q 13 (by decide) lf_Q_50 rfl d_Q_fresh_46 ?_
  refine lv_iload_n hx hb d_Q_fresh_49 rfl (lv_at hl 1 rfl) ?_
  refine lv_iconst (v := -1) hx hb d_Q_fresh_50 (by decide) ?_
  refine wl_iast X hP hS (i := 14) (by decide) 0 (qw_cslot ) rfl (j := s) rfl (by omega) (by decide) d_Q_fresh_51 (qw_pslot ) (fun H locs hP hS => ?_)
  obtain ⟨S5, eS5⟩ : ∃ z, z = qw_si S4 14 0 s (-1 : Int32) := ⟨_, rfl⟩
  rw [← eS5] at hP
  refine lv_bipush (v := 8) hx hb d_Q_fresh_52 (by decide) ?_
  refine lv_iload_n hx hb d_Q_fresh_54 rfl (lv_at hl 1 rfl) ?_
  refine lv_imul hx hb d_Q_fresh_55 ?_
  refine wl_top (y := nI (8 * s)) (show (8 : Int32) * (nI s) = nI (8 * s) from pk_mul 8 s) ?_
  refine lv_istore_n (lv' := [(2, .int (nI (8 * s))), (0, .ref (ad 0)), (1, .int (nI s))]) hx hb d_Q_fresh_56 rfl hl (by decide) rfl (fun ls hl => ?_)
  have hE : k_Q_fresh_J17 s S0 = k_Q_fresh_L57 8 (8 * s) s S5 := by
    subst eS5
    subst eS4
    subst eS3
    subst eS2
    subst eS1
    exact rfl
  rw [hE]
  exact c_Q_fresh_L57 hinj X hsz hml hr hlocks 8 (8 * s) (nI s) s rfl (by omega) S5 (by omega) _ _ _ (lv_sub hl [1, 2, 0] rfl) hP hS
def k_Q_fresh_L2 : Nat → Nat → qw_S → Int32 × qw_S
  | 0, i, S0 =>
    (nI i, S0)
  | i_n + 1, i, S0 =>
    if (S0.1 10 0 i) = 0 then
      k_Q_fresh_J17 i S0
    else
      k_Q_fresh_L2 i_n (i + 1) S0
def p_Q_fresh_L2 : Nat → Nat → qw_S → Prop
  | 0, i, S0 =>
    False
  | i_n + 1, i, S0 =>
    if (S0.1 10 0 i) = 0 then
      True
    else
      p_Q_fresh_L2 i_n (i + 1) S0
set_option maxHeartbeats 4000000 in
set_option maxRecDepth 100000 in
theorem c_Q_fresh_L2 {l : Launch} {D : va_G} {cI cZ : ClassId} {ad : Nat → Nat} {p_ : Program} {e_ : Env} {s_ : State} {m_ : MethodId} {args : Array Value} {below : List Frame} {meth : Method} {c_ : Code} {sz : Nat} (hinj : wl_inj 18 ad) (X : wl_X p_ s_ m_ args c_ b_Q_fresh R_Q TT D classes (qw_ty cI cZ) 18 ad (wl_A 18 ad s_.heap.size)) (hsz : s_.heap.size = sz) (hml : c_.maxLocals = 3) (hr : meth.sig.returnType = some .int) (hlocks : meth.locks = false) :
    ∀ (i_n i : Nat) (S0 : qw_S) (h_i : i + i_n = 34) (hp0 : p_Q_fresh_L2 i_n i S0) (H : Heap) (locs : List Loc) (ls : Array Slot), lv_has ls 3 [(0, .ref (ad 0)), (1, .int (nI i))] → va_P D classes (wl_W 18 ad (qw_C cI cZ ad S0)) H → va_S (wl_A 18 ad s_.heap.size) s_.heap H locs → W p_ l e_ (rm_ 0) s_ m_ args below meth c_ H locs 0 0 (MQ below (wl_Qi D classes (qw_ty cI cZ) 18 ad ((k_Q_fresh_L2 i_n i S0).1) (qw_C cI cZ ad ((k_Q_fresh_L2 i_n i S0).2)) sz) args s_ 0 0 (wl_A 18 ad sz)) (F0 m_ 2 ls []) := by
  have hx := X.1
  have hb := X.2.1
  have hA : ∀ q, s_.heap.size ≤ q → (wl_A 18 ad s_.heap.size) q := fun q h => Or.inr h
  intro i_n
  induction i_n with
  | zero =>
    intro i S0 h_i hp0 H locs ls hl hP hS
    exact (show False from hp0).elim
  | succ i_n ih =>
    intro i S0 h_i hp0 H locs ls hl hP hS
    refine lv_aload_n hx hb d_Q_fresh_2 rfl (lv_at hl 0 rfl) ?_
    refine wl_get (v := .ref (ad 10)) X hP (i := 0) (by decide) (qw_cQ ) rfl i_Q 9 (by decide) lf_Q_37 rfl d_Q_fresh_3 ?_
    refine lv_iload_n hx hb d_Q_fresh_6 rfl (lv_at hl 1 rfl) ?_
    refine wl_zald X hP (i := 10) (by decide) 1 (qw_cis ) rfl (j := i) rfl (by omega) (by decide) d_Q_fresh_7 ?_
    refine lv_if_eq (tgt := 17) hx hb d_Q_fresh_8 (by decide) (fun c101 => ?_) (fun c101 => ?_)
    · skip
      have hE : k_Q_fresh_L2 (i_n + 1) i S0 = k_Q_fresh_J17 i S0 := by
        exact ((if_pos c101).trans rfl)
      rw [hE]
      exact c_Q_fresh_J17 hinj X hsz hml hr hlocks (nI i) i rfl (by omega) S0 _ _ _ (lv_sub hl [0, 1] rfl) hP hS
    · skip
      refine lv_iinc (v := nI (i + 1)) (lv' := [(1, .int (nI (i + 1))), (0, .ref (ad 0))]) hx hb d_Q_fresh_11 hl (k := 1) rfl (nI_1 _) (by decide) rfl (fun ls hl => ?_)
      refine lv_goto (tgt := 2) hx hb d_Q_fresh_14 (by decide) ?_
      have hE : k_Q_fresh_L2 (i_n + 1) i S0 = k_Q_fresh_L2 i_n (i + 1) S0 := by
        exact ((if_neg c101).trans rfl)
      rw [hE]
      exact ih (i + 1) S0 (by omega) (by  exact (pp_neg c101 hp0)) _ _ _ (lv_sub hl [1, 0] rfl) hP hS
def k_Q_fresh (S0 : qw_S) : Int32 × qw_S :=
  k_Q_fresh_L2 34 0 S0
def p_Q_fresh (S0 : qw_S) : Prop :=
  p_Q_fresh_L2 34 0 S0
set_option maxHeartbeats 4000000 in
set_option maxRecDepth 100000 in
theorem c_Q_fresh {l : Launch} {D : va_G} {cI cZ : ClassId} {ad : Nat → Nat} (hinj : wl_inj 18 ad) (S0 : qw_S)  (hp0 : p_Q_fresh S0) : wl_Mi l y_Q_fresh (Cond.code y_Q_fresh b_Q_fresh 3 (some .int) :: TT) (rm_ 0) D classes (qw_ty cI cZ) 18 ad [.ref (ad 0)] (qw_C cI cZ ad S0) ((k_Q_fresh S0).1) (qw_C cI cZ ad ((k_Q_fresh S0).2)) := by
  intro sz
  refine wl_enter (own := R_Q) rfl (by decide) (Nat.le_of_ble_eq_true rfl) hinj (fun p_ e_ s_ m_ below meth c_ ls hsz X hml hr hlocks hl hP hS => ?_)
  have hx := X.1
  have hb := X.2.1
  have hA : ∀ q, s_.heap.size ≤ q → (wl_A 18 ad s_.heap.size) q := fun q h => Or.inr h
  have hl : lv_has ls 3 [(0, .ref (ad 0))] := hl
  refine lv_iconst (v := 0) hx hb d_Q_fresh_0 (by decide) ?_
  refine lv_istore_n (lv' := [(1, .int (0 : Int32)), (0, .ref (ad 0))]) hx hb d_Q_fresh_1 rfl hl (by decide) rfl (fun ls hl => ?_)
  have hE : k_Q_fresh S0 = k_Q_fresh_L2 34 0 S0 := by
    exact rfl
  rw [hE]
  exact c_Q_fresh_L2 hinj X hsz hml hr hlocks 34 0 S0 (by omega) (by  exact hp0) _ _ _ (lv_sub hl [1, 0] rfl) hP hS
theorem qq_inFrameL {S : qw_S} {f : Int32} : ∀ n i, i + n = 34 → k_Q_inFrame_L2 n i f S = -1 ∨ ∃ j, j < 34 ∧ k_Q_inFrame_L2 n i f S = nI j := by
  intro n
  induction n with
  | zero => exact fun i _ => Or.inl rfl
  | succ n ih =>
    intro i h
    have hn := ih (i + 1) (by omega)
    unfold k_Q_inFrame_L2
    repeat' split
    all_goals first | exact hn | exact Or.inr ⟨i, by omega, rfl⟩
theorem qq_inFrame {S : qw_S} {f : Int32} (h : ¬ k_Q_inFrame S f < 0) : k_Q_inFrame S f = nI (k_Q_inFrame S f).toNatClampNeg ∧ (k_Q_inFrame S f).toNatClampNeg < 34 := by
  rcases qq_inFrameL (S := S) (f := f) 34 0 rfl with h1 | ⟨j, hj, h1⟩
  · have e : k_Q_inFrame S f = -1 := h1
    rw [e] at h
    exact absurd (by decide) h
  · have e : k_Q_inFrame S f = nI j := h1
    rw [e, nI_clamp (by omega)]
    exact ⟨rfl, hj⟩
theorem qq_freshL {S : qw_S} : ∀ n i, i + n = 34 → p_Q_fresh_L2 n i S → ∃ j, j < 34 ∧ (k_Q_fresh_L2 n i S).1 = nI j := by
  have h57 : ∀ n i s (U : qw_S), (k_Q_fresh_L57 n i s U).1 = nI s := by
    intro n
    induction n with
    | zero => exact fun _ _ _ => rfl
    | succ n ih => exact fun i s U => ih (i + 1) s _
  intro n
  induction n with
  | zero => exact fun i _ h => False.elim h
  | succ n ih =>
    intro i h hp
    by_cases h0 : S.1 10 0 i = 0
    · refine ⟨i, by omega, ?_⟩
      have e : k_Q_fresh_L2 (n + 1) i S = k_Q_fresh_J17 i S := if_pos h0
      rw [e]
      exact h57 _ _ _ _
    · have e : k_Q_fresh_L2 (n + 1) i S = k_Q_fresh_L2 n (i + 1) S := if_neg h0
      rw [e]
      exact ih (i + 1) (by omega) (pp_neg h0 hp)
theorem qq_fresh {S : qw_S} (hp : p_Q_fresh S) : (k_Q_fresh S).1 = nI (k_Q_fresh S).1.toNatClampNeg ∧ (k_Q_fresh S).1.toNatClampNeg < 34 := by
  obtain ⟨j, hj, h⟩ := qq_freshL (S := S) 34 0 rfl hp
  have e : (k_Q_fresh S).1 = nI j := h
  rw [e, nI_clamp (by omega)]
  exact ⟨rfl, hj⟩
def k_Q_let (S0 : qw_S) (k : Nat) : qw_S :=
  let S1 := qw_sn S0 9 0 k 34
  if (qw_pg (S0.2 9 0 k)) < 0 then
    S1
  else
    let r3 := k_Q_sharers S1 (qw_pg (S0.2 9 0 k))
    if r3 = 0 then
      let S5 := qw_si S1 10 0 (S0.2 9 0 k) (0 : Int32)
      S5
    else
      S1
set_option maxHeartbeats 4000000 in
set_option maxRecDepth 100000 in
theorem c_Q_let {l : Launch} {D : va_G} {cI cZ : ClassId} {ad : Nat → Nat} (hinj : wl_inj 18 ad) (S0 : qw_S) (x_k : Int32) (k : Nat) (e_k : x_k = nI k) (h_k : k < 32) : wl_Mv l y_Q_let (Cond.code y_Q_let b_Q_let 3 none :: TT) (rm_ 1) D classes (qw_ty cI cZ) 18 ad [.ref (ad 0), .int x_k] (qw_C cI cZ ad S0)  (qw_C cI cZ ad (k_Q_let S0 k)) := by
  subst e_k
  intro sz
  refine wl_enter (own := R_Q) rfl (by decide) (Nat.le_of_ble_eq_true rfl) hinj (fun p_ e_ s_ m_ below meth c_ ls hsz X hml hr hlocks hl hP hS => ?_)
  have hx := X.1
  have hb := X.2.1
  have hA : ∀ q, s_.heap.size ≤ q → (wl_A 18 ad s_.heap.size) q := fun q h => Or.inr h
  have hl : lv_has ls 3 [(0, .ref (ad 0)), (1, .int (nI k))] := hl
  refine lv_aload_n hx hb d_Q_let_0 rfl (lv_at hl 0 rfl) ?_
  refine wl_get (v := .ref (ad 9)) X hP (i := 0) (by decide) (qw_cQ ) rfl i_Q 8 (by decide) lf_Q_34 rfl d_Q_let_1 ?_
  refine lv_iload_n hx hb d_Q_let_4 rfl (lv_at hl 1 rfl) ?_
  refine wl_iald X hP (i := 9) (by decide) 0 (qw_cpage ) rfl (j := k) rfl (by omega) (by decide) d_Q_let_5 ?_
  refine lv_istore_n (lv' := [(2, .int (qw_pg (S0.2 9 0 k))), (0, .ref (ad 0)), (1, .int (nI k))]) hx hb d_Q_let_6 rfl hl (by decide) rfl (fun ls hl => ?_)
  refine lv_aload_n hx hb d_Q_let_7 rfl (lv_at hl 1 rfl) ?_
  refine wl_get (v := .ref (ad 9)) X hP (i := 0) (by decide) (qw_cQ ) rfl i_Q 8 (by decide) lf_Q_34 rfl d_Q_let_8 ?_
  refine lv_iload_n hx hb d_Q_let_11 rfl (lv_at hl 2 rfl) ?_
  refine lv_iconst (v := -1) hx hb d_Q_let_12 (by decide) ?_
  refine wl_iast X hP hS (i := 9) (by decide) 0 (qw_cpage ) rfl (j := k) rfl (by omega) (by decide) d_Q_let_13 (qw_ppage (x := 34)  (by decide)) (fun H locs hP hS => ?_)
  obtain ⟨S1, eS1⟩ : ∃ z, z = qw_sn S0 9 0 k 34 := ⟨_, rfl⟩
  rw [← eS1] at hP
  refine lv_iload_n hx hb d_Q_let_14 rfl (lv_at hl 0 rfl) ?_
  refine lv_if_lt (tgt := 33) hx hb d_Q_let_15 (by decide) (fun c2 => ?_) (fun c2 => ?_)
  · skip
    have hE : k_Q_let S0 k = S1 := by
      subst eS1
      exact ((if_pos c2).trans rfl)
    rw [hE]
    exact wl_vret X hsz hr hlocks hP hS d_Q_let_33
  · skip
    refine lv_aload_n hx hb d_Q_let_18 rfl (lv_at hl 1 rfl) ?_
    refine lv_iload_n hx hb d_Q_let_19 rfl (lv_at hl 0 rfl) ?_
    refine wl_goi1 (cf := qw_C cI cZ ad) (r := k_Q_sharers S1 (qw_pg (S0.2 9 0 k))) hS hA X.2.2.2.2.2.2 (wl_runV (As := [.int (qw_pg (S0.2 9 0 k))]) (rest := []) X hml hl.1 hP g_TT (c_Q_sharers hinj S1 (qw_pg (S0.2 9 0 k)) _) (by decide) (qw_cQ ) rfl wv_Q_66 (na := 1) (by decide +kernel) rfl ⟨Nat.le_of_ble_eq_true rfl, Nat.le_of_ble_eq_true rfl⟩ rfl (Nat.le_of_ble_eq_true rfl) d_Q_let_20 ⟨Nat.le_refl _, Nat.le_refl _⟩) (fun r3 er3 H locs hP hS => ?_)
    refine lv_if_ne (tgt := 33) hx hb d_Q_let_23 (by decide) (fun c4 => ?_) (fun c4 => ?_)
    · skip
      have hE : k_Q_let S0 k = S1 := by
        subst er3
        subst eS1
        exact ((if_neg c2).trans ((if_neg c4).trans rfl))
      rw [hE]
      exact wl_vret X hsz hr hlocks hP hS d_Q_let_33
    · skip
      refine lv_aload_n hx hb d_Q_let_26 rfl (lv_at hl 1 rfl) ?_
      refine wl_get (v := .ref (ad 10)) X hP (i := 0) (by decide) (qw_cQ ) rfl i_Q 9 (by decide) lf_Q_37 rfl d_Q_let_27 ?_
      refine lv_iload_n hx hb d_Q_let_30 rfl (lv_at hl 0 rfl) ?_
      refine lv_iconst (v := 0) hx hb d_Q_let_31 (by decide) ?_
      refine wl_zast X hP hS (i := 10) (by decide) 1 (qw_cis ) rfl (j := (S0.2 9 0 k)) (qw_pg_in c2).1 (qw_pg_in c2).2 (by decide) (x := (0 : Int32)) rfl d_Q_let_32 (qw_pis ) (fun H locs hP hS => ?_)
      obtain ⟨S5, eS5⟩ : ∃ z, z = qw_si S1 10 0 (S0.2 9 0 k) (0 : Int32) := ⟨_, rfl⟩
      rw [← eS5] at hP
      have hE : k_Q_let S0 k = S5 := by
        subst eS5
        subst er3
        subst eS1
        exact ((if_neg c2).trans ((if_pos c4).trans rfl))
      rw [hE]
      exact wl_vret X hsz hr hlocks hP hS d_Q_let_33
def k_Q_goesOut_J56  (S0 : qw_S) : qw_S :=
  let S1 := qw_si S0 17 0 8 ((S0.1 17 0 8) + (1 : Int32))
  S1
set_option maxHeartbeats 4000000 in
set_option maxRecDepth 100000 in
theorem c_Q_goesOut_J56 {l : Launch} {D : va_G} {cI cZ : ClassId} {ad : Nat → Nat} {p_ : Program} {e_ : Env} {s_ : State} {m_ : MethodId} {args : Array Value} {below : List Frame} {meth : Method} {c_ : Code} {sz : Nat} (hinj : wl_inj 18 ad) (X : wl_X p_ s_ m_ args c_ b_Q_goesOut R_Q TT D classes (qw_ty cI cZ) 18 ad (wl_A 18 ad s_.heap.size)) (hsz : s_.heap.size = sz) (hml : c_.maxLocals = 3) (hr : meth.sig.returnType = none) (hlocks : meth.locks = false) :
    ∀ (S0 : qw_S) (H : Heap) (locs : List Loc) (ls : Array Slot), lv_has ls 3 [(0, .ref (ad 0))] → va_P D classes (wl_W 18 ad (qw_C cI cZ ad S0)) H → va_S (wl_A 18 ad s_.heap.size) s_.heap H locs → W p_ l e_ (rm_ 1) s_ m_ args below meth c_ H locs 0 0 (MQ below (wl_Qv D classes (qw_ty cI cZ) 18 ad (qw_C cI cZ ad (k_Q_goesOut_J56 S0)) sz) args s_ 0 0 (wl_A 18 ad sz)) (F0 m_ 56 ls []) := by
  have hx := X.1
  have hb := X.2.1
  have hA : ∀ q, s_.heap.size ≤ q → (wl_A 18 ad s_.heap.size) q := fun q h => Or.inr h
  intro S0 H locs ls hl hP hS
  refine lv_aload_n hx hb d_Q_goesOut_56 rfl (lv_at hl 0 rfl) ?_
  refine wl_get (v := .ref (ad 17)) X hP (i := 0) (by decide) (qw_cQ ) rfl i_Q 16 (by decide) lf_Q_59 rfl d_Q_goesOut_57 ?_
  refine lv_bipush (v := 8) hx hb d_Q_goesOut_60 (by decide) ?_
  refine lv_dup2_11 hx hb d_Q_goesOut_62 rfl rfl ?_
  refine wl_iald X hP (i := 17) (by decide) 0 (qw_ccounts ) rfl (j := 8) rfl (by omega) (by decide) d_Q_goesOut_63 ?_
  refine lv_iconst (v := 1) hx hb d_Q_goesOut_64 (by decide) ?_
  refine lv_iadd hx hb d_Q_goesOut_65 ?_
  refine wl_iast X hP hS (i := 17) (by decide) 0 (qw_ccounts ) rfl (j := 8) rfl (by omega) (by decide) d_Q_goesOut_66 (qw_pcounts ) (fun H locs hP hS => ?_)
  obtain ⟨S1, eS1⟩ : ∃ z, z = qw_si S0 17 0 8 ((S0.1 17 0 8) + (1 : Int32)) := ⟨_, rfl⟩
  rw [← eS1] at hP
  have hE : k_Q_goesOut_J56 S0 = S1 := by
    subst eS1
    exact rfl
  rw [hE]
  exact wl_vret X hsz hr hlocks hP hS d_Q_goesOut_67
def k_Q_goesOut_L35 : Nat → Nat → Nat → qw_S → qw_S
  | 0, i, s, S0 =>
    S0
  | i_n + 1, i, s, S0 =>
    let r101 := k_Q_isSlot S0 (nI i)
    if r101 = 0 then
      let S103 := qw_si S0 14 0 s (nI i)
      k_Q_goesOut_J56 S103
    else
      k_Q_goesOut_L35 i_n (i + 1) s S0
def p_Q_goesOut_L35 : Nat → Nat → Nat → qw_S → Prop
  | 0, i, s, S0 =>
    False
  | i_n + 1, i, s, S0 =>
    let r101 := k_Q_isSlot S0 (nI i)
    if r101 = 0 then
      let S103 := qw_si S0 14 0 s (nI i)
      True
    else
      p_Q_goesOut_L35 i_n (i + 1) s S0
set_option maxHeartbeats 4000000 in
set_option maxRecDepth 100000 in
theorem c_Q_goesOut_L35 {l : Launch} {D : va_G} {cI cZ : ClassId} {ad : Nat → Nat} {p_ : Program} {e_ : Env} {s_ : State} {m_ : MethodId} {args : Array Value} {below : List Frame} {meth : Method} {c_ : Code} {sz : Nat} (hinj : wl_inj 18 ad) (X : wl_X p_ s_ m_ args c_ b_Q_goesOut R_Q TT D classes (qw_ty cI cZ) 18 ad (wl_A 18 ad s_.heap.size)) (hsz : s_.heap.size = sz) (hml : c_.maxLocals = 3) (hr : meth.sig.returnType = none) (hlocks : meth.locks = false) :
    ∀ (i_n i : Nat) (x_s : Int32) (s : Nat) (e_s : x_s = nI s) (h_s : s < 34) (S0 : qw_S) (h_i : i + i_n = 64) (hp0 : p_Q_goesOut_L35 i_n i s S0) (H : Heap) (locs : List Loc) (ls : Array Slot), lv_has ls 3 [(0, .ref (ad 0)), (1, .int x_s), (2, .int (nI i))] → va_P D classes (wl_W 18 ad (qw_C cI cZ ad S0)) H → va_S (wl_A 18 ad s_.heap.size) s_.heap H locs → W p_ l e_ (rm_ 1) s_ m_ args below meth c_ H locs 0 0 (MQ below (wl_Qv D classes (qw_ty cI cZ) 18 ad (qw_C cI cZ ad (k_Q_goesOut_L35 i_n i s S0)) sz) args s_ 0 0 (wl_A 18 ad sz)) (F0 m_ 35 ls []) := by
  have hx := X.1
  have hb := X.2.1
  have hA : ∀ q, s_.heap.size ≤ q → (wl_A 18 ad s_.heap.size) q := fun q h => Or.inr h
  intro i_n
  induction i_n with
  | zero =>
    intro i x_s s e_s h_s S0 h_i hp0 H locs ls hl hP hS
    exact (show False from hp0).elim
  | succ i_n ih =>
    intro i x_s s e_s h_s S0 h_i hp0 H locs ls hl hP hS
    subst e_s
    refine lv_aload_n hx hb d_Q_goesOut_35 rfl (lv_at hl 0 rfl) ?_
    refine lv_iload_n hx hb d_Q_goesOut_36 rfl (lv_at hl 2 rfl) ?_
    refine wl_goi1 (cf := qw_C cI cZ ad) (r := k_Q_isSlot S0 (nI i)) hS hA X.2.2.2.2.2.2 (wl_runV (As := [.int (nI i)]) (rest := []) X hml hl.1 hP g_TT (c_Q_isSlot hinj S0 (nI i) _) (by decide) (qw_cQ ) rfl wv_Q_70 (na := 1) (by decide +kernel) rfl ⟨Nat.le_of_ble_eq_true rfl, Nat.le_of_ble_eq_true rfl⟩ rfl (Nat.le_of_ble_eq_true rfl) d_Q_goesOut_37 ⟨Nat.le_refl _, Nat.le_refl _⟩) (fun r101 er101 H locs hP hS => ?_)
    refine lv_if_eq (tgt := 49) hx hb d_Q_goesOut_40 (by decide) (fun c102 => ?_) (fun c102 => ?_)
    · skip
      refine lv_aload_n hx hb d_Q_goesOut_49 rfl (lv_at hl 0 rfl) ?_
      refine wl_get (v := .ref (ad 14)) X hP (i := 0) (by decide) (qw_cQ ) rfl i_Q 13 (by decide) lf_Q_50 rfl d_Q_goesOut_50 ?_
      refine lv_iload_n hx hb d_Q_goesOut_53 rfl (lv_at hl 1 rfl) ?_
      refine lv_iload_n hx hb d_Q_goesOut_54 rfl (lv_at hl 2 rfl) ?_
      refine wl_iast X hP hS (i := 14) (by decide) 0 (qw_cslot ) rfl (j := s) rfl (by omega) (by decide) d_Q_goesOut_55 (qw_pslot ) (fun H locs hP hS => ?_)
      obtain ⟨S103, eS103⟩ : ∃ z, z = qw_si S0 14 0 s (nI i) := ⟨_, rfl⟩
      rw [← eS103] at hP
      have hE : k_Q_goesOut_L35 (i_n + 1) i s S0 = k_Q_goesOut_J56 S103 := by
        subst eS103
        subst er101
        exact ((if_pos c102).trans rfl)
      rw [hE]
      exact c_Q_goesOut_J56 hinj X hsz hml hr hlocks S103 _ _ _ (lv_sub hl [0] rfl) hP hS
    · skip
      refine lv_iinc (v := nI (i + 1)) (lv' := [(2, .int (nI (i + 1))), (0, .ref (ad 0)), (1, .int (nI s))]) hx hb d_Q_goesOut_43 hl (k := 2) rfl (nI_1 _) (by decide) rfl (fun ls hl => ?_)
      refine lv_goto (tgt := 35) hx hb d_Q_goesOut_46 (by decide) ?_
      have hE : k_Q_goesOut_L35 (i_n + 1) i s S0 = k_Q_goesOut_L35 i_n (i + 1) s S0 := by
        subst er101
        exact ((if_neg c102).trans rfl)
      rw [hE]
      exact ih (i + 1) (nI s) s rfl (by omega) S0 (by omega) (by subst er101; exact (pp_neg c102 hp0)) _ _ _ (lv_sub hl [1, 2, 0] rfl) hP hS
def k_Q_goesOut (S0 : qw_S) (s : Nat) : qw_S :=
  let S1 := qw_si S0 13 0 s (-1 : Int32)
  if (S1.1 12 0 s) = 0 then
    S1
  else
    let S3 := qw_si S1 12 0 s (0 : Int32)
    if 0 ≤ (S3.1 14 0 s) then
      k_Q_goesOut_J56 S3
    else
      k_Q_goesOut_L35 64 0 s S3
def p_Q_goesOut (S0 : qw_S) (s : Nat) : Prop :=
  let S1 := qw_si S0 13 0 s (-1 : Int32)
  if (S1.1 12 0 s) = 0 then
    True
  else
    let S3 := qw_si S1 12 0 s (0 : Int32)
    if 0 ≤ (S3.1 14 0 s) then
      True
    else
      p_Q_goesOut_L35 64 0 s S3
set_option maxHeartbeats 4000000 in
set_option maxRecDepth 100000 in
theorem c_Q_goesOut {l : Launch} {D : va_G} {cI cZ : ClassId} {ad : Nat → Nat} (hinj : wl_inj 18 ad) (S0 : qw_S) (x_s : Int32) (s : Nat) (e_s : x_s = nI s) (h_s : s < 34) (hp0 : p_Q_goesOut S0 s) : wl_Mv l y_Q_goesOut (Cond.code y_Q_goesOut b_Q_goesOut 3 none :: TT) (rm_ 1) D classes (qw_ty cI cZ) 18 ad [.ref (ad 0), .int x_s] (qw_C cI cZ ad S0)  (qw_C cI cZ ad (k_Q_goesOut S0 s)) := by
  subst e_s
  intro sz
  refine wl_enter (own := R_Q) rfl (by decide) (Nat.le_of_ble_eq_true rfl) hinj (fun p_ e_ s_ m_ below meth c_ ls hsz X hml hr hlocks hl hP hS => ?_)
  have hx := X.1
  have hb := X.2.1
  have hA : ∀ q, s_.heap.size ≤ q → (wl_A 18 ad s_.heap.size) q := fun q h => Or.inr h
  have hl : lv_has ls 3 [(0, .ref (ad 0)), (1, .int (nI s))] := hl
  refine lv_aload_n hx hb d_Q_goesOut_0 rfl (lv_at hl 0 rfl) ?_
  refine wl_get (v := .ref (ad 13)) X hP (i := 0) (by decide) (qw_cQ ) rfl i_Q 12 (by decide) lf_Q_47 rfl d_Q_goesOut_1 ?_
  refine lv_iload_n hx hb d_Q_goesOut_4 rfl (lv_at hl 1 rfl) ?_
  refine lv_iconst (v := -1) hx hb d_Q_goesOut_5 (by decide) ?_
  refine wl_iast X hP hS (i := 13) (by decide) 0 (qw_cframe ) rfl (j := s) rfl (by omega) (by decide) d_Q_goesOut_6 (qw_pframe ) (fun H locs hP hS => ?_)
  obtain ⟨S1, eS1⟩ : ∃ z, z = qw_si S0 13 0 s (-1 : Int32) := ⟨_, rfl⟩
  rw [← eS1] at hP
  refine lv_aload_n hx hb d_Q_goesOut_7 rfl (lv_at hl 0 rfl) ?_
  refine wl_get (v := .ref (ad 12)) X hP (i := 0) (by decide) (qw_cQ ) rfl i_Q 11 (by decide) lf_Q_44 rfl d_Q_goesOut_8 ?_
  refine lv_iload_n hx hb d_Q_goesOut_11 rfl (lv_at hl 1 rfl) ?_
  refine wl_zald X hP (i := 12) (by decide) 1 (qw_cchanged ) rfl (j := s) rfl (by omega) (by decide) d_Q_goesOut_12 ?_
  refine lv_if_ne (tgt := 17) hx hb d_Q_goesOut_13 (by decide) (fun c2 => ?_) (fun c2 => ?_)
  · skip
    refine lv_aload_n hx hb d_Q_goesOut_17 rfl (lv_at hl 0 rfl) ?_
    refine wl_get (v := .ref (ad 12)) X hP (i := 0) (by decide) (qw_cQ ) rfl i_Q 11 (by decide) lf_Q_44 rfl d_Q_goesOut_18 ?_
    refine lv_iload_n hx hb d_Q_goesOut_21 rfl (lv_at hl 1 rfl) ?_
    refine lv_iconst (v := 0) hx hb d_Q_goesOut_22 (by decide) ?_
    refine wl_zast X hP hS (i := 12) (by decide) 1 (qw_cchanged ) rfl (j := s) rfl (by omega) (by decide) (x := (0 : Int32)) rfl d_Q_goesOut_23 (qw_pchanged ) (fun H locs hP hS => ?_)
    obtain ⟨S3, eS3⟩ : ∃ z, z = qw_si S1 12 0 s (0 : Int32) := ⟨_, rfl⟩
    rw [← eS3] at hP
    refine lv_aload_n hx hb d_Q_goesOut_24 rfl (lv_at hl 0 rfl) ?_
    refine wl_get (v := .ref (ad 14)) X hP (i := 0) (by decide) (qw_cQ ) rfl i_Q 13 (by decide) lf_Q_50 rfl d_Q_goesOut_25 ?_
    refine lv_iload_n hx hb d_Q_goesOut_28 rfl (lv_at hl 1 rfl) ?_
    refine wl_iald X hP (i := 14) (by decide) 0 (qw_cslot ) rfl (j := s) rfl (by omega) (by decide) d_Q_goesOut_29 ?_
    refine lv_if_ge (tgt := 56) hx hb d_Q_goesOut_30 (by decide) (fun c4 => ?_) (fun c4 => ?_)
    · skip
      have hE : k_Q_goesOut S0 s = k_Q_goesOut_J56 S3 := by
        subst eS3
        subst eS1
        exact ((if_neg c2).trans ((if_pos c4).trans rfl))
      rw [hE]
      exact c_Q_goesOut_J56 hinj X hsz hml hr hlocks S3 _ _ _ (lv_sub hl [0] rfl) hP hS
    · skip
      refine lv_iconst (v := 0) hx hb d_Q_goesOut_33 (by decide) ?_
      refine lv_istore_n (lv' := [(2, .int (0 : Int32)), (0, .ref (ad 0)), (1, .int (nI s))]) hx hb d_Q_goesOut_34 rfl hl (by decide) rfl (fun ls hl => ?_)
      have hE : k_Q_goesOut S0 s = k_Q_goesOut_L35 64 0 s S3 := by
        subst eS3
        subst eS1
        exact ((if_neg c2).trans ((if_neg c4).trans rfl))
      rw [hE]
      exact c_Q_goesOut_L35 hinj X hsz hml hr hlocks 64 0 (nI s) s rfl (by omega) S3 (by omega) (by subst eS3; subst eS1; exact (pp_neg c4 (pp_neg c2 hp0))) _ _ _ (lv_sub hl [1, 2, 0] rfl) hP hS
  · skip
    have hE : k_Q_goesOut S0 s = S1 := by
      subst eS1
      exact ((if_pos c2).trans rfl)
    rw [hE]
    exact wl_vret X hsz hr hlocks hP hS d_Q_goesOut_16
def k_Q_freeFrame_L24 : Nat → qw_S → Int32 × qw_S
  | 0, S0 =>
    ((0 : Int32), S0)
  | i_n + 1, S0 =>
    let r101 := k_Q_inFrame S0 (nI ((S0.2 0 0 1) % 6))
    if (S0.1 11 0 r101.toNatClampNeg) = 0 then
      let r104 := k_Q_inFrame S0 (nI ((S0.2 0 0 1) % 6))
      let S107 := k_Q_goesOut S0 r104.toNatClampNeg
      let x108 := nI ((S107.2 0 0 1) % 6)
      let S109 := qw_sn S107 0 0 1 ((((S107.2 0 0 1) % 6) + 1) % 6)
      (x108, S109)
    else
      let r110 := k_Q_inFrame S0 (nI ((S0.2 0 0 1) % 6))
      let S112 := qw_si S0 11 0 r110.toNatClampNeg (0 : Int32)
      let S113 := qw_sn S112 0 0 1 ((((S112.2 0 0 1) % 6) + 1) % 6)
      k_Q_freeFrame_L24 i_n S113
def p_Q_freeFrame_L24 : Nat → qw_S → Prop
  | 0, S0 =>
    False
  | i_n + 1, S0 =>
    let r101 := k_Q_inFrame S0 (nI ((S0.2 0 0 1) % 6))
    (in_ r101 34) ∧
    (if (S0.1 11 0 r101.toNatClampNeg) = 0 then
      let r104 := k_Q_inFrame S0 (nI ((S0.2 0 0 1) % 6))
      (in_ r104 34) ∧
      ((p_Q_goesOut S0 r104.toNatClampNeg) ∧
      (let S107 := k_Q_goesOut S0 r104.toNatClampNeg
      let x108 := nI ((S107.2 0 0 1) % 6)
      let S109 := qw_sn S107 0 0 1 ((((S107.2 0 0 1) % 6) + 1) % 6)
      True))
    else
      let r110 := k_Q_inFrame S0 (nI ((S0.2 0 0 1) % 6))
      (in_ r110 34) ∧
      (let S112 := qw_si S0 11 0 r110.toNatClampNeg (0 : Int32)
      let S113 := qw_sn S112 0 0 1 ((((S112.2 0 0 1) % 6) + 1) % 6)
      p_Q_freeFrame_L24 i_n S113))
set_option maxHeartbeats 4000000 in
set_option maxRecDepth 100000 in
theorem c_Q_freeFrame_L24 {l : Launch} {D : va_G} {cI cZ : ClassId} {ad : Nat → Nat} {p_ : Program} {e_ : Env} {s_ : State} {m_ : MethodId} {args : Array Value} {below : List Frame} {meth : Method} {c_ : Code} {sz : Nat} (hinj : wl_inj 18 ad) (X : wl_X p_ s_ m_ args c_ b_Q_freeFrame R_Q TT D classes (qw_ty cI cZ) 18 ad (wl_A 18 ad s_.heap.size)) (hsz : s_.heap.size = sz) (hml : c_.maxLocals = 2) (hr : meth.sig.returnType = some .int) (hlocks : meth.locks = false) :
    ∀ (i_n : Nat) (S0 : qw_S) (hp0 : p_Q_freeFrame_L24 i_n S0) (H : Heap) (locs : List Loc) (ls : Array Slot), lv_has ls 2 [(0, .ref (ad 0))] → va_P D classes (wl_W 18 ad (qw_C cI cZ ad S0)) H → va_S (wl_A 18 ad s_.heap.size) s_.heap H locs → W p_ l e_ (rm_ 2) s_ m_ args below meth c_ H locs 0 0 (MQ below (wl_Qi D classes (qw_ty cI cZ) 18 ad ((k_Q_freeFrame_L24 i_n S0).1) (qw_C cI cZ ad ((k_Q_freeFrame_L24 i_n S0).2)) sz) args s_ 0 0 (wl_A 18 ad sz)) (F0 m_ 24 ls []) := by
  have hx := X.1
  have hb := X.2.1
  have hA : ∀ q, s_.heap.size ≤ q → (wl_A 18 ad s_.heap.size) q := fun q h => Or.inr h
  intro i_n
  induction i_n with
  | zero =>
    intro S0 hp0 H locs ls hl hP hS
    exact (show False from hp0).elim
  | succ i_n ih =>
    intro S0 hp0 H locs ls hl hP hS
    refine lv_aload_n hx hb d_Q_freeFrame_24 rfl (lv_at hl 0 rfl) ?_
    refine wl_get (v := .ref (ad 11)) X hP (i := 0) (by decide) (qw_cQ ) rfl i_Q 10 (by decide) lf_Q_41 rfl d_Q_freeFrame_25 ?_
    refine lv_aload_n hx hb d_Q_freeFrame_28 rfl (lv_at hl 0 rfl) ?_
    refine lv_aload_n hx hb d_Q_freeFrame_29 rfl (lv_at hl 0 rfl) ?_
    refine wl_get (v := .int (nI ((S0.2 0 0 1) % 6))) X hP (i := 0) (by decide) (qw_cQ ) rfl i_Q 20 (by decide) lf_Q_77 rfl d_Q_freeFrame_30 ?_
    refine wl_goi1 (cf := qw_C cI cZ ad) (r := k_Q_inFrame S0 (nI ((S0.2 0 0 1) % 6))) hS hA X.2.2.2.2.2.2 (wl_runV (As := [.int (nI ((S0.2 0 0 1) % 6))]) (rest := [.ref (ad 11)]) X hml hl.1 hP g_TT (c_Q_inFrame hinj S0 (nI ((S0.2 0 0 1) % 6)) _) (by decide) (qw_cQ ) rfl wv_Q_74 (na := 1) (by decide +kernel) rfl ⟨Nat.le_of_ble_eq_true rfl, Nat.le_of_ble_eq_true rfl⟩ rfl (Nat.le_of_ble_eq_true rfl) d_Q_freeFrame_33 ⟨Nat.le_refl _, Nat.le_refl _⟩) (fun r101 er101 H locs hP hS => ?_)
    have ob102 : in_ r101 34 := by
      subst er101
      exact And.left hp0
    obtain ⟨ob102_1, ob102_2⟩ := ob102
    refine wl_zald X hP (i := 11) (by decide) 1 (qw_cused ) rfl (j := r101.toNatClampNeg) ob102_1 (by omega) (by decide) d_Q_freeFrame_36 ?_
    refine lv_if_eq (tgt := 70) hx hb d_Q_freeFrame_37 (by decide) (fun c103 => ?_) (fun c103 => ?_)
    · skip
      refine lv_aload_n hx hb d_Q_freeFrame_70 rfl (lv_at hl 0 rfl) ?_
      refine lv_aload_n hx hb d_Q_freeFrame_71 rfl (lv_at hl 0 rfl) ?_
      refine lv_aload_n hx hb d_Q_freeFrame_72 rfl (lv_at hl 0 rfl) ?_
      refine wl_get (v := .int (nI ((S0.2 0 0 1) % 6))) X hP (i := 0) (by decide) (qw_cQ ) rfl i_Q 20 (by decide) lf_Q_77 rfl d_Q_freeFrame_73 ?_
      refine wl_goi1 (cf := qw_C cI cZ ad) (r := k_Q_inFrame S0 (nI ((S0.2 0 0 1) % 6))) hS hA X.2.2.2.2.2.2 (wl_runV (As := [.int (nI ((S0.2 0 0 1) % 6))]) (rest := [.ref (ad 0)]) X hml hl.1 hP g_TT (c_Q_inFrame hinj S0 (nI ((S0.2 0 0 1) % 6)) _) (by decide) (qw_cQ ) rfl wv_Q_74 (na := 1) (by decide +kernel) rfl ⟨Nat.le_of_ble_eq_true rfl, Nat.le_of_ble_eq_true rfl⟩ rfl (Nat.le_of_ble_eq_true rfl) d_Q_freeFrame_76 ⟨Nat.le_refl _, Nat.le_refl _⟩) (fun r104 er104 H locs hP hS => ?_)
      have ob105 : in_ r104 34 := by
        subst er104
        subst er101
        exact And.left (pp_pos c103 (And.right hp0))
      obtain ⟨ob105_1, ob105_2⟩ := ob105
      have ob106 : p_Q_goesOut S0 r104.toNatClampNeg := by
        subst er104
        subst er101
        exact And.left (And.right (pp_pos c103 (And.right hp0)))
      refine wl_gov2 (cf := qw_C cI cZ ad) (S2 := k_Q_goesOut S0 r104.toNatClampNeg) hS hA X.2.2.2.2.2.2 (wl_runV (As := [.int r104]) (rest := []) X hml hl.1 hP g_TT (c_Q_goesOut hinj S0 r104 r104.toNatClampNeg ob105_1 (by omega) ob106 _) (by decide) (qw_cQ ) rfl wv_Q_80 (na := 1) (by decide +kernel) rfl ⟨Nat.le_of_ble_eq_true rfl, Nat.le_of_ble_eq_true rfl⟩ rfl (Nat.le_of_ble_eq_true rfl) d_Q_freeFrame_79 ⟨Nat.le_refl _, Nat.le_refl _⟩) (fun S107 eS107 H locs hP hS => ?_)
      refine lv_aload_n hx hb d_Q_freeFrame_82 rfl (lv_at hl 0 rfl) ?_
      refine wl_get (v := .int (nI ((S107.2 0 0 1) % 6))) X hP (i := 0) (by decide) (qw_cQ ) rfl i_Q 20 (by decide) lf_Q_77 rfl d_Q_freeFrame_83 ?_
      refine lv_topi (fun x108 ex108 => ?_)
      refine lv_istore_n (lv' := [(1, .int x108), (0, .ref (ad 0))]) hx hb d_Q_freeFrame_86 rfl hl (by decide) rfl (fun ls hl => ?_)
      refine lv_aload_n hx hb d_Q_freeFrame_87 rfl (lv_at hl 1 rfl) ?_
      refine lv_aload_n hx hb d_Q_freeFrame_88 rfl (lv_at hl 1 rfl) ?_
      refine wl_get (v := .int (nI ((S107.2 0 0 1) % 6))) X hP (i := 0) (by decide) (qw_cQ ) rfl i_Q 20 (by decide) lf_Q_77 rfl d_Q_freeFrame_89 ?_
      refine lv_iconst (v := 1) hx hb d_Q_freeFrame_92 (by decide) ?_
      refine lv_iadd hx hb d_Q_freeFrame_93 ?_
      refine lv_bipush (v := 6) hx hb d_Q_freeFrame_94 (by decide) ?_
      refine lv_irem hx hb d_Q_freeFrame_96 (by decide) ?_
      refine wl_put X hP hS (i := 0) (by decide) (qw_cQ ) rfl i_Q ft_Q ft_Q_ok fn_Q 20 (by decide) lf_Q_77 rfl rfl rfl (Nat.le_of_ble_eq_true rfl) d_Q_freeFrame_97 (qw_pQ_hand (x := ((((S107.2 0 0 1) % 6) + 1) % 6))  (by rw [Nat.mod_eq_of_lt (show ((((S107.2 0 0 1) % 6) + 1) % 6) < 6 by omega)] <;> exact ((congr (congrArg (fun (a b : Int32) => a - a / b * b) (show (nI ((S107.2 0 0 1) % 6)) + (1 : Int32) = nI (((S107.2 0 0 1) % 6) + 1) from (show (nI ((S107.2 0 0 1) % 6)) + (1 : Int32) = nI (((S107.2 0 0 1) % 6) + 1) from nI_add ((S107.2 0 0 1) % 6) 1))) (show (6 : Int32) = nI 6 from rfl)).trans (pk_rem (a := (((S107.2 0 0 1) % 6) + 1)) (d := 6) (by omega) (by omega) (by omega))))) (fun H locs hP hS => ?_)
      obtain ⟨S109, eS109⟩ : ∃ z, z = qw_sn S107 0 0 1 ((((S107.2 0 0 1) % 6) + 1) % 6) := ⟨_, rfl⟩
      rw [← eS109] at hP
      refine lv_iload_n hx hb d_Q_freeFrame_100 rfl (lv_at hl 0 rfl) ?_
      have hE : k_Q_freeFrame_L24 (i_n + 1) S0 = (x108, S109) := by
        subst eS109
        subst ex108
        subst eS107
        subst er104
        subst er101
        exact ((if_pos c103).trans rfl)
      rw [hE]
      exact wl_iret X hsz hr hlocks hP hS d_Q_freeFrame_101
    · skip
      refine lv_aload_n hx hb d_Q_freeFrame_40 rfl (lv_at hl 0 rfl) ?_
      refine wl_get (v := .ref (ad 11)) X hP (i := 0) (by decide) (qw_cQ ) rfl i_Q 10 (by decide) lf_Q_41 rfl d_Q_freeFrame_41 ?_
      refine lv_aload_n hx hb d_Q_freeFrame_44 rfl (lv_at hl 0 rfl) ?_
      refine lv_aload_n hx hb d_Q_freeFrame_45 rfl (lv_at hl 0 rfl) ?_
      refine wl_get (v := .int (nI ((S0.2 0 0 1) % 6))) X hP (i := 0) (by decide) (qw_cQ ) rfl i_Q 20 (by decide) lf_Q_77 rfl d_Q_freeFrame_46 ?_
      refine wl_goi1 (cf := qw_C cI cZ ad) (r := k_Q_inFrame S0 (nI ((S0.2 0 0 1) % 6))) hS hA X.2.2.2.2.2.2 (wl_runV (As := [.int (nI ((S0.2 0 0 1) % 6))]) (rest := [.ref (ad 11)]) X hml hl.1 hP g_TT (c_Q_inFrame hinj S0 (nI ((S0.2 0 0 1) % 6)) _) (by decide) (qw_cQ ) rfl wv_Q_74 (na := 1) (by decide +kernel) rfl ⟨Nat.le_of_ble_eq_true rfl, Nat.le_of_ble_eq_true rfl⟩ rfl (Nat.le_of_ble_eq_true rfl) d_Q_freeFrame_49 ⟨Nat.le_refl _, Nat.le_refl _⟩) (fun r110 er110 H locs hP hS => ?_)
      refine lv_iconst (v := 0) hx hb d_Q_freeFrame_52 (by decide) ?_
      have ob111 : in_ r110 34 := by
        subst er110
        subst er101
        exact And.left (pp_neg c103 (And.right hp0))
      obtain ⟨ob111_1, ob111_2⟩ := ob111
      refine wl_zast X hP hS (i := 11) (by decide) 1 (qw_cused ) rfl (j := r110.toNatClampNeg) ob111_1 (by omega) (by decide) (x := (0 : Int32)) rfl d_Q_freeFrame_53 (qw_pused ) (fun H locs hP hS => ?_)
      obtain ⟨S112, eS112⟩ : ∃ z, z = qw_si S0 11 0 r110.toNatClampNeg (0 : Int32) := ⟨_, rfl⟩
      rw [← eS112] at hP
      refine lv_aload_n hx hb d_Q_freeFrame_54 rfl (lv_at hl 0 rfl) ?_
      refine lv_aload_n hx hb d_Q_freeFrame_55 rfl (lv_at hl 0 rfl) ?_
      refine wl_get (v := .int (nI ((S112.2 0 0 1) % 6))) X hP (i := 0) (by decide) (qw_cQ ) rfl i_Q 20 (by decide) lf_Q_77 rfl d_Q_freeFrame_56 ?_
      refine lv_iconst (v := 1) hx hb d_Q_freeFrame_59 (by decide) ?_
      refine lv_iadd hx hb d_Q_freeFrame_60 ?_
      refine lv_bipush (v := 6) hx hb d_Q_freeFrame_61 (by decide) ?_
      refine lv_irem hx hb d_Q_freeFrame_63 (by decide) ?_
      refine wl_put X hP hS (i := 0) (by decide) (qw_cQ ) rfl i_Q ft_Q ft_Q_ok fn_Q 20 (by decide) lf_Q_77 rfl rfl rfl (Nat.le_of_ble_eq_true rfl) d_Q_freeFrame_64 (qw_pQ_hand (x := ((((S112.2 0 0 1) % 6) + 1) % 6))  (by rw [Nat.mod_eq_of_lt (show ((((S112.2 0 0 1) % 6) + 1) % 6) < 6 by omega)] <;> exact ((congr (congrArg (fun (a b : Int32) => a - a / b * b) (show (nI ((S112.2 0 0 1) % 6)) + (1 : Int32) = nI (((S112.2 0 0 1) % 6) + 1) from (show (nI ((S112.2 0 0 1) % 6)) + (1 : Int32) = nI (((S112.2 0 0 1) % 6) + 1) from nI_add ((S112.2 0 0 1) % 6) 1))) (show (6 : Int32) = nI 6 from rfl)).trans (pk_rem (a := (((S112.2 0 0 1) % 6) + 1)) (d := 6) (by omega) (by omega) (by omega))))) (fun H locs hP hS => ?_)
      obtain ⟨S113, eS113⟩ : ∃ z, z = qw_sn S112 0 0 1 ((((S112.2 0 0 1) % 6) + 1) % 6) := ⟨_, rfl⟩
      rw [← eS113] at hP
      refine lv_goto (tgt := 24) hx hb d_Q_freeFrame_67 (by decide) ?_
      have hE : k_Q_freeFrame_L24 (i_n + 1) S0 = k_Q_freeFrame_L24 i_n S113 := by
        subst eS113
        subst eS112
        subst er110
        subst er101
        exact ((if_neg c103).trans rfl)
      rw [hE]
      exact ih S113 (by subst eS113; subst eS112; subst er110; subst er101; exact (And.right (pp_neg c103 (And.right hp0)))) _ _ _ (lv_sub hl [0] rfl) hP hS
def k_Q_freeFrame_L2 : Nat → Nat → qw_S → Int32 × qw_S
  | 0, i, S0 =>
    k_Q_freeFrame_L24 7 S0
  | i_n + 1, i, S0 =>
    let r102 := k_Q_inFrame S0 (nI i)
    if 0 ≤ r102 then
      k_Q_freeFrame_L2 i_n (i + 1) S0
    else
      (nI i, S0)
def p_Q_freeFrame_L2 : Nat → Nat → qw_S → Prop
  | 0, i, S0 =>
    p_Q_freeFrame_L24 7 S0
  | i_n + 1, i, S0 =>
    let r102 := k_Q_inFrame S0 (nI i)
    if 0 ≤ r102 then
      p_Q_freeFrame_L2 i_n (i + 1) S0
    else
      True
set_option maxHeartbeats 4000000 in
set_option maxRecDepth 100000 in
theorem c_Q_freeFrame_L2 {l : Launch} {D : va_G} {cI cZ : ClassId} {ad : Nat → Nat} {p_ : Program} {e_ : Env} {s_ : State} {m_ : MethodId} {args : Array Value} {below : List Frame} {meth : Method} {c_ : Code} {sz : Nat} (hinj : wl_inj 18 ad) (X : wl_X p_ s_ m_ args c_ b_Q_freeFrame R_Q TT D classes (qw_ty cI cZ) 18 ad (wl_A 18 ad s_.heap.size)) (hsz : s_.heap.size = sz) (hml : c_.maxLocals = 2) (hr : meth.sig.returnType = some .int) (hlocks : meth.locks = false) :
    ∀ (i_n i : Nat) (S0 : qw_S) (h_i : i + i_n = 6) (hp0 : p_Q_freeFrame_L2 i_n i S0) (H : Heap) (locs : List Loc) (ls : Array Slot), lv_has ls 2 [(0, .ref (ad 0)), (1, .int (nI i))] → va_P D classes (wl_W 18 ad (qw_C cI cZ ad S0)) H → va_S (wl_A 18 ad s_.heap.size) s_.heap H locs → W p_ l e_ (rm_ 2) s_ m_ args below meth c_ H locs 0 0 (MQ below (wl_Qi D classes (qw_ty cI cZ) 18 ad ((k_Q_freeFrame_L2 i_n i S0).1) (qw_C cI cZ ad ((k_Q_freeFrame_L2 i_n i S0).2)) sz) args s_ 0 0 (wl_A 18 ad sz)) (F0 m_ 2 ls []) := by
  have hx := X.1
  have hb := X.2.1
  have hA : ∀ q, s_.heap.size ≤ q → (wl_A 18 ad s_.heap.size) q := fun q h => Or.inr h
  intro i_n
  induction i_n with
  | zero =>
    intro i S0 h_i hp0 H locs ls hl hP hS
    refine lv_iload_n hx hb d_Q_freeFrame_2 rfl (lv_at hl 1 rfl) ?_
    refine lv_bipush (v := 6) hx hb d_Q_freeFrame_3 (by decide) ?_
    refine lv_icmp_ge (tgt := 24) hx hb d_Q_freeFrame_5 (by decide) (fun c1 => ?_) (fun c1 => ?_)
    · skip
      have hE : k_Q_freeFrame_L2 0 i S0 = k_Q_freeFrame_L24 7 S0 := by
        exact rfl
      rw [hE]
      exact c_Q_freeFrame_L24 hinj X hsz hml hr hlocks 7 S0 (by  exact hp0) _ _ _ (lv_sub hl [0] rfl) hP hS
    · exact absurd (sk_lhz h_i) c1
  | succ i_n ih =>
    intro i S0 h_i hp0 H locs ls hl hP hS
    refine lv_iload_n hx hb d_Q_freeFrame_2 rfl (lv_at hl 1 rfl) ?_
    refine lv_bipush (v := 6) hx hb d_Q_freeFrame_3 (by decide) ?_
    refine lv_icmp_ge (tgt := 24) hx hb d_Q_freeFrame_5 (by decide) (fun c101 => ?_) (fun c101 => ?_)
    · exact absurd c101 (sk_lhs h_i)
    · skip
      refine lv_aload_n hx hb d_Q_freeFrame_8 rfl (lv_at hl 0 rfl) ?_
      refine lv_iload_n hx hb d_Q_freeFrame_9 rfl (lv_at hl 1 rfl) ?_
      refine wl_goi1 (cf := qw_C cI cZ ad) (r := k_Q_inFrame S0 (nI i)) hS hA X.2.2.2.2.2.2 (wl_runV (As := [.int (nI i)]) (rest := []) X hml hl.1 hP g_TT (c_Q_inFrame hinj S0 (nI i) _) (by decide) (qw_cQ ) rfl wv_Q_74 (na := 1) (by decide +kernel) rfl ⟨Nat.le_of_ble_eq_true rfl, Nat.le_of_ble_eq_true rfl⟩ rfl (Nat.le_of_ble_eq_true rfl) d_Q_freeFrame_10 ⟨Nat.le_refl _, Nat.le_refl _⟩) (fun r102 er102 H locs hP hS => ?_)
      refine lv_if_ge (tgt := 18) hx hb d_Q_freeFrame_13 (by decide) (fun c103 => ?_) (fun c103 => ?_)
      · skip
        refine lv_iinc (v := nI (i + 1)) (lv' := [(1, .int (nI (i + 1))), (0, .ref (ad 0))]) hx hb d_Q_freeFrame_18 hl (k := 1) rfl (nI_1 _) (by decide) rfl (fun ls hl => ?_)
        refine lv_goto (tgt := 2) hx hb d_Q_freeFrame_21 (by decide) ?_
        have hE : k_Q_freeFrame_L2 (i_n + 1) i S0 = k_Q_freeFrame_L2 i_n (i + 1) S0 := by
          subst er102
          exact ((if_pos c103).trans rfl)
        rw [hE]
        exact ih (i + 1) S0 (by omega) (by subst er102; exact (pp_pos c103 hp0)) _ _ _ (lv_sub hl [1, 0] rfl) hP hS
      · skip
        refine lv_iload_n hx hb d_Q_freeFrame_16 rfl (lv_at hl 1 rfl) ?_
        have hE : k_Q_freeFrame_L2 (i_n + 1) i S0 = (nI i, S0) := by
          subst er102
          exact ((if_neg c103).trans rfl)
        rw [hE]
        exact wl_iret X hsz hr hlocks hP hS d_Q_freeFrame_17
def k_Q_freeFrame (S0 : qw_S) : Int32 × qw_S :=
  k_Q_freeFrame_L2 6 0 S0
def p_Q_freeFrame (S0 : qw_S) : Prop :=
  p_Q_freeFrame_L2 6 0 S0
set_option maxHeartbeats 4000000 in
set_option maxRecDepth 100000 in
theorem c_Q_freeFrame {l : Launch} {D : va_G} {cI cZ : ClassId} {ad : Nat → Nat} (hinj : wl_inj 18 ad) (S0 : qw_S)  (hp0 : p_Q_freeFrame S0) : wl_Mi l y_Q_freeFrame (Cond.code y_Q_freeFrame b_Q_freeFrame 2 (some .int) :: TT) (rm_ 2) D classes (qw_ty cI cZ) 18 ad [.ref (ad 0)] (qw_C cI cZ ad S0) ((k_Q_freeFrame S0).1) (qw_C cI cZ ad ((k_Q_freeFrame S0).2)) := by
  intro sz
  refine wl_enter (own := R_Q) rfl (by decide) (Nat.le_of_ble_eq_true rfl) hinj (fun p_ e_ s_ m_ below meth c_ ls hsz X hml hr hlocks hl hP hS => ?_)
  have hx := X.1
  have hb := X.2.1
  have hA : ∀ q, s_.heap.size ≤ q → (wl_A 18 ad s_.heap.size) q := fun q h => Or.inr h
  have hl : lv_has ls 2 [(0, .ref (ad 0))] := hl
  refine lv_iconst (v := 0) hx hb d_Q_freeFrame_0 (by decide) ?_
  refine lv_istore_n (lv' := [(1, .int (0 : Int32)), (0, .ref (ad 0))]) hx hb d_Q_freeFrame_1 rfl hl (by decide) rfl (fun ls hl => ?_)
  have hE : k_Q_freeFrame S0 = k_Q_freeFrame_L2 6 0 S0 := by
    exact rfl
  rw [hE]
  exact c_Q_freeFrame_L2 hinj X hsz hml hr hlocks 6 0 S0 (by omega) (by  exact hp0) _ _ _ (lv_sub hl [1, 0] rfl) hP hS
end
section
theorem qq_L24 : ∀ n (S : qw_S), p_Q_freeFrame_L24 n S → ∃ j, j < 6 ∧ (k_Q_freeFrame_L24 n S).1 = nI j := by
  intro n
  induction n with
  | zero => exact fun S h => False.elim h
  | succ n ih =>
    intro S h
    unfold p_Q_freeFrame_L24 at h
    unfold k_Q_freeFrame_L24
    dsimp only at h ⊢
    split
    · exact ⟨_, Nat.mod_lt _ (by decide), rfl⟩
    · rename_i hc
      exact ih _ (pp_neg hc h.2).2
end
