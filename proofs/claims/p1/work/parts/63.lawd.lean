set_option maxHeartbeats 4000000 in
set_option maxRecDepth 100000 in
/-- the law's loop -/
theorem lw_loop {p : Program} {l : Launch} {e : Env} {s : State} {m : MethodId} {below : List Frame} {meth : Method} {c : Code} {D : va_G} {cI cT cS cZ : ClassId} {aK aQ : Nat → Nat} {b L : Nat} {xs : Nat → Int32} (hL : L ≤ 2048) (hr : meth.sig.returnType = ret) (hlocks : meth.locks = false) (hN : L ≤ 4) (C : lw_C p s m c b L xs D cI cT cS cZ aK aQ) : ∀ (n i : Nat), i ≤ L → L + 1 ≤ i + n → ∀ (S : kw_S) (T : qw_S) (H : Heap) (locs : List Loc) (ls : Array Slot), r_R (10 * i) S T → (i = 0 → ∀ q, q < 4 → S.1 7 q 0 = 0) → va_P D classes (wl_W 83 aK (kw_C cI cT cS aK S)) H → va_P D classes (wl_W 18 aQ (qw_C cI cZ aQ T)) H → va_S (fun q => s.heap.size ≤ q) s.heap H locs → lv_has ls 4 [(0, .ref b), (1, .ref (aK 0)), (2, .ref (aQ 0)), (3, .int (nI i))] → W p l e room_1 s m #[Value.ref b] below meth c H locs 101 1259 (lw_Z below #[Value.ref b] s) (F0 m 18 ls []) := by
  have C0 := C
  obtain ⟨XK, XQ, hdis, hml, hX, hbl⟩ := C
  have hx := XK.1
  have hb := XK.2.1
  have hbA : ¬ (fun q : Nat => s.heap.size ≤ q) b := Nat.not_le.mpr hbl
  intro n
  induction n with
  | zero => exact fun i h1 h2 => absurd h2 (by omega)
  | succ n ih =>
    intro i hiL hin S T H locs ls h h0 hPK hPQ hS hl
    refine lv_iload_n hx hb d_L_18 rfl (lv_at hl 3 rfl) ?_
    refine lv_aload_n hx hb d_L_19 rfl (lv_at hl 0 rfl) ?_
    refine va_slen hx hb hX hbl hbA hS d_L_20 ?_
    refine lv_iconst (v := 4) hx hb d_L_21 (by decide) ?_
    refine lv_isub hx hb d_L_22 ?_
    refine lv_icmp_gt (tgt := 347) hx hb d_L_23 (by decide) (fun c1 => ?_) (fun c1 => ?_)
    · refine lv_iconst (v := 1) hx hb d_L_347 (by decide) ?_
      refine va_forget (fun q hq => hS.2.2 q hq) ?_
      refine W.widen (k := 600000) (n := 7302250) (Nat.le_of_ble_eq_true rfl) (Nat.le_of_ble_eq_true rfl) ?_
      exact lw_ret hx hb hr hlocks d_L_348
    · have hi4 : i + 4 ≤ L := lw_hd hL hiL c1
      refine lv_aload_n hx hb d_L_26 rfl (lv_at hl 0 rfl) ?_
      refine lv_iload_n hx hb d_L_27 rfl (lv_at hl 3 rfl) ?_
      refine va_sld hx hb hX hbl hbA hS (vp_in_nI (by omega) (by omega)) d_L_28 ?_
      refine lv_bipush (v := 15) hx hb d_L_29 (by decide) ?_
      refine lv_iand hx hb d_L_31 ?_
      obtain ⟨o1, o2⟩ := i_and15 (xs (nI i).toNatClampNeg)
      refine wl_top o1 ?_
      generalize (xs (nI i).toNatClampNeg &&& 15).toNatClampNeg = v at o2
      have kk : ∀ (S1 : kw_S) (T1 : qw_S) (H1 : Heap) (locs1 : List Loc), r_R (10 * (i + 4)) S1 T1 → va_P D classes (wl_W 83 aK (kw_C cI cT cS aK S1)) H1 → va_P D classes (wl_W 18 aQ (qw_C cI cZ aQ T1)) H1 → va_S (fun q => s.heap.size ≤ q) s.heap H1 locs1 → W p l e room_1 s m #[Value.ref b] below meth c H1 locs1 101 1259 (lw_Z below #[Value.ref b] s) (F0 m 341 ls []) := fun S1 T1 H1 locs1 h hPK hPQ hS => by
        refine lv_iinc (v := nI (i + 4)) (lv' := [(3, .int (nI (i + 4))), (0, .ref b), (1, .ref (aK 0)), (2, .ref (aQ 0))]) hx hb d_L_341 hl (k := 3) rfl (lw_a4i i) (by decide) rfl (fun ls hl => ?_)
        refine lv_goto (tgt := 18) hx hb d_L_344 (by decide) ?_
        exact ih (i + 4) hi4 (by omega) S1 T1 H1 locs1 ls h (fun z => absurd z (by omega)) hPK hPQ hS (lv_sub hl [1, 2, 3, 0] rfl)
      have h9 : v = 0 ∨ v = 1 ∨ v = 2 ∨ v = 3 ∨ v = 4 ∨ v = 5 ∨ v = 6 ∨ v = 7 ∨ v = 8 ∨ 9 ≤ v := by omega
      rcases h9 with rfl | rfl | rfl | rfl | rfl | rfl | rfl | rfl | rfl | h9
      · refine lv_tableIn (tgt := 84) hx hb d_L_32 (by decide) (by decide) rfl (by decide) ?_
        exact lw_case_0 hL C0 hi4 h hPK hPQ hS hl kk
      · refine lv_tableIn (tgt := 97) hx hb d_L_32 (by decide) (by decide) rfl (by decide) ?_
        exact lw_case_1 hL C0 hi4 h hPK hPQ hS hl kk
      · refine lv_tableIn (tgt := 140) hx hb d_L_32 (by decide) (by decide) rfl (by decide) ?_
        exact lw_case_2 hL C0 hi4 h hPK hPQ hS hl kk
      · refine lv_tableIn (tgt := 173) hx hb d_L_32 (by decide) (by decide) rfl (by decide) ?_
        exact lw_case_3 hL C0 hi4 h hPK hPQ hS hl kk
      · refine lv_tableIn (tgt := 196) hx hb d_L_32 (by decide) (by decide) rfl (by decide) ?_
        exact lw_case_4 hL C0 hi4 h hPK hPQ hS hl kk
      · refine lv_tableIn (tgt := 219) hx hb d_L_32 (by decide) (by decide) rfl (by decide) ?_
        exact lw_case_5 hL C0 hi4 h hPK hPQ hS hl hN h0 kk
      · refine lv_tableIn (tgt := 252) hx hb d_L_32 (by decide) (by decide) rfl (by decide) ?_
        exact lw_case_6 hL C0 hi4 h hPK hPQ hS hl kk
      · refine lv_tableIn (tgt := 295) hx hb d_L_32 (by decide) (by decide) rfl (by decide) ?_
        exact lw_case_7 hL C0 hi4 h hPK hPQ hS hl kk
      · refine lv_tableIn (tgt := 318) hx hb d_L_32 (by decide) (by decide) rfl (by decide) ?_
        exact lw_case_8 hL C0 hi4 h hPK hPQ hS hl kk
      · refine lv_tableOut (tgt := 341) hx hb d_L_32 (Or.inr (by rw [nI_toInt (by omega)]; omega)) (by decide) ?_
        exact kk S T H locs (r_R_B h (by omega)) hPK hPQ hS
/-- an object is made; what was there stays -/
theorem wl_newP {p : Program} {l : Launch} {e : Env} {R : Room} {s : State} {m : MethodId} {args : Array Value} {below : List Frame} {meth : Method} {c : Code} {H : Heap} {locs : List Loc} {cells slots : Nat} {Q : State → Prop} {cc : ByteArray} {pc : Nat} {ls : Array Slot} {rest : List Value} {D : va_G} {cl : List vw_C} {tys : List (ClassId × FieldType)} {H0 : Heap} {n : Nat} {ad : Nat → Nat} {ct : Nat → va_E} {own : String} {Ts : List Cond} {A : Nat → Prop} (X : wl_X p s m args c cc own Ts D cl tys n ad A) (hP : va_P D cl (wl_W n ad ct) H) (hS : va_S A H0 H locs) (hA : ∀ q, H0.size ≤ q → A q) (hpin : ad n = H.size) (hinj : wl_inj (n + 1) ad) {C : String} {T : u_T} {N ci index : Nat} (hc : cl[ci]? = some (C, T, N)) (hin : ∀ w ∈ u_ws C T N, w ∈ Ts) (ty : Nat → FieldType) (hty : ∀ k, k < N → parseFieldDescriptor (T k).2.2.1 = some (ty k))
    (hcl : Cond.classLink own index C ∈ Ts) (hinst : Cond.instantiable C N ∈ Ts) (hini : Cond.initialized C ∈ Ts) {fs : List Value} (hfs : ∀ j, j < N → defaultValue (ty j) = vp_V fs j) (he : ct n = .inr (ci, fs)) (hcells : cells + 1 ≤ R.cells) (hslots : slots + N ≤ R.slots) (hdg : decode cc pc = .ok (.new index, 3))
    (kk : ∀ H1 : Heap, H1.size = H.size + 1 → (∀ q : Nat, q < H.size → H1[q]? = H[q]?) → va_P D cl (wl_W (n + 1) ad ct) H1 → wl_X p s m args c cc own Ts D cl tys (n + 1) ad A → va_S A H0 H1 locs → W p l e R s m args below meth c H1 locs (cells + 1) (slots + N) Q (F0 m (pc + 3) ls (.ref (ad n) :: rest))) : W p l e R s m args below meth c H locs cells slots Q (F0 m pc ls rest) := by
  have hKn := X.2.2.2.2.1.1 ci _ hc
  refine W.newcK X.1 X.2.1 X.2.2.1 (X.2.2.2.1 _ hcl) (X.2.2.2.1 _ hinst) (X.2.2.2.1 _ hini) rfl hdg hcells hslots hKn.2.1 rfl fun H1 kC hkC e1 z1 o1 => ?_
  have h := kk H1 z1 o1 (wl_grow hP hpin o1 (by rw [he]; exact ⟨_, hc, (u_born ty X.2.2.2.1 hin hKn hkC e1 hty).to hfs⟩)) (wl_Xs X hinj (by rw [hpin]; exact hA _ hS.1)) (wl_Ss hS z1 o1)
  rw [hpin] at h
  exact h
theorem lw_arrC {U : State} {A : Array Value} {C : String} (h : (Cond.arrayOver (.object C)).before A U = true) : ∃ c : ClassId, ArrOfT U c (.object C) ∧ va_RA U c (.object C) := by
  obtain ⟨comp, c, k, h1, h2, h3, h4, h5⟩ := Cond.arrayOver_spec h
  exact ⟨c, fun n z => ⟨fun k h => (by cases h), k, h3, comp, h4⟩, k, comp, h3, h4, h1, h5⟩
theorem lw_arrI {U : State} {A : Array Value} (h : (Cond.arrayClass .int).before A U = true) : ∃ c : ClassId, ArrOfT U c .int ∧ va_RA U c .int := by
  obtain ⟨c, k, comp, h1, h2, h3⟩ := Cond.arrayClass_spec h
  exact ⟨c, fun n z => ⟨fun k h => (by cases h), k, h2, comp, h3⟩, h1⟩
theorem lw_arrZ {U : State} {A : Array Value} (h : (Cond.arrayClass .boolean).before A U = true) : ∃ c : ClassId, ArrOfT U c .boolean ∧ va_RA U c .boolean := by
  obtain ⟨c, k, comp, h1, h2, h3⟩ := Cond.arrayClass_spec h
  exact ⟨c, fun n z => ⟨fun k h => (by cases h), k, h2, comp, h3⟩, h1⟩
theorem lw_dM : ∀ j, j < 10 → defaultValue (ft_K j) = vp_V [.null, .null, .null, .int 0, .int 0, .int 0, .int 0, .int 0, .int 0, .int 0] j := by
  intro j hj
  rcases (show j = 0 ∨ j = 1 ∨ j = 2 ∨ j = 3 ∨ j = 4 ∨ j = 5 ∨ j = 6 ∨ j = 7 ∨ j = 8 ∨ j = 9 by omega) with rfl | rfl | rfl | rfl | rfl | rfl | rfl | rfl | rfl | rfl <;> rfl
theorem lw_dQ : ∀ j, j < 23 → defaultValue (ft_Q j) = vp_V [.null, .null, .null, .null, .null, .null, .null, .null, .null, .null, .null, .null, .null, .null, .null, .null, .null, .int 0, .int 0, .int 0, .int 0, .int 0, .int 0] j := by
  intro j hj
  rcases (show j = 0 ∨ j = 1 ∨ j = 2 ∨ j = 3 ∨ j = 4 ∨ j = 5 ∨ j = 6 ∨ j = 7 ∨ j = 8 ∨ j = 9 ∨ j = 10 ∨ j = 11 ∨ j = 12 ∨ j = 13 ∨ j = 14 ∨ j = 15 ∨ j = 16 ∨ j = 17 ∨ j = 18 ∨ j = 19 ∨ j = 20 ∨ j = 21 ∨ j = 22 by omega) with rfl | rfl | rfl | rfl | rfl | rfl | rfl | rfl | rfl | rfl | rfl | rfl | rfl | rfl | rfl | rfl | rfl | rfl | rfl | rfl | rfl | rfl | rfl <;> rfl
set_option maxHeartbeats 4000000 in
set_option maxRecDepth 100000 in
theorem whole_start {p : Program} {e : Env} {s : State} {m : MethodId} {below : List Frame} {meth : Method} {c : Code} (l : Launch) {b L : Nat} {xs : Nat → Int32} (hL : L ≤ 4) (C0 : lw_At p s m meth c b L xs) : W p l e room_1 s m #[Value.ref b] below meth c s.heap [] 0 0 (lw_Z below #[Value.ref b] s) (entryFrame m ([Value.ref b] : List Value).toArray 4) := by
  obtain ⟨hx, hb, hr, hml, hown, hts, hX, hbl, hlocks, hgv⟩ := C0
  have htt : ∀ w ∈ TT, w.before #[Value.ref b] s = true := fun w hw => hts w (TT_in w hw)
  have hA : ∀ q : Nat, s.heap.size ≤ q → (fun q : Nat => s.heap.size ≤ q) q := fun _ h => h
  obtain ⟨c0, iS0, hKn0⟩ := u_known (C := R_K) (T := F_K) (N := 10) (n := 10) htt i_K (htt _ wk_K)
  obtain ⟨c1, iS1, hKn1⟩ := u_known (C := R_M) (T := F_M) (N := 8) (n := 8) htt i_M (htt _ wk_M)
  obtain ⟨c2, iS2, hKn2⟩ := u_known (C := R_T) (T := F_T) (N := 9) (n := 9) htt i_T (htt _ wk_T)
  obtain ⟨c3, iS3, hKn3⟩ := u_known (C := R_E) (T := F_E) (N := 6) (n := 6) htt i_E (htt _ wk_E)
  obtain ⟨c4, iS4, hKn4⟩ := u_known (C := R_Q) (T := F_Q) (N := 23) (n := 23) htt i_Q (htt _ wk_Q)
  obtain ⟨D, hKc⟩ : ∃ D : va_G, ∀ (k : Nat) (q : vw_C), classes[k]? = some q → u_Kn s q.1 q.2.1 q.2.2 (D.1 k) (D.2 k) := by
    refine ⟨(fun k => if k = 0 then c0 else if k = 1 then c1 else if k = 2 then c2 else if k = 3 then c3 else c4, fun k => if k = 0 then iS0 else if k = 1 then iS1 else if k = 2 then iS2 else if k = 3 then iS3 else iS4), ?_⟩
    intro k q hq
    match k, hq with
    | 0, hq => cases hq; exact hKn0
    | 1, hq => cases hq; exact hKn1
    | 2, hq => cases hq; exact hKn2
    | 3, hq => cases hq; exact hKn3
    | 4, hq => cases hq; exact hKn4
    | k + 5, hq => simp [classes] at hq
  obtain ⟨cI, aI, bI⟩ := lw_arrI (htt _ wa_I)
  obtain ⟨cZ, aZ, bZ⟩ := lw_arrZ (htt _ wa_Z)
  obtain ⟨cT, aT, bT⟩ := lw_arrC (hts _ lo_T)
  obtain ⟨cS, aS, bS⟩ := lw_arrC (hts _ lo_E)
  have hKK : va_K D classes (kw_ty cI cT cS) s := ⟨hKc, fun k q hq => by
    match k, hq with
    | 0, hq => cases hq; exact ⟨aI, bI⟩
    | 1, hq => cases hq; exact ⟨aT, bT⟩
    | 2, hq => cases hq; exact ⟨aS, bS⟩
    | k + 3, hq => simp [kw_ty] at hq⟩
  have hKQ : va_K D classes (qw_ty cI cZ) s := ⟨hKc, fun k q hq => by
    match k, hq with
    | 0, hq => cases hq; exact ⟨aI, bI⟩
    | 1, hq => cases hq; exact ⟨aZ, bZ⟩
    | k + 2, hq => simp [qw_ty] at hq⟩
  have hE : kw_AO s := ⟨⟨va_AO.of (hts _ lo_E), va_AO.of (hts _ lo_T)⟩, va_Nw.of rfl (hts _ ln_E), va_Nw.of rfl (hts _ ln_T)⟩
  obtain ⟨aK, eK⟩ : ∃ aK : Nat → Nat, ∀ k, aK k = s.heap.size + k := ⟨fun k => s.heap.size + k, fun _ => rfl⟩
  obtain ⟨aQ, eQ⟩ : ∃ aQ : Nat → Nat, ∀ k, aQ k = s.heap.size + 83 + k := ⟨fun k => s.heap.size + 83 + k, fun _ => rfl⟩
  have jK : ∀ n, wl_inj n aK := fun n i j _ _ q => by rw [eK, eK] at q; omega
  have jQ : ∀ n, wl_inj n aQ := fun n i j _ _ q => by rw [eQ, eQ] at q; omega
  have gK : ∀ i, (fun q : Nat => s.heap.size ≤ q) (aK i) := fun i => by show s.heap.size ≤ aK i; rw [eK]; omega
  have gQ : ∀ i, (fun q : Nat => s.heap.size ≤ q) (aQ i) := fun i => by show s.heap.size ≤ aQ i; rw [eQ]; omega
  have XK : ∀ n, wl_X p s m #[Value.ref b] c code R_law TT D classes (kw_ty cI cT cS) n aK (fun q => s.heap.size ≤ q) := fun n => ⟨hx, hb, hown, htt, hKK, jK n, fun i _ => gK i⟩
  have XQ : ∀ n, wl_X p s m #[Value.ref b] c code R_law TT D classes (qw_ty cI cZ) n aQ (fun q => s.heap.size ≤ q) := fun n => ⟨hx, hb, hown, htt, hKQ, jQ n, fun i _ => gQ i⟩
  have hdis : ∀ i j, i < 83 → j < 18 → aK i ≠ aQ j := fun i j hi _ => by rw [eK, eQ]; omega
  have hS : va_S (fun q : Nat => s.heap.size ≤ q) s.heap s.heap [] := va_S.rf
  have hl := lv_entry ([.ref b]) (n := 4) (Nat.le_of_ble_eq_true rfl)
  rw [lg_entry_eq]
  generalize (lg_sl ([.ref b]) ++ List.replicate (4 - (lg_sl ([.ref b])).length) Slot.unset).toArray = ls at hl ⊢
  have hl : lv_has ls 4 [(0, .ref b)] := hl
  have hP0 : va_P D classes (wl_W 0 aK (mi_c0 cI cT cS aK (kk_b cT aK [.null, .null, .null, .int 0, .int 0, .int 0, .int 0, .int 0, .int 0, .int 0] 0) [.null, .null, .null, .int 0, .int 0, .int 0, .int 0, .int 0])) s.heap := fun k q h => absurd (wl_of h).1 (Nat.not_lt_zero k)
  refine wl_newP (XK 0) hP0 hS hA (eK 0) (jK 1) (C := R_K) (T := F_K) (N := 10) (ci := 0) (fs := [.null, .null, .null, .int 0, .int 0, .int 0, .int 0, .int 0, .int 0, .int 0]) rfl i_K ft_K ft_K_ok wl_L_7 wk_K wn_K lw_dM rfl (Nat.le_of_ble_eq_true rfl) (Nat.le_of_ble_eq_true rfl) d_L_0 (fun H1 z1 _ hP X hS => ?_)
  refine lv_dup hx hb d_L_3 rfl ?_
  refine wl_govN (n2 := 83) (mc := 82) (ms := 654) hS hA X.2.2.2.2.2.2 (wl_runIE (As := []) (rest := [.ref (aK 0)]) (na := 0) X hE hml hl.1 hP g_TT (c_K_init (jK 83) H1.size (fun k hk => by rw [eK, z1]; omega)) rfl rfl ⟨lm_L_9, wi_K_init, wn_K, wc_K_init⟩ rfl (by decide +kernel) rfl ⟨Nat.le_of_ble_eq_true rfl, Nat.le_of_ble_eq_true rfl⟩ rfl (Nat.le_of_ble_eq_true rfl) d_L_4 ⟨Nat.le_of_ble_eq_true rfl, Nat.le_of_ble_eq_true rfl⟩) (fun H2 locs hPK hS _ _ => ?_)
  refine lv_astore_n (lv' := [(1, .ref (aK 0)), (0, .ref b)]) hx hb d_L_7 rfl hl (by decide) rfl (fun ls hl => ?_)
  refine wl_size (fun hz1 hz2 => ?_)
  have hH2 : H2.size = s.heap.size + 83 := by
    have h1 := wl_top_ hPK (i := 82) (by decide)
    rw [eK] at h1
    have h2 : H2.size ≤ s.heap.size + 83 := hz2
    omega
  have hQ0 : va_P D classes (wl_W 0 aQ (qi_ct cI cZ aQ [.null, .null, .null, .null, .null, .null, .null, .null, .null, .null, .null, .null, .null, .null, .null, .null, .null, .int 0, .int 0, .int 0, .int 0, .int 0, .int 0])) H2 := fun k q h => absurd (wl_of h).1 (Nat.not_lt_zero k)
  refine wl_newP (XQ 0) hQ0 hS hA ((eQ 0).trans hH2.symm) (jQ 1) (C := R_Q) (T := F_Q) (N := 23) (ci := 4) (fs := [.null, .null, .null, .null, .null, .null, .null, .null, .null, .null, .null, .null, .null, .null, .null, .null, .null, .int 0, .int 0, .int 0, .int 0, .int 0, .int 0]) rfl i_Q ft_Q ft_Q_ok wl_L_10 wk_Q wn_Q lw_dQ rfl (Nat.le_of_ble_eq_true rfl) (Nat.le_of_ble_eq_true rfl) d_L_8 (fun H3 z3 o3 hP X hS => ?_)
  have hPK := hPK.kept (H1 := H3) (fun j q hq => o3 _ (hPK j q hq).lt)
  refine lv_dup hx hb d_L_11 rfl ?_
  refine wl_govN (n2 := 18) (mc := 17) (ms := 572) hS hA X.2.2.2.2.2.2 (wl_runI (As := []) (rest := [.ref (aQ 0)]) (na := 0) X hml hl.1 hP g_TT (c_Q_init (jQ 18) H3.size (fun k hk => by rw [eQ, z3, hH2]; omega)) rfl rfl ⟨lm_L_12, wi_Q_init, wn_Q, wc_Q_init⟩ rfl (by decide +kernel) rfl ⟨Nat.le_of_ble_eq_true rfl, Nat.le_of_ble_eq_true rfl⟩ rfl (Nat.le_of_ble_eq_true rfl) d_L_12 ⟨Nat.le_of_ble_eq_true rfl, Nat.le_of_ble_eq_true rfl⟩) (fun H4 locs hPQ hS _ hk4 => ?_)
  have hPK := wl_kept hPK hk4 (fun a d ha hd q => hdis d a hd (by omega) q.symm)
  refine lv_astore_n (lv' := [(2, .ref (aQ 0)), (1, .ref (aK 0)), (0, .ref b)]) hx hb d_L_15 rfl hl (by decide) rfl (fun ls hl => ?_)
  refine lv_iconst (v := 0) hx hb d_L_16 (by decide) ?_
  refine lv_istore_n (lv' := [(3, .int 0), (2, .ref (aQ 0)), (1, .ref (aK 0)), (0, .ref b)]) hx hb d_L_17 rfl hl (by decide) rfl (fun ls hl => ?_)
  refine W.widen (k := 101) (n := 1259) (Nat.le_of_ble_eq_true rfl) (Nat.le_of_ble_eq_true rfl) ?_
  exact lw_loop (Nat.le_trans hL (by decide)) hr hlocks hL ⟨XK 83, XQ 18, hdis, hml, hX, hbl⟩ (L + 1) 0 (Nat.zero_le L) (by omega) ki_1 qi_0 H4 locs ls r_start (fun _ _ _ => rfl) hPK hPQ hS (lv_sub hl [3, 2, 1, 0] rfl)
