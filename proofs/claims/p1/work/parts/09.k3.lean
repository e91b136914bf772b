theorem kq_fillAW {v : Int32} {q : Nat} : ∀ n i (S : kw_S), (k_J_fill_AW_L5 n i q v S).2 = S.2 := by
  intro n
  induction n with
  | zero => exact fun _ _ => rfl
  | succ n ih => exact fun i S => ih (i + 1) _
theorem kq_new2L {S : kw_S} : ∀ n i, (k_M_newSheet_L2 n i S).2.2 = S.2 := by
  intro n
  induction n with
  | zero => exact fun i => kq_fillAW _ _ _
  | succ n ih =>
    intro i
    by_cases h0 : S.1 10 i 0 ≤ 0
    · have e : k_M_newSheet_L2 (n + 1) i S = k_M_newSheet_J26 i S := if_pos h0
      rw [e]
      exact kq_fillAW _ _ _
    · have e : k_M_newSheet_L2 (n + 1) i S = k_M_newSheet_L2 n (i + 1) S := if_neg h0
      rw [e]
      exact ih (i + 1)
theorem kq_new2 {S : kw_S} : (k_M_newSheet S).2.2 = S.2 := kq_new2L _ _
theorem kq_copy2 {S : kw_S} {e : Nat} : (k_M_copyOf S e).2.2 = S.2 := kq_new2 (S := S)
theorem kq_copyLt {S : kw_S} {e : Nat} : (k_M_copyOf S e).1 < 32 := kq_newSheet (S := S)
theorem kq_J80 {S : kw_S} : (∃ j, j < 6 ∧ (k_M_chooseFrame_J80 S).1 = nI j) ∧ ∀ c, c ≠ 2 → (k_M_chooseFrame_J80 S).2.2 c = S.2 c :=
  ⟨⟨_, Nat.mod_lt _ (by decide), rfl⟩, fun c hc => kw_sn_nc hc⟩
theorem kq_L27 : ∀ n i (S : kw_S), (∃ j, j < 6 ∧ (k_M_chooseFrame_L27 n i S).1 = nI j) ∧ ∀ c, c ≠ 2 → (k_M_chooseFrame_L27 n i S).2.2 c = S.2 c := by
  intro n
  induction n with
  | zero => exact fun i S => kq_J80
  | succ n ih =>
    intro i S
    by_cases h0 : S.1 10 (S.2 5 0 (S.2 2 0 0 % 6)) 1 = 0
    · have e : k_M_chooseFrame_L27 (n + 1) i S = k_M_chooseFrame_J80 S := if_pos h0
      rw [e]
      exact kq_J80
    · have e2 : k_M_chooseFrame_L27 (n + 1) i S = k_M_chooseFrame_L27 n (i + 1) (kw_sn (kw_si S 10 (S.2 5 0 (S.2 2 0 0 % 6)) 1 (0 : Int32)) 2 0 0 ((S.2 2 0 0 % 6 + 1) % 6)) := if_neg h0
      rw [e2]
      obtain ⟨h1, h2⟩ := ih (i + 1) (kw_sn (kw_si S 10 (S.2 5 0 (S.2 2 0 0 % 6)) 1 (0 : Int32)) 2 0 0 ((S.2 2 0 0 % 6 + 1) % 6))
      exact ⟨h1, fun c hc => (h2 c hc).trans (kw_sn_nc hc)⟩
theorem kq_chL2 {S : kw_S} : ∀ n i, i + n = 6 → (∃ j, j < 6 ∧ (k_M_chooseFrame_L2 n i S).1 = nI j) ∧ ∀ c, c ≠ 2 → (k_M_chooseFrame_L2 n i S).2.2 c = S.2 c := by
  intro n
  induction n with
  | zero => exact fun i _ => kq_L27 6 0 S
  | succ n ih =>
    intro i h
    by_cases h0 : S.2 5 0 i < 32
    · have e : k_M_chooseFrame_L2 (n + 1) i S = k_M_chooseFrame_L2 n (i + 1) S := if_pos h0
      rw [e]
      exact ih (i + 1) (by omega)
    · have e : k_M_chooseFrame_L2 (n + 1) i S = (nI i, S) := if_neg h0
      rw [e]
      exact ⟨⟨i, by omega, rfl⟩, fun c _ => rfl⟩
theorem kq_choose {S : kw_S} : (k_M_chooseFrame S).1 = nI (k_M_chooseFrame S).1.toNatClampNeg ∧ (k_M_chooseFrame S).1.toNatClampNeg < 6 := by
  obtain ⟨⟨j, hj, h⟩, -⟩ := kq_chL2 (S := S) 6 0 rfl
  have e : (k_M_chooseFrame S).1 = nI j := h
  rw [e, nI_clamp (by omega)]
  exact ⟨rfl, hj⟩
theorem kq_choose2 {S : kw_S} : ∀ c, c ≠ 2 → (k_M_chooseFrame S).2.2 c = S.2 c := (kq_chL2 (S := S) 6 0 rfl).2
def k_M_layInFrame_J24 (e : Nat) (f : Nat) (S0 : kw_S) : kw_S :=
  let S1 := kw_sn S0 5 0 f e
  let S2 := kw_sn S1 10 e 0 f
  S2
set_option maxHeartbeats 4000000 in
set_option maxRecDepth 100000 in
theorem c_M_layInFrame_J24 {l : Launch} {D : va_G} {cI cT cS : ClassId} {ad : Nat → Nat} {p_ : Program} {e_ : Env} {s_ : State} {m_ : MethodId} {args : Array Value} {below : List Frame} {meth : Method} {c_ : Code} {sz : Nat} (hinj : wl_inj 83 ad) (X : wl_X p_ s_ m_ args c_ b_M_layInFrame R_M TT D classes (kw_ty cI cT cS) 83 ad (wl_A 83 ad s_.heap.size)) (hsz : s_.heap.size = sz) (hml : c_.maxLocals = 3) (hr : meth.sig.returnType = none) (hlocks : meth.locks = false) :
    ∀ (e : Nat) (h_e : e < 32) (x_f : Int32) (f : Nat) (e_f : x_f = nI f) (h_f : f < 6) (S0 : kw_S) (H : Heap) (locs : List Loc) (ls : Array Slot), lv_has ls 3 [(0, .ref (ad 2)), (1, .ref (ad (6 + 2 * e))), (2, .int x_f)] → va_P D classes (wl_W 83 ad (kw_C cI cT cS ad S0)) H → va_S (wl_A 83 ad s_.heap.size) s_.heap H locs → W p_ l e_ (rm_ 2) s_ m_ args below meth c_ H locs 0 0 (MQ below (wl_Qv D classes (kw_ty cI cT cS) 83 ad (kw_C cI cT cS ad (k_M_layInFrame_J24 e f S0)) sz) args s_ 0 0 (wl_A 83 ad sz)) (F0 m_ 24 ls []) := by
  have hx := X.1
  have hb := X.2.1
  have hA : ∀ q, s_.heap.size ≤ q → (wl_A 83 ad s_.heap.size) q := fun q h => Or.inr h
  intro e h_e x_f f e_f h_f S0 H locs ls hl hP hS
  subst e_f
  refine lv_aload_n hx hb d_M_layInFrame_24 rfl (lv_at hl 0 rfl) ?_
  refine wl_get (v := .ref (ad 4)) X hP (i := 2) (by decide) (kw_cM ) rfl i_M 1 (by decide) lf_M_17 rfl d_M_layInFrame_25 ?_
  refine lv_iload_n hx hb d_M_layInFrame_28 rfl (lv_at hl 2 rfl) ?_
  refine lv_aload_n hx hb d_M_layInFrame_29 rfl (lv_at hl 1 rfl) ?_
  refine wl_aast X hP hS (i := 4) (by decide) 2 (r := (R_E, F_E, 6)) (kw_cAF ) rfl (j := f) rfl (by omega) (by decide) (k := (6 + 2 * e)) (by omega) (kw_cE (by omega)) rfl d_M_layInFrame_30 (kw_prAF  (by omega)) (fun H locs hP hS => ?_)
  obtain ⟨S1, eS1⟩ : ∃ z, z = kw_sn S0 5 0 f e := ⟨_, rfl⟩
  rw [← eS1] at hP
  refine lv_aload_n hx hb d_M_layInFrame_31 rfl (lv_at hl 1 rfl) ?_
  refine lv_iload_n hx hb d_M_layInFrame_32 rfl (lv_at hl 2 rfl) ?_
  refine wl_put X hP hS (i := (6 + 2 * e)) (by omega) (kw_cE (by omega)) rfl i_E ft_E ft_E_ok fn_E 2 (by decide) lf_M_41 rfl rfl rfl (Nat.le_of_ble_eq_true rfl) d_M_layInFrame_33 (kw_pE_frame (x := f) (by omega) (by unfold kw_fr; rw [if_pos (by omega)] <;> exact rfl)) (fun H locs hP hS => ?_)
  obtain ⟨S2, eS2⟩ : ∃ z, z = kw_sn S1 10 e 0 f := ⟨_, rfl⟩
  rw [← eS2] at hP
  have hE : k_M_layInFrame_J24 e f S0 = S2 := by
    replace eS2 := eS2.symm
    subst eS2
    replace eS1 := eS1.symm
    subst eS1
    exact rfl
  rw [hE]
  exact wl_vret X hsz hr hlocks hP hS d_M_layInFrame_36
def k_M_layInFrame (S0 : kw_S) (e : Nat) : kw_S :=
  let r1 := (k_M_chooseFrame S0).1
  let S2 := (k_M_chooseFrame S0).2
  if S2.2 5 0 r1.toNatClampNeg < 32 then
    let S5 := k_M_goOut S2 (S2.2 5 0 r1.toNatClampNeg)
    k_M_layInFrame_J24 e r1.toNatClampNeg S5
  else
    k_M_layInFrame_J24 e r1.toNatClampNeg S2
set_option maxHeartbeats 4000000 in
set_option maxRecDepth 100000 in
theorem c_M_layInFrame {l : Launch} {D : va_G} {cI cT cS : ClassId} {ad : Nat → Nat} (hinj : wl_inj 83 ad) (S0 : kw_S) (e : Nat) (h_e : e < 32) (hI : kw_FI S0) : wl_Mv l y_M_layInFrame (Cond.code y_M_layInFrame b_M_layInFrame 3 none :: TT) (rm_ 2) D classes (kw_ty cI cT cS) 83 ad [.ref (ad 2), .ref (ad (6 + 2 * e))] (kw_C cI cT cS ad S0)  (kw_C cI cT cS ad (k_M_layInFrame S0 e)) := by
  intro sz
  refine wl_enter (own := R_M) rfl (by decide) (Nat.le_of_ble_eq_true rfl) hinj (fun p_ e_ s_ m_ below meth c_ ls hsz X hml hr hlocks hl hP hS => ?_)
  have hx := X.1
  have hb := X.2.1
  have hA : ∀ q, s_.heap.size ≤ q → (wl_A 83 ad s_.heap.size) q := fun q h => Or.inr h
  have hl : lv_has ls 3 [(0, .ref (ad 2)), (1, .ref (ad (6 + 2 * e)))] := hl
  refine lv_aload_n hx hb d_M_layInFrame_0 rfl (lv_at hl 0 rfl) ?_
  refine wl_goi2 (cf := kw_C cI cT cS ad) (res := k_M_chooseFrame S0) hS hA X.2.2.2.2.2.2 (wl_runV (As := []) (rest := []) X hml hl.1 hP g_TT (c_M_chooseFrame hinj S0 _) (by decide) (kw_cM ) rfl wv_M_88 (na := 0) (by decide +kernel) rfl ⟨Nat.le_of_ble_eq_true rfl, Nat.le_of_ble_eq_true rfl⟩ rfl (Nat.le_of_ble_eq_true rfl) d_M_layInFrame_1 ⟨Nat.le_refl _, Nat.le_refl _⟩) (fun r1 S2 er1 eS2 H locs hP hS => ?_)
  obtain ⟨hc1, hc2⟩ := kq_choose (S := S0)
  rw [← er1] at hc1 hc2
  have hI1 : kw_FI S2 := by
    rw [eS2]
    exact kw_FI_of hI (kq_choose2 5 (by decide)) (kq_choose2 10 (by decide))
  refine lv_istore_n (lv' := [(2, .int r1), (0, .ref (ad 2)), (1, .ref (ad (6 + 2 * e)))]) hx hb d_M_layInFrame_4 rfl hl (by decide) rfl (fun ls hl => ?_)
  refine lv_aload_n hx hb d_M_layInFrame_5 rfl (lv_at hl 1 rfl) ?_
  refine wl_get (v := .ref (ad 4)) X hP (i := 2) (by decide) (kw_cM ) rfl i_M 1 (by decide) lf_M_17 rfl d_M_layInFrame_6 ?_
  refine lv_iload_n hx hb d_M_layInFrame_9 rfl (lv_at hl 0 rfl) ?_
  refine wl_aald X hP (i := 4) (by decide) 2 (kw_cAF ) rfl (j := r1.toNatClampNeg) hc1 (by omega) (by decide) d_M_layInFrame_10 ?_
  refine kw_caseE (fun h3 => ?_) (fun h3 => ?_)
  · skip
    refine lv_ifnull hx hb d_M_layInFrame_11 ?_
    refine lv_aload_n hx hb d_M_layInFrame_14 rfl (lv_at hl 1 rfl) ?_
    refine lv_aload_n hx hb d_M_layInFrame_15 rfl (lv_at hl 1 rfl) ?_
    refine wl_get (v := .ref (ad 4)) X hP (i := 2) (by decide) (kw_cM ) rfl i_M 1 (by decide) lf_M_17 rfl d_M_layInFrame_16 ?_
    refine lv_iload_n hx hb d_M_layInFrame_19 rfl (lv_at hl 0 rfl) ?_
    refine wl_aald X hP (i := 4) (by decide) 2 (kw_cAF ) rfl (j := r1.toNatClampNeg) hc1 (by omega) (by decide) d_M_layInFrame_20 ?_
    have hn4 : S2.2 5 0 r1.toNatClampNeg < 32 := h3
    refine wl_topv (y := .ref (ad (6 + 2 * (S2.2 5 0 r1.toNatClampNeg)))) (kw_nnE hn4) ?_
    refine wl_gov2 (cf := kw_C cI cT cS ad) (S2 := k_M_goOut S2 (S2.2 5 0 r1.toNatClampNeg)) hS hA X.2.2.2.2.2.2 (wl_runV (As := [.ref (ad (6 + 2 * (S2.2 5 0 r1.toNatClampNeg)))]) (rest := []) X hml hl.1 hP g_TT (c_M_goOut hinj S2 (S2.2 5 0 r1.toNatClampNeg) (by omega) (by have := hI1 _ hc2 h3; omega) _) (by decide) (kw_cM ) rfl wv_M_92 (na := 1) (by decide +kernel) rfl ⟨Nat.le_of_ble_eq_true rfl, Nat.le_of_ble_eq_true rfl⟩ rfl (Nat.le_of_ble_eq_true rfl) d_M_layInFrame_21 ⟨Nat.le_refl _, Nat.le_refl _⟩) (fun S5 eS5 H locs hP hS => ?_)
    have hE : k_M_layInFrame S0 e = k_M_layInFrame_J24 e r1.toNatClampNeg S5 := by
      replace eS5 := eS5.symm
      subst eS5
      replace eS2 := eS2.symm
      subst eS2
      replace er1 := er1.symm
      subst er1
      exact ((if_pos h3).trans rfl)
    rw [hE]
    exact c_M_layInFrame_J24 hinj X hsz hml hr hlocks e (by omega) r1 r1.toNatClampNeg hc1 (by omega) S5 _ _ _ (lv_sub hl [1, 2, 0] rfl) hP hS
  · skip
    refine lv_ifnullN (tgt := 24) hx hb d_M_layInFrame_11 (by decide) ?_
    have hE : k_M_layInFrame S0 e = k_M_layInFrame_J24 e r1.toNatClampNeg S2 := by
      replace eS2 := eS2.symm
      subst eS2
      replace er1 := er1.symm
      subst er1
      exact ((if_neg h3).trans rfl)
    rw [hE]
    exact c_M_layInFrame_J24 hinj X hsz hml hr hlocks e (by omega) r1 r1.toNatClampNeg hc1 (by omega) S2 _ _ _ (lv_sub hl [1, 2, 0] rfl) hP hS
theorem kq_goOut2 {S : kw_S} {e : Nat} : ∀ c, c ≠ 5 → c ≠ 6 → c ≠ 10 → (k_M_goOut S e).2 c = S.2 c := by
  intro c h5 h6 h10
  have hJ : ∀ U : kw_S, (k_M_goOut_J49 e U).2 c = U.2 c := fun U => (kw_sn_nc h10).trans (kw_sn_nc h5)
  unfold k_M_goOut
  by_cases h0 : S.1 10 e 2 = 0
  · rw [if_pos h0]
    exact hJ S
  · rw [if_neg h0]
    by_cases h1 : kw_sl (S.2 10 e 1) = -2
    · rw [if_pos h1]
      exact (hJ _).trans ((kw_sn_nc h6).trans (kw_sn_nc h10))
    · rw [if_neg h1]
      exact hJ _
theorem kq_lay2 {S : kw_S} {e : Nat} : ∀ c, c ≠ 2 → c ≠ 5 → c ≠ 6 → c ≠ 10 → (k_M_layInFrame S e).2 c = S.2 c := by
  intro c h2 h5 h6 h10
  have hJ : ∀ (f : Nat) (U : kw_S), (k_M_layInFrame_J24 e f U).2 c = U.2 c := fun f U => (kw_sn_nc h10).trans (kw_sn_nc h5)
  unfold k_M_layInFrame
  dsimp only
  by_cases h0 : (k_M_chooseFrame S).2.2 5 0 (k_M_chooseFrame S).1.toNatClampNeg < 32
  · rw [if_pos h0]
    exact (hJ _ _).trans ((kq_goOut2 c h5 h6 h10).trans (kq_choose2 c h2))
  · rw [if_neg h0]
    exact (hJ _ _).trans (kq_choose2 c h2)
theorem kq_goOut5 {S : kw_S} {e f : Nat} (he : S.2 10 e 0 = f) : (k_M_goOut S e).2 5 0 = fun d => if d = f then 32 else S.2 5 0 d := by
  have hJ : ∀ U : kw_S, U.2 10 e 0 = f → U.2 5 = S.2 5 → (k_M_goOut_J49 e U).2 5 0 = fun d => if d = f then 32 else S.2 5 0 d := by
    intro U h1 h2
    funext d
    show (kw_sn (kw_sn U 5 0 (U.2 10 e 0) 32) 10 e 0 6).2 5 0 d = _
    rw [kw_sn_at, if_neg (by simp), kw_sn_at, h1, h2]
    simp
  have hS : ∀ U : kw_S, U.2 = S.2 → (k_M_goOut_J34 e U).2 5 0 = fun d => if d = f then 32 else S.2 5 0 d := fun U h => hJ _ (by show U.2 10 e 0 = f; rw [h]; exact he) (by show U.2 5 = S.2 5; rw [h])
  unfold k_M_goOut
  by_cases h0 : S.1 10 e 2 = 0
  · rw [if_pos h0]
    exact hJ S he rfl
  · rw [if_neg h0]
    by_cases h1 : kw_sl (S.2 10 e 1) = -2
    · rw [if_pos h1]
      refine hJ _ ?_ ?_
      · show (kw_sn (kw_sn S 10 e 1 (k_M_leastFreeSlot S).toNatClampNeg) 6 0 ((kw_sn S 10 e 1 (k_M_leastFreeSlot S).toNatClampNeg).2 10 e 1) e).2 10 e 0 = f
        rw [kw_sn_at, if_neg (by simp), kw_sn_at, if_neg (by simp)]
        exact he
      · show (kw_sn (kw_sn S 10 e 1 (k_M_leastFreeSlot S).toNatClampNeg) 6 0 ((kw_sn S 10 e 1 (k_M_leastFreeSlot S).toNatClampNeg).2 10 e 1) e).2 5 = S.2 5
        rw [kw_sn_nc (by decide), kw_sn_nc (by decide)]
    · rw [if_neg h1]
      exact hS S rfl
theorem kq_goOut10 {S : kw_S} {e : Nat} : ∀ x, (k_M_goOut S e).2 10 x 0 = if x = e then 6 else S.2 10 x 0 := by
  intro x
  have hJ : ∀ U : kw_S, (∀ y, U.2 10 y 0 = S.2 10 y 0) → (k_M_goOut_J49 e U).2 10 x 0 = if x = e then 6 else S.2 10 x 0 := by
    intro U h
    show (kw_sn (kw_sn U 5 0 (U.2 10 e 0) 32) 10 e 0 6).2 10 x 0 = _
    rw [kw_sn_at]
    by_cases hx : x = e
    · rw [if_pos ⟨rfl, hx, rfl⟩, if_pos hx]
    · rw [if_neg (fun q => hx q.2.1), if_neg hx, kw_sn_at, if_neg (by simp)]
      exact h x
  unfold k_M_goOut
  by_cases h0 : S.1 10 e 2 = 0
  · rw [if_pos h0]
    exact hJ S (fun _ => rfl)
  · rw [if_neg h0]
    by_cases h1 : kw_sl (S.2 10 e 1) = -2
    · rw [if_pos h1]
      refine hJ _ (fun y => ?_)
      show (kw_sn (kw_sn S 10 e 1 (k_M_leastFreeSlot S).toNatClampNeg) 6 0 ((kw_sn S 10 e 1 (k_M_leastFreeSlot S).toNatClampNeg).2 10 e 1) e).2 10 y 0 = _
      rw [kw_sn_at, if_neg (by simp), kw_sn_at, if_neg (by simp)]
    · rw [if_neg h1]
      exact hJ _ (fun _ => rfl)
theorem kq_FI_J24 {S : kw_S} {e f : Nat} (hI : kw_FI S) (he : ¬ S.2 10 e 0 < 6) (hf : f < 6) : kw_FI (k_M_layInFrame_J24 e f S) := by
  intro g hg hlt
  have e5 : ∀ d, (k_M_layInFrame_J24 e f S).2 5 0 d = if d = f then e else S.2 5 0 d := by
    intro d
    show (kw_sn (kw_sn S 5 0 f e) 10 e 0 f).2 5 0 d = _
    rw [kw_sn_at, if_neg (by simp), kw_sn_at]
    simp
  have e10 : ∀ x, (k_M_layInFrame_J24 e f S).2 10 x 0 = if x = e then f else S.2 10 x 0 := by
    intro x
    show (kw_sn (kw_sn S 5 0 f e) 10 e 0 f).2 10 x 0 = _
    rw [kw_sn_at, kw_sn_at]
    simp
  rw [e5] at hlt ⊢
  rw [e10]
  by_cases h : g = f
  · rw [if_pos h, if_pos rfl, h]
  · rw [if_neg h] at hlt ⊢
    have h1 := hI g hg hlt
    by_cases h2 : S.2 5 0 g = e
    · rw [h2] at h1
      exact absurd hg (by omega)
    · rw [if_neg h2]
      exact h1
theorem kq_FI_lay {S : kw_S} {e : Nat} (hI : kw_FI S) (he : ¬ S.2 10 e 0 < 6) : kw_FI (k_M_layInFrame S e) := by
  have hc := kq_choose (S := S)
  have hI1 : kw_FI (k_M_chooseFrame S).2 := kw_FI_of hI (kq_choose2 5 (by decide)) (kq_choose2 10 (by decide))
  have he1 : ¬ (k_M_chooseFrame S).2.2 10 e 0 < 6 := by rw [kq_choose2 10 (by decide)]; exact he
  generalize hS1 : (k_M_chooseFrame S).2 = S1 at hI1 he1
  generalize hf : (k_M_chooseFrame S).1.toNatClampNeg = f at hc
  have key : k_M_layInFrame S e = if S1.2 5 0 f < 32 then k_M_layInFrame_J24 e f (k_M_goOut S1 (S1.2 5 0 f)) else k_M_layInFrame_J24 e f S1 := by
    rw [← hS1, ← hf]
    rfl
  rw [key]
  by_cases h0 : S1.2 5 0 f < 32
  · rw [if_pos h0]
    have h1 := hI1 f hc.2 h0
    refine kq_FI_J24 (fun g hg hlt => ?_) ?_ hc.2
    · rw [kq_goOut5 h1] at hlt ⊢
      dsimp only at hlt ⊢
      by_cases h2 : g = f
      · rw [if_pos h2] at hlt
        exact absurd hlt (by omega)
      · rw [if_neg h2] at hlt ⊢
        have h3 := hI1 g hg hlt
        rw [kq_goOut10]
        by_cases h4 : S1.2 5 0 g = S1.2 5 0 f
        · rw [h4, h1] at h3
          exact absurd h3.symm h2
        · rw [if_neg h4]
          exact h3
    · rw [kq_goOut10]
      by_cases h4 : e = S1.2 5 0 f
      · rw [if_pos h4]
        omega
      · rw [if_neg h4]
        exact he1
  · rw [if_neg h0]
    exact kq_FI_J24 hI1 he1 hc.2
def k_M_reach_J118 (w : Int32) (x : Nat) (S0 : kw_S) : Nat × kw_S :=
  let S1 := kw_si S0 10 x 1 (1 : Int32)
  if w = 0 then
    (x, S1)
  else
    let S3 := kw_si S1 10 x 2 (1 : Int32)
    (x, S3)
set_option maxHeartbeats 4000000 in
set_option maxRecDepth 100000 in
theorem c_M_reach_J118 {l : Launch} {D : va_G} {cI cT cS : ClassId} {ad : Nat → Nat} {p_ : Program} {e_ : Env} {s_ : State} {m_ : MethodId} {args : Array Value} {below : List Frame} {meth : Method} {c_ : Code} {sz : Nat} (hinj : wl_inj 83 ad) (X : wl_X p_ s_ m_ args c_ b_M_reach R_M TT D classes (kw_ty cI cT cS) 83 ad (wl_A 83 ad s_.heap.size)) (hsz : s_.heap.size = sz) (hml : c_.maxLocals = 5) (hr : meth.sig.returnType = some (.object "SheetKernel$Sheet")) (hlocks : meth.locks = false) :
    ∀ (w : Int32) (x : Nat) (h_x : x < 32) (S0 : kw_S) (H : Heap) (locs : List Loc) (ls : Array Slot), lv_has ls 5 [(0, .ref (ad 2)), (3, .int w), (4, .ref (ad (6 + 2 * x)))] → va_P D classes (wl_W 83 ad (kw_C cI cT cS ad S0)) H → va_S (wl_A 83 ad s_.heap.size) s_.heap H locs → W p_ l e_ (rm_ 3) s_ m_ args below meth c_ H locs 0 0 (MQ below (wl_Qr D classes (kw_ty cI cT cS) 83 ad (ad (6 + 2 * ((k_M_reach_J118 w x S0).1))) (kw_C cI cT cS ad ((k_M_reach_J118 w x S0).2)) sz) args s_ 0 0 (wl_A 83 ad sz)) (F0 m_ 118 ls []) := by
  have hx := X.1
  have hb := X.2.1
  have hA : ∀ q, s_.heap.size ≤ q → (wl_A 83 ad s_.heap.size) q := fun q h => Or.inr h
  intro w x h_x S0 H locs ls hl hP hS
  refine lv_aload hx hb d_M_reach_118 (lv_at hl 2 rfl) ?_
  refine lv_iconst (v := 1) hx hb d_M_reach_120 (by decide) ?_
  refine wl_put X hP hS (i := (6 + 2 * x)) (by omega) (kw_cE (by omega)) rfl i_E ft_E ft_E_ok fn_E 4 (by decide) lf_M_66 rfl rfl rfl (Nat.le_of_ble_eq_true rfl) d_M_reach_121 (kw_pE_used (by omega)) (fun H locs hP hS => ?_)
  obtain ⟨S1, eS1⟩ : ∃ z, z = kw_si S0 10 x 1 (1 : Int32) := ⟨_, rfl⟩
  rw [← eS1] at hP
  refine lv_iload_n hx hb d_M_reach_124 rfl (lv_at hl 1 rfl) ?_
  refine lv_if_eq (tgt := 134) hx hb d_M_reach_125 (by decide) (fun c2 => ?_) (fun c2 => ?_)
  · skip
    refine lv_aload hx hb d_M_reach_134 (lv_at hl 2 rfl) ?_
    have hE : k_M_reach_J118 w x S0 = (x, S1) := by
      replace eS1 := eS1.symm
      subst eS1
      exact ((if_pos c2).trans rfl)
    rw [hE]
    exact wl_aret X hsz hr hlocks hP hS d_M_reach_136
  · skip
    refine lv_aload hx hb d_M_reach_128 (lv_at hl 2 rfl) ?_
    refine lv_iconst (v := 1) hx hb d_M_reach_130 (by decide) ?_
    refine wl_put X hP hS (i := (6 + 2 * x)) (by omega) (kw_cE (by omega)) rfl i_E ft_E ft_E_ok fn_E 5 (by decide) lf_M_70 rfl rfl rfl (Nat.le_of_ble_eq_true rfl) d_M_reach_131 (kw_pE_changed (by omega)) (fun H locs hP hS => ?_)
    obtain ⟨S3, eS3⟩ : ∃ z, z = kw_si S1 10 x 2 (1 : Int32) := ⟨_, rfl⟩
    rw [← eS3] at hP
    refine lv_aload hx hb d_M_reach_134 (lv_at hl 2 rfl) ?_
    have hE : k_M_reach_J118 w x S0 = (x, S3) := by
      replace eS3 := eS3.symm
      subst eS3
      replace eS1 := eS1.symm
      subst eS1
      exact ((if_neg c2).trans rfl)
    rw [hE]
    exact wl_aret X hsz hr hlocks hP hS d_M_reach_136
def k_M_reach_J83 (p : Nat) (k : Nat) (w : Int32) (x : Nat) (S0 : kw_S) : Nat × kw_S :=
  if w = 0 then
    k_M_reach_J118 w x S0
  else
    if (S0.1 10 x 0) ≤ (1 : Int32) then
      k_M_reach_J118 w x S0
    else
      let r3 := (k_M_copyOf S0 x).1
      let S4 := (k_M_copyOf S0 x).2
      let S5 := kw_sn S4 9 p k r3
      let S6 := k_M_layInFrame S5 r3
      k_M_reach_J118 w r3 S6
set_option maxHeartbeats 4000000 in
set_option maxRecDepth 100000 in
theorem c_M_reach_J83 {l : Launch} {D : va_G} {cI cT cS : ClassId} {ad : Nat → Nat} {p_ : Program} {e_ : Env} {s_ : State} {m_ : MethodId} {args : Array Value} {below : List Frame} {meth : Method} {c_ : Code} {sz : Nat} (hinj : wl_inj 83 ad) (X : wl_X p_ s_ m_ args c_ b_M_reach R_M TT D classes (kw_ty cI cT cS) 83 ad (wl_A 83 ad s_.heap.size)) (hsz : s_.heap.size = sz) (hml : c_.maxLocals = 5) (hr : meth.sig.returnType = some (.object "SheetKernel$Sheet")) (hlocks : meth.locks = false) :
    ∀ (p : Nat) (h_p : p < 4) (x_k : Int32) (k : Nat) (e_k : x_k = nI k) (h_k : k < 8) (w : Int32) (x : Nat) (h_x : x < 32) (S0 : kw_S) (hI : kw_FI S0) (H : Heap) (locs : List Loc) (ls : Array Slot), lv_has ls 5 [(0, .ref (ad 2)), (1, .ref (ad (71 + 3 * p))), (2, .int x_k), (3, .int w), (4, .ref (ad (6 + 2 * x)))] → va_P D classes (wl_W 83 ad (kw_C cI cT cS ad S0)) H → va_S (wl_A 83 ad s_.heap.size) s_.heap H locs → W p_ l e_ (rm_ 3) s_ m_ args below meth c_ H locs 0 0 (MQ below (wl_Qr D classes (kw_ty cI cT cS) 83 ad (ad (6 + 2 * ((k_M_reach_J83 p k w x S0).1))) (kw_C cI cT cS ad ((k_M_reach_J83 p k w x S0).2)) sz) args s_ 0 0 (wl_A 83 ad sz)) (F0 m_ 83 ls []) := by
  have hx := X.1
  have hb := X.2.1
  have hA : ∀ q, s_.heap.size ≤ q → (wl_A 83 ad s_.heap.size) q := fun q h => Or.inr h
  intro p h_p x_k k e_k h_k w x h_x S0 hI H locs ls hl hP hS
  subst e_k
  refine lv_iload_n hx hb d_M_reach_83 rfl (lv_at hl 3 rfl) ?_
  refine lv_if_eq (tgt := 118) hx hb d_M_reach_84 (by decide) (fun c1 => ?_) (fun c1 => ?_)
  · skip
    have hE : k_M_reach_J83 p k w x S0 = k_M_reach_J118 w x S0 := by
      exact ((if_pos c1).trans rfl)
    rw [hE]
    exact c_M_reach_J118 hinj X hsz hml hr hlocks w x (by omega) S0 _ _ _ (lv_sub hl [0, 3, 4] rfl) hP hS
  · skip
    refine lv_aload hx hb d_M_reach_87 (lv_at hl 4 rfl) ?_
    refine wl_get (v := .int (S0.1 10 x 0)) X hP (i := (6 + 2 * x)) (by omega) (kw_cE (by omega)) rfl i_E 1 (by decide) lf_M_59 rfl d_M_reach_89 ?_
    refine lv_iconst (v := 1) hx hb d_M_reach_92 (by decide) ?_
    refine lv_icmp_le (tgt := 118) hx hb d_M_reach_93 (by decide) (fun c2 => ?_) (fun c2 => ?_)
    · skip
      have hE : k_M_reach_J83 p k w x S0 = k_M_reach_J118 w x S0 := by
        exact ((if_neg c1).trans ((if_pos c2).trans rfl))
      rw [hE]
      exact c_M_reach_J118 hinj X hsz hml hr hlocks w x (by omega) S0 _ _ _ (lv_sub hl [0, 3, 4] rfl) hP hS
    · skip
      refine lv_aload_n hx hb d_M_reach_96 rfl (lv_at hl 0 rfl) ?_
      refine lv_aload hx hb d_M_reach_97 (lv_at hl 4 rfl) ?_
      refine wl_gor2 (cf := kw_C cI cT cS ad) (pl := fun r => (6 + 2 * r)) (res := k_M_copyOf S0 x) hS hA X.2.2.2.2.2.2 (wl_runV (As := [.ref (ad (6 + 2 * x))]) (rest := []) X hml hl.1 hP g_TT (c_M_copyOf hinj S0 x (by omega) _) (by decide) (kw_cM ) rfl wv_M_62 (na := 1) (by decide +kernel) rfl ⟨Nat.le_of_ble_eq_true rfl, Nat.le_of_ble_eq_true rfl⟩ rfl (Nat.le_of_ble_eq_true rfl) d_M_reach_99 ⟨Nat.le_refl _, Nat.le_refl _⟩) (fun r3 S4 er3 eS4 H locs hP hS => ?_)
      have hc_r : r3 < 32 := by
        rw [er3]
        exact kq_copyLt
      have hI1 : kw_FI S4 := by
        rw [eS4]
        exact kw_FI_of hI (by rw [kq_copy2]) (by rw [kq_copy2])
      refine lv_astore (lv' := [(4, .ref (ad (6 + 2 * r3))), (0, .ref (ad 2)), (1, .ref (ad (71 + 3 * p))), (2, .int (nI k)), (3, .int w)]) hx hb d_M_reach_102 hl (by decide) rfl (fun ls hl => ?_)
      refine lv_aload_n hx hb d_M_reach_104 rfl (lv_at hl 2 rfl) ?_
      refine wl_get (v := .ref (ad (73 + 3 * p))) X hP (i := (71 + 3 * p)) (by omega) (kw_cT (by omega)) rfl i_T 1 (by decide) lf_M_32 rfl d_M_reach_105 ?_
      refine lv_iload_n hx hb d_M_reach_108 rfl (lv_at hl 3 rfl) ?_
      refine lv_aload hx hb d_M_reach_109 (lv_at hl 0 rfl) ?_
      refine wl_aast X hP hS (i := (73 + 3 * p)) (by omega) 2 (r := (R_E, F_E, 6)) (kw_cAP (by omega)) rfl (j := k) rfl (by omega) (by decide) (k := (6 + 2 * r3)) (by omega) (kw_cE (by omega)) rfl d_M_reach_111 (kw_prAP (by omega) (by omega)) (fun H locs hP hS => ?_)
      obtain ⟨S5, eS5⟩ : ∃ z, z = kw_sn S4 9 p k r3 := ⟨_, rfl⟩
      rw [← eS5] at hP
      refine lv_aload_n hx hb d_M_reach_112 rfl (lv_at hl 1 rfl) ?_
      refine lv_aload hx hb d_M_reach_113 (lv_at hl 0 rfl) ?_
      refine wl_gov2 (cf := kw_C cI cT cS ad) (S2 := k_M_layInFrame S5 r3) hS hA X.2.2.2.2.2.2 (wl_runV (As := [.ref (ad (6 + 2 * r3))]) (rest := []) X hml hl.1 hP g_TT (c_M_layInFrame hinj S5 r3 (by omega) (by rw [eS5]; exact kw_FI_of hI1 (kw_sn_nc (by decide)) (kw_sn_nc (by decide))) _) (by decide) (kw_cM ) rfl wv_M_55 (na := 1) (by decide +kernel) rfl ⟨Nat.le_of_ble_eq_true rfl, Nat.le_of_ble_eq_true rfl⟩ rfl (Nat.le_of_ble_eq_true rfl) d_M_reach_115 ⟨Nat.le_refl _, Nat.le_refl _⟩) (fun S6 eS6 H locs hP hS => ?_)
      have hE : k_M_reach_J83 p k w x S0 = k_M_reach_J118 w r3 S6 := by
        replace eS6 := eS6.symm
        subst eS6
        replace eS5 := eS5.symm
        subst eS5
        replace eS4 := eS4.symm
        subst eS4
        replace er3 := er3.symm
        subst er3
        exact ((if_neg c1).trans ((if_neg c2).trans rfl))
      rw [hE]
      exact c_M_reach_J118 hinj X hsz hml hr hlocks w r3 (by omega) S6 _ _ _ (lv_sub hl [1, 4, 0] rfl) hP hS
def k_M_reach_J19 (p : Nat) (k : Nat) (w : Int32) (S0 : kw_S) : Nat × kw_S :=
  if (kw_fr (S0.2 10 (S0.2 9 p k) 0)) = (-2 : Int32) then
    let S3 := kw_si S0 7 p 4 ((S0.1 7 p 4) + (1 : Int32))
    let S4 := kw_si S3 2 0 0 ((S3.1 2 0 0) + (1 : Int32))
    if (kw_sl (S4.2 10 (S0.2 9 p k) 1)) = (-2 : Int32) then
      let S6 := k_M_layInFrame S4 (S0.2 9 p k)
      k_M_reach_J83 p k w (S0.2 9 p k) S6
    else
      let S7 := kw_si S4 2 0 2 ((S4.1 2 0 2) + (1 : Int32))
      let S8 := k_M_layInFrame S7 (S0.2 9 p k)
      k_M_reach_J83 p k w (S0.2 9 p k) S8
  else
    k_M_reach_J83 p k w (S0.2 9 p k) S0
set_option maxHeartbeats 4000000 in
set_option maxRecDepth 100000 in
theorem c_M_reach_J19 {l : Launch} {D : va_G} {cI cT cS : ClassId} {ad : Nat → Nat} {p_ : Program} {e_ : Env} {s_ : State} {m_ : MethodId} {args : Array Value} {below : List Frame} {meth : Method} {c_ : Code} {sz : Nat} (hinj : wl_inj 83 ad) (X : wl_X p_ s_ m_ args c_ b_M_reach R_M TT D classes (kw_ty cI cT cS) 83 ad (wl_A 83 ad s_.heap.size)) (hsz : s_.heap.size = sz) (hml : c_.maxLocals = 5) (hr : meth.sig.returnType = some (.object "SheetKernel$Sheet")) (hlocks : meth.locks = false) :
    ∀ (p : Nat) (h_p : p < 4) (x_k : Int32) (k : Nat) (e_k : x_k = nI k) (h_k : k < 8) (w : Int32) (S0 : kw_S) (hI : kw_FI S0) (hk : S0.2 9 p k < 32) (H : Heap) (locs : List Loc) (ls : Array Slot), lv_has ls 5 [(0, .ref (ad 2)), (1, .ref (ad (71 + 3 * p))), (2, .int x_k), (3, .int w)] → va_P D classes (wl_W 83 ad (kw_C cI cT cS ad S0)) H → va_S (wl_A 83 ad s_.heap.size) s_.heap H locs → W p_ l e_ (rm_ 3) s_ m_ args below meth c_ H locs 0 0 (MQ below (wl_Qr D classes (kw_ty cI cT cS) 83 ad (ad (6 + 2 * ((k_M_reach_J19 p k w S0).1))) (kw_C cI cT cS ad ((k_M_reach_J19 p k w S0).2)) sz) args s_ 0 0 (wl_A 83 ad sz)) (F0 m_ 19 ls []) := by
  have hx := X.1
  have hb := X.2.1
  have hA : ∀ q, s_.heap.size ≤ q → (wl_A 83 ad s_.heap.size) q := fun q h => Or.inr h
  intro p h_p x_k k e_k h_k w S0 hI hk H locs ls hl hP hS
  subst e_k
  refine lv_aload_n hx hb d_M_reach_19 rfl (lv_at hl 1 rfl) ?_
  refine wl_get (v := .ref (ad (73 + 3 * p))) X hP (i := (71 + 3 * p)) (by omega) (kw_cT (by omega)) rfl i_T 1 (by decide) lf_M_32 rfl d_M_reach_20 ?_
  refine lv_iload_n hx hb d_M_reach_23 rfl (lv_at hl 2 rfl) ?_
  refine wl_aald X hP (i := (73 + 3 * p)) (by omega) 2 (kw_cAP (by omega)) rfl (j := k) rfl (by omega) (by decide) d_M_reach_24 ?_
  have hn1 : S0.2 9 p k < 32 := hk
  refine wl_topv (y := .ref (ad (6 + 2 * (S0.2 9 p k)))) (kw_nnE hn1) ?_
  refine lv_astore (lv' := [(4, .ref (ad (6 + 2 * (S0.2 9 p k)))), (0, .ref (ad 2)), (1, .ref (ad (71 + 3 * p))), (2, .int (nI k)), (3, .int w)]) hx hb d_M_reach_25 hl (by decide) rfl (fun ls hl => ?_)
  refine lv_aload hx hb d_M_reach_27 (lv_at hl 0 rfl) ?_
  refine wl_get (v := .int (kw_fr (S0.2 10 (S0.2 9 p k) 0))) X hP (i := (6 + 2 * (S0.2 9 p k))) (by omega) (kw_cE (by omega)) rfl i_E 2 (by decide) lf_M_41 rfl d_M_reach_29 ?_
  refine lv_bipush (v := -2) hx hb d_M_reach_32 (by decide) ?_
  refine lv_icmp_ne (tgt := 83) hx hb d_M_reach_34 (by decide) (fun c2 => ?_) (fun c2 => ?_)
  · skip
    have hE : k_M_reach_J19 p k w S0 = k_M_reach_J83 p k w (S0.2 9 p k) S0 := by
      exact ((if_neg c2).trans rfl)
    rw [hE]
    exact c_M_reach_J83 hinj X hsz hml hr hlocks p (by omega) (nI k) k rfl (by omega) w (S0.2 9 p k) (by omega) S0 (by first | exact hI2 | exact hI) _ _ _ (lv_sub hl [1, 2, 3, 4, 0] rfl) hP hS
  · skip
    have hf_ := c2
    refine lv_aload_n hx hb d_M_reach_37 rfl (lv_at hl 2 rfl) ?_
    refine lv_dup hx hb d_M_reach_38 rfl ?_
    refine wl_get (v := .int (S0.1 7 p 4)) X hP (i := (71 + 3 * p)) (by omega) (kw_cT (by omega)) rfl i_T 7 (by decide) lf_M_45 rfl d_M_reach_39 ?_
    refine lv_iconst (v := 1) hx hb d_M_reach_42 (by decide) ?_
    refine lv_iadd hx hb d_M_reach_43 ?_
    refine wl_put X hP hS (i := (71 + 3 * p)) (by omega) (kw_cT (by omega)) rfl i_T ft_T ft_T_ok fn_T 7 (by decide) lf_M_45 rfl rfl rfl (Nat.le_of_ble_eq_true rfl) d_M_reach_44 (kw_pT_faults (by omega)) (fun H locs hP hS => ?_)
    obtain ⟨S3, eS3⟩ : ∃ z, z = kw_si S0 7 p 4 ((S0.1 7 p 4) + (1 : Int32)) := ⟨_, rfl⟩
    rw [← eS3] at hP
    refine lv_aload_n hx hb d_M_reach_47 rfl (lv_at hl 1 rfl) ?_
    refine lv_dup hx hb d_M_reach_48 rfl ?_
    refine wl_get (v := .int (S3.1 2 0 0)) X hP (i := 2) (by decide) (kw_cM ) rfl i_M 4 (by decide) lf_M_48 rfl d_M_reach_49 ?_
    refine lv_iconst (v := 1) hx hb d_M_reach_52 (by decide) ?_
    refine lv_iadd hx hb d_M_reach_53 ?_
    refine wl_put X hP hS (i := 2) (by decide) (kw_cM ) rfl i_M ft_M ft_M_ok fn_M 4 (by decide) lf_M_48 rfl rfl rfl (Nat.le_of_ble_eq_true rfl) d_M_reach_54 (kw_pM_faults ) (fun H locs hP hS => ?_)
    obtain ⟨S4, eS4⟩ : ∃ z, z = kw_si S3 2 0 0 ((S3.1 2 0 0) + (1 : Int32)) := ⟨_, rfl⟩
    rw [← eS4] at hP
    refine lv_aload hx hb d_M_reach_57 (lv_at hl 0 rfl) ?_
    refine wl_get (v := .int (kw_sl (S4.2 10 (S0.2 9 p k) 1))) X hP (i := (6 + 2 * (S0.2 9 p k))) (by omega) (kw_cE (by omega)) rfl i_E 3 (by decide) lf_M_49 rfl d_M_reach_59 ?_
    refine lv_bipush (v := -2) hx hb d_M_reach_62 (by decide) ?_
    refine lv_icmp_eq (tgt := 77) hx hb d_M_reach_64 (by decide) (fun c5 => ?_) (fun c5 => ?_)
    · skip
      refine lv_aload_n hx hb d_M_reach_77 rfl (lv_at hl 1 rfl) ?_
      refine lv_aload hx hb d_M_reach_78 (lv_at hl 0 rfl) ?_
      refine wl_gov2 (cf := kw_C cI cT cS ad) (S2 := k_M_layInFrame S4 (S0.2 9 p k)) hS hA X.2.2.2.2.2.2 (wl_runV (As := [.ref (ad (6 + 2 * (S0.2 9 p k)))]) (rest := []) X hml hl.1 hP g_TT (c_M_layInFrame hinj S4 (S0.2 9 p k) (by omega) (by subst_vars; exact hI) _) (by decide) (kw_cM ) rfl wv_M_55 (na := 1) (by decide +kernel) rfl ⟨Nat.le_of_ble_eq_true rfl, Nat.le_of_ble_eq_true rfl⟩ rfl (Nat.le_of_ble_eq_true rfl) d_M_reach_80 ⟨Nat.le_refl _, Nat.le_refl _⟩) (fun S6 eS6 H locs hP hS => ?_)
      have hI2 : kw_FI S6 := by
        rw [eS6]
        refine kq_FI_lay (by subst_vars; exact hI) ?_
        have h9 := kw_fr_no hf_
        subst_vars
        exact h9
      have hE : k_M_reach_J19 p k w S0 = k_M_reach_J83 p k w (S0.2 9 p k) S6 := by
        replace eS6 := eS6.symm
        subst eS6
        replace eS4 := eS4.symm
        subst eS4
        replace eS3 := eS3.symm
        subst eS3
        exact ((if_pos c2).trans ((if_pos c5).trans rfl))
      rw [hE]
      exact c_M_reach_J83 hinj X hsz hml hr hlocks p (by omega) (nI k) k rfl (by omega) w (S0.2 9 p k) (by omega) S6 (by first | exact hI2 | exact hI) _ _ _ (lv_sub hl [1, 2, 3, 4, 0] rfl) hP hS
    · skip
      refine lv_aload_n hx hb d_M_reach_67 rfl (lv_at hl 1 rfl) ?_
      refine lv_dup hx hb d_M_reach_68 rfl ?_
      refine wl_get (v := .int (S4.1 2 0 2)) X hP (i := 2) (by decide) (kw_cM ) rfl i_M 6 (by decide) lf_M_52 rfl d_M_reach_69 ?_
      refine lv_iconst (v := 1) hx hb d_M_reach_72 (by decide) ?_
      refine lv_iadd hx hb d_M_reach_73 ?_
      refine wl_put X hP hS (i := 2) (by decide) (kw_cM ) rfl i_M ft_M ft_M_ok fn_M 6 (by decide) lf_M_52 rfl rfl rfl (Nat.le_of_ble_eq_true rfl) d_M_reach_74 (kw_pM_read ) (fun H locs hP hS => ?_)
      obtain ⟨S7, eS7⟩ : ∃ z, z = kw_si S4 2 0 2 ((S4.1 2 0 2) + (1 : Int32)) := ⟨_, rfl⟩
      rw [← eS7] at hP
      refine lv_aload_n hx hb d_M_reach_77 rfl (lv_at hl 1 rfl) ?_
      refine lv_aload hx hb d_M_reach_78 (lv_at hl 0 rfl) ?_
      refine wl_gov2 (cf := kw_C cI cT cS ad) (S2 := k_M_layInFrame S7 (S0.2 9 p k)) hS hA X.2.2.2.2.2.2 (wl_runV (As := [.ref (ad (6 + 2 * (S0.2 9 p k)))]) (rest := []) X hml hl.1 hP g_TT (c_M_layInFrame hinj S7 (S0.2 9 p k) (by omega) (by subst_vars; exact hI) _) (by decide) (kw_cM ) rfl wv_M_55 (na := 1) (by decide +kernel) rfl ⟨Nat.le_of_ble_eq_true rfl, Nat.le_of_ble_eq_true rfl⟩ rfl (Nat.le_of_ble_eq_true rfl) d_M_reach_80 ⟨Nat.le_refl _, Nat.le_refl _⟩) (fun S8 eS8 H locs hP hS => ?_)
      have hI2 : kw_FI S8 := by
        rw [eS8]
        refine kq_FI_lay (by subst_vars; exact hI) ?_
        have h9 := kw_fr_no hf_
        subst_vars
        exact h9
      have hE : k_M_reach_J19 p k w S0 = k_M_reach_J83 p k w (S0.2 9 p k) S8 := by
        replace eS8 := eS8.symm
        subst eS8
        replace eS7 := eS7.symm
        subst eS7
        replace eS4 := eS4.symm
        subst eS4
        replace eS3 := eS3.symm
        subst eS3
        exact ((if_pos c2).trans ((if_neg c5).trans rfl))
      rw [hE]
      exact c_M_reach_J83 hinj X hsz hml hr hlocks p (by omega) (nI k) k rfl (by omega) w (S0.2 9 p k) (by omega) S8 (by first | exact hI2 | exact hI) _ _ _ (lv_sub hl [1, 2, 3, 4, 0] rfl) hP hS
def k_M_reach (S0 : kw_S) (p : Nat) (k : Nat) (w : Int32) : Nat × kw_S :=
  if S0.2 9 p k < 32 then
    k_M_reach_J19 p k w S0
  else
    let r2 := (k_M_newSheet S0).1
    let S3 := (k_M_newSheet S0).2
    let S4 := kw_sn S3 9 p k r2
    k_M_reach_J19 p k w S4
set_option maxHeartbeats 4000000 in
set_option maxRecDepth 100000 in
theorem c_M_reach {l : Launch} {D : va_G} {cI cT cS : ClassId} {ad : Nat → Nat} (hinj : wl_inj 83 ad) (S0 : kw_S) (p : Nat) (h_p : p < 4) (x_k : Int32) (k : Nat) (e_k : x_k = nI k) (h_k : k < 8) (w : Int32) (hI : kw_FI S0) : wl_Mr l y_M_reach (Cond.code y_M_reach b_M_reach 5 (some (.object "SheetKernel$Sheet")) :: TT) (rm_ 3) D classes (kw_ty cI cT cS) 83 ad [.ref (ad 2), .ref (ad (71 + 3 * p)), .int x_k, .int w] (kw_C cI cT cS ad S0) (ad (6 + 2 * ((k_M_reach S0 p k w).1))) (kw_C cI cT cS ad ((k_M_reach S0 p k w).2)) := by
  subst e_k
  intro sz
  refine wl_enter (own := R_M) rfl (by decide) (Nat.le_of_ble_eq_true rfl) hinj (fun p_ e_ s_ m_ below meth c_ ls hsz X hml hr hlocks hl hP hS => ?_)
  have hx := X.1
  have hb := X.2.1
  have hA : ∀ q, s_.heap.size ≤ q → (wl_A 83 ad s_.heap.size) q := fun q h => Or.inr h
  have hl : lv_has ls 5 [(0, .ref (ad 2)), (1, .ref (ad (71 + 3 * p))), (2, .int (nI k)), (3, .int w)] := hl
  refine lv_aload_n hx hb d_M_reach_0 rfl (lv_at hl 1 rfl) ?_
  refine wl_get (v := .ref (ad (73 + 3 * p))) X hP (i := (71 + 3 * p)) (by omega) (kw_cT (by omega)) rfl i_T 1 (by decide) lf_M_32 rfl d_M_reach_1 ?_
  refine lv_iload_n hx hb d_M_reach_4 rfl (lv_at hl 2 rfl) ?_
  refine wl_aald X hP (i := (73 + 3 * p)) (by omega) 2 (kw_cAP (by omega)) rfl (j := k) rfl (by omega) (by decide) d_M_reach_5 ?_
  refine kw_caseE (fun h1 => ?_) (fun h1 => ?_)
  · skip
    refine lv_ifnonnull (tgt := 19) hx hb d_M_reach_6 (by decide) ?_
    have hE : k_M_reach S0 p k w = k_M_reach_J19 p k w S0 := by
      exact ((if_pos h1).trans rfl)
    rw [hE]
    exact c_M_reach_J19 hinj X hsz hml hr hlocks p (by omega) (nI k) k rfl (by omega) w S0 (by first | exact hI | (rw [eS0]; exact kw_FI_of hI1 (kw_sn_nc (by decide)) (kw_sn_nc (by decide)))) (by first | exact h1 | (rw [eS0, kw_sn_at, if_pos ⟨rfl, rfl, rfl⟩]; exact hc_r)) _ _ _ (lv_sub hl [0, 1, 2, 3] rfl) hP hS
  · skip
    refine lv_ifnonnullN hx hb d_M_reach_6 ?_
    refine lv_aload_n hx hb d_M_reach_9 rfl (lv_at hl 1 rfl) ?_
    refine wl_get (v := .ref (ad (73 + 3 * p))) X hP (i := (71 + 3 * p)) (by omega) (kw_cT (by omega)) rfl i_T 1 (by decide) lf_M_32 rfl d_M_reach_10 ?_
    refine lv_iload_n hx hb d_M_reach_13 rfl (lv_at hl 2 rfl) ?_
    refine lv_aload_n hx hb d_M_reach_14 rfl (lv_at hl 0 rfl) ?_
    refine wl_gor2 (cf := kw_C cI cT cS ad) (pl := fun r => (6 + 2 * r)) (res := k_M_newSheet S0) hS hA X.2.2.2.2.2.2 (wl_runV (As := []) (rest := [.int (nI k), .ref (ad (73 + 3 * p))]) X hml hl.1 hP g_TT (c_M_newSheet hinj S0 _) (by decide) (kw_cM ) rfl wv_M_37 (na := 0) (by decide +kernel) rfl ⟨Nat.le_of_ble_eq_true rfl, Nat.le_of_ble_eq_true rfl⟩ rfl (Nat.le_of_ble_eq_true rfl) d_M_reach_15 ⟨Nat.le_refl _, Nat.le_refl _⟩) (fun r2 S3 er2 eS3 H locs hP hS => ?_)
    have hc_r : r2 < 32 := by
      rw [er2]
      exact kq_newSheet
    have hI1 : kw_FI S3 := by
      rw [eS3]
      exact kw_FI_of hI (by rw [kq_new2]) (by rw [kq_new2])
    refine wl_aast X hP hS (i := (73 + 3 * p)) (by omega) 2 (r := (R_E, F_E, 6)) (kw_cAP (by omega)) rfl (j := k) rfl (by omega) (by decide) (k := (6 + 2 * r2)) (by omega) (kw_cE (by omega)) rfl d_M_reach_18 (kw_prAP (by omega) (by omega)) (fun H locs hP hS => ?_)
    obtain ⟨S4, eS4⟩ : ∃ z, z = kw_sn S3 9 p k r2 := ⟨_, rfl⟩
    rw [← eS4] at hP
    have hE : k_M_reach S0 p k w = k_M_reach_J19 p k w S4 := by
      replace eS4 := eS4.symm
      subst eS4
      replace eS3 := eS3.symm
      subst eS3
      replace er2 := er2.symm
      subst er2
      exact ((if_neg h1).trans rfl)
    rw [hE]
    exact c_M_reach_J19 hinj X hsz hml hr hlocks p (by omega) (nI k) k rfl (by omega) w S4 (by first | exact hI | (rw [eS4]; exact kw_FI_of hI1 (kw_sn_nc (by decide)) (kw_sn_nc (by decide)))) (by first | exact h1 | (rw [eS4, kw_sn_at, if_pos ⟨rfl, rfl, rfl⟩]; exact hc_r)) _ _ _ (lv_sub hl [0, 1, 2, 3] rfl) hP hS
