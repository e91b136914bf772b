theorem kq_J118 {w : Int32} {x : Nat} {S : kw_S} : (k_M_reach_J118 w x S).1 = x ∧ (k_M_reach_J118 w x S).2.2 = S.2 := by
  unfold k_M_reach_J118
  dsimp only
  by_cases h : w = 0
  · rw [if_pos h]
    exact ⟨rfl, rfl⟩
  · rw [if_neg h]
    exact ⟨rfl, rfl⟩
theorem kq_J83 {p k x : Nat} {w : Int32} {S : kw_S} (hx : x < 32) : (k_M_reach_J83 p k w x S).1 < 32 ∧ (k_M_reach_J83 p k w x S).2.2 0 = S.2 0 := by
  have h1 : ∀ y U, y < 32 → (k_M_reach_J118 w y U).1 < 32 ∧ (k_M_reach_J118 w y U).2.2 0 = U.2 0 := fun y U hy => ⟨by rw [kq_J118.1]; exact hy, by rw [kq_J118.2]⟩
  unfold k_M_reach_J83
  dsimp only
  by_cases h : w = 0
  · rw [if_pos h]
    exact h1 x S hx
  · rw [if_neg h]
    by_cases h2 : S.1 10 x 0 ≤ 1
    · rw [if_pos h2]
      exact h1 x S hx
    · rw [if_neg h2]
      obtain ⟨a, b⟩ := h1 (k_M_copyOf S x).1 (k_M_layInFrame (kw_sn (k_M_copyOf S x).2 9 p k (k_M_copyOf S x).1) (k_M_copyOf S x).1) kq_copyLt
      refine ⟨a, b.trans ?_⟩
      rw [kq_lay2 0 (by decide) (by decide) (by decide) (by decide), kw_sn_nc (by decide), kq_copy2]
theorem kq_J83r {p k x : Nat} {S : kw_S} (hI : kw_FI S) : kw_FI (k_M_reach_J83 p k 0 x S).2 := by
  have e : k_M_reach_J83 p k 0 x S = k_M_reach_J118 0 x S := if_pos rfl
  rw [e]
  exact kw_FI_of hI (by rw [kq_J118.2]) (by rw [kq_J118.2])
theorem kq_J19 {p k : Nat} {w : Int32} {S : kw_S} (hk : S.2 9 p k < 32) : (k_M_reach_J19 p k w S).1 < 32 ∧ (k_M_reach_J19 p k w S).2.2 0 = S.2 0 := by
  unfold k_M_reach_J19
  dsimp only
  by_cases h : kw_fr (S.2 10 (S.2 9 p k) 0) = -2
  · rw [if_pos h]
    by_cases h2 : kw_sl ((kw_si (kw_si S 7 p 4 (S.1 7 p 4 + 1)) 2 0 0 ((kw_si S 7 p 4 (S.1 7 p 4 + 1)).1 2 0 0 + 1)).2 10 (S.2 9 p k) 1) = -2
    · rw [if_pos h2]
      obtain ⟨a, b⟩ := kq_J83 (p := p) (k := k) (w := w) (S := k_M_layInFrame (kw_si (kw_si S 7 p 4 (S.1 7 p 4 + 1)) 2 0 0 ((kw_si S 7 p 4 (S.1 7 p 4 + 1)).1 2 0 0 + 1)) (S.2 9 p k)) hk
      exact ⟨a, b.trans (kq_lay2 0 (by decide) (by decide) (by decide) (by decide))⟩
    · rw [if_neg h2]
      refine ⟨(kq_J83 hk).1, (kq_J83 hk).2.trans ?_⟩
      exact kq_lay2 0 (by decide) (by decide) (by decide) (by decide)
  · rw [if_neg h]
    exact kq_J83 hk
theorem kq_J19r {p k : Nat} {S : kw_S} (hI : kw_FI S) : kw_FI (k_M_reach_J19 p k 0 S).2 := by
  unfold k_M_reach_J19
  dsimp only
  by_cases h : kw_fr (S.2 10 (S.2 9 p k) 0) = -2
  · rw [if_pos h]
    by_cases h2 : kw_sl ((kw_si (kw_si S 7 p 4 (S.1 7 p 4 + 1)) 2 0 0 ((kw_si S 7 p 4 (S.1 7 p 4 + 1)).1 2 0 0 + 1)).2 10 (S.2 9 p k) 1) = -2
    · rw [if_pos h2]
      exact kq_J83r (kq_FI_lay (S := kw_si (kw_si S 7 p 4 (S.1 7 p 4 + 1)) 2 0 0 ((kw_si S 7 p 4 (S.1 7 p 4 + 1)).1 2 0 0 + 1)) hI (kw_fr_no h))
    · rw [if_neg h2]
      refine kq_J83r (kq_FI_lay ?_ ?_)
      · exact hI
      · exact kw_fr_no h
  · rw [if_neg h]
    exact kq_J83r hI
theorem kq_reach {p k : Nat} {w : Int32} {S : kw_S} : (k_M_reach S p k w).1 < 32 ∧ (k_M_reach S p k w).2.2 0 = S.2 0 := by
  unfold k_M_reach
  dsimp only
  by_cases h : S.2 9 p k < 32
  · rw [if_pos h]
    exact kq_J19 h
  · rw [if_neg h]
    have hk : (kw_sn (k_M_newSheet S).2 9 p k (k_M_newSheet S).1).2 9 p k < 32 := by
      rw [kw_sn_at, if_pos ⟨rfl, rfl, rfl⟩]
      exact kq_newSheet
    refine ⟨(kq_J19 hk).1, (kq_J19 hk).2.trans ?_⟩
    rw [kw_sn_nc (by decide), kq_new2]
theorem kq_reachR {p k : Nat} {S : kw_S} (hI : kw_FI S) : kw_FI (k_M_reach S p k 0).2 := by
  unfold k_M_reach
  dsimp only
  by_cases h : S.2 9 p k < 32
  · rw [if_pos h]
    exact kq_J19r hI
  · rw [if_neg h]
    refine kq_J19r (kw_FI_of hI ?_ ?_)
    · rw [kw_sn_nc (by decide), kq_new2]
    · rw [kw_sn_nc (by decide), kq_new2]
def k_M_fetch (S0 : kw_S) (p : Nat) (a : Nat) : Int32 × kw_S :=
  let r1 := (k_M_reach S0 p (a / 8) (0 : Int32)).1
  let S2 := (k_M_reach S0 p (a / 8) (0 : Int32)).2
  (S2.1 11 r1 (a % 8), S2)
set_option maxHeartbeats 4000000 in
set_option maxRecDepth 100000 in
theorem c_M_fetch {l : Launch} {D : va_G} {cI cT cS : ClassId} {ad : Nat → Nat} (hinj : wl_inj 83 ad) (S0 : kw_S) (p : Nat) (h_p : p < 4) (x_a : Int32) (a : Nat) (e_a : x_a = nI a) (h_a : a < 64) (hI : kw_FI S0) : wl_Mi l y_M_fetch (Cond.code y_M_fetch b_M_fetch 3 (some .int) :: TT) (rm_ 4) D classes (kw_ty cI cT cS) 83 ad [.ref (ad 2), .ref (ad (71 + 3 * p)), .int x_a] (kw_C cI cT cS ad S0) ((k_M_fetch S0 p a).1) (kw_C cI cT cS ad ((k_M_fetch S0 p a).2)) := by
  subst e_a
  intro sz
  refine wl_enter (own := R_M) rfl (by decide) (Nat.le_of_ble_eq_true rfl) hinj (fun p_ e_ s_ m_ below meth c_ ls hsz X hml hr hlocks hl hP hS => ?_)
  have hx := X.1
  have hb := X.2.1
  have hA : ∀ q, s_.heap.size ≤ q → (wl_A 83 ad s_.heap.size) q := fun q h => Or.inr h
  have hl : lv_has ls 3 [(0, .ref (ad 2)), (1, .ref (ad (71 + 3 * p))), (2, .int (nI a))] := hl
  refine lv_aload_n hx hb d_M_fetch_0 rfl (lv_at hl 0 rfl) ?_
  refine lv_aload_n hx hb d_M_fetch_1 rfl (lv_at hl 1 rfl) ?_
  refine lv_iload_n hx hb d_M_fetch_2 rfl (lv_at hl 2 rfl) ?_
  refine lv_bipush (v := 8) hx hb d_M_fetch_3 (by decide) ?_
  refine lv_idiv hx hb d_M_fetch_5 (by decide) ?_
  refine lv_iconst (v := 0) hx hb d_M_fetch_6 (by decide) ?_
  refine wl_gor2 (cf := kw_C cI cT cS ad) (pl := fun r => (6 + 2 * r)) (res := k_M_reach S0 p (a / 8) (0 : Int32)) hS hA X.2.2.2.2.2.2 (wl_runV (As := [.ref (ad (71 + 3 * p)), .int ((nI a) / (8 : Int32)), .int (0 : Int32)]) (rest := []) X hml hl.1 hP g_TT (c_M_reach hinj S0 p (by omega) ((nI a) / (8 : Int32)) (a / 8) (show (nI a) / (8 : Int32) = nI (a / 8) from pk_div (a := a) (d := 8) (by omega) (by omega) (by omega)) (by omega) (0 : Int32) hI _) (by decide) (kw_cM ) rfl wv_M_24 (na := 3) (by decide +kernel) rfl ⟨Nat.le_of_ble_eq_true rfl, Nat.le_of_ble_eq_true rfl⟩ rfl (Nat.le_of_ble_eq_true rfl) d_M_fetch_7 ⟨Nat.le_refl _, Nat.le_refl _⟩) (fun r1 S2 er1 eS2 H locs hP hS => ?_)
  have hc_r : r1 < 32 := by
    rw [er1]
    exact kq_reach.1
  refine wl_get (v := .ref (ad (7 + 2 * r1))) X hP (i := (6 + 2 * r1)) (by omega) (kw_cE (by omega)) rfl i_E 0 (by decide) lf_M_28 rfl d_M_fetch_10 ?_
  refine lv_iload_n hx hb d_M_fetch_13 rfl (lv_at hl 2 rfl) ?_
  refine lv_bipush (v := 8) hx hb d_M_fetch_14 (by decide) ?_
  refine lv_irem hx hb d_M_fetch_16 (by decide) ?_
  refine wl_iald X hP (i := (7 + 2 * r1)) (by omega) 0 (kw_cAW (by omega)) rfl (j := (a % 8)) (show (nI a) - (nI a) / (8 : Int32) * (8 : Int32) = nI (a % 8) from pk_rem (a := a) (d := 8) (by omega) (by omega) (by omega)) (by omega) (by decide) d_M_fetch_17 ?_
  have hE : k_M_fetch S0 p a = (S2.1 11 r1 (a % 8), S2) := by
    replace eS2 := eS2.symm
    subst eS2
    replace er1 := er1.symm
    subst er1
    exact rfl
  rw [hE]
  exact wl_iret X hsz hr hlocks hP hS d_M_fetch_18
def k_M_write (S0 : kw_S) (p : Nat) (a : Nat) (w : Int32) : kw_S :=
  let r1 := (k_M_reach S0 p (a / 8) (1 : Int32)).1
  let S2 := (k_M_reach S0 p (a / 8) (1 : Int32)).2
  let S3 := kw_si S2 11 r1 (a % 8) w
  S3
set_option maxHeartbeats 4000000 in
set_option maxRecDepth 100000 in
theorem c_M_write {l : Launch} {D : va_G} {cI cT cS : ClassId} {ad : Nat → Nat} (hinj : wl_inj 83 ad) (S0 : kw_S) (p : Nat) (h_p : p < 4) (x_a : Int32) (a : Nat) (e_a : x_a = nI a) (h_a : a < 64) (w : Int32) (hI : kw_FI S0) : wl_Mv l y_M_write (Cond.code y_M_write b_M_write 4 none :: TT) (rm_ 4) D classes (kw_ty cI cT cS) 83 ad [.ref (ad 2), .ref (ad (71 + 3 * p)), .int x_a, .int w] (kw_C cI cT cS ad S0)  (kw_C cI cT cS ad (k_M_write S0 p a w)) := by
  subst e_a
  intro sz
  refine wl_enter (own := R_M) rfl (by decide) (Nat.le_of_ble_eq_true rfl) hinj (fun p_ e_ s_ m_ below meth c_ ls hsz X hml hr hlocks hl hP hS => ?_)
  have hx := X.1
  have hb := X.2.1
  have hA : ∀ q, s_.heap.size ≤ q → (wl_A 83 ad s_.heap.size) q := fun q h => Or.inr h
  have hl : lv_has ls 4 [(0, .ref (ad 2)), (1, .ref (ad (71 + 3 * p))), (2, .int (nI a)), (3, .int w)] := hl
  refine lv_aload_n hx hb d_M_write_0 rfl (lv_at hl 0 rfl) ?_
  refine lv_aload_n hx hb d_M_write_1 rfl (lv_at hl 1 rfl) ?_
  refine lv_iload_n hx hb d_M_write_2 rfl (lv_at hl 2 rfl) ?_
  refine lv_bipush (v := 8) hx hb d_M_write_3 (by decide) ?_
  refine lv_idiv hx hb d_M_write_5 (by decide) ?_
  refine lv_iconst (v := 1) hx hb d_M_write_6 (by decide) ?_
  refine wl_gor2 (cf := kw_C cI cT cS ad) (pl := fun r => (6 + 2 * r)) (res := k_M_reach S0 p (a / 8) (1 : Int32)) hS hA X.2.2.2.2.2.2 (wl_runV (As := [.ref (ad (71 + 3 * p)), .int ((nI a) / (8 : Int32)), .int (1 : Int32)]) (rest := []) X hml hl.1 hP g_TT (c_M_reach hinj S0 p (by omega) ((nI a) / (8 : Int32)) (a / 8) (show (nI a) / (8 : Int32) = nI (a / 8) from pk_div (a := a) (d := 8) (by omega) (by omega) (by omega)) (by omega) (1 : Int32) hI _) (by decide) (kw_cM ) rfl wv_M_24 (na := 3) (by decide +kernel) rfl ⟨Nat.le_of_ble_eq_true rfl, Nat.le_of_ble_eq_true rfl⟩ rfl (Nat.le_of_ble_eq_true rfl) d_M_write_7 ⟨Nat.le_refl _, Nat.le_refl _⟩) (fun r1 S2 er1 eS2 H locs hP hS => ?_)
  have hc_r : r1 < 32 := by
    rw [er1]
    exact kq_reach.1
  refine wl_get (v := .ref (ad (7 + 2 * r1))) X hP (i := (6 + 2 * r1)) (by omega) (kw_cE (by omega)) rfl i_E 0 (by decide) lf_M_28 rfl d_M_write_10 ?_
  refine lv_iload_n hx hb d_M_write_13 rfl (lv_at hl 2 rfl) ?_
  refine lv_bipush (v := 8) hx hb d_M_write_14 (by decide) ?_
  refine lv_irem hx hb d_M_write_16 (by decide) ?_
  refine lv_iload_n hx hb d_M_write_17 rfl (lv_at hl 3 rfl) ?_
  refine wl_iast X hP hS (i := (7 + 2 * r1)) (by omega) 0 (kw_cAW (by omega)) rfl (j := (a % 8)) (show (nI a) - (nI a) / (8 : Int32) * (8 : Int32) = nI (a % 8) from pk_rem (a := a) (d := 8) (by omega) (by omega) (by omega)) (by omega) (by decide) d_M_write_18 (kw_pAW (by omega)) (fun H locs hP hS => ?_)
  obtain ⟨S3, eS3⟩ : ∃ z, z = kw_si S2 11 r1 (a % 8) w := ⟨_, rfl⟩
  rw [← eS3] at hP
  have hE : k_M_write S0 p a w = S3 := by
    replace eS3 := eS3.symm
    subst eS3
    replace eS2 := eS2.symm
    subst eS2
    replace er1 := er1.symm
    subst er1
    exact rfl
  rw [hE]
  exact wl_vret X hsz hr hlocks hP hS d_M_write_19
theorem kq_fetch0 {p a : Nat} {S : kw_S} : (k_M_fetch S p a).2.2 0 = S.2 0 := (kq_reach (S := S)).2
theorem kq_fetchI {p a : Nat} {S : kw_S} (hI : kw_FI S) : kw_FI (k_M_fetch S p a).2 := kq_reachR hI
theorem kw_r1 (w : Int32) : (w &&& 3) = nI (w &&& 3).toNatClampNeg ∧ (w &&& 3).toNatClampNeg < 4 := sk_and3 w
def kw_rr (w : Int32) : Nat := (w >>> ((4 : Int32) &&& 31) &&& 3).toNatClampNeg
def kw_rs (w : Int32) : Nat := (w >>> ((6 : Int32) &&& 31) &&& 3).toNatClampNeg
theorem kw_rr_eq (w : Int32) : (w >>> ((4 : Int32) &&& 31)) &&& (3 : Int32) = nI (kw_rr w) ∧ kw_rr w < 4 := sk_and3 _
theorem kw_rs_eq (w : Int32) : (w >>> ((6 : Int32) &&& 31)) &&& (3 : Int32) = nI (kw_rs w) ∧ kw_rs w < 4 := sk_and3 _
theorem kq_lt40 {x : Nat} (hv : x < 2 ^ 30) (h : ¬ (40 : Int32) ≤ nI x) : x < 40 := by
  apply Nat.lt_of_not_le
  intro h2
  exact h (nI_le (a := 40) h2 (by omega))
def k_K_end (S0 : kw_S) (p : Nat) (x : Int32) : kw_S :=
  let S1 := k_M_releaseAll S0 p
  let S2 := k_K_orphanChildren S1 p
  if (kw_pa (S2.2 7 p 0)) = (-2 : Int32) then
    let S8 := k_T_leave S2 p
    S8
  else
    let S4 := kw_si S2 7 p 0 (4 : Int32)
    let S5 := kw_si S4 7 p 2 x
    if (S5.1 7 (S5.2 7 p 0) 0) = (3 : Int32) then
      let S7 := kw_si S5 7 (S5.2 7 p 0) 0 (1 : Int32)
      S7
    else
      S5
set_option maxHeartbeats 4000000 in
set_option maxRecDepth 100000 in
theorem c_K_end {l : Launch} {D : va_G} {cI cT cS : ClassId} {ad : Nat → Nat} (hinj : wl_inj 83 ad) (S0 : kw_S) (x_p : Int32) (p : Nat) (e_p : x_p = nI p) (h_p : p < 4) (x : Int32) : wl_Mv l y_K_end (Cond.code y_K_end b_K_end 5 none :: TT) (rm_ 2) D classes (kw_ty cI cT cS) 83 ad [.ref (ad 0), .int x_p, .int x] (kw_C cI cT cS ad S0)  (kw_C cI cT cS ad (k_K_end S0 p x)) := by
  subst e_p
  intro sz
  refine wl_enter (own := R_K) rfl (by decide) (Nat.le_of_ble_eq_true rfl) hinj (fun p_ e_ s_ m_ below meth c_ ls hsz X hml hr hlocks hl hP hS => ?_)
  have hx := X.1
  have hb := X.2.1
  have hA : ∀ q, s_.heap.size ≤ q → (wl_A 83 ad s_.heap.size) q := fun q h => Or.inr h
  have hl : lv_has ls 5 [(0, .ref (ad 0)), (1, .int (nI p)), (2, .int x)] := hl
  refine lv_aload_n hx hb d_K_end_0 rfl (lv_at hl 0 rfl) ?_
  refine wl_get (v := .ref (ad 1)) X hP (i := 0) (by decide) (kw_cK ) rfl i_K 0 (by decide) lf_K_11 rfl d_K_end_1 ?_
  refine lv_iload_n hx hb d_K_end_4 rfl (lv_at hl 1 rfl) ?_
  refine wl_aald X hP (i := 1) (by decide) 1 (kw_cAT ) rfl (j := p) rfl (by omega) (by decide) d_K_end_5 ?_
  refine wl_topv (y := .ref (ad (71 + 3 * p))) rfl ?_
  refine lv_astore_n (lv' := [(3, .ref (ad (71 + 3 * p))), (0, .ref (ad 0)), (1, .int (nI p)), (2, .int x)]) hx hb d_K_end_6 rfl hl (by decide) rfl (fun ls hl => ?_)
  refine lv_aload_n hx hb d_K_end_7 rfl (lv_at hl 1 rfl) ?_
  refine wl_get (v := .ref (ad 2)) X hP (i := 0) (by decide) (kw_cK ) rfl i_K 1 (by decide) lf_K_18 rfl d_K_end_8 ?_
  refine lv_aload_n hx hb d_K_end_11 rfl (lv_at hl 0 rfl) ?_
  refine wl_gov2 (cf := kw_C cI cT cS ad) (S2 := k_M_releaseAll S0 p) hS hA X.2.2.2.2.2.2 (wl_runV (As := [.ref (ad (71 + 3 * p))]) (rest := []) X hml hl.1 hP g_TT (c_M_releaseAll hinj S0 p (by omega) _) (by decide) (kw_cM ) rfl wv_K_183 (na := 1) (by decide +kernel) rfl ⟨Nat.le_of_ble_eq_true rfl, Nat.le_of_ble_eq_true rfl⟩ rfl (Nat.le_of_ble_eq_true rfl) d_K_end_12 ⟨Nat.le_refl _, Nat.le_refl _⟩) (fun S1 eS1 H locs hP hS => ?_)
  refine lv_aload_n hx hb d_K_end_15 rfl (lv_at hl 1 rfl) ?_
  refine lv_iload_n hx hb d_K_end_16 rfl (lv_at hl 2 rfl) ?_
  refine wl_gov2 (cf := kw_C cI cT cS ad) (S2 := k_K_orphanChildren S1 p) hS hA X.2.2.2.2.2.2 (wl_runV (As := [.int (nI p)]) (rest := []) X hml hl.1 hP g_TT (c_K_orphanChildren hinj S1 (nI p) p rfl (by omega) _) (by decide) (kw_cK ) rfl wv_K_187 (na := 1) (by decide +kernel) rfl ⟨Nat.le_of_ble_eq_true rfl, Nat.le_of_ble_eq_true rfl⟩ rfl (Nat.le_of_ble_eq_true rfl) d_K_end_17 ⟨Nat.le_refl _, Nat.le_refl _⟩) (fun S2 eS2 H locs hP hS => ?_)
  refine lv_aload_n hx hb d_K_end_20 rfl (lv_at hl 0 rfl) ?_
  refine wl_get (v := .int (kw_pa (S2.2 7 p 0))) X hP (i := (71 + 3 * p)) (by omega) (kw_cT (by omega)) rfl i_T 4 (by decide) lf_K_174 rfl d_K_end_21 ?_
  refine lv_bipush (v := -2) hx hb d_K_end_24 (by decide) ?_
  refine lv_icmp_ne (tgt := 34) hx hb d_K_end_26 (by decide) (fun c3 => ?_) (fun c3 => ?_)
  · skip
    refine lv_aload_n hx hb d_K_end_34 rfl (lv_at hl 0 rfl) ?_
    refine lv_iconst (v := 4) hx hb d_K_end_35 (by decide) ?_
    refine wl_put X hP hS (i := (71 + 3 * p)) (by omega) (kw_cT (by omega)) rfl i_T ft_T ft_T_ok fn_T 2 (by decide) lf_K_85 rfl rfl rfl (Nat.le_of_ble_eq_true rfl) d_K_end_36 (kw_pT_state (by omega)) (fun H locs hP hS => ?_)
    obtain ⟨S4, eS4⟩ : ∃ z, z = kw_si S2 7 p 0 (4 : Int32) := ⟨_, rfl⟩
    rw [← eS4] at hP
    refine lv_aload_n hx hb d_K_end_39 rfl (lv_at hl 0 rfl) ?_
    refine lv_iload_n hx hb d_K_end_40 rfl (lv_at hl 3 rfl) ?_
    refine wl_put X hP hS (i := (71 + 3 * p)) (by omega) (kw_cT (by omega)) rfl i_T ft_T ft_T_ok fn_T 5 (by decide) lf_K_177 rfl rfl rfl (Nat.le_of_ble_eq_true rfl) d_K_end_41 (kw_pT_code (by omega)) (fun H locs hP hS => ?_)
    obtain ⟨S5, eS5⟩ : ∃ z, z = kw_si S4 7 p 2 x := ⟨_, rfl⟩
    rw [← eS5] at hP
    refine lv_aload_n hx hb d_K_end_44 rfl (lv_at hl 1 rfl) ?_
    refine wl_get (v := .ref (ad 1)) X hP (i := 0) (by decide) (kw_cK ) rfl i_K 0 (by decide) lf_K_11 rfl d_K_end_45 ?_
    refine lv_aload_n hx hb d_K_end_48 rfl (lv_at hl 0 rfl) ?_
    refine wl_get (v := .int (kw_pa (S5.2 7 p 0))) X hP (i := (71 + 3 * p)) (by omega) (kw_cT (by omega)) rfl i_T 4 (by decide) lf_K_174 rfl d_K_end_49 ?_
    have hq : ¬ kw_pa (S5.2 7 p 0) = -2 := by
      have h9 := c3
      subst_vars
      exact h9
    have hq2 := (kw_pa_in hq).2
    refine wl_aald X hP (i := 1) (by decide) 1 (kw_cAT ) rfl (j := (S5.2 7 p 0)) (kw_pa_in hq).1 (kw_pa_in hq).2 (by decide) d_K_end_52 ?_
    refine wl_topv (y := .ref (ad (71 + 3 * (S5.2 7 p 0)))) rfl ?_
    refine lv_astore (lv' := [(4, .ref (ad (71 + 3 * (S5.2 7 p 0)))), (3, .ref (ad (71 + 3 * p))), (0, .ref (ad 0)), (1, .int (nI p)), (2, .int x)]) hx hb d_K_end_53 hl (by decide) rfl (fun ls hl => ?_)
    refine lv_aload hx hb d_K_end_55 (lv_at hl 0 rfl) ?_
    refine wl_get (v := .int (S5.1 7 (S5.2 7 p 0) 0)) X hP (i := (71 + 3 * (S5.2 7 p 0))) (by omega) (kw_cT (by omega)) rfl i_T 2 (by decide) lf_K_85 rfl d_K_end_57 ?_
    refine lv_iconst (v := 3) hx hb d_K_end_60 (by decide) ?_
    refine lv_icmp_ne (tgt := 70) hx hb d_K_end_61 (by decide) (fun c6 => ?_) (fun c6 => ?_)
    · skip
      have hE : k_K_end S0 p x = S5 := by
        replace eS5 := eS5.symm
        subst eS5
        replace eS4 := eS4.symm
        subst eS4
        replace eS2 := eS2.symm
        subst eS2
        replace eS1 := eS1.symm
        subst eS1
        exact ((if_neg c3).trans ((if_neg c6).trans rfl))
      rw [hE]
      exact wl_vret X hsz hr hlocks hP hS d_K_end_70
    · skip
      refine lv_aload hx hb d_K_end_64 (lv_at hl 0 rfl) ?_
      refine lv_iconst (v := 1) hx hb d_K_end_66 (by decide) ?_
      refine wl_put X hP hS (i := (71 + 3 * (S5.2 7 p 0))) (by omega) (kw_cT (by omega)) rfl i_T ft_T ft_T_ok fn_T 2 (by decide) lf_K_85 rfl rfl rfl (Nat.le_of_ble_eq_true rfl) d_K_end_67 (kw_pT_state (by omega)) (fun H locs hP hS => ?_)
      obtain ⟨S7, eS7⟩ : ∃ z, z = kw_si S5 7 (S5.2 7 p 0) 0 (1 : Int32) := ⟨_, rfl⟩
      rw [← eS7] at hP
      have hE : k_K_end S0 p x = S7 := by
        replace eS7 := eS7.symm
        subst eS7
        replace eS5 := eS5.symm
        subst eS5
        replace eS4 := eS4.symm
        subst eS4
        replace eS2 := eS2.symm
        subst eS2
        replace eS1 := eS1.symm
        subst eS1
        exact ((if_neg c3).trans ((if_pos c6).trans rfl))
      rw [hE]
      exact wl_vret X hsz hr hlocks hP hS d_K_end_70
  · skip
    refine lv_aload_n hx hb d_K_end_29 rfl (lv_at hl 0 rfl) ?_
    refine wl_gov2 (cf := kw_C cI cT cS ad) (S2 := k_T_leave S2 p) hS hA X.2.2.2.2.2.2 (wl_runV (As := []) (rest := []) X hml hl.1 hP g_TT (c_T_leave hinj S2 p (by omega) _) (by omega) (kw_cT (by omega)) rfl wv_K_180 (na := 0) (by decide +kernel) rfl ⟨Nat.le_of_ble_eq_true rfl, Nat.le_of_ble_eq_true rfl⟩ rfl (Nat.le_of_ble_eq_true rfl) d_K_end_30 ⟨Nat.le_refl _, Nat.le_refl _⟩) (fun S8 eS8 H locs hP hS => ?_)
    have hE : k_K_end S0 p x = S8 := by
      replace eS8 := eS8.symm
      subst eS8
      replace eS2 := eS2.symm
      subst eS2
      replace eS1 := eS1.symm
      subst eS1
      exact ((if_pos c3).trans rfl)
    rw [hE]
    exact wl_vret X hsz hr hlocks hP hS d_K_end_33
def k_K_awaitChild_L13 : Nat → Nat → Nat → Nat → Int32 → kw_S → kw_S
  | 0, i, p, r, b, S0 =>
    if b = 0 then
      let S3 := kw_si S0 8 p r (-2 : Int32)
      S3
    else
      let S4 := kw_si S0 7 p 0 (3 : Int32)
      let S5 := kw_si S4 7 p 1 ((S4.1 7 p 1) - (1 : Int32))
      S5
  | i_n + 1, i, p, r, b, S0 =>
    if (kw_pa (S0.2 7 i 0)) = (nI p) then
      if (S0.1 7 i 0) = (4 : Int32) then
        let S104 := kw_si S0 8 p r (S0.1 7 i 2)
        let S105 := k_T_leave S104 i
        S105
      else
        k_K_awaitChild_L13 i_n (i + 1) p r (1 : Int32) S0
    else
      k_K_awaitChild_L13 i_n (i + 1) p r b S0
set_option maxHeartbeats 4000000 in
set_option maxRecDepth 100000 in
theorem c_K_awaitChild_L13 {l : Launch} {D : va_G} {cI cT cS : ClassId} {ad : Nat → Nat} {p_ : Program} {e_ : Env} {s_ : State} {m_ : MethodId} {args : Array Value} {below : List Frame} {meth : Method} {c_ : Code} {sz : Nat} (hinj : wl_inj 83 ad) (X : wl_X p_ s_ m_ args c_ b_K_awaitChild R_K TT D classes (kw_ty cI cT cS) 83 ad (wl_A 83 ad s_.heap.size)) (hsz : s_.heap.size = sz) (hml : c_.maxLocals = 7) (hr : meth.sig.returnType = none) (hlocks : meth.locks = false) :
    ∀ (i_n i : Nat) (x_p : Int32) (p : Nat) (e_p : x_p = nI p) (h_p : p < 4) (x_r : Int32) (r : Nat) (e_r : x_r = nI r) (h_r : r < 4) (b : Int32) (S0 : kw_S) (h_i : i + i_n = 4) (H : Heap) (locs : List Loc) (ls : Array Slot), lv_has ls 7 [(0, .ref (ad 0)), (1, .int x_p), (2, .int x_r), (3, .ref (ad (71 + 3 * p))), (4, .int b), (5, .int (nI i))] → va_P D classes (wl_W 83 ad (kw_C cI cT cS ad S0)) H → va_S (wl_A 83 ad s_.heap.size) s_.heap H locs → W p_ l e_ (rm_ 1) s_ m_ args below meth c_ H locs 0 0 (MQ below (wl_Qv D classes (kw_ty cI cT cS) 83 ad (kw_C cI cT cS ad (k_K_awaitChild_L13 i_n i p r b S0)) sz) args s_ 0 0 (wl_A 83 ad sz)) (F0 m_ 13 ls []) := by
  have hx := X.1
  have hb := X.2.1
  have hA : ∀ q, s_.heap.size ≤ q → (wl_A 83 ad s_.heap.size) q := fun q h => Or.inr h
  intro i_n
  induction i_n with
  | zero =>
    intro i x_p p e_p h_p x_r r e_r h_r b S0 h_i H locs ls hl hP hS
    subst e_p
    subst e_r
    refine lv_iload hx hb d_K_awaitChild_13 (lv_at hl 5 rfl) ?_
    refine lv_iconst (v := 4) hx hb d_K_awaitChild_15 (by decide) ?_
    refine lv_icmp_ge (tgt := 72) hx hb d_K_awaitChild_16 (by decide) (fun c1 => ?_) (fun c1 => ?_)
    · skip
      refine lv_iload hx hb d_K_awaitChild_72 (lv_at hl 4 rfl) ?_
      refine lv_if_eq (tgt := 95) hx hb d_K_awaitChild_74 (by decide) (fun c2 => ?_) (fun c2 => ?_)
      · skip
        refine lv_aload_n hx hb d_K_awaitChild_95 rfl (lv_at hl 3 rfl) ?_
        refine wl_get (v := .ref (ad (72 + 3 * p))) X hP (i := (71 + 3 * p)) (by omega) (kw_cT (by omega)) rfl i_T 0 (by decide) lf_K_88 rfl d_K_awaitChild_96 ?_
        refine lv_iload_n hx hb d_K_awaitChild_99 rfl (lv_at hl 2 rfl) ?_
        refine lv_bipush (v := -2) hx hb d_K_awaitChild_100 (by decide) ?_
        refine wl_iast X hP hS (i := (72 + 3 * p)) (by omega) 0 (kw_cAR (by omega)) rfl (j := r) rfl (by omega) (by decide) d_K_awaitChild_102 (kw_pAR (by omega)) (fun H locs hP hS => ?_)
        obtain ⟨S3, eS3⟩ : ∃ z, z = kw_si S0 8 p r (-2 : Int32) := ⟨_, rfl⟩
        rw [← eS3] at hP
        have hE : k_K_awaitChild_L13 0 i p r b S0 = S3 := by
          replace eS3 := eS3.symm
          subst eS3
          exact ((if_pos c2).trans rfl)
        rw [hE]
        exact wl_vret X hsz hr hlocks hP hS d_K_awaitChild_103
      · skip
        refine lv_aload_n hx hb d_K_awaitChild_77 rfl (lv_at hl 3 rfl) ?_
        refine lv_iconst (v := 3) hx hb d_K_awaitChild_78 (by decide) ?_
        refine wl_put X hP hS (i := (71 + 3 * p)) (by omega) (kw_cT (by omega)) rfl i_T ft_T ft_T_ok fn_T 2 (by decide) lf_K_85 rfl rfl rfl (Nat.le_of_ble_eq_true rfl) d_K_awaitChild_79 (kw_pT_state (by omega)) (fun H locs hP hS => ?_)
        obtain ⟨S4, eS4⟩ : ∃ z, z = kw_si S0 7 p 0 (3 : Int32) := ⟨_, rfl⟩
        rw [← eS4] at hP
        refine lv_aload_n hx hb d_K_awaitChild_82 rfl (lv_at hl 3 rfl) ?_
        refine lv_dup hx hb d_K_awaitChild_83 rfl ?_
        refine wl_get (v := .int (S4.1 7 p 1)) X hP (i := (71 + 3 * p)) (by omega) (kw_cT (by omega)) rfl i_T 3 (by decide) lf_K_143 rfl d_K_awaitChild_84 ?_
        refine lv_iconst (v := 1) hx hb d_K_awaitChild_87 (by decide) ?_
        refine lv_isub hx hb d_K_awaitChild_88 ?_
        refine wl_put X hP hS (i := (71 + 3 * p)) (by omega) (kw_cT (by omega)) rfl i_T ft_T ft_T_ok fn_T 3 (by decide) lf_K_143 rfl rfl rfl (Nat.le_of_ble_eq_true rfl) d_K_awaitChild_89 (kw_pT_place (by omega)) (fun H locs hP hS => ?_)
        obtain ⟨S5, eS5⟩ : ∃ z, z = kw_si S4 7 p 1 ((S4.1 7 p 1) - (1 : Int32)) := ⟨_, rfl⟩
        rw [← eS5] at hP
        refine lv_goto (tgt := 103) hx hb d_K_awaitChild_92 (by decide) ?_
        have hE : k_K_awaitChild_L13 0 i p r b S0 = S5 := by
          replace eS5 := eS5.symm
          subst eS5
          replace eS4 := eS4.symm
          subst eS4
          exact ((if_neg c2).trans rfl)
        rw [hE]
        exact wl_vret X hsz hr hlocks hP hS d_K_awaitChild_103
    · exact absurd (sk_lhz h_i) c1
  | succ i_n ih =>
    intro i x_p p e_p h_p x_r r e_r h_r b S0 h_i H locs ls hl hP hS
    subst e_p
    subst e_r
    refine lv_iload hx hb d_K_awaitChild_13 (lv_at hl 5 rfl) ?_
    refine lv_iconst (v := 4) hx hb d_K_awaitChild_15 (by decide) ?_
    refine lv_icmp_ge (tgt := 72) hx hb d_K_awaitChild_16 (by decide) (fun c101 => ?_) (fun c101 => ?_)
    · exact absurd c101 (sk_lhs h_i)
    · skip
      refine lv_aload_n hx hb d_K_awaitChild_19 rfl (lv_at hl 0 rfl) ?_
      refine wl_get (v := .ref (ad 1)) X hP (i := 0) (by decide) (kw_cK ) rfl i_K 0 (by decide) lf_K_11 rfl d_K_awaitChild_20 ?_
      refine lv_iload hx hb d_K_awaitChild_23 (lv_at hl 5 rfl) ?_
      refine wl_aald X hP (i := 1) (by decide) 1 (kw_cAT ) rfl (j := i) rfl (by omega) (by decide) d_K_awaitChild_25 ?_
      refine wl_topv (y := .ref (ad (71 + 3 * i))) rfl ?_
      refine lv_astore (lv' := [(6, .ref (ad (71 + 3 * i))), (0, .ref (ad 0)), (1, .int (nI p)), (2, .int (nI r)), (3, .ref (ad (71 + 3 * p))), (4, .int b), (5, .int (nI i))]) hx hb d_K_awaitChild_26 hl (by decide) rfl (fun ls hl => ?_)
      refine lv_aload hx hb d_K_awaitChild_28 (lv_at hl 0 rfl) ?_
      refine wl_get (v := .int (kw_pa (S0.2 7 i 0))) X hP (i := (71 + 3 * i)) (by omega) (kw_cT (by omega)) rfl i_T 4 (by decide) lf_K_174 rfl d_K_awaitChild_30 ?_
      refine lv_iload_n hx hb d_K_awaitChild_33 rfl (lv_at hl 2 rfl) ?_
      refine lv_icmp_ne (tgt := 66) hx hb d_K_awaitChild_34 (by decide) (fun c102 => ?_) (fun c102 => ?_)
      · skip
        refine lv_iinc (v := nI (i + 1)) (lv' := [(5, .int (nI (i + 1))), (6, .ref (ad (71 + 3 * i))), (0, .ref (ad 0)), (1, .int (nI p)), (2, .int (nI r)), (3, .ref (ad (71 + 3 * p))), (4, .int b)]) hx hb d_K_awaitChild_66 hl (k := 6) rfl (nI_1 _) (by decide) rfl (fun ls hl => ?_)
        refine lv_goto (tgt := 13) hx hb d_K_awaitChild_69 (by decide) ?_
        have hE : k_K_awaitChild_L13 (i_n + 1) i p r b S0 = k_K_awaitChild_L13 i_n (i + 1) p r b S0 := by
          exact ((if_neg c102).trans rfl)
        rw [hE]
        exact ih (i + 1) (nI p) p rfl (by omega) (nI r) r rfl (by omega) b S0 (by omega) _ _ _ (lv_sub hl [2, 3, 4, 5, 6, 0] rfl) hP hS
      · skip
        refine lv_aload hx hb d_K_awaitChild_37 (lv_at hl 0 rfl) ?_
        refine wl_get (v := .int (S0.1 7 i 0)) X hP (i := (71 + 3 * i)) (by omega) (kw_cT (by omega)) rfl i_T 2 (by decide) lf_K_85 rfl d_K_awaitChild_39 ?_
        refine lv_iconst (v := 4) hx hb d_K_awaitChild_42 (by decide) ?_
        refine lv_icmp_ne (tgt := 63) hx hb d_K_awaitChild_43 (by decide) (fun c103 => ?_) (fun c103 => ?_)
        · skip
          refine lv_iconst (v := 1) hx hb d_K_awaitChild_63 (by decide) ?_
          refine lv_istore (lv' := [(4, .int (1 : Int32)), (6, .ref (ad (71 + 3 * i))), (0, .ref (ad 0)), (1, .int (nI p)), (2, .int (nI r)), (3, .ref (ad (71 + 3 * p))), (5, .int (nI i))]) hx hb d_K_awaitChild_64 hl (by decide) rfl (fun ls hl => ?_)
          refine lv_iinc (v := nI (i + 1)) (lv' := [(5, .int (nI (i + 1))), (4, .int (1 : Int32)), (6, .ref (ad (71 + 3 * i))), (0, .ref (ad 0)), (1, .int (nI p)), (2, .int (nI r)), (3, .ref (ad (71 + 3 * p)))]) hx hb d_K_awaitChild_66 hl (k := 6) rfl (nI_1 _) (by decide) rfl (fun ls hl => ?_)
          refine lv_goto (tgt := 13) hx hb d_K_awaitChild_69 (by decide) ?_
          have hE : k_K_awaitChild_L13 (i_n + 1) i p r b S0 = k_K_awaitChild_L13 i_n (i + 1) p r (1 : Int32) S0 := by
            exact ((if_pos c102).trans ((if_neg c103).trans rfl))
          rw [hE]
          exact ih (i + 1) (nI p) p rfl (by omega) (nI r) r rfl (by omega) (1 : Int32) S0 (by omega) _ _ _ (lv_sub hl [3, 4, 5, 6, 1, 0] rfl) hP hS
        · skip
          refine lv_aload_n hx hb d_K_awaitChild_46 rfl (lv_at hl 4 rfl) ?_
          refine wl_get (v := .ref (ad (72 + 3 * p))) X hP (i := (71 + 3 * p)) (by omega) (kw_cT (by omega)) rfl i_T 0 (by decide) lf_K_88 rfl d_K_awaitChild_47 ?_
          refine lv_iload_n hx hb d_K_awaitChild_50 rfl (lv_at hl 3 rfl) ?_
          refine lv_aload hx hb d_K_awaitChild_51 (lv_at hl 0 rfl) ?_
          refine wl_get (v := .int (S0.1 7 i 2)) X hP (i := (71 + 3 * i)) (by omega) (kw_cT (by omega)) rfl i_T 5 (by decide) lf_K_177 rfl d_K_awaitChild_53 ?_
          refine wl_iast X hP hS (i := (72 + 3 * p)) (by omega) 0 (kw_cAR (by omega)) rfl (j := r) rfl (by omega) (by decide) d_K_awaitChild_56 (kw_pAR (by omega)) (fun H locs hP hS => ?_)
          obtain ⟨S104, eS104⟩ : ∃ z, z = kw_si S0 8 p r (S0.1 7 i 2) := ⟨_, rfl⟩
          rw [← eS104] at hP
          refine lv_aload hx hb d_K_awaitChild_57 (lv_at hl 0 rfl) ?_
          refine wl_gov2 (cf := kw_C cI cT cS ad) (S2 := k_T_leave S104 i) hS hA X.2.2.2.2.2.2 (wl_runV (As := []) (rest := []) X hml hl.1 hP g_TT (c_T_leave hinj S104 i (by omega) _) (by omega) (kw_cT (by omega)) rfl wv_K_180 (na := 0) (by decide +kernel) rfl ⟨Nat.le_of_ble_eq_true rfl, Nat.le_of_ble_eq_true rfl⟩ rfl (Nat.le_of_ble_eq_true rfl) d_K_awaitChild_59 ⟨Nat.le_refl _, Nat.le_refl _⟩) (fun S105 eS105 H locs hP hS => ?_)
          have hE : k_K_awaitChild_L13 (i_n + 1) i p r b S0 = S105 := by
            replace eS105 := eS105.symm
            subst eS105
            replace eS104 := eS104.symm
            subst eS104
            exact ((if_pos c102).trans ((if_pos c103).trans rfl))
          rw [hE]
          exact wl_vret X hsz hr hlocks hP hS d_K_awaitChild_62
def k_K_awaitChild (S0 : kw_S) (p : Nat) (r : Nat) : kw_S :=
  k_K_awaitChild_L13 4 0 p r (0 : Int32) S0
set_option maxHeartbeats 4000000 in
set_option maxRecDepth 100000 in
theorem c_K_awaitChild {l : Launch} {D : va_G} {cI cT cS : ClassId} {ad : Nat → Nat} (hinj : wl_inj 83 ad) (S0 : kw_S) (x_p : Int32) (p : Nat) (e_p : x_p = nI p) (h_p : p < 4) (x_r : Int32) (r : Nat) (e_r : x_r = nI r) (h_r : r < 4) : wl_Mv l y_K_awaitChild (Cond.code y_K_awaitChild b_K_awaitChild 7 none :: TT) (rm_ 1) D classes (kw_ty cI cT cS) 83 ad [.ref (ad 0), .int x_p, .int x_r] (kw_C cI cT cS ad S0)  (kw_C cI cT cS ad (k_K_awaitChild S0 p r)) := by
  subst e_p
  subst e_r
  intro sz
  refine wl_enter (own := R_K) rfl (by decide) (Nat.le_of_ble_eq_true rfl) hinj (fun p_ e_ s_ m_ below meth c_ ls hsz X hml hr hlocks hl hP hS => ?_)
  have hx := X.1
  have hb := X.2.1
  have hA : ∀ q, s_.heap.size ≤ q → (wl_A 83 ad s_.heap.size) q := fun q h => Or.inr h
  have hl : lv_has ls 7 [(0, .ref (ad 0)), (1, .int (nI p)), (2, .int (nI r))] := hl
  refine lv_aload_n hx hb d_K_awaitChild_0 rfl (lv_at hl 0 rfl) ?_
  refine wl_get (v := .ref (ad 1)) X hP (i := 0) (by decide) (kw_cK ) rfl i_K 0 (by decide) lf_K_11 rfl d_K_awaitChild_1 ?_
  refine lv_iload_n hx hb d_K_awaitChild_4 rfl (lv_at hl 1 rfl) ?_
  refine wl_aald X hP (i := 1) (by decide) 1 (kw_cAT ) rfl (j := p) rfl (by omega) (by decide) d_K_awaitChild_5 ?_
  refine wl_topv (y := .ref (ad (71 + 3 * p))) rfl ?_
  refine lv_astore_n (lv' := [(3, .ref (ad (71 + 3 * p))), (0, .ref (ad 0)), (1, .int (nI p)), (2, .int (nI r))]) hx hb d_K_awaitChild_6 rfl hl (by decide) rfl (fun ls hl => ?_)
  refine lv_iconst (v := 0) hx hb d_K_awaitChild_7 (by decide) ?_
  refine lv_istore (lv' := [(4, .int (0 : Int32)), (3, .ref (ad (71 + 3 * p))), (0, .ref (ad 0)), (1, .int (nI p)), (2, .int (nI r))]) hx hb d_K_awaitChild_8 hl (by decide) rfl (fun ls hl => ?_)
  refine lv_iconst (v := 0) hx hb d_K_awaitChild_10 (by decide) ?_
  refine lv_istore (lv' := [(5, .int (0 : Int32)), (4, .int (0 : Int32)), (3, .ref (ad (71 + 3 * p))), (0, .ref (ad 0)), (1, .int (nI p)), (2, .int (nI r))]) hx hb d_K_awaitChild_11 hl (by decide) rfl (fun ls hl => ?_)
  have hE : k_K_awaitChild S0 p r = k_K_awaitChild_L13 4 0 p r (0 : Int32) S0 := by
    exact rfl
  rw [hE]
  exact c_K_awaitChild_L13 hinj X hsz hml hr hlocks 4 0 (nI p) p rfl (by omega) (nI r) r rfl (by omega) (0 : Int32) S0 (by omega) _ _ _ (lv_sub hl [3, 4, 5, 2, 1, 0] rfl) hP hS
def k_K_fork_L102 : Nat → Nat → Nat → Nat → Nat → kw_S → kw_S
  | 0, i, p, r, c, S0 =>
    S0
  | i_n + 1, i, p, r, c, S0 =>
    if S0.2 9 p i < 32 then
      let S103 := kw_si S0 10 (S0.2 9 p i) 0 ((S0.1 10 (S0.2 9 p i) 0) + (1 : Int32))
      let S104 := kw_sn S103 9 c i (S0.2 9 p i)
      k_K_fork_L102 i_n (i + 1) p r c S104
    else
      k_K_fork_L102 i_n (i + 1) p r c S0
set_option maxHeartbeats 4000000 in
set_option maxRecDepth 100000 in
theorem c_K_fork_L102 {l : Launch} {D : va_G} {cI cT cS : ClassId} {ad : Nat → Nat} {p_ : Program} {e_ : Env} {s_ : State} {m_ : MethodId} {args : Array Value} {below : List Frame} {meth : Method} {c_ : Code} {sz : Nat} (hinj : wl_inj 83 ad) (X : wl_X p_ s_ m_ args c_ b_K_fork R_K TT D classes (kw_ty cI cT cS) 83 ad (wl_A 83 ad s_.heap.size)) (hsz : s_.heap.size = sz) (hml : c_.maxLocals = 8) (hr : meth.sig.returnType = none) (hlocks : meth.locks = false) :
    ∀ (i_n i : Nat) (x_p : Int32) (p : Nat) (e_p : x_p = nI p) (h_p : p < 4) (x_r : Int32) (r : Nat) (e_r : x_r = nI r) (h_r : r < 4) (x_c : Int32) (c : Nat) (e_c : x_c = nI c) (h_c : c < 4) (S0 : kw_S) (h_i : i + i_n = 8) (H : Heap) (locs : List Loc) (ls : Array Slot), lv_has ls 8 [(0, .ref (ad 0)), (1, .int x_p), (2, .int x_r), (3, .ref (ad (71 + 3 * p))), (4, .int x_c), (5, .ref (ad (71 + 3 * c))), (6, .int (nI i))] → va_P D classes (wl_W 83 ad (kw_C cI cT cS ad S0)) H → va_S (wl_A 83 ad s_.heap.size) s_.heap H locs → W p_ l e_ (rm_ 2) s_ m_ args below meth c_ H locs 0 0 (MQ below (wl_Qv D classes (kw_ty cI cT cS) 83 ad (kw_C cI cT cS ad (k_K_fork_L102 i_n i p r c S0)) sz) args s_ 0 0 (wl_A 83 ad sz)) (F0 m_ 102 ls []) := by
  have hx := X.1
  have hb := X.2.1
  have hA : ∀ q, s_.heap.size ≤ q → (wl_A 83 ad s_.heap.size) q := fun q h => Or.inr h
  intro i_n
  induction i_n with
  | zero =>
    intro i x_p p e_p h_p x_r r e_r h_r x_c c e_c h_c S0 h_i H locs ls hl hP hS
    subst e_p
    subst e_r
    subst e_c
    refine lv_iload hx hb d_K_fork_102 (lv_at hl 6 rfl) ?_
    refine lv_bipush (v := 8) hx hb d_K_fork_104 (by decide) ?_
    refine lv_icmp_ge (tgt := 150) hx hb d_K_fork_106 (by decide) (fun c1 => ?_) (fun c1 => ?_)
    · skip
      have hE : k_K_fork_L102 0 i p r c S0 = S0 := by
        exact rfl
      rw [hE]
      exact wl_vret X hsz hr hlocks hP hS d_K_fork_150
    · exact absurd (sk_lhz h_i) c1
  | succ i_n ih =>
    intro i x_p p e_p h_p x_r r e_r h_r x_c c e_c h_c S0 h_i H locs ls hl hP hS
    subst e_p
    subst e_r
    subst e_c
    refine lv_iload hx hb d_K_fork_102 (lv_at hl 6 rfl) ?_
    refine lv_bipush (v := 8) hx hb d_K_fork_104 (by decide) ?_
    refine lv_icmp_ge (tgt := 150) hx hb d_K_fork_106 (by decide) (fun c101 => ?_) (fun c101 => ?_)
    · exact absurd c101 (sk_lhs h_i)
    · skip
      refine lv_aload_n hx hb d_K_fork_109 rfl (lv_at hl 3 rfl) ?_
      refine wl_get (v := .ref (ad (73 + 3 * p))) X hP (i := (71 + 3 * p)) (by omega) (kw_cT (by omega)) rfl i_T 1 (by decide) lf_K_53 rfl d_K_fork_110 ?_
      refine lv_iload hx hb d_K_fork_113 (lv_at hl 6 rfl) ?_
      refine wl_aald X hP (i := (73 + 3 * p)) (by omega) 2 (kw_cAP (by omega)) rfl (j := i) rfl (by omega) (by decide) d_K_fork_115 ?_
      refine kw_caseE (fun h102 => ?_) (fun h102 => ?_)
      · skip
        refine lv_astore (lv' := [(7, .ref (ad (6 + 2 * (S0.2 9 p i)))), (0, .ref (ad 0)), (1, .int (nI p)), (2, .int (nI r)), (3, .ref (ad (71 + 3 * p))), (4, .int (nI c)), (5, .ref (ad (71 + 3 * c))), (6, .int (nI i))]) hx hb d_K_fork_116 hl (by decide) rfl (fun ls hl => ?_)
        refine lv_aload hx hb d_K_fork_118 (lv_at hl 0 rfl) ?_
        refine lv_ifnull hx hb d_K_fork_120 ?_
        refine lv_aload hx hb d_K_fork_123 (lv_at hl 0 rfl) ?_
        refine lv_dup hx hb d_K_fork_125 rfl ?_
        refine wl_get (v := .int (S0.1 10 (S0.2 9 p i) 0)) X hP (i := (6 + 2 * (S0.2 9 p i))) (by omega) (kw_cE (by omega)) rfl i_E 1 (by decide) lf_K_171 rfl d_K_fork_126 ?_
        refine lv_iconst (v := 1) hx hb d_K_fork_129 (by decide) ?_
        refine lv_iadd hx hb d_K_fork_130 ?_
        refine wl_put X hP hS (i := (6 + 2 * (S0.2 9 p i))) (by omega) (kw_cE (by omega)) rfl i_E ft_E ft_E_ok fn_E 1 (by decide) lf_K_171 rfl rfl rfl (Nat.le_of_ble_eq_true rfl) d_K_fork_131 (kw_pE_owners (by omega)) (fun H locs hP hS => ?_)
        obtain ⟨S103, eS103⟩ : ∃ z, z = kw_si S0 10 (S0.2 9 p i) 0 ((S0.1 10 (S0.2 9 p i) 0) + (1 : Int32)) := ⟨_, rfl⟩
        rw [← eS103] at hP
        refine lv_aload hx hb d_K_fork_134 (lv_at hl 6 rfl) ?_
        refine wl_get (v := .ref (ad (73 + 3 * c))) X hP (i := (71 + 3 * c)) (by omega) (kw_cT (by omega)) rfl i_T 1 (by decide) lf_K_53 rfl d_K_fork_136 ?_
        refine lv_iload hx hb d_K_fork_139 (lv_at hl 7 rfl) ?_
        refine lv_aload hx hb d_K_fork_141 (lv_at hl 0 rfl) ?_
        refine wl_aast X hP hS (i := (73 + 3 * c)) (by omega) 2 (r := (R_E, F_E, 6)) (kw_cAP (by omega)) rfl (j := i) rfl (by omega) (by decide) (k := (6 + 2 * (S0.2 9 p i))) (by omega) (kw_cE (by omega)) rfl d_K_fork_143 (kw_prAP (by omega) (by omega)) (fun H locs hP hS => ?_)
        obtain ⟨S104, eS104⟩ : ∃ z, z = kw_sn S103 9 c i (S0.2 9 p i) := ⟨_, rfl⟩
        rw [← eS104] at hP
        refine lv_iinc (v := nI (i + 1)) (lv' := [(6, .int (nI (i + 1))), (7, .ref (ad (6 + 2 * (S0.2 9 p i)))), (0, .ref (ad 0)), (1, .int (nI p)), (2, .int (nI r)), (3, .ref (ad (71 + 3 * p))), (4, .int (nI c)), (5, .ref (ad (71 + 3 * c)))]) hx hb d_K_fork_144 hl (k := 7) rfl (nI_1 _) (by decide) rfl (fun ls hl => ?_)
        refine lv_goto (tgt := 102) hx hb d_K_fork_147 (by decide) ?_
        have hE : k_K_fork_L102 (i_n + 1) i p r c S0 = k_K_fork_L102 i_n (i + 1) p r c S104 := by
          replace eS104 := eS104.symm
          subst eS104
          replace eS103 := eS103.symm
          subst eS103
          exact ((if_pos h102).trans rfl)
        rw [hE]
        exact ih (i + 1) (nI p) p rfl (by omega) (nI r) r rfl (by omega) (nI c) c rfl (by omega) S104 (by omega) _ _ _ (lv_sub hl [2, 3, 4, 5, 6, 7, 0] rfl) hP hS
      · skip
        refine lv_astoreN (lv' := [(7, .null), (0, .ref (ad 0)), (1, .int (nI p)), (2, .int (nI r)), (3, .ref (ad (71 + 3 * p))), (4, .int (nI c)), (5, .ref (ad (71 + 3 * c))), (6, .int (nI i))]) hx hb d_K_fork_116 hl (by decide) rfl (fun ls hl => ?_)
        refine lv_aloadN hx hb d_K_fork_118 (lv_at hl 0 rfl) ?_
        refine lv_ifnullN (tgt := 144) hx hb d_K_fork_120 (by decide) ?_
        refine lv_iinc (v := nI (i + 1)) (lv' := [(6, .int (nI (i + 1))), (7, .null), (0, .ref (ad 0)), (1, .int (nI p)), (2, .int (nI r)), (3, .ref (ad (71 + 3 * p))), (4, .int (nI c)), (5, .ref (ad (71 + 3 * c)))]) hx hb d_K_fork_144 hl (k := 7) rfl (nI_1 _) (by decide) rfl (fun ls hl => ?_)
        refine lv_goto (tgt := 102) hx hb d_K_fork_147 (by decide) ?_
        have hE : k_K_fork_L102 (i_n + 1) i p r c S0 = k_K_fork_L102 i_n (i + 1) p r c S0 := by
          exact ((if_neg h102).trans rfl)
        rw [hE]
        exact ih (i + 1) (nI p) p rfl (by omega) (nI r) r rfl (by omega) (nI c) c rfl (by omega) S0 (by omega) _ _ _ (lv_sub hl [2, 3, 4, 5, 6, 7, 0] rfl) hP hS
def k_K_fork_L56 : Nat → Nat → Nat → Nat → Nat → kw_S → kw_S
  | 0, i, p, r, c, S0 =>
    let S2 := kw_si S0 8 c r (-1 : Int32)
    let S3 := kw_si S2 8 p r (nI c)
    k_K_fork_L102 8 0 p r c S3
  | i_n + 1, i, p, r, c, S0 =>
    let S102 := kw_si S0 8 c i (S0.1 8 p i)
    k_K_fork_L56 i_n (i + 1) p r c S102
set_option maxHeartbeats 4000000 in
set_option maxRecDepth 100000 in
theorem c_K_fork_L56 {l : Launch} {D : va_G} {cI cT cS : ClassId} {ad : Nat → Nat} {p_ : Program} {e_ : Env} {s_ : State} {m_ : MethodId} {args : Array Value} {below : List Frame} {meth : Method} {c_ : Code} {sz : Nat} (hinj : wl_inj 83 ad) (X : wl_X p_ s_ m_ args c_ b_K_fork R_K TT D classes (kw_ty cI cT cS) 83 ad (wl_A 83 ad s_.heap.size)) (hsz : s_.heap.size = sz) (hml : c_.maxLocals = 8) (hr : meth.sig.returnType = none) (hlocks : meth.locks = false) :
    ∀ (i_n i : Nat) (x_p : Int32) (p : Nat) (e_p : x_p = nI p) (h_p : p < 4) (x_r : Int32) (r : Nat) (e_r : x_r = nI r) (h_r : r < 4) (x_c : Int32) (c : Nat) (e_c : x_c = nI c) (h_c : c < 4) (S0 : kw_S) (h_i : i + i_n = 4) (H : Heap) (locs : List Loc) (ls : Array Slot), lv_has ls 8 [(0, .ref (ad 0)), (1, .int x_p), (2, .int x_r), (3, .ref (ad (71 + 3 * p))), (4, .int x_c), (5, .ref (ad (71 + 3 * c))), (6, .int (nI i))] → va_P D classes (wl_W 83 ad (kw_C cI cT cS ad S0)) H → va_S (wl_A 83 ad s_.heap.size) s_.heap H locs → W p_ l e_ (rm_ 2) s_ m_ args below meth c_ H locs 0 0 (MQ below (wl_Qv D classes (kw_ty cI cT cS) 83 ad (kw_C cI cT cS ad (k_K_fork_L56 i_n i p r c S0)) sz) args s_ 0 0 (wl_A 83 ad sz)) (F0 m_ 56 ls []) := by
  have hx := X.1
  have hb := X.2.1
  have hA : ∀ q, s_.heap.size ≤ q → (wl_A 83 ad s_.heap.size) q := fun q h => Or.inr h
  intro i_n
  induction i_n with
  | zero =>
    intro i x_p p e_p h_p x_r r e_r h_r x_c c e_c h_c S0 h_i H locs ls hl hP hS
    subst e_p
    subst e_r
    subst e_c
    refine lv_iload hx hb d_K_fork_56 (lv_at hl 6 rfl) ?_
    refine lv_iconst (v := 4) hx hb d_K_fork_58 (by decide) ?_
    refine lv_icmp_ge (tgt := 83) hx hb d_K_fork_59 (by decide) (fun c1 => ?_) (fun c1 => ?_)
    · skip
      refine lv_aload hx hb d_K_fork_83 (lv_at hl 5 rfl) ?_
      refine wl_get (v := .ref (ad (72 + 3 * c))) X hP (i := (71 + 3 * c)) (by omega) (kw_cT (by omega)) rfl i_T 0 (by decide) lf_K_88 rfl d_K_fork_85 ?_
      refine lv_iload_n hx hb d_K_fork_88 rfl (lv_at hl 2 rfl) ?_
      refine lv_iconst (v := -1) hx hb d_K_fork_89 (by decide) ?_
      refine wl_iast X hP hS (i := (72 + 3 * c)) (by omega) 0 (kw_cAR (by omega)) rfl (j := r) rfl (by omega) (by decide) d_K_fork_90 (kw_pAR (by omega)) (fun H locs hP hS => ?_)
      obtain ⟨S2, eS2⟩ : ∃ z, z = kw_si S0 8 c r (-1 : Int32) := ⟨_, rfl⟩
      rw [← eS2] at hP
      refine lv_aload_n hx hb d_K_fork_91 rfl (lv_at hl 3 rfl) ?_
      refine wl_get (v := .ref (ad (72 + 3 * p))) X hP (i := (71 + 3 * p)) (by omega) (kw_cT (by omega)) rfl i_T 0 (by decide) lf_K_88 rfl d_K_fork_92 ?_
      refine lv_iload_n hx hb d_K_fork_95 rfl (lv_at hl 2 rfl) ?_
      refine lv_iload hx hb d_K_fork_96 (lv_at hl 4 rfl) ?_
      refine wl_iast X hP hS (i := (72 + 3 * p)) (by omega) 0 (kw_cAR (by omega)) rfl (j := r) rfl (by omega) (by decide) d_K_fork_98 (kw_pAR (by omega)) (fun H locs hP hS => ?_)
      obtain ⟨S3, eS3⟩ : ∃ z, z = kw_si S2 8 p r (nI c) := ⟨_, rfl⟩
      rw [← eS3] at hP
      refine lv_iconst (v := 0) hx hb d_K_fork_99 (by decide) ?_
      refine lv_istore (lv' := [(6, .int (0 : Int32)), (0, .ref (ad 0)), (1, .int (nI p)), (2, .int (nI r)), (3, .ref (ad (71 + 3 * p))), (4, .int (nI c)), (5, .ref (ad (71 + 3 * c)))]) hx hb d_K_fork_100 hl (by decide) rfl (fun ls hl => ?_)
      have hE : k_K_fork_L56 0 i p r c S0 = k_K_fork_L102 8 0 p r c S3 := by
        replace eS3 := eS3.symm
        subst eS3
        replace eS2 := eS2.symm
        subst eS2
        exact rfl
      rw [hE]
      exact c_K_fork_L102 hinj X hsz hml hr hlocks 8 0 (nI p) p rfl (by omega) (nI r) r rfl (by omega) (nI c) c rfl (by omega) S3 (by omega) _ _ _ (lv_sub hl [1, 2, 3, 4, 5, 6, 0] rfl) hP hS
    · exact absurd (sk_lhz h_i) c1
  | succ i_n ih =>
    intro i x_p p e_p h_p x_r r e_r h_r x_c c e_c h_c S0 h_i H locs ls hl hP hS
    subst e_p
    subst e_r
    subst e_c
    refine lv_iload hx hb d_K_fork_56 (lv_at hl 6 rfl) ?_
    refine lv_iconst (v := 4) hx hb d_K_fork_58 (by decide) ?_
    refine lv_icmp_ge (tgt := 83) hx hb d_K_fork_59 (by decide) (fun c101 => ?_) (fun c101 => ?_)
    · exact absurd c101 (sk_lhs h_i)
    · skip
      refine lv_aload hx hb d_K_fork_62 (lv_at hl 5 rfl) ?_
      refine wl_get (v := .ref (ad (72 + 3 * c))) X hP (i := (71 + 3 * c)) (by omega) (kw_cT (by omega)) rfl i_T 0 (by decide) lf_K_88 rfl d_K_fork_64 ?_
      refine lv_iload hx hb d_K_fork_67 (lv_at hl 6 rfl) ?_
      refine lv_aload_n hx hb d_K_fork_69 rfl (lv_at hl 3 rfl) ?_
      refine wl_get (v := .ref (ad (72 + 3 * p))) X hP (i := (71 + 3 * p)) (by omega) (kw_cT (by omega)) rfl i_T 0 (by decide) lf_K_88 rfl d_K_fork_70 ?_
      refine lv_iload hx hb d_K_fork_73 (lv_at hl 6 rfl) ?_
      refine wl_iald X hP (i := (72 + 3 * p)) (by omega) 0 (kw_cAR (by omega)) rfl (j := i) rfl (by omega) (by decide) d_K_fork_75 ?_
      refine wl_iast X hP hS (i := (72 + 3 * c)) (by omega) 0 (kw_cAR (by omega)) rfl (j := i) rfl (by omega) (by decide) d_K_fork_76 (kw_pAR (by omega)) (fun H locs hP hS => ?_)
      obtain ⟨S102, eS102⟩ : ∃ z, z = kw_si S0 8 c i (S0.1 8 p i) := ⟨_, rfl⟩
      rw [← eS102] at hP
      refine lv_iinc (v := nI (i + 1)) (lv' := [(6, .int (nI (i + 1))), (0, .ref (ad 0)), (1, .int (nI p)), (2, .int (nI r)), (3, .ref (ad (71 + 3 * p))), (4, .int (nI c)), (5, .ref (ad (71 + 3 * c)))]) hx hb d_K_fork_77 hl (k := 6) rfl (nI_1 _) (by decide) rfl (fun ls hl => ?_)
      refine lv_goto (tgt := 56) hx hb d_K_fork_80 (by decide) ?_
      have hE : k_K_fork_L56 (i_n + 1) i p r c S0 = k_K_fork_L56 i_n (i + 1) p r c S102 := by
        replace eS102 := eS102.symm
        subst eS102
        exact rfl
      rw [hE]
      exact ih (i + 1) (nI p) p rfl (by omega) (nI r) r rfl (by omega) (nI c) c rfl (by omega) S102 (by omega) _ _ _ (lv_sub hl [1, 2, 3, 4, 5, 6, 0] rfl) hP hS
def k_K_fork (S0 : kw_S) (p : Nat) (r : Nat) : kw_S :=
  let r1 := k_K_leastAbsent S0
  if r1 = (-2 : Int32) then
    let S5 := kw_si S0 8 p r (-2 : Int32)
    S5
  else
    let S3 := k_T_begin S0 r1.toNatClampNeg p
    let S4 := kw_si S3 7 r1.toNatClampNeg 1 (S3.1 7 p 1)
    k_K_fork_L56 4 0 p r r1.toNatClampNeg S4
set_option maxHeartbeats 4000000 in
set_option maxRecDepth 100000 in
theorem c_K_fork {l : Launch} {D : va_G} {cI cT cS : ClassId} {ad : Nat → Nat} (hinj : wl_inj 83 ad) (S0 : kw_S) (x_p : Int32) (p : Nat) (e_p : x_p = nI p) (h_p : p < 4) (x_r : Int32) (r : Nat) (e_r : x_r = nI r) (h_r : r < 4) : wl_Mv l y_K_fork (Cond.code y_K_fork b_K_fork 8 none :: TT) (rm_ 2) D classes (kw_ty cI cT cS) 83 ad [.ref (ad 0), .int x_p, .int x_r] (kw_C cI cT cS ad S0)  (kw_C cI cT cS ad (k_K_fork S0 p r)) := by
  subst e_p
  subst e_r
  intro sz
  refine wl_enter (own := R_K) rfl (by decide) (Nat.le_of_ble_eq_true rfl) hinj (fun p_ e_ s_ m_ below meth c_ ls hsz X hml hr hlocks hl hP hS => ?_)
  have hx := X.1
  have hb := X.2.1
  have hA : ∀ q, s_.heap.size ≤ q → (wl_A 83 ad s_.heap.size) q := fun q h => Or.inr h
  have hl : lv_has ls 8 [(0, .ref (ad 0)), (1, .int (nI p)), (2, .int (nI r))] := hl
  refine lv_aload_n hx hb d_K_fork_0 rfl (lv_at hl 0 rfl) ?_
  refine wl_get (v := .ref (ad 1)) X hP (i := 0) (by decide) (kw_cK ) rfl i_K 0 (by decide) lf_K_11 rfl d_K_fork_1 ?_
  refine lv_iload_n hx hb d_K_fork_4 rfl (lv_at hl 1 rfl) ?_
  refine wl_aald X hP (i := 1) (by decide) 1 (kw_cAT ) rfl (j := p) rfl (by omega) (by decide) d_K_fork_5 ?_
  refine wl_topv (y := .ref (ad (71 + 3 * p))) rfl ?_
  refine lv_astore_n (lv' := [(3, .ref (ad (71 + 3 * p))), (0, .ref (ad 0)), (1, .int (nI p)), (2, .int (nI r))]) hx hb d_K_fork_6 rfl hl (by decide) rfl (fun ls hl => ?_)
  refine lv_aload_n hx hb d_K_fork_7 rfl (lv_at hl 1 rfl) ?_
  refine wl_goi1 (cf := kw_C cI cT cS ad) (r := k_K_leastAbsent S0) hS hA X.2.2.2.2.2.2 (wl_runV (As := []) (rest := []) X hml hl.1 hP g_TT (c_K_leastAbsent hinj S0 _) (by decide) (kw_cK ) rfl wv_K_31 (na := 0) (by decide +kernel) rfl ⟨Nat.le_of_ble_eq_true rfl, Nat.le_of_ble_eq_true rfl⟩ rfl (Nat.le_of_ble_eq_true rfl) d_K_fork_8 ⟨Nat.le_refl _, Nat.le_refl _⟩) (fun r1 er1 H locs hP hS => ?_)
  refine lv_istore (lv' := [(4, .int r1), (3, .ref (ad (71 + 3 * p))), (0, .ref (ad 0)), (1, .int (nI p)), (2, .int (nI r))]) hx hb d_K_fork_11 hl (by decide) rfl (fun ls hl => ?_)
  refine lv_iload hx hb d_K_fork_13 (lv_at hl 0 rfl) ?_
  refine lv_bipush (v := -2) hx hb d_K_fork_15 (by decide) ?_
  refine lv_icmp_ne (tgt := 29) hx hb d_K_fork_17 (by decide) (fun c2 => ?_) (fun c2 => ?_)
  · skip
    obtain ⟨hp1, hp2⟩ := kq_leastAbsent (fun h => c2 (er1.trans h))
    rw [← er1] at hp1 hp2
    refine lv_aload_n hx hb d_K_fork_29 rfl (lv_at hl 2 rfl) ?_
    refine wl_get (v := .ref (ad 1)) X hP (i := 0) (by decide) (kw_cK ) rfl i_K 0 (by decide) lf_K_11 rfl d_K_fork_30 ?_
    refine lv_iload hx hb d_K_fork_33 (lv_at hl 0 rfl) ?_
    refine wl_aald X hP (i := 1) (by decide) 1 (kw_cAT ) rfl (j := r1.toNatClampNeg) hp1 (by omega) (by decide) d_K_fork_35 ?_
    refine wl_topv (y := .ref (ad (71 + 3 * r1.toNatClampNeg))) rfl ?_
    refine lv_astore (lv' := [(5, .ref (ad (71 + 3 * r1.toNatClampNeg))), (4, .int r1), (3, .ref (ad (71 + 3 * p))), (0, .ref (ad 0)), (1, .int (nI p)), (2, .int (nI r))]) hx hb d_K_fork_36 hl (by decide) rfl (fun ls hl => ?_)
    refine lv_aload hx hb d_K_fork_38 (lv_at hl 0 rfl) ?_
    refine lv_iload_n hx hb d_K_fork_40 rfl (lv_at hl 4 rfl) ?_
    refine wl_gov2 (cf := kw_C cI cT cS ad) (S2 := k_T_begin S0 r1.toNatClampNeg p) hS hA X.2.2.2.2.2.2 (wl_runV (As := [.int (nI p)]) (rest := []) X hml hl.1 hP g_TT (c_T_begin hinj S0 r1.toNatClampNeg (by omega) (nI p) p (by unfold kw_pa; rw [if_pos (by omega)] <;> exact rfl) _) (by omega) (kw_cT (by omega)) rfl wv_K_35 (na := 1) (by decide +kernel) rfl ⟨Nat.le_of_ble_eq_true rfl, Nat.le_of_ble_eq_true rfl⟩ rfl (Nat.le_of_ble_eq_true rfl) d_K_fork_41 ⟨Nat.le_refl _, Nat.le_refl _⟩) (fun S3 eS3 H locs hP hS => ?_)
    refine lv_aload hx hb d_K_fork_44 (lv_at hl 0 rfl) ?_
    refine lv_aload_n hx hb d_K_fork_46 rfl (lv_at hl 2 rfl) ?_
    refine wl_get (v := .int (S3.1 7 p 1)) X hP (i := (71 + 3 * p)) (by omega) (kw_cT (by omega)) rfl i_T 3 (by decide) lf_K_143 rfl d_K_fork_47 ?_
    refine wl_put X hP hS (i := (71 + 3 * r1.toNatClampNeg)) (by omega) (kw_cT (by omega)) rfl i_T ft_T ft_T_ok fn_T 3 (by decide) lf_K_143 rfl rfl rfl (Nat.le_of_ble_eq_true rfl) d_K_fork_50 (kw_pT_place (by omega)) (fun H locs hP hS => ?_)
    obtain ⟨S4, eS4⟩ : ∃ z, z = kw_si S3 7 r1.toNatClampNeg 1 (S3.1 7 p 1) := ⟨_, rfl⟩
    rw [← eS4] at hP
    refine lv_iconst (v := 0) hx hb d_K_fork_53 (by decide) ?_
    refine lv_istore (lv' := [(6, .int (0 : Int32)), (5, .ref (ad (71 + 3 * r1.toNatClampNeg))), (4, .int r1), (3, .ref (ad (71 + 3 * p))), (0, .ref (ad 0)), (1, .int (nI p)), (2, .int (nI r))]) hx hb d_K_fork_54 hl (by decide) rfl (fun ls hl => ?_)
    have hE : k_K_fork S0 p r = k_K_fork_L56 4 0 p r r1.toNatClampNeg S4 := by
      replace eS4 := eS4.symm
      subst eS4
      replace eS3 := eS3.symm
      subst eS3
      replace er1 := er1.symm
      subst er1
      exact ((if_neg c2).trans rfl)
    rw [hE]
    exact c_K_fork_L56 hinj X hsz hml hr hlocks 4 0 (nI p) p rfl (by omega) (nI r) r rfl (by omega) r1 r1.toNatClampNeg hp1 (by omega) S4 (by omega) _ _ _ (lv_sub hl [4, 5, 6, 3, 2, 1, 0] rfl) hP hS
  · skip
    refine lv_aload_n hx hb d_K_fork_20 rfl (lv_at hl 1 rfl) ?_
    refine wl_get (v := .ref (ad (72 + 3 * p))) X hP (i := (71 + 3 * p)) (by omega) (kw_cT (by omega)) rfl i_T 0 (by decide) lf_K_88 rfl d_K_fork_21 ?_
    refine lv_iload_n hx hb d_K_fork_24 rfl (lv_at hl 4 rfl) ?_
    refine lv_bipush (v := -2) hx hb d_K_fork_25 (by decide) ?_
    refine wl_iast X hP hS (i := (72 + 3 * p)) (by omega) 0 (kw_cAR (by omega)) rfl (j := r) rfl (by omega) (by decide) d_K_fork_27 (kw_pAR (by omega)) (fun H locs hP hS => ?_)
    obtain ⟨S5, eS5⟩ : ∃ z, z = kw_si S0 8 p r (-2 : Int32) := ⟨_, rfl⟩
    rw [← eS5] at hP
    have hE : k_K_fork S0 p r = S5 := by
      replace eS5 := eS5.symm
      subst eS5
      replace er1 := er1.symm
      subst er1
      exact ((if_pos c2).trans rfl)
    rw [hE]
    exact wl_vret X hsz hr hlocks hP hS d_K_fork_28
def k_K_print (S0 : kw_S) (v : Int32) : kw_S :=
  if (40 : Int32) ≤ (nI (S0.2 0 0 0)) then
    let S2 := kw_sn S0 0 0 0 ((S0.2 0 0 0) + 1)
    S2
  else
    let S3 := kw_si S0 3 0 (S0.2 0 0 0) v
    let S4 := kw_sn S3 0 0 0 ((S3.2 0 0 0) + 1)
    S4
set_option maxHeartbeats 4000000 in
set_option maxRecDepth 100000 in
theorem c_K_print {l : Launch} {D : va_G} {cI cT cS : ClassId} {ad : Nat → Nat} (hinj : wl_inj 83 ad) (S0 : kw_S) (v : Int32) (hv : S0.2 0 0 0 < 2 ^ 30) : wl_Mv l y_K_print (Cond.code y_K_print b_K_print 2 none :: TT) (rm_ 0) D classes (kw_ty cI cT cS) 83 ad [.ref (ad 0), .int v] (kw_C cI cT cS ad S0)  (kw_C cI cT cS ad (k_K_print S0 v)) := by
  intro sz
  refine wl_enter (own := R_K) rfl (by decide) (Nat.le_of_ble_eq_true rfl) hinj (fun p_ e_ s_ m_ below meth c_ ls hsz X hml hr hlocks hl hP hS => ?_)
  have hx := X.1
  have hb := X.2.1
  have hA : ∀ q, s_.heap.size ≤ q → (wl_A 83 ad s_.heap.size) q := fun q h => Or.inr h
  have hl : lv_has ls 2 [(0, .ref (ad 0)), (1, .int v)] := hl
  refine lv_aload_n hx hb d_K_print_0 rfl (lv_at hl 0 rfl) ?_
  refine wl_get (v := .int (nI (S0.2 0 0 0))) X hP (i := 0) (by decide) (kw_cK ) rfl i_K 3 (by decide) lf_K_99 rfl d_K_print_1 ?_
  refine lv_bipush (v := 40) hx hb d_K_print_4 (by decide) ?_
  refine lv_icmp_ge (tgt := 19) hx hb d_K_print_6 (by decide) (fun c1 => ?_) (fun c1 => ?_)
  · skip
    refine lv_aload_n hx hb d_K_print_19 rfl (lv_at hl 0 rfl) ?_
    refine lv_dup hx hb d_K_print_20 rfl ?_
    refine wl_get (v := .int (nI (S0.2 0 0 0))) X hP (i := 0) (by decide) (kw_cK ) rfl i_K 3 (by decide) lf_K_99 rfl d_K_print_21 ?_
    refine lv_iconst (v := 1) hx hb d_K_print_24 (by decide) ?_
    refine lv_iadd hx hb d_K_print_25 ?_
    refine wl_put X hP hS (i := 0) (by decide) (kw_cK ) rfl i_K ft_K ft_K_ok fn_K 3 (by decide) lf_K_99 rfl rfl rfl (Nat.le_of_ble_eq_true rfl) d_K_print_26 (kw_pK_values (x := ((S0.2 0 0 0) + 1))  (show (nI (S0.2 0 0 0)) + (1 : Int32) = nI ((S0.2 0 0 0) + 1) from nI_add (S0.2 0 0 0) 1)) (fun H locs hP hS => ?_)
    obtain ⟨S2, eS2⟩ : ∃ z, z = kw_sn S0 0 0 0 ((S0.2 0 0 0) + 1) := ⟨_, rfl⟩
    rw [← eS2] at hP
    have hE : k_K_print S0 v = S2 := by
      replace eS2 := eS2.symm
      subst eS2
      exact ((if_pos c1).trans rfl)
    rw [hE]
    exact wl_vret X hsz hr hlocks hP hS d_K_print_29
  · skip
    refine lv_aload_n hx hb d_K_print_9 rfl (lv_at hl 0 rfl) ?_
    refine wl_get (v := .ref (ad 70)) X hP (i := 0) (by decide) (kw_cK ) rfl i_K 2 (by decide) lf_K_22 rfl d_K_print_10 ?_
    refine lv_aload_n hx hb d_K_print_13 rfl (lv_at hl 0 rfl) ?_
    refine wl_get (v := .int (nI (S0.2 0 0 0))) X hP (i := 0) (by decide) (kw_cK ) rfl i_K 3 (by decide) lf_K_99 rfl d_K_print_14 ?_
    refine lv_iload_n hx hb d_K_print_17 rfl (lv_at hl 1 rfl) ?_
    refine wl_iast X hP hS (i := 70) (by decide) 0 (kw_cAK ) rfl (j := (S0.2 0 0 0)) rfl (kq_lt40 hv c1) (by decide) d_K_print_18 (kw_pAK ) (fun H locs hP hS => ?_)
    obtain ⟨S3, eS3⟩ : ∃ z, z = kw_si S0 3 0 (S0.2 0 0 0) v := ⟨_, rfl⟩
    rw [← eS3] at hP
    refine lv_aload_n hx hb d_K_print_19 rfl (lv_at hl 0 rfl) ?_
    refine lv_dup hx hb d_K_print_20 rfl ?_
    refine wl_get (v := .int (nI (S3.2 0 0 0))) X hP (i := 0) (by decide) (kw_cK ) rfl i_K 3 (by decide) lf_K_99 rfl d_K_print_21 ?_
    refine lv_iconst (v := 1) hx hb d_K_print_24 (by decide) ?_
    refine lv_iadd hx hb d_K_print_25 ?_
    refine wl_put X hP hS (i := 0) (by decide) (kw_cK ) rfl i_K ft_K ft_K_ok fn_K 3 (by decide) lf_K_99 rfl rfl rfl (Nat.le_of_ble_eq_true rfl) d_K_print_26 (kw_pK_values (x := ((S3.2 0 0 0) + 1))  (show (nI (S3.2 0 0 0)) + (1 : Int32) = nI ((S3.2 0 0 0) + 1) from nI_add (S3.2 0 0 0) 1)) (fun H locs hP hS => ?_)
    obtain ⟨S4, eS4⟩ : ∃ z, z = kw_sn S3 0 0 0 ((S3.2 0 0 0) + 1) := ⟨_, rfl⟩
    rw [← eS4] at hP
    have hE : k_K_print S0 v = S4 := by
      replace eS4 := eS4.symm
      subst eS4
      replace eS3 := eS3.symm
      subst eS3
      exact ((if_neg c1).trans rfl)
    rw [hE]
    exact wl_vret X hsz hr hlocks hP hS d_K_print_29
def k_K_callSystem (S0 : kw_S) (p : Nat) (r : Nat) (n : Int32) : Int32 × kw_S :=
  if n = (0 : Int32) then
    let S2 := k_K_print S0 (S0.1 8 p r)
    ((1 : Int32), S2)
  else
    if n = (1 : Int32) then
      let S4 := k_K_fork S0 p r
      ((1 : Int32), S4)
    else
      if n = (2 : Int32) then
        let S6 := kw_si S0 0 0 4 (1 : Int32)
        ((1 : Int32), S6)
      else
        if n = (3 : Int32) then
          let S8 := k_K_sleep S0 p (S0.1 8 p r)
          ((1 : Int32), S8)
        else
          if n = (4 : Int32) then
            let S10 := k_K_awaitChild S0 p r
            ((1 : Int32), S10)
          else
            if n = (5 : Int32) then
              let S12 := kw_si S0 8 p r (nI p)
              ((1 : Int32), S12)
            else
              ((0 : Int32), S0)
set_option maxHeartbeats 4000000 in
set_option maxRecDepth 100000 in
theorem c_K_callSystem {l : Launch} {D : va_G} {cI cT cS : ClassId} {ad : Nat → Nat} (hinj : wl_inj 83 ad) (S0 : kw_S) (x_p : Int32) (p : Nat) (e_p : x_p = nI p) (h_p : p < 4) (x_r : Int32) (r : Nat) (e_r : x_r = nI r) (h_r : r < 4) (n : Int32) (hv : S0.2 0 0 0 < 2 ^ 30) : wl_Mi l y_K_callSystem (Cond.code y_K_callSystem b_K_callSystem 5 (some .boolean) :: TT) (rm_ 3) D classes (kw_ty cI cT cS) 83 ad [.ref (ad 0), .int x_p, .int x_r, .int n] (kw_C cI cT cS ad S0) ((k_K_callSystem S0 p r n).1) (kw_C cI cT cS ad ((k_K_callSystem S0 p r n).2)) := by
  subst e_p
  subst e_r
  intro sz
  refine wl_enter (own := R_K) rfl (by decide) (Nat.le_of_ble_eq_true rfl) hinj (fun p_ e_ s_ m_ below meth c_ ls hsz X hml hr hlocks hl hP hS => ?_)
  have hx := X.1
  have hb := X.2.1
  have hA : ∀ q, s_.heap.size ≤ q → (wl_A 83 ad s_.heap.size) q := fun q h => Or.inr h
  have hl : lv_has ls 5 [(0, .ref (ad 0)), (1, .int (nI p)), (2, .int (nI r)), (3, .int n)] := hl
  refine lv_aload_n hx hb d_K_callSystem_0 rfl (lv_at hl 0 rfl) ?_
  refine wl_get (v := .ref (ad 1)) X hP (i := 0) (by decide) (kw_cK ) rfl i_K 0 (by decide) lf_K_11 rfl d_K_callSystem_1 ?_
  refine lv_iload_n hx hb d_K_callSystem_4 rfl (lv_at hl 1 rfl) ?_
  refine wl_aald X hP (i := 1) (by decide) 1 (kw_cAT ) rfl (j := p) rfl (by omega) (by decide) d_K_callSystem_5 ?_
  refine wl_topv (y := .ref (ad (71 + 3 * p))) rfl ?_
  refine lv_astore (lv' := [(4, .ref (ad (71 + 3 * p))), (0, .ref (ad 0)), (1, .int (nI p)), (2, .int (nI r)), (3, .int n)]) hx hb d_K_callSystem_6 hl (by decide) rfl (fun ls hl => ?_)
  refine lv_iload_n hx hb d_K_callSystem_8 rfl (lv_at hl 4 rfl) ?_
  by_cases c1 : n = (0 : Int32)
  · refine wl_top c1 ?_
    refine lv_tableIn (tgt := 48) hx hb d_K_callSystem_9 (by decide) (by decide) rfl (by decide) ?_
    refine lv_aload_n hx hb d_K_callSystem_48 rfl (lv_at hl 1 rfl) ?_
    refine lv_aload hx hb d_K_callSystem_49 (lv_at hl 0 rfl) ?_
    refine wl_get (v := .ref (ad (72 + 3 * p))) X hP (i := (71 + 3 * p)) (by omega) (kw_cT (by omega)) rfl i_T 0 (by decide) lf_K_88 rfl d_K_callSystem_51 ?_
    refine lv_iload_n hx hb d_K_callSystem_54 rfl (lv_at hl 3 rfl) ?_
    refine wl_iald X hP (i := (72 + 3 * p)) (by omega) 0 (kw_cAR (by omega)) rfl (j := r) rfl (by omega) (by decide) d_K_callSystem_55 ?_
    refine wl_gov2 (cf := kw_C cI cT cS ad) (S2 := k_K_print S0 (S0.1 8 p r)) hS hA X.2.2.2.2.2.2 (wl_runV (As := [.int (S0.1 8 p r)]) (rest := []) X hml hl.1 hP g_TT (c_K_print hinj S0 (S0.1 8 p r) hv _) (by decide) (kw_cK ) rfl wv_K_158 (na := 1) (by decide +kernel) rfl ⟨Nat.le_of_ble_eq_true rfl, Nat.le_of_ble_eq_true rfl⟩ rfl (Nat.le_of_ble_eq_true rfl) d_K_callSystem_56 ⟨Nat.le_refl _, Nat.le_refl _⟩) (fun S2 eS2 H locs hP hS => ?_)
    refine lv_iconst (v := 1) hx hb d_K_callSystem_59 (by decide) ?_
    have hE : k_K_callSystem S0 p r n = ((1 : Int32), S2) := by
      replace eS2 := eS2.symm
      subst eS2
      exact ((if_pos c1).trans rfl)
    rw [hE]
    exact wl_zret X hsz hr hlocks (kq_bool (Or.inr rfl)) hP hS d_K_callSystem_60
  by_cases c3 : n = (1 : Int32)
  · refine wl_top c3 ?_
    refine lv_tableIn (tgt := 61) hx hb d_K_callSystem_9 (by decide) (by decide) rfl (by decide) ?_
    refine lv_aload_n hx hb d_K_callSystem_61 rfl (lv_at hl 1 rfl) ?_
    refine lv_iload_n hx hb d_K_callSystem_62 rfl (lv_at hl 2 rfl) ?_
    refine lv_iload_n hx hb d_K_callSystem_63 rfl (lv_at hl 3 rfl) ?_
    refine wl_gov2 (cf := kw_C cI cT cS ad) (S2 := k_K_fork S0 p r) hS hA X.2.2.2.2.2.2 (wl_runV (As := [.int (nI p), .int (nI r)]) (rest := []) X hml hl.1 hP g_TT (c_K_fork hinj S0 (nI p) p rfl (by omega) (nI r) r rfl (by omega) _) (by decide) (kw_cK ) rfl wv_K_161 (na := 2) (by decide +kernel) rfl ⟨Nat.le_of_ble_eq_true rfl, Nat.le_of_ble_eq_true rfl⟩ rfl (Nat.le_of_ble_eq_true rfl) d_K_callSystem_64 ⟨Nat.le_refl _, Nat.le_refl _⟩) (fun S4 eS4 H locs hP hS => ?_)
    refine lv_iconst (v := 1) hx hb d_K_callSystem_67 (by decide) ?_
    have hE : k_K_callSystem S0 p r n = ((1 : Int32), S4) := by
      replace eS4 := eS4.symm
      subst eS4
      exact ((if_neg c1).trans ((if_pos c3).trans rfl))
    rw [hE]
    exact wl_zret X hsz hr hlocks (kq_bool (Or.inr rfl)) hP hS d_K_callSystem_68
  by_cases c5 : n = (2 : Int32)
  · refine wl_top c5 ?_
    refine lv_tableIn (tgt := 69) hx hb d_K_callSystem_9 (by decide) (by decide) rfl (by decide) ?_
    refine lv_aload_n hx hb d_K_callSystem_69 rfl (lv_at hl 1 rfl) ?_
    refine lv_iconst (v := 1) hx hb d_K_callSystem_70 (by decide) ?_
    refine wl_put X hP hS (i := 0) (by decide) (kw_cK ) rfl i_K ft_K ft_K_ok fn_K 9 (by decide) lf_K_136 rfl rfl rfl (Nat.le_of_ble_eq_true rfl) d_K_callSystem_71 (kw_pK_yielded ) (fun H locs hP hS => ?_)
    obtain ⟨S6, eS6⟩ : ∃ z, z = kw_si S0 0 0 4 (1 : Int32) := ⟨_, rfl⟩
    rw [← eS6] at hP
    refine lv_iconst (v := 1) hx hb d_K_callSystem_74 (by decide) ?_
    have hE : k_K_callSystem S0 p r n = ((1 : Int32), S6) := by
      replace eS6 := eS6.symm
      subst eS6
      exact ((if_neg c1).trans ((if_neg c3).trans ((if_pos c5).trans rfl)))
    rw [hE]
    exact wl_zret X hsz hr hlocks (kq_bool (Or.inr rfl)) hP hS d_K_callSystem_75
  by_cases c7 : n = (3 : Int32)
  · refine wl_top c7 ?_
    refine lv_tableIn (tgt := 76) hx hb d_K_callSystem_9 (by decide) (by decide) rfl (by decide) ?_
    refine lv_aload_n hx hb d_K_callSystem_76 rfl (lv_at hl 1 rfl) ?_
    refine lv_aload hx hb d_K_callSystem_77 (lv_at hl 0 rfl) ?_
    refine lv_aload hx hb d_K_callSystem_79 (lv_at hl 0 rfl) ?_
    refine wl_get (v := .ref (ad (72 + 3 * p))) X hP (i := (71 + 3 * p)) (by omega) (kw_cT (by omega)) rfl i_T 0 (by decide) lf_K_88 rfl d_K_callSystem_81 ?_
    refine lv_iload_n hx hb d_K_callSystem_84 rfl (lv_at hl 3 rfl) ?_
    refine wl_iald X hP (i := (72 + 3 * p)) (by omega) 0 (kw_cAR (by omega)) rfl (j := r) rfl (by omega) (by decide) d_K_callSystem_85 ?_
    refine wl_gov2 (cf := kw_C cI cT cS ad) (S2 := k_K_sleep S0 p (S0.1 8 p r)) hS hA X.2.2.2.2.2.2 (wl_runV (As := [.ref (ad (71 + 3 * p)), .int (S0.1 8 p r)]) (rest := []) X hml hl.1 hP g_TT (c_K_sleep hinj S0 p (by omega) (S0.1 8 p r) _) (by decide) (kw_cK ) rfl wv_K_164 (na := 2) (by decide +kernel) rfl ⟨Nat.le_of_ble_eq_true rfl, Nat.le_of_ble_eq_true rfl⟩ rfl (Nat.le_of_ble_eq_true rfl) d_K_callSystem_86 ⟨Nat.le_refl _, Nat.le_refl _⟩) (fun S8 eS8 H locs hP hS => ?_)
    refine lv_iconst (v := 1) hx hb d_K_callSystem_89 (by decide) ?_
    have hE : k_K_callSystem S0 p r n = ((1 : Int32), S8) := by
      replace eS8 := eS8.symm
      subst eS8
      exact ((if_neg c1).trans ((if_neg c3).trans ((if_neg c5).trans ((if_pos c7).trans rfl))))
    rw [hE]
    exact wl_zret X hsz hr hlocks (kq_bool (Or.inr rfl)) hP hS d_K_callSystem_90
  by_cases c9 : n = (4 : Int32)
  · refine wl_top c9 ?_
    refine lv_tableIn (tgt := 91) hx hb d_K_callSystem_9 (by decide) (by decide) rfl (by decide) ?_
    refine lv_aload_n hx hb d_K_callSystem_91 rfl (lv_at hl 1 rfl) ?_
    refine lv_iload_n hx hb d_K_callSystem_92 rfl (lv_at hl 2 rfl) ?_
    refine lv_iload_n hx hb d_K_callSystem_93 rfl (lv_at hl 3 rfl) ?_
    refine wl_gov2 (cf := kw_C cI cT cS ad) (S2 := k_K_awaitChild S0 p r) hS hA X.2.2.2.2.2.2 (wl_runV (As := [.int (nI p), .int (nI r)]) (rest := []) X hml hl.1 hP g_TT (c_K_awaitChild hinj S0 (nI p) p rfl (by omega) (nI r) r rfl (by omega) _) (by decide) (kw_cK ) rfl wv_K_168 (na := 2) (by decide +kernel) rfl ⟨Nat.le_of_ble_eq_true rfl, Nat.le_of_ble_eq_true rfl⟩ rfl (Nat.le_of_ble_eq_true rfl) d_K_callSystem_94 ⟨Nat.le_refl _, Nat.le_refl _⟩) (fun S10 eS10 H locs hP hS => ?_)
    refine lv_iconst (v := 1) hx hb d_K_callSystem_97 (by decide) ?_
    have hE : k_K_callSystem S0 p r n = ((1 : Int32), S10) := by
      replace eS10 := eS10.symm
      subst eS10
      exact ((if_neg c1).trans ((if_neg c3).trans ((if_neg c5).trans ((if_neg c7).trans ((if_pos c9).trans rfl)))))
    rw [hE]
    exact wl_zret X hsz hr hlocks (kq_bool (Or.inr rfl)) hP hS d_K_callSystem_98
  by_cases c11 : n = (5 : Int32)
  · refine wl_top c11 ?_
    refine lv_tableIn (tgt := 99) hx hb d_K_callSystem_9 (by decide) (by decide) rfl (by decide) ?_
    refine lv_aload hx hb d_K_callSystem_99 (lv_at hl 0 rfl) ?_
    refine wl_get (v := .ref (ad (72 + 3 * p))) X hP (i := (71 + 3 * p)) (by omega) (kw_cT (by omega)) rfl i_T 0 (by decide) lf_K_88 rfl d_K_callSystem_101 ?_
    refine lv_iload_n hx hb d_K_callSystem_104 rfl (lv_at hl 3 rfl) ?_
    refine lv_iload_n hx hb d_K_callSystem_105 rfl (lv_at hl 2 rfl) ?_
    refine wl_iast X hP hS (i := (72 + 3 * p)) (by omega) 0 (kw_cAR (by omega)) rfl (j := r) rfl (by omega) (by decide) d_K_callSystem_106 (kw_pAR (by omega)) (fun H locs hP hS => ?_)
    obtain ⟨S12, eS12⟩ : ∃ z, z = kw_si S0 8 p r (nI p) := ⟨_, rfl⟩
    rw [← eS12] at hP
    refine lv_iconst (v := 1) hx hb d_K_callSystem_107 (by decide) ?_
    have hE : k_K_callSystem S0 p r n = ((1 : Int32), S12) := by
      replace eS12 := eS12.symm
      subst eS12
      exact ((if_neg c1).trans ((if_neg c3).trans ((if_neg c5).trans ((if_neg c7).trans ((if_neg c9).trans ((if_pos c11).trans rfl))))))
    rw [hE]
    exact wl_zret X hsz hr hlocks (kq_bool (Or.inr rfl)) hP hS d_K_callSystem_108
  refine lv_tableOut (tgt := 109) hx hb d_K_callSystem_9 (by have := lv_neT c1 (a := 0) rfl; have := lv_neT c3 (a := 1) rfl; have := lv_neT c5 (a := 2) rfl; have := lv_neT c7 (a := 3) rfl; have := lv_neT c9 (a := 4) rfl; have := lv_neT c11 (a := 5) rfl; omega) (by decide) ?_
  refine lv_iconst (v := 0) hx hb d_K_callSystem_109 (by decide) ?_
  have hE : k_K_callSystem S0 p r n = ((0 : Int32), S0) := by
    exact ((if_neg c1).trans ((if_neg c3).trans ((if_neg c5).trans ((if_neg c7).trans ((if_neg c9).trans ((if_neg c11).trans rfl))))))
  rw [hE]
  exact wl_zret X hsz hr hlocks (kq_bool (Or.inl rfl)) hP hS d_K_callSystem_110
theorem kq_csb {S : kw_S} {p r : Nat} {n : Int32} : (k_K_callSystem S p r n).1 = 0 ∨ (k_K_callSystem S p r n).1 = 1 := by
  unfold k_K_callSystem
  dsimp only
  repeat' split
  all_goals first | exact Or.inl rfl | exact Or.inr rfl

def k_K_obey (S0 : kw_S) (p : Nat) (w : Int32) : Int32 × kw_S :=
  let x1 := nI (kw_rr w)
  let x2 := S0.1 8 p (kw_rs w)
  let x3 := w >>> ((8 : Int32) &&& 31)
  let x4 := w &&& (15 : Int32)
  if x4 = (0 : Int32) then
    let S6 := k_K_end S0 p (S0.1 8 p (kw_rr w))
    ((1 : Int32), S6)
  else
    if x4 = (1 : Int32) then
      let S8 := kw_si S0 8 p (kw_rr w) x3
      ((1 : Int32), S8)
    else
      if x4 = (2 : Int32) then
        let S10 := kw_si S0 8 p (kw_rr w) ((S0.1 8 p (kw_rr w)) + x2)
        ((1 : Int32), S10)
      else
        if x4 = (3 : Int32) then
          let S12 := kw_si S0 8 p (kw_rr w) ((S0.1 8 p (kw_rr w)) - x2)
          ((1 : Int32), S12)
        else
          if x4 = (4 : Int32) then
            let r14 := k_K_isAddress (x2 + x3)
            if r14 = 0 then
              ((0 : Int32), S0)
            else
              let r16 := (k_M_fetch S0 p ((x2 + x3).toNatClampNeg)).1
              let S17 := (k_M_fetch S0 p ((x2 + x3).toNatClampNeg)).2
              let S18 := kw_si S17 8 p (kw_rr w) r16
              ((1 : Int32), S18)
          else
            if x4 = (5 : Int32) then
              let r20 := k_K_isAddress (x2 + x3)
              if r20 = 0 then
                ((0 : Int32), S0)
              else
                let S22 := k_M_write S0 p ((x2 + x3).toNatClampNeg) (S0.1 8 p (kw_rr w))
                ((1 : Int32), S22)
            else
              if x4 = (6 : Int32) then
                if (S0.1 8 p (kw_rr w)) = 0 then
                  let S25 := kw_si S0 7 p 1 x3
                  ((1 : Int32), S25)
                else
                  ((1 : Int32), S0)
              else
                if x4 = (7 : Int32) then
                  let S27 := kw_si S0 7 p 1 x3
                  ((1 : Int32), S27)
                else
                  if x4 = (8 : Int32) then
                    let r29 := (k_K_callSystem S0 p (kw_rr w) x3).1
                    let S30 := (k_K_callSystem S0 p (kw_rr w) x3).2
                    (r29, S30)
                  else
                    if x4 = (9 : Int32) then
                      if x2 ≤ (S0.1 8 p (kw_rr w)) then
                        let S33 := kw_si S0 8 p (kw_rr w) (0 : Int32)
                        ((1 : Int32), S33)
                      else
                        let S34 := kw_si S0 8 p (kw_rr w) (1 : Int32)
                        ((1 : Int32), S34)
                    else
                      ((0 : Int32), S0)
set_option maxHeartbeats 4000000 in
set_option maxRecDepth 100000 in
theorem c_K_obey {l : Launch} {D : va_G} {cI cT cS : ClassId} {ad : Nat → Nat} (hinj : wl_inj 83 ad) (S0 : kw_S) (x_p : Int32) (p : Nat) (e_p : x_p = nI p) (h_p : p < 4) (w : Int32) (hv : S0.2 0 0 0 < 2 ^ 30) (hI : kw_FI S0) : wl_Mi l y_K_obey (Cond.code y_K_obey b_K_obey 8 (some .boolean) :: TT) (rm_ 5) D classes (kw_ty cI cT cS) 83 ad [.ref (ad 0), .int x_p, .int w] (kw_C cI cT cS ad S0) ((k_K_obey S0 p w).1) (kw_C cI cT cS ad ((k_K_obey S0 p w).2)) := by
  subst e_p
  intro sz
  refine wl_enter (own := R_K) rfl (by decide) (Nat.le_of_ble_eq_true rfl) hinj (fun p_ e_ s_ m_ below meth c_ ls hsz X hml hr hlocks hl hP hS => ?_)
  have hx := X.1
  have hb := X.2.1
  have hA : ∀ q, s_.heap.size ≤ q → (wl_A 83 ad s_.heap.size) q := fun q h => Or.inr h
  have hl : lv_has ls 8 [(0, .ref (ad 0)), (1, .int (nI p)), (2, .int w)] := hl
  refine lv_aload_n hx hb d_K_obey_0 rfl (lv_at hl 0 rfl) ?_
  refine wl_get (v := .ref (ad 1)) X hP (i := 0) (by decide) (kw_cK ) rfl i_K 0 (by decide) lf_K_11 rfl d_K_obey_1 ?_
  refine lv_iload_n hx hb d_K_obey_4 rfl (lv_at hl 1 rfl) ?_
  refine wl_aald X hP (i := 1) (by decide) 1 (kw_cAT ) rfl (j := p) rfl (by omega) (by decide) d_K_obey_5 ?_
  refine wl_topv (y := .ref (ad (71 + 3 * p))) rfl ?_
  refine lv_astore_n (lv' := [(3, .ref (ad (71 + 3 * p))), (0, .ref (ad 0)), (1, .int (nI p)), (2, .int w)]) hx hb d_K_obey_6 rfl hl (by decide) rfl (fun ls hl => ?_)
  refine lv_aload_n hx hb d_K_obey_7 rfl (lv_at hl 0 rfl) ?_
  refine wl_get (v := .ref (ad (72 + 3 * p))) X hP (i := (71 + 3 * p)) (by omega) (kw_cT (by omega)) rfl i_T 0 (by decide) lf_K_88 rfl d_K_obey_8 ?_
  refine lv_astore (lv' := [(4, .ref (ad (72 + 3 * p))), (3, .ref (ad (71 + 3 * p))), (0, .ref (ad 0)), (1, .int (nI p)), (2, .int w)]) hx hb d_K_obey_11 hl (by decide) rfl (fun ls hl => ?_)
  refine lv_iload_n hx hb d_K_obey_13 rfl (lv_at hl 4 rfl) ?_
  refine lv_iconst (v := 4) hx hb d_K_obey_14 (by decide) ?_
  refine lv_ishr hx hb d_K_obey_15 ?_
  refine lv_iconst (v := 3) hx hb d_K_obey_16 (by decide) ?_
  refine lv_iand hx hb d_K_obey_17 ?_
  have hrr := (kw_rr_eq w).2
  have hrs := (kw_rs_eq w).2
  refine wl_top (kw_rr_eq w).1 ?_
  refine lv_topi (fun x1 ex1 => ?_)
  refine lv_istore (lv' := [(5, .int x1), (4, .ref (ad (72 + 3 * p))), (3, .ref (ad (71 + 3 * p))), (0, .ref (ad 0)), (1, .int (nI p)), (2, .int w)]) hx hb d_K_obey_18 hl (by decide) rfl (fun ls hl => ?_)
  refine lv_aload hx hb d_K_obey_20 (lv_at hl 1 rfl) ?_
  refine lv_iload_n hx hb d_K_obey_22 rfl (lv_at hl 5 rfl) ?_
  refine lv_bipush (v := 6) hx hb d_K_obey_23 (by decide) ?_
  refine lv_ishr hx hb d_K_obey_25 ?_
  refine lv_iconst (v := 3) hx hb d_K_obey_26 (by decide) ?_
  refine lv_iand hx hb d_K_obey_27 ?_
  refine wl_top (kw_rs_eq w).1 ?_
  refine wl_iald X hP (i := (72 + 3 * p)) (by omega) 0 (kw_cAR (by omega)) rfl (j := (kw_rs w)) rfl (by omega) (by decide) d_K_obey_28 ?_
  refine lv_topi (fun x2 ex2 => ?_)
  refine lv_istore (lv' := [(6, .int x2), (5, .int x1), (4, .ref (ad (72 + 3 * p))), (3, .ref (ad (71 + 3 * p))), (0, .ref (ad 0)), (1, .int (nI p)), (2, .int w)]) hx hb d_K_obey_29 hl (by decide) rfl (fun ls hl => ?_)
  refine lv_iload_n hx hb d_K_obey_31 rfl (lv_at hl 6 rfl) ?_
  refine lv_bipush (v := 8) hx hb d_K_obey_32 (by decide) ?_
  refine lv_ishr hx hb d_K_obey_34 ?_
  refine lv_topi (fun x3 ex3 => ?_)
  refine lv_istore (lv' := [(7, .int x3), (6, .int x2), (5, .int x1), (4, .ref (ad (72 + 3 * p))), (3, .ref (ad (71 + 3 * p))), (0, .ref (ad 0)), (1, .int (nI p)), (2, .int w)]) hx hb d_K_obey_35 hl (by decide) rfl (fun ls hl => ?_)
  refine lv_iload_n hx hb d_K_obey_37 rfl (lv_at hl 7 rfl) ?_
  refine lv_bipush (v := 15) hx hb d_K_obey_38 (by decide) ?_
  refine lv_iand hx hb d_K_obey_40 ?_
  refine lv_topi (fun x4 ex4 => ?_)
  by_cases c5 : x4 = (0 : Int32)
  · refine wl_top c5 ?_
    refine lv_tableIn (tgt := 96) hx hb d_K_obey_41 (by decide) (by decide) rfl (by decide) ?_
    refine lv_aload_n hx hb d_K_obey_96 rfl (lv_at hl 5 rfl) ?_
    refine lv_iload_n hx hb d_K_obey_97 rfl (lv_at hl 6 rfl) ?_
    refine lv_aload hx hb d_K_obey_98 (lv_at hl 3 rfl) ?_
    refine lv_iload hx hb d_K_obey_100 (lv_at hl 2 rfl) ?_
    refine wl_iald X hP (i := (72 + 3 * p)) (by omega) 0 (kw_cAR (by omega)) rfl (j := (kw_rr w)) (ex1.trans rfl) (by omega) (by decide) d_K_obey_102 ?_
    refine wl_gov2 (cf := kw_C cI cT cS ad) (S2 := k_K_end S0 p (S0.1 8 p (kw_rr w))) hS hA X.2.2.2.2.2.2 (wl_runV (As := [.int (nI p), .int (S0.1 8 p (kw_rr w))]) (rest := []) X hml hl.1 hP g_TT (c_K_end hinj S0 (nI p) p rfl (by omega) (S0.1 8 p (kw_rr w)) _) (by decide) (kw_cK ) rfl wv_K_62 (na := 2) (by decide +kernel) rfl ⟨Nat.le_of_ble_eq_true rfl, Nat.le_of_ble_eq_true rfl⟩ rfl (Nat.le_of_ble_eq_true rfl) d_K_obey_103 ⟨Nat.le_refl _, Nat.le_refl _⟩) (fun S6 eS6 H locs hP hS => ?_)
    refine lv_iconst (v := 1) hx hb d_K_obey_106 (by decide) ?_
    have hE : k_K_obey S0 p w = ((1 : Int32), S6) := by
      replace eS6 := eS6.symm
      subst eS6
      replace ex4 := ex4.symm
      subst ex4
      replace ex3 := ex3.symm
      subst ex3
      replace ex2 := ex2.symm
      subst ex2
      replace ex1 := ex1.symm
      subst ex1
      exact ((if_pos c5).trans rfl)
    rw [hE]
    exact wl_zret X hsz hr hlocks (kq_bool (Or.inr rfl)) hP hS d_K_obey_107
  by_cases c7 : x4 = (1 : Int32)
  · refine wl_top c7 ?_
    refine lv_tableIn (tgt := 108) hx hb d_K_obey_41 (by decide) (by decide) rfl (by decide) ?_
    refine lv_aload hx hb d_K_obey_108 (lv_at hl 3 rfl) ?_
    refine lv_iload hx hb d_K_obey_110 (lv_at hl 2 rfl) ?_
    refine lv_iload hx hb d_K_obey_112 (lv_at hl 0 rfl) ?_
    refine wl_iast X hP hS (i := (72 + 3 * p)) (by omega) 0 (kw_cAR (by omega)) rfl (j := (kw_rr w)) (ex1.trans rfl) (by omega) (by decide) d_K_obey_114 (kw_pAR (by omega)) (fun H locs hP hS => ?_)
    obtain ⟨S8, eS8⟩ : ∃ z, z = kw_si S0 8 p (kw_rr w) x3 := ⟨_, rfl⟩
    rw [← eS8] at hP
    refine lv_iconst (v := 1) hx hb d_K_obey_115 (by decide) ?_
    have hE : k_K_obey S0 p w = ((1 : Int32), S8) := by
      replace eS8 := eS8.symm
      subst eS8
      replace ex4 := ex4.symm
      subst ex4
      replace ex3 := ex3.symm
      subst ex3
      replace ex2 := ex2.symm
      subst ex2
      replace ex1 := ex1.symm
      subst ex1
      exact ((if_neg c5).trans ((if_pos c7).trans rfl))
    rw [hE]
    exact wl_zret X hsz hr hlocks (kq_bool (Or.inr rfl)) hP hS d_K_obey_116
  by_cases c9 : x4 = (2 : Int32)
  · refine wl_top c9 ?_
    refine lv_tableIn (tgt := 117) hx hb d_K_obey_41 (by decide) (by decide) rfl (by decide) ?_
    refine lv_aload hx hb d_K_obey_117 (lv_at hl 3 rfl) ?_
    refine lv_iload hx hb d_K_obey_119 (lv_at hl 2 rfl) ?_
    refine lv_dup2_11 hx hb d_K_obey_121 rfl rfl ?_
    refine wl_iald X hP (i := (72 + 3 * p)) (by omega) 0 (kw_cAR (by omega)) rfl (j := (kw_rr w)) (ex1.trans rfl) (by omega) (by decide) d_K_obey_122 ?_
    refine lv_iload hx hb d_K_obey_123 (lv_at hl 1 rfl) ?_
    refine lv_iadd hx hb d_K_obey_125 ?_
    refine wl_iast X hP hS (i := (72 + 3 * p)) (by omega) 0 (kw_cAR (by omega)) rfl (j := (kw_rr w)) (ex1.trans rfl) (by omega) (by decide) d_K_obey_126 (kw_pAR (by omega)) (fun H locs hP hS => ?_)
    obtain ⟨S10, eS10⟩ : ∃ z, z = kw_si S0 8 p (kw_rr w) ((S0.1 8 p (kw_rr w)) + x2) := ⟨_, rfl⟩
    rw [← eS10] at hP
    refine lv_iconst (v := 1) hx hb d_K_obey_127 (by decide) ?_
    have hE : k_K_obey S0 p w = ((1 : Int32), S10) := by
      replace eS10 := eS10.symm
      subst eS10
      replace ex4 := ex4.symm
      subst ex4
      replace ex3 := ex3.symm
      subst ex3
      replace ex2 := ex2.symm
      subst ex2
      replace ex1 := ex1.symm
      subst ex1
      exact ((if_neg c5).trans ((if_neg c7).trans ((if_pos c9).trans rfl)))
    rw [hE]
    exact wl_zret X hsz hr hlocks (kq_bool (Or.inr rfl)) hP hS d_K_obey_128
  by_cases c11 : x4 = (3 : Int32)
  · refine wl_top c11 ?_
    refine lv_tableIn (tgt := 129) hx hb d_K_obey_41 (by decide) (by decide) rfl (by decide) ?_
    refine lv_aload hx hb d_K_obey_129 (lv_at hl 3 rfl) ?_
    refine lv_iload hx hb d_K_obey_131 (lv_at hl 2 rfl) ?_
    refine lv_dup2_11 hx hb d_K_obey_133 rfl rfl ?_
    refine wl_iald X hP (i := (72 + 3 * p)) (by omega) 0 (kw_cAR (by omega)) rfl (j := (kw_rr w)) (ex1.trans rfl) (by omega) (by decide) d_K_obey_134 ?_
    refine lv_iload hx hb d_K_obey_135 (lv_at hl 1 rfl) ?_
    refine lv_isub hx hb d_K_obey_137 ?_
    refine wl_iast X hP hS (i := (72 + 3 * p)) (by omega) 0 (kw_cAR (by omega)) rfl (j := (kw_rr w)) (ex1.trans rfl) (by omega) (by decide) d_K_obey_138 (kw_pAR (by omega)) (fun H locs hP hS => ?_)
    obtain ⟨S12, eS12⟩ : ∃ z, z = kw_si S0 8 p (kw_rr w) ((S0.1 8 p (kw_rr w)) - x2) := ⟨_, rfl⟩
    rw [← eS12] at hP
    refine lv_iconst (v := 1) hx hb d_K_obey_139 (by decide) ?_
    have hE : k_K_obey S0 p w = ((1 : Int32), S12) := by
      replace eS12 := eS12.symm
      subst eS12
      replace ex4 := ex4.symm
      subst ex4
      replace ex3 := ex3.symm
      subst ex3
      replace ex2 := ex2.symm
      subst ex2
      replace ex1 := ex1.symm
      subst ex1
      exact ((if_neg c5).trans ((if_neg c7).trans ((if_neg c9).trans ((if_pos c11).trans rfl))))
    rw [hE]
    exact wl_zret X hsz hr hlocks (kq_bool (Or.inr rfl)) hP hS d_K_obey_140
  by_cases c13 : x4 = (4 : Int32)
  · refine wl_top c13 ?_
    refine lv_tableIn (tgt := 141) hx hb d_K_obey_41 (by decide) (by decide) rfl (by decide) ?_
    refine lv_iload hx hb d_K_obey_141 (lv_at hl 1 rfl) ?_
    refine lv_iload hx hb d_K_obey_143 (lv_at hl 0 rfl) ?_
    refine lv_iadd hx hb d_K_obey_145 ?_
    refine wl_goi1 (cf := kw_C cI cT cS ad) (r := k_K_isAddress (x2 + x3)) hS hA X.2.2.2.2.2.2 (wl_runS (As := [.int (x2 + x3)]) (rest := []) X hml hl.1 hP g_TT (c_K_isAddress hinj S0 (x2 + x3) _) wv_K_43 (na := 1) (by decide +kernel) rfl ⟨Nat.le_of_ble_eq_true rfl, Nat.le_of_ble_eq_true rfl⟩ rfl (Nat.le_of_ble_eq_true rfl) d_K_obey_146 ⟨Nat.le_refl _, Nat.le_refl _⟩) (fun r14 er14 H locs hP hS => ?_)
    refine lv_if_ne (tgt := 154) hx hb d_K_obey_149 (by decide) (fun c15 => ?_) (fun c15 => ?_)
    · skip
      obtain ⟨ha1, ha2⟩ := kq_isAddress (fun h => c15 (er14.trans h))
      refine lv_aload hx hb d_K_obey_154 (lv_at hl 3 rfl) ?_
      refine lv_iload hx hb d_K_obey_156 (lv_at hl 2 rfl) ?_
      refine lv_aload_n hx hb d_K_obey_158 rfl (lv_at hl 5 rfl) ?_
      refine wl_get (v := .ref (ad 2)) X hP (i := 0) (by decide) (kw_cK ) rfl i_K 1 (by decide) lf_K_18 rfl d_K_obey_159 ?_
      refine lv_aload_n hx hb d_K_obey_162 rfl (lv_at hl 4 rfl) ?_
      refine lv_iload hx hb d_K_obey_163 (lv_at hl 1 rfl) ?_
      refine lv_iload hx hb d_K_obey_165 (lv_at hl 0 rfl) ?_
      refine lv_iadd hx hb d_K_obey_167 ?_
      refine wl_goi2 (cf := kw_C cI cT cS ad) (res := k_M_fetch S0 p ((x2 + x3).toNatClampNeg)) hS hA X.2.2.2.2.2.2 (wl_runV (As := [.ref (ad (71 + 3 * p)), .int (x2 + x3)]) (rest := [.int x1, .ref (ad (72 + 3 * p))]) X hml hl.1 hP g_TT (c_M_fetch hinj S0 p (by omega) (x2 + x3) ((x2 + x3).toNatClampNeg) ha1 (by omega) hI _) (by decide) (kw_cM ) rfl wv_K_146 (na := 2) (by decide +kernel) rfl ⟨Nat.le_of_ble_eq_true rfl, Nat.le_of_ble_eq_true rfl⟩ rfl (Nat.le_of_ble_eq_true rfl) d_K_obey_168 ⟨Nat.le_refl _, Nat.le_refl _⟩) (fun r16 S17 er16 eS17 H locs hP hS => ?_)
      refine wl_iast X hP hS (i := (72 + 3 * p)) (by omega) 0 (kw_cAR (by omega)) rfl (j := (kw_rr w)) (ex1.trans rfl) (by omega) (by decide) d_K_obey_171 (kw_pAR (by omega)) (fun H locs hP hS => ?_)
      obtain ⟨S18, eS18⟩ : ∃ z, z = kw_si S17 8 p (kw_rr w) r16 := ⟨_, rfl⟩
      rw [← eS18] at hP
      refine lv_iconst (v := 1) hx hb d_K_obey_172 (by decide) ?_
      have hE : k_K_obey S0 p w = ((1 : Int32), S18) := by
        replace eS18 := eS18.symm
        subst eS18
        replace eS17 := eS17.symm
        subst eS17
        replace er16 := er16.symm
        subst er16
        replace er14 := er14.symm
        subst er14
        replace ex4 := ex4.symm
        subst ex4
        replace ex3 := ex3.symm
        subst ex3
        replace ex2 := ex2.symm
        subst ex2
        replace ex1 := ex1.symm
        subst ex1
        exact ((if_neg c5).trans ((if_neg c7).trans ((if_neg c9).trans ((if_neg c11).trans ((if_pos c13).trans ((if_neg c15).trans rfl))))))
      rw [hE]
      exact wl_zret X hsz hr hlocks (kq_bool (Or.inr rfl)) hP hS d_K_obey_173
    · skip
      refine lv_iconst (v := 0) hx hb d_K_obey_152 (by decide) ?_
      have hE : k_K_obey S0 p w = ((0 : Int32), S0) := by
        replace er14 := er14.symm
        subst er14
        replace ex4 := ex4.symm
        subst ex4
        replace ex3 := ex3.symm
        subst ex3
        replace ex2 := ex2.symm
        subst ex2
        replace ex1 := ex1.symm
        subst ex1
        exact ((if_neg c5).trans ((if_neg c7).trans ((if_neg c9).trans ((if_neg c11).trans ((if_pos c13).trans ((if_pos c15).trans rfl))))))
      rw [hE]
      exact wl_zret X hsz hr hlocks (kq_bool (Or.inl rfl)) hP hS d_K_obey_153
  by_cases c19 : x4 = (5 : Int32)
  · refine wl_top c19 ?_
    refine lv_tableIn (tgt := 174) hx hb d_K_obey_41 (by decide) (by decide) rfl (by decide) ?_
    refine lv_iload hx hb d_K_obey_174 (lv_at hl 1 rfl) ?_
    refine lv_iload hx hb d_K_obey_176 (lv_at hl 0 rfl) ?_
    refine lv_iadd hx hb d_K_obey_178 ?_
    refine wl_goi1 (cf := kw_C cI cT cS ad) (r := k_K_isAddress (x2 + x3)) hS hA X.2.2.2.2.2.2 (wl_runS (As := [.int (x2 + x3)]) (rest := []) X hml hl.1 hP g_TT (c_K_isAddress hinj S0 (x2 + x3) _) wv_K_43 (na := 1) (by decide +kernel) rfl ⟨Nat.le_of_ble_eq_true rfl, Nat.le_of_ble_eq_true rfl⟩ rfl (Nat.le_of_ble_eq_true rfl) d_K_obey_179 ⟨Nat.le_refl _, Nat.le_refl _⟩) (fun r20 er20 H locs hP hS => ?_)
    refine lv_if_ne (tgt := 187) hx hb d_K_obey_182 (by decide) (fun c21 => ?_) (fun c21 => ?_)
    · skip
      obtain ⟨ha1, ha2⟩ := kq_isAddress (fun h => c21 (er20.trans h))
      refine lv_aload_n hx hb d_K_obey_187 rfl (lv_at hl 5 rfl) ?_
      refine wl_get (v := .ref (ad 2)) X hP (i := 0) (by decide) (kw_cK ) rfl i_K 1 (by decide) lf_K_18 rfl d_K_obey_188 ?_
      refine lv_aload_n hx hb d_K_obey_191 rfl (lv_at hl 4 rfl) ?_
      refine lv_iload hx hb d_K_obey_192 (lv_at hl 1 rfl) ?_
      refine lv_iload hx hb d_K_obey_194 (lv_at hl 0 rfl) ?_
      refine lv_iadd hx hb d_K_obey_196 ?_
      refine lv_aload hx hb d_K_obey_197 (lv_at hl 3 rfl) ?_
      refine lv_iload hx hb d_K_obey_199 (lv_at hl 2 rfl) ?_
      refine wl_iald X hP (i := (72 + 3 * p)) (by omega) 0 (kw_cAR (by omega)) rfl (j := (kw_rr w)) (ex1.trans rfl) (by omega) (by decide) d_K_obey_201 ?_
      refine wl_gov2 (cf := kw_C cI cT cS ad) (S2 := k_M_write S0 p ((x2 + x3).toNatClampNeg) (S0.1 8 p (kw_rr w))) hS hA X.2.2.2.2.2.2 (wl_runV (As := [.ref (ad (71 + 3 * p)), .int (x2 + x3), .int (S0.1 8 p (kw_rr w))]) (rest := []) X hml hl.1 hP g_TT (c_M_write hinj S0 p (by omega) (x2 + x3) ((x2 + x3).toNatClampNeg) ha1 (by omega) (S0.1 8 p (kw_rr w)) hI _) (by decide) (kw_cM ) rfl wv_K_49 (na := 3) (by decide +kernel) rfl ⟨Nat.le_of_ble_eq_true rfl, Nat.le_of_ble_eq_true rfl⟩ rfl (Nat.le_of_ble_eq_true rfl) d_K_obey_202 ⟨Nat.le_refl _, Nat.le_refl _⟩) (fun S22 eS22 H locs hP hS => ?_)
      refine lv_iconst (v := 1) hx hb d_K_obey_205 (by decide) ?_
      have hE : k_K_obey S0 p w = ((1 : Int32), S22) := by
        replace eS22 := eS22.symm
        subst eS22
        replace er20 := er20.symm
        subst er20
        replace ex4 := ex4.symm
        subst ex4
        replace ex3 := ex3.symm
        subst ex3
        replace ex2 := ex2.symm
        subst ex2
        replace ex1 := ex1.symm
        subst ex1
        exact ((if_neg c5).trans ((if_neg c7).trans ((if_neg c9).trans ((if_neg c11).trans ((if_neg c13).trans ((if_pos c19).trans ((if_neg c21).trans rfl)))))))
      rw [hE]
      exact wl_zret X hsz hr hlocks (kq_bool (Or.inr rfl)) hP hS d_K_obey_206
    · skip
      refine lv_iconst (v := 0) hx hb d_K_obey_185 (by decide) ?_
      have hE : k_K_obey S0 p w = ((0 : Int32), S0) := by
        replace er20 := er20.symm
        subst er20
        replace ex4 := ex4.symm
        subst ex4
        replace ex3 := ex3.symm
        subst ex3
        replace ex2 := ex2.symm
        subst ex2
        replace ex1 := ex1.symm
        subst ex1
        exact ((if_neg c5).trans ((if_neg c7).trans ((if_neg c9).trans ((if_neg c11).trans ((if_neg c13).trans ((if_pos c19).trans ((if_pos c21).trans rfl)))))))
      rw [hE]
      exact wl_zret X hsz hr hlocks (kq_bool (Or.inl rfl)) hP hS d_K_obey_186
  by_cases c23 : x4 = (6 : Int32)
  · refine wl_top c23 ?_
    refine lv_tableIn (tgt := 207) hx hb d_K_obey_41 (by decide) (by decide) rfl (by decide) ?_
    refine lv_aload hx hb d_K_obey_207 (lv_at hl 3 rfl) ?_
    refine lv_iload hx hb d_K_obey_209 (lv_at hl 2 rfl) ?_
    refine wl_iald X hP (i := (72 + 3 * p)) (by omega) 0 (kw_cAR (by omega)) rfl (j := (kw_rr w)) (ex1.trans rfl) (by omega) (by decide) d_K_obey_211 ?_
    refine lv_if_ne (tgt := 221) hx hb d_K_obey_212 (by decide) (fun c24 => ?_) (fun c24 => ?_)
    · skip
      refine lv_iconst (v := 1) hx hb d_K_obey_221 (by decide) ?_
      have hE : k_K_obey S0 p w = ((1 : Int32), S0) := by
        replace ex4 := ex4.symm
        subst ex4
        replace ex3 := ex3.symm
        subst ex3
        replace ex2 := ex2.symm
        subst ex2
        replace ex1 := ex1.symm
        subst ex1
        exact ((if_neg c5).trans ((if_neg c7).trans ((if_neg c9).trans ((if_neg c11).trans ((if_neg c13).trans ((if_neg c19).trans ((if_pos c23).trans ((if_neg c24).trans rfl))))))))
      rw [hE]
      exact wl_zret X hsz hr hlocks (kq_bool (Or.inr rfl)) hP hS d_K_obey_222
    · skip
      refine lv_aload_n hx hb d_K_obey_215 rfl (lv_at hl 4 rfl) ?_
      refine lv_iload hx hb d_K_obey_216 (lv_at hl 0 rfl) ?_
      refine wl_put X hP hS (i := (71 + 3 * p)) (by omega) (kw_cT (by omega)) rfl i_T ft_T ft_T_ok fn_T 3 (by decide) lf_K_143 rfl rfl rfl (Nat.le_of_ble_eq_true rfl) d_K_obey_218 (kw_pT_place (by omega)) (fun H locs hP hS => ?_)
      obtain ⟨S25, eS25⟩ : ∃ z, z = kw_si S0 7 p 1 x3 := ⟨_, rfl⟩
      rw [← eS25] at hP
      refine lv_iconst (v := 1) hx hb d_K_obey_221 (by decide) ?_
      have hE : k_K_obey S0 p w = ((1 : Int32), S25) := by
        replace eS25 := eS25.symm
        subst eS25
        replace ex4 := ex4.symm
        subst ex4
        replace ex3 := ex3.symm
        subst ex3
        replace ex2 := ex2.symm
        subst ex2
        replace ex1 := ex1.symm
        subst ex1
        exact ((if_neg c5).trans ((if_neg c7).trans ((if_neg c9).trans ((if_neg c11).trans ((if_neg c13).trans ((if_neg c19).trans ((if_pos c23).trans ((if_pos c24).trans rfl))))))))
      rw [hE]
      exact wl_zret X hsz hr hlocks (kq_bool (Or.inr rfl)) hP hS d_K_obey_222
  by_cases c26 : x4 = (7 : Int32)
  · refine wl_top c26 ?_
    refine lv_tableIn (tgt := 223) hx hb d_K_obey_41 (by decide) (by decide) rfl (by decide) ?_
    refine lv_aload_n hx hb d_K_obey_223 rfl (lv_at hl 4 rfl) ?_
    refine lv_iload hx hb d_K_obey_224 (lv_at hl 0 rfl) ?_
    refine wl_put X hP hS (i := (71 + 3 * p)) (by omega) (kw_cT (by omega)) rfl i_T ft_T ft_T_ok fn_T 3 (by decide) lf_K_143 rfl rfl rfl (Nat.le_of_ble_eq_true rfl) d_K_obey_226 (kw_pT_place (by omega)) (fun H locs hP hS => ?_)
    obtain ⟨S27, eS27⟩ : ∃ z, z = kw_si S0 7 p 1 x3 := ⟨_, rfl⟩
    rw [← eS27] at hP
    refine lv_iconst (v := 1) hx hb d_K_obey_229 (by decide) ?_
    have hE : k_K_obey S0 p w = ((1 : Int32), S27) := by
      replace eS27 := eS27.symm
      subst eS27
      replace ex4 := ex4.symm
      subst ex4
      replace ex3 := ex3.symm
      subst ex3
      replace ex2 := ex2.symm
      subst ex2
      replace ex1 := ex1.symm
      subst ex1
      exact ((if_neg c5).trans ((if_neg c7).trans ((if_neg c9).trans ((if_neg c11).trans ((if_neg c13).trans ((if_neg c19).trans ((if_neg c23).trans ((if_pos c26).trans rfl))))))))
    rw [hE]
    exact wl_zret X hsz hr hlocks (kq_bool (Or.inr rfl)) hP hS d_K_obey_230
  by_cases c28 : x4 = (8 : Int32)
  · refine wl_top c28 ?_
    refine lv_tableIn (tgt := 231) hx hb d_K_obey_41 (by decide) (by decide) rfl (by decide) ?_
    refine lv_aload_n hx hb d_K_obey_231 rfl (lv_at hl 5 rfl) ?_
    refine lv_iload_n hx hb d_K_obey_232 rfl (lv_at hl 6 rfl) ?_
    refine lv_iload hx hb d_K_obey_233 (lv_at hl 2 rfl) ?_
    refine lv_iload hx hb d_K_obey_235 (lv_at hl 0 rfl) ?_
    refine wl_goi2 (cf := kw_C cI cT cS ad) (res := k_K_callSystem S0 p (kw_rr w) x3) hS hA X.2.2.2.2.2.2 (wl_runV (As := [.int (nI p), .int x1, .int x3]) (rest := []) X hml hl.1 hP g_TT (c_K_callSystem hinj S0 (nI p) p rfl (by omega) x1 (kw_rr w) (ex1.trans rfl) (by omega) x3 hv _) (by decide) (kw_cK ) rfl wv_K_154 (na := 3) (by decide +kernel) rfl ⟨Nat.le_of_ble_eq_true rfl, Nat.le_of_ble_eq_true rfl⟩ rfl (Nat.le_of_ble_eq_true rfl) d_K_obey_237 ⟨Nat.le_refl _, Nat.le_refl _⟩) (fun r29 S30 er29 eS30 H locs hP hS => ?_)
    have hE : k_K_obey S0 p w = (r29, S30) := by
      replace eS30 := eS30.symm
      subst eS30
      replace er29 := er29.symm
      subst er29
      replace ex4 := ex4.symm
      subst ex4
      replace ex3 := ex3.symm
      subst ex3
      replace ex2 := ex2.symm
      subst ex2
      replace ex1 := ex1.symm
      subst ex1
      exact ((if_neg c5).trans ((if_neg c7).trans ((if_neg c9).trans ((if_neg c11).trans ((if_neg c13).trans ((if_neg c19).trans ((if_neg c23).trans ((if_neg c26).trans ((if_pos c28).trans rfl)))))))))
    rw [hE]
    exact wl_zret X hsz hr hlocks (kq_bool (by rw [er29]; exact kq_csb)) hP hS d_K_obey_240
  by_cases c31 : x4 = (9 : Int32)
  · refine wl_top c31 ?_
    refine lv_tableIn (tgt := 241) hx hb d_K_obey_41 (by decide) (by decide) rfl (by decide) ?_
    refine lv_aload hx hb d_K_obey_241 (lv_at hl 3 rfl) ?_
    refine lv_iload hx hb d_K_obey_243 (lv_at hl 2 rfl) ?_
    refine lv_aload hx hb d_K_obey_245 (lv_at hl 3 rfl) ?_
    refine lv_iload hx hb d_K_obey_247 (lv_at hl 2 rfl) ?_
    refine wl_iald X hP (i := (72 + 3 * p)) (by omega) 0 (kw_cAR (by omega)) rfl (j := (kw_rr w)) (ex1.trans rfl) (by omega) (by decide) d_K_obey_249 ?_
    refine lv_iload hx hb d_K_obey_250 (lv_at hl 1 rfl) ?_
    refine lv_icmp_ge (tgt := 259) hx hb d_K_obey_252 (by decide) (fun c32 => ?_) (fun c32 => ?_)
    · skip
      refine lv_iconst (v := 0) hx hb d_K_obey_259 (by decide) ?_
      refine wl_iast X hP hS (i := (72 + 3 * p)) (by omega) 0 (kw_cAR (by omega)) rfl (j := (kw_rr w)) (ex1.trans rfl) (by omega) (by decide) d_K_obey_260 (kw_pAR (by omega)) (fun H locs hP hS => ?_)
      obtain ⟨S33, eS33⟩ : ∃ z, z = kw_si S0 8 p (kw_rr w) (0 : Int32) := ⟨_, rfl⟩
      rw [← eS33] at hP
      refine lv_iconst (v := 1) hx hb d_K_obey_261 (by decide) ?_
      have hE : k_K_obey S0 p w = ((1 : Int32), S33) := by
        replace eS33 := eS33.symm
        subst eS33
        replace ex4 := ex4.symm
        subst ex4
        replace ex3 := ex3.symm
        subst ex3
        replace ex2 := ex2.symm
        subst ex2
        replace ex1 := ex1.symm
        subst ex1
        exact ((if_neg c5).trans ((if_neg c7).trans ((if_neg c9).trans ((if_neg c11).trans ((if_neg c13).trans ((if_neg c19).trans ((if_neg c23).trans ((if_neg c26).trans ((if_neg c28).trans ((if_pos c31).trans ((if_pos c32).trans rfl)))))))))))
      rw [hE]
      exact wl_zret X hsz hr hlocks (kq_bool (Or.inr rfl)) hP hS d_K_obey_262
    · skip
      refine lv_iconst (v := 1) hx hb d_K_obey_255 (by decide) ?_
      refine lv_goto (tgt := 260) hx hb d_K_obey_256 (by decide) ?_
      refine wl_iast X hP hS (i := (72 + 3 * p)) (by omega) 0 (kw_cAR (by omega)) rfl (j := (kw_rr w)) (ex1.trans rfl) (by omega) (by decide) d_K_obey_260 (kw_pAR (by omega)) (fun H locs hP hS => ?_)
      obtain ⟨S34, eS34⟩ : ∃ z, z = kw_si S0 8 p (kw_rr w) (1 : Int32) := ⟨_, rfl⟩
      rw [← eS34] at hP
      refine lv_iconst (v := 1) hx hb d_K_obey_261 (by decide) ?_
      have hE : k_K_obey S0 p w = ((1 : Int32), S34) := by
        replace eS34 := eS34.symm
        subst eS34
        replace ex4 := ex4.symm
        subst ex4
        replace ex3 := ex3.symm
        subst ex3
        replace ex2 := ex2.symm
        subst ex2
        replace ex1 := ex1.symm
        subst ex1
        exact ((if_neg c5).trans ((if_neg c7).trans ((if_neg c9).trans ((if_neg c11).trans ((if_neg c13).trans ((if_neg c19).trans ((if_neg c23).trans ((if_neg c26).trans ((if_neg c28).trans ((if_pos c31).trans ((if_neg c32).trans rfl)))))))))))
      rw [hE]
      exact wl_zret X hsz hr hlocks (kq_bool (Or.inr rfl)) hP hS d_K_obey_262
  refine lv_tableOut (tgt := 263) hx hb d_K_obey_41 (by have := lv_neT c5 (a := 0) rfl; have := lv_neT c7 (a := 1) rfl; have := lv_neT c9 (a := 2) rfl; have := lv_neT c11 (a := 3) rfl; have := lv_neT c13 (a := 4) rfl; have := lv_neT c19 (a := 5) rfl; have := lv_neT c23 (a := 6) rfl; have := lv_neT c26 (a := 7) rfl; have := lv_neT c28 (a := 8) rfl; have := lv_neT c31 (a := 9) rfl; omega) (by decide) ?_
  refine lv_iconst (v := 0) hx hb d_K_obey_263 (by decide) ?_
  have hE : k_K_obey S0 p w = ((0 : Int32), S0) := by
    replace ex4 := ex4.symm
    subst ex4
    replace ex3 := ex3.symm
    subst ex3
    replace ex2 := ex2.symm
    subst ex2
    replace ex1 := ex1.symm
    subst ex1
    exact ((if_neg c5).trans ((if_neg c7).trans ((if_neg c9).trans ((if_neg c11).trans ((if_neg c13).trans ((if_neg c19).trans ((if_neg c23).trans ((if_neg c26).trans ((if_neg c28).trans ((if_neg c31).trans rfl))))))))))
  rw [hE]
  exact wl_zret X hsz hr hlocks (kq_bool (Or.inl rfl)) hP hS d_K_obey_264
def k_K_giveTurn_L45 : Nat → Nat → kw_S → Int32 × kw_S
  | 0, i, S0 =>
    ((0 : Int32), S0)
  | i_n + 1, i, S0 =>
    let x102 := ((nI ((S0.2 0 0 1) % 4)) + (nI i)) - ((nI ((S0.2 0 0 1) % 4)) + (nI i)) / (4 : Int32) * (4 : Int32)
    if (S0.1 7 ((((S0.2 0 0 1) % 4) + i) % 4) 0) = (1 : Int32) then
      let S104 := kw_sn S0 0 0 1 ((((S0.2 0 0 1) % 4) + i) % 4)
      let S105 := kw_si S104 0 0 3 (0 : Int32)
      let S106 := kw_si S105 0 0 4 (0 : Int32)
      ((1 : Int32), S106)
    else
      k_K_giveTurn_L45 i_n (i + 1) S0
set_option maxHeartbeats 4000000 in
set_option maxRecDepth 100000 in
theorem c_K_giveTurn_L45 {l : Launch} {D : va_G} {cI cT cS : ClassId} {ad : Nat → Nat} {p_ : Program} {e_ : Env} {s_ : State} {m_ : MethodId} {args : Array Value} {below : List Frame} {meth : Method} {c_ : Code} {sz : Nat} (hinj : wl_inj 83 ad) (X : wl_X p_ s_ m_ args c_ b_K_giveTurn R_K TT D classes (kw_ty cI cT cS) 83 ad (wl_A 83 ad s_.heap.size)) (hsz : s_.heap.size = sz) (hml : c_.maxLocals = 4) (hr : meth.sig.returnType = some .boolean) (hlocks : meth.locks = false) :
    ∀ (i_n i : Nat) (S0 : kw_S) (h_i : i + i_n = 5) (H : Heap) (locs : List Loc) (ls : Array Slot), lv_has ls 4 [(0, .ref (ad 0)), (2, .int (nI i))] → va_P D classes (wl_W 83 ad (kw_C cI cT cS ad S0)) H → va_S (wl_A 83 ad s_.heap.size) s_.heap H locs → W p_ l e_ (rm_ 0) s_ m_ args below meth c_ H locs 0 0 (MQ below (wl_Qi D classes (kw_ty cI cT cS) 83 ad ((k_K_giveTurn_L45 i_n i S0).1) (kw_C cI cT cS ad ((k_K_giveTurn_L45 i_n i S0).2)) sz) args s_ 0 0 (wl_A 83 ad sz)) (F0 m_ 45 ls []) := by
  have hx := X.1
  have hb := X.2.1
  have hA : ∀ q, s_.heap.size ≤ q → (wl_A 83 ad s_.heap.size) q := fun q h => Or.inr h
  intro i_n
  induction i_n with
  | zero =>
    intro i S0 h_i H locs ls hl hP hS
    refine lv_iload_n hx hb d_K_giveTurn_45 rfl (lv_at hl 1 rfl) ?_
    refine lv_iconst (v := 4) hx hb d_K_giveTurn_46 (by decide) ?_
    refine lv_icmp_gt (tgt := 95) hx hb d_K_giveTurn_47 (by decide) (fun c1 => ?_) (fun c1 => ?_)
    · skip
      refine lv_iconst (v := 0) hx hb d_K_giveTurn_95 (by decide) ?_
      have hE : k_K_giveTurn_L45 0 i S0 = ((0 : Int32), S0) := by
        exact rfl
      rw [hE]
      exact wl_zret X hsz hr hlocks (kq_bool (Or.inl rfl)) hP hS d_K_giveTurn_96
    · exact absurd (sk_lgz (N := 4) h_i) c1
  | succ i_n ih =>
    intro i S0 h_i H locs ls hl hP hS
    refine lv_iload_n hx hb d_K_giveTurn_45 rfl (lv_at hl 1 rfl) ?_
    refine lv_iconst (v := 4) hx hb d_K_giveTurn_46 (by decide) ?_
    refine lv_icmp_gt (tgt := 95) hx hb d_K_giveTurn_47 (by decide) (fun c101 => ?_) (fun c101 => ?_)
    · exact absurd c101 (sk_lgs (N := 4) h_i)
    · skip
      refine lv_aload_n hx hb d_K_giveTurn_50 rfl (lv_at hl 0 rfl) ?_
      refine wl_get (v := .int (nI ((S0.2 0 0 1) % 4))) X hP (i := 0) (by decide) (kw_cK ) rfl i_K 7 (by decide) lf_K_26 rfl d_K_giveTurn_51 ?_
      refine lv_iload_n hx hb d_K_giveTurn_54 rfl (lv_at hl 1 rfl) ?_
      refine lv_iadd hx hb d_K_giveTurn_55 ?_
      refine lv_iconst (v := 4) hx hb d_K_giveTurn_56 (by decide) ?_
      refine lv_irem hx hb d_K_giveTurn_57 (by decide) ?_
      refine lv_topi (fun x102 ex102 => ?_)
      refine lv_istore_n (lv' := [(3, .int x102), (0, .ref (ad 0)), (2, .int (nI i))]) hx hb d_K_giveTurn_58 rfl hl (by decide) rfl (fun ls hl => ?_)
      refine lv_aload_n hx hb d_K_giveTurn_59 rfl (lv_at hl 1 rfl) ?_
      refine wl_get (v := .ref (ad 1)) X hP (i := 0) (by decide) (kw_cK ) rfl i_K 0 (by decide) lf_K_11 rfl d_K_giveTurn_60 ?_
      refine lv_iload_n hx hb d_K_giveTurn_63 rfl (lv_at hl 0 rfl) ?_
      refine wl_aald X hP (i := 1) (by decide) 1 (kw_cAT ) rfl (j := ((((S0.2 0 0 1) % 4) + i) % 4)) (ex102.trans ((congr (congrArg (fun (a b : Int32) => a - a / b * b) (show (nI ((S0.2 0 0 1) % 4)) + (nI i) = nI (((S0.2 0 0 1) % 4) + i) from (show (nI ((S0.2 0 0 1) % 4)) + (nI i) = nI (((S0.2 0 0 1) % 4) + i) from nI_add ((S0.2 0 0 1) % 4) i))) (show (4 : Int32) = nI 4 from rfl)).trans (pk_rem (a := (((S0.2 0 0 1) % 4) + i)) (d := 4) (by omega) (by omega) (by omega)))) (by omega) (by decide) d_K_giveTurn_64 ?_
      refine wl_topv (y := .ref (ad (71 + 3 * ((((S0.2 0 0 1) % 4) + i) % 4)))) rfl ?_
      refine wl_get (v := .int (S0.1 7 ((((S0.2 0 0 1) % 4) + i) % 4) 0)) X hP (i := (71 + 3 * ((((S0.2 0 0 1) % 4) + i) % 4))) (by omega) (kw_cT (by omega)) rfl i_T 2 (by decide) lf_K_85 rfl d_K_giveTurn_65 ?_
      refine lv_iconst (v := 1) hx hb d_K_giveTurn_68 (by decide) ?_
      refine lv_icmp_ne (tgt := 89) hx hb d_K_giveTurn_69 (by decide) (fun c103 => ?_) (fun c103 => ?_)
      · skip
        refine lv_iinc (v := nI (i + 1)) (lv' := [(2, .int (nI (i + 1))), (3, .int x102), (0, .ref (ad 0))]) hx hb d_K_giveTurn_89 hl (k := 2) rfl (nI_1 _) (by decide) rfl (fun ls hl => ?_)
        refine lv_goto (tgt := 45) hx hb d_K_giveTurn_92 (by decide) ?_
        have hE : k_K_giveTurn_L45 (i_n + 1) i S0 = k_K_giveTurn_L45 i_n (i + 1) S0 := by
          replace ex102 := ex102.symm
          subst ex102
          exact ((if_neg c103).trans rfl)
        rw [hE]
        exact ih (i + 1) S0 (by omega) _ _ _ (lv_sub hl [2, 0] rfl) hP hS
      · skip
        refine lv_aload_n hx hb d_K_giveTurn_72 rfl (lv_at hl 1 rfl) ?_
        refine lv_iload_n hx hb d_K_giveTurn_73 rfl (lv_at hl 0 rfl) ?_
        refine wl_put X hP hS (i := 0) (by decide) (kw_cK ) rfl i_K ft_K ft_K_ok fn_K 7 (by decide) lf_K_26 rfl rfl rfl (Nat.le_of_ble_eq_true rfl) d_K_giveTurn_74 (kw_pK_turn (x := ((((S0.2 0 0 1) % 4) + i) % 4))  (by rw [Nat.mod_eq_of_lt (show ((((S0.2 0 0 1) % 4) + i) % 4) < 4 by omega)] <;> exact (ex102.trans ((congr (congrArg (fun (a b : Int32) => a - a / b * b) (show (nI ((S0.2 0 0 1) % 4)) + (nI i) = nI (((S0.2 0 0 1) % 4) + i) from (show (nI ((S0.2 0 0 1) % 4)) + (nI i) = nI (((S0.2 0 0 1) % 4) + i) from nI_add ((S0.2 0 0 1) % 4) i))) (show (4 : Int32) = nI 4 from rfl)).trans (pk_rem (a := (((S0.2 0 0 1) % 4) + i)) (d := 4) (by omega) (by omega) (by omega)))))) (fun H locs hP hS => ?_)
        obtain ⟨S104, eS104⟩ : ∃ z, z = kw_sn S0 0 0 1 ((((S0.2 0 0 1) % 4) + i) % 4) := ⟨_, rfl⟩
        rw [← eS104] at hP
        refine lv_aload_n hx hb d_K_giveTurn_77 rfl (lv_at hl 1 rfl) ?_
        refine lv_iconst (v := 0) hx hb d_K_giveTurn_78 (by decide) ?_
        refine wl_put X hP hS (i := 0) (by decide) (kw_cK ) rfl i_K ft_K ft_K_ok fn_K 8 (by decide) lf_K_105 rfl rfl rfl (Nat.le_of_ble_eq_true rfl) d_K_giveTurn_79 (kw_pK_doneInTurn ) (fun H locs hP hS => ?_)
        obtain ⟨S105, eS105⟩ : ∃ z, z = kw_si S104 0 0 3 (0 : Int32) := ⟨_, rfl⟩
        rw [← eS105] at hP
        refine lv_aload_n hx hb d_K_giveTurn_82 rfl (lv_at hl 1 rfl) ?_
        refine lv_iconst (v := 0) hx hb d_K_giveTurn_83 (by decide) ?_
        refine wl_put X hP hS (i := 0) (by decide) (kw_cK ) rfl i_K ft_K ft_K_ok fn_K 9 (by decide) lf_K_136 rfl rfl rfl (Nat.le_of_ble_eq_true rfl) d_K_giveTurn_84 (kw_pK_yielded ) (fun H locs hP hS => ?_)
        obtain ⟨S106, eS106⟩ : ∃ z, z = kw_si S105 0 0 4 (0 : Int32) := ⟨_, rfl⟩
        rw [← eS106] at hP
        refine lv_iconst (v := 1) hx hb d_K_giveTurn_87 (by decide) ?_
        have hE : k_K_giveTurn_L45 (i_n + 1) i S0 = ((1 : Int32), S106) := by
          replace eS106 := eS106.symm
          subst eS106
          replace eS105 := eS105.symm
          subst eS105
          replace eS104 := eS104.symm
          subst eS104
          replace ex102 := ex102.symm
          subst ex102
          exact ((if_pos c103).trans rfl)
        rw [hE]
        exact wl_zret X hsz hr hlocks (kq_bool (Or.inr rfl)) hP hS d_K_giveTurn_88
def k_K_giveTurn (S0 : kw_S) : Int32 × kw_S :=
  if (S0.1 0 0 4) = 0 then
    if (S0.1 0 0 3) < (4 : Int32) then
      if (S0.1 7 ((S0.2 0 0 1) % 4) 0) = (1 : Int32) then
        ((1 : Int32), S0)
      else
        k_K_giveTurn_L45 4 1 S0
    else
      if (S0.1 7 ((S0.2 0 0 1) % 4) 0) = (1 : Int32) then
        k_K_giveTurn_L45 4 1 S0
      else
        k_K_giveTurn_L45 4 1 S0
  else
    if (S0.1 7 ((S0.2 0 0 1) % 4) 0) = (1 : Int32) then
      k_K_giveTurn_L45 4 1 S0
    else
      k_K_giveTurn_L45 4 1 S0
set_option maxHeartbeats 4000000 in
set_option maxRecDepth 100000 in
theorem c_K_giveTurn {l : Launch} {D : va_G} {cI cT cS : ClassId} {ad : Nat → Nat} (hinj : wl_inj 83 ad) (S0 : kw_S)  : wl_Mi l y_K_giveTurn (Cond.code y_K_giveTurn b_K_giveTurn 4 (some .boolean) :: TT) (rm_ 0) D classes (kw_ty cI cT cS) 83 ad [.ref (ad 0)] (kw_C cI cT cS ad S0) ((k_K_giveTurn S0).1) (kw_C cI cT cS ad ((k_K_giveTurn S0).2)) := by
  intro sz
  refine wl_enter (own := R_K) rfl (by decide) (Nat.le_of_ble_eq_true rfl) hinj (fun p_ e_ s_ m_ below meth c_ ls hsz X hml hr hlocks hl hP hS => ?_)
  have hx := X.1
  have hb := X.2.1
  have hA : ∀ q, s_.heap.size ≤ q → (wl_A 83 ad s_.heap.size) q := fun q h => Or.inr h
  have hl : lv_has ls 4 [(0, .ref (ad 0))] := hl
  refine lv_aload_n hx hb d_K_giveTurn_0 rfl (lv_at hl 0 rfl) ?_
  refine wl_get (v := .int (S0.1 0 0 4)) X hP (i := 0) (by decide) (kw_cK ) rfl i_K 9 (by decide) lf_K_136 rfl d_K_giveTurn_1 ?_
  refine lv_if_ne (tgt := 15) hx hb d_K_giveTurn_4 (by decide) (fun c1 => ?_) (fun c1 => ?_)
  · skip
    refine lv_iconst (v := 1) hx hb d_K_giveTurn_15 (by decide) ?_
    refine lv_goto (tgt := 20) hx hb d_K_giveTurn_16 (by decide) ?_
    refine lv_istore_n (lv' := [(1, .int (1 : Int32)), (0, .ref (ad 0))]) hx hb d_K_giveTurn_20 rfl hl (by decide) rfl (fun ls hl => ?_)
    refine lv_aload_n hx hb d_K_giveTurn_21 rfl (lv_at hl 1 rfl) ?_
    refine wl_get (v := .ref (ad 1)) X hP (i := 0) (by decide) (kw_cK ) rfl i_K 0 (by decide) lf_K_11 rfl d_K_giveTurn_22 ?_
    refine lv_aload_n hx hb d_K_giveTurn_25 rfl (lv_at hl 1 rfl) ?_
    refine wl_get (v := .int (nI ((S0.2 0 0 1) % 4))) X hP (i := 0) (by decide) (kw_cK ) rfl i_K 7 (by decide) lf_K_26 rfl d_K_giveTurn_26 ?_
    refine wl_aald X hP (i := 1) (by decide) 1 (kw_cAT ) rfl (j := ((S0.2 0 0 1) % 4)) rfl (by omega) (by decide) d_K_giveTurn_29 ?_
    refine wl_topv (y := .ref (ad (71 + 3 * ((S0.2 0 0 1) % 4)))) rfl ?_
    refine wl_get (v := .int (S0.1 7 ((S0.2 0 0 1) % 4) 0)) X hP (i := (71 + 3 * ((S0.2 0 0 1) % 4))) (by omega) (kw_cT (by omega)) rfl i_T 2 (by decide) lf_K_85 rfl d_K_giveTurn_30 ?_
    refine lv_iconst (v := 1) hx hb d_K_giveTurn_33 (by decide) ?_
    refine lv_icmp_ne (tgt := 43) hx hb d_K_giveTurn_34 (by decide) (fun c2 => ?_) (fun c2 => ?_)
    · skip
      refine lv_iconst (v := 1) hx hb d_K_giveTurn_43 (by decide) ?_
      refine lv_istore_n (lv' := [(2, .int (1 : Int32)), (1, .int (1 : Int32)), (0, .ref (ad 0))]) hx hb d_K_giveTurn_44 rfl hl (by decide) rfl (fun ls hl => ?_)
      have hE : k_K_giveTurn S0 = k_K_giveTurn_L45 4 1 S0 := by
        exact ((if_neg c1).trans ((if_neg c2).trans rfl))
      rw [hE]
      exact c_K_giveTurn_L45 hinj X hsz hml hr hlocks 4 1 S0 (by omega) _ _ _ (lv_sub hl [2, 0] rfl) hP hS
    · skip
      refine lv_iload_n hx hb d_K_giveTurn_37 rfl (lv_at hl 0 rfl) ?_
      refine lv_if_ne (tgt := 43) hx hb d_K_giveTurn_38 (by decide) (fun c3 => ?_) (fun c3 => ?_)
      · skip
        refine lv_iconst (v := 1) hx hb d_K_giveTurn_43 (by decide) ?_
        refine lv_istore_n (lv' := [(2, .int (1 : Int32)), (1, .int (1 : Int32)), (0, .ref (ad 0))]) hx hb d_K_giveTurn_44 rfl hl (by decide) rfl (fun ls hl => ?_)
        have hE : k_K_giveTurn S0 = k_K_giveTurn_L45 4 1 S0 := by
          exact ((if_neg c1).trans ((if_pos c2).trans rfl))
        rw [hE]
        exact c_K_giveTurn_L45 hinj X hsz hml hr hlocks 4 1 S0 (by omega) _ _ _ (lv_sub hl [2, 0] rfl) hP hS
      · exact absurd c3 (by decide)
  · skip
    refine lv_aload_n hx hb d_K_giveTurn_7 rfl (lv_at hl 0 rfl) ?_
    refine wl_get (v := .int (S0.1 0 0 3)) X hP (i := 0) (by decide) (kw_cK ) rfl i_K 8 (by decide) lf_K_105 rfl d_K_giveTurn_8 ?_
    refine lv_iconst (v := 4) hx hb d_K_giveTurn_11 (by decide) ?_
    refine lv_icmp_lt (tgt := 19) hx hb d_K_giveTurn_12 (by decide) (fun c4 => ?_) (fun c4 => ?_)
    · skip
      refine lv_iconst (v := 0) hx hb d_K_giveTurn_19 (by decide) ?_
      refine lv_istore_n (lv' := [(1, .int (0 : Int32)), (0, .ref (ad 0))]) hx hb d_K_giveTurn_20 rfl hl (by decide) rfl (fun ls hl => ?_)
      refine lv_aload_n hx hb d_K_giveTurn_21 rfl (lv_at hl 1 rfl) ?_
      refine wl_get (v := .ref (ad 1)) X hP (i := 0) (by decide) (kw_cK ) rfl i_K 0 (by decide) lf_K_11 rfl d_K_giveTurn_22 ?_
      refine lv_aload_n hx hb d_K_giveTurn_25 rfl (lv_at hl 1 rfl) ?_
      refine wl_get (v := .int (nI ((S0.2 0 0 1) % 4))) X hP (i := 0) (by decide) (kw_cK ) rfl i_K 7 (by decide) lf_K_26 rfl d_K_giveTurn_26 ?_
      refine wl_aald X hP (i := 1) (by decide) 1 (kw_cAT ) rfl (j := ((S0.2 0 0 1) % 4)) rfl (by omega) (by decide) d_K_giveTurn_29 ?_
      refine wl_topv (y := .ref (ad (71 + 3 * ((S0.2 0 0 1) % 4)))) rfl ?_
      refine wl_get (v := .int (S0.1 7 ((S0.2 0 0 1) % 4) 0)) X hP (i := (71 + 3 * ((S0.2 0 0 1) % 4))) (by omega) (kw_cT (by omega)) rfl i_T 2 (by decide) lf_K_85 rfl d_K_giveTurn_30 ?_
      refine lv_iconst (v := 1) hx hb d_K_giveTurn_33 (by decide) ?_
      refine lv_icmp_ne (tgt := 43) hx hb d_K_giveTurn_34 (by decide) (fun c5 => ?_) (fun c5 => ?_)
      · skip
        refine lv_iconst (v := 1) hx hb d_K_giveTurn_43 (by decide) ?_
        refine lv_istore_n (lv' := [(2, .int (1 : Int32)), (1, .int (0 : Int32)), (0, .ref (ad 0))]) hx hb d_K_giveTurn_44 rfl hl (by decide) rfl (fun ls hl => ?_)
        have hE : k_K_giveTurn S0 = k_K_giveTurn_L45 4 1 S0 := by
          exact ((if_pos c1).trans ((if_pos c4).trans ((if_neg c5).trans rfl)))
        rw [hE]
        exact c_K_giveTurn_L45 hinj X hsz hml hr hlocks 4 1 S0 (by omega) _ _ _ (lv_sub hl [2, 0] rfl) hP hS
      · skip
        refine lv_iload_n hx hb d_K_giveTurn_37 rfl (lv_at hl 0 rfl) ?_
        refine lv_if_ne (tgt := 43) hx hb d_K_giveTurn_38 (by decide) (fun c6 => ?_) (fun c6 => ?_)
        · exact absurd c6 (by decide)
        · skip
          refine lv_iconst (v := 1) hx hb d_K_giveTurn_41 (by decide) ?_
          have hE : k_K_giveTurn S0 = ((1 : Int32), S0) := by
            exact ((if_pos c1).trans ((if_pos c4).trans ((if_pos c5).trans rfl)))
          rw [hE]
          exact wl_zret X hsz hr hlocks (kq_bool (Or.inr rfl)) hP hS d_K_giveTurn_42
    · skip
      refine lv_iconst (v := 1) hx hb d_K_giveTurn_15 (by decide) ?_
      refine lv_goto (tgt := 20) hx hb d_K_giveTurn_16 (by decide) ?_
      refine lv_istore_n (lv' := [(1, .int (1 : Int32)), (0, .ref (ad 0))]) hx hb d_K_giveTurn_20 rfl hl (by decide) rfl (fun ls hl => ?_)
      refine lv_aload_n hx hb d_K_giveTurn_21 rfl (lv_at hl 1 rfl) ?_
      refine wl_get (v := .ref (ad 1)) X hP (i := 0) (by decide) (kw_cK ) rfl i_K 0 (by decide) lf_K_11 rfl d_K_giveTurn_22 ?_
      refine lv_aload_n hx hb d_K_giveTurn_25 rfl (lv_at hl 1 rfl) ?_
      refine wl_get (v := .int (nI ((S0.2 0 0 1) % 4))) X hP (i := 0) (by decide) (kw_cK ) rfl i_K 7 (by decide) lf_K_26 rfl d_K_giveTurn_26 ?_
      refine wl_aald X hP (i := 1) (by decide) 1 (kw_cAT ) rfl (j := ((S0.2 0 0 1) % 4)) rfl (by omega) (by decide) d_K_giveTurn_29 ?_
      refine wl_topv (y := .ref (ad (71 + 3 * ((S0.2 0 0 1) % 4)))) rfl ?_
      refine wl_get (v := .int (S0.1 7 ((S0.2 0 0 1) % 4) 0)) X hP (i := (71 + 3 * ((S0.2 0 0 1) % 4))) (by omega) (kw_cT (by omega)) rfl i_T 2 (by decide) lf_K_85 rfl d_K_giveTurn_30 ?_
      refine lv_iconst (v := 1) hx hb d_K_giveTurn_33 (by decide) ?_
      refine lv_icmp_ne (tgt := 43) hx hb d_K_giveTurn_34 (by decide) (fun c7 => ?_) (fun c7 => ?_)
      · skip
        refine lv_iconst (v := 1) hx hb d_K_giveTurn_43 (by decide) ?_
        refine lv_istore_n (lv' := [(2, .int (1 : Int32)), (1, .int (1 : Int32)), (0, .ref (ad 0))]) hx hb d_K_giveTurn_44 rfl hl (by decide) rfl (fun ls hl => ?_)
        have hE : k_K_giveTurn S0 = k_K_giveTurn_L45 4 1 S0 := by
          exact ((if_pos c1).trans ((if_neg c4).trans ((if_neg c7).trans rfl)))
        rw [hE]
        exact c_K_giveTurn_L45 hinj X hsz hml hr hlocks 4 1 S0 (by omega) _ _ _ (lv_sub hl [2, 0] rfl) hP hS
      · skip
        refine lv_iload_n hx hb d_K_giveTurn_37 rfl (lv_at hl 0 rfl) ?_
        refine lv_if_ne (tgt := 43) hx hb d_K_giveTurn_38 (by decide) (fun c8 => ?_) (fun c8 => ?_)
        · skip
          refine lv_iconst (v := 1) hx hb d_K_giveTurn_43 (by decide) ?_
          refine lv_istore_n (lv' := [(2, .int (1 : Int32)), (1, .int (1 : Int32)), (0, .ref (ad 0))]) hx hb d_K_giveTurn_44 rfl hl (by decide) rfl (fun ls hl => ?_)
          have hE : k_K_giveTurn S0 = k_K_giveTurn_L45 4 1 S0 := by
            exact ((if_pos c1).trans ((if_neg c4).trans ((if_pos c7).trans rfl)))
          rw [hE]
          exact c_K_giveTurn_L45 hinj X hsz hml hr hlocks 4 1 S0 (by omega) _ _ _ (lv_sub hl [2, 0] rfl) hP hS
        · exact absurd c8 (by decide)
def k_K_doInstruction (S0 : kw_S) (p : Nat) : kw_S :=
  let S1 := kw_si S0 7 p 5 ((S0.1 7 p 5) + (1 : Int32))
  let S2 := kw_si S1 0 0 3 ((S1.1 0 0 3) + (1 : Int32))
  let x3 := S2.1 7 p 1
  let r4 := k_K_isAddress x3
  if r4 = 0 then
    if r4 = 0 then
      let S7 := kw_si S2 0 0 2 ((S2.1 0 0 2) + (1 : Int32))
      let S8 := k_K_end S7 p (-99 : Int32)
      S8
    else
      S2
  else
    let r9 := (k_M_fetch S2 p x3.toNatClampNeg).1
    let S10 := (k_M_fetch S2 p x3.toNatClampNeg).2
    let S11 := kw_si S10 7 p 1 (x3 + (1 : Int32))
    let r12 := (k_K_obey S11 p r9).1
    let S13 := (k_K_obey S11 p r9).2
    if r12 = 0 then
      let S15 := kw_si S13 0 0 2 ((S13.1 0 0 2) + (1 : Int32))
      let S16 := k_K_end S15 p (-99 : Int32)
      S16
    else
      S13
set_option maxHeartbeats 4000000 in
set_option maxRecDepth 100000 in
theorem c_K_doInstruction {l : Launch} {D : va_G} {cI cT cS : ClassId} {ad : Nat → Nat} (hinj : wl_inj 83 ad) (S0 : kw_S) (x_p : Int32) (p : Nat) (e_p : x_p = nI p) (h_p : p < 4) (hv : S0.2 0 0 0 < 2 ^ 30) (hI : kw_FI S0) : wl_Mv l y_K_doInstruction (Cond.code y_K_doInstruction b_K_doInstruction 6 none :: TT) (rm_ 6) D classes (kw_ty cI cT cS) 83 ad [.ref (ad 0), .int x_p] (kw_C cI cT cS ad S0)  (kw_C cI cT cS ad (k_K_doInstruction S0 p)) := by
  subst e_p
  intro sz
  refine wl_enter (own := R_K) rfl (by decide) (Nat.le_of_ble_eq_true rfl) hinj (fun p_ e_ s_ m_ below meth c_ ls hsz X hml hr hlocks hl hP hS => ?_)
  have hx := X.1
  have hb := X.2.1
  have hA : ∀ q, s_.heap.size ≤ q → (wl_A 83 ad s_.heap.size) q := fun q h => Or.inr h
  have hl : lv_has ls 6 [(0, .ref (ad 0)), (1, .int (nI p))] := hl
  refine lv_aload_n hx hb d_K_doInstruction_0 rfl (lv_at hl 0 rfl) ?_
  refine wl_get (v := .ref (ad 1)) X hP (i := 0) (by decide) (kw_cK ) rfl i_K 0 (by decide) lf_K_11 rfl d_K_doInstruction_1 ?_
  refine lv_iload_n hx hb d_K_doInstruction_4 rfl (lv_at hl 1 rfl) ?_
  refine wl_aald X hP (i := 1) (by decide) 1 (kw_cAT ) rfl (j := p) rfl (by omega) (by decide) d_K_doInstruction_5 ?_
  refine wl_topv (y := .ref (ad (71 + 3 * p))) rfl ?_
  refine lv_astore_n (lv' := [(2, .ref (ad (71 + 3 * p))), (0, .ref (ad 0)), (1, .int (nI p))]) hx hb d_K_doInstruction_6 rfl hl (by decide) rfl (fun ls hl => ?_)
  refine lv_aload_n hx hb d_K_doInstruction_7 rfl (lv_at hl 0 rfl) ?_
  refine lv_dup hx hb d_K_doInstruction_8 rfl ?_
  refine wl_get (v := .int (S0.1 7 p 5)) X hP (i := (71 + 3 * p)) (by omega) (kw_cT (by omega)) rfl i_T 8 (by decide) lf_K_140 rfl d_K_doInstruction_9 ?_
  refine lv_iconst (v := 1) hx hb d_K_doInstruction_12 (by decide) ?_
  refine lv_iadd hx hb d_K_doInstruction_13 ?_
  refine wl_put X hP hS (i := (71 + 3 * p)) (by omega) (kw_cT (by omega)) rfl i_T ft_T ft_T_ok fn_T 8 (by decide) lf_K_140 rfl rfl rfl (Nat.le_of_ble_eq_true rfl) d_K_doInstruction_14 (kw_pT_begun (by omega)) (fun H locs hP hS => ?_)
  obtain ⟨S1, eS1⟩ : ∃ z, z = kw_si S0 7 p 5 ((S0.1 7 p 5) + (1 : Int32)) := ⟨_, rfl⟩
  rw [← eS1] at hP
  refine lv_aload_n hx hb d_K_doInstruction_17 rfl (lv_at hl 1 rfl) ?_
  refine lv_dup hx hb d_K_doInstruction_18 rfl ?_
  refine wl_get (v := .int (S1.1 0 0 3)) X hP (i := 0) (by decide) (kw_cK ) rfl i_K 8 (by decide) lf_K_105 rfl d_K_doInstruction_19 ?_
  refine lv_iconst (v := 1) hx hb d_K_doInstruction_22 (by decide) ?_
  refine lv_iadd hx hb d_K_doInstruction_23 ?_
  refine wl_put X hP hS (i := 0) (by decide) (kw_cK ) rfl i_K ft_K ft_K_ok fn_K 8 (by decide) lf_K_105 rfl rfl rfl (Nat.le_of_ble_eq_true rfl) d_K_doInstruction_24 (kw_pK_doneInTurn ) (fun H locs hP hS => ?_)
  obtain ⟨S2, eS2⟩ : ∃ z, z = kw_si S1 0 0 3 ((S1.1 0 0 3) + (1 : Int32)) := ⟨_, rfl⟩
  rw [← eS2] at hP
  refine lv_aload_n hx hb d_K_doInstruction_27 rfl (lv_at hl 0 rfl) ?_
  refine wl_get (v := .int (S2.1 7 p 1)) X hP (i := (71 + 3 * p)) (by omega) (kw_cT (by omega)) rfl i_T 3 (by decide) lf_K_143 rfl d_K_doInstruction_28 ?_
  refine lv_topi (fun x3 ex3 => ?_)
  refine lv_istore_n (lv' := [(3, .int x3), (2, .ref (ad (71 + 3 * p))), (0, .ref (ad 0)), (1, .int (nI p))]) hx hb d_K_doInstruction_31 rfl hl (by decide) rfl (fun ls hl => ?_)
  refine lv_iload_n hx hb d_K_doInstruction_32 rfl (lv_at hl 0 rfl) ?_
  refine wl_goi1 (cf := kw_C cI cT cS ad) (r := k_K_isAddress x3) hS hA X.2.2.2.2.2.2 (wl_runS (As := [.int x3]) (rest := []) X hml hl.1 hP g_TT (c_K_isAddress hinj S2 x3 _) wv_K_43 (na := 1) (by decide +kernel) rfl ⟨Nat.le_of_ble_eq_true rfl, Nat.le_of_ble_eq_true rfl⟩ rfl (Nat.le_of_ble_eq_true rfl) d_K_doInstruction_33 ⟨Nat.le_refl _, Nat.le_refl _⟩) (fun r4 er4 H locs hP hS => ?_)
  refine lv_istore (lv' := [(4, .int r4), (3, .int x3), (2, .ref (ad (71 + 3 * p))), (0, .ref (ad 0)), (1, .int (nI p))]) hx hb d_K_doInstruction_36 hl (by decide) rfl (fun ls hl => ?_)
  refine lv_iload hx hb d_K_doInstruction_38 (lv_at hl 0 rfl) ?_
  refine lv_if_eq (tgt := 70) hx hb d_K_doInstruction_40 (by decide) (fun c5 => ?_) (fun c5 => ?_)
  · skip
    refine lv_iload hx hb d_K_doInstruction_70 (lv_at hl 0 rfl) ?_
    refine lv_if_ne (tgt := 92) hx hb d_K_doInstruction_72 (by decide) (fun c6 => ?_) (fun c6 => ?_)
    · skip
      have hE : k_K_doInstruction S0 p = S2 := by
        replace er4 := er4.symm
        subst er4
        replace ex3 := ex3.symm
        subst ex3
        replace eS2 := eS2.symm
        subst eS2
        replace eS1 := eS1.symm
        subst eS1
        exact ((if_pos c5).trans ((if_neg c6).trans rfl))
      rw [hE]
      exact wl_vret X hsz hr hlocks hP hS d_K_doInstruction_92
    · skip
      refine lv_aload_n hx hb d_K_doInstruction_75 rfl (lv_at hl 3 rfl) ?_
      refine lv_dup hx hb d_K_doInstruction_76 rfl ?_
      refine wl_get (v := .int (S2.1 0 0 2)) X hP (i := 0) (by decide) (kw_cK ) rfl i_K 6 (by decide) lf_K_130 rfl d_K_doInstruction_77 ?_
      refine lv_iconst (v := 1) hx hb d_K_doInstruction_80 (by decide) ?_
      refine lv_iadd hx hb d_K_doInstruction_81 ?_
      refine wl_put X hP hS (i := 0) (by decide) (kw_cK ) rfl i_K ft_K ft_K_ok fn_K 6 (by decide) lf_K_130 rfl rfl rfl (Nat.le_of_ble_eq_true rfl) d_K_doInstruction_82 (kw_pK_wildInstructions ) (fun H locs hP hS => ?_)
      obtain ⟨S7, eS7⟩ : ∃ z, z = kw_si S2 0 0 2 ((S2.1 0 0 2) + (1 : Int32)) := ⟨_, rfl⟩
      rw [← eS7] at hP
      refine lv_aload_n hx hb d_K_doInstruction_85 rfl (lv_at hl 3 rfl) ?_
      refine lv_iload_n hx hb d_K_doInstruction_86 rfl (lv_at hl 4 rfl) ?_
      refine lv_bipush (v := -99) hx hb d_K_doInstruction_87 (by decide) ?_
      refine wl_gov2 (cf := kw_C cI cT cS ad) (S2 := k_K_end S7 p (-99 : Int32)) hS hA X.2.2.2.2.2.2 (wl_runV (As := [.int (nI p), .int (-99 : Int32)]) (rest := []) X hml hl.1 hP g_TT (c_K_end hinj S7 (nI p) p rfl (by omega) (-99 : Int32) _) (by decide) (kw_cK ) rfl wv_K_62 (na := 2) (by decide +kernel) rfl ⟨Nat.le_of_ble_eq_true rfl, Nat.le_of_ble_eq_true rfl⟩ rfl (Nat.le_of_ble_eq_true rfl) d_K_doInstruction_89 ⟨Nat.le_refl _, Nat.le_refl _⟩) (fun S8 eS8 H locs hP hS => ?_)
      have hE : k_K_doInstruction S0 p = S8 := by
        replace eS8 := eS8.symm
        subst eS8
        replace eS7 := eS7.symm
        subst eS7
        replace er4 := er4.symm
        subst er4
        replace ex3 := ex3.symm
        subst ex3
        replace eS2 := eS2.symm
        subst eS2
        replace eS1 := eS1.symm
        subst eS1
        exact ((if_pos c5).trans ((if_pos c6).trans rfl))
      rw [hE]
      exact wl_vret X hsz hr hlocks hP hS d_K_doInstruction_92
  · skip
    obtain ⟨ha1, ha2⟩ := kq_isAddress (fun h => c5 (er4.trans h))
    refine lv_aload_n hx hb d_K_doInstruction_43 rfl (lv_at hl 3 rfl) ?_
    refine wl_get (v := .ref (ad 2)) X hP (i := 0) (by decide) (kw_cK ) rfl i_K 1 (by decide) lf_K_18 rfl d_K_doInstruction_44 ?_
    refine lv_aload_n hx hb d_K_doInstruction_47 rfl (lv_at hl 2 rfl) ?_
    refine lv_iload_n hx hb d_K_doInstruction_48 rfl (lv_at hl 1 rfl) ?_
    refine wl_goi2 (cf := kw_C cI cT cS ad) (res := k_M_fetch S2 p x3.toNatClampNeg) hS hA X.2.2.2.2.2.2 (wl_runV (As := [.ref (ad (71 + 3 * p)), .int x3]) (rest := []) X hml hl.1 hP g_TT (c_M_fetch hinj S2 p (by omega) x3 x3.toNatClampNeg ha1 (by omega) (by subst_vars; exact hI) _) (by decide) (kw_cM ) rfl wv_K_146 (na := 2) (by decide +kernel) rfl ⟨Nat.le_of_ble_eq_true rfl, Nat.le_of_ble_eq_true rfl⟩ rfl (Nat.le_of_ble_eq_true rfl) d_K_doInstruction_49 ⟨Nat.le_refl _, Nat.le_refl _⟩) (fun r9 S10 er9 eS10 H locs hP hS => ?_)
    have hv2 : S10.2 0 0 0 < 2 ^ 30 := by
      rw [eS10, kq_fetch0]
      subst_vars
      exact hv
    have hI2 : kw_FI S10 := by
      rw [eS10]
      refine kq_fetchI ?_
      subst_vars
      exact hI
    refine lv_istore (lv' := [(5, .int r9), (4, .int r4), (3, .int x3), (2, .ref (ad (71 + 3 * p))), (0, .ref (ad 0)), (1, .int (nI p))]) hx hb d_K_doInstruction_52 hl (by decide) rfl (fun ls hl => ?_)
    refine lv_aload_n hx hb d_K_doInstruction_54 rfl (lv_at hl 3 rfl) ?_
    refine lv_iload_n hx hb d_K_doInstruction_55 rfl (lv_at hl 2 rfl) ?_
    refine lv_iconst (v := 1) hx hb d_K_doInstruction_56 (by decide) ?_
    refine lv_iadd hx hb d_K_doInstruction_57 ?_
    refine wl_put X hP hS (i := (71 + 3 * p)) (by omega) (kw_cT (by omega)) rfl i_T ft_T ft_T_ok fn_T 3 (by decide) lf_K_143 rfl rfl rfl (Nat.le_of_ble_eq_true rfl) d_K_doInstruction_58 (kw_pT_place (by omega)) (fun H locs hP hS => ?_)
    obtain ⟨S11, eS11⟩ : ∃ z, z = kw_si S10 7 p 1 (x3 + (1 : Int32)) := ⟨_, rfl⟩
    rw [← eS11] at hP
    refine lv_aload_n hx hb d_K_doInstruction_61 rfl (lv_at hl 4 rfl) ?_
    refine lv_iload_n hx hb d_K_doInstruction_62 rfl (lv_at hl 5 rfl) ?_
    refine lv_iload hx hb d_K_doInstruction_63 (lv_at hl 0 rfl) ?_
    refine wl_goi2 (cf := kw_C cI cT cS ad) (res := k_K_obey S11 p r9) hS hA X.2.2.2.2.2.2 (wl_runV (As := [.int (nI p), .int r9]) (rest := []) X hml hl.1 hP g_TT (c_K_obey hinj S11 (nI p) p rfl (by omega) r9 (by rw [eS11]; exact hv2) (by rw [eS11]; exact hI2) _) (by decide) (kw_cK ) rfl wv_K_150 (na := 2) (by decide +kernel) rfl ⟨Nat.le_of_ble_eq_true rfl, Nat.le_of_ble_eq_true rfl⟩ rfl (Nat.le_of_ble_eq_true rfl) d_K_doInstruction_65 ⟨Nat.le_refl _, Nat.le_refl _⟩) (fun r12 S13 er12 eS13 H locs hP hS => ?_)
    refine lv_istore (lv' := [(4, .int r12), (5, .int r9), (3, .int x3), (2, .ref (ad (71 + 3 * p))), (0, .ref (ad 0)), (1, .int (nI p))]) hx hb d_K_doInstruction_68 hl (by decide) rfl (fun ls hl => ?_)
    refine lv_iload hx hb d_K_doInstruction_70 (lv_at hl 0 rfl) ?_
    refine lv_if_ne (tgt := 92) hx hb d_K_doInstruction_72 (by decide) (fun c14 => ?_) (fun c14 => ?_)
    · skip
      have hE : k_K_doInstruction S0 p = S13 := by
        replace eS13 := eS13.symm
        subst eS13
        replace er12 := er12.symm
        subst er12
        replace eS11 := eS11.symm
        subst eS11
        replace eS10 := eS10.symm
        subst eS10
        replace er9 := er9.symm
        subst er9
        replace er4 := er4.symm
        subst er4
        replace ex3 := ex3.symm
        subst ex3
        replace eS2 := eS2.symm
        subst eS2
        replace eS1 := eS1.symm
        subst eS1
        exact ((if_neg c5).trans ((if_neg c14).trans rfl))
      rw [hE]
      exact wl_vret X hsz hr hlocks hP hS d_K_doInstruction_92
    · skip
      refine lv_aload_n hx hb d_K_doInstruction_75 rfl (lv_at hl 4 rfl) ?_
      refine lv_dup hx hb d_K_doInstruction_76 rfl ?_
      refine wl_get (v := .int (S13.1 0 0 2)) X hP (i := 0) (by decide) (kw_cK ) rfl i_K 6 (by decide) lf_K_130 rfl d_K_doInstruction_77 ?_
      refine lv_iconst (v := 1) hx hb d_K_doInstruction_80 (by decide) ?_
      refine lv_iadd hx hb d_K_doInstruction_81 ?_
      refine wl_put X hP hS (i := 0) (by decide) (kw_cK ) rfl i_K ft_K ft_K_ok fn_K 6 (by decide) lf_K_130 rfl rfl rfl (Nat.le_of_ble_eq_true rfl) d_K_doInstruction_82 (kw_pK_wildInstructions ) (fun H locs hP hS => ?_)
      obtain ⟨S15, eS15⟩ : ∃ z, z = kw_si S13 0 0 2 ((S13.1 0 0 2) + (1 : Int32)) := ⟨_, rfl⟩
      rw [← eS15] at hP
      refine lv_aload_n hx hb d_K_doInstruction_85 rfl (lv_at hl 4 rfl) ?_
      refine lv_iload_n hx hb d_K_doInstruction_86 rfl (lv_at hl 5 rfl) ?_
      refine lv_bipush (v := -99) hx hb d_K_doInstruction_87 (by decide) ?_
      refine wl_gov2 (cf := kw_C cI cT cS ad) (S2 := k_K_end S15 p (-99 : Int32)) hS hA X.2.2.2.2.2.2 (wl_runV (As := [.int (nI p), .int (-99 : Int32)]) (rest := []) X hml hl.1 hP g_TT (c_K_end hinj S15 (nI p) p rfl (by omega) (-99 : Int32) _) (by decide) (kw_cK ) rfl wv_K_62 (na := 2) (by decide +kernel) rfl ⟨Nat.le_of_ble_eq_true rfl, Nat.le_of_ble_eq_true rfl⟩ rfl (Nat.le_of_ble_eq_true rfl) d_K_doInstruction_89 ⟨Nat.le_refl _, Nat.le_refl _⟩) (fun S16 eS16 H locs hP hS => ?_)
      have hE : k_K_doInstruction S0 p = S16 := by
        replace eS16 := eS16.symm
        subst eS16
        replace eS15 := eS15.symm
        subst eS15
        replace eS13 := eS13.symm
        subst eS13
        replace er12 := er12.symm
        subst er12
        replace eS11 := eS11.symm
        subst eS11
        replace eS10 := eS10.symm
        subst eS10
        replace er9 := er9.symm
        subst er9
        replace er4 := er4.symm
        subst er4
        replace ex3 := ex3.symm
        subst ex3
        replace eS2 := eS2.symm
        subst eS2
        replace eS1 := eS1.symm
        subst eS1
        exact ((if_neg c5).trans ((if_pos c14).trans rfl))
      rw [hE]
      exact wl_vret X hsz hr hlocks hP hS d_K_doInstruction_92
def k_K_poke (S0 : kw_S) (p : Int32) (a : Int32) (w : Int32) : Int32 × kw_S :=
  let r1 := k_K_lives S0 p
  if r1 = 0 then
    ((-1 : Int32), S0)
  else
    let r3 := k_K_isAddress a
    if r3 = 0 then
      ((-1 : Int32), S0)
    else
      let x5 := S0.1 2 0 0
      let S6 := k_M_write S0 p.toNatClampNeg a.toNatClampNeg w
      ((S6.1 2 0 0) - x5, S6)
set_option maxHeartbeats 4000000 in
set_option maxRecDepth 100000 in
theorem c_K_poke {l : Launch} {D : va_G} {cI cT cS : ClassId} {ad : Nat → Nat} (hinj : wl_inj 83 ad) (S0 : kw_S) (p : Int32) (a : Int32) (w : Int32) (hI : kw_FI S0) : wl_Mi l y_K_poke (Cond.code y_K_poke b_K_poke 5 (some .int) :: TT) (rm_ 5) D classes (kw_ty cI cT cS) 83 ad [.ref (ad 0), .int p, .int a, .int w] (kw_C cI cT cS ad S0) ((k_K_poke S0 p a w).1) (kw_C cI cT cS ad ((k_K_poke S0 p a w).2)) := by
  intro sz
  refine wl_enter (own := R_K) rfl (by decide) (Nat.le_of_ble_eq_true rfl) hinj (fun p_ e_ s_ m_ below meth c_ ls hsz X hml hr hlocks hl hP hS => ?_)
  have hx := X.1
  have hb := X.2.1
  have hA : ∀ q, s_.heap.size ≤ q → (wl_A 83 ad s_.heap.size) q := fun q h => Or.inr h
  have hl : lv_has ls 5 [(0, .ref (ad 0)), (1, .int p), (2, .int a), (3, .int w)] := hl
  refine lv_aload_n hx hb d_K_poke_0 rfl (lv_at hl 0 rfl) ?_
  refine lv_iload_n hx hb d_K_poke_1 rfl (lv_at hl 1 rfl) ?_
  refine wl_goi1 (cf := kw_C cI cT cS ad) (r := k_K_lives S0 p) hS hA X.2.2.2.2.2.2 (wl_runV (As := [.int p]) (rest := []) X hml hl.1 hP g_TT (c_K_lives hinj S0 p _) (by decide) (kw_cK ) rfl wv_K_39 (na := 1) (by decide +kernel) rfl ⟨Nat.le_of_ble_eq_true rfl, Nat.le_of_ble_eq_true rfl⟩ rfl (Nat.le_of_ble_eq_true rfl) d_K_poke_2 ⟨Nat.le_refl _, Nat.le_refl _⟩) (fun r1 er1 H locs hP hS => ?_)
  refine lv_if_eq (tgt := 15) hx hb d_K_poke_5 (by decide) (fun c2 => ?_) (fun c2 => ?_)
  · skip
    refine lv_iconst (v := -1) hx hb d_K_poke_15 (by decide) ?_
    have hE : k_K_poke S0 p a w = ((-1 : Int32), S0) := by
      replace er1 := er1.symm
      subst er1
      exact ((if_pos c2).trans rfl)
    rw [hE]
    exact wl_iret X hsz hr hlocks hP hS d_K_poke_16
  · skip
    obtain ⟨hp1, hp2⟩ := kq_lives (fun h => c2 (er1.trans h))
    refine lv_iload_n hx hb d_K_poke_8 rfl (lv_at hl 2 rfl) ?_
    refine wl_goi1 (cf := kw_C cI cT cS ad) (r := k_K_isAddress a) hS hA X.2.2.2.2.2.2 (wl_runS (As := [.int a]) (rest := []) X hml hl.1 hP g_TT (c_K_isAddress hinj S0 a _) wv_K_43 (na := 1) (by decide +kernel) rfl ⟨Nat.le_of_ble_eq_true rfl, Nat.le_of_ble_eq_true rfl⟩ rfl (Nat.le_of_ble_eq_true rfl) d_K_poke_9 ⟨Nat.le_refl _, Nat.le_refl _⟩) (fun r3 er3 H locs hP hS => ?_)
    refine lv_if_ne (tgt := 17) hx hb d_K_poke_12 (by decide) (fun c4 => ?_) (fun c4 => ?_)
    · skip
      obtain ⟨ha1, ha2⟩ := kq_isAddress (fun h => c4 (er3.trans h))
      refine lv_aload_n hx hb d_K_poke_17 rfl (lv_at hl 0 rfl) ?_
      refine wl_get (v := .ref (ad 2)) X hP (i := 0) (by decide) (kw_cK ) rfl i_K 1 (by decide) lf_K_18 rfl d_K_poke_18 ?_
      refine wl_get (v := .int (S0.1 2 0 0)) X hP (i := 2) (by decide) (kw_cM ) rfl i_M 4 (by decide) lf_K_46 rfl d_K_poke_21 ?_
      refine lv_topi (fun x5 ex5 => ?_)
      refine lv_istore (lv' := [(4, .int x5), (0, .ref (ad 0)), (1, .int p), (2, .int a), (3, .int w)]) hx hb d_K_poke_24 hl (by decide) rfl (fun ls hl => ?_)
      refine lv_aload_n hx hb d_K_poke_26 rfl (lv_at hl 1 rfl) ?_
      refine wl_get (v := .ref (ad 2)) X hP (i := 0) (by decide) (kw_cK ) rfl i_K 1 (by decide) lf_K_18 rfl d_K_poke_27 ?_
      refine lv_aload_n hx hb d_K_poke_30 rfl (lv_at hl 1 rfl) ?_
      refine wl_get (v := .ref (ad 1)) X hP (i := 0) (by decide) (kw_cK ) rfl i_K 0 (by decide) lf_K_11 rfl d_K_poke_31 ?_
      refine lv_iload_n hx hb d_K_poke_34 rfl (lv_at hl 2 rfl) ?_
      refine wl_aald X hP (i := 1) (by decide) 1 (kw_cAT ) rfl (j := p.toNatClampNeg) hp1 hp2 (by decide) d_K_poke_35 ?_
      refine wl_topv (y := .ref (ad (71 + 3 * p.toNatClampNeg))) rfl ?_
      refine lv_iload_n hx hb d_K_poke_36 rfl (lv_at hl 3 rfl) ?_
      refine lv_iload_n hx hb d_K_poke_37 rfl (lv_at hl 4 rfl) ?_
      refine wl_gov2 (cf := kw_C cI cT cS ad) (S2 := k_M_write S0 p.toNatClampNeg a.toNatClampNeg w) hS hA X.2.2.2.2.2.2 (wl_runV (As := [.ref (ad (71 + 3 * p.toNatClampNeg)), .int a, .int w]) (rest := []) X hml hl.1 hP g_TT (c_M_write hinj S0 p.toNatClampNeg (by omega) a a.toNatClampNeg ha1 (by omega) w hI _) (by decide) (kw_cM ) rfl wv_K_49 (na := 3) (by decide +kernel) rfl ⟨Nat.le_of_ble_eq_true rfl, Nat.le_of_ble_eq_true rfl⟩ rfl (Nat.le_of_ble_eq_true rfl) d_K_poke_38 ⟨Nat.le_refl _, Nat.le_refl _⟩) (fun S6 eS6 H locs hP hS => ?_)
      refine lv_aload_n hx hb d_K_poke_41 rfl (lv_at hl 1 rfl) ?_
      refine wl_get (v := .ref (ad 2)) X hP (i := 0) (by decide) (kw_cK ) rfl i_K 1 (by decide) lf_K_18 rfl d_K_poke_42 ?_
      refine wl_get (v := .int (S6.1 2 0 0)) X hP (i := 2) (by decide) (kw_cM ) rfl i_M 4 (by decide) lf_K_46 rfl d_K_poke_45 ?_
      refine lv_iload hx hb d_K_poke_48 (lv_at hl 0 rfl) ?_
      refine lv_isub hx hb d_K_poke_50 ?_
      have hE : k_K_poke S0 p a w = ((S6.1 2 0 0) - x5, S6) := by
        replace eS6 := eS6.symm
        subst eS6
        replace ex5 := ex5.symm
        subst ex5
        replace er3 := er3.symm
        subst er3
        replace er1 := er1.symm
        subst er1
        exact ((if_neg c2).trans ((if_neg c4).trans rfl))
      rw [hE]
      exact wl_iret X hsz hr hlocks hP hS d_K_poke_51
    · skip
      refine lv_iconst (v := -1) hx hb d_K_poke_15 (by decide) ?_
      have hE : k_K_poke S0 p a w = ((-1 : Int32), S0) := by
        replace er3 := er3.symm
        subst er3
        replace er1 := er1.symm
        subst er1
        exact ((if_neg c2).trans ((if_pos c4).trans rfl))
      rw [hE]
      exact wl_iret X hsz hr hlocks hP hS d_K_poke_16
def k_K_peek (S0 : kw_S) (p : Int32) (a : Int32) : Int32 :=
  let r1 := k_K_lives S0 p
  if r1 = 0 then
    (-1 : Int32)
  else
    let r3 := k_K_isAddress a
    if r3 = 0 then
      (-1 : Int32)
    else
      if S0.2 9 p.toNatClampNeg (a.toNatClampNeg / 8) < 32 then
        S0.1 11 (S0.2 9 p.toNatClampNeg (a.toNatClampNeg / 8)) (a.toNatClampNeg % 8)
      else
        (0 : Int32)
set_option maxHeartbeats 4000000 in
set_option maxRecDepth 100000 in
theorem c_K_peek {l : Launch} {D : va_G} {cI cT cS : ClassId} {ad : Nat → Nat} (hinj : wl_inj 83 ad) (S0 : kw_S) (p : Int32) (a : Int32) : wl_Mi l y_K_peek (Cond.code y_K_peek b_K_peek 4 (some .int) :: TT) (rm_ 3) D classes (kw_ty cI cT cS) 83 ad [.ref (ad 0), .int p, .int a] (kw_C cI cT cS ad S0) (k_K_peek S0 p a) (kw_C cI cT cS ad S0) := by
  intro sz
  refine wl_enter (own := R_K) rfl (by decide) (Nat.le_of_ble_eq_true rfl) hinj (fun p_ e_ s_ m_ below meth c_ ls hsz X hml hr hlocks hl hP hS => ?_)
  have hx := X.1
  have hb := X.2.1
  have hA : ∀ q, s_.heap.size ≤ q → (wl_A 83 ad s_.heap.size) q := fun q h => Or.inr h
  have hl : lv_has ls 4 [(0, .ref (ad 0)), (1, .int p), (2, .int a)] := hl
  refine lv_aload_n hx hb d_K_peek_0 rfl (lv_at hl 0 rfl) ?_
  refine lv_iload_n hx hb d_K_peek_1 rfl (lv_at hl 1 rfl) ?_
  refine wl_goi1 (cf := kw_C cI cT cS ad) (r := k_K_lives S0 p) hS hA X.2.2.2.2.2.2 (wl_runV (As := [.int p]) (rest := []) X hml hl.1 hP g_TT (c_K_lives hinj S0 p _) (by decide) (kw_cK ) rfl wv_K_39 (na := 1) (by decide +kernel) rfl ⟨Nat.le_of_ble_eq_true rfl, Nat.le_of_ble_eq_true rfl⟩ rfl (Nat.le_of_ble_eq_true rfl) d_K_peek_2 ⟨Nat.le_refl _, Nat.le_refl _⟩) (fun r1 er1 H locs hP hS => ?_)
  refine lv_if_eq (tgt := 15) hx hb d_K_peek_5 (by decide) (fun c2 => ?_) (fun c2 => ?_)
  · skip
    refine lv_iconst (v := -1) hx hb d_K_peek_15 (by decide) ?_
    have hE : k_K_peek S0 p a = (-1 : Int32) := by
      replace er1 := er1.symm
      subst er1
      exact ((if_pos c2).trans rfl)
    rw [hE]
    exact wl_iret X hsz hr hlocks hP hS d_K_peek_16
  · skip
    obtain ⟨hp1, hp2⟩ := kq_lives (fun h => c2 (er1.trans h))
    refine lv_iload_n hx hb d_K_peek_8 rfl (lv_at hl 2 rfl) ?_
    refine wl_goi1 (cf := kw_C cI cT cS ad) (r := k_K_isAddress a) hS hA X.2.2.2.2.2.2 (wl_runS (As := [.int a]) (rest := []) X hml hl.1 hP g_TT (c_K_isAddress hinj S0 a _) wv_K_43 (na := 1) (by decide +kernel) rfl ⟨Nat.le_of_ble_eq_true rfl, Nat.le_of_ble_eq_true rfl⟩ rfl (Nat.le_of_ble_eq_true rfl) d_K_peek_9 ⟨Nat.le_refl _, Nat.le_refl _⟩) (fun r3 er3 H locs hP hS => ?_)
    refine lv_if_ne (tgt := 17) hx hb d_K_peek_12 (by decide) (fun c4 => ?_) (fun c4 => ?_)
    · skip
      obtain ⟨ha1, ha2⟩ := kq_isAddress (fun h => c4 (er3.trans h))
      refine lv_aload_n hx hb d_K_peek_17 rfl (lv_at hl 0 rfl) ?_
      refine wl_get (v := .ref (ad 1)) X hP (i := 0) (by decide) (kw_cK ) rfl i_K 0 (by decide) lf_K_11 rfl d_K_peek_18 ?_
      refine lv_iload_n hx hb d_K_peek_21 rfl (lv_at hl 1 rfl) ?_
      refine wl_aald X hP (i := 1) (by decide) 1 (kw_cAT ) rfl (j := p.toNatClampNeg) hp1 (by omega) (by decide) d_K_peek_22 ?_
      refine wl_topv (y := .ref (ad (71 + 3 * p.toNatClampNeg))) rfl ?_
      refine wl_get (v := .ref (ad (73 + 3 * p.toNatClampNeg))) X hP (i := (71 + 3 * p.toNatClampNeg)) (by omega) (kw_cT (by omega)) rfl i_T 1 (by decide) lf_K_53 rfl d_K_peek_23 ?_
      refine lv_iload_n hx hb d_K_peek_26 rfl (lv_at hl 2 rfl) ?_
      refine lv_bipush (v := 8) hx hb d_K_peek_27 (by decide) ?_
      refine lv_idiv hx hb d_K_peek_29 (by decide) ?_
      refine wl_aald X hP (i := (73 + 3 * p.toNatClampNeg)) (by omega) 2 (kw_cAP (by omega)) rfl (j := (a.toNatClampNeg / 8)) ((congr (congrArg (fun (a b : Int32) => a / b) (show a = nI a.toNatClampNeg from ha1)) (show (8 : Int32) = nI 8 from rfl)).trans (pk_div (a := a.toNatClampNeg) (d := 8) (by omega) (by omega) (by omega))) (by omega) (by decide) d_K_peek_30 ?_
      refine kw_caseE (fun h5 => ?_) (fun h5 => ?_)
      · skip
        refine lv_astore_n (lv' := [(3, .ref (ad (6 + 2 * (S0.2 9 p.toNatClampNeg (a.toNatClampNeg / 8))))), (0, .ref (ad 0)), (1, .int p), (2, .int a)]) hx hb d_K_peek_31 rfl hl (by decide) rfl (fun ls hl => ?_)
        refine lv_aload_n hx hb d_K_peek_32 rfl (lv_at hl 0 rfl) ?_
        refine lv_ifnonnull (tgt := 40) hx hb d_K_peek_33 (by decide) ?_
        refine lv_aload_n hx hb d_K_peek_40 rfl (lv_at hl 0 rfl) ?_
        refine wl_get (v := .ref (ad (7 + 2 * (S0.2 9 p.toNatClampNeg (a.toNatClampNeg / 8))))) X hP (i := (6 + 2 * (S0.2 9 p.toNatClampNeg (a.toNatClampNeg / 8)))) (by omega) (kw_cE (by omega)) rfl i_E 0 (by decide) lf_K_57 rfl d_K_peek_41 ?_
        refine lv_iload_n hx hb d_K_peek_44 rfl (lv_at hl 3 rfl) ?_
        refine lv_bipush (v := 8) hx hb d_K_peek_45 (by decide) ?_
        refine lv_irem hx hb d_K_peek_47 (by decide) ?_
        refine wl_iald X hP (i := (7 + 2 * (S0.2 9 p.toNatClampNeg (a.toNatClampNeg / 8)))) (by omega) 0 (kw_cAW (by omega)) rfl (j := (a.toNatClampNeg % 8)) ((congr (congrArg (fun (a b : Int32) => a - a / b * b) (show a = nI a.toNatClampNeg from ha1)) (show (8 : Int32) = nI 8 from rfl)).trans (pk_rem (a := a.toNatClampNeg) (d := 8) (by omega) (by omega) (by omega))) (by omega) (by decide) d_K_peek_48 ?_
        have hE : k_K_peek S0 p a = S0.1 11 (S0.2 9 p.toNatClampNeg (a.toNatClampNeg / 8)) (a.toNatClampNeg % 8) := by
          replace er3 := er3.symm
          subst er3
          replace er1 := er1.symm
          subst er1
          exact ((if_neg c2).trans ((if_neg c4).trans ((if_pos h5).trans rfl)))
        rw [hE]
        exact wl_iret X hsz hr hlocks hP hS d_K_peek_49
      · skip
        refine lv_astore_nN (lv' := [(3, .null), (0, .ref (ad 0)), (1, .int p), (2, .int a)]) hx hb d_K_peek_31 rfl hl (by decide) rfl (fun ls hl => ?_)
        refine lv_aload_nN hx hb d_K_peek_32 rfl (lv_at hl 0 rfl) ?_
        refine lv_ifnonnullN hx hb d_K_peek_33 ?_
        refine lv_iconst (v := 0) hx hb d_K_peek_36 (by decide) ?_
        refine lv_goto (tgt := 49) hx hb d_K_peek_37 (by decide) ?_
        have hE : k_K_peek S0 p a = (0 : Int32) := by
          replace er3 := er3.symm
          subst er3
          replace er1 := er1.symm
          subst er1
          exact ((if_neg c2).trans ((if_neg c4).trans ((if_neg h5).trans rfl)))
        rw [hE]
        exact wl_iret X hsz hr hlocks hP hS d_K_peek_49
    · skip
      refine lv_iconst (v := -1) hx hb d_K_peek_15 (by decide) ?_
      have hE : k_K_peek S0 p a = (-1 : Int32) := by
        replace er3 := er3.symm
        subst er3
        replace er1 := er1.symm
        subst er1
        exact ((if_neg c2).trans ((if_pos c4).trans rfl))
      rw [hE]
      exact wl_iret X hsz hr hlocks hP hS d_K_peek_16
def k_K_kill (S0 : kw_S) (p : Int32) : Int32 × kw_S :=
  let r1 := k_K_lives S0 p
  if r1 = 0 then
    ((0 : Int32), S0)
  else
    let S3 := k_K_end S0 p.toNatClampNeg (-9 : Int32)
    ((1 : Int32), S3)
set_option maxHeartbeats 4000000 in
set_option maxRecDepth 100000 in
theorem c_K_kill {l : Launch} {D : va_G} {cI cT cS : ClassId} {ad : Nat → Nat} (hinj : wl_inj 83 ad) (S0 : kw_S) (p : Int32) : wl_Mi l y_K_kill (Cond.code y_K_kill b_K_kill 2 (some .boolean) :: TT) (rm_ 3) D classes (kw_ty cI cT cS) 83 ad [.ref (ad 0), .int p] (kw_C cI cT cS ad S0) ((k_K_kill S0 p).1) (kw_C cI cT cS ad ((k_K_kill S0 p).2)) := by
  intro sz
  refine wl_enter (own := R_K) rfl (by decide) (Nat.le_of_ble_eq_true rfl) hinj (fun p_ e_ s_ m_ below meth c_ ls hsz X hml hr hlocks hl hP hS => ?_)
  have hx := X.1
  have hb := X.2.1
  have hA : ∀ q, s_.heap.size ≤ q → (wl_A 83 ad s_.heap.size) q := fun q h => Or.inr h
  have hl : lv_has ls 2 [(0, .ref (ad 0)), (1, .int p)] := hl
  refine lv_aload_n hx hb d_K_kill_0 rfl (lv_at hl 0 rfl) ?_
  refine lv_iload_n hx hb d_K_kill_1 rfl (lv_at hl 1 rfl) ?_
  refine wl_goi1 (cf := kw_C cI cT cS ad) (r := k_K_lives S0 p) hS hA X.2.2.2.2.2.2 (wl_runV (As := [.int p]) (rest := []) X hml hl.1 hP g_TT (c_K_lives hinj S0 p _) (by decide) (kw_cK ) rfl wv_K_39 (na := 1) (by decide +kernel) rfl ⟨Nat.le_of_ble_eq_true rfl, Nat.le_of_ble_eq_true rfl⟩ rfl (Nat.le_of_ble_eq_true rfl) d_K_kill_2 ⟨Nat.le_refl _, Nat.le_refl _⟩) (fun r1 er1 H locs hP hS => ?_)
  refine lv_if_ne (tgt := 10) hx hb d_K_kill_5 (by decide) (fun c2 => ?_) (fun c2 => ?_)
  · skip
    obtain ⟨hp1, hp2⟩ := kq_lives (fun h => c2 (er1.trans h))
    refine lv_aload_n hx hb d_K_kill_10 rfl (lv_at hl 0 rfl) ?_
    refine lv_iload_n hx hb d_K_kill_11 rfl (lv_at hl 1 rfl) ?_
    refine lv_bipush (v := -9) hx hb d_K_kill_12 (by decide) ?_
    refine wl_gov2 (cf := kw_C cI cT cS ad) (S2 := k_K_end S0 p.toNatClampNeg (-9 : Int32)) hS hA X.2.2.2.2.2.2 (wl_runV (As := [.int p, .int (-9 : Int32)]) (rest := []) X hml hl.1 hP g_TT (c_K_end hinj S0 p p.toNatClampNeg hp1 (by omega) (-9 : Int32) _) (by decide) (kw_cK ) rfl wv_K_62 (na := 2) (by decide +kernel) rfl ⟨Nat.le_of_ble_eq_true rfl, Nat.le_of_ble_eq_true rfl⟩ rfl (Nat.le_of_ble_eq_true rfl) d_K_kill_14 ⟨Nat.le_refl _, Nat.le_refl _⟩) (fun S3 eS3 H locs hP hS => ?_)
    refine lv_iconst (v := 1) hx hb d_K_kill_17 (by decide) ?_
    have hE : k_K_kill S0 p = ((1 : Int32), S3) := by
      replace eS3 := eS3.symm
      subst eS3
      replace er1 := er1.symm
      subst er1
      exact ((if_neg c2).trans rfl)
    rw [hE]
    exact wl_zret X hsz hr hlocks (kq_bool (Or.inr rfl)) hP hS d_K_kill_18
  · skip
    refine lv_iconst (v := 0) hx hb d_K_kill_8 (by decide) ?_
    have hE : k_K_kill S0 p = ((0 : Int32), S0) := by
      replace er1 := er1.symm
      subst er1
      exact ((if_pos c2).trans rfl)
    rw [hE]
    exact wl_zret X hsz hr hlocks (kq_bool (Or.inl rfl)) hP hS d_K_kill_9
def k_K_printed (S0 : kw_S) (k : Int32) : Int32 :=
  if k < 0 then
    (0 : Int32)
  else
    if (40 : Int32) ≤ k then
      (0 : Int32)
    else
      if (nI (S0.2 0 0 0)) ≤ k then
        (0 : Int32)
      else
        S0.1 3 0 k.toNatClampNeg
set_option maxHeartbeats 4000000 in
set_option maxRecDepth 100000 in
theorem c_K_printed {l : Launch} {D : va_G} {cI cT cS : ClassId} {ad : Nat → Nat} (hinj : wl_inj 83 ad) (S0 : kw_S) (k : Int32) : wl_Mi l y_K_printed (Cond.code y_K_printed b_K_printed 2 (some .int) :: TT) (rm_ 0) D classes (kw_ty cI cT cS) 83 ad [.ref (ad 0), .int k] (kw_C cI cT cS ad S0) (k_K_printed S0 k) (kw_C cI cT cS ad S0) := by
  intro sz
  refine wl_enter (own := R_K) rfl (by decide) (Nat.le_of_ble_eq_true rfl) hinj (fun p_ e_ s_ m_ below meth c_ ls hsz X hml hr hlocks hl hP hS => ?_)
  have hx := X.1
  have hb := X.2.1
  have hA : ∀ q, s_.heap.size ≤ q → (wl_A 83 ad s_.heap.size) q := fun q h => Or.inr h
  have hl : lv_has ls 2 [(0, .ref (ad 0)), (1, .int k)] := hl
  refine lv_iload_n hx hb d_K_printed_0 rfl (lv_at hl 1 rfl) ?_
  refine lv_if_lt (tgt := 27) hx hb d_K_printed_1 (by decide) (fun c1 => ?_) (fun c1 => ?_)
  · skip
    refine lv_iconst (v := 0) hx hb d_K_printed_27 (by decide) ?_
    have hE : k_K_printed S0 k = (0 : Int32) := by
      exact ((if_pos c1).trans rfl)
    rw [hE]
    exact wl_iret X hsz hr hlocks hP hS d_K_printed_28
  · skip
    refine lv_iload_n hx hb d_K_printed_4 rfl (lv_at hl 1 rfl) ?_
    refine lv_bipush (v := 40) hx hb d_K_printed_5 (by decide) ?_
    refine lv_icmp_ge (tgt := 27) hx hb d_K_printed_7 (by decide) (fun c2 => ?_) (fun c2 => ?_)
    · skip
      refine lv_iconst (v := 0) hx hb d_K_printed_27 (by decide) ?_
      have hE : k_K_printed S0 k = (0 : Int32) := by
        exact ((if_neg c1).trans ((if_pos c2).trans rfl))
      rw [hE]
      exact wl_iret X hsz hr hlocks hP hS d_K_printed_28
    · skip
      refine lv_iload_n hx hb d_K_printed_10 rfl (lv_at hl 1 rfl) ?_
      refine lv_aload_n hx hb d_K_printed_11 rfl (lv_at hl 0 rfl) ?_
      refine wl_get (v := .int (nI (S0.2 0 0 0))) X hP (i := 0) (by decide) (kw_cK ) rfl i_K 3 (by decide) lf_K_99 rfl d_K_printed_12 ?_
      refine lv_icmp_ge (tgt := 27) hx hb d_K_printed_15 (by decide) (fun c3 => ?_) (fun c3 => ?_)
      · skip
        refine lv_iconst (v := 0) hx hb d_K_printed_27 (by decide) ?_
        have hE : k_K_printed S0 k = (0 : Int32) := by
          exact ((if_neg c1).trans ((if_neg c2).trans ((if_pos c3).trans rfl)))
        rw [hE]
        exact wl_iret X hsz hr hlocks hP hS d_K_printed_28
      · skip
        obtain ⟨hp1, hp2⟩ := sk_rng 40 c1 c2 (by decide)
        refine lv_aload_n hx hb d_K_printed_18 rfl (lv_at hl 0 rfl) ?_
        refine wl_get (v := .ref (ad 70)) X hP (i := 0) (by decide) (kw_cK ) rfl i_K 2 (by decide) lf_K_22 rfl d_K_printed_19 ?_
        refine lv_iload_n hx hb d_K_printed_22 rfl (lv_at hl 1 rfl) ?_
        refine wl_iald X hP (i := 70) (by decide) 0 (kw_cAK ) rfl (j := k.toNatClampNeg) hp1 (by omega) (by decide) d_K_printed_23 ?_
        refine lv_goto (tgt := 28) hx hb d_K_printed_24 (by decide) ?_
        have hE : k_K_printed S0 k = S0.1 3 0 k.toNatClampNeg := by
          exact ((if_neg c1).trans ((if_neg c2).trans ((if_neg c3).trans rfl)))
        rw [hE]
        exact wl_iret X hsz hr hlocks hP hS d_K_printed_28
def k_K_count (S0 : kw_S) (w : Int32) : Int32 :=
  if w = (0 : Int32) then
    S0.1 0 0 0
  else
    if w = (1 : Int32) then
      let r3 := k_K_presentTasks S0
      r3
    else
      if w = (2 : Int32) then
        nI ((S0.2 0 0 1) % 4)
      else
        if w = (3 : Int32) then
          S0.1 0 0 3
        else
          if w = (4 : Int32) then
            let r7 := k_M_taken_AF S0
            r7
          else
            if w = (5 : Int32) then
              let r9 := k_M_taken_AL S0
              r9
            else
              if w = (6 : Int32) then
                nI ((S0.2 2 0 0) % 6)
              else
                if w = (7 : Int32) then
                  S0.1 2 0 0
                else
                  if w = (8 : Int32) then
                    S0.1 2 0 1
                  else
                    if w = (9 : Int32) then
                      S0.1 2 0 2
                    else
                      if w = (10 : Int32) then
                        S0.1 2 0 3
                      else
                        if w = (11 : Int32) then
                          S0.1 0 0 1
                        else
                          if w = (12 : Int32) then
                            nI (S0.2 0 0 0)
                          else
                            if w = (13 : Int32) then
                              S0.1 0 0 2
                            else
                              (-1 : Int32)
set_option maxHeartbeats 4000000 in
set_option maxRecDepth 100000 in
theorem c_K_count {l : Launch} {D : va_G} {cI cT cS : ClassId} {ad : Nat → Nat} (hinj : wl_inj 83 ad) (S0 : kw_S) (w : Int32) : wl_Mi l y_K_count (Cond.code y_K_count b_K_count 2 (some .int) :: TT) (rm_ 1) D classes (kw_ty cI cT cS) 83 ad [.ref (ad 0), .int w] (kw_C cI cT cS ad S0) (k_K_count S0 w) (kw_C cI cT cS ad S0) := by
  intro sz
  refine wl_enter (own := R_K) rfl (by decide) (Nat.le_of_ble_eq_true rfl) hinj (fun p_ e_ s_ m_ below meth c_ ls hsz X hml hr hlocks hl hP hS => ?_)
  have hx := X.1
  have hb := X.2.1
  have hA : ∀ q, s_.heap.size ≤ q → (wl_A 83 ad s_.heap.size) q := fun q h => Or.inr h
  have hl : lv_has ls 2 [(0, .ref (ad 0)), (1, .int w)] := hl
  refine lv_iload_n hx hb d_K_count_0 rfl (lv_at hl 1 rfl) ?_
  by_cases c1 : w = (0 : Int32)
  · refine wl_top c1 ?_
    refine lv_tableIn (tgt := 72) hx hb d_K_count_1 (by decide) (by decide) rfl (by decide) ?_
    refine lv_aload_n hx hb d_K_count_72 rfl (lv_at hl 0 rfl) ?_
    refine wl_get (v := .int (S0.1 0 0 0)) X hP (i := 0) (by decide) (kw_cK ) rfl i_K 4 (by decide) lf_K_66 rfl d_K_count_73 ?_
    have hE : k_K_count S0 w = S0.1 0 0 0 := by
      exact ((if_pos c1).trans rfl)
    rw [hE]
    exact wl_iret X hsz hr hlocks hP hS d_K_count_76
  by_cases c2 : w = (1 : Int32)
  · refine wl_top c2 ?_
    refine lv_tableIn (tgt := 77) hx hb d_K_count_1 (by decide) (by decide) rfl (by decide) ?_
    refine lv_aload_n hx hb d_K_count_77 rfl (lv_at hl 0 rfl) ?_
    refine wl_goi1 (cf := kw_C cI cT cS ad) (r := k_K_presentTasks S0) hS hA X.2.2.2.2.2.2 (wl_runV (As := []) (rest := []) X hml hl.1 hP g_TT (c_K_presentTasks hinj S0 _) (by decide) (kw_cK ) rfl wv_K_102 (na := 0) (by decide +kernel) rfl ⟨Nat.le_of_ble_eq_true rfl, Nat.le_of_ble_eq_true rfl⟩ rfl (Nat.le_of_ble_eq_true rfl) d_K_count_78 ⟨Nat.le_refl _, Nat.le_refl _⟩) (fun r3 er3 H locs hP hS => ?_)
    have hE : k_K_count S0 w = r3 := by
      replace er3 := er3.symm
      subst er3
      exact ((if_neg c1).trans ((if_pos c2).trans rfl))
    rw [hE]
    exact wl_iret X hsz hr hlocks hP hS d_K_count_81
  by_cases c4 : w = (2 : Int32)
  · refine wl_top c4 ?_
    refine lv_tableIn (tgt := 82) hx hb d_K_count_1 (by decide) (by decide) rfl (by decide) ?_
    refine lv_aload_n hx hb d_K_count_82 rfl (lv_at hl 0 rfl) ?_
    refine wl_get (v := .int (nI ((S0.2 0 0 1) % 4))) X hP (i := 0) (by decide) (kw_cK ) rfl i_K 7 (by decide) lf_K_26 rfl d_K_count_83 ?_
    have hE : k_K_count S0 w = nI ((S0.2 0 0 1) % 4) := by
      exact ((if_neg c1).trans ((if_neg c2).trans ((if_pos c4).trans rfl)))
    rw [hE]
    exact wl_iret X hsz hr hlocks hP hS d_K_count_86
  by_cases c5 : w = (3 : Int32)
  · refine wl_top c5 ?_
    refine lv_tableIn (tgt := 87) hx hb d_K_count_1 (by decide) (by decide) rfl (by decide) ?_
    refine lv_aload_n hx hb d_K_count_87 rfl (lv_at hl 0 rfl) ?_
    refine wl_get (v := .int (S0.1 0 0 3)) X hP (i := 0) (by decide) (kw_cK ) rfl i_K 8 (by decide) lf_K_105 rfl d_K_count_88 ?_
    have hE : k_K_count S0 w = S0.1 0 0 3 := by
      exact ((if_neg c1).trans ((if_neg c2).trans ((if_neg c4).trans ((if_pos c5).trans rfl))))
    rw [hE]
    exact wl_iret X hsz hr hlocks hP hS d_K_count_91
  by_cases c6 : w = (4 : Int32)
  · refine wl_top c6 ?_
    refine lv_tableIn (tgt := 92) hx hb d_K_count_1 (by decide) (by decide) rfl (by decide) ?_
    refine lv_aload_n hx hb d_K_count_92 rfl (lv_at hl 0 rfl) ?_
    refine wl_get (v := .ref (ad 2)) X hP (i := 0) (by decide) (kw_cK ) rfl i_K 1 (by decide) lf_K_18 rfl d_K_count_93 ?_
    refine wl_get (v := .ref (ad 4)) X hP (i := 2) (by decide) (kw_cM ) rfl i_M 1 (by decide) lf_K_108 rfl d_K_count_96 ?_
    refine wl_goi1 (cf := kw_C cI cT cS ad) (r := k_M_taken_AF S0) hS hA X.2.2.2.2.2.2 (wl_runS (As := [.ref (ad 4)]) (rest := []) X hml hl.1 hP g_TT (c_M_taken_AF hinj S0 _) wv_K_111 (na := 1) (by decide +kernel) rfl ⟨Nat.le_of_ble_eq_true rfl, Nat.le_of_ble_eq_true rfl⟩ rfl (Nat.le_of_ble_eq_true rfl) d_K_count_99 ⟨Nat.le_refl _, Nat.le_refl _⟩) (fun r7 er7 H locs hP hS => ?_)
    have hE : k_K_count S0 w = r7 := by
      replace er7 := er7.symm
      subst er7
      exact ((if_neg c1).trans ((if_neg c2).trans ((if_neg c4).trans ((if_neg c5).trans ((if_pos c6).trans rfl)))))
    rw [hE]
    exact wl_iret X hsz hr hlocks hP hS d_K_count_102
  by_cases c8 : w = (5 : Int32)
  · refine wl_top c8 ?_
    refine lv_tableIn (tgt := 103) hx hb d_K_count_1 (by decide) (by decide) rfl (by decide) ?_
    refine lv_aload_n hx hb d_K_count_103 rfl (lv_at hl 0 rfl) ?_
    refine wl_get (v := .ref (ad 2)) X hP (i := 0) (by decide) (kw_cK ) rfl i_K 1 (by decide) lf_K_18 rfl d_K_count_104 ?_
    refine wl_get (v := .ref (ad 5)) X hP (i := 2) (by decide) (kw_cM ) rfl i_M 2 (by decide) lf_K_115 rfl d_K_count_107 ?_
    refine wl_goi1 (cf := kw_C cI cT cS ad) (r := k_M_taken_AL S0) hS hA X.2.2.2.2.2.2 (wl_runS (As := [.ref (ad 5)]) (rest := []) X hml hl.1 hP g_TT (c_M_taken_AL hinj S0 _) wv_K_111 (na := 1) (by decide +kernel) rfl ⟨Nat.le_of_ble_eq_true rfl, Nat.le_of_ble_eq_true rfl⟩ rfl (Nat.le_of_ble_eq_true rfl) d_K_count_110 ⟨Nat.le_refl _, Nat.le_refl _⟩) (fun r9 er9 H locs hP hS => ?_)
    have hE : k_K_count S0 w = r9 := by
      replace er9 := er9.symm
      subst er9
      exact ((if_neg c1).trans ((if_neg c2).trans ((if_neg c4).trans ((if_neg c5).trans ((if_neg c6).trans ((if_pos c8).trans rfl))))))
    rw [hE]
    exact wl_iret X hsz hr hlocks hP hS d_K_count_113
  by_cases c10 : w = (6 : Int32)
  · refine wl_top c10 ?_
    refine lv_tableIn (tgt := 114) hx hb d_K_count_1 (by decide) (by decide) rfl (by decide) ?_
    refine lv_aload_n hx hb d_K_count_114 rfl (lv_at hl 0 rfl) ?_
    refine wl_get (v := .ref (ad 2)) X hP (i := 0) (by decide) (kw_cK ) rfl i_K 1 (by decide) lf_K_18 rfl d_K_count_115 ?_
    refine wl_get (v := .int (nI ((S0.2 2 0 0) % 6))) X hP (i := 2) (by decide) (kw_cM ) rfl i_M 3 (by decide) lf_K_118 rfl d_K_count_118 ?_
    have hE : k_K_count S0 w = nI ((S0.2 2 0 0) % 6) := by
      exact ((if_neg c1).trans ((if_neg c2).trans ((if_neg c4).trans ((if_neg c5).trans ((if_neg c6).trans ((if_neg c8).trans ((if_pos c10).trans rfl)))))))
    rw [hE]
    exact wl_iret X hsz hr hlocks hP hS d_K_count_121
  by_cases c11 : w = (7 : Int32)
  · refine wl_top c11 ?_
    refine lv_tableIn (tgt := 122) hx hb d_K_count_1 (by decide) (by decide) rfl (by decide) ?_
    refine lv_aload_n hx hb d_K_count_122 rfl (lv_at hl 0 rfl) ?_
    refine wl_get (v := .ref (ad 2)) X hP (i := 0) (by decide) (kw_cK ) rfl i_K 1 (by decide) lf_K_18 rfl d_K_count_123 ?_
    refine wl_get (v := .int (S0.1 2 0 0)) X hP (i := 2) (by decide) (kw_cM ) rfl i_M 4 (by decide) lf_K_46 rfl d_K_count_126 ?_
    have hE : k_K_count S0 w = S0.1 2 0 0 := by
      exact ((if_neg c1).trans ((if_neg c2).trans ((if_neg c4).trans ((if_neg c5).trans ((if_neg c6).trans ((if_neg c8).trans ((if_neg c10).trans ((if_pos c11).trans rfl))))))))
    rw [hE]
    exact wl_iret X hsz hr hlocks hP hS d_K_count_129
  by_cases c12 : w = (8 : Int32)
  · refine wl_top c12 ?_
    refine lv_tableIn (tgt := 130) hx hb d_K_count_1 (by decide) (by decide) rfl (by decide) ?_
    refine lv_aload_n hx hb d_K_count_130 rfl (lv_at hl 0 rfl) ?_
    refine wl_get (v := .ref (ad 2)) X hP (i := 0) (by decide) (kw_cK ) rfl i_K 1 (by decide) lf_K_18 rfl d_K_count_131 ?_
    refine wl_get (v := .int (S0.1 2 0 1)) X hP (i := 2) (by decide) (kw_cM ) rfl i_M 5 (by decide) lf_K_121 rfl d_K_count_134 ?_
    have hE : k_K_count S0 w = S0.1 2 0 1 := by
      exact ((if_neg c1).trans ((if_neg c2).trans ((if_neg c4).trans ((if_neg c5).trans ((if_neg c6).trans ((if_neg c8).trans ((if_neg c10).trans ((if_neg c11).trans ((if_pos c12).trans rfl)))))))))
    rw [hE]
    exact wl_iret X hsz hr hlocks hP hS d_K_count_137
  by_cases c13 : w = (9 : Int32)
  · refine wl_top c13 ?_
    refine lv_tableIn (tgt := 138) hx hb d_K_count_1 (by decide) (by decide) rfl (by decide) ?_
    refine lv_aload_n hx hb d_K_count_138 rfl (lv_at hl 0 rfl) ?_
    refine wl_get (v := .ref (ad 2)) X hP (i := 0) (by decide) (kw_cK ) rfl i_K 1 (by decide) lf_K_18 rfl d_K_count_139 ?_
    refine wl_get (v := .int (S0.1 2 0 2)) X hP (i := 2) (by decide) (kw_cM ) rfl i_M 6 (by decide) lf_K_124 rfl d_K_count_142 ?_
    have hE : k_K_count S0 w = S0.1 2 0 2 := by
      exact ((if_neg c1).trans ((if_neg c2).trans ((if_neg c4).trans ((if_neg c5).trans ((if_neg c6).trans ((if_neg c8).trans ((if_neg c10).trans ((if_neg c11).trans ((if_neg c12).trans ((if_pos c13).trans rfl))))))))))
    rw [hE]
    exact wl_iret X hsz hr hlocks hP hS d_K_count_145
  by_cases c14 : w = (10 : Int32)
  · refine wl_top c14 ?_
    refine lv_tableIn (tgt := 146) hx hb d_K_count_1 (by decide) (by decide) rfl (by decide) ?_
    refine lv_aload_n hx hb d_K_count_146 rfl (lv_at hl 0 rfl) ?_
    refine wl_get (v := .ref (ad 2)) X hP (i := 0) (by decide) (kw_cK ) rfl i_K 1 (by decide) lf_K_18 rfl d_K_count_147 ?_
    refine wl_get (v := .int (S0.1 2 0 3)) X hP (i := 2) (by decide) (kw_cM ) rfl i_M 7 (by decide) lf_K_127 rfl d_K_count_150 ?_
    have hE : k_K_count S0 w = S0.1 2 0 3 := by
      exact ((if_neg c1).trans ((if_neg c2).trans ((if_neg c4).trans ((if_neg c5).trans ((if_neg c6).trans ((if_neg c8).trans ((if_neg c10).trans ((if_neg c11).trans ((if_neg c12).trans ((if_neg c13).trans ((if_pos c14).trans rfl)))))))))))
    rw [hE]
    exact wl_iret X hsz hr hlocks hP hS d_K_count_153
  by_cases c15 : w = (11 : Int32)
  · refine wl_top c15 ?_
    refine lv_tableIn (tgt := 154) hx hb d_K_count_1 (by decide) (by decide) rfl (by decide) ?_
    refine lv_aload_n hx hb d_K_count_154 rfl (lv_at hl 0 rfl) ?_
    refine wl_get (v := .int (S0.1 0 0 1)) X hP (i := 0) (by decide) (kw_cK ) rfl i_K 5 (by decide) lf_K_79 rfl d_K_count_155 ?_
    have hE : k_K_count S0 w = S0.1 0 0 1 := by
      exact ((if_neg c1).trans ((if_neg c2).trans ((if_neg c4).trans ((if_neg c5).trans ((if_neg c6).trans ((if_neg c8).trans ((if_neg c10).trans ((if_neg c11).trans ((if_neg c12).trans ((if_neg c13).trans ((if_neg c14).trans ((if_pos c15).trans rfl))))))))))))
    rw [hE]
    exact wl_iret X hsz hr hlocks hP hS d_K_count_158
  by_cases c16 : w = (12 : Int32)
  · refine wl_top c16 ?_
    refine lv_tableIn (tgt := 159) hx hb d_K_count_1 (by decide) (by decide) rfl (by decide) ?_
    refine lv_aload_n hx hb d_K_count_159 rfl (lv_at hl 0 rfl) ?_
    refine wl_get (v := .int (nI (S0.2 0 0 0))) X hP (i := 0) (by decide) (kw_cK ) rfl i_K 3 (by decide) lf_K_99 rfl d_K_count_160 ?_
    have hE : k_K_count S0 w = nI (S0.2 0 0 0) := by
      exact ((if_neg c1).trans ((if_neg c2).trans ((if_neg c4).trans ((if_neg c5).trans ((if_neg c6).trans ((if_neg c8).trans ((if_neg c10).trans ((if_neg c11).trans ((if_neg c12).trans ((if_neg c13).trans ((if_neg c14).trans ((if_neg c15).trans ((if_pos c16).trans rfl)))))))))))))
    rw [hE]
    exact wl_iret X hsz hr hlocks hP hS d_K_count_163
  by_cases c17 : w = (13 : Int32)
  · refine wl_top c17 ?_
    refine lv_tableIn (tgt := 164) hx hb d_K_count_1 (by decide) (by decide) rfl (by decide) ?_
    refine lv_aload_n hx hb d_K_count_164 rfl (lv_at hl 0 rfl) ?_
    refine wl_get (v := .int (S0.1 0 0 2)) X hP (i := 0) (by decide) (kw_cK ) rfl i_K 6 (by decide) lf_K_130 rfl d_K_count_165 ?_
    have hE : k_K_count S0 w = S0.1 0 0 2 := by
      exact ((if_neg c1).trans ((if_neg c2).trans ((if_neg c4).trans ((if_neg c5).trans ((if_neg c6).trans ((if_neg c8).trans ((if_neg c10).trans ((if_neg c11).trans ((if_neg c12).trans ((if_neg c13).trans ((if_neg c14).trans ((if_neg c15).trans ((if_neg c16).trans ((if_pos c17).trans rfl))))))))))))))
    rw [hE]
    exact wl_iret X hsz hr hlocks hP hS d_K_count_168
  refine lv_tableOut (tgt := 169) hx hb d_K_count_1 (by have := lv_neT c1 (a := 0) rfl; have := lv_neT c2 (a := 1) rfl; have := lv_neT c4 (a := 2) rfl; have := lv_neT c5 (a := 3) rfl; have := lv_neT c6 (a := 4) rfl; have := lv_neT c8 (a := 5) rfl; have := lv_neT c10 (a := 6) rfl; have := lv_neT c11 (a := 7) rfl; have := lv_neT c12 (a := 8) rfl; have := lv_neT c13 (a := 9) rfl; have := lv_neT c14 (a := 10) rfl; have := lv_neT c15 (a := 11) rfl; have := lv_neT c16 (a := 12) rfl; have := lv_neT c17 (a := 13) rfl; omega) (by decide) ?_
  refine lv_iconst (v := -1) hx hb d_K_count_169 (by decide) ?_
  have hE : k_K_count S0 w = (-1 : Int32) := by
    exact ((if_neg c1).trans ((if_neg c2).trans ((if_neg c4).trans ((if_neg c5).trans ((if_neg c6).trans ((if_neg c8).trans ((if_neg c10).trans ((if_neg c11).trans ((if_neg c12).trans ((if_neg c13).trans ((if_neg c14).trans ((if_neg c15).trans ((if_neg c16).trans ((if_neg c17).trans rfl))))))))))))))
  rw [hE]
  exact wl_iret X hsz hr hlocks hP hS d_K_count_170
theorem kq_w10 {x : Int32} (h0 : ¬ x < 10) (h1 : ¬ (14 : Int32) ≤ x) : x - 10 = nI (x - 10).toNatClampNeg ∧ (x - 10).toNatClampNeg < 4 := by
  have a0 : ¬ x < 0 := fun h => h0 (Int32.lt_trans h (by decide))
  obtain ⟨e, l⟩ := sk_rng 14 a0 h1 (by decide)
  generalize x.toNatClampNeg = j at e l
  subst e
  have hj : 10 ≤ j := by
    apply Nat.le_of_not_lt
    intro hlt
    exact h0 (nI_lt (b := 10) hlt (by decide))
  have e2 : nI j - 10 = nI (j - 10) := pk_sub (b := 10) hj
  rw [e2, nI_clamp (by omega)]
  exact ⟨rfl, by omega⟩
def k_K_page (S0 : kw_S) (p : Int32) (k : Int32) (w : Int32) : Int32 :=
  let r1 := k_K_isThere S0 p
  if r1 = 0 then
    (-1 : Int32)
  else
    if k < 0 then
      (-1 : Int32)
    else
      if (8 : Int32) ≤ k then
        (-1 : Int32)
      else
        if w < 0 then
          (-1 : Int32)
        else
          if w ≤ (5 : Int32) then
            if S0.2 9 p.toNatClampNeg k.toNatClampNeg < 32 then
              let r6 := k_E_tell S0 (S0.2 9 p.toNatClampNeg k.toNatClampNeg) w
              r6
            else
              if w = (1 : Int32) then
                (-2 : Int32)
              else
                if w = (2 : Int32) then
                  (-2 : Int32)
                else
                  (0 : Int32)
          else
            (-1 : Int32)
set_option maxHeartbeats 4000000 in
set_option maxRecDepth 100000 in
theorem c_K_page {l : Launch} {D : va_G} {cI cT cS : ClassId} {ad : Nat → Nat} (hinj : wl_inj 83 ad) (S0 : kw_S) (p : Int32) (k : Int32) (w : Int32) : wl_Mi l y_K_page (Cond.code y_K_page b_K_page 5 (some .int) :: TT) (rm_ 2) D classes (kw_ty cI cT cS) 83 ad [.ref (ad 0), .int p, .int k, .int w] (kw_C cI cT cS ad S0) (k_K_page S0 p k w) (kw_C cI cT cS ad S0) := by
  intro sz
  refine wl_enter (own := R_K) rfl (by decide) (Nat.le_of_ble_eq_true rfl) hinj (fun p_ e_ s_ m_ below meth c_ ls hsz X hml hr hlocks hl hP hS => ?_)
  have hx := X.1
  have hb := X.2.1
  have hA : ∀ q, s_.heap.size ≤ q → (wl_A 83 ad s_.heap.size) q := fun q h => Or.inr h
  have hl : lv_has ls 5 [(0, .ref (ad 0)), (1, .int p), (2, .int k), (3, .int w)] := hl
  refine lv_aload_n hx hb d_K_page_0 rfl (lv_at hl 0 rfl) ?_
  refine lv_iload_n hx hb d_K_page_1 rfl (lv_at hl 1 rfl) ?_
  refine wl_goi1 (cf := kw_C cI cT cS ad) (r := k_K_isThere S0 p) hS hA X.2.2.2.2.2.2 (wl_runV (As := [.int p]) (rest := []) X hml hl.1 hP g_TT (c_K_isThere hinj S0 p _) (by decide) (kw_cK ) rfl wv_K_95 (na := 1) (by decide +kernel) rfl ⟨Nat.le_of_ble_eq_true rfl, Nat.le_of_ble_eq_true rfl⟩ rfl (Nat.le_of_ble_eq_true rfl) d_K_page_2 ⟨Nat.le_refl _, Nat.le_refl _⟩) (fun r1 er1 H locs hP hS => ?_)
  refine lv_if_eq (tgt := 27) hx hb d_K_page_5 (by decide) (fun c2 => ?_) (fun c2 => ?_)
  · skip
    refine lv_iconst (v := -1) hx hb d_K_page_27 (by decide) ?_
    have hE : k_K_page S0 p k w = (-1 : Int32) := by
      replace er1 := er1.symm
      subst er1
      exact ((if_pos c2).trans rfl)
    rw [hE]
    exact wl_iret X hsz hr hlocks hP hS d_K_page_28
  · skip
    obtain ⟨hp1, hp2⟩ := kq_isThere (fun h => c2 (er1.trans h))
    refine lv_iload_n hx hb d_K_page_8 rfl (lv_at hl 2 rfl) ?_
    refine lv_if_lt (tgt := 27) hx hb d_K_page_9 (by decide) (fun ck0 => ?_) (fun ck0 => ?_)
    · skip
      refine lv_iconst (v := -1) hx hb d_K_page_27 (by decide) ?_
      have hE : k_K_page S0 p k w = (-1 : Int32) := by
        replace er1 := er1.symm
        subst er1
        exact ((if_neg c2).trans ((if_pos ck0).trans rfl))
      rw [hE]
      exact wl_iret X hsz hr hlocks hP hS d_K_page_28
    · skip
      refine lv_iload_n hx hb d_K_page_12 rfl (lv_at hl 2 rfl) ?_
      refine lv_bipush (v := 8) hx hb d_K_page_13 (by decide) ?_
      refine lv_icmp_ge (tgt := 27) hx hb d_K_page_15 (by decide) (fun ck1 => ?_) (fun ck1 => ?_)
      · skip
        refine lv_iconst (v := -1) hx hb d_K_page_27 (by decide) ?_
        have hE : k_K_page S0 p k w = (-1 : Int32) := by
          replace er1 := er1.symm
          subst er1
          exact ((if_neg c2).trans ((if_neg ck0).trans ((if_pos ck1).trans rfl)))
        rw [hE]
        exact wl_iret X hsz hr hlocks hP hS d_K_page_28
      · skip
        refine lv_iload_n hx hb d_K_page_18 rfl (lv_at hl 3 rfl) ?_
        refine lv_if_lt (tgt := 27) hx hb d_K_page_19 (by decide) (fun c3 => ?_) (fun c3 => ?_)
        · skip
          refine lv_iconst (v := -1) hx hb d_K_page_27 (by decide) ?_
          have hE : k_K_page S0 p k w = (-1 : Int32) := by
            replace er1 := er1.symm
            subst er1
            exact ((if_neg c2).trans ((if_neg ck0).trans ((if_neg ck1).trans ((if_pos c3).trans rfl))))
          rw [hE]
          exact wl_iret X hsz hr hlocks hP hS d_K_page_28
        · skip
          refine lv_iload_n hx hb d_K_page_22 rfl (lv_at hl 3 rfl) ?_
          refine lv_iconst (v := 5) hx hb d_K_page_23 (by decide) ?_
          refine lv_icmp_le (tgt := 29) hx hb d_K_page_24 (by decide) (fun c4 => ?_) (fun c4 => ?_)
          · skip
            obtain ⟨hk1, hk2⟩ := sk_rng 8 ck0 ck1 (by decide)
            refine lv_aload_n hx hb d_K_page_29 rfl (lv_at hl 0 rfl) ?_
            refine wl_get (v := .ref (ad 1)) X hP (i := 0) (by decide) (kw_cK ) rfl i_K 0 (by decide) lf_K_11 rfl d_K_page_30 ?_
            refine lv_iload_n hx hb d_K_page_33 rfl (lv_at hl 1 rfl) ?_
            refine wl_aald X hP (i := 1) (by decide) 1 (kw_cAT ) rfl (j := p.toNatClampNeg) hp1 (by omega) (by decide) d_K_page_34 ?_
            refine wl_topv (y := .ref (ad (71 + 3 * p.toNatClampNeg))) rfl ?_
            refine wl_get (v := .ref (ad (73 + 3 * p.toNatClampNeg))) X hP (i := (71 + 3 * p.toNatClampNeg)) (by omega) (kw_cT (by omega)) rfl i_T 1 (by decide) lf_K_53 rfl d_K_page_35 ?_
            refine lv_iload_n hx hb d_K_page_38 rfl (lv_at hl 2 rfl) ?_
            refine wl_aald X hP (i := (73 + 3 * p.toNatClampNeg)) (by omega) 2 (kw_cAP (by omega)) rfl (j := k.toNatClampNeg) hk1 (by omega) (by decide) d_K_page_39 ?_
            refine kw_caseE (fun h5 => ?_) (fun h5 => ?_)
            · skip
              refine lv_astore (lv' := [(4, .ref (ad (6 + 2 * (S0.2 9 p.toNatClampNeg k.toNatClampNeg)))), (0, .ref (ad 0)), (1, .int p), (2, .int k), (3, .int w)]) hx hb d_K_page_40 hl (by decide) rfl (fun ls hl => ?_)
              refine lv_aload hx hb d_K_page_42 (lv_at hl 0 rfl) ?_
              refine lv_ifnonnull (tgt := 64) hx hb d_K_page_44 (by decide) ?_
              refine lv_aload hx hb d_K_page_64 (lv_at hl 0 rfl) ?_
              refine lv_iload_n hx hb d_K_page_66 rfl (lv_at hl 4 rfl) ?_
              refine wl_goi1 (cf := kw_C cI cT cS ad) (r := k_E_tell S0 (S0.2 9 p.toNatClampNeg k.toNatClampNeg) w) hS hA X.2.2.2.2.2.2 (wl_runV (As := [.int w]) (rest := []) X hml hl.1 hP g_TT (c_E_tell hinj S0 (S0.2 9 p.toNatClampNeg k.toNatClampNeg) (by omega) w _) (by omega) (kw_cE (by omega)) rfl wv_K_98 (na := 1) (by decide +kernel) rfl ⟨Nat.le_of_ble_eq_true rfl, Nat.le_of_ble_eq_true rfl⟩ rfl (Nat.le_of_ble_eq_true rfl) d_K_page_67 ⟨Nat.le_refl _, Nat.le_refl _⟩) (fun r6 er6 H locs hP hS => ?_)
              have hE : k_K_page S0 p k w = r6 := by
                replace er6 := er6.symm
                subst er6
                replace er1 := er1.symm
                subst er1
                exact ((if_neg c2).trans ((if_neg ck0).trans ((if_neg ck1).trans ((if_neg c3).trans ((if_pos c4).trans ((if_pos h5).trans rfl))))))
              rw [hE]
              exact wl_iret X hsz hr hlocks hP hS d_K_page_70
            · skip
              refine lv_astoreN (lv' := [(4, .null), (0, .ref (ad 0)), (1, .int p), (2, .int k), (3, .int w)]) hx hb d_K_page_40 hl (by decide) rfl (fun ls hl => ?_)
              refine lv_aloadN hx hb d_K_page_42 (lv_at hl 0 rfl) ?_
              refine lv_ifnonnullN hx hb d_K_page_44 ?_
              refine lv_iload_n hx hb d_K_page_47 rfl (lv_at hl 4 rfl) ?_
              refine lv_iconst (v := 1) hx hb d_K_page_48 (by decide) ?_
              refine lv_icmp_eq (tgt := 57) hx hb d_K_page_49 (by decide) (fun c7 => ?_) (fun c7 => ?_)
              · skip
                refine lv_bipush (v := -2) hx hb d_K_page_57 (by decide) ?_
                refine lv_goto (tgt := 63) hx hb d_K_page_59 (by decide) ?_
                have hE : k_K_page S0 p k w = (-2 : Int32) := by
                  replace er1 := er1.symm
                  subst er1
                  exact ((if_neg c2).trans ((if_neg ck0).trans ((if_neg ck1).trans ((if_neg c3).trans ((if_pos c4).trans ((if_neg h5).trans ((if_pos c7).trans rfl)))))))
                rw [hE]
                exact wl_iret X hsz hr hlocks hP hS d_K_page_63
              · skip
                refine lv_iload_n hx hb d_K_page_52 rfl (lv_at hl 4 rfl) ?_
                refine lv_iconst (v := 2) hx hb d_K_page_53 (by decide) ?_
                refine lv_icmp_ne (tgt := 62) hx hb d_K_page_54 (by decide) (fun c8 => ?_) (fun c8 => ?_)
                · skip
                  refine lv_iconst (v := 0) hx hb d_K_page_62 (by decide) ?_
                  have hE : k_K_page S0 p k w = (0 : Int32) := by
                    replace er1 := er1.symm
                    subst er1
                    exact ((if_neg c2).trans ((if_neg ck0).trans ((if_neg ck1).trans ((if_neg c3).trans ((if_pos c4).trans ((if_neg h5).trans ((if_neg c7).trans ((if_neg c8).trans rfl))))))))
                  rw [hE]
                  exact wl_iret X hsz hr hlocks hP hS d_K_page_63
                · skip
                  refine lv_bipush (v := -2) hx hb d_K_page_57 (by decide) ?_
                  refine lv_goto (tgt := 63) hx hb d_K_page_59 (by decide) ?_
                  have hE : k_K_page S0 p k w = (-2 : Int32) := by
                    replace er1 := er1.symm
                    subst er1
                    exact ((if_neg c2).trans ((if_neg ck0).trans ((if_neg ck1).trans ((if_neg c3).trans ((if_pos c4).trans ((if_neg h5).trans ((if_neg c7).trans ((if_pos c8).trans rfl))))))))
                  rw [hE]
                  exact wl_iret X hsz hr hlocks hP hS d_K_page_63
          · skip
            refine lv_iconst (v := -1) hx hb d_K_page_27 (by decide) ?_
            have hE : k_K_page S0 p k w = (-1 : Int32) := by
              replace er1 := er1.symm
              subst er1
              exact ((if_neg c2).trans ((if_neg ck0).trans ((if_neg ck1).trans ((if_neg c3).trans ((if_neg c4).trans rfl)))))
            rw [hE]
            exact wl_iret X hsz hr hlocks hP hS d_K_page_28
def k_K_process_J18 (p : Int32) (w : Int32) (g : Int32) (S0 : kw_S) : Int32 :=
  let r1 := k_K_isTask p
  if r1 = 0 then
    (-1 : Int32)
  else
    if w < 0 then
      (-1 : Int32)
    else
      if w ≤ (6 : Int32) then
        if (S0.1 7 p.toNatClampNeg 0) = 0 then
          (0 : Int32)
        else
          if g = 0 then
            let r7 := k_T_tell S0 p.toNatClampNeg w
            r7
          else
            S0.1 8 p.toNatClampNeg (((w - (10 : Int32))).toNatClampNeg)
      else
        if g = 0 then
          (-1 : Int32)
        else
          if (S0.1 7 p.toNatClampNeg 0) = 0 then
            (0 : Int32)
          else
            if g = 0 then
              let r11 := k_T_tell S0 p.toNatClampNeg w
              r11
            else
              S0.1 8 p.toNatClampNeg (((w - (10 : Int32))).toNatClampNeg)
set_option maxHeartbeats 4000000 in
set_option maxRecDepth 100000 in
theorem c_K_process_J18 {l : Launch} {D : va_G} {cI cT cS : ClassId} {ad : Nat → Nat} {p_ : Program} {e_ : Env} {s_ : State} {m_ : MethodId} {args : Array Value} {below : List Frame} {meth : Method} {c_ : Code} {sz : Nat} (hinj : wl_inj 83 ad) (X : wl_X p_ s_ m_ args c_ b_K_process R_K TT D classes (kw_ty cI cT cS) 83 ad (wl_A 83 ad s_.heap.size)) (hsz : s_.heap.size = sz) (hml : c_.maxLocals = 5) (hr : meth.sig.returnType = some .int) (hlocks : meth.locks = false) :
    ∀ (p : Int32) (w : Int32) (g : Int32) (S0 : kw_S) (hg : ¬ g = 0 → ¬ w < 10 ∧ ¬ (14 : Int32) ≤ w) (H : Heap) (locs : List Loc) (ls : Array Slot), lv_has ls 5 [(0, .ref (ad 0)), (1, .int p), (2, .int w), (3, .int g)] → va_P D classes (wl_W 83 ad (kw_C cI cT cS ad S0)) H → va_S (wl_A 83 ad s_.heap.size) s_.heap H locs → W p_ l e_ (rm_ 1) s_ m_ args below meth c_ H locs 0 0 (MQ below (wl_Qi D classes (kw_ty cI cT cS) 83 ad (k_K_process_J18 p w g S0) (kw_C cI cT cS ad S0) sz) args s_ 0 0 (wl_A 83 ad sz)) (F0 m_ 18 ls []) := by
  have hx := X.1
  have hb := X.2.1
  have hA : ∀ q, s_.heap.size ≤ q → (wl_A 83 ad s_.heap.size) q := fun q h => Or.inr h
  intro p w g S0 hg H locs ls hl hP hS
  refine lv_iload_n hx hb d_K_process_18 rfl (lv_at hl 1 rfl) ?_
  refine wl_goi1 (cf := kw_C cI cT cS ad) (r := k_K_isTask p) hS hA X.2.2.2.2.2.2 (wl_runS (As := [.int p]) (rest := []) X hml hl.1 hP g_TT (c_K_isTask hinj S0 p _) wv_K_82 (na := 1) (by decide +kernel) rfl ⟨Nat.le_of_ble_eq_true rfl, Nat.le_of_ble_eq_true rfl⟩ rfl (Nat.le_of_ble_eq_true rfl) d_K_process_19 ⟨Nat.le_refl _, Nat.le_refl _⟩) (fun r1 er1 H locs hP hS => ?_)
  refine lv_if_eq (tgt := 39) hx hb d_K_process_22 (by decide) (fun c2 => ?_) (fun c2 => ?_)
  · skip
    refine lv_iconst (v := -1) hx hb d_K_process_39 (by decide) ?_
    have hE : k_K_process_J18 p w g S0 = (-1 : Int32) := by
      replace er1 := er1.symm
      subst er1
      exact ((if_pos c2).trans rfl)
    rw [hE]
    exact wl_iret X hsz hr hlocks hP hS d_K_process_40
  · skip
    obtain ⟨hp1, hp2⟩ := kq_isTask (fun h => c2 (er1.trans h))
    refine lv_iload_n hx hb d_K_process_25 rfl (lv_at hl 2 rfl) ?_
    refine lv_if_lt (tgt := 39) hx hb d_K_process_26 (by decide) (fun c3 => ?_) (fun c3 => ?_)
    · skip
      refine lv_iconst (v := -1) hx hb d_K_process_39 (by decide) ?_
      have hE : k_K_process_J18 p w g S0 = (-1 : Int32) := by
        replace er1 := er1.symm
        subst er1
        exact ((if_neg c2).trans ((if_pos c3).trans rfl))
      rw [hE]
      exact wl_iret X hsz hr hlocks hP hS d_K_process_40
    · skip
      refine lv_iload_n hx hb d_K_process_29 rfl (lv_at hl 2 rfl) ?_
      refine lv_bipush (v := 6) hx hb d_K_process_30 (by decide) ?_
      refine lv_icmp_le (tgt := 41) hx hb d_K_process_32 (by decide) (fun c4 => ?_) (fun c4 => ?_)
      · skip
        refine lv_aload_n hx hb d_K_process_41 rfl (lv_at hl 0 rfl) ?_
        refine wl_get (v := .ref (ad 1)) X hP (i := 0) (by decide) (kw_cK ) rfl i_K 0 (by decide) lf_K_11 rfl d_K_process_42 ?_
        refine lv_iload_n hx hb d_K_process_45 rfl (lv_at hl 1 rfl) ?_
        refine wl_aald X hP (i := 1) (by decide) 1 (kw_cAT ) rfl (j := p.toNatClampNeg) hp1 (by omega) (by decide) d_K_process_46 ?_
        refine wl_topv (y := .ref (ad (71 + 3 * p.toNatClampNeg))) rfl ?_
        refine lv_astore (lv' := [(4, .ref (ad (71 + 3 * p.toNatClampNeg))), (0, .ref (ad 0)), (1, .int p), (2, .int w), (3, .int g)]) hx hb d_K_process_47 hl (by decide) rfl (fun ls hl => ?_)
        refine lv_aload hx hb d_K_process_49 (lv_at hl 0 rfl) ?_
        refine wl_get (v := .int (S0.1 7 p.toNatClampNeg 0)) X hP (i := (71 + 3 * p.toNatClampNeg)) (by omega) (kw_cT (by omega)) rfl i_T 2 (by decide) lf_K_85 rfl d_K_process_51 ?_
        refine lv_if_ne (tgt := 59) hx hb d_K_process_54 (by decide) (fun c5 => ?_) (fun c5 => ?_)
        · skip
          refine lv_iload_n hx hb d_K_process_59 rfl (lv_at hl 4 rfl) ?_
          refine lv_if_eq (tgt := 76) hx hb d_K_process_60 (by decide) (fun c6 => ?_) (fun c6 => ?_)
          · skip
            refine lv_aload hx hb d_K_process_76 (lv_at hl 0 rfl) ?_
            refine lv_iload_n hx hb d_K_process_78 rfl (lv_at hl 3 rfl) ?_
            refine wl_goi1 (cf := kw_C cI cT cS ad) (r := k_T_tell S0 p.toNatClampNeg w) hS hA X.2.2.2.2.2.2 (wl_runV (As := [.int w]) (rest := []) X hml hl.1 hP g_TT (c_T_tell hinj S0 p.toNatClampNeg (by omega) w _) (by omega) (kw_cT (by omega)) rfl wv_K_91 (na := 1) (by decide +kernel) rfl ⟨Nat.le_of_ble_eq_true rfl, Nat.le_of_ble_eq_true rfl⟩ rfl (Nat.le_of_ble_eq_true rfl) d_K_process_79 ⟨Nat.le_refl _, Nat.le_refl _⟩) (fun r7 er7 H locs hP hS => ?_)
            have hE : k_K_process_J18 p w g S0 = r7 := by
              replace er7 := er7.symm
              subst er7
              replace er1 := er1.symm
              subst er1
              exact ((if_neg c2).trans ((if_neg c3).trans ((if_pos c4).trans ((if_neg c5).trans ((if_pos c6).trans rfl)))))
            rw [hE]
            exact wl_iret X hsz hr hlocks hP hS d_K_process_82
          · skip
            obtain ⟨hg1, hg2⟩ := hg c6
            obtain ⟨hw1, hw2⟩ := kq_w10 hg1 hg2
            refine lv_aload hx hb d_K_process_63 (lv_at hl 0 rfl) ?_
            refine wl_get (v := .ref (ad (72 + 3 * p.toNatClampNeg))) X hP (i := (71 + 3 * p.toNatClampNeg)) (by omega) (kw_cT (by omega)) rfl i_T 0 (by decide) lf_K_88 rfl d_K_process_65 ?_
            refine lv_iload_n hx hb d_K_process_68 rfl (lv_at hl 3 rfl) ?_
            refine lv_bipush (v := 10) hx hb d_K_process_69 (by decide) ?_
            refine lv_isub hx hb d_K_process_71 ?_
            refine wl_iald X hP (i := (72 + 3 * p.toNatClampNeg)) (by omega) 0 (kw_cAR (by omega)) rfl (j := ((w - (10 : Int32))).toNatClampNeg) hw1 hw2 (by decide) d_K_process_72 ?_
            refine lv_goto (tgt := 82) hx hb d_K_process_73 (by decide) ?_
            have hE : k_K_process_J18 p w g S0 = S0.1 8 p.toNatClampNeg (((w - (10 : Int32))).toNatClampNeg) := by
              replace er1 := er1.symm
              subst er1
              exact ((if_neg c2).trans ((if_neg c3).trans ((if_pos c4).trans ((if_neg c5).trans ((if_neg c6).trans rfl)))))
            rw [hE]
            exact wl_iret X hsz hr hlocks hP hS d_K_process_82
        · skip
          refine lv_iconst (v := 0) hx hb d_K_process_57 (by decide) ?_
          have hE : k_K_process_J18 p w g S0 = (0 : Int32) := by
            replace er1 := er1.symm
            subst er1
            exact ((if_neg c2).trans ((if_neg c3).trans ((if_pos c4).trans ((if_pos c5).trans rfl))))
          rw [hE]
          exact wl_iret X hsz hr hlocks hP hS d_K_process_58
      · skip
        refine lv_iload_n hx hb d_K_process_35 rfl (lv_at hl 3 rfl) ?_
        refine lv_if_ne (tgt := 41) hx hb d_K_process_36 (by decide) (fun c8 => ?_) (fun c8 => ?_)
        · skip
          refine lv_aload_n hx hb d_K_process_41 rfl (lv_at hl 0 rfl) ?_
          refine wl_get (v := .ref (ad 1)) X hP (i := 0) (by decide) (kw_cK ) rfl i_K 0 (by decide) lf_K_11 rfl d_K_process_42 ?_
          refine lv_iload_n hx hb d_K_process_45 rfl (lv_at hl 1 rfl) ?_
          refine wl_aald X hP (i := 1) (by decide) 1 (kw_cAT ) rfl (j := p.toNatClampNeg) hp1 (by omega) (by decide) d_K_process_46 ?_
          refine wl_topv (y := .ref (ad (71 + 3 * p.toNatClampNeg))) rfl ?_
          refine lv_astore (lv' := [(4, .ref (ad (71 + 3 * p.toNatClampNeg))), (0, .ref (ad 0)), (1, .int p), (2, .int w), (3, .int g)]) hx hb d_K_process_47 hl (by decide) rfl (fun ls hl => ?_)
          refine lv_aload hx hb d_K_process_49 (lv_at hl 0 rfl) ?_
          refine wl_get (v := .int (S0.1 7 p.toNatClampNeg 0)) X hP (i := (71 + 3 * p.toNatClampNeg)) (by omega) (kw_cT (by omega)) rfl i_T 2 (by decide) lf_K_85 rfl d_K_process_51 ?_
          refine lv_if_ne (tgt := 59) hx hb d_K_process_54 (by decide) (fun c9 => ?_) (fun c9 => ?_)
          · skip
            refine lv_iload_n hx hb d_K_process_59 rfl (lv_at hl 4 rfl) ?_
            refine lv_if_eq (tgt := 76) hx hb d_K_process_60 (by decide) (fun c10 => ?_) (fun c10 => ?_)
            · skip
              refine lv_aload hx hb d_K_process_76 (lv_at hl 0 rfl) ?_
              refine lv_iload_n hx hb d_K_process_78 rfl (lv_at hl 3 rfl) ?_
              refine wl_goi1 (cf := kw_C cI cT cS ad) (r := k_T_tell S0 p.toNatClampNeg w) hS hA X.2.2.2.2.2.2 (wl_runV (As := [.int w]) (rest := []) X hml hl.1 hP g_TT (c_T_tell hinj S0 p.toNatClampNeg (by omega) w _) (by omega) (kw_cT (by omega)) rfl wv_K_91 (na := 1) (by decide +kernel) rfl ⟨Nat.le_of_ble_eq_true rfl, Nat.le_of_ble_eq_true rfl⟩ rfl (Nat.le_of_ble_eq_true rfl) d_K_process_79 ⟨Nat.le_refl _, Nat.le_refl _⟩) (fun r11 er11 H locs hP hS => ?_)
              have hE : k_K_process_J18 p w g S0 = r11 := by
                replace er11 := er11.symm
                subst er11
                replace er1 := er1.symm
                subst er1
                exact ((if_neg c2).trans ((if_neg c3).trans ((if_neg c4).trans ((if_neg c8).trans ((if_neg c9).trans ((if_pos c10).trans rfl))))))
              rw [hE]
              exact wl_iret X hsz hr hlocks hP hS d_K_process_82
            · skip
              obtain ⟨hg1, hg2⟩ := hg c10
              obtain ⟨hw1, hw2⟩ := kq_w10 hg1 hg2
              refine lv_aload hx hb d_K_process_63 (lv_at hl 0 rfl) ?_
              refine wl_get (v := .ref (ad (72 + 3 * p.toNatClampNeg))) X hP (i := (71 + 3 * p.toNatClampNeg)) (by omega) (kw_cT (by omega)) rfl i_T 0 (by decide) lf_K_88 rfl d_K_process_65 ?_
              refine lv_iload_n hx hb d_K_process_68 rfl (lv_at hl 3 rfl) ?_
              refine lv_bipush (v := 10) hx hb d_K_process_69 (by decide) ?_
              refine lv_isub hx hb d_K_process_71 ?_
              refine wl_iald X hP (i := (72 + 3 * p.toNatClampNeg)) (by omega) 0 (kw_cAR (by omega)) rfl (j := ((w - (10 : Int32))).toNatClampNeg) hw1 hw2 (by decide) d_K_process_72 ?_
              refine lv_goto (tgt := 82) hx hb d_K_process_73 (by decide) ?_
              have hE : k_K_process_J18 p w g S0 = S0.1 8 p.toNatClampNeg (((w - (10 : Int32))).toNatClampNeg) := by
                replace er1 := er1.symm
                subst er1
                exact ((if_neg c2).trans ((if_neg c3).trans ((if_neg c4).trans ((if_neg c8).trans ((if_neg c9).trans ((if_neg c10).trans rfl))))))
              rw [hE]
              exact wl_iret X hsz hr hlocks hP hS d_K_process_82
          · skip
            refine lv_iconst (v := 0) hx hb d_K_process_57 (by decide) ?_
            have hE : k_K_process_J18 p w g S0 = (0 : Int32) := by
              replace er1 := er1.symm
              subst er1
              exact ((if_neg c2).trans ((if_neg c3).trans ((if_neg c4).trans ((if_neg c8).trans ((if_pos c9).trans rfl)))))
            rw [hE]
            exact wl_iret X hsz hr hlocks hP hS d_K_process_58
        · skip
          refine lv_iconst (v := -1) hx hb d_K_process_39 (by decide) ?_
          have hE : k_K_process_J18 p w g S0 = (-1 : Int32) := by
            replace er1 := er1.symm
            subst er1
            exact ((if_neg c2).trans ((if_neg c3).trans ((if_neg c4).trans ((if_pos c8).trans rfl))))
          rw [hE]
          exact wl_iret X hsz hr hlocks hP hS d_K_process_40
def k_K_process (S0 : kw_S) (p : Int32) (w : Int32) : Int32 :=
  if w < (10 : Int32) then
    k_K_process_J18 p w (0 : Int32) S0
  else
    if (14 : Int32) ≤ w then
      k_K_process_J18 p w (0 : Int32) S0
    else
      k_K_process_J18 p w (1 : Int32) S0
set_option maxHeartbeats 4000000 in
set_option maxRecDepth 100000 in
theorem c_K_process {l : Launch} {D : va_G} {cI cT cS : ClassId} {ad : Nat → Nat} (hinj : wl_inj 83 ad) (S0 : kw_S) (p : Int32) (w : Int32) : wl_Mi l y_K_process (Cond.code y_K_process b_K_process 5 (some .int) :: TT) (rm_ 1) D classes (kw_ty cI cT cS) 83 ad [.ref (ad 0), .int p, .int w] (kw_C cI cT cS ad S0) (k_K_process S0 p w) (kw_C cI cT cS ad S0) := by
  intro sz
  refine wl_enter (own := R_K) rfl (by decide) (Nat.le_of_ble_eq_true rfl) hinj (fun p_ e_ s_ m_ below meth c_ ls hsz X hml hr hlocks hl hP hS => ?_)
  have hx := X.1
  have hb := X.2.1
  have hA : ∀ q, s_.heap.size ≤ q → (wl_A 83 ad s_.heap.size) q := fun q h => Or.inr h
  have hl : lv_has ls 5 [(0, .ref (ad 0)), (1, .int p), (2, .int w)] := hl
  refine lv_iload_n hx hb d_K_process_0 rfl (lv_at hl 2 rfl) ?_
  refine lv_bipush (v := 10) hx hb d_K_process_1 (by decide) ?_
  refine lv_icmp_lt (tgt := 16) hx hb d_K_process_3 (by decide) (fun c1 => ?_) (fun c1 => ?_)
  · skip
    refine lv_iconst (v := 0) hx hb d_K_process_16 (by decide) ?_
    refine lv_istore_n (lv' := [(3, .int (0 : Int32)), (0, .ref (ad 0)), (1, .int p), (2, .int w)]) hx hb d_K_process_17 rfl hl (by decide) rfl (fun ls hl => ?_)
    have hE : k_K_process S0 p w = k_K_process_J18 p w (0 : Int32) S0 := by
      exact ((if_pos c1).trans rfl)
    rw [hE]
    exact c_K_process_J18 hinj X hsz hml hr hlocks p w (0 : Int32) S0 (by first | exact fun h => absurd rfl h | exact fun _ => ⟨$c2, c1⟩) _ _ _ (lv_sub hl [1, 2, 3, 0] rfl) hP hS
  · skip
    refine lv_iload_n hx hb d_K_process_6 rfl (lv_at hl 2 rfl) ?_
    refine lv_bipush (v := 14) hx hb d_K_process_7 (by decide) ?_
    refine lv_icmp_ge (tgt := 16) hx hb d_K_process_9 (by decide) (fun c2 => ?_) (fun c2 => ?_)
    · skip
      refine lv_iconst (v := 0) hx hb d_K_process_16 (by decide) ?_
      refine lv_istore_n (lv' := [(3, .int (0 : Int32)), (0, .ref (ad 0)), (1, .int p), (2, .int w)]) hx hb d_K_process_17 rfl hl (by decide) rfl (fun ls hl => ?_)
      have hE : k_K_process S0 p w = k_K_process_J18 p w (0 : Int32) S0 := by
        exact ((if_neg c1).trans ((if_pos c2).trans rfl))
      rw [hE]
      exact c_K_process_J18 hinj X hsz hml hr hlocks p w (0 : Int32) S0 (by first | exact fun h => absurd rfl h | exact fun _ => ⟨c1, c2⟩) _ _ _ (lv_sub hl [1, 2, 3, 0] rfl) hP hS
    · skip
      refine lv_iconst (v := 1) hx hb d_K_process_12 (by decide) ?_
      refine lv_goto (tgt := 17) hx hb d_K_process_13 (by decide) ?_
      refine lv_istore_n (lv' := [(3, .int (1 : Int32)), (0, .ref (ad 0)), (1, .int p), (2, .int w)]) hx hb d_K_process_17 rfl hl (by decide) rfl (fun ls hl => ?_)
      have hE : k_K_process S0 p w = k_K_process_J18 p w (1 : Int32) S0 := by
        exact ((if_neg c1).trans ((if_neg c2).trans rfl))
      rw [hE]
      exact c_K_process_J18 hinj X hsz hml hr hlocks p w (1 : Int32) S0 (by first | exact fun h => absurd rfl h | exact fun _ => ⟨c1, c2⟩) _ _ _ (lv_sub hl [1, 2, 3, 0] rfl) hP hS
