theorem qq_L24 : ∀ n (S : qw_S), p_Q_freeFrame_L24 n S → ∃ j, j < 6 ∧ (k_Q_freeFrame_L24 n S).1 = nI j := by
  intro n
  induction n with
  | zero => exact fun S h => False.elim h
  | succ n ih =>
    intro S h
    unfold p_Q_freeFrame_L24 at h
    unfold k_Q_freeFrame_L24
    dsimp only at h ⊢
    split
    · exact ⟨_, Nat.mod_lt _ (by decide), rfl⟩
    · rename_i hc
      exact ih _ (pp_neg hc h.2).2
theorem qq_dummy : True := trivial
def k_Q_bring_J55 (s : Nat) (S0 : qw_S) : qw_S :=
  let r2 := (k_Q_freeFrame S0).1
  let S3 := (k_Q_freeFrame S0).2
  let S4 := qw_si S3 13 0 s r2
  S4
def p_Q_bring_J55 (s : Nat) (S0 : qw_S) : Prop :=
  (p_Q_freeFrame S0) ∧
  (let r2 := (k_Q_freeFrame S0).1
  let S3 := (k_Q_freeFrame S0).2
  let S4 := qw_si S3 13 0 s r2
  True)
set_option maxHeartbeats 4000000 in
set_option maxRecDepth 100000 in
theorem c_Q_bring_J55 {l : Launch} {D : va_G} {cI cZ : ClassId} {ad : Nat → Nat} {p_ : Program} {e_ : Env} {s_ : State} {m_ : MethodId} {args : Array Value} {below : List Frame} {meth : Method} {c_ : Code} {sz : Nat} (hinj : wl_inj 18 ad) (X : wl_X p_ s_ m_ args c_ b_Q_bring R_Q TT D classes (qw_ty cI cZ) 18 ad (wl_A 18 ad s_.heap.size)) (hsz : s_.heap.size = sz) (hml : c_.maxLocals = 4) (hr : meth.sig.returnType = none) (hlocks : meth.locks = false) :
    ∀ (x_s : Int32) (s : Nat) (e_s : x_s = nI s) (h_s : s < 34) (S0 : qw_S) (hp0 : p_Q_bring_J55 s S0) (H : Heap) (locs : List Loc) (ls : Array Slot), lv_has ls 4 [(0, .ref (ad 0)), (2, .int x_s)] → va_P D classes (wl_W 18 ad (qw_C cI cZ ad S0)) H → va_S (wl_A 18 ad s_.heap.size) s_.heap H locs → W p_ l e_ (rm_ 3) s_ m_ args below meth c_ H locs 0 0 (MQ below (wl_Qv D classes (qw_ty cI cZ) 18 ad (qw_C cI cZ ad (k_Q_bring_J55 s S0)) sz) args s_ 0 0 (wl_A 18 ad sz)) (F0 m_ 55 ls []) := by
  have hx := X.1
  have hb := X.2.1
  have hA : ∀ q, s_.heap.size ≤ q → (wl_A 18 ad s_.heap.size) q := fun q h => Or.inr h
  intro x_s s e_s h_s S0 hp0 H locs ls hl hP hS
  subst e_s
  refine lv_aload_n hx hb d_Q_bring_55 rfl (lv_at hl 0 rfl) ?_
  refine wl_get (v := .ref (ad 13)) X hP (i := 0) (by decide) (qw_cQ ) rfl i_Q 12 (by decide) lf_Q_47 rfl d_Q_bring_56 ?_
  refine lv_iload_n hx hb d_Q_bring_59 rfl (lv_at hl 1 rfl) ?_
  refine lv_aload_n hx hb d_Q_bring_60 rfl (lv_at hl 0 rfl) ?_
  have ob1 : p_Q_freeFrame S0 := by
    exact And.left hp0
  refine wl_goi2 (cf := qw_C cI cZ ad) (res := k_Q_freeFrame S0) hS hA X.2.2.2.2.2.2 (wl_runV (As := []) (rest := [.int (nI s), .ref (ad 13)]) X hml hl.1 hP g_TT (c_Q_freeFrame hinj S0 ob1 _) (by decide) (qw_cQ ) rfl wv_Q_84 (na := 0) (by decide +kernel) rfl ⟨Nat.le_of_ble_eq_true rfl, Nat.le_of_ble_eq_true rfl⟩ rfl (Nat.le_of_ble_eq_true rfl) d_Q_bring_61 ⟨Nat.le_refl _, Nat.le_refl _⟩) (fun r2 S3 er2 eS3 H locs hP hS => ?_)
  refine wl_iast X hP hS (i := 13) (by decide) 0 (qw_cframe ) rfl (j := s) rfl (by omega) (by decide) d_Q_bring_64 (qw_pframe ) (fun H locs hP hS => ?_)
  obtain ⟨S4, eS4⟩ : ∃ z, z = qw_si S3 13 0 s r2 := ⟨_, rfl⟩
  rw [← eS4] at hP
  have hE : k_Q_bring_J55 s S0 = S4 := by
    replace eS4 := eS4.symm
    subst eS4
    replace eS3 := eS3.symm
    subst eS3
    replace er2 := er2.symm
    subst er2
    exact rfl
  rw [hE]
  exact wl_vret X hsz hr hlocks hP hS d_Q_bring_65
def k_Q_bring (S0 : qw_S) (p : Nat) (s : Nat) (c : Int32) : qw_S :=
  if (S0.1 13 0 s) < 0 then
    if c = 0 then
      let S3 := qw_si S0 17 0 7 ((S0.1 17 0 7) + (1 : Int32))
      let S4 := qw_si S3 6 0 p ((S3.1 6 0 p) + (1 : Int32))
      if (S4.1 14 0 s) < 0 then
        k_Q_bring_J55 s S4
      else
        let S6 := qw_si S4 17 0 9 ((S4.1 17 0 9) + (1 : Int32))
        k_Q_bring_J55 s S6
    else
      k_Q_bring_J55 s S0
  else
    S0
def p_Q_bring (S0 : qw_S) (p : Nat) (s : Nat) (c : Int32) : Prop :=
  if (S0.1 13 0 s) < 0 then
    if c = 0 then
      let S3 := qw_si S0 17 0 7 ((S0.1 17 0 7) + (1 : Int32))
      let S4 := qw_si S3 6 0 p ((S3.1 6 0 p) + (1 : Int32))
      if (S4.1 14 0 s) < 0 then
        p_Q_bring_J55 s S4
      else
        let S6 := qw_si S4 17 0 9 ((S4.1 17 0 9) + (1 : Int32))
        p_Q_bring_J55 s S6
    else
      p_Q_bring_J55 s S0
  else
    True
set_option maxHeartbeats 4000000 in
set_option maxRecDepth 100000 in
theorem c_Q_bring {l : Launch} {D : va_G} {cI cZ : ClassId} {ad : Nat → Nat} (hinj : wl_inj 18 ad) (S0 : qw_S) (x_p : Int32) (p : Nat) (e_p : x_p = nI p) (h_p : p < 4) (x_s : Int32) (s : Nat) (e_s : x_s = nI s) (h_s : s < 34) (c : Int32) (hp0 : p_Q_bring S0 p s c) : wl_Mv l y_Q_bring (Cond.code y_Q_bring b_Q_bring 4 none :: TT) (rm_ 3) D classes (qw_ty cI cZ) 18 ad [.ref (ad 0), .int x_p, .int x_s, .int c] (qw_C cI cZ ad S0)  (qw_C cI cZ ad (k_Q_bring S0 p s c)) := by
  subst e_p
  subst e_s
  intro sz
  refine wl_enter (own := R_Q) rfl (by decide) (Nat.le_of_ble_eq_true rfl) hinj (fun p_ e_ s_ m_ below meth c_ ls hsz X hml hr hlocks hl hP hS => ?_)
  have hx := X.1
  have hb := X.2.1
  have hA : ∀ q, s_.heap.size ≤ q → (wl_A 18 ad s_.heap.size) q := fun q h => Or.inr h
  have hl : lv_has ls 4 [(0, .ref (ad 0)), (1, .int (nI p)), (2, .int (nI s)), (3, .int c)] := hl
  refine lv_aload_n hx hb d_Q_bring_0 rfl (lv_at hl 0 rfl) ?_
  refine wl_get (v := .ref (ad 13)) X hP (i := 0) (by decide) (qw_cQ ) rfl i_Q 12 (by decide) lf_Q_47 rfl d_Q_bring_1 ?_
  refine lv_iload_n hx hb d_Q_bring_4 rfl (lv_at hl 2 rfl) ?_
  refine wl_iald X hP (i := 13) (by decide) 0 (qw_cframe ) rfl (j := s) rfl (by omega) (by decide) d_Q_bring_5 ?_
  refine lv_if_lt (tgt := 10) hx hb d_Q_bring_6 (by decide) (fun c1 => ?_) (fun c1 => ?_)
  · skip
    refine lv_iload_n hx hb d_Q_bring_10 rfl (lv_at hl 3 rfl) ?_
    refine lv_if_ne (tgt := 55) hx hb d_Q_bring_11 (by decide) (fun c2 => ?_) (fun c2 => ?_)
    · skip
      have hE : k_Q_bring S0 p s c = k_Q_bring_J55 s S0 := by
        exact ((if_pos c1).trans ((if_neg c2).trans rfl))
      rw [hE]
      exact c_Q_bring_J55 hinj X hsz hml hr hlocks (nI s) s rfl (by omega) S0 (by  exact (pp_neg c2 (pp_pos c1 hp0))) _ _ _ (lv_sub hl [0, 2] rfl) hP hS
    · skip
      refine lv_aload_n hx hb d_Q_bring_14 rfl (lv_at hl 0 rfl) ?_
      refine wl_get (v := .ref (ad 17)) X hP (i := 0) (by decide) (qw_cQ ) rfl i_Q 16 (by decide) lf_Q_59 rfl d_Q_bring_15 ?_
      refine lv_bipush (v := 7) hx hb d_Q_bring_18 (by decide) ?_
      refine lv_dup2_11 hx hb d_Q_bring_20 rfl rfl ?_
      refine wl_iald X hP (i := 17) (by decide) 0 (qw_ccounts ) rfl (j := 7) rfl (by omega) (by decide) d_Q_bring_21 ?_
      refine lv_iconst (v := 1) hx hb d_Q_bring_22 (by decide) ?_
      refine lv_iadd hx hb d_Q_bring_23 ?_
      refine wl_iast X hP hS (i := 17) (by decide) 0 (qw_ccounts ) rfl (j := 7) rfl (by omega) (by decide) d_Q_bring_24 (qw_pcounts ) (fun H locs hP hS => ?_)
      obtain ⟨S3, eS3⟩ : ∃ z, z = qw_si S0 17 0 7 ((S0.1 17 0 7) + (1 : Int32)) := ⟨_, rfl⟩
      rw [← eS3] at hP
      refine lv_aload_n hx hb d_Q_bring_25 rfl (lv_at hl 0 rfl) ?_
      refine wl_get (v := .ref (ad 6)) X hP (i := 0) (by decide) (qw_cQ ) rfl i_Q 5 (by decide) lf_Q_25 rfl d_Q_bring_26 ?_
      refine lv_iload_n hx hb d_Q_bring_29 rfl (lv_at hl 1 rfl) ?_
      refine lv_dup2_11 hx hb d_Q_bring_30 rfl rfl ?_
      refine wl_iald X hP (i := 6) (by decide) 0 (qw_cfaults ) rfl (j := p) rfl (by omega) (by decide) d_Q_bring_31 ?_
      refine lv_iconst (v := 1) hx hb d_Q_bring_32 (by decide) ?_
      refine lv_iadd hx hb d_Q_bring_33 ?_
      refine wl_iast X hP hS (i := 6) (by decide) 0 (qw_cfaults ) rfl (j := p) rfl (by omega) (by decide) d_Q_bring_34 (qw_pfaults ) (fun H locs hP hS => ?_)
      obtain ⟨S4, eS4⟩ : ∃ z, z = qw_si S3 6 0 p ((S3.1 6 0 p) + (1 : Int32)) := ⟨_, rfl⟩
      rw [← eS4] at hP
      refine lv_aload_n hx hb d_Q_bring_35 rfl (lv_at hl 0 rfl) ?_
      refine wl_get (v := .ref (ad 14)) X hP (i := 0) (by decide) (qw_cQ ) rfl i_Q 13 (by decide) lf_Q_50 rfl d_Q_bring_36 ?_
      refine lv_iload_n hx hb d_Q_bring_39 rfl (lv_at hl 2 rfl) ?_
      refine wl_iald X hP (i := 14) (by decide) 0 (qw_cslot ) rfl (j := s) rfl (by omega) (by decide) d_Q_bring_40 ?_
      refine lv_if_lt (tgt := 55) hx hb d_Q_bring_41 (by decide) (fun c5 => ?_) (fun c5 => ?_)
      · skip
        have hE : k_Q_bring S0 p s c = k_Q_bring_J55 s S4 := by
          replace eS4 := eS4.symm
          subst eS4
          replace eS3 := eS3.symm
          subst eS3
          exact ((if_pos c1).trans ((if_pos c2).trans ((if_pos c5).trans rfl)))
        rw [hE]
        exact c_Q_bring_J55 hinj X hsz hml hr hlocks (nI s) s rfl (by omega) S4 (by replace eS4 := eS4.symm; subst eS4; replace eS3 := eS3.symm; subst eS3; exact (pp_pos c5 (pp_pos c2 (pp_pos c1 hp0)))) _ _ _ (lv_sub hl [0, 2] rfl) hP hS
      · skip
        refine lv_aload_n hx hb d_Q_bring_44 rfl (lv_at hl 0 rfl) ?_
        refine wl_get (v := .ref (ad 17)) X hP (i := 0) (by decide) (qw_cQ ) rfl i_Q 16 (by decide) lf_Q_59 rfl d_Q_bring_45 ?_
        refine lv_bipush (v := 9) hx hb d_Q_bring_48 (by decide) ?_
        refine lv_dup2_11 hx hb d_Q_bring_50 rfl rfl ?_
        refine wl_iald X hP (i := 17) (by decide) 0 (qw_ccounts ) rfl (j := 9) rfl (by omega) (by decide) d_Q_bring_51 ?_
        refine lv_iconst (v := 1) hx hb d_Q_bring_52 (by decide) ?_
        refine lv_iadd hx hb d_Q_bring_53 ?_
        refine wl_iast X hP hS (i := 17) (by decide) 0 (qw_ccounts ) rfl (j := 9) rfl (by omega) (by decide) d_Q_bring_54 (qw_pcounts ) (fun H locs hP hS => ?_)
        obtain ⟨S6, eS6⟩ : ∃ z, z = qw_si S4 17 0 9 ((S4.1 17 0 9) + (1 : Int32)) := ⟨_, rfl⟩
        rw [← eS6] at hP
        have hE : k_Q_bring S0 p s c = k_Q_bring_J55 s S6 := by
          replace eS6 := eS6.symm
          subst eS6
          replace eS4 := eS4.symm
          subst eS4
          replace eS3 := eS3.symm
          subst eS3
          exact ((if_pos c1).trans ((if_pos c2).trans ((if_neg c5).trans rfl)))
        rw [hE]
        exact c_Q_bring_J55 hinj X hsz hml hr hlocks (nI s) s rfl (by omega) S6 (by replace eS6 := eS6.symm; subst eS6; replace eS4 := eS4.symm; subst eS4; replace eS3 := eS3.symm; subst eS3; exact (pp_neg c5 (pp_pos c2 (pp_pos c1 hp0)))) _ _ _ (lv_sub hl [0, 2] rfl) hP hS
  · skip
    have hE : k_Q_bring S0 p s c = S0 := by
      exact ((if_neg c1).trans rfl)
    rw [hE]
    exact wl_vret X hsz hr hlocks hP hS d_Q_bring_9
def k_Q_reach_J143 (a : Nat) (w : Int32) (s : Nat) (S0 : qw_S) : Int32 × qw_S :=
  let S1 := qw_si S0 11 0 s (1 : Int32)
  if w = 0 then
    (nI ((8 * s) + (a % 8)), S1)
  else
    let S3 := qw_si S1 12 0 s (1 : Int32)
    (nI ((8 * s) + (a % 8)), S3)
set_option maxHeartbeats 4000000 in
set_option maxRecDepth 100000 in
theorem c_Q_reach_J143 {l : Launch} {D : va_G} {cI cZ : ClassId} {ad : Nat → Nat} {p_ : Program} {e_ : Env} {s_ : State} {m_ : MethodId} {args : Array Value} {below : List Frame} {meth : Method} {c_ : Code} {sz : Nat} (hinj : wl_inj 18 ad) (X : wl_X p_ s_ m_ args c_ b_Q_reach R_Q TT D classes (qw_ty cI cZ) 18 ad (wl_A 18 ad s_.heap.size)) (hsz : s_.heap.size = sz) (hml : c_.maxLocals = 8) (hr : meth.sig.returnType = some .int) (hlocks : meth.locks = false) :
    ∀ (x_a : Int32) (a : Nat) (e_a : x_a = nI a) (h_a : a < 64) (w : Int32) (x_s : Int32) (s : Nat) (e_s : x_s = nI s) (h_s : s < 34) (S0 : qw_S) (H : Heap) (locs : List Loc) (ls : Array Slot), lv_has ls 8 [(0, .ref (ad 0)), (2, .int x_a), (3, .int w), (5, .int x_s)] → va_P D classes (wl_W 18 ad (qw_C cI cZ ad S0)) H → va_S (wl_A 18 ad s_.heap.size) s_.heap H locs → W p_ l e_ (rm_ 4) s_ m_ args below meth c_ H locs 0 0 (MQ below (wl_Qi D classes (qw_ty cI cZ) 18 ad ((k_Q_reach_J143 a w s S0).1) (qw_C cI cZ ad ((k_Q_reach_J143 a w s S0).2)) sz) args s_ 0 0 (wl_A 18 ad sz)) (F0 m_ 143 ls []) := by
  have hx := X.1
  have hb := X.2.1
  have hA : ∀ q, s_.heap.size ≤ q → (wl_A 18 ad s_.heap.size) q := fun q h => Or.inr h
  intro x_a a e_a h_a w x_s s e_s h_s S0 H locs ls hl hP hS
  subst e_a
  subst e_s
  refine lv_aload_n hx hb d_Q_reach_143 rfl (lv_at hl 0 rfl) ?_
  refine wl_get (v := .ref (ad 11)) X hP (i := 0) (by decide) (qw_cQ ) rfl i_Q 10 (by decide) lf_Q_41 rfl d_Q_reach_144 ?_
  refine lv_iload hx hb d_Q_reach_147 (lv_at hl 3 rfl) ?_
  refine lv_iconst (v := 1) hx hb d_Q_reach_149 (by decide) ?_
  refine wl_zast X hP hS (i := 11) (by decide) 1 (qw_cused ) rfl (j := s) rfl (by omega) (by decide) (x := (1 : Int32)) rfl d_Q_reach_150 (qw_pused ) (fun H locs hP hS => ?_)
  obtain ⟨S1, eS1⟩ : ∃ z, z = qw_si S0 11 0 s (1 : Int32) := ⟨_, rfl⟩
  rw [← eS1] at hP
  refine lv_iload_n hx hb d_Q_reach_151 rfl (lv_at hl 2 rfl) ?_
  refine lv_if_eq (tgt := 163) hx hb d_Q_reach_152 (by decide) (fun c2 => ?_) (fun c2 => ?_)
  · skip
    refine lv_bipush (v := 8) hx hb d_Q_reach_163 (by decide) ?_
    refine lv_iload hx hb d_Q_reach_165 (lv_at hl 3 rfl) ?_
    refine lv_imul hx hb d_Q_reach_167 ?_
    refine lv_iload_n hx hb d_Q_reach_168 rfl (lv_at hl 1 rfl) ?_
    refine lv_bipush (v := 8) hx hb d_Q_reach_169 (by decide) ?_
    refine lv_irem hx hb d_Q_reach_171 (by decide) ?_
    refine lv_iadd hx hb d_Q_reach_172 ?_
    refine wl_top (y := nI ((8 * s) + (a % 8))) ((congr (congrArg (fun (a b : Int32) => a + b) (show (8 : Int32) * (nI s) = nI (8 * s) from (show (8 : Int32) * (nI s) = nI (8 * s) from pk_mul 8 s))) (show (nI a) - (nI a) / (8 : Int32) * (8 : Int32) = nI (a % 8) from (show (nI a) - (nI a) / (8 : Int32) * (8 : Int32) = nI (a % 8) from pk_rem (a := a) (d := 8) (by omega) (by omega) (by omega)))).trans (nI_add (8 * s) (a % 8))) ?_
    have hE : k_Q_reach_J143 a w s S0 = (nI ((8 * s) + (a % 8)), S1) := by
      replace eS1 := eS1.symm
      subst eS1
      exact ((if_pos c2).trans rfl)
    rw [hE]
    exact wl_iret X hsz hr hlocks hP hS d_Q_reach_173
  · skip
    refine lv_aload_n hx hb d_Q_reach_155 rfl (lv_at hl 0 rfl) ?_
    refine wl_get (v := .ref (ad 12)) X hP (i := 0) (by decide) (qw_cQ ) rfl i_Q 11 (by decide) lf_Q_44 rfl d_Q_reach_156 ?_
    refine lv_iload hx hb d_Q_reach_159 (lv_at hl 3 rfl) ?_
    refine lv_iconst (v := 1) hx hb d_Q_reach_161 (by decide) ?_
    refine wl_zast X hP hS (i := 12) (by decide) 1 (qw_cchanged ) rfl (j := s) rfl (by omega) (by decide) (x := (1 : Int32)) rfl d_Q_reach_162 (qw_pchanged ) (fun H locs hP hS => ?_)
    obtain ⟨S3, eS3⟩ : ∃ z, z = qw_si S1 12 0 s (1 : Int32) := ⟨_, rfl⟩
    rw [← eS3] at hP
    refine lv_bipush (v := 8) hx hb d_Q_reach_163 (by decide) ?_
    refine lv_iload hx hb d_Q_reach_165 (lv_at hl 3 rfl) ?_
    refine lv_imul hx hb d_Q_reach_167 ?_
    refine lv_iload_n hx hb d_Q_reach_168 rfl (lv_at hl 1 rfl) ?_
    refine lv_bipush (v := 8) hx hb d_Q_reach_169 (by decide) ?_
    refine lv_irem hx hb d_Q_reach_171 (by decide) ?_
    refine lv_iadd hx hb d_Q_reach_172 ?_
    refine wl_top (y := nI ((8 * s) + (a % 8))) ((congr (congrArg (fun (a b : Int32) => a + b) (show (8 : Int32) * (nI s) = nI (8 * s) from (show (8 : Int32) * (nI s) = nI (8 * s) from pk_mul 8 s))) (show (nI a) - (nI a) / (8 : Int32) * (8 : Int32) = nI (a % 8) from (show (nI a) - (nI a) / (8 : Int32) * (8 : Int32) = nI (a % 8) from pk_rem (a := a) (d := 8) (by omega) (by omega) (by omega)))).trans (nI_add (8 * s) (a % 8))) ?_
    have hE : k_Q_reach_J143 a w s S0 = (nI ((8 * s) + (a % 8)), S3) := by
      replace eS3 := eS3.symm
      subst eS3
      replace eS1 := eS1.symm
      subst eS1
      exact ((if_neg c2).trans rfl)
    rw [hE]
    exact wl_iret X hsz hr hlocks hP hS d_Q_reach_173
def k_Q_reach_L81 : Nat → Nat → Nat → Nat → Int32 → Nat → Nat → qw_S → Int32 × qw_S
  | 0, i, p, a, w, s, c, S0 =>
    let S2 := qw_si S0 17 0 10 ((S0.1 17 0 10) + (1 : Int32))
    let S4 := k_Q_bring S2 p c (1 : Int32)
    k_Q_reach_J143 a w c S4
  | i_n + 1, i, p, a, w, s, c, S0 =>
    let S102 := qw_si S0 15 0 ((8 * c) + i) (S0.1 15 0 ((8 * s) + i))
    k_Q_reach_L81 i_n (i + 1) p a w s c S102
def p_Q_reach_L81 : Nat → Nat → Nat → Nat → Int32 → Nat → Nat → qw_S → Prop
  | 0, i, p, a, w, s, c, S0 =>
    let S2 := qw_si S0 17 0 10 ((S0.1 17 0 10) + (1 : Int32))
    (p_Q_bring S2 p c (1 : Int32)) ∧
    (let S4 := k_Q_bring S2 p c (1 : Int32)
    True)
  | i_n + 1, i, p, a, w, s, c, S0 =>
    let S102 := qw_si S0 15 0 ((8 * c) + i) (S0.1 15 0 ((8 * s) + i))
    p_Q_reach_L81 i_n (i + 1) p a w s c S102
set_option maxHeartbeats 4000000 in
set_option maxRecDepth 100000 in
theorem c_Q_reach_L81 {l : Launch} {D : va_G} {cI cZ : ClassId} {ad : Nat → Nat} {p_ : Program} {e_ : Env} {s_ : State} {m_ : MethodId} {args : Array Value} {below : List Frame} {meth : Method} {c_ : Code} {sz : Nat} (hinj : wl_inj 18 ad) (X : wl_X p_ s_ m_ args c_ b_Q_reach R_Q TT D classes (qw_ty cI cZ) 18 ad (wl_A 18 ad s_.heap.size)) (hsz : s_.heap.size = sz) (hml : c_.maxLocals = 8) (hr : meth.sig.returnType = some .int) (hlocks : meth.locks = false) :
    ∀ (i_n i : Nat) (x_p : Int32) (p : Nat) (e_p : x_p = nI p) (h_p : p < 4) (x_a : Int32) (a : Nat) (e_a : x_a = nI a) (h_a : a < 64) (w : Int32) (x_s : Int32) (s : Nat) (e_s : x_s = nI s) (h_s : s < 34) (x_c : Int32) (c : Nat) (e_c : x_c = nI c) (h_c : c < 34) (S0 : qw_S) (h_i : i + i_n = 8) (hp0 : p_Q_reach_L81 i_n i p a w s c S0) (H : Heap) (locs : List Loc) (ls : Array Slot), lv_has ls 8 [(0, .ref (ad 0)), (1, .int x_p), (2, .int x_a), (3, .int w), (5, .int x_s), (6, .int x_c), (7, .int (nI i))] → va_P D classes (wl_W 18 ad (qw_C cI cZ ad S0)) H → va_S (wl_A 18 ad s_.heap.size) s_.heap H locs → W p_ l e_ (rm_ 4) s_ m_ args below meth c_ H locs 0 0 (MQ below (wl_Qi D classes (qw_ty cI cZ) 18 ad ((k_Q_reach_L81 i_n i p a w s c S0).1) (qw_C cI cZ ad ((k_Q_reach_L81 i_n i p a w s c S0).2)) sz) args s_ 0 0 (wl_A 18 ad sz)) (F0 m_ 81 ls []) := by
  have hx := X.1
  have hb := X.2.1
  have hA : ∀ q, s_.heap.size ≤ q → (wl_A 18 ad s_.heap.size) q := fun q h => Or.inr h
  intro i_n
  induction i_n with
  | zero =>
    intro i x_p p e_p h_p x_a a e_a h_a w x_s s e_s h_s x_c c e_c h_c S0 h_i hp0 H locs ls hl hP hS
    subst e_p
    subst e_a
    subst e_s
    subst e_c
    refine lv_iload hx hb d_Q_reach_81 (lv_at hl 6 rfl) ?_
    refine lv_bipush (v := 8) hx hb d_Q_reach_83 (by decide) ?_
    refine lv_icmp_ge (tgt := 120) hx hb d_Q_reach_85 (by decide) (fun c1 => ?_) (fun c1 => ?_)
    · skip
      refine lv_aload_n hx hb d_Q_reach_120 rfl (lv_at hl 0 rfl) ?_
      refine wl_get (v := .ref (ad 17)) X hP (i := 0) (by decide) (qw_cQ ) rfl i_Q 16 (by decide) lf_Q_59 rfl d_Q_reach_121 ?_
      refine lv_bipush (v := 10) hx hb d_Q_reach_124 (by decide) ?_
      refine lv_dup2_11 hx hb d_Q_reach_126 rfl rfl ?_
      refine wl_iald X hP (i := 17) (by decide) 0 (qw_ccounts ) rfl (j := 10) rfl (by omega) (by decide) d_Q_reach_127 ?_
      refine lv_iconst (v := 1) hx hb d_Q_reach_128 (by decide) ?_
      refine lv_iadd hx hb d_Q_reach_129 ?_
      refine wl_iast X hP hS (i := 17) (by decide) 0 (qw_ccounts ) rfl (j := 10) rfl (by omega) (by decide) d_Q_reach_130 (qw_pcounts ) (fun H locs hP hS => ?_)
      obtain ⟨S2, eS2⟩ : ∃ z, z = qw_si S0 17 0 10 ((S0.1 17 0 10) + (1 : Int32)) := ⟨_, rfl⟩
      rw [← eS2] at hP
      refine lv_aload_n hx hb d_Q_reach_131 rfl (lv_at hl 0 rfl) ?_
      refine lv_iload_n hx hb d_Q_reach_132 rfl (lv_at hl 1 rfl) ?_
      refine lv_iload hx hb d_Q_reach_133 (lv_at hl 5 rfl) ?_
      refine lv_iconst (v := 1) hx hb d_Q_reach_135 (by decide) ?_
      have ob3 : p_Q_bring S2 p c (1 : Int32) := by
        replace eS2 := eS2.symm
        subst eS2
        exact And.left hp0
      refine wl_gov2 (cf := qw_C cI cZ ad) (S2 := k_Q_bring S2 p c (1 : Int32)) hS hA X.2.2.2.2.2.2 (wl_runV (As := [.int (nI p), .int (nI c), .int (1 : Int32)]) (rest := []) X hml hl.1 hP g_TT (c_Q_bring hinj S2 (nI p) p rfl (by omega) (nI c) c rfl (by omega) (1 : Int32) ob3 _) (by decide) (qw_cQ ) rfl wv_Q_91 (na := 3) (by decide +kernel) rfl ⟨Nat.le_of_ble_eq_true rfl, Nat.le_of_ble_eq_true rfl⟩ rfl (Nat.le_of_ble_eq_true rfl) d_Q_reach_136 ⟨Nat.le_refl _, Nat.le_refl _⟩) (fun S4 eS4 H locs hP hS => ?_)
      refine lv_iload hx hb d_Q_reach_139 (lv_at hl 5 rfl) ?_
      refine lv_istore (lv' := [(5, .int (nI c)), (0, .ref (ad 0)), (1, .int (nI p)), (2, .int (nI a)), (3, .int w), (6, .int (nI c)), (7, .int (nI i))]) hx hb d_Q_reach_141 hl (by decide) rfl (fun ls hl => ?_)
      have hE : k_Q_reach_L81 0 i p a w s c S0 = k_Q_reach_J143 a w c S4 := by
        replace eS4 := eS4.symm
        subst eS4
        replace eS2 := eS2.symm
        subst eS2
        exact rfl
      rw [hE]
      exact c_Q_reach_J143 hinj X hsz hml hr hlocks (nI a) a rfl (by omega) w (nI c) c rfl (by omega) S4 _ _ _ (lv_sub hl [1, 3, 4, 0] rfl) hP hS
    · exact absurd (sk_lhz h_i) c1
  | succ i_n ih =>
    intro i x_p p e_p h_p x_a a e_a h_a w x_s s e_s h_s x_c c e_c h_c S0 h_i hp0 H locs ls hl hP hS
    subst e_p
    subst e_a
    subst e_s
    subst e_c
    refine lv_iload hx hb d_Q_reach_81 (lv_at hl 6 rfl) ?_
    refine lv_bipush (v := 8) hx hb d_Q_reach_83 (by decide) ?_
    refine lv_icmp_ge (tgt := 120) hx hb d_Q_reach_85 (by decide) (fun c101 => ?_) (fun c101 => ?_)
    · exact absurd c101 (sk_lhs h_i)
    · skip
      refine lv_aload_n hx hb d_Q_reach_88 rfl (lv_at hl 0 rfl) ?_
      refine wl_get (v := .ref (ad 15)) X hP (i := 0) (by decide) (qw_cQ ) rfl i_Q 14 (by decide) lf_Q_53 rfl d_Q_reach_89 ?_
      refine lv_bipush (v := 8) hx hb d_Q_reach_92 (by decide) ?_
      refine lv_iload hx hb d_Q_reach_94 (lv_at hl 5 rfl) ?_
      refine lv_imul hx hb d_Q_reach_96 ?_
      refine lv_iload hx hb d_Q_reach_97 (lv_at hl 6 rfl) ?_
      refine lv_iadd hx hb d_Q_reach_99 ?_
      refine lv_aload_n hx hb d_Q_reach_100 rfl (lv_at hl 0 rfl) ?_
      refine wl_get (v := .ref (ad 15)) X hP (i := 0) (by decide) (qw_cQ ) rfl i_Q 14 (by decide) lf_Q_53 rfl d_Q_reach_101 ?_
      refine lv_bipush (v := 8) hx hb d_Q_reach_104 (by decide) ?_
      refine lv_iload hx hb d_Q_reach_106 (lv_at hl 4 rfl) ?_
      refine lv_imul hx hb d_Q_reach_108 ?_
      refine lv_iload hx hb d_Q_reach_109 (lv_at hl 6 rfl) ?_
      refine lv_iadd hx hb d_Q_reach_111 ?_
      refine wl_iald X hP (i := 15) (by decide) 0 (qw_cword ) rfl (j := ((8 * s) + i)) ((congr (congrArg (fun (a b : Int32) => a + b) (show (8 : Int32) * (nI s) = nI (8 * s) from (show (8 : Int32) * (nI s) = nI (8 * s) from pk_mul 8 s))) (show nI i = nI i from rfl)).trans (nI_add (8 * s) i)) (by omega) (by decide) d_Q_reach_112 ?_
      refine wl_iast X hP hS (i := 15) (by decide) 0 (qw_cword ) rfl (j := ((8 * c) + i)) ((congr (congrArg (fun (a b : Int32) => a + b) (show (8 : Int32) * (nI c) = nI (8 * c) from (show (8 : Int32) * (nI c) = nI (8 * c) from pk_mul 8 c))) (show nI i = nI i from rfl)).trans (nI_add (8 * c) i)) (by omega) (by decide) d_Q_reach_113 (qw_pword ) (fun H locs hP hS => ?_)
      obtain ⟨S102, eS102⟩ : ∃ z, z = qw_si S0 15 0 ((8 * c) + i) (S0.1 15 0 ((8 * s) + i)) := ⟨_, rfl⟩
      rw [← eS102] at hP
      refine lv_iinc (v := nI (i + 1)) (lv' := [(7, .int (nI (i + 1))), (0, .ref (ad 0)), (1, .int (nI p)), (2, .int (nI a)), (3, .int w), (5, .int (nI s)), (6, .int (nI c))]) hx hb d_Q_reach_114 hl (k := 6) rfl (nI_1 _) (by decide) rfl (fun ls hl => ?_)
      refine lv_goto (tgt := 81) hx hb d_Q_reach_117 (by decide) ?_
      have hE : k_Q_reach_L81 (i_n + 1) i p a w s c S0 = k_Q_reach_L81 i_n (i + 1) p a w s c S102 := by
        replace eS102 := eS102.symm
        subst eS102
        exact rfl
      rw [hE]
      exact ih (i + 1) (nI p) p rfl (by omega) (nI a) a rfl (by omega) w (nI s) s rfl (by omega) (nI c) c rfl (by omega) S102 (by omega) (by replace eS102 := eS102.symm; subst eS102; exact hp0) _ _ _ (lv_sub hl [1, 2, 3, 4, 5, 6, 0] rfl) hP hS
def k_Q_reach_J32 (p : Nat) (a : Nat) (w : Int32) (S0 : qw_S) : Int32 × qw_S :=
  let S2 := k_Q_bring S0 p (S0.2 9 0 (8 * p + a / 8)) (0 : Int32)
  if w = 0 then
    k_Q_reach_J143 a w (S0.2 9 0 (8 * p + a / 8)) S2
  else
    let r4 := k_Q_sharers S2 (nI (S0.2 9 0 (8 * p + a / 8)))
    if r4 ≤ (1 : Int32) then
      k_Q_reach_J143 a w (S0.2 9 0 (8 * p + a / 8)) S2
    else
      let r7 := (k_Q_fresh S2).1
      let S8 := (k_Q_fresh S2).2
      let S9 := qw_sn S8 9 0 (8 * p + a / 8) r7.toNatClampNeg
      k_Q_reach_L81 8 0 p a w (S0.2 9 0 (8 * p + a / 8)) r7.toNatClampNeg S9
def p_Q_reach_J32 (p : Nat) (a : Nat) (w : Int32) (S0 : qw_S) : Prop :=
  (p_Q_bring S0 p (S0.2 9 0 (8 * p + a / 8)) (0 : Int32)) ∧
  (let S2 := k_Q_bring S0 p (S0.2 9 0 (8 * p + a / 8)) (0 : Int32)
  if w = 0 then
    True
  else
    let r4 := k_Q_sharers S2 (nI (S0.2 9 0 (8 * p + a / 8)))
    if r4 ≤ (1 : Int32) then
      True
    else
      (p_Q_fresh S2) ∧
      (let r7 := (k_Q_fresh S2).1
      let S8 := (k_Q_fresh S2).2
      let S9 := qw_sn S8 9 0 (8 * p + a / 8) r7.toNatClampNeg
      p_Q_reach_L81 8 0 p a w (S0.2 9 0 (8 * p + a / 8)) r7.toNatClampNeg S9))
set_option maxHeartbeats 4000000 in
set_option maxRecDepth 100000 in
theorem c_Q_reach_J32 {l : Launch} {D : va_G} {cI cZ : ClassId} {ad : Nat → Nat} {p_ : Program} {e_ : Env} {s_ : State} {m_ : MethodId} {args : Array Value} {below : List Frame} {meth : Method} {c_ : Code} {sz : Nat} (hinj : wl_inj 18 ad) (X : wl_X p_ s_ m_ args c_ b_Q_reach R_Q TT D classes (qw_ty cI cZ) 18 ad (wl_A 18 ad s_.heap.size)) (hsz : s_.heap.size = sz) (hml : c_.maxLocals = 8) (hr : meth.sig.returnType = some .int) (hlocks : meth.locks = false) :
    ∀ (x_p : Int32) (p : Nat) (e_p : x_p = nI p) (h_p : p < 4) (x_a : Int32) (a : Nat) (e_a : x_a = nI a) (h_a : a < 64) (w : Int32) (S0 : qw_S) (hk : S0.2 9 0 (8 * p + a / 8) < 34) (hp0 : p_Q_reach_J32 p a w S0) (H : Heap) (locs : List Loc) (ls : Array Slot), lv_has ls 8 [(0, .ref (ad 0)), (1, .int x_p), (2, .int x_a), (3, .int w), (4, .int (nI (8 * p + a / 8)))] → va_P D classes (wl_W 18 ad (qw_C cI cZ ad S0)) H → va_S (wl_A 18 ad s_.heap.size) s_.heap H locs → W p_ l e_ (rm_ 4) s_ m_ args below meth c_ H locs 0 0 (MQ below (wl_Qi D classes (qw_ty cI cZ) 18 ad ((k_Q_reach_J32 p a w S0).1) (qw_C cI cZ ad ((k_Q_reach_J32 p a w S0).2)) sz) args s_ 0 0 (wl_A 18 ad sz)) (F0 m_ 32 ls []) := by
  have hx := X.1
  have hb := X.2.1
  have hA : ∀ q, s_.heap.size ≤ q → (wl_A 18 ad s_.heap.size) q := fun q h => Or.inr h
  intro x_p p e_p h_p x_a a e_a h_a w S0 hk hp0 H locs ls hl hP hS
  subst e_p
  subst e_a
  refine lv_aload_n hx hb d_Q_reach_32 rfl (lv_at hl 0 rfl) ?_
  refine wl_get (v := .ref (ad 9)) X hP (i := 0) (by decide) (qw_cQ ) rfl i_Q 8 (by decide) lf_Q_34 rfl d_Q_reach_33 ?_
  refine lv_iload hx hb d_Q_reach_36 (lv_at hl 4 rfl) ?_
  refine wl_iald X hP (i := 9) (by decide) 0 (qw_cpage ) rfl (j := (8 * p + a / 8)) rfl (by omega) (by decide) d_Q_reach_38 ?_
  refine wl_top (qw_pg_lt hk).1 ?_
  refine lv_istore (lv' := [(5, .int (nI (S0.2 9 0 (8 * p + a / 8)))), (0, .ref (ad 0)), (1, .int (nI p)), (2, .int (nI a)), (3, .int w), (4, .int (nI (8 * p + a / 8)))]) hx hb d_Q_reach_39 hl (by decide) rfl (fun ls hl => ?_)
  refine lv_aload_n hx hb d_Q_reach_41 rfl (lv_at hl 1 rfl) ?_
  refine lv_iload_n hx hb d_Q_reach_42 rfl (lv_at hl 2 rfl) ?_
  refine lv_iload hx hb d_Q_reach_43 (lv_at hl 0 rfl) ?_
  refine lv_iconst (v := 0) hx hb d_Q_reach_45 (by decide) ?_
  have ob1 : p_Q_bring S0 p (S0.2 9 0 (8 * p + a / 8)) (0 : Int32) := by
    exact And.left hp0
  refine wl_gov2 (cf := qw_C cI cZ ad) (S2 := k_Q_bring S0 p (S0.2 9 0 (8 * p + a / 8)) (0 : Int32)) hS hA X.2.2.2.2.2.2 (wl_runV (As := [.int (nI p), .int (nI (S0.2 9 0 (8 * p + a / 8))), .int (0 : Int32)]) (rest := []) X hml hl.1 hP g_TT (c_Q_bring hinj S0 (nI p) p rfl (by omega) (nI (S0.2 9 0 (8 * p + a / 8))) (S0.2 9 0 (8 * p + a / 8)) rfl (by omega) (0 : Int32) ob1 _) (by decide) (qw_cQ ) rfl wv_Q_91 (na := 3) (by decide +kernel) rfl ⟨Nat.le_of_ble_eq_true rfl, Nat.le_of_ble_eq_true rfl⟩ rfl (Nat.le_of_ble_eq_true rfl) d_Q_reach_46 ⟨Nat.le_refl _, Nat.le_refl _⟩) (fun S2 eS2 H locs hP hS => ?_)
  refine lv_iload_n hx hb d_Q_reach_49 rfl (lv_at hl 4 rfl) ?_
  refine lv_if_eq (tgt := 143) hx hb d_Q_reach_50 (by decide) (fun c3 => ?_) (fun c3 => ?_)
  · skip
    have hE : k_Q_reach_J32 p a w S0 = k_Q_reach_J143 a w (S0.2 9 0 (8 * p + a / 8)) S2 := by
      replace eS2 := eS2.symm
      subst eS2
      exact ((if_pos c3).trans rfl)
    rw [hE]
    exact c_Q_reach_J143 hinj X hsz hml hr hlocks (nI a) a rfl (by omega) w (nI (S0.2 9 0 (8 * p + a / 8))) (S0.2 9 0 (8 * p + a / 8)) rfl (by omega) S2 _ _ _ (lv_sub hl [1, 3, 4, 0] rfl) hP hS
  · skip
    refine lv_aload_n hx hb d_Q_reach_53 rfl (lv_at hl 1 rfl) ?_
    refine lv_iload hx hb d_Q_reach_54 (lv_at hl 0 rfl) ?_
    refine wl_goi1 (cf := qw_C cI cZ ad) (r := k_Q_sharers S2 (nI (S0.2 9 0 (8 * p + a / 8)))) hS hA X.2.2.2.2.2.2 (wl_runV (As := [.int (nI (S0.2 9 0 (8 * p + a / 8)))]) (rest := []) X hml hl.1 hP g_TT (c_Q_sharers hinj S2 (nI (S0.2 9 0 (8 * p + a / 8))) _) (by decide) (qw_cQ ) rfl wv_Q_66 (na := 1) (by decide +kernel) rfl ⟨Nat.le_of_ble_eq_true rfl, Nat.le_of_ble_eq_true rfl⟩ rfl (Nat.le_of_ble_eq_true rfl) d_Q_reach_56 ⟨Nat.le_refl _, Nat.le_refl _⟩) (fun r4 er4 H locs hP hS => ?_)
    refine lv_iconst (v := 1) hx hb d_Q_reach_59 (by decide) ?_
    refine lv_icmp_le (tgt := 143) hx hb d_Q_reach_60 (by decide) (fun c5 => ?_) (fun c5 => ?_)
    · skip
      have hE : k_Q_reach_J32 p a w S0 = k_Q_reach_J143 a w (S0.2 9 0 (8 * p + a / 8)) S2 := by
        replace er4 := er4.symm
        subst er4
        replace eS2 := eS2.symm
        subst eS2
        exact ((if_neg c3).trans ((if_pos c5).trans rfl))
      rw [hE]
      exact c_Q_reach_J143 hinj X hsz hml hr hlocks (nI a) a rfl (by omega) w (nI (S0.2 9 0 (8 * p + a / 8))) (S0.2 9 0 (8 * p + a / 8)) rfl (by omega) S2 _ _ _ (lv_sub hl [1, 3, 4, 0] rfl) hP hS
    · skip
      refine lv_aload_n hx hb d_Q_reach_63 rfl (lv_at hl 1 rfl) ?_
      have ob6 : p_Q_fresh S2 := by
        replace er4 := er4.symm
        subst er4
        replace eS2 := eS2.symm
        subst eS2
        exact And.left (pp_neg c5 (pp_neg c3 (And.right hp0)))
      refine wl_goi2 (cf := qw_C cI cZ ad) (res := k_Q_fresh S2) hS hA X.2.2.2.2.2.2 (wl_runV (As := []) (rest := []) X hml hl.1 hP g_TT (c_Q_fresh hinj S2 ob6 _) (by decide) (qw_cQ ) rfl wv_Q_88 (na := 0) (by decide +kernel) rfl ⟨Nat.le_of_ble_eq_true rfl, Nat.le_of_ble_eq_true rfl⟩ rfl (Nat.le_of_ble_eq_true rfl) d_Q_reach_64 ⟨Nat.le_refl _, Nat.le_refl _⟩) (fun r7 S8 er7 eS8 H locs hP hS => ?_)
      obtain ⟨hf1, hf2⟩ := qq_fresh ob6
      rw [← er7] at hf1 hf2
      refine lv_istore (lv' := [(6, .int r7), (5, .int (nI (S0.2 9 0 (8 * p + a / 8)))), (0, .ref (ad 0)), (1, .int (nI p)), (2, .int (nI a)), (3, .int w), (4, .int (nI (8 * p + a / 8)))]) hx hb d_Q_reach_67 hl (by decide) rfl (fun ls hl => ?_)
      refine lv_aload_n hx hb d_Q_reach_69 rfl (lv_at hl 2 rfl) ?_
      refine wl_get (v := .ref (ad 9)) X hP (i := 0) (by decide) (qw_cQ ) rfl i_Q 8 (by decide) lf_Q_34 rfl d_Q_reach_70 ?_
      refine lv_iload hx hb d_Q_reach_73 (lv_at hl 6 rfl) ?_
      refine lv_iload hx hb d_Q_reach_75 (lv_at hl 0 rfl) ?_
      refine wl_iast X hP hS (i := 9) (by decide) 0 (qw_cpage ) rfl (j := (8 * p + a / 8)) rfl (by omega) (by decide) d_Q_reach_77 (qw_ppage (x := r7.toNatClampNeg)  (by unfold qw_pg; rw [if_pos (by omega)] <;> exact hf1)) (fun H locs hP hS => ?_)
      obtain ⟨S9, eS9⟩ : ∃ z, z = qw_sn S8 9 0 (8 * p + a / 8) r7.toNatClampNeg := ⟨_, rfl⟩
      rw [← eS9] at hP
      refine lv_iconst (v := 0) hx hb d_Q_reach_78 (by decide) ?_
      refine lv_istore (lv' := [(7, .int (0 : Int32)), (6, .int r7), (5, .int (nI (S0.2 9 0 (8 * p + a / 8)))), (0, .ref (ad 0)), (1, .int (nI p)), (2, .int (nI a)), (3, .int w), (4, .int (nI (8 * p + a / 8)))]) hx hb d_Q_reach_79 hl (by decide) rfl (fun ls hl => ?_)
      have hE : k_Q_reach_J32 p a w S0 = k_Q_reach_L81 8 0 p a w (S0.2 9 0 (8 * p + a / 8)) r7.toNatClampNeg S9 := by
        replace eS9 := eS9.symm
        subst eS9
        replace eS8 := eS8.symm
        subst eS8
        replace er7 := er7.symm
        subst er7
        replace er4 := er4.symm
        subst er4
        replace eS2 := eS2.symm
        subst eS2
        exact ((if_neg c3).trans ((if_neg c5).trans rfl))
      rw [hE]
      exact c_Q_reach_L81 hinj X hsz hml hr hlocks 8 0 (nI p) p rfl (by omega) (nI a) a rfl (by omega) w (nI (S0.2 9 0 (8 * p + a / 8))) (S0.2 9 0 (8 * p + a / 8)) rfl (by omega) r7 r7.toNatClampNeg hf1 (by omega) S9 (by omega) (by replace eS9 := eS9.symm; subst eS9; replace eS8 := eS8.symm; subst eS8; replace er7 := er7.symm; subst er7; replace er4 := er4.symm; subst er4; replace eS2 := eS2.symm; subst eS2; exact (And.right (pp_neg c5 (pp_neg c3 (And.right hp0))))) _ _ _ (lv_sub hl [3, 4, 5, 6, 2, 1, 0] rfl) hP hS
def k_Q_reach (S0 : qw_S) (p : Nat) (a : Nat) (w : Int32) : Int32 × qw_S :=
  if 0 ≤ (qw_pg (S0.2 9 0 ((8 * p) + (a / 8)))) then
    k_Q_reach_J32 p a w S0
  else
    let r3 := (k_Q_fresh S0).1
    let S4 := (k_Q_fresh S0).2
    let S5 := qw_sn S4 9 0 ((8 * p) + (a / 8)) r3.toNatClampNeg
    k_Q_reach_J32 p a w S5
def p_Q_reach (S0 : qw_S) (p : Nat) (a : Nat) (w : Int32) : Prop :=
  if 0 ≤ (qw_pg (S0.2 9 0 ((8 * p) + (a / 8)))) then
    p_Q_reach_J32 p a w S0
  else
    (p_Q_fresh S0) ∧
    (let r3 := (k_Q_fresh S0).1
    let S4 := (k_Q_fresh S0).2
    let S5 := qw_sn S4 9 0 ((8 * p) + (a / 8)) r3.toNatClampNeg
    p_Q_reach_J32 p a w S5)
set_option maxHeartbeats 4000000 in
set_option maxRecDepth 100000 in
theorem c_Q_reach {l : Launch} {D : va_G} {cI cZ : ClassId} {ad : Nat → Nat} (hinj : wl_inj 18 ad) (S0 : qw_S) (x_p : Int32) (p : Nat) (e_p : x_p = nI p) (h_p : p < 4) (x_a : Int32) (a : Nat) (e_a : x_a = nI a) (h_a : a < 64) (w : Int32) (hp0 : p_Q_reach S0 p a w) : wl_Mi l y_Q_reach (Cond.code y_Q_reach b_Q_reach 8 (some .int) :: TT) (rm_ 4) D classes (qw_ty cI cZ) 18 ad [.ref (ad 0), .int x_p, .int x_a, .int w] (qw_C cI cZ ad S0) ((k_Q_reach S0 p a w).1) (qw_C cI cZ ad ((k_Q_reach S0 p a w).2)) := by
  subst e_p
  subst e_a
  intro sz
  refine wl_enter (own := R_Q) rfl (by decide) (Nat.le_of_ble_eq_true rfl) hinj (fun p_ e_ s_ m_ below meth c_ ls hsz X hml hr hlocks hl hP hS => ?_)
  have hx := X.1
  have hb := X.2.1
  have hA : ∀ q, s_.heap.size ≤ q → (wl_A 18 ad s_.heap.size) q := fun q h => Or.inr h
  have hl : lv_has ls 8 [(0, .ref (ad 0)), (1, .int (nI p)), (2, .int (nI a)), (3, .int w)] := hl
  refine lv_bipush (v := 8) hx hb d_Q_reach_0 (by decide) ?_
  refine lv_iload_n hx hb d_Q_reach_2 rfl (lv_at hl 1 rfl) ?_
  refine lv_imul hx hb d_Q_reach_3 ?_
  refine lv_iload_n hx hb d_Q_reach_4 rfl (lv_at hl 2 rfl) ?_
  refine lv_bipush (v := 8) hx hb d_Q_reach_5 (by decide) ?_
  refine lv_idiv hx hb d_Q_reach_7 (by decide) ?_
  refine lv_iadd hx hb d_Q_reach_8 ?_
  refine wl_top (y := nI ((8 * p) + (a / 8))) ((congr (congrArg (fun (a b : Int32) => a + b) (show (8 : Int32) * (nI p) = nI (8 * p) from (show (8 : Int32) * (nI p) = nI (8 * p) from pk_mul 8 p))) (show (nI a) / (8 : Int32) = nI (a / 8) from (show (nI a) / (8 : Int32) = nI (a / 8) from pk_div (a := a) (d := 8) (by omega) (by omega) (by omega)))).trans (nI_add (8 * p) (a / 8))) ?_
  refine lv_istore (lv' := [(4, .int (nI ((8 * p) + (a / 8)))), (0, .ref (ad 0)), (1, .int (nI p)), (2, .int (nI a)), (3, .int w)]) hx hb d_Q_reach_9 hl (by decide) rfl (fun ls hl => ?_)
  refine lv_aload_n hx hb d_Q_reach_11 rfl (lv_at hl 1 rfl) ?_
  refine wl_get (v := .ref (ad 9)) X hP (i := 0) (by decide) (qw_cQ ) rfl i_Q 8 (by decide) lf_Q_34 rfl d_Q_reach_12 ?_
  refine lv_iload hx hb d_Q_reach_15 (lv_at hl 0 rfl) ?_
  refine wl_iald X hP (i := 9) (by decide) 0 (qw_cpage ) rfl (j := ((8 * p) + (a / 8))) rfl (by omega) (by decide) d_Q_reach_17 ?_
  refine lv_if_ge (tgt := 32) hx hb d_Q_reach_18 (by decide) (fun c1 => ?_) (fun c1 => ?_)
  · skip
    have hE : k_Q_reach S0 p a w = k_Q_reach_J32 p a w S0 := by
      exact ((if_pos c1).trans rfl)
    rw [hE]
    exact c_Q_reach_J32 hinj X hsz hml hr hlocks (nI p) p rfl (by omega) (nI a) a rfl (by omega) w S0 (by first | exact (qw_pg_ge c1).2 | (rw [eS0, qw_sn_at, if_pos ⟨rfl, rfl, rfl⟩]; exact hf2)) (by  exact (pp_pos c1 hp0)) _ _ _ (lv_sub hl [1, 2, 3, 4, 0] rfl) hP hS
  · skip
    refine lv_aload_n hx hb d_Q_reach_21 rfl (lv_at hl 1 rfl) ?_
    refine wl_get (v := .ref (ad 9)) X hP (i := 0) (by decide) (qw_cQ ) rfl i_Q 8 (by decide) lf_Q_34 rfl d_Q_reach_22 ?_
    refine lv_iload hx hb d_Q_reach_25 (lv_at hl 0 rfl) ?_
    refine lv_aload_n hx hb d_Q_reach_27 rfl (lv_at hl 1 rfl) ?_
    have ob2 : p_Q_fresh S0 := by
      exact And.left (pp_neg c1 hp0)
    refine wl_goi2 (cf := qw_C cI cZ ad) (res := k_Q_fresh S0) hS hA X.2.2.2.2.2.2 (wl_runV (As := []) (rest := [.int (nI ((8 * p) + (a / 8))), .ref (ad 9)]) X hml hl.1 hP g_TT (c_Q_fresh hinj S0 ob2 _) (by decide) (qw_cQ ) rfl wv_Q_88 (na := 0) (by decide +kernel) rfl ⟨Nat.le_of_ble_eq_true rfl, Nat.le_of_ble_eq_true rfl⟩ rfl (Nat.le_of_ble_eq_true rfl) d_Q_reach_28 ⟨Nat.le_refl _, Nat.le_refl _⟩) (fun r3 S4 er3 eS4 H locs hP hS => ?_)
    obtain ⟨hf1, hf2⟩ := qq_fresh ob2
    rw [← er3] at hf1 hf2
    refine wl_iast X hP hS (i := 9) (by decide) 0 (qw_cpage ) rfl (j := ((8 * p) + (a / 8))) rfl (by omega) (by decide) d_Q_reach_31 (qw_ppage (x := r3.toNatClampNeg)  (by unfold qw_pg; rw [if_pos (by omega)] <;> exact hf1)) (fun H locs hP hS => ?_)
    obtain ⟨S5, eS5⟩ : ∃ z, z = qw_sn S4 9 0 ((8 * p) + (a / 8)) r3.toNatClampNeg := ⟨_, rfl⟩
    rw [← eS5] at hP
    have hE : k_Q_reach S0 p a w = k_Q_reach_J32 p a w S5 := by
      replace eS5 := eS5.symm
      subst eS5
      replace eS4 := eS4.symm
      subst eS4
      replace er3 := er3.symm
      subst er3
      exact ((if_neg c1).trans rfl)
    rw [hE]
    exact c_Q_reach_J32 hinj X hsz hml hr hlocks (nI p) p rfl (by omega) (nI a) a rfl (by omega) w S5 (by first | exact (qw_pg_ge c1).2 | (rw [eS5, qw_sn_at, if_pos ⟨rfl, rfl, rfl⟩]; exact hf2)) (by replace eS5 := eS5.symm; subst eS5; replace eS4 := eS4.symm; subst eS4; replace er3 := er3.symm; subst er3; exact (And.right (pp_neg c1 hp0))) _ _ _ (lv_sub hl [1, 2, 3, 4, 0] rfl) hP hS
def k_Q_isThere (S0 : qw_S) (p : Int32) : Int32 :=
  let r1 := k_Q_in p (4 : Int32)
  if r1 = 0 then
    (0 : Int32)
  else
    if (S0.1 1 0 p.toNatClampNeg) = 0 then
      (0 : Int32)
    else
      (1 : Int32)
set_option maxHeartbeats 4000000 in
set_option maxRecDepth 100000 in
theorem c_Q_isThere {l : Launch} {D : va_G} {cI cZ : ClassId} {ad : Nat → Nat} (hinj : wl_inj 18 ad) (S0 : qw_S) (p : Int32) : wl_Mi l y_Q_isThere (Cond.code y_Q_isThere b_Q_isThere 2 (some .boolean) :: TT) (rm_ 1) D classes (qw_ty cI cZ) 18 ad [.ref (ad 0), .int p] (qw_C cI cZ ad S0) (k_Q_isThere S0 p) (qw_C cI cZ ad S0) := by
  intro sz
  refine wl_enter (own := R_Q) rfl (by decide) (Nat.le_of_ble_eq_true rfl) hinj (fun p_ e_ s_ m_ below meth c_ ls hsz X hml hr hlocks hl hP hS => ?_)
  have hx := X.1
  have hb := X.2.1
  have hA : ∀ q, s_.heap.size ≤ q → (wl_A 18 ad s_.heap.size) q := fun q h => Or.inr h
  have hl : lv_has ls 2 [(0, .ref (ad 0)), (1, .int p)] := hl
  refine lv_iload_n hx hb d_Q_isThere_0 rfl (lv_at hl 1 rfl) ?_
  refine lv_iconst (v := 4) hx hb d_Q_isThere_1 (by decide) ?_
  refine wl_goi1 (cf := qw_C cI cZ ad) (r := k_Q_in p (4 : Int32)) hS hA X.2.2.2.2.2.2 (wl_runS (As := [.int p, .int (4 : Int32)]) (rest := []) X hml hl.1 hP g_TT (c_Q_in hinj S0 p (4 : Int32) _) wv_Q_95 (na := 2) (by decide +kernel) rfl ⟨Nat.le_of_ble_eq_true rfl, Nat.le_of_ble_eq_true rfl⟩ rfl (Nat.le_of_ble_eq_true rfl) d_Q_isThere_2 ⟨Nat.le_refl _, Nat.le_refl _⟩) (fun r1 er1 H locs hP hS => ?_)
  refine lv_if_eq (tgt := 21) hx hb d_Q_isThere_5 (by decide) (fun c2 => ?_) (fun c2 => ?_)
  · skip
    refine lv_iconst (v := 0) hx hb d_Q_isThere_21 (by decide) ?_
    have hE : k_Q_isThere S0 p = (0 : Int32) := by
      replace er1 := er1.symm
      subst er1
      exact ((if_pos c2).trans rfl)
    rw [hE]
    exact wl_zret X hsz hr hlocks (kq_bool (Or.inl rfl)) hP hS d_Q_isThere_22
  · skip
    obtain ⟨hp1, hp2⟩ := qq_in 4 (fun h => c2 (er1.trans h)) rfl (by decide)
    refine lv_aload_n hx hb d_Q_isThere_8 rfl (lv_at hl 0 rfl) ?_
    refine wl_get (v := .ref (ad 1)) X hP (i := 0) (by decide) (qw_cQ ) rfl i_Q 0 (by decide) lf_Q_7 rfl d_Q_isThere_9 ?_
    refine lv_iload_n hx hb d_Q_isThere_12 rfl (lv_at hl 1 rfl) ?_
    refine wl_iald X hP (i := 1) (by decide) 0 (qw_cstate ) rfl (j := p.toNatClampNeg) hp1 hp2 (by decide) d_Q_isThere_13 ?_
    refine lv_if_eq (tgt := 21) hx hb d_Q_isThere_14 (by decide) (fun c3 => ?_) (fun c3 => ?_)
    · skip
      refine lv_iconst (v := 0) hx hb d_Q_isThere_21 (by decide) ?_
      have hE : k_Q_isThere S0 p = (0 : Int32) := by
        replace er1 := er1.symm
        subst er1
        exact ((if_neg c2).trans ((if_pos c3).trans rfl))
      rw [hE]
      exact wl_zret X hsz hr hlocks (kq_bool (Or.inl rfl)) hP hS d_Q_isThere_22
    · skip
      refine lv_iconst (v := 1) hx hb d_Q_isThere_17 (by decide) ?_
      refine lv_goto (tgt := 22) hx hb d_Q_isThere_18 (by decide) ?_
      have hE : k_Q_isThere S0 p = (1 : Int32) := by
        replace er1 := er1.symm
        subst er1
        exact ((if_neg c2).trans ((if_neg c3).trans rfl))
      rw [hE]
      exact wl_zret X hsz hr hlocks (kq_bool (Or.inr rfl)) hP hS d_Q_isThere_22
theorem qq_isThere {S : qw_S} {p : Int32} (h : ¬ k_Q_isThere S p = 0) : p = nI p.toNatClampNeg ∧ p.toNatClampNeg < 4 := by
  unfold k_Q_isThere at h
  by_cases h0 : k_Q_in p (4 : Int32) = 0
  · exact absurd (if_pos h0) h
  · exact qq_in 4 h0 rfl (by decide)
def k_Q_isAlive (S0 : qw_S) (p : Int32) : Int32 :=
  let r1 := k_Q_isThere S0 p
  if r1 = 0 then
    (0 : Int32)
  else
    if (S0.1 1 0 p.toNatClampNeg) = (4 : Int32) then
      (0 : Int32)
    else
      (1 : Int32)
set_option maxHeartbeats 4000000 in
set_option maxRecDepth 100000 in
theorem c_Q_isAlive {l : Launch} {D : va_G} {cI cZ : ClassId} {ad : Nat → Nat} (hinj : wl_inj 18 ad) (S0 : qw_S) (p : Int32) : wl_Mi l y_Q_isAlive (Cond.code y_Q_isAlive b_Q_isAlive 2 (some .boolean) :: TT) (rm_ 2) D classes (qw_ty cI cZ) 18 ad [.ref (ad 0), .int p] (qw_C cI cZ ad S0) (k_Q_isAlive S0 p) (qw_C cI cZ ad S0) := by
  intro sz
  refine wl_enter (own := R_Q) rfl (by decide) (Nat.le_of_ble_eq_true rfl) hinj (fun p_ e_ s_ m_ below meth c_ ls hsz X hml hr hlocks hl hP hS => ?_)
  have hx := X.1
  have hb := X.2.1
  have hA : ∀ q, s_.heap.size ≤ q → (wl_A 18 ad s_.heap.size) q := fun q h => Or.inr h
  have hl : lv_has ls 2 [(0, .ref (ad 0)), (1, .int p)] := hl
  refine lv_aload_n hx hb d_Q_isAlive_0 rfl (lv_at hl 0 rfl) ?_
  refine lv_iload_n hx hb d_Q_isAlive_1 rfl (lv_at hl 1 rfl) ?_
  refine wl_goi1 (cf := qw_C cI cZ ad) (r := k_Q_isThere S0 p) hS hA X.2.2.2.2.2.2 (wl_runV (As := [.int p]) (rest := []) X hml hl.1 hP g_TT (c_Q_isThere hinj S0 p _) (by decide) (qw_cQ ) rfl wv_Q_99 (na := 1) (by decide +kernel) rfl ⟨Nat.le_of_ble_eq_true rfl, Nat.le_of_ble_eq_true rfl⟩ rfl (Nat.le_of_ble_eq_true rfl) d_Q_isAlive_2 ⟨Nat.le_refl _, Nat.le_refl _⟩) (fun r1 er1 H locs hP hS => ?_)
  refine lv_if_eq (tgt := 22) hx hb d_Q_isAlive_5 (by decide) (fun c2 => ?_) (fun c2 => ?_)
  · skip
    refine lv_iconst (v := 0) hx hb d_Q_isAlive_22 (by decide) ?_
    have hE : k_Q_isAlive S0 p = (0 : Int32) := by
      replace er1 := er1.symm
      subst er1
      exact ((if_pos c2).trans rfl)
    rw [hE]
    exact wl_zret X hsz hr hlocks (kq_bool (Or.inl rfl)) hP hS d_Q_isAlive_23
  · skip
    obtain ⟨hp1, hp2⟩ := qq_isThere (fun h => c2 (er1.trans h))
    refine lv_aload_n hx hb d_Q_isAlive_8 rfl (lv_at hl 0 rfl) ?_
    refine wl_get (v := .ref (ad 1)) X hP (i := 0) (by decide) (qw_cQ ) rfl i_Q 0 (by decide) lf_Q_7 rfl d_Q_isAlive_9 ?_
    refine lv_iload_n hx hb d_Q_isAlive_12 rfl (lv_at hl 1 rfl) ?_
    refine wl_iald X hP (i := 1) (by decide) 0 (qw_cstate ) rfl (j := p.toNatClampNeg) hp1 hp2 (by decide) d_Q_isAlive_13 ?_
    refine lv_iconst (v := 4) hx hb d_Q_isAlive_14 (by decide) ?_
    refine lv_icmp_eq (tgt := 22) hx hb d_Q_isAlive_15 (by decide) (fun c3 => ?_) (fun c3 => ?_)
    · skip
      refine lv_iconst (v := 0) hx hb d_Q_isAlive_22 (by decide) ?_
      have hE : k_Q_isAlive S0 p = (0 : Int32) := by
        replace er1 := er1.symm
        subst er1
        exact ((if_neg c2).trans ((if_pos c3).trans rfl))
      rw [hE]
      exact wl_zret X hsz hr hlocks (kq_bool (Or.inl rfl)) hP hS d_Q_isAlive_23
    · skip
      refine lv_iconst (v := 1) hx hb d_Q_isAlive_18 (by decide) ?_
      refine lv_goto (tgt := 23) hx hb d_Q_isAlive_19 (by decide) ?_
      have hE : k_Q_isAlive S0 p = (1 : Int32) := by
        replace er1 := er1.symm
        subst er1
        exact ((if_neg c2).trans ((if_neg c3).trans rfl))
      rw [hE]
      exact wl_zret X hsz hr hlocks (kq_bool (Or.inr rfl)) hP hS d_Q_isAlive_23
theorem qq_isAlive {S : qw_S} {p : Int32} (h : ¬ k_Q_isAlive S p = 0) : p = nI p.toNatClampNeg ∧ p.toNatClampNeg < 4 := by
  unfold k_Q_isAlive at h
  by_cases h0 : k_Q_isThere S p = 0
  · exact absurd (if_pos h0) h
  · exact qq_isThere h0
def k_Q_begin_L56 : Nat → Nat → Nat → qw_S → Int32 × qw_S
  | 0, i, p, S0 =>
    (nI p, S0)
  | i_n + 1, i, p, S0 =>
    let S102 := qw_si S0 8 0 ((4 * p) + i) (0 : Int32)
    k_Q_begin_L56 i_n (i + 1) p S102
set_option maxHeartbeats 4000000 in
set_option maxRecDepth 100000 in
theorem c_Q_begin_L56 {l : Launch} {D : va_G} {cI cZ : ClassId} {ad : Nat → Nat} {p_ : Program} {e_ : Env} {s_ : State} {m_ : MethodId} {args : Array Value} {below : List Frame} {meth : Method} {c_ : Code} {sz : Nat} (hinj : wl_inj 18 ad) (X : wl_X p_ s_ m_ args c_ b_Q_begin R_Q TT D classes (qw_ty cI cZ) 18 ad (wl_A 18 ad s_.heap.size)) (hsz : s_.heap.size = sz) (hml : c_.maxLocals = 4) (hr : meth.sig.returnType = some .int) (hlocks : meth.locks = false) :
    ∀ (i_n i : Nat) (x_p : Int32) (p : Nat) (e_p : x_p = nI p) (h_p : p < 4) (S0 : qw_S) (h_i : i + i_n = 4) (H : Heap) (locs : List Loc) (ls : Array Slot), lv_has ls 4 [(0, .ref (ad 0)), (2, .int x_p), (3, .int (nI i))] → va_P D classes (wl_W 18 ad (qw_C cI cZ ad S0)) H → va_S (wl_A 18 ad s_.heap.size) s_.heap H locs → W p_ l e_ (rm_ 0) s_ m_ args below meth c_ H locs 0 0 (MQ below (wl_Qi D classes (qw_ty cI cZ) 18 ad ((k_Q_begin_L56 i_n i p S0).1) (qw_C cI cZ ad ((k_Q_begin_L56 i_n i p S0).2)) sz) args s_ 0 0 (wl_A 18 ad sz)) (F0 m_ 56 ls []) := by
  have hx := X.1
  have hb := X.2.1
  have hA : ∀ q, s_.heap.size ≤ q → (wl_A 18 ad s_.heap.size) q := fun q h => Or.inr h
  intro i_n
  induction i_n with
  | zero =>
    intro i x_p p e_p h_p S0 h_i H locs ls hl hP hS
    subst e_p
    refine lv_iload_n hx hb d_Q_begin_56 rfl (lv_at hl 2 rfl) ?_
    refine lv_iconst (v := 4) hx hb d_Q_begin_57 (by decide) ?_
    refine lv_icmp_ge (tgt := 78) hx hb d_Q_begin_58 (by decide) (fun c1 => ?_) (fun c1 => ?_)
    · skip
      refine lv_iload_n hx hb d_Q_begin_78 rfl (lv_at hl 1 rfl) ?_
      have hE : k_Q_begin_L56 0 i p S0 = (nI p, S0) := by
        exact rfl
      rw [hE]
      exact wl_iret X hsz hr hlocks hP hS d_Q_begin_79
    · exact absurd (sk_lhz h_i) c1
  | succ i_n ih =>
    intro i x_p p e_p h_p S0 h_i H locs ls hl hP hS
    subst e_p
    refine lv_iload_n hx hb d_Q_begin_56 rfl (lv_at hl 2 rfl) ?_
    refine lv_iconst (v := 4) hx hb d_Q_begin_57 (by decide) ?_
    refine lv_icmp_ge (tgt := 78) hx hb d_Q_begin_58 (by decide) (fun c101 => ?_) (fun c101 => ?_)
    · exact absurd c101 (sk_lhs h_i)
    · skip
      refine lv_aload_n hx hb d_Q_begin_61 rfl (lv_at hl 0 rfl) ?_
      refine wl_get (v := .ref (ad 8)) X hP (i := 0) (by decide) (qw_cQ ) rfl i_Q 7 (by decide) lf_Q_31 rfl d_Q_begin_62 ?_
      refine lv_iconst (v := 4) hx hb d_Q_begin_65 (by decide) ?_
      refine lv_iload_n hx hb d_Q_begin_66 rfl (lv_at hl 1 rfl) ?_
      refine lv_imul hx hb d_Q_begin_67 ?_
      refine lv_iload_n hx hb d_Q_begin_68 rfl (lv_at hl 2 rfl) ?_
      refine lv_iadd hx hb d_Q_begin_69 ?_
      refine lv_iconst (v := 0) hx hb d_Q_begin_70 (by decide) ?_
      refine wl_iast X hP hS (i := 8) (by decide) 0 (qw_cregister ) rfl (j := ((4 * p) + i)) ((congr (congrArg (fun (a b : Int32) => a + b) (show (4 : Int32) * (nI p) = nI (4 * p) from (show (4 : Int32) * (nI p) = nI (4 * p) from pk_mul 4 p))) (show nI i = nI i from rfl)).trans (nI_add (4 * p) i)) (by omega) (by decide) d_Q_begin_71 (qw_pregister ) (fun H locs hP hS => ?_)
      obtain ⟨S102, eS102⟩ : ∃ z, z = qw_si S0 8 0 ((4 * p) + i) (0 : Int32) := ⟨_, rfl⟩
      rw [← eS102] at hP
      refine lv_iinc (v := nI (i + 1)) (lv' := [(3, .int (nI (i + 1))), (0, .ref (ad 0)), (2, .int (nI p))]) hx hb d_Q_begin_72 hl (k := 2) rfl (nI_1 _) (by decide) rfl (fun ls hl => ?_)
      refine lv_goto (tgt := 56) hx hb d_Q_begin_75 (by decide) ?_
      have hE : k_Q_begin_L56 (i_n + 1) i p S0 = k_Q_begin_L56 i_n (i + 1) p S102 := by
        replace eS102 := eS102.symm
        subst eS102
        exact rfl
      rw [hE]
      exact ih (i + 1) (nI p) p rfl (by omega) S102 (by omega) _ _ _ (lv_sub hl [1, 2, 0] rfl) hP hS
def k_Q_begin_L2 : Nat → Nat → Nat → qw_S → Int32 × qw_S
  | 0, i, q, S0 =>
    ((-2 : Int32), S0)
  | i_n + 1, i, q, S0 =>
    if (S0.1 1 0 i) = 0 then
      let S103 := qw_si S0 1 0 i (1 : Int32)
      let S104 := qw_si S103 2 0 i (0 : Int32)
      let S105 := qw_sn S104 3 0 i q
      let S106 := qw_si S105 6 0 i (0 : Int32)
      let S107 := qw_si S106 7 0 i (0 : Int32)
      k_Q_begin_L56 4 0 i S107
    else
      k_Q_begin_L2 i_n (i + 1) q S0
set_option maxHeartbeats 4000000 in
set_option maxRecDepth 100000 in
theorem c_Q_begin_L2 {l : Launch} {D : va_G} {cI cZ : ClassId} {ad : Nat → Nat} {p_ : Program} {e_ : Env} {s_ : State} {m_ : MethodId} {args : Array Value} {below : List Frame} {meth : Method} {c_ : Code} {sz : Nat} (hinj : wl_inj 18 ad) (X : wl_X p_ s_ m_ args c_ b_Q_begin R_Q TT D classes (qw_ty cI cZ) 18 ad (wl_A 18 ad s_.heap.size)) (hsz : s_.heap.size = sz) (hml : c_.maxLocals = 4) (hr : meth.sig.returnType = some .int) (hlocks : meth.locks = false) :
    ∀ (i_n i : Nat) (x_q : Int32) (q : Nat) (e_q : x_q = qw_pa q) (S0 : qw_S) (h_i : i + i_n = 4) (H : Heap) (locs : List Loc) (ls : Array Slot), lv_has ls 4 [(0, .ref (ad 0)), (1, .int x_q), (2, .int (nI i))] → va_P D classes (wl_W 18 ad (qw_C cI cZ ad S0)) H → va_S (wl_A 18 ad s_.heap.size) s_.heap H locs → W p_ l e_ (rm_ 0) s_ m_ args below meth c_ H locs 0 0 (MQ below (wl_Qi D classes (qw_ty cI cZ) 18 ad ((k_Q_begin_L2 i_n i q S0).1) (qw_C cI cZ ad ((k_Q_begin_L2 i_n i q S0).2)) sz) args s_ 0 0 (wl_A 18 ad sz)) (F0 m_ 2 ls []) := by
  have hx := X.1
  have hb := X.2.1
  have hA : ∀ q, s_.heap.size ≤ q → (wl_A 18 ad s_.heap.size) q := fun q h => Or.inr h
  intro i_n
  induction i_n with
  | zero =>
    intro i x_q q e_q S0 h_i H locs ls hl hP hS
    subst e_q
    refine lv_iload_n hx hb d_Q_begin_2 rfl (lv_at hl 2 rfl) ?_
    refine lv_iconst (v := 4) hx hb d_Q_begin_3 (by decide) ?_
    refine lv_icmp_ge (tgt := 86) hx hb d_Q_begin_4 (by decide) (fun c1 => ?_) (fun c1 => ?_)
    · skip
      refine lv_bipush (v := -2) hx hb d_Q_begin_86 (by decide) ?_
      have hE : k_Q_begin_L2 0 i q S0 = ((-2 : Int32), S0) := by
        exact rfl
      rw [hE]
      exact wl_iret X hsz hr hlocks hP hS d_Q_begin_88
    · exact absurd (sk_lhz h_i) c1
  | succ i_n ih =>
    intro i x_q q e_q S0 h_i H locs ls hl hP hS
    subst e_q
    refine lv_iload_n hx hb d_Q_begin_2 rfl (lv_at hl 2 rfl) ?_
    refine lv_iconst (v := 4) hx hb d_Q_begin_3 (by decide) ?_
    refine lv_icmp_ge (tgt := 86) hx hb d_Q_begin_4 (by decide) (fun c101 => ?_) (fun c101 => ?_)
    · exact absurd c101 (sk_lhs h_i)
    · skip
      refine lv_aload_n hx hb d_Q_begin_7 rfl (lv_at hl 0 rfl) ?_
      refine wl_get (v := .ref (ad 1)) X hP (i := 0) (by decide) (qw_cQ ) rfl i_Q 0 (by decide) lf_Q_7 rfl d_Q_begin_8 ?_
      refine lv_iload_n hx hb d_Q_begin_11 rfl (lv_at hl 2 rfl) ?_
      refine wl_iald X hP (i := 1) (by decide) 0 (qw_cstate ) rfl (j := i) rfl (by omega) (by decide) d_Q_begin_12 ?_
      refine lv_if_eq (tgt := 19) hx hb d_Q_begin_13 (by decide) (fun c102 => ?_) (fun c102 => ?_)
      · skip
        refine lv_aload_n hx hb d_Q_begin_19 rfl (lv_at hl 0 rfl) ?_
        refine wl_get (v := .ref (ad 1)) X hP (i := 0) (by decide) (qw_cQ ) rfl i_Q 0 (by decide) lf_Q_7 rfl d_Q_begin_20 ?_
        refine lv_iload_n hx hb d_Q_begin_23 rfl (lv_at hl 2 rfl) ?_
        refine lv_iconst (v := 1) hx hb d_Q_begin_24 (by decide) ?_
        refine wl_iast X hP hS (i := 1) (by decide) 0 (qw_cstate ) rfl (j := i) rfl (by omega) (by decide) d_Q_begin_25 (qw_pstate ) (fun H locs hP hS => ?_)
        obtain ⟨S103, eS103⟩ : ∃ z, z = qw_si S0 1 0 i (1 : Int32) := ⟨_, rfl⟩
        rw [← eS103] at hP
        refine lv_aload_n hx hb d_Q_begin_26 rfl (lv_at hl 0 rfl) ?_
        refine wl_get (v := .ref (ad 2)) X hP (i := 0) (by decide) (qw_cQ ) rfl i_Q 1 (by decide) lf_Q_13 rfl d_Q_begin_27 ?_
        refine lv_iload_n hx hb d_Q_begin_30 rfl (lv_at hl 2 rfl) ?_
        refine lv_iconst (v := 0) hx hb d_Q_begin_31 (by decide) ?_
        refine wl_iast X hP hS (i := 2) (by decide) 0 (qw_cplace ) rfl (j := i) rfl (by omega) (by decide) d_Q_begin_32 (qw_pplace ) (fun H locs hP hS => ?_)
        obtain ⟨S104, eS104⟩ : ∃ z, z = qw_si S103 2 0 i (0 : Int32) := ⟨_, rfl⟩
        rw [← eS104] at hP
        refine lv_aload_n hx hb d_Q_begin_33 rfl (lv_at hl 0 rfl) ?_
        refine wl_get (v := .ref (ad 3)) X hP (i := 0) (by decide) (qw_cQ ) rfl i_Q 2 (by decide) lf_Q_16 rfl d_Q_begin_34 ?_
        refine lv_iload_n hx hb d_Q_begin_37 rfl (lv_at hl 2 rfl) ?_
        refine lv_iload_n hx hb d_Q_begin_38 rfl (lv_at hl 1 rfl) ?_
        refine wl_iast X hP hS (i := 3) (by decide) 0 (qw_cparent ) rfl (j := i) rfl (by omega) (by decide) d_Q_begin_39 (qw_pparent (x := q)  rfl) (fun H locs hP hS => ?_)
        obtain ⟨S105, eS105⟩ : ∃ z, z = qw_sn S104 3 0 i q := ⟨_, rfl⟩
        rw [← eS105] at hP
        refine lv_aload_n hx hb d_Q_begin_40 rfl (lv_at hl 0 rfl) ?_
        refine wl_get (v := .ref (ad 6)) X hP (i := 0) (by decide) (qw_cQ ) rfl i_Q 5 (by decide) lf_Q_25 rfl d_Q_begin_41 ?_
        refine lv_iload_n hx hb d_Q_begin_44 rfl (lv_at hl 2 rfl) ?_
        refine lv_iconst (v := 0) hx hb d_Q_begin_45 (by decide) ?_
        refine wl_iast X hP hS (i := 6) (by decide) 0 (qw_cfaults ) rfl (j := i) rfl (by omega) (by decide) d_Q_begin_46 (qw_pfaults ) (fun H locs hP hS => ?_)
        obtain ⟨S106, eS106⟩ : ∃ z, z = qw_si S105 6 0 i (0 : Int32) := ⟨_, rfl⟩
        rw [← eS106] at hP
        refine lv_aload_n hx hb d_Q_begin_47 rfl (lv_at hl 0 rfl) ?_
        refine wl_get (v := .ref (ad 7)) X hP (i := 0) (by decide) (qw_cQ ) rfl i_Q 6 (by decide) lf_Q_28 rfl d_Q_begin_48 ?_
        refine lv_iload_n hx hb d_Q_begin_51 rfl (lv_at hl 2 rfl) ?_
        refine lv_iconst (v := 0) hx hb d_Q_begin_52 (by decide) ?_
        refine wl_iast X hP hS (i := 7) (by decide) 0 (qw_cbegun ) rfl (j := i) rfl (by omega) (by decide) d_Q_begin_53 (qw_pbegun ) (fun H locs hP hS => ?_)
        obtain ⟨S107, eS107⟩ : ∃ z, z = qw_si S106 7 0 i (0 : Int32) := ⟨_, rfl⟩
        rw [← eS107] at hP
        refine lv_iconst (v := 0) hx hb d_Q_begin_54 (by decide) ?_
        refine lv_istore_n (lv' := [(3, .int (0 : Int32)), (0, .ref (ad 0)), (1, .int (qw_pa q)), (2, .int (nI i))]) hx hb d_Q_begin_55 rfl hl (by decide) rfl (fun ls hl => ?_)
        have hE : k_Q_begin_L2 (i_n + 1) i q S0 = k_Q_begin_L56 4 0 i S107 := by
          replace eS107 := eS107.symm
          subst eS107
          replace eS106 := eS106.symm
          subst eS106
          replace eS105 := eS105.symm
          subst eS105
          replace eS104 := eS104.symm
          subst eS104
          replace eS103 := eS103.symm
          subst eS103
          exact ((if_pos c102).trans rfl)
        rw [hE]
        exact c_Q_begin_L56 hinj X hsz hml hr hlocks 4 0 (nI i) i rfl (by omega) S107 (by omega) _ _ _ (lv_sub hl [1, 3, 0] rfl) hP hS
      · skip
        refine lv_goto (tgt := 80) hx hb d_Q_begin_16 (by decide) ?_
        refine lv_iinc (v := nI (i + 1)) (lv' := [(2, .int (nI (i + 1))), (0, .ref (ad 0)), (1, .int (qw_pa q))]) hx hb d_Q_begin_80 hl (k := 2) rfl (nI_1 _) (by decide) rfl (fun ls hl => ?_)
        refine lv_goto (tgt := 2) hx hb d_Q_begin_83 (by decide) ?_
        have hE : k_Q_begin_L2 (i_n + 1) i q S0 = k_Q_begin_L2 i_n (i + 1) q S0 := by
          exact ((if_neg c102).trans rfl)
        rw [hE]
        exact ih (i + 1) (qw_pa q) q rfl S0 (by omega) _ _ _ (lv_sub hl [1, 2, 0] rfl) hP hS
def k_Q_begin (S0 : qw_S) (q : Nat) : Int32 × qw_S :=
  k_Q_begin_L2 4 0 q S0
set_option maxHeartbeats 4000000 in
set_option maxRecDepth 100000 in
theorem c_Q_begin {l : Launch} {D : va_G} {cI cZ : ClassId} {ad : Nat → Nat} (hinj : wl_inj 18 ad) (S0 : qw_S) (x_q : Int32) (q : Nat) (e_q : x_q = qw_pa q) : wl_Mi l y_Q_begin (Cond.code y_Q_begin b_Q_begin 4 (some .int) :: TT) (rm_ 0) D classes (qw_ty cI cZ) 18 ad [.ref (ad 0), .int x_q] (qw_C cI cZ ad S0) ((k_Q_begin S0 q).1) (qw_C cI cZ ad ((k_Q_begin S0 q).2)) := by
  subst e_q
  intro sz
  refine wl_enter (own := R_Q) rfl (by decide) (Nat.le_of_ble_eq_true rfl) hinj (fun p_ e_ s_ m_ below meth c_ ls hsz X hml hr hlocks hl hP hS => ?_)
  have hx := X.1
  have hb := X.2.1
  have hA : ∀ q, s_.heap.size ≤ q → (wl_A 18 ad s_.heap.size) q := fun q h => Or.inr h
  have hl : lv_has ls 4 [(0, .ref (ad 0)), (1, .int (qw_pa q))] := hl
  refine lv_iconst (v := 0) hx hb d_Q_begin_0 (by decide) ?_
  refine lv_istore_n (lv' := [(2, .int (0 : Int32)), (0, .ref (ad 0)), (1, .int (qw_pa q))]) hx hb d_Q_begin_1 rfl hl (by decide) rfl (fun ls hl => ?_)
  have hE : k_Q_begin S0 q = k_Q_begin_L2 4 0 q S0 := by
    exact rfl
  rw [hE]
  exact c_Q_begin_L2 hinj X hsz hml hr hlocks 4 0 (qw_pa q) q rfl S0 (by omega) _ _ _ (lv_sub hl [1, 2, 0] rfl) hP hS
theorem qq_beginL : ∀ n i q (S : qw_S), i + n = 4 → (k_Q_begin_L2 n i q S).1 = -2 ∨ ∃ j, j < 4 ∧ (k_Q_begin_L2 n i q S).1 = nI j := by
  have h56 : ∀ n i p (U : qw_S), (k_Q_begin_L56 n i p U).1 = nI p := by
    intro n
    induction n with
    | zero => exact fun _ _ _ => rfl
    | succ n ih => exact fun i p U => ih (i + 1) p _
  intro n
  induction n with
  | zero => exact fun _ _ _ _ => Or.inl rfl
  | succ n ih =>
    intro i q S h
    have hn := ih (i + 1) q S (by omega)
    unfold k_Q_begin_L2
    dsimp only
    split
    · exact Or.inr ⟨i, by omega, h56 _ _ _ _⟩
    · exact hn
theorem qq_begin {S : qw_S} {q : Nat} (h : 0 ≤ (k_Q_begin S q).1) : (k_Q_begin S q).1 = nI (k_Q_begin S q).1.toNatClampNeg ∧ (k_Q_begin S q).1.toNatClampNeg < 4 := by
  rcases qq_beginL 4 0 q S rfl with h1 | ⟨j, hj, h1⟩
  · have e : (k_Q_begin S q).1 = -2 := h1
    rw [e] at h
    exact absurd h (by decide)
  · have e : (k_Q_begin S q).1 = nI j := h1
    rw [e, nI_clamp (by omega)]
    exact ⟨rfl, hj⟩
def k_Q_spawn (S0 : qw_S) : Int32 × qw_S :=
  let r1 := (k_Q_begin S0 4).1
  let S2 := (k_Q_begin S0 4).2
  if 0 ≤ r1 then
    (r1, S2)
  else
    ((-3 : Int32), S2)
set_option maxHeartbeats 4000000 in
set_option maxRecDepth 100000 in
theorem c_Q_spawn {l : Launch} {D : va_G} {cI cZ : ClassId} {ad : Nat → Nat} (hinj : wl_inj 18 ad) (S0 : qw_S)  : wl_Mi l y_Q_spawn (Cond.code y_Q_spawn b_Q_spawn 2 (some .int) :: TT) (rm_ 1) D classes (qw_ty cI cZ) 18 ad [.ref (ad 0)] (qw_C cI cZ ad S0) ((k_Q_spawn S0).1) (qw_C cI cZ ad ((k_Q_spawn S0).2)) := by
  intro sz
  refine wl_enter (own := R_Q) rfl (by decide) (Nat.le_of_ble_eq_true rfl) hinj (fun p_ e_ s_ m_ below meth c_ ls hsz X hml hr hlocks hl hP hS => ?_)
  have hx := X.1
  have hb := X.2.1
  have hA : ∀ q, s_.heap.size ≤ q → (wl_A 18 ad s_.heap.size) q := fun q h => Or.inr h
  have hl : lv_has ls 2 [(0, .ref (ad 0))] := hl
  refine lv_aload_n hx hb d_Q_spawn_0 rfl (lv_at hl 0 rfl) ?_
  refine lv_bipush (v := -2) hx hb d_Q_spawn_1 (by decide) ?_
  refine wl_goi2 (cf := qw_C cI cZ ad) (res := k_Q_begin S0 4) hS hA X.2.2.2.2.2.2 (wl_runV (As := [.int (-2 : Int32)]) (rest := []) X hml hl.1 hP g_TT (c_Q_begin hinj S0 (-2 : Int32) 4 (by decide) _) (by decide) (qw_cQ ) rfl wv_Q_102 (na := 1) (by decide +kernel) rfl ⟨Nat.le_of_ble_eq_true rfl, Nat.le_of_ble_eq_true rfl⟩ rfl (Nat.le_of_ble_eq_true rfl) d_Q_spawn_3 ⟨Nat.le_refl _, Nat.le_refl _⟩) (fun r1 S2 er1 eS2 H locs hP hS => ?_)
  refine lv_istore_n (lv' := [(1, .int r1), (0, .ref (ad 0))]) hx hb d_Q_spawn_6 rfl hl (by decide) rfl (fun ls hl => ?_)
  refine lv_iload_n hx hb d_Q_spawn_7 rfl (lv_at hl 0 rfl) ?_
  refine lv_if_ge (tgt := 16) hx hb d_Q_spawn_8 (by decide) (fun c3 => ?_) (fun c3 => ?_)
  · skip
    refine lv_iload_n hx hb d_Q_spawn_16 rfl (lv_at hl 0 rfl) ?_
    have hE : k_Q_spawn S0 = (r1, S2) := by
      replace eS2 := eS2.symm
      subst eS2
      replace er1 := er1.symm
      subst er1
      exact ((if_pos c3).trans rfl)
    rw [hE]
    exact wl_iret X hsz hr hlocks hP hS d_Q_spawn_17
  · skip
    refine lv_bipush (v := -3) hx hb d_Q_spawn_11 (by decide) ?_
    refine lv_goto (tgt := 17) hx hb d_Q_spawn_13 (by decide) ?_
    have hE : k_Q_spawn S0 = ((-3 : Int32), S2) := by
      replace eS2 := eS2.symm
      subst eS2
      replace er1 := er1.symm
      subst er1
      exact ((if_neg c3).trans rfl)
    rw [hE]
    exact wl_iret X hsz hr hlocks hP hS d_Q_spawn_17
def k_Q_poke (S0 : qw_S) (p : Int32) (a : Int32) (w : Int32) : Int32 × qw_S :=
  let r1 := k_Q_isAlive S0 p
  if r1 = 0 then
    ((-1 : Int32), S0)
  else
    let r3 := k_Q_in a (64 : Int32)
    if r3 = 0 then
      ((-1 : Int32), S0)
    else
      let x5 := S0.1 6 0 p.toNatClampNeg
      let r7 := (k_Q_reach S0 p.toNatClampNeg a.toNatClampNeg (1 : Int32)).1
      let S8 := (k_Q_reach S0 p.toNatClampNeg a.toNatClampNeg (1 : Int32)).2
      let S10 := qw_si S8 15 0 r7.toNatClampNeg w
      ((S10.1 6 0 p.toNatClampNeg) - x5, S10)
def p_Q_poke (S0 : qw_S) (p : Int32) (a : Int32) (w : Int32) : Prop :=
  let r1 := k_Q_isAlive S0 p
  if r1 = 0 then
    True
  else
    let r3 := k_Q_in a (64 : Int32)
    if r3 = 0 then
      True
    else
      let x5 := S0.1 6 0 p.toNatClampNeg
      (p_Q_reach S0 p.toNatClampNeg a.toNatClampNeg (1 : Int32)) ∧
      (let r7 := (k_Q_reach S0 p.toNatClampNeg a.toNatClampNeg (1 : Int32)).1
      let S8 := (k_Q_reach S0 p.toNatClampNeg a.toNatClampNeg (1 : Int32)).2
      (in_ r7 272) ∧
      (let S10 := qw_si S8 15 0 r7.toNatClampNeg w
      True))
set_option maxHeartbeats 4000000 in
set_option maxRecDepth 100000 in
theorem c_Q_poke {l : Launch} {D : va_G} {cI cZ : ClassId} {ad : Nat → Nat} (hinj : wl_inj 18 ad) (S0 : qw_S) (p : Int32) (a : Int32) (w : Int32) (hp0 : p_Q_poke S0 p a w) : wl_Mi l y_Q_poke (Cond.code y_Q_poke b_Q_poke 5 (some .int) :: TT) (rm_ 5) D classes (qw_ty cI cZ) 18 ad [.ref (ad 0), .int p, .int a, .int w] (qw_C cI cZ ad S0) ((k_Q_poke S0 p a w).1) (qw_C cI cZ ad ((k_Q_poke S0 p a w).2)) := by
  intro sz
  refine wl_enter (own := R_Q) rfl (by decide) (Nat.le_of_ble_eq_true rfl) hinj (fun p_ e_ s_ m_ below meth c_ ls hsz X hml hr hlocks hl hP hS => ?_)
  have hx := X.1
  have hb := X.2.1
  have hA : ∀ q, s_.heap.size ≤ q → (wl_A 18 ad s_.heap.size) q := fun q h => Or.inr h
  have hl : lv_has ls 5 [(0, .ref (ad 0)), (1, .int p), (2, .int a), (3, .int w)] := hl
  refine lv_aload_n hx hb d_Q_poke_0 rfl (lv_at hl 0 rfl) ?_
  refine lv_iload_n hx hb d_Q_poke_1 rfl (lv_at hl 1 rfl) ?_
  refine wl_goi1 (cf := qw_C cI cZ ad) (r := k_Q_isAlive S0 p) hS hA X.2.2.2.2.2.2 (wl_runV (As := [.int p]) (rest := []) X hml hl.1 hP g_TT (c_Q_isAlive hinj S0 p _) (by decide) (qw_cQ ) rfl wv_Q_105 (na := 1) (by decide +kernel) rfl ⟨Nat.le_of_ble_eq_true rfl, Nat.le_of_ble_eq_true rfl⟩ rfl (Nat.le_of_ble_eq_true rfl) d_Q_poke_2 ⟨Nat.le_refl _, Nat.le_refl _⟩) (fun r1 er1 H locs hP hS => ?_)
  refine lv_if_eq (tgt := 17) hx hb d_Q_poke_5 (by decide) (fun c2 => ?_) (fun c2 => ?_)
  · skip
    refine lv_iconst (v := -1) hx hb d_Q_poke_17 (by decide) ?_
    have hE : k_Q_poke S0 p a w = ((-1 : Int32), S0) := by
      replace er1 := er1.symm
      subst er1
      exact ((if_pos c2).trans rfl)
    rw [hE]
    exact wl_iret X hsz hr hlocks hP hS d_Q_poke_18
  · skip
    obtain ⟨hp1, hp2⟩ := qq_isAlive (fun h => c2 (er1.trans h))
    refine lv_iload_n hx hb d_Q_poke_8 rfl (lv_at hl 2 rfl) ?_
    refine lv_bipush (v := 64) hx hb d_Q_poke_9 (by decide) ?_
    refine wl_goi1 (cf := qw_C cI cZ ad) (r := k_Q_in a (64 : Int32)) hS hA X.2.2.2.2.2.2 (wl_runS (As := [.int a, .int (64 : Int32)]) (rest := []) X hml hl.1 hP g_TT (c_Q_in hinj S0 a (64 : Int32) _) wv_Q_95 (na := 2) (by decide +kernel) rfl ⟨Nat.le_of_ble_eq_true rfl, Nat.le_of_ble_eq_true rfl⟩ rfl (Nat.le_of_ble_eq_true rfl) d_Q_poke_11 ⟨Nat.le_refl _, Nat.le_refl _⟩) (fun r3 er3 H locs hP hS => ?_)
    refine lv_if_ne (tgt := 19) hx hb d_Q_poke_14 (by decide) (fun c4 => ?_) (fun c4 => ?_)
    · skip
      obtain ⟨ha1, ha2⟩ := qq_in 64 (fun h => c4 (er3.trans h)) rfl (by decide)
      refine lv_aload_n hx hb d_Q_poke_19 rfl (lv_at hl 0 rfl) ?_
      refine wl_get (v := .ref (ad 6)) X hP (i := 0) (by decide) (qw_cQ ) rfl i_Q 5 (by decide) lf_Q_25 rfl d_Q_poke_20 ?_
      refine lv_iload_n hx hb d_Q_poke_23 rfl (lv_at hl 1 rfl) ?_
      refine wl_iald X hP (i := 6) (by decide) 0 (qw_cfaults ) rfl (j := p.toNatClampNeg) hp1 (by omega) (by decide) d_Q_poke_24 ?_
      refine lv_topi (fun x5 ex5 => ?_)
      refine lv_istore (lv' := [(4, .int x5), (0, .ref (ad 0)), (1, .int p), (2, .int a), (3, .int w)]) hx hb d_Q_poke_25 hl (by decide) rfl (fun ls hl => ?_)
      refine lv_aload_n hx hb d_Q_poke_27 rfl (lv_at hl 1 rfl) ?_
      refine wl_get (v := .ref (ad 15)) X hP (i := 0) (by decide) (qw_cQ ) rfl i_Q 14 (by decide) lf_Q_53 rfl d_Q_poke_28 ?_
      refine lv_aload_n hx hb d_Q_poke_31 rfl (lv_at hl 1 rfl) ?_
      refine lv_iload_n hx hb d_Q_poke_32 rfl (lv_at hl 2 rfl) ?_
      refine lv_iload_n hx hb d_Q_poke_33 rfl (lv_at hl 3 rfl) ?_
      refine lv_iconst (v := 1) hx hb d_Q_poke_34 (by decide) ?_
      have ob6 : p_Q_reach S0 p.toNatClampNeg a.toNatClampNeg (1 : Int32) := by
        replace ex5 := ex5.symm
        subst ex5
        replace er3 := er3.symm
        subst er3
        replace er1 := er1.symm
        subst er1
        exact And.left (pp_neg c4 (pp_neg c2 hp0))
      refine wl_goi2 (cf := qw_C cI cZ ad) (res := k_Q_reach S0 p.toNatClampNeg a.toNatClampNeg (1 : Int32)) hS hA X.2.2.2.2.2.2 (wl_runV (As := [.int p, .int a, .int (1 : Int32)]) (rest := [.ref (ad 15)]) X hml hl.1 hP g_TT (c_Q_reach hinj S0 p p.toNatClampNeg hp1 (by omega) a a.toNatClampNeg ha1 (by omega) (1 : Int32) ob6 _) (by decide) (qw_cQ ) rfl wv_Q_108 (na := 3) (by decide +kernel) rfl ⟨Nat.le_of_ble_eq_true rfl, Nat.le_of_ble_eq_true rfl⟩ rfl (Nat.le_of_ble_eq_true rfl) d_Q_poke_35 ⟨Nat.le_refl _, Nat.le_refl _⟩) (fun r7 S8 er7 eS8 H locs hP hS => ?_)
      refine lv_iload_n hx hb d_Q_poke_38 rfl (lv_at hl 4 rfl) ?_
      have ob9 : in_ r7 272 := by
        replace eS8 := eS8.symm
        subst eS8
        replace er7 := er7.symm
        subst er7
        replace ex5 := ex5.symm
        subst ex5
        replace er3 := er3.symm
        subst er3
        replace er1 := er1.symm
        subst er1
        exact And.left (And.right (pp_neg c4 (pp_neg c2 hp0)))
      obtain ⟨ob9_1, ob9_2⟩ := ob9
      refine wl_iast X hP hS (i := 15) (by decide) 0 (qw_cword ) rfl (j := r7.toNatClampNeg) ob9_1 (by omega) (by decide) d_Q_poke_39 (qw_pword ) (fun H locs hP hS => ?_)
      obtain ⟨S10, eS10⟩ : ∃ z, z = qw_si S8 15 0 r7.toNatClampNeg w := ⟨_, rfl⟩
      rw [← eS10] at hP
      refine lv_aload_n hx hb d_Q_poke_40 rfl (lv_at hl 1 rfl) ?_
      refine wl_get (v := .ref (ad 6)) X hP (i := 0) (by decide) (qw_cQ ) rfl i_Q 5 (by decide) lf_Q_25 rfl d_Q_poke_41 ?_
      refine lv_iload_n hx hb d_Q_poke_44 rfl (lv_at hl 2 rfl) ?_
      refine wl_iald X hP (i := 6) (by decide) 0 (qw_cfaults ) rfl (j := p.toNatClampNeg) hp1 (by omega) (by decide) d_Q_poke_45 ?_
      refine lv_iload hx hb d_Q_poke_46 (lv_at hl 0 rfl) ?_
      refine lv_isub hx hb d_Q_poke_48 ?_
      have hE : k_Q_poke S0 p a w = ((S10.1 6 0 p.toNatClampNeg) - x5, S10) := by
        replace eS10 := eS10.symm
        subst eS10
        replace eS8 := eS8.symm
        subst eS8
        replace er7 := er7.symm
        subst er7
        replace ex5 := ex5.symm
        subst ex5
        replace er3 := er3.symm
        subst er3
        replace er1 := er1.symm
        subst er1
        exact ((if_neg c2).trans ((if_neg c4).trans rfl))
      rw [hE]
      exact wl_iret X hsz hr hlocks hP hS d_Q_poke_49
    · skip
      refine lv_iconst (v := -1) hx hb d_Q_poke_17 (by decide) ?_
      have hE : k_Q_poke S0 p a w = ((-1 : Int32), S0) := by
        replace er3 := er3.symm
        subst er3
        replace er1 := er1.symm
        subst er1
        exact ((if_neg c2).trans ((if_pos c4).trans rfl))
      rw [hE]
      exact wl_iret X hsz hr hlocks hP hS d_Q_poke_18
def k_Q_peek (S0 : qw_S) (p : Int32) (a : Int32) : Int32 :=
  let r1 := k_Q_isAlive S0 p
  if r1 = 0 then
    (-1 : Int32)
  else
    let r3 := k_Q_in a (64 : Int32)
    if r3 = 0 then
      (-1 : Int32)
    else
      if 0 ≤ (qw_pg (S0.2 9 0 ((8 * p.toNatClampNeg) + (a.toNatClampNeg / 8)))) then
        S0.1 15 0 ((8 * (S0.2 9 0 ((8 * p.toNatClampNeg) + (a.toNatClampNeg / 8)))) + (a.toNatClampNeg % 8))
      else
        (0 : Int32)
set_option maxHeartbeats 4000000 in
set_option maxRecDepth 100000 in
theorem c_Q_peek {l : Launch} {D : va_G} {cI cZ : ClassId} {ad : Nat → Nat} (hinj : wl_inj 18 ad) (S0 : qw_S) (p : Int32) (a : Int32) : wl_Mi l y_Q_peek (Cond.code y_Q_peek b_Q_peek 4 (some .int) :: TT) (rm_ 3) D classes (qw_ty cI cZ) 18 ad [.ref (ad 0), .int p, .int a] (qw_C cI cZ ad S0) (k_Q_peek S0 p a) (qw_C cI cZ ad S0) := by
  intro sz
  refine wl_enter (own := R_Q) rfl (by decide) (Nat.le_of_ble_eq_true rfl) hinj (fun p_ e_ s_ m_ below meth c_ ls hsz X hml hr hlocks hl hP hS => ?_)
  have hx := X.1
  have hb := X.2.1
  have hA : ∀ q, s_.heap.size ≤ q → (wl_A 18 ad s_.heap.size) q := fun q h => Or.inr h
  have hl : lv_has ls 4 [(0, .ref (ad 0)), (1, .int p), (2, .int a)] := hl
  refine lv_aload_n hx hb d_Q_peek_0 rfl (lv_at hl 0 rfl) ?_
  refine lv_iload_n hx hb d_Q_peek_1 rfl (lv_at hl 1 rfl) ?_
  refine wl_goi1 (cf := qw_C cI cZ ad) (r := k_Q_isAlive S0 p) hS hA X.2.2.2.2.2.2 (wl_runV (As := [.int p]) (rest := []) X hml hl.1 hP g_TT (c_Q_isAlive hinj S0 p _) (by decide) (qw_cQ ) rfl wv_Q_105 (na := 1) (by decide +kernel) rfl ⟨Nat.le_of_ble_eq_true rfl, Nat.le_of_ble_eq_true rfl⟩ rfl (Nat.le_of_ble_eq_true rfl) d_Q_peek_2 ⟨Nat.le_refl _, Nat.le_refl _⟩) (fun r1 er1 H locs hP hS => ?_)
  refine lv_if_eq (tgt := 17) hx hb d_Q_peek_5 (by decide) (fun c2 => ?_) (fun c2 => ?_)
  · skip
    refine lv_iconst (v := -1) hx hb d_Q_peek_17 (by decide) ?_
    have hE : k_Q_peek S0 p a = (-1 : Int32) := by
      replace er1 := er1.symm
      subst er1
      exact ((if_pos c2).trans rfl)
    rw [hE]
    exact wl_iret X hsz hr hlocks hP hS d_Q_peek_18
  · skip
    obtain ⟨hp1, hp2⟩ := qq_isAlive (fun h => c2 (er1.trans h))
    refine lv_iload_n hx hb d_Q_peek_8 rfl (lv_at hl 2 rfl) ?_
    refine lv_bipush (v := 64) hx hb d_Q_peek_9 (by decide) ?_
    refine wl_goi1 (cf := qw_C cI cZ ad) (r := k_Q_in a (64 : Int32)) hS hA X.2.2.2.2.2.2 (wl_runS (As := [.int a, .int (64 : Int32)]) (rest := []) X hml hl.1 hP g_TT (c_Q_in hinj S0 a (64 : Int32) _) wv_Q_95 (na := 2) (by decide +kernel) rfl ⟨Nat.le_of_ble_eq_true rfl, Nat.le_of_ble_eq_true rfl⟩ rfl (Nat.le_of_ble_eq_true rfl) d_Q_peek_11 ⟨Nat.le_refl _, Nat.le_refl _⟩) (fun r3 er3 H locs hP hS => ?_)
    refine lv_if_ne (tgt := 19) hx hb d_Q_peek_14 (by decide) (fun c4 => ?_) (fun c4 => ?_)
    · skip
      obtain ⟨ha1, ha2⟩ := qq_in 64 (fun h => c4 (er3.trans h)) rfl (by decide)
      refine lv_aload_n hx hb d_Q_peek_19 rfl (lv_at hl 0 rfl) ?_
      refine wl_get (v := .ref (ad 9)) X hP (i := 0) (by decide) (qw_cQ ) rfl i_Q 8 (by decide) lf_Q_34 rfl d_Q_peek_20 ?_
      refine lv_bipush (v := 8) hx hb d_Q_peek_23 (by decide) ?_
      refine lv_iload_n hx hb d_Q_peek_25 rfl (lv_at hl 1 rfl) ?_
      refine lv_imul hx hb d_Q_peek_26 ?_
      refine lv_iload_n hx hb d_Q_peek_27 rfl (lv_at hl 2 rfl) ?_
      refine lv_bipush (v := 8) hx hb d_Q_peek_28 (by decide) ?_
      refine lv_idiv hx hb d_Q_peek_30 (by decide) ?_
      refine lv_iadd hx hb d_Q_peek_31 ?_
      refine wl_iald X hP (i := 9) (by decide) 0 (qw_cpage ) rfl (j := ((8 * p.toNatClampNeg) + (a.toNatClampNeg / 8))) ((congr (congrArg (fun (a b : Int32) => a + b) (show (8 : Int32) * p = nI (8 * p.toNatClampNeg) from ((congr (congrArg (fun (a b : Int32) => a * b) (show (8 : Int32) = nI 8 from rfl)) (show p = nI p.toNatClampNeg from hp1)).trans (pk_mul 8 p.toNatClampNeg)))) (show a / (8 : Int32) = nI (a.toNatClampNeg / 8) from ((congr (congrArg (fun (a b : Int32) => a / b) (show a = nI a.toNatClampNeg from ha1)) (show (8 : Int32) = nI 8 from rfl)).trans (pk_div (a := a.toNatClampNeg) (d := 8) (by omega) (by omega) (by omega))))).trans (nI_add (8 * p.toNatClampNeg) (a.toNatClampNeg / 8))) (by omega) (by decide) d_Q_peek_32 ?_
      refine lv_istore_n (lv' := [(3, .int (qw_pg (S0.2 9 0 ((8 * p.toNatClampNeg) + (a.toNatClampNeg / 8))))), (0, .ref (ad 0)), (1, .int p), (2, .int a)]) hx hb d_Q_peek_33 rfl hl (by decide) rfl (fun ls hl => ?_)
      refine lv_iload_n hx hb d_Q_peek_34 rfl (lv_at hl 0 rfl) ?_
      refine lv_if_ge (tgt := 42) hx hb d_Q_peek_35 (by decide) (fun c5 => ?_) (fun c5 => ?_)
      · skip
        obtain ⟨hs1, hs2⟩ := qw_pg_ge c5
        refine lv_aload_n hx hb d_Q_peek_42 rfl (lv_at hl 1 rfl) ?_
        refine wl_get (v := .ref (ad 15)) X hP (i := 0) (by decide) (qw_cQ ) rfl i_Q 14 (by decide) lf_Q_53 rfl d_Q_peek_43 ?_
        refine lv_bipush (v := 8) hx hb d_Q_peek_46 (by decide) ?_
        refine lv_iload_n hx hb d_Q_peek_48 rfl (lv_at hl 0 rfl) ?_
        refine lv_imul hx hb d_Q_peek_49 ?_
        refine lv_iload_n hx hb d_Q_peek_50 rfl (lv_at hl 3 rfl) ?_
        refine lv_bipush (v := 8) hx hb d_Q_peek_51 (by decide) ?_
        refine lv_irem hx hb d_Q_peek_53 (by decide) ?_
        refine lv_iadd hx hb d_Q_peek_54 ?_
        refine wl_iald X hP (i := 15) (by decide) 0 (qw_cword ) rfl (j := ((8 * (S0.2 9 0 ((8 * p.toNatClampNeg) + (a.toNatClampNeg / 8)))) + (a.toNatClampNeg % 8))) ((congr (congrArg (fun (a b : Int32) => a + b) (show (8 : Int32) * (qw_pg (S0.2 9 0 ((8 * p.toNatClampNeg) + (a.toNatClampNeg / 8)))) = nI (8 * (S0.2 9 0 ((8 * p.toNatClampNeg) + (a.toNatClampNeg / 8)))) from ((congr (congrArg (fun (a b : Int32) => a * b) (show (8 : Int32) = nI 8 from rfl)) (show qw_pg (S0.2 9 0 ((8 * p.toNatClampNeg) + (a.toNatClampNeg / 8))) = nI (S0.2 9 0 ((8 * p.toNatClampNeg) + (a.toNatClampNeg / 8))) from hs1)).trans (pk_mul 8 (S0.2 9 0 ((8 * p.toNatClampNeg) + (a.toNatClampNeg / 8))))))) (show a - a / (8 : Int32) * (8 : Int32) = nI (a.toNatClampNeg % 8) from ((congr (congrArg (fun (a b : Int32) => a - a / b * b) (show a = nI a.toNatClampNeg from ha1)) (show (8 : Int32) = nI 8 from rfl)).trans (pk_rem (a := a.toNatClampNeg) (d := 8) (by omega) (by omega) (by omega))))).trans (nI_add (8 * (S0.2 9 0 ((8 * p.toNatClampNeg) + (a.toNatClampNeg / 8)))) (a.toNatClampNeg % 8))) (by omega) (by decide) d_Q_peek_55 ?_
        have hE : k_Q_peek S0 p a = S0.1 15 0 ((8 * (S0.2 9 0 ((8 * p.toNatClampNeg) + (a.toNatClampNeg / 8)))) + (a.toNatClampNeg % 8)) := by
          replace er3 := er3.symm
          subst er3
          replace er1 := er1.symm
          subst er1
          exact ((if_neg c2).trans ((if_neg c4).trans ((if_pos c5).trans rfl)))
        rw [hE]
        exact wl_iret X hsz hr hlocks hP hS d_Q_peek_56
      · skip
        refine lv_iconst (v := 0) hx hb d_Q_peek_38 (by decide) ?_
        refine lv_goto (tgt := 56) hx hb d_Q_peek_39 (by decide) ?_
        have hE : k_Q_peek S0 p a = (0 : Int32) := by
          replace er3 := er3.symm
          subst er3
          replace er1 := er1.symm
          subst er1
          exact ((if_neg c2).trans ((if_neg c4).trans ((if_neg c5).trans rfl)))
        rw [hE]
        exact wl_iret X hsz hr hlocks hP hS d_Q_peek_56
    · skip
      refine lv_iconst (v := -1) hx hb d_Q_peek_17 (by decide) ?_
      have hE : k_Q_peek S0 p a = (-1 : Int32) := by
        replace er3 := er3.symm
        subst er3
        replace er1 := er1.symm
        subst er1
        exact ((if_neg c2).trans ((if_pos c4).trans rfl))
      rw [hE]
      exact wl_iret X hsz hr hlocks hP hS d_Q_peek_18
def k_Q_ends_L29 : Nat → Nat → Nat → Int32 → qw_S → qw_S
  | 0, i, p, x, S0 =>
    let S2 := qw_si S0 1 0 p (4 : Int32)
    let S3 := qw_si S2 4 0 p x
    if 0 ≤ (qw_pa (S3.2 3 0 p)) then
      if (S3.1 1 0 (S3.2 3 0 p)) = (3 : Int32) then
        let S6 := qw_si S3 1 0 (S3.2 3 0 p) (1 : Int32)
        S6
      else
        S3
    else
      let S7 := qw_si S3 1 0 p (0 : Int32)
      S7
  | i_n + 1, i, p, x, S0 =>
    if (S0.1 1 0 i) = 0 then
      k_Q_ends_L29 i_n (i + 1) p x S0
    else
      if (qw_pa (S0.2 3 0 i)) = (nI p) then
        let S104 := qw_sn S0 3 0 i 4
        if (S104.1 1 0 i) = (4 : Int32) then
          let S106 := qw_si S104 1 0 i (0 : Int32)
          k_Q_ends_L29 i_n (i + 1) p x S106
        else
          k_Q_ends_L29 i_n (i + 1) p x S104
      else
        k_Q_ends_L29 i_n (i + 1) p x S0
set_option maxHeartbeats 4000000 in
set_option maxRecDepth 100000 in
theorem c_Q_ends_L29 {l : Launch} {D : va_G} {cI cZ : ClassId} {ad : Nat → Nat} {p_ : Program} {e_ : Env} {s_ : State} {m_ : MethodId} {args : Array Value} {below : List Frame} {meth : Method} {c_ : Code} {sz : Nat} (hinj : wl_inj 18 ad) (X : wl_X p_ s_ m_ args c_ b_Q_ends R_Q TT D classes (qw_ty cI cZ) 18 ad (wl_A 18 ad s_.heap.size)) (hsz : s_.heap.size = sz) (hml : c_.maxLocals = 4) (hr : meth.sig.returnType = none) (hlocks : meth.locks = false) :
    ∀ (i_n i : Nat) (x_p : Int32) (p : Nat) (e_p : x_p = nI p) (h_p : p < 4) (x : Int32) (S0 : qw_S) (h_i : i + i_n = 4) (H : Heap) (locs : List Loc) (ls : Array Slot), lv_has ls 4 [(0, .ref (ad 0)), (1, .int x_p), (2, .int x), (3, .int (nI i))] → va_P D classes (wl_W 18 ad (qw_C cI cZ ad S0)) H → va_S (wl_A 18 ad s_.heap.size) s_.heap H locs → W p_ l e_ (rm_ 2) s_ m_ args below meth c_ H locs 0 0 (MQ below (wl_Qv D classes (qw_ty cI cZ) 18 ad (qw_C cI cZ ad (k_Q_ends_L29 i_n i p x S0)) sz) args s_ 0 0 (wl_A 18 ad sz)) (F0 m_ 29 ls []) := by
  have hx := X.1
  have hb := X.2.1
  have hA : ∀ q, s_.heap.size ≤ q → (wl_A 18 ad s_.heap.size) q := fun q h => Or.inr h
  intro i_n
  induction i_n with
  | zero =>
    intro i x_p p e_p h_p x S0 h_i H locs ls hl hP hS
    subst e_p
    refine lv_iload_n hx hb d_Q_ends_29 rfl (lv_at hl 3 rfl) ?_
    refine lv_iconst (v := 4) hx hb d_Q_ends_30 (by decide) ?_
    refine lv_icmp_ge (tgt := 87) hx hb d_Q_ends_31 (by decide) (fun c1 => ?_) (fun c1 => ?_)
    · skip
      refine lv_aload_n hx hb d_Q_ends_87 rfl (lv_at hl 0 rfl) ?_
      refine wl_get (v := .ref (ad 1)) X hP (i := 0) (by decide) (qw_cQ ) rfl i_Q 0 (by decide) lf_Q_7 rfl d_Q_ends_88 ?_
      refine lv_iload_n hx hb d_Q_ends_91 rfl (lv_at hl 1 rfl) ?_
      refine lv_iconst (v := 4) hx hb d_Q_ends_92 (by decide) ?_
      refine wl_iast X hP hS (i := 1) (by decide) 0 (qw_cstate ) rfl (j := p) rfl (by omega) (by decide) d_Q_ends_93 (qw_pstate ) (fun H locs hP hS => ?_)
      obtain ⟨S2, eS2⟩ : ∃ z, z = qw_si S0 1 0 p (4 : Int32) := ⟨_, rfl⟩
      rw [← eS2] at hP
      refine lv_aload_n hx hb d_Q_ends_94 rfl (lv_at hl 0 rfl) ?_
      refine wl_get (v := .ref (ad 4)) X hP (i := 0) (by decide) (qw_cQ ) rfl i_Q 3 (by decide) lf_Q_19 rfl d_Q_ends_95 ?_
      refine lv_iload_n hx hb d_Q_ends_98 rfl (lv_at hl 1 rfl) ?_
      refine lv_iload_n hx hb d_Q_ends_99 rfl (lv_at hl 2 rfl) ?_
      refine wl_iast X hP hS (i := 4) (by decide) 0 (qw_ccode ) rfl (j := p) rfl (by omega) (by decide) d_Q_ends_100 (qw_pcode ) (fun H locs hP hS => ?_)
      obtain ⟨S3, eS3⟩ : ∃ z, z = qw_si S2 4 0 p x := ⟨_, rfl⟩
      rw [← eS3] at hP
      refine lv_aload_n hx hb d_Q_ends_101 rfl (lv_at hl 0 rfl) ?_
      refine wl_get (v := .ref (ad 3)) X hP (i := 0) (by decide) (qw_cQ ) rfl i_Q 2 (by decide) lf_Q_16 rfl d_Q_ends_102 ?_
      refine lv_iload_n hx hb d_Q_ends_105 rfl (lv_at hl 1 rfl) ?_
      refine wl_iald X hP (i := 3) (by decide) 0 (qw_cparent ) rfl (j := p) rfl (by omega) (by decide) d_Q_ends_106 ?_
      refine lv_if_ge (tgt := 120) hx hb d_Q_ends_107 (by decide) (fun c4 => ?_) (fun c4 => ?_)
      · skip
        refine lv_aload_n hx hb d_Q_ends_120 rfl (lv_at hl 0 rfl) ?_
        refine wl_get (v := .ref (ad 1)) X hP (i := 0) (by decide) (qw_cQ ) rfl i_Q 0 (by decide) lf_Q_7 rfl d_Q_ends_121 ?_
        refine lv_aload_n hx hb d_Q_ends_124 rfl (lv_at hl 0 rfl) ?_
        refine wl_get (v := .ref (ad 3)) X hP (i := 0) (by decide) (qw_cQ ) rfl i_Q 2 (by decide) lf_Q_16 rfl d_Q_ends_125 ?_
        refine lv_iload_n hx hb d_Q_ends_128 rfl (lv_at hl 1 rfl) ?_
        refine wl_iald X hP (i := 3) (by decide) 0 (qw_cparent ) rfl (j := p) rfl (by omega) (by decide) d_Q_ends_129 ?_
        refine wl_iald X hP (i := 1) (by decide) 0 (qw_cstate ) rfl (j := (S3.2 3 0 p)) (qw_pa_ge c4).1 (qw_pa_ge c4).2 (by decide) d_Q_ends_130 ?_
        refine lv_iconst (v := 3) hx hb d_Q_ends_131 (by decide) ?_
        refine lv_icmp_ne (tgt := 147) hx hb d_Q_ends_132 (by decide) (fun c5 => ?_) (fun c5 => ?_)
        · skip
          have hE : k_Q_ends_L29 0 i p x S0 = S3 := by
            replace eS3 := eS3.symm
            subst eS3
            replace eS2 := eS2.symm
            subst eS2
            exact ((if_pos c4).trans ((if_neg c5).trans rfl))
          rw [hE]
          exact wl_vret X hsz hr hlocks hP hS d_Q_ends_147
        · skip
          refine lv_aload_n hx hb d_Q_ends_135 rfl (lv_at hl 0 rfl) ?_
          refine wl_get (v := .ref (ad 1)) X hP (i := 0) (by decide) (qw_cQ ) rfl i_Q 0 (by decide) lf_Q_7 rfl d_Q_ends_136 ?_
          refine lv_aload_n hx hb d_Q_ends_139 rfl (lv_at hl 0 rfl) ?_
          refine wl_get (v := .ref (ad 3)) X hP (i := 0) (by decide) (qw_cQ ) rfl i_Q 2 (by decide) lf_Q_16 rfl d_Q_ends_140 ?_
          refine lv_iload_n hx hb d_Q_ends_143 rfl (lv_at hl 1 rfl) ?_
          refine wl_iald X hP (i := 3) (by decide) 0 (qw_cparent ) rfl (j := p) rfl (by omega) (by decide) d_Q_ends_144 ?_
          refine lv_iconst (v := 1) hx hb d_Q_ends_145 (by decide) ?_
          refine wl_iast X hP hS (i := 1) (by decide) 0 (qw_cstate ) rfl (j := (S3.2 3 0 p)) (qw_pa_ge c4).1 (qw_pa_ge c4).2 (by decide) d_Q_ends_146 (qw_pstate ) (fun H locs hP hS => ?_)
          obtain ⟨S6, eS6⟩ : ∃ z, z = qw_si S3 1 0 (S3.2 3 0 p) (1 : Int32) := ⟨_, rfl⟩
          rw [← eS6] at hP
          have hE : k_Q_ends_L29 0 i p x S0 = S6 := by
            replace eS6 := eS6.symm
            subst eS6
            replace eS3 := eS3.symm
            subst eS3
            replace eS2 := eS2.symm
            subst eS2
            exact ((if_pos c4).trans ((if_pos c5).trans rfl))
          rw [hE]
          exact wl_vret X hsz hr hlocks hP hS d_Q_ends_147
      · skip
        refine lv_aload_n hx hb d_Q_ends_110 rfl (lv_at hl 0 rfl) ?_
        refine wl_get (v := .ref (ad 1)) X hP (i := 0) (by decide) (qw_cQ ) rfl i_Q 0 (by decide) lf_Q_7 rfl d_Q_ends_111 ?_
        refine lv_iload_n hx hb d_Q_ends_114 rfl (lv_at hl 1 rfl) ?_
        refine lv_iconst (v := 0) hx hb d_Q_ends_115 (by decide) ?_
        refine wl_iast X hP hS (i := 1) (by decide) 0 (qw_cstate ) rfl (j := p) rfl (by omega) (by decide) d_Q_ends_116 (qw_pstate ) (fun H locs hP hS => ?_)
        obtain ⟨S7, eS7⟩ : ∃ z, z = qw_si S3 1 0 p (0 : Int32) := ⟨_, rfl⟩
        rw [← eS7] at hP
        refine lv_goto (tgt := 147) hx hb d_Q_ends_117 (by decide) ?_
        have hE : k_Q_ends_L29 0 i p x S0 = S7 := by
          replace eS7 := eS7.symm
          subst eS7
          replace eS3 := eS3.symm
          subst eS3
          replace eS2 := eS2.symm
          subst eS2
          exact ((if_neg c4).trans rfl)
        rw [hE]
        exact wl_vret X hsz hr hlocks hP hS d_Q_ends_147
    · exact absurd (sk_lhz h_i) c1
  | succ i_n ih =>
    intro i x_p p e_p h_p x S0 h_i H locs ls hl hP hS
    subst e_p
    refine lv_iload_n hx hb d_Q_ends_29 rfl (lv_at hl 3 rfl) ?_
    refine lv_iconst (v := 4) hx hb d_Q_ends_30 (by decide) ?_
    refine lv_icmp_ge (tgt := 87) hx hb d_Q_ends_31 (by decide) (fun c101 => ?_) (fun c101 => ?_)
    · exact absurd c101 (sk_lhs h_i)
    · skip
      refine lv_aload_n hx hb d_Q_ends_34 rfl (lv_at hl 0 rfl) ?_
      refine wl_get (v := .ref (ad 1)) X hP (i := 0) (by decide) (qw_cQ ) rfl i_Q 0 (by decide) lf_Q_7 rfl d_Q_ends_35 ?_
      refine lv_iload_n hx hb d_Q_ends_38 rfl (lv_at hl 3 rfl) ?_
      refine wl_iald X hP (i := 1) (by decide) 0 (qw_cstate ) rfl (j := i) rfl (by omega) (by decide) d_Q_ends_39 ?_
      refine lv_if_eq (tgt := 81) hx hb d_Q_ends_40 (by decide) (fun c102 => ?_) (fun c102 => ?_)
      · skip
        refine lv_iinc (v := nI (i + 1)) (lv' := [(3, .int (nI (i + 1))), (0, .ref (ad 0)), (1, .int (nI p)), (2, .int x)]) hx hb d_Q_ends_81 hl (k := 3) rfl (nI_1 _) (by decide) rfl (fun ls hl => ?_)
        refine lv_goto (tgt := 29) hx hb d_Q_ends_84 (by decide) ?_
        have hE : k_Q_ends_L29 (i_n + 1) i p x S0 = k_Q_ends_L29 i_n (i + 1) p x S0 := by
          exact ((if_pos c102).trans rfl)
        rw [hE]
        exact ih (i + 1) (nI p) p rfl (by omega) x S0 (by omega) _ _ _ (lv_sub hl [1, 2, 3, 0] rfl) hP hS
      · skip
        refine lv_aload_n hx hb d_Q_ends_43 rfl (lv_at hl 0 rfl) ?_
        refine wl_get (v := .ref (ad 3)) X hP (i := 0) (by decide) (qw_cQ ) rfl i_Q 2 (by decide) lf_Q_16 rfl d_Q_ends_44 ?_
        refine lv_iload_n hx hb d_Q_ends_47 rfl (lv_at hl 3 rfl) ?_
        refine wl_iald X hP (i := 3) (by decide) 0 (qw_cparent ) rfl (j := i) rfl (by omega) (by decide) d_Q_ends_48 ?_
        refine lv_iload_n hx hb d_Q_ends_49 rfl (lv_at hl 1 rfl) ?_
        refine lv_icmp_eq (tgt := 56) hx hb d_Q_ends_50 (by decide) (fun c103 => ?_) (fun c103 => ?_)
        · skip
          refine lv_aload_n hx hb d_Q_ends_56 rfl (lv_at hl 0 rfl) ?_
          refine wl_get (v := .ref (ad 3)) X hP (i := 0) (by decide) (qw_cQ ) rfl i_Q 2 (by decide) lf_Q_16 rfl d_Q_ends_57 ?_
          refine lv_iload_n hx hb d_Q_ends_60 rfl (lv_at hl 3 rfl) ?_
          refine lv_bipush (v := -2) hx hb d_Q_ends_61 (by decide) ?_
          refine wl_iast X hP hS (i := 3) (by decide) 0 (qw_cparent ) rfl (j := i) rfl (by omega) (by decide) d_Q_ends_63 (qw_pparent (x := 4)  (by decide)) (fun H locs hP hS => ?_)
          obtain ⟨S104, eS104⟩ : ∃ z, z = qw_sn S0 3 0 i 4 := ⟨_, rfl⟩
          rw [← eS104] at hP
          refine lv_aload_n hx hb d_Q_ends_64 rfl (lv_at hl 0 rfl) ?_
          refine wl_get (v := .ref (ad 1)) X hP (i := 0) (by decide) (qw_cQ ) rfl i_Q 0 (by decide) lf_Q_7 rfl d_Q_ends_65 ?_
          refine lv_iload_n hx hb d_Q_ends_68 rfl (lv_at hl 3 rfl) ?_
          refine wl_iald X hP (i := 1) (by decide) 0 (qw_cstate ) rfl (j := i) rfl (by omega) (by decide) d_Q_ends_69 ?_
          refine lv_iconst (v := 4) hx hb d_Q_ends_70 (by decide) ?_
          refine lv_icmp_ne (tgt := 81) hx hb d_Q_ends_71 (by decide) (fun c105 => ?_) (fun c105 => ?_)
          · skip
            refine lv_iinc (v := nI (i + 1)) (lv' := [(3, .int (nI (i + 1))), (0, .ref (ad 0)), (1, .int (nI p)), (2, .int x)]) hx hb d_Q_ends_81 hl (k := 3) rfl (nI_1 _) (by decide) rfl (fun ls hl => ?_)
            refine lv_goto (tgt := 29) hx hb d_Q_ends_84 (by decide) ?_
            have hE : k_Q_ends_L29 (i_n + 1) i p x S0 = k_Q_ends_L29 i_n (i + 1) p x S104 := by
              replace eS104 := eS104.symm
              subst eS104
              exact ((if_neg c102).trans ((if_pos c103).trans ((if_neg c105).trans rfl)))
            rw [hE]
            exact ih (i + 1) (nI p) p rfl (by omega) x S104 (by omega) _ _ _ (lv_sub hl [1, 2, 3, 0] rfl) hP hS
          · skip
            refine lv_aload_n hx hb d_Q_ends_74 rfl (lv_at hl 0 rfl) ?_
            refine wl_get (v := .ref (ad 1)) X hP (i := 0) (by decide) (qw_cQ ) rfl i_Q 0 (by decide) lf_Q_7 rfl d_Q_ends_75 ?_
            refine lv_iload_n hx hb d_Q_ends_78 rfl (lv_at hl 3 rfl) ?_
            refine lv_iconst (v := 0) hx hb d_Q_ends_79 (by decide) ?_
            refine wl_iast X hP hS (i := 1) (by decide) 0 (qw_cstate ) rfl (j := i) rfl (by omega) (by decide) d_Q_ends_80 (qw_pstate ) (fun H locs hP hS => ?_)
            obtain ⟨S106, eS106⟩ : ∃ z, z = qw_si S104 1 0 i (0 : Int32) := ⟨_, rfl⟩
            rw [← eS106] at hP
            refine lv_iinc (v := nI (i + 1)) (lv' := [(3, .int (nI (i + 1))), (0, .ref (ad 0)), (1, .int (nI p)), (2, .int x)]) hx hb d_Q_ends_81 hl (k := 3) rfl (nI_1 _) (by decide) rfl (fun ls hl => ?_)
            refine lv_goto (tgt := 29) hx hb d_Q_ends_84 (by decide) ?_
            have hE : k_Q_ends_L29 (i_n + 1) i p x S0 = k_Q_ends_L29 i_n (i + 1) p x S106 := by
              replace eS106 := eS106.symm
              subst eS106
              replace eS104 := eS104.symm
              subst eS104
              exact ((if_neg c102).trans ((if_pos c103).trans ((if_pos c105).trans rfl)))
            rw [hE]
            exact ih (i + 1) (nI p) p rfl (by omega) x S106 (by omega) _ _ _ (lv_sub hl [1, 2, 3, 0] rfl) hP hS
        · skip
          refine lv_goto (tgt := 81) hx hb d_Q_ends_53 (by decide) ?_
          refine lv_iinc (v := nI (i + 1)) (lv' := [(3, .int (nI (i + 1))), (0, .ref (ad 0)), (1, .int (nI p)), (2, .int x)]) hx hb d_Q_ends_81 hl (k := 3) rfl (nI_1 _) (by decide) rfl (fun ls hl => ?_)
          refine lv_goto (tgt := 29) hx hb d_Q_ends_84 (by decide) ?_
          have hE : k_Q_ends_L29 (i_n + 1) i p x S0 = k_Q_ends_L29 i_n (i + 1) p x S0 := by
            exact ((if_neg c102).trans ((if_neg c103).trans rfl))
          rw [hE]
          exact ih (i + 1) (nI p) p rfl (by omega) x S0 (by omega) _ _ _ (lv_sub hl [1, 2, 3, 0] rfl) hP hS
def k_Q_ends_L5 : Nat → Nat → Nat → Int32 → qw_S → qw_S
  | 0, i, p, x, S0 =>
    k_Q_ends_L29 4 0 p x S0
  | i_n + 1, i, p, x, S0 =>
    let S102 := k_Q_let S0 i
    k_Q_ends_L5 i_n (i + 1) p x S102
set_option maxHeartbeats 4000000 in
set_option maxRecDepth 100000 in
theorem c_Q_ends_L5 {l : Launch} {D : va_G} {cI cZ : ClassId} {ad : Nat → Nat} {p_ : Program} {e_ : Env} {s_ : State} {m_ : MethodId} {args : Array Value} {below : List Frame} {meth : Method} {c_ : Code} {sz : Nat} (hinj : wl_inj 18 ad) (X : wl_X p_ s_ m_ args c_ b_Q_ends R_Q TT D classes (qw_ty cI cZ) 18 ad (wl_A 18 ad s_.heap.size)) (hsz : s_.heap.size = sz) (hml : c_.maxLocals = 4) (hr : meth.sig.returnType = none) (hlocks : meth.locks = false) :
    ∀ (i_n i : Nat) (x_p : Int32) (p : Nat) (e_p : x_p = nI p) (h_p : p < 4) (x : Int32) (S0 : qw_S) (h_i : i + i_n = 8 * p + 8) (H : Heap) (locs : List Loc) (ls : Array Slot), lv_has ls 4 [(0, .ref (ad 0)), (1, .int x_p), (2, .int x), (3, .int (nI i))] → va_P D classes (wl_W 18 ad (qw_C cI cZ ad S0)) H → va_S (wl_A 18 ad s_.heap.size) s_.heap H locs → W p_ l e_ (rm_ 2) s_ m_ args below meth c_ H locs 0 0 (MQ below (wl_Qv D classes (qw_ty cI cZ) 18 ad (qw_C cI cZ ad (k_Q_ends_L5 i_n i p x S0)) sz) args s_ 0 0 (wl_A 18 ad sz)) (F0 m_ 5 ls []) := by
  have hx := X.1
  have hb := X.2.1
  have hA : ∀ q, s_.heap.size ≤ q → (wl_A 18 ad s_.heap.size) q := fun q h => Or.inr h
  intro i_n
  induction i_n with
  | zero =>
    intro i x_p p e_p h_p x S0 h_i H locs ls hl hP hS
    subst e_p
    refine lv_iload_n hx hb d_Q_ends_5 rfl (lv_at hl 3 rfl) ?_
    refine lv_bipush (v := 8) hx hb d_Q_ends_6 (by decide) ?_
    refine lv_iload_n hx hb d_Q_ends_8 rfl (lv_at hl 1 rfl) ?_
    refine lv_imul hx hb d_Q_ends_9 ?_
    refine lv_bipush (v := 8) hx hb d_Q_ends_10 (by decide) ?_
    refine lv_iadd hx hb d_Q_ends_12 ?_
    refine wl_top (y := nI ((8 * p) + 8)) ((congr (congrArg (fun (a b : Int32) => a + b) (show (8 : Int32) * (nI p) = nI (8 * p) from (show (8 : Int32) * (nI p) = nI (8 * p) from pk_mul 8 p))) (show (8 : Int32) = nI 8 from rfl)).trans (nI_add (8 * p) 8)) ?_
    refine lv_icmp_ge (tgt := 27) hx hb d_Q_ends_13 (by decide) (fun c1 => ?_) (fun c1 => ?_)
    · skip
      refine lv_iconst (v := 0) hx hb d_Q_ends_27 (by decide) ?_
      refine lv_istore_n (lv' := [(3, .int (0 : Int32)), (0, .ref (ad 0)), (1, .int (nI p)), (2, .int x)]) hx hb d_Q_ends_28 rfl hl (by decide) rfl (fun ls hl => ?_)
      have hE : k_Q_ends_L5 0 i p x S0 = k_Q_ends_L29 4 0 p x S0 := by
        exact rfl
      rw [hE]
      exact c_Q_ends_L29 hinj X hsz hml hr hlocks 4 0 (nI p) p rfl (by omega) x S0 (by omega) _ _ _ (lv_sub hl [1, 2, 3, 0] rfl) hP hS
    · exact absurd (sk_lhz h_i (by omega)) c1
  | succ i_n ih =>
    intro i x_p p e_p h_p x S0 h_i H locs ls hl hP hS
    subst e_p
    refine lv_iload_n hx hb d_Q_ends_5 rfl (lv_at hl 3 rfl) ?_
    refine lv_bipush (v := 8) hx hb d_Q_ends_6 (by decide) ?_
    refine lv_iload_n hx hb d_Q_ends_8 rfl (lv_at hl 1 rfl) ?_
    refine lv_imul hx hb d_Q_ends_9 ?_
    refine lv_bipush (v := 8) hx hb d_Q_ends_10 (by decide) ?_
    refine lv_iadd hx hb d_Q_ends_12 ?_
    refine wl_top (y := nI ((8 * p) + 8)) ((congr (congrArg (fun (a b : Int32) => a + b) (show (8 : Int32) * (nI p) = nI (8 * p) from (show (8 : Int32) * (nI p) = nI (8 * p) from pk_mul 8 p))) (show (8 : Int32) = nI 8 from rfl)).trans (nI_add (8 * p) 8)) ?_
    refine lv_icmp_ge (tgt := 27) hx hb d_Q_ends_13 (by decide) (fun c101 => ?_) (fun c101 => ?_)
    · exact absurd c101 (sk_lhs h_i (by omega))
    · skip
      refine lv_aload_n hx hb d_Q_ends_16 rfl (lv_at hl 0 rfl) ?_
      refine lv_iload_n hx hb d_Q_ends_17 rfl (lv_at hl 3 rfl) ?_
      refine wl_gov2 (cf := qw_C cI cZ ad) (S2 := k_Q_let S0 i) hS hA X.2.2.2.2.2.2 (wl_runV (As := [.int (nI i)]) (rest := []) X hml hl.1 hP g_TT (c_Q_let hinj S0 (nI i) i rfl (by omega) _) (by decide) (qw_cQ ) rfl wv_Q_112 (na := 1) (by decide +kernel) rfl ⟨Nat.le_of_ble_eq_true rfl, Nat.le_of_ble_eq_true rfl⟩ rfl (Nat.le_of_ble_eq_true rfl) d_Q_ends_18 ⟨Nat.le_refl _, Nat.le_refl _⟩) (fun S102 eS102 H locs hP hS => ?_)
      refine lv_iinc (v := nI (i + 1)) (lv' := [(3, .int (nI (i + 1))), (0, .ref (ad 0)), (1, .int (nI p)), (2, .int x)]) hx hb d_Q_ends_21 hl (k := 3) rfl (nI_1 _) (by decide) rfl (fun ls hl => ?_)
      refine lv_goto (tgt := 5) hx hb d_Q_ends_24 (by decide) ?_
      have hE : k_Q_ends_L5 (i_n + 1) i p x S0 = k_Q_ends_L5 i_n (i + 1) p x S102 := by
        replace eS102 := eS102.symm
        subst eS102
        exact rfl
      rw [hE]
      exact ih (i + 1) (nI p) p rfl (by omega) x S102 (by omega) _ _ _ (lv_sub hl [1, 2, 3, 0] rfl) hP hS
def k_Q_ends (S0 : qw_S) (p : Nat) (x : Int32) : qw_S :=
  k_Q_ends_L5 8 (8 * p) p x S0
set_option maxHeartbeats 4000000 in
set_option maxRecDepth 100000 in
theorem c_Q_ends {l : Launch} {D : va_G} {cI cZ : ClassId} {ad : Nat → Nat} (hinj : wl_inj 18 ad) (S0 : qw_S) (x_p : Int32) (p : Nat) (e_p : x_p = nI p) (h_p : p < 4) (x : Int32) : wl_Mv l y_Q_ends (Cond.code y_Q_ends b_Q_ends 4 none :: TT) (rm_ 2) D classes (qw_ty cI cZ) 18 ad [.ref (ad 0), .int x_p, .int x] (qw_C cI cZ ad S0)  (qw_C cI cZ ad (k_Q_ends S0 p x)) := by
  subst e_p
  intro sz
  refine wl_enter (own := R_Q) rfl (by decide) (Nat.le_of_ble_eq_true rfl) hinj (fun p_ e_ s_ m_ below meth c_ ls hsz X hml hr hlocks hl hP hS => ?_)
  have hx := X.1
  have hb := X.2.1
  have hA : ∀ q, s_.heap.size ≤ q → (wl_A 18 ad s_.heap.size) q := fun q h => Or.inr h
  have hl : lv_has ls 4 [(0, .ref (ad 0)), (1, .int (nI p)), (2, .int x)] := hl
  refine lv_bipush (v := 8) hx hb d_Q_ends_0 (by decide) ?_
  refine lv_iload_n hx hb d_Q_ends_2 rfl (lv_at hl 1 rfl) ?_
  refine lv_imul hx hb d_Q_ends_3 ?_
  refine wl_top (y := nI (8 * p)) (show (8 : Int32) * (nI p) = nI (8 * p) from pk_mul 8 p) ?_
  refine lv_istore_n (lv' := [(3, .int (nI (8 * p))), (0, .ref (ad 0)), (1, .int (nI p)), (2, .int x)]) hx hb d_Q_ends_4 rfl hl (by decide) rfl (fun ls hl => ?_)
  have hE : k_Q_ends S0 p x = k_Q_ends_L5 8 (8 * p) p x S0 := by
    exact rfl
  rw [hE]
  exact c_Q_ends_L5 hinj X hsz hml hr hlocks 8 (8 * p) (nI p) p rfl (by omega) x S0 (by omega) _ _ _ (lv_sub hl [1, 2, 3, 0] rfl) hP hS
def k_Q_kill (S0 : qw_S) (p : Int32) : Int32 × qw_S :=
  let r1 := k_Q_isAlive S0 p
  if r1 = 0 then
    ((0 : Int32), S0)
  else
    let S3 := k_Q_ends S0 p.toNatClampNeg (-9 : Int32)
    ((1 : Int32), S3)
set_option maxHeartbeats 4000000 in
set_option maxRecDepth 100000 in
theorem c_Q_kill {l : Launch} {D : va_G} {cI cZ : ClassId} {ad : Nat → Nat} (hinj : wl_inj 18 ad) (S0 : qw_S) (p : Int32) : wl_Mi l y_Q_kill (Cond.code y_Q_kill b_Q_kill 2 (some .boolean) :: TT) (rm_ 3) D classes (qw_ty cI cZ) 18 ad [.ref (ad 0), .int p] (qw_C cI cZ ad S0) ((k_Q_kill S0 p).1) (qw_C cI cZ ad ((k_Q_kill S0 p).2)) := by
  intro sz
  refine wl_enter (own := R_Q) rfl (by decide) (Nat.le_of_ble_eq_true rfl) hinj (fun p_ e_ s_ m_ below meth c_ ls hsz X hml hr hlocks hl hP hS => ?_)
  have hx := X.1
  have hb := X.2.1
  have hA : ∀ q, s_.heap.size ≤ q → (wl_A 18 ad s_.heap.size) q := fun q h => Or.inr h
  have hl : lv_has ls 2 [(0, .ref (ad 0)), (1, .int p)] := hl
  refine lv_aload_n hx hb d_Q_kill_0 rfl (lv_at hl 0 rfl) ?_
  refine lv_iload_n hx hb d_Q_kill_1 rfl (lv_at hl 1 rfl) ?_
  refine wl_goi1 (cf := qw_C cI cZ ad) (r := k_Q_isAlive S0 p) hS hA X.2.2.2.2.2.2 (wl_runV (As := [.int p]) (rest := []) X hml hl.1 hP g_TT (c_Q_isAlive hinj S0 p _) (by decide) (qw_cQ ) rfl wv_Q_105 (na := 1) (by decide +kernel) rfl ⟨Nat.le_of_ble_eq_true rfl, Nat.le_of_ble_eq_true rfl⟩ rfl (Nat.le_of_ble_eq_true rfl) d_Q_kill_2 ⟨Nat.le_refl _, Nat.le_refl _⟩) (fun r1 er1 H locs hP hS => ?_)
  refine lv_if_ne (tgt := 10) hx hb d_Q_kill_5 (by decide) (fun c2 => ?_) (fun c2 => ?_)
  · skip
    obtain ⟨hp1, hp2⟩ := qq_isAlive (fun h => c2 (er1.trans h))
    refine lv_aload_n hx hb d_Q_kill_10 rfl (lv_at hl 0 rfl) ?_
    refine lv_iload_n hx hb d_Q_kill_11 rfl (lv_at hl 1 rfl) ?_
    refine lv_bipush (v := -9) hx hb d_Q_kill_12 (by decide) ?_
    refine wl_gov2 (cf := qw_C cI cZ ad) (S2 := k_Q_ends S0 p.toNatClampNeg (-9 : Int32)) hS hA X.2.2.2.2.2.2 (wl_runV (As := [.int p, .int (-9 : Int32)]) (rest := []) X hml hl.1 hP g_TT (c_Q_ends hinj S0 p p.toNatClampNeg hp1 (by omega) (-9 : Int32) _) (by decide) (qw_cQ ) rfl wv_Q_115 (na := 2) (by decide +kernel) rfl ⟨Nat.le_of_ble_eq_true rfl, Nat.le_of_ble_eq_true rfl⟩ rfl (Nat.le_of_ble_eq_true rfl) d_Q_kill_14 ⟨Nat.le_refl _, Nat.le_refl _⟩) (fun S3 eS3 H locs hP hS => ?_)
    refine lv_iconst (v := 1) hx hb d_Q_kill_17 (by decide) ?_
    have hE : k_Q_kill S0 p = ((1 : Int32), S3) := by
      replace eS3 := eS3.symm
      subst eS3
      replace er1 := er1.symm
      subst er1
      exact ((if_neg c2).trans rfl)
    rw [hE]
    exact wl_zret X hsz hr hlocks (kq_bool (Or.inr rfl)) hP hS d_Q_kill_18
  · skip
    refine lv_iconst (v := 0) hx hb d_Q_kill_8 (by decide) ?_
    have hE : k_Q_kill S0 p = ((0 : Int32), S0) := by
      replace er1 := er1.symm
      subst er1
      exact ((if_pos c2).trans rfl)
    rw [hE]
    exact wl_zret X hsz hr hlocks (kq_bool (Or.inl rfl)) hP hS d_Q_kill_9
