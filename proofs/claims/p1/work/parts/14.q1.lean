theorem qw_pg_in {x : Nat} (h : ¬ qw_pg x < 0) : qw_pg x = nI x ∧ x < 34 := by
  by_cases h1 : x < 34
  · exact ⟨if_pos h1, h1⟩
  · have e : qw_pg x = -1 := if_neg h1
    rw [e] at h
    exact absurd (by decide) h
theorem qw_pg_lt {x : Nat} (h : x < 34) : qw_pg x = nI x ∧ x < 34 := ⟨if_pos h, h⟩
theorem qw_pg_ge {x : Nat} (h : 0 ≤ qw_pg x) : qw_pg x = nI x ∧ x < 34 := qw_pg_in (fun q => Int32.lt_irrefl (Int32.lt_of_lt_of_le q h))
theorem qw_pa_ge {x : Nat} (h : 0 ≤ qw_pa x) : qw_pa x = nI x ∧ x < 4 := by
  by_cases h1 : x < 4
  · exact ⟨if_pos h1, h1⟩
  · have e : qw_pa x = -2 := if_neg h1
    rw [e] at h
    exact absurd h (by decide)
def k_Q_in (v : Int32) (n : Int32) : Int32 :=
  if v < 0 then
    (0 : Int32)
  else
    if n ≤ v then
      (0 : Int32)
    else
      (1 : Int32)
set_option maxHeartbeats 4000000 in
set_option maxRecDepth 100000 in
theorem c_Q_in {l : Launch} {D : va_G} {cI cZ : ClassId} {ad : Nat → Nat} (hinj : wl_inj 18 ad) (S0 : qw_S) (v : Int32) (n : Int32) : wl_Mi l y_Q_in (Cond.code y_Q_in b_Q_in 2 (some .boolean) :: TT) (rm_ 0) D classes (qw_ty cI cZ) 18 ad [.int v, .int n] (qw_C cI cZ ad S0) (k_Q_in v n) (qw_C cI cZ ad S0) := by
  intro sz
  refine wl_enter (own := R_Q) rfl (by decide) (Nat.le_of_ble_eq_true rfl) hinj (fun p_ e_ s_ m_ below meth c_ ls hsz X hml hr hlocks hl hP hS => ?_)
  have hx := X.1
  have hb := X.2.1
  have hA : ∀ q, s_.heap.size ≤ q → (wl_A 18 ad s_.heap.size) q := fun q h => Or.inr h
  have hl : lv_has ls 2 [(0, .int v), (1, .int n)] := hl
  refine lv_iload_n hx hb d_Q_in_0 rfl (lv_at hl 0 rfl) ?_
  refine lv_if_lt (tgt := 13) hx hb d_Q_in_1 (by decide) (fun c1 => ?_) (fun c1 => ?_)
  · skip
    refine lv_iconst (v := 0) hx hb d_Q_in_13 (by decide) ?_
    have hE : k_Q_in v n = (0 : Int32) := by
      exact ((if_pos c1).trans rfl)
    rw [hE]
    exact wl_zret X hsz hr hlocks (kq_bool (Or.inl rfl)) hP hS d_Q_in_14
  · skip
    refine lv_iload_n hx hb d_Q_in_4 rfl (lv_at hl 0 rfl) ?_
    refine lv_iload_n hx hb d_Q_in_5 rfl (lv_at hl 1 rfl) ?_
    refine lv_icmp_ge (tgt := 13) hx hb d_Q_in_6 (by decide) (fun c2 => ?_) (fun c2 => ?_)
    · skip
      refine lv_iconst (v := 0) hx hb d_Q_in_13 (by decide) ?_
      have hE : k_Q_in v n = (0 : Int32) := by
        exact ((if_neg c1).trans ((if_pos c2).trans rfl))
      rw [hE]
      exact wl_zret X hsz hr hlocks (kq_bool (Or.inl rfl)) hP hS d_Q_in_14
    · skip
      refine lv_iconst (v := 1) hx hb d_Q_in_9 (by decide) ?_
      refine lv_goto (tgt := 14) hx hb d_Q_in_10 (by decide) ?_
      have hE : k_Q_in v n = (1 : Int32) := by
        exact ((if_neg c1).trans ((if_neg c2).trans rfl))
      rw [hE]
      exact wl_zret X hsz hr hlocks (kq_bool (Or.inr rfl)) hP hS d_Q_in_14
theorem qq_in {v n : Int32} (N : Nat) (h : ¬ k_Q_in v n = 0) (hn : n = nI N) (hN : N < 2 ^ 31) : v = nI v.toNatClampNeg ∧ v.toNatClampNeg < N := by
  subst hn
  unfold k_Q_in at h
  by_cases h0 : v < 0
  · rw [if_pos h0] at h
    exact absurd rfl h
  · rw [if_neg h0] at h
    by_cases h1 : nI N ≤ v
    · rw [if_pos h1] at h
      exact absurd rfl h
    · exact sk_rng N h0 h1 hN
def k_Q_sharers_L4 : Nat → Nat → Int32 → Int32 → qw_S → Int32
  | 0, i, s, n, S0 =>
    n
  | i_n + 1, i, s, n, S0 =>
    if (qw_pg (S0.2 9 0 i)) = s then
      let x103 := n + Int32.ofInt (1)
      k_Q_sharers_L4 i_n (i + 1) s x103 S0
    else
      k_Q_sharers_L4 i_n (i + 1) s n S0
set_option maxHeartbeats 4000000 in
set_option maxRecDepth 100000 in
theorem c_Q_sharers_L4 {l : Launch} {D : va_G} {cI cZ : ClassId} {ad : Nat → Nat} {p_ : Program} {e_ : Env} {s_ : State} {m_ : MethodId} {args : Array Value} {below : List Frame} {meth : Method} {c_ : Code} {sz : Nat} (hinj : wl_inj 18 ad) (X : wl_X p_ s_ m_ args c_ b_Q_sharers R_Q TT D classes (qw_ty cI cZ) 18 ad (wl_A 18 ad s_.heap.size)) (hsz : s_.heap.size = sz) (hml : c_.maxLocals = 4) (hr : meth.sig.returnType = some .int) (hlocks : meth.locks = false) :
    ∀ (i_n i : Nat) (s : Int32) (n : Int32) (S0 : qw_S) (h_i : i + i_n = 32) (H : Heap) (locs : List Loc) (ls : Array Slot), lv_has ls 4 [(0, .ref (ad 0)), (1, .int s), (2, .int n), (3, .int (nI i))] → va_P D classes (wl_W 18 ad (qw_C cI cZ ad S0)) H → va_S (wl_A 18 ad s_.heap.size) s_.heap H locs → W p_ l e_ (rm_ 0) s_ m_ args below meth c_ H locs 0 0 (MQ below (wl_Qi D classes (qw_ty cI cZ) 18 ad (k_Q_sharers_L4 i_n i s n S0) (qw_C cI cZ ad S0) sz) args s_ 0 0 (wl_A 18 ad sz)) (F0 m_ 4 ls []) := by
  have hx := X.1
  have hb := X.2.1
  have hA : ∀ q, s_.heap.size ≤ q → (wl_A 18 ad s_.heap.size) q := fun q h => Or.inr h
  intro i_n
  induction i_n with
  | zero =>
    intro i s n S0 h_i H locs ls hl hP hS
    refine lv_iload_n hx hb d_Q_sharers_4 rfl (lv_at hl 3 rfl) ?_
    refine lv_bipush (v := 32) hx hb d_Q_sharers_5 (by decide) ?_
    refine lv_icmp_ge (tgt := 29) hx hb d_Q_sharers_7 (by decide) (fun c1 => ?_) (fun c1 => ?_)
    · skip
      refine lv_iload_n hx hb d_Q_sharers_29 rfl (lv_at hl 2 rfl) ?_
      have hE : k_Q_sharers_L4 0 i s n S0 = n := by
        exact rfl
      rw [hE]
      exact wl_iret X hsz hr hlocks hP hS d_Q_sharers_30
    · exact absurd (sk_lhz h_i) c1
  | succ i_n ih =>
    intro i s n S0 h_i H locs ls hl hP hS
    refine lv_iload_n hx hb d_Q_sharers_4 rfl (lv_at hl 3 rfl) ?_
    refine lv_bipush (v := 32) hx hb d_Q_sharers_5 (by decide) ?_
    refine lv_icmp_ge (tgt := 29) hx hb d_Q_sharers_7 (by decide) (fun c101 => ?_) (fun c101 => ?_)
    · exact absurd c101 (sk_lhs h_i)
    · skip
      refine lv_aload_n hx hb d_Q_sharers_10 rfl (lv_at hl 0 rfl) ?_
      refine wl_get (v := .ref (ad 9)) X hP (i := 0) (by decide) (qw_cQ ) rfl i_Q 8 (by decide) lf_Q_34 rfl d_Q_sharers_11 ?_
      refine lv_iload_n hx hb d_Q_sharers_14 rfl (lv_at hl 3 rfl) ?_
      refine wl_iald X hP (i := 9) (by decide) 0 (qw_cpage ) rfl (j := i) rfl (by omega) (by decide) d_Q_sharers_15 ?_
      refine lv_iload_n hx hb d_Q_sharers_16 rfl (lv_at hl 1 rfl) ?_
      refine lv_icmp_ne (tgt := 23) hx hb d_Q_sharers_17 (by decide) (fun c102 => ?_) (fun c102 => ?_)
      · skip
        refine lv_iinc (v := nI (i + 1)) (lv' := [(3, .int (nI (i + 1))), (0, .ref (ad 0)), (1, .int s), (2, .int n)]) hx hb d_Q_sharers_23 hl (k := 3) rfl (nI_1 _) (by decide) rfl (fun ls hl => ?_)
        refine lv_goto (tgt := 4) hx hb d_Q_sharers_26 (by decide) ?_
        have hE : k_Q_sharers_L4 (i_n + 1) i s n S0 = k_Q_sharers_L4 i_n (i + 1) s n S0 := by
          exact ((if_neg c102).trans rfl)
        rw [hE]
        exact ih (i + 1) s n S0 (by omega) _ _ _ (lv_sub hl [1, 2, 3, 0] rfl) hP hS
      · skip
        obtain ⟨x103, ex103⟩ : ∃ z : Int32, z = n + Int32.ofInt (1) := ⟨_, rfl⟩
        refine lv_iinc (v := x103) (lv' := [(2, .int x103), (0, .ref (ad 0)), (1, .int s), (3, .int (nI i))]) hx hb d_Q_sharers_20 hl (k := 2) rfl (ex103.symm) (by decide) rfl (fun ls hl => ?_)
        refine lv_iinc (v := nI (i + 1)) (lv' := [(3, .int (nI (i + 1))), (2, .int x103), (0, .ref (ad 0)), (1, .int s)]) hx hb d_Q_sharers_23 hl (k := 3) rfl (nI_1 _) (by decide) rfl (fun ls hl => ?_)
        refine lv_goto (tgt := 4) hx hb d_Q_sharers_26 (by decide) ?_
        have hE : k_Q_sharers_L4 (i_n + 1) i s n S0 = k_Q_sharers_L4 i_n (i + 1) s x103 S0 := by
          replace ex103 := ex103.symm
          subst ex103
          exact ((if_pos c102).trans rfl)
        rw [hE]
        exact ih (i + 1) s x103 S0 (by omega) _ _ _ (lv_sub hl [2, 3, 1, 0] rfl) hP hS
def k_Q_sharers (S0 : qw_S) (s : Int32) : Int32 :=
  k_Q_sharers_L4 32 0 s (0 : Int32) S0
set_option maxHeartbeats 4000000 in
set_option maxRecDepth 100000 in
theorem c_Q_sharers {l : Launch} {D : va_G} {cI cZ : ClassId} {ad : Nat → Nat} (hinj : wl_inj 18 ad) (S0 : qw_S) (s : Int32) : wl_Mi l y_Q_sharers (Cond.code y_Q_sharers b_Q_sharers 4 (some .int) :: TT) (rm_ 0) D classes (qw_ty cI cZ) 18 ad [.ref (ad 0), .int s] (qw_C cI cZ ad S0) (k_Q_sharers S0 s) (qw_C cI cZ ad S0) := by
  intro sz
  refine wl_enter (own := R_Q) rfl (by decide) (Nat.le_of_ble_eq_true rfl) hinj (fun p_ e_ s_ m_ below meth c_ ls hsz X hml hr hlocks hl hP hS => ?_)
  have hx := X.1
  have hb := X.2.1
  have hA : ∀ q, s_.heap.size ≤ q → (wl_A 18 ad s_.heap.size) q := fun q h => Or.inr h
  have hl : lv_has ls 4 [(0, .ref (ad 0)), (1, .int s)] := hl
  refine lv_iconst (v := 0) hx hb d_Q_sharers_0 (by decide) ?_
  refine lv_istore_n (lv' := [(2, .int (0 : Int32)), (0, .ref (ad 0)), (1, .int s)]) hx hb d_Q_sharers_1 rfl hl (by decide) rfl (fun ls hl => ?_)
  refine lv_iconst (v := 0) hx hb d_Q_sharers_2 (by decide) ?_
  refine lv_istore_n (lv' := [(3, .int (0 : Int32)), (2, .int (0 : Int32)), (0, .ref (ad 0)), (1, .int s)]) hx hb d_Q_sharers_3 rfl hl (by decide) rfl (fun ls hl => ?_)
  have hE : k_Q_sharers S0 s = k_Q_sharers_L4 32 0 s (0 : Int32) S0 := by
    exact rfl
  rw [hE]
  exact c_Q_sharers_L4 hinj X hsz hml hr hlocks 32 0 s (0 : Int32) S0 (by omega) _ _ _ (lv_sub hl [2, 3, 1, 0] rfl) hP hS
def k_Q_inFrame_L2 : Nat → Nat → Int32 → qw_S → Int32
  | 0, i, f, S0 =>
    (-1 : Int32)
  | i_n + 1, i, f, S0 =>
    if (S0.1 10 0 i) = 0 then
      k_Q_inFrame_L2 i_n (i + 1) f S0
    else
      if (S0.1 13 0 i) = f then
        nI i
      else
        k_Q_inFrame_L2 i_n (i + 1) f S0
set_option maxHeartbeats 4000000 in
set_option maxRecDepth 100000 in
theorem c_Q_inFrame_L2 {l : Launch} {D : va_G} {cI cZ : ClassId} {ad : Nat → Nat} {p_ : Program} {e_ : Env} {s_ : State} {m_ : MethodId} {args : Array Value} {below : List Frame} {meth : Method} {c_ : Code} {sz : Nat} (hinj : wl_inj 18 ad) (X : wl_X p_ s_ m_ args c_ b_Q_inFrame R_Q TT D classes (qw_ty cI cZ) 18 ad (wl_A 18 ad s_.heap.size)) (hsz : s_.heap.size = sz) (hml : c_.maxLocals = 3) (hr : meth.sig.returnType = some .int) (hlocks : meth.locks = false) :
    ∀ (i_n i : Nat) (f : Int32) (S0 : qw_S) (h_i : i + i_n = 34) (H : Heap) (locs : List Loc) (ls : Array Slot), lv_has ls 3 [(0, .ref (ad 0)), (1, .int f), (2, .int (nI i))] → va_P D classes (wl_W 18 ad (qw_C cI cZ ad S0)) H → va_S (wl_A 18 ad s_.heap.size) s_.heap H locs → W p_ l e_ (rm_ 0) s_ m_ args below meth c_ H locs 0 0 (MQ below (wl_Qi D classes (qw_ty cI cZ) 18 ad (k_Q_inFrame_L2 i_n i f S0) (qw_C cI cZ ad S0) sz) args s_ 0 0 (wl_A 18 ad sz)) (F0 m_ 2 ls []) := by
  have hx := X.1
  have hb := X.2.1
  have hA : ∀ q, s_.heap.size ≤ q → (wl_A 18 ad s_.heap.size) q := fun q h => Or.inr h
  intro i_n
  induction i_n with
  | zero =>
    intro i f S0 h_i H locs ls hl hP hS
    refine lv_iload_n hx hb d_Q_inFrame_2 rfl (lv_at hl 2 rfl) ?_
    refine lv_bipush (v := 34) hx hb d_Q_inFrame_3 (by decide) ?_
    refine lv_icmp_ge (tgt := 35) hx hb d_Q_inFrame_5 (by decide) (fun c1 => ?_) (fun c1 => ?_)
    · skip
      refine lv_iconst (v := -1) hx hb d_Q_inFrame_35 (by decide) ?_
      have hE : k_Q_inFrame_L2 0 i f S0 = (-1 : Int32) := by
        exact rfl
      rw [hE]
      exact wl_iret X hsz hr hlocks hP hS d_Q_inFrame_36
    · exact absurd (sk_lhz h_i) c1
  | succ i_n ih =>
    intro i f S0 h_i H locs ls hl hP hS
    refine lv_iload_n hx hb d_Q_inFrame_2 rfl (lv_at hl 2 rfl) ?_
    refine lv_bipush (v := 34) hx hb d_Q_inFrame_3 (by decide) ?_
    refine lv_icmp_ge (tgt := 35) hx hb d_Q_inFrame_5 (by decide) (fun c101 => ?_) (fun c101 => ?_)
    · exact absurd c101 (sk_lhs h_i)
    · skip
      refine lv_aload_n hx hb d_Q_inFrame_8 rfl (lv_at hl 0 rfl) ?_
      refine wl_get (v := .ref (ad 10)) X hP (i := 0) (by decide) (qw_cQ ) rfl i_Q 9 (by decide) lf_Q_37 rfl d_Q_inFrame_9 ?_
      refine lv_iload_n hx hb d_Q_inFrame_12 rfl (lv_at hl 2 rfl) ?_
      refine wl_zald X hP (i := 10) (by decide) 1 (qw_cis ) rfl (j := i) rfl (by omega) (by decide) d_Q_inFrame_13 ?_
      refine lv_if_eq (tgt := 29) hx hb d_Q_inFrame_14 (by decide) (fun c102 => ?_) (fun c102 => ?_)
      · skip
        refine lv_iinc (v := nI (i + 1)) (lv' := [(2, .int (nI (i + 1))), (0, .ref (ad 0)), (1, .int f)]) hx hb d_Q_inFrame_29 hl (k := 2) rfl (nI_1 _) (by decide) rfl (fun ls hl => ?_)
        refine lv_goto (tgt := 2) hx hb d_Q_inFrame_32 (by decide) ?_
        have hE : k_Q_inFrame_L2 (i_n + 1) i f S0 = k_Q_inFrame_L2 i_n (i + 1) f S0 := by
          exact ((if_pos c102).trans rfl)
        rw [hE]
        exact ih (i + 1) f S0 (by omega) _ _ _ (lv_sub hl [1, 2, 0] rfl) hP hS
      · skip
        refine lv_aload_n hx hb d_Q_inFrame_17 rfl (lv_at hl 0 rfl) ?_
        refine wl_get (v := .ref (ad 13)) X hP (i := 0) (by decide) (qw_cQ ) rfl i_Q 12 (by decide) lf_Q_47 rfl d_Q_inFrame_18 ?_
        refine lv_iload_n hx hb d_Q_inFrame_21 rfl (lv_at hl 2 rfl) ?_
        refine wl_iald X hP (i := 13) (by decide) 0 (qw_cframe ) rfl (j := i) rfl (by omega) (by decide) d_Q_inFrame_22 ?_
        refine lv_iload_n hx hb d_Q_inFrame_23 rfl (lv_at hl 1 rfl) ?_
        refine lv_icmp_ne (tgt := 29) hx hb d_Q_inFrame_24 (by decide) (fun c103 => ?_) (fun c103 => ?_)
        · skip
          refine lv_iinc (v := nI (i + 1)) (lv' := [(2, .int (nI (i + 1))), (0, .ref (ad 0)), (1, .int f)]) hx hb d_Q_inFrame_29 hl (k := 2) rfl (nI_1 _) (by decide) rfl (fun ls hl => ?_)
          refine lv_goto (tgt := 2) hx hb d_Q_inFrame_32 (by decide) ?_
          have hE : k_Q_inFrame_L2 (i_n + 1) i f S0 = k_Q_inFrame_L2 i_n (i + 1) f S0 := by
            exact ((if_neg c102).trans ((if_neg c103).trans rfl))
          rw [hE]
          exact ih (i + 1) f S0 (by omega) _ _ _ (lv_sub hl [1, 2, 0] rfl) hP hS
        · skip
          refine lv_iload_n hx hb d_Q_inFrame_27 rfl (lv_at hl 2 rfl) ?_
          have hE : k_Q_inFrame_L2 (i_n + 1) i f S0 = nI i := by
            exact ((if_neg c102).trans ((if_pos c103).trans rfl))
          rw [hE]
          exact wl_iret X hsz hr hlocks hP hS d_Q_inFrame_28
def k_Q_inFrame (S0 : qw_S) (f : Int32) : Int32 :=
  k_Q_inFrame_L2 34 0 f S0
set_option maxHeartbeats 4000000 in
set_option maxRecDepth 100000 in
theorem c_Q_inFrame {l : Launch} {D : va_G} {cI cZ : ClassId} {ad : Nat → Nat} (hinj : wl_inj 18 ad) (S0 : qw_S) (f : Int32) : wl_Mi l y_Q_inFrame (Cond.code y_Q_inFrame b_Q_inFrame 3 (some .int) :: TT) (rm_ 0) D classes (qw_ty cI cZ) 18 ad [.ref (ad 0), .int f] (qw_C cI cZ ad S0) (k_Q_inFrame S0 f) (qw_C cI cZ ad S0) := by
  intro sz
  refine wl_enter (own := R_Q) rfl (by decide) (Nat.le_of_ble_eq_true rfl) hinj (fun p_ e_ s_ m_ below meth c_ ls hsz X hml hr hlocks hl hP hS => ?_)
  have hx := X.1
  have hb := X.2.1
  have hA : ∀ q, s_.heap.size ≤ q → (wl_A 18 ad s_.heap.size) q := fun q h => Or.inr h
  have hl : lv_has ls 3 [(0, .ref (ad 0)), (1, .int f)] := hl
  refine lv_iconst (v := 0) hx hb d_Q_inFrame_0 (by decide) ?_
  refine lv_istore_n (lv' := [(2, .int (0 : Int32)), (0, .ref (ad 0)), (1, .int f)]) hx hb d_Q_inFrame_1 rfl hl (by decide) rfl (fun ls hl => ?_)
  have hE : k_Q_inFrame S0 f = k_Q_inFrame_L2 34 0 f S0 := by
    exact rfl
  rw [hE]
  exact c_Q_inFrame_L2 hinj X hsz hml hr hlocks 34 0 f S0 (by omega) _ _ _ (lv_sub hl [1, 2, 0] rfl) hP hS
def k_Q_isSlot_L2 : Nat → Nat → Int32 → qw_S → Int32
  | 0, i, t, S0 =>
    (0 : Int32)
  | i_n + 1, i, t, S0 =>
    if (S0.1 10 0 i) = 0 then
      k_Q_isSlot_L2 i_n (i + 1) t S0
    else
      if (S0.1 14 0 i) = t then
        (1 : Int32)
      else
        k_Q_isSlot_L2 i_n (i + 1) t S0
set_option maxHeartbeats 4000000 in
set_option maxRecDepth 100000 in
theorem c_Q_isSlot_L2 {l : Launch} {D : va_G} {cI cZ : ClassId} {ad : Nat → Nat} {p_ : Program} {e_ : Env} {s_ : State} {m_ : MethodId} {args : Array Value} {below : List Frame} {meth : Method} {c_ : Code} {sz : Nat} (hinj : wl_inj 18 ad) (X : wl_X p_ s_ m_ args c_ b_Q_isSlot R_Q TT D classes (qw_ty cI cZ) 18 ad (wl_A 18 ad s_.heap.size)) (hsz : s_.heap.size = sz) (hml : c_.maxLocals = 3) (hr : meth.sig.returnType = some .boolean) (hlocks : meth.locks = false) :
    ∀ (i_n i : Nat) (t : Int32) (S0 : qw_S) (h_i : i + i_n = 34) (H : Heap) (locs : List Loc) (ls : Array Slot), lv_has ls 3 [(0, .ref (ad 0)), (1, .int t), (2, .int (nI i))] → va_P D classes (wl_W 18 ad (qw_C cI cZ ad S0)) H → va_S (wl_A 18 ad s_.heap.size) s_.heap H locs → W p_ l e_ (rm_ 0) s_ m_ args below meth c_ H locs 0 0 (MQ below (wl_Qi D classes (qw_ty cI cZ) 18 ad (k_Q_isSlot_L2 i_n i t S0) (qw_C cI cZ ad S0) sz) args s_ 0 0 (wl_A 18 ad sz)) (F0 m_ 2 ls []) := by
  have hx := X.1
  have hb := X.2.1
  have hA : ∀ q, s_.heap.size ≤ q → (wl_A 18 ad s_.heap.size) q := fun q h => Or.inr h
  intro i_n
  induction i_n with
  | zero =>
    intro i t S0 h_i H locs ls hl hP hS
    refine lv_iload_n hx hb d_Q_isSlot_2 rfl (lv_at hl 2 rfl) ?_
    refine lv_bipush (v := 34) hx hb d_Q_isSlot_3 (by decide) ?_
    refine lv_icmp_ge (tgt := 35) hx hb d_Q_isSlot_5 (by decide) (fun c1 => ?_) (fun c1 => ?_)
    · skip
      refine lv_iconst (v := 0) hx hb d_Q_isSlot_35 (by decide) ?_
      have hE : k_Q_isSlot_L2 0 i t S0 = (0 : Int32) := by
        exact rfl
      rw [hE]
      exact wl_zret X hsz hr hlocks (kq_bool (Or.inl rfl)) hP hS d_Q_isSlot_36
    · exact absurd (sk_lhz h_i) c1
  | succ i_n ih =>
    intro i t S0 h_i H locs ls hl hP hS
    refine lv_iload_n hx hb d_Q_isSlot_2 rfl (lv_at hl 2 rfl) ?_
    refine lv_bipush (v := 34) hx hb d_Q_isSlot_3 (by decide) ?_
    refine lv_icmp_ge (tgt := 35) hx hb d_Q_isSlot_5 (by decide) (fun c101 => ?_) (fun c101 => ?_)
    · exact absurd c101 (sk_lhs h_i)
    · skip
      refine lv_aload_n hx hb d_Q_isSlot_8 rfl (lv_at hl 0 rfl) ?_
      refine wl_get (v := .ref (ad 10)) X hP (i := 0) (by decide) (qw_cQ ) rfl i_Q 9 (by decide) lf_Q_37 rfl d_Q_isSlot_9 ?_
      refine lv_iload_n hx hb d_Q_isSlot_12 rfl (lv_at hl 2 rfl) ?_
      refine wl_zald X hP (i := 10) (by decide) 1 (qw_cis ) rfl (j := i) rfl (by omega) (by decide) d_Q_isSlot_13 ?_
      refine lv_if_eq (tgt := 29) hx hb d_Q_isSlot_14 (by decide) (fun c102 => ?_) (fun c102 => ?_)
      · skip
        refine lv_iinc (v := nI (i + 1)) (lv' := [(2, .int (nI (i + 1))), (0, .ref (ad 0)), (1, .int t)]) hx hb d_Q_isSlot_29 hl (k := 2) rfl (nI_1 _) (by decide) rfl (fun ls hl => ?_)
        refine lv_goto (tgt := 2) hx hb d_Q_isSlot_32 (by decide) ?_
        have hE : k_Q_isSlot_L2 (i_n + 1) i t S0 = k_Q_isSlot_L2 i_n (i + 1) t S0 := by
          exact ((if_pos c102).trans rfl)
        rw [hE]
        exact ih (i + 1) t S0 (by omega) _ _ _ (lv_sub hl [1, 2, 0] rfl) hP hS
      · skip
        refine lv_aload_n hx hb d_Q_isSlot_17 rfl (lv_at hl 0 rfl) ?_
        refine wl_get (v := .ref (ad 14)) X hP (i := 0) (by decide) (qw_cQ ) rfl i_Q 13 (by decide) lf_Q_50 rfl d_Q_isSlot_18 ?_
        refine lv_iload_n hx hb d_Q_isSlot_21 rfl (lv_at hl 2 rfl) ?_
        refine wl_iald X hP (i := 14) (by decide) 0 (qw_cslot ) rfl (j := i) rfl (by omega) (by decide) d_Q_isSlot_22 ?_
        refine lv_iload_n hx hb d_Q_isSlot_23 rfl (lv_at hl 1 rfl) ?_
        refine lv_icmp_ne (tgt := 29) hx hb d_Q_isSlot_24 (by decide) (fun c103 => ?_) (fun c103 => ?_)
        · skip
          refine lv_iinc (v := nI (i + 1)) (lv' := [(2, .int (nI (i + 1))), (0, .ref (ad 0)), (1, .int t)]) hx hb d_Q_isSlot_29 hl (k := 2) rfl (nI_1 _) (by decide) rfl (fun ls hl => ?_)
          refine lv_goto (tgt := 2) hx hb d_Q_isSlot_32 (by decide) ?_
          have hE : k_Q_isSlot_L2 (i_n + 1) i t S0 = k_Q_isSlot_L2 i_n (i + 1) t S0 := by
            exact ((if_neg c102).trans ((if_neg c103).trans rfl))
          rw [hE]
          exact ih (i + 1) t S0 (by omega) _ _ _ (lv_sub hl [1, 2, 0] rfl) hP hS
        · skip
          refine lv_iconst (v := 1) hx hb d_Q_isSlot_27 (by decide) ?_
          have hE : k_Q_isSlot_L2 (i_n + 1) i t S0 = (1 : Int32) := by
            exact ((if_neg c102).trans ((if_pos c103).trans rfl))
          rw [hE]
          exact wl_zret X hsz hr hlocks (kq_bool (Or.inr rfl)) hP hS d_Q_isSlot_28
def k_Q_isSlot (S0 : qw_S) (t : Int32) : Int32 :=
  k_Q_isSlot_L2 34 0 t S0
set_option maxHeartbeats 4000000 in
set_option maxRecDepth 100000 in
theorem c_Q_isSlot {l : Launch} {D : va_G} {cI cZ : ClassId} {ad : Nat → Nat} (hinj : wl_inj 18 ad) (S0 : qw_S) (t : Int32) : wl_Mi l y_Q_isSlot (Cond.code y_Q_isSlot b_Q_isSlot 3 (some .boolean) :: TT) (rm_ 0) D classes (qw_ty cI cZ) 18 ad [.ref (ad 0), .int t] (qw_C cI cZ ad S0) (k_Q_isSlot S0 t) (qw_C cI cZ ad S0) := by
  intro sz
  refine wl_enter (own := R_Q) rfl (by decide) (Nat.le_of_ble_eq_true rfl) hinj (fun p_ e_ s_ m_ below meth c_ ls hsz X hml hr hlocks hl hP hS => ?_)
  have hx := X.1
  have hb := X.2.1
  have hA : ∀ q, s_.heap.size ≤ q → (wl_A 18 ad s_.heap.size) q := fun q h => Or.inr h
  have hl : lv_has ls 3 [(0, .ref (ad 0)), (1, .int t)] := hl
  refine lv_iconst (v := 0) hx hb d_Q_isSlot_0 (by decide) ?_
  refine lv_istore_n (lv' := [(2, .int (0 : Int32)), (0, .ref (ad 0)), (1, .int t)]) hx hb d_Q_isSlot_1 rfl hl (by decide) rfl (fun ls hl => ?_)
  have hE : k_Q_isSlot S0 t = k_Q_isSlot_L2 34 0 t S0 := by
    exact rfl
  rw [hE]
  exact c_Q_isSlot_L2 hinj X hsz hml hr hlocks 34 0 t S0 (by omega) _ _ _ (lv_sub hl [1, 2, 0] rfl) hP hS
def k_Q_fresh_L57 : Nat → Nat → Nat → qw_S → Int32 × qw_S
  | 0, i, s, S0 =>
    (nI s, S0)
  | i_n + 1, i, s, S0 =>
    let S102 := qw_si S0 15 0 i (0 : Int32)
    k_Q_fresh_L57 i_n (i + 1) s S102
set_option maxHeartbeats 4000000 in
set_option maxRecDepth 100000 in
theorem c_Q_fresh_L57 {l : Launch} {D : va_G} {cI cZ : ClassId} {ad : Nat → Nat} {p_ : Program} {e_ : Env} {s_ : State} {m_ : MethodId} {args : Array Value} {below : List Frame} {meth : Method} {c_ : Code} {sz : Nat} (hinj : wl_inj 18 ad) (X : wl_X p_ s_ m_ args c_ b_Q_fresh R_Q TT D classes (qw_ty cI cZ) 18 ad (wl_A 18 ad s_.heap.size)) (hsz : s_.heap.size = sz) (hml : c_.maxLocals = 3) (hr : meth.sig.returnType = some .int) (hlocks : meth.locks = false) :
    ∀ (i_n i : Nat) (x_s : Int32) (s : Nat) (e_s : x_s = nI s) (h_s : s < 34) (S0 : qw_S) (h_i : i + i_n = 8 * s + 8) (H : Heap) (locs : List Loc) (ls : Array Slot), lv_has ls 3 [(0, .ref (ad 0)), (1, .int x_s), (2, .int (nI i))] → va_P D classes (wl_W 18 ad (qw_C cI cZ ad S0)) H → va_S (wl_A 18 ad s_.heap.size) s_.heap H locs → W p_ l e_ (rm_ 0) s_ m_ args below meth c_ H locs 0 0 (MQ below (wl_Qi D classes (qw_ty cI cZ) 18 ad ((k_Q_fresh_L57 i_n i s S0).1) (qw_C cI cZ ad ((k_Q_fresh_L57 i_n i s S0).2)) sz) args s_ 0 0 (wl_A 18 ad sz)) (F0 m_ 57 ls []) := by
  have hx := X.1
  have hb := X.2.1
  have hA : ∀ q, s_.heap.size ≤ q → (wl_A 18 ad s_.heap.size) q := fun q h => Or.inr h
  intro i_n
  induction i_n with
  | zero =>
    intro i x_s s e_s h_s S0 h_i H locs ls hl hP hS
    subst e_s
    refine lv_iload_n hx hb d_Q_fresh_57 rfl (lv_at hl 2 rfl) ?_
    refine lv_bipush (v := 8) hx hb d_Q_fresh_58 (by decide) ?_
    refine lv_iload_n hx hb d_Q_fresh_60 rfl (lv_at hl 1 rfl) ?_
    refine lv_imul hx hb d_Q_fresh_61 ?_
    refine lv_bipush (v := 8) hx hb d_Q_fresh_62 (by decide) ?_
    refine lv_iadd hx hb d_Q_fresh_64 ?_
    refine wl_top (y := nI ((8 * s) + 8)) ((congr (congrArg (fun (a b : Int32) => a + b) (show (8 : Int32) * (nI s) = nI (8 * s) from (show (8 : Int32) * (nI s) = nI (8 * s) from pk_mul 8 s))) (show (8 : Int32) = nI 8 from rfl)).trans (nI_add (8 * s) 8)) ?_
    refine lv_icmp_ge (tgt := 81) hx hb d_Q_fresh_65 (by decide) (fun c1 => ?_) (fun c1 => ?_)
    · skip
      refine lv_iload_n hx hb d_Q_fresh_81 rfl (lv_at hl 1 rfl) ?_
      have hE : k_Q_fresh_L57 0 i s S0 = (nI s, S0) := by
        exact rfl
      rw [hE]
      exact wl_iret X hsz hr hlocks hP hS d_Q_fresh_82
    · exact absurd (sk_lhz h_i (by omega)) c1
  | succ i_n ih =>
    intro i x_s s e_s h_s S0 h_i H locs ls hl hP hS
    subst e_s
    refine lv_iload_n hx hb d_Q_fresh_57 rfl (lv_at hl 2 rfl) ?_
    refine lv_bipush (v := 8) hx hb d_Q_fresh_58 (by decide) ?_
    refine lv_iload_n hx hb d_Q_fresh_60 rfl (lv_at hl 1 rfl) ?_
    refine lv_imul hx hb d_Q_fresh_61 ?_
    refine lv_bipush (v := 8) hx hb d_Q_fresh_62 (by decide) ?_
    refine lv_iadd hx hb d_Q_fresh_64 ?_
    refine wl_top (y := nI ((8 * s) + 8)) ((congr (congrArg (fun (a b : Int32) => a + b) (show (8 : Int32) * (nI s) = nI (8 * s) from (show (8 : Int32) * (nI s) = nI (8 * s) from pk_mul 8 s))) (show (8 : Int32) = nI 8 from rfl)).trans (nI_add (8 * s) 8)) ?_
    refine lv_icmp_ge (tgt := 81) hx hb d_Q_fresh_65 (by decide) (fun c101 => ?_) (fun c101 => ?_)
    · exact absurd c101 (sk_lhs h_i (by omega))
    · skip
      refine lv_aload_n hx hb d_Q_fresh_68 rfl (lv_at hl 0 rfl) ?_
      refine wl_get (v := .ref (ad 15)) X hP (i := 0) (by decide) (qw_cQ ) rfl i_Q 14 (by decide) lf_Q_53 rfl d_Q_fresh_69 ?_
      refine lv_iload_n hx hb d_Q_fresh_72 rfl (lv_at hl 2 rfl) ?_
      refine lv_iconst (v := 0) hx hb d_Q_fresh_73 (by decide) ?_
      refine wl_iast X hP hS (i := 15) (by decide) 0 (qw_cword ) rfl (j := i) rfl (by omega) (by decide) d_Q_fresh_74 (qw_pword ) (fun H locs hP hS => ?_)
      obtain ⟨S102, eS102⟩ : ∃ z, z = qw_si S0 15 0 i (0 : Int32) := ⟨_, rfl⟩
      rw [← eS102] at hP
      refine lv_iinc (v := nI (i + 1)) (lv' := [(2, .int (nI (i + 1))), (0, .ref (ad 0)), (1, .int (nI s))]) hx hb d_Q_fresh_75 hl (k := 2) rfl (nI_1 _) (by decide) rfl (fun ls hl => ?_)
      refine lv_goto (tgt := 57) hx hb d_Q_fresh_78 (by decide) ?_
      have hE : k_Q_fresh_L57 (i_n + 1) i s S0 = k_Q_fresh_L57 i_n (i + 1) s S102 := by
        replace eS102 := eS102.symm
        subst eS102
        exact rfl
      rw [hE]
      exact ih (i + 1) (nI s) s rfl (by omega) S102 (by omega) _ _ _ (lv_sub hl [1, 2, 0] rfl) hP hS
def k_Q_fresh_J17 (s : Nat) (S0 : qw_S) : Int32 × qw_S :=
  let S1 := qw_si S0 10 0 s (1 : Int32)
  let S2 := qw_si S1 11 0 s (0 : Int32)
  let S3 := qw_si S2 12 0 s (0 : Int32)
  let S4 := qw_si S3 13 0 s (-1 : Int32)
  let S5 := qw_si S4 14 0 s (-1 : Int32)
  k_Q_fresh_L57 8 (8 * s) s S5
set_option maxHeartbeats 4000000 in
set_option maxRecDepth 100000 in
theorem c_Q_fresh_J17 {l : Launch} {D : va_G} {cI cZ : ClassId} {ad : Nat → Nat} {p_ : Program} {e_ : Env} {s_ : State} {m_ : MethodId} {args : Array Value} {below : List Frame} {meth : Method} {c_ : Code} {sz : Nat} (hinj : wl_inj 18 ad) (X : wl_X p_ s_ m_ args c_ b_Q_fresh R_Q TT D classes (qw_ty cI cZ) 18 ad (wl_A 18 ad s_.heap.size)) (hsz : s_.heap.size = sz) (hml : c_.maxLocals = 3) (hr : meth.sig.returnType = some .int) (hlocks : meth.locks = false) :
    ∀ (x_s : Int32) (s : Nat) (e_s : x_s = nI s) (h_s : s < 34) (S0 : qw_S) (H : Heap) (locs : List Loc) (ls : Array Slot), lv_has ls 3 [(0, .ref (ad 0)), (1, .int x_s)] → va_P D classes (wl_W 18 ad (qw_C cI cZ ad S0)) H → va_S (wl_A 18 ad s_.heap.size) s_.heap H locs → W p_ l e_ (rm_ 0) s_ m_ args below meth c_ H locs 0 0 (MQ below (wl_Qi D classes (qw_ty cI cZ) 18 ad ((k_Q_fresh_J17 s S0).1) (qw_C cI cZ ad ((k_Q_fresh_J17 s S0).2)) sz) args s_ 0 0 (wl_A 18 ad sz)) (F0 m_ 17 ls []) := by
  have hx := X.1
  have hb := X.2.1
  have hA : ∀ q, s_.heap.size ≤ q → (wl_A 18 ad s_.heap.size) q := fun q h => Or.inr h
  intro x_s s e_s h_s S0 H locs ls hl hP hS
  subst e_s
  refine lv_aload_n hx hb d_Q_fresh_17 rfl (lv_at hl 0 rfl) ?_
  refine wl_get (v := .ref (ad 10)) X hP (i := 0) (by decide) (qw_cQ ) rfl i_Q 9 (by decide) lf_Q_37 rfl d_Q_fresh_18 ?_
  refine lv_iload_n hx hb d_Q_fresh_21 rfl (lv_at hl 1 rfl) ?_
  refine lv_iconst (v := 1) hx hb d_Q_fresh_22 (by decide) ?_
  refine wl_zast X hP hS (i := 10) (by decide) 1 (qw_cis ) rfl (j := s) rfl (by omega) (by decide) (x := (1 : Int32)) rfl d_Q_fresh_23 (qw_pis ) (fun H locs hP hS => ?_)
  obtain ⟨S1, eS1⟩ : ∃ z, z = qw_si S0 10 0 s (1 : Int32) := ⟨_, rfl⟩
  rw [← eS1] at hP
  refine lv_aload_n hx hb d_Q_fresh_24 rfl (lv_at hl 0 rfl) ?_
  refine wl_get (v := .ref (ad 11)) X hP (i := 0) (by decide) (qw_cQ ) rfl i_Q 10 (by decide) lf_Q_41 rfl d_Q_fresh_25 ?_
  refine lv_iload_n hx hb d_Q_fresh_28 rfl (lv_at hl 1 rfl) ?_
  refine lv_iconst (v := 0) hx hb d_Q_fresh_29 (by decide) ?_
  refine wl_zast X hP hS (i := 11) (by decide) 1 (qw_cused ) rfl (j := s) rfl (by omega) (by decide) (x := (0 : Int32)) rfl d_Q_fresh_30 (qw_pused ) (fun H locs hP hS => ?_)
  obtain ⟨S2, eS2⟩ : ∃ z, z = qw_si S1 11 0 s (0 : Int32) := ⟨_, rfl⟩
  rw [← eS2] at hP
  refine lv_aload_n hx hb d_Q_fresh_31 rfl (lv_at hl 0 rfl) ?_
  refine wl_get (v := .ref (ad 12)) X hP (i := 0) (by decide) (qw_cQ ) rfl i_Q 11 (by decide) lf_Q_44 rfl d_Q_fresh_32 ?_
  refine lv_iload_n hx hb d_Q_fresh_35 rfl (lv_at hl 1 rfl) ?_
  refine lv_iconst (v := 0) hx hb d_Q_fresh_36 (by decide) ?_
  refine wl_zast X hP hS (i := 12) (by decide) 1 (qw_cchanged ) rfl (j := s) rfl (by omega) (by decide) (x := (0 : Int32)) rfl d_Q_fresh_37 (qw_pchanged ) (fun H locs hP hS => ?_)
  obtain ⟨S3, eS3⟩ : ∃ z, z = qw_si S2 12 0 s (0 : Int32) := ⟨_, rfl⟩
  rw [← eS3] at hP
  refine lv_aload_n hx hb d_Q_fresh_38 rfl (lv_at hl 0 rfl) ?_
  refine wl_get (v := .ref (ad 13)) X hP (i := 0) (by decide) (qw_cQ ) rfl i_Q 12 (by decide) lf_Q_47 rfl d_Q_fresh_39 ?_
  refine lv_iload_n hx hb d_Q_fresh_42 rfl (lv_at hl 1 rfl) ?_
  refine lv_iconst (v := -1) hx hb d_Q_fresh_43 (by decide) ?_
  refine wl_iast X hP hS (i := 13) (by decide) 0 (qw_cframe ) rfl (j := s) rfl (by omega) (by decide) d_Q_fresh_44 (qw_pframe ) (fun H locs hP hS => ?_)
  obtain ⟨S4, eS4⟩ : ∃ z, z = qw_si S3 13 0 s (-1 : Int32) := ⟨_, rfl⟩
  rw [← eS4] at hP
  refine lv_aload_n hx hb d_Q_fresh_45 rfl (lv_at hl 0 rfl) ?_
  refine wl_get (v := .ref (ad 14)) X hP (i := 0) (by decide) (qw_cQ ) rfl i_Q 13 (by decide) lf_Q_50 rfl d_Q_fresh_46 ?_
  refine lv_iload_n hx hb d_Q_fresh_49 rfl (lv_at hl 1 rfl) ?_
  refine lv_iconst (v := -1) hx hb d_Q_fresh_50 (by decide) ?_
  refine wl_iast X hP hS (i := 14) (by decide) 0 (qw_cslot ) rfl (j := s) rfl (by omega) (by decide) d_Q_fresh_51 (qw_pslot ) (fun H locs hP hS => ?_)
  obtain ⟨S5, eS5⟩ : ∃ z, z = qw_si S4 14 0 s (-1 : Int32) := ⟨_, rfl⟩
  rw [← eS5] at hP
  refine lv_bipush (v := 8) hx hb d_Q_fresh_52 (by decide) ?_
  refine lv_iload_n hx hb d_Q_fresh_54 rfl (lv_at hl 1 rfl) ?_
  refine lv_imul hx hb d_Q_fresh_55 ?_
  refine wl_top (y := nI (8 * s)) (show (8 : Int32) * (nI s) = nI (8 * s) from pk_mul 8 s) ?_
  refine lv_istore_n (lv' := [(2, .int (nI (8 * s))), (0, .ref (ad 0)), (1, .int (nI s))]) hx hb d_Q_fresh_56 rfl hl (by decide) rfl (fun ls hl => ?_)
  have hE : k_Q_fresh_J17 s S0 = k_Q_fresh_L57 8 (8 * s) s S5 := by
    replace eS5 := eS5.symm
    subst eS5
    replace eS4 := eS4.symm
    subst eS4
    replace eS3 := eS3.symm
    subst eS3
    replace eS2 := eS2.symm
    subst eS2
    replace eS1 := eS1.symm
    subst eS1
    exact rfl
  rw [hE]
  exact c_Q_fresh_L57 hinj X hsz hml hr hlocks 8 (8 * s) (nI s) s rfl (by omega) S5 (by omega) _ _ _ (lv_sub hl [1, 2, 0] rfl) hP hS
def k_Q_fresh_L2 : Nat → Nat → qw_S → Int32 × qw_S
  | 0, i, S0 =>
    (nI i, S0)
  | i_n + 1, i, S0 =>
    if (S0.1 10 0 i) = 0 then
      k_Q_fresh_J17 i S0
    else
      k_Q_fresh_L2 i_n (i + 1) S0
def p_Q_fresh_L2 : Nat → Nat → qw_S → Prop
  | 0, i, S0 =>
    False
  | i_n + 1, i, S0 =>
    if (S0.1 10 0 i) = 0 then
      True
    else
      p_Q_fresh_L2 i_n (i + 1) S0
set_option maxHeartbeats 4000000 in
set_option maxRecDepth 100000 in
theorem c_Q_fresh_L2 {l : Launch} {D : va_G} {cI cZ : ClassId} {ad : Nat → Nat} {p_ : Program} {e_ : Env} {s_ : State} {m_ : MethodId} {args : Array Value} {below : List Frame} {meth : Method} {c_ : Code} {sz : Nat} (hinj : wl_inj 18 ad) (X : wl_X p_ s_ m_ args c_ b_Q_fresh R_Q TT D classes (qw_ty cI cZ) 18 ad (wl_A 18 ad s_.heap.size)) (hsz : s_.heap.size = sz) (hml : c_.maxLocals = 3) (hr : meth.sig.returnType = some .int) (hlocks : meth.locks = false) :
    ∀ (i_n i : Nat) (S0 : qw_S) (h_i : i + i_n = 34) (hp0 : p_Q_fresh_L2 i_n i S0) (H : Heap) (locs : List Loc) (ls : Array Slot), lv_has ls 3 [(0, .ref (ad 0)), (1, .int (nI i))] → va_P D classes (wl_W 18 ad (qw_C cI cZ ad S0)) H → va_S (wl_A 18 ad s_.heap.size) s_.heap H locs → W p_ l e_ (rm_ 0) s_ m_ args below meth c_ H locs 0 0 (MQ below (wl_Qi D classes (qw_ty cI cZ) 18 ad ((k_Q_fresh_L2 i_n i S0).1) (qw_C cI cZ ad ((k_Q_fresh_L2 i_n i S0).2)) sz) args s_ 0 0 (wl_A 18 ad sz)) (F0 m_ 2 ls []) := by
  have hx := X.1
  have hb := X.2.1
  have hA : ∀ q, s_.heap.size ≤ q → (wl_A 18 ad s_.heap.size) q := fun q h => Or.inr h
  intro i_n
  induction i_n with
  | zero =>
    intro i S0 h_i hp0 H locs ls hl hP hS
    exact (show False from hp0).elim
  | succ i_n ih =>
    intro i S0 h_i hp0 H locs ls hl hP hS
    refine lv_aload_n hx hb d_Q_fresh_2 rfl (lv_at hl 0 rfl) ?_
    refine wl_get (v := .ref (ad 10)) X hP (i := 0) (by decide) (qw_cQ ) rfl i_Q 9 (by decide) lf_Q_37 rfl d_Q_fresh_3 ?_
    refine lv_iload_n hx hb d_Q_fresh_6 rfl (lv_at hl 1 rfl) ?_
    refine wl_zald X hP (i := 10) (by decide) 1 (qw_cis ) rfl (j := i) rfl (by omega) (by decide) d_Q_fresh_7 ?_
    refine lv_if_eq (tgt := 17) hx hb d_Q_fresh_8 (by decide) (fun c101 => ?_) (fun c101 => ?_)
    · skip
      have hE : k_Q_fresh_L2 (i_n + 1) i S0 = k_Q_fresh_J17 i S0 := by
        exact ((if_pos c101).trans rfl)
      rw [hE]
      exact c_Q_fresh_J17 hinj X hsz hml hr hlocks (nI i) i rfl (by omega) S0 _ _ _ (lv_sub hl [0, 1] rfl) hP hS
    · skip
      refine lv_iinc (v := nI (i + 1)) (lv' := [(1, .int (nI (i + 1))), (0, .ref (ad 0))]) hx hb d_Q_fresh_11 hl (k := 1) rfl (nI_1 _) (by decide) rfl (fun ls hl => ?_)
      refine lv_goto (tgt := 2) hx hb d_Q_fresh_14 (by decide) ?_
      have hE : k_Q_fresh_L2 (i_n + 1) i S0 = k_Q_fresh_L2 i_n (i + 1) S0 := by
        exact ((if_neg c101).trans rfl)
      rw [hE]
      exact ih (i + 1) S0 (by omega) (by  exact (pp_neg c101 hp0)) _ _ _ (lv_sub hl [1, 0] rfl) hP hS
def k_Q_fresh (S0 : qw_S) : Int32 × qw_S :=
  k_Q_fresh_L2 34 0 S0
def p_Q_fresh (S0 : qw_S) : Prop :=
  p_Q_fresh_L2 34 0 S0
set_option maxHeartbeats 4000000 in
set_option maxRecDepth 100000 in
theorem c_Q_fresh {l : Launch} {D : va_G} {cI cZ : ClassId} {ad : Nat → Nat} (hinj : wl_inj 18 ad) (S0 : qw_S)  (hp0 : p_Q_fresh S0) : wl_Mi l y_Q_fresh (Cond.code y_Q_fresh b_Q_fresh 3 (some .int) :: TT) (rm_ 0) D classes (qw_ty cI cZ) 18 ad [.ref (ad 0)] (qw_C cI cZ ad S0) ((k_Q_fresh S0).1) (qw_C cI cZ ad ((k_Q_fresh S0).2)) := by
  intro sz
  refine wl_enter (own := R_Q) rfl (by decide) (Nat.le_of_ble_eq_true rfl) hinj (fun p_ e_ s_ m_ below meth c_ ls hsz X hml hr hlocks hl hP hS => ?_)
  have hx := X.1
  have hb := X.2.1
  have hA : ∀ q, s_.heap.size ≤ q → (wl_A 18 ad s_.heap.size) q := fun q h => Or.inr h
  have hl : lv_has ls 3 [(0, .ref (ad 0))] := hl
  refine lv_iconst (v := 0) hx hb d_Q_fresh_0 (by decide) ?_
  refine lv_istore_n (lv' := [(1, .int (0 : Int32)), (0, .ref (ad 0))]) hx hb d_Q_fresh_1 rfl hl (by decide) rfl (fun ls hl => ?_)
  have hE : k_Q_fresh S0 = k_Q_fresh_L2 34 0 S0 := by
    exact rfl
  rw [hE]
  exact c_Q_fresh_L2 hinj X hsz hml hr hlocks 34 0 S0 (by omega) (by  exact hp0) _ _ _ (lv_sub hl [1, 0] rfl) hP hS
theorem qq_inFrameL {S : qw_S} {f : Int32} : ∀ n i, i + n = 34 → k_Q_inFrame_L2 n i f S = -1 ∨ ∃ j, j < 34 ∧ k_Q_inFrame_L2 n i f S = nI j := by
  intro n
  induction n with
  | zero => exact fun i _ => Or.inl rfl
  | succ n ih =>
    intro i h
    have hn := ih (i + 1) (by omega)
    unfold k_Q_inFrame_L2
    repeat' split
    all_goals first | exact hn | exact Or.inr ⟨i, by omega, rfl⟩
theorem qq_inFrame {S : qw_S} {f : Int32} (h : ¬ k_Q_inFrame S f < 0) : k_Q_inFrame S f = nI (k_Q_inFrame S f).toNatClampNeg ∧ (k_Q_inFrame S f).toNatClampNeg < 34 := by
  rcases qq_inFrameL (S := S) (f := f) 34 0 rfl with h1 | ⟨j, hj, h1⟩
  · have e : k_Q_inFrame S f = -1 := h1
    rw [e] at h
    exact absurd (by decide) h
  · have e : k_Q_inFrame S f = nI j := h1
    rw [e, nI_clamp (by omega)]
    exact ⟨rfl, hj⟩
theorem qq_freshL {S : qw_S} : ∀ n i, i + n = 34 → p_Q_fresh_L2 n i S → ∃ j, j < 34 ∧ (k_Q_fresh_L2 n i S).1 = nI j := by
  have h57 : ∀ n i s (U : qw_S), (k_Q_fresh_L57 n i s U).1 = nI s := by
    intro n
    induction n with
    | zero => exact fun _ _ _ => rfl
    | succ n ih => exact fun i s U => ih (i + 1) s _
  intro n
  induction n with
  | zero => exact fun i _ h => False.elim h
  | succ n ih =>
    intro i h hp
    by_cases h0 : S.1 10 0 i = 0
    · refine ⟨i, by omega, ?_⟩
      have e : k_Q_fresh_L2 (n + 1) i S = k_Q_fresh_J17 i S := if_pos h0
      rw [e]
      exact h57 _ _ _ _
    · have e : k_Q_fresh_L2 (n + 1) i S = k_Q_fresh_L2 n (i + 1) S := if_neg h0
      rw [e]
      exact ih (i + 1) (by omega) (pp_neg h0 hp)
theorem qq_fresh {S : qw_S} (hp : p_Q_fresh S) : (k_Q_fresh S).1 = nI (k_Q_fresh S).1.toNatClampNeg ∧ (k_Q_fresh S).1.toNatClampNeg < 34 := by
  obtain ⟨j, hj, h⟩ := qq_freshL (S := S) 34 0 rfl hp
  have e : (k_Q_fresh S).1 = nI j := h
  rw [e, nI_clamp (by omega)]
  exact ⟨rfl, hj⟩
def k_Q_let (S0 : qw_S) (k : Nat) : qw_S :=
  let S1 := qw_sn S0 9 0 k 34
  if (qw_pg (S0.2 9 0 k)) < 0 then
    S1
  else
    let r3 := k_Q_sharers S1 (qw_pg (S0.2 9 0 k))
    if r3 = 0 then
      let S5 := qw_si S1 10 0 (S0.2 9 0 k) (0 : Int32)
      S5
    else
      S1
set_option maxHeartbeats 4000000 in
set_option maxRecDepth 100000 in
theorem c_Q_let {l : Launch} {D : va_G} {cI cZ : ClassId} {ad : Nat → Nat} (hinj : wl_inj 18 ad) (S0 : qw_S) (x_k : Int32) (k : Nat) (e_k : x_k = nI k) (h_k : k < 32) : wl_Mv l y_Q_let (Cond.code y_Q_let b_Q_let 3 none :: TT) (rm_ 1) D classes (qw_ty cI cZ) 18 ad [.ref (ad 0), .int x_k] (qw_C cI cZ ad S0)  (qw_C cI cZ ad (k_Q_let S0 k)) := by
  subst e_k
  intro sz
  refine wl_enter (own := R_Q) rfl (by decide) (Nat.le_of_ble_eq_true rfl) hinj (fun p_ e_ s_ m_ below meth c_ ls hsz X hml hr hlocks hl hP hS => ?_)
  have hx := X.1
  have hb := X.2.1
  have hA : ∀ q, s_.heap.size ≤ q → (wl_A 18 ad s_.heap.size) q := fun q h => Or.inr h
  have hl : lv_has ls 3 [(0, .ref (ad 0)), (1, .int (nI k))] := hl
  refine lv_aload_n hx hb d_Q_let_0 rfl (lv_at hl 0 rfl) ?_
  refine wl_get (v := .ref (ad 9)) X hP (i := 0) (by decide) (qw_cQ ) rfl i_Q 8 (by decide) lf_Q_34 rfl d_Q_let_1 ?_
  refine lv_iload_n hx hb d_Q_let_4 rfl (lv_at hl 1 rfl) ?_
  refine wl_iald X hP (i := 9) (by decide) 0 (qw_cpage ) rfl (j := k) rfl (by omega) (by decide) d_Q_let_5 ?_
  refine lv_istore_n (lv' := [(2, .int (qw_pg (S0.2 9 0 k))), (0, .ref (ad 0)), (1, .int (nI k))]) hx hb d_Q_let_6 rfl hl (by decide) rfl (fun ls hl => ?_)
  refine lv_aload_n hx hb d_Q_let_7 rfl (lv_at hl 1 rfl) ?_
  refine wl_get (v := .ref (ad 9)) X hP (i := 0) (by decide) (qw_cQ ) rfl i_Q 8 (by decide) lf_Q_34 rfl d_Q_let_8 ?_
  refine lv_iload_n hx hb d_Q_let_11 rfl (lv_at hl 2 rfl) ?_
  refine lv_iconst (v := -1) hx hb d_Q_let_12 (by decide) ?_
  refine wl_iast X hP hS (i := 9) (by decide) 0 (qw_cpage ) rfl (j := k) rfl (by omega) (by decide) d_Q_let_13 (qw_ppage (x := 34)  (by decide)) (fun H locs hP hS => ?_)
  obtain ⟨S1, eS1⟩ : ∃ z, z = qw_sn S0 9 0 k 34 := ⟨_, rfl⟩
  rw [← eS1] at hP
  refine lv_iload_n hx hb d_Q_let_14 rfl (lv_at hl 0 rfl) ?_
  refine lv_if_lt (tgt := 33) hx hb d_Q_let_15 (by decide) (fun c2 => ?_) (fun c2 => ?_)
  · skip
    have hE : k_Q_let S0 k = S1 := by
      replace eS1 := eS1.symm
      subst eS1
      exact ((if_pos c2).trans rfl)
    rw [hE]
    exact wl_vret X hsz hr hlocks hP hS d_Q_let_33
  · skip
    refine lv_aload_n hx hb d_Q_let_18 rfl (lv_at hl 1 rfl) ?_
    refine lv_iload_n hx hb d_Q_let_19 rfl (lv_at hl 0 rfl) ?_
    refine wl_goi1 (cf := qw_C cI cZ ad) (r := k_Q_sharers S1 (qw_pg (S0.2 9 0 k))) hS hA X.2.2.2.2.2.2 (wl_runV (As := [.int (qw_pg (S0.2 9 0 k))]) (rest := []) X hml hl.1 hP g_TT (c_Q_sharers hinj S1 (qw_pg (S0.2 9 0 k)) _) (by decide) (qw_cQ ) rfl wv_Q_66 (na := 1) (by decide +kernel) rfl ⟨Nat.le_of_ble_eq_true rfl, Nat.le_of_ble_eq_true rfl⟩ rfl (Nat.le_of_ble_eq_true rfl) d_Q_let_20 ⟨Nat.le_refl _, Nat.le_refl _⟩) (fun r3 er3 H locs hP hS => ?_)
    refine lv_if_ne (tgt := 33) hx hb d_Q_let_23 (by decide) (fun c4 => ?_) (fun c4 => ?_)
    · skip
      have hE : k_Q_let S0 k = S1 := by
        replace er3 := er3.symm
        subst er3
        replace eS1 := eS1.symm
        subst eS1
        exact ((if_neg c2).trans ((if_neg c4).trans rfl))
      rw [hE]
      exact wl_vret X hsz hr hlocks hP hS d_Q_let_33
    · skip
      refine lv_aload_n hx hb d_Q_let_26 rfl (lv_at hl 1 rfl) ?_
      refine wl_get (v := .ref (ad 10)) X hP (i := 0) (by decide) (qw_cQ ) rfl i_Q 9 (by decide) lf_Q_37 rfl d_Q_let_27 ?_
      refine lv_iload_n hx hb d_Q_let_30 rfl (lv_at hl 0 rfl) ?_
      refine lv_iconst (v := 0) hx hb d_Q_let_31 (by decide) ?_
      refine wl_zast X hP hS (i := 10) (by decide) 1 (qw_cis ) rfl (j := (S0.2 9 0 k)) (qw_pg_in c2).1 (qw_pg_in c2).2 (by decide) (x := (0 : Int32)) rfl d_Q_let_32 (qw_pis ) (fun H locs hP hS => ?_)
      obtain ⟨S5, eS5⟩ : ∃ z, z = qw_si S1 10 0 (S0.2 9 0 k) (0 : Int32) := ⟨_, rfl⟩
      rw [← eS5] at hP
      have hE : k_Q_let S0 k = S5 := by
        replace eS5 := eS5.symm
        subst eS5
        replace er3 := er3.symm
        subst er3
        replace eS1 := eS1.symm
        subst eS1
        exact ((if_neg c2).trans ((if_pos c4).trans rfl))
      rw [hE]
      exact wl_vret X hsz hr hlocks hP hS d_Q_let_33
def k_Q_goesOut_J56  (S0 : qw_S) : qw_S :=
  let S1 := qw_si S0 17 0 8 ((S0.1 17 0 8) + (1 : Int32))
  S1
set_option maxHeartbeats 4000000 in
set_option maxRecDepth 100000 in
theorem c_Q_goesOut_J56 {l : Launch} {D : va_G} {cI cZ : ClassId} {ad : Nat → Nat} {p_ : Program} {e_ : Env} {s_ : State} {m_ : MethodId} {args : Array Value} {below : List Frame} {meth : Method} {c_ : Code} {sz : Nat} (hinj : wl_inj 18 ad) (X : wl_X p_ s_ m_ args c_ b_Q_goesOut R_Q TT D classes (qw_ty cI cZ) 18 ad (wl_A 18 ad s_.heap.size)) (hsz : s_.heap.size = sz) (hml : c_.maxLocals = 3) (hr : meth.sig.returnType = none) (hlocks : meth.locks = false) :
    ∀ (S0 : qw_S) (H : Heap) (locs : List Loc) (ls : Array Slot), lv_has ls 3 [(0, .ref (ad 0))] → va_P D classes (wl_W 18 ad (qw_C cI cZ ad S0)) H → va_S (wl_A 18 ad s_.heap.size) s_.heap H locs → W p_ l e_ (rm_ 1) s_ m_ args below meth c_ H locs 0 0 (MQ below (wl_Qv D classes (qw_ty cI cZ) 18 ad (qw_C cI cZ ad (k_Q_goesOut_J56 S0)) sz) args s_ 0 0 (wl_A 18 ad sz)) (F0 m_ 56 ls []) := by
  have hx := X.1
  have hb := X.2.1
  have hA : ∀ q, s_.heap.size ≤ q → (wl_A 18 ad s_.heap.size) q := fun q h => Or.inr h
  intro S0 H locs ls hl hP hS
  refine lv_aload_n hx hb d_Q_goesOut_56 rfl (lv_at hl 0 rfl) ?_
  refine wl_get (v := .ref (ad 17)) X hP (i := 0) (by decide) (qw_cQ ) rfl i_Q 16 (by decide) lf_Q_59 rfl d_Q_goesOut_57 ?_
  refine lv_bipush (v := 8) hx hb d_Q_goesOut_60 (by decide) ?_
  refine lv_dup2_11 hx hb d_Q_goesOut_62 rfl rfl ?_
  refine wl_iald X hP (i := 17) (by decide) 0 (qw_ccounts ) rfl (j := 8) rfl (by omega) (by decide) d_Q_goesOut_63 ?_
  refine lv_iconst (v := 1) hx hb d_Q_goesOut_64 (by decide) ?_
  refine lv_iadd hx hb d_Q_goesOut_65 ?_
  refine wl_iast X hP hS (i := 17) (by decide) 0 (qw_ccounts ) rfl (j := 8) rfl (by omega) (by decide) d_Q_goesOut_66 (qw_pcounts ) (fun H locs hP hS => ?_)
  obtain ⟨S1, eS1⟩ : ∃ z, z = qw_si S0 17 0 8 ((S0.1 17 0 8) + (1 : Int32)) := ⟨_, rfl⟩
  rw [← eS1] at hP
  have hE : k_Q_goesOut_J56 S0 = S1 := by
    replace eS1 := eS1.symm
    subst eS1
    exact rfl
  rw [hE]
  exact wl_vret X hsz hr hlocks hP hS d_Q_goesOut_67
def k_Q_goesOut_L35 : Nat → Nat → Nat → qw_S → qw_S
  | 0, i, s, S0 =>
    S0
  | i_n + 1, i, s, S0 =>
    let r101 := k_Q_isSlot S0 (nI i)
    if r101 = 0 then
      let S103 := qw_si S0 14 0 s (nI i)
      k_Q_goesOut_J56 S103
    else
      k_Q_goesOut_L35 i_n (i + 1) s S0
def p_Q_goesOut_L35 : Nat → Nat → Nat → qw_S → Prop
  | 0, i, s, S0 =>
    False
  | i_n + 1, i, s, S0 =>
    let r101 := k_Q_isSlot S0 (nI i)
    if r101 = 0 then
      let S103 := qw_si S0 14 0 s (nI i)
      True
    else
      p_Q_goesOut_L35 i_n (i + 1) s S0
set_option maxHeartbeats 4000000 in
set_option maxRecDepth 100000 in
theorem c_Q_goesOut_L35 {l : Launch} {D : va_G} {cI cZ : ClassId} {ad : Nat → Nat} {p_ : Program} {e_ : Env} {s_ : State} {m_ : MethodId} {args : Array Value} {below : List Frame} {meth : Method} {c_ : Code} {sz : Nat} (hinj : wl_inj 18 ad) (X : wl_X p_ s_ m_ args c_ b_Q_goesOut R_Q TT D classes (qw_ty cI cZ) 18 ad (wl_A 18 ad s_.heap.size)) (hsz : s_.heap.size = sz) (hml : c_.maxLocals = 3) (hr : meth.sig.returnType = none) (hlocks : meth.locks = false) :
    ∀ (i_n i : Nat) (x_s : Int32) (s : Nat) (e_s : x_s = nI s) (h_s : s < 34) (S0 : qw_S) (h_i : i + i_n = 64) (hp0 : p_Q_goesOut_L35 i_n i s S0) (H : Heap) (locs : List Loc) (ls : Array Slot), lv_has ls 3 [(0, .ref (ad 0)), (1, .int x_s), (2, .int (nI i))] → va_P D classes (wl_W 18 ad (qw_C cI cZ ad S0)) H → va_S (wl_A 18 ad s_.heap.size) s_.heap H locs → W p_ l e_ (rm_ 1) s_ m_ args below meth c_ H locs 0 0 (MQ below (wl_Qv D classes (qw_ty cI cZ) 18 ad (qw_C cI cZ ad (k_Q_goesOut_L35 i_n i s S0)) sz) args s_ 0 0 (wl_A 18 ad sz)) (F0 m_ 35 ls []) := by
  have hx := X.1
  have hb := X.2.1
  have hA : ∀ q, s_.heap.size ≤ q → (wl_A 18 ad s_.heap.size) q := fun q h => Or.inr h
  intro i_n
  induction i_n with
  | zero =>
    intro i x_s s e_s h_s S0 h_i hp0 H locs ls hl hP hS
    exact (show False from hp0).elim
  | succ i_n ih =>
    intro i x_s s e_s h_s S0 h_i hp0 H locs ls hl hP hS
    subst e_s
    refine lv_aload_n hx hb d_Q_goesOut_35 rfl (lv_at hl 0 rfl) ?_
    refine lv_iload_n hx hb d_Q_goesOut_36 rfl (lv_at hl 2 rfl) ?_
    refine wl_goi1 (cf := qw_C cI cZ ad) (r := k_Q_isSlot S0 (nI i)) hS hA X.2.2.2.2.2.2 (wl_runV (As := [.int (nI i)]) (rest := []) X hml hl.1 hP g_TT (c_Q_isSlot hinj S0 (nI i) _) (by decide) (qw_cQ ) rfl wv_Q_70 (na := 1) (by decide +kernel) rfl ⟨Nat.le_of_ble_eq_true rfl, Nat.le_of_ble_eq_true rfl⟩ rfl (Nat.le_of_ble_eq_true rfl) d_Q_goesOut_37 ⟨Nat.le_refl _, Nat.le_refl _⟩) (fun r101 er101 H locs hP hS => ?_)
    refine lv_if_eq (tgt := 49) hx hb d_Q_goesOut_40 (by decide) (fun c102 => ?_) (fun c102 => ?_)
    · skip
      refine lv_aload_n hx hb d_Q_goesOut_49 rfl (lv_at hl 0 rfl) ?_
      refine wl_get (v := .ref (ad 14)) X hP (i := 0) (by decide) (qw_cQ ) rfl i_Q 13 (by decide) lf_Q_50 rfl d_Q_goesOut_50 ?_
      refine lv_iload_n hx hb d_Q_goesOut_53 rfl (lv_at hl 1 rfl) ?_
      refine lv_iload_n hx hb d_Q_goesOut_54 rfl (lv_at hl 2 rfl) ?_
      refine wl_iast X hP hS (i := 14) (by decide) 0 (qw_cslot ) rfl (j := s) rfl (by omega) (by decide) d_Q_goesOut_55 (qw_pslot ) (fun H locs hP hS => ?_)
      obtain ⟨S103, eS103⟩ : ∃ z, z = qw_si S0 14 0 s (nI i) := ⟨_, rfl⟩
      rw [← eS103] at hP
      have hE : k_Q_goesOut_L35 (i_n + 1) i s S0 = k_Q_goesOut_J56 S103 := by
        replace eS103 := eS103.symm
        subst eS103
        replace er101 := er101.symm
        subst er101
        exact ((if_pos c102).trans rfl)
      rw [hE]
      exact c_Q_goesOut_J56 hinj X hsz hml hr hlocks S103 _ _ _ (lv_sub hl [0] rfl) hP hS
    · skip
      refine lv_iinc (v := nI (i + 1)) (lv' := [(2, .int (nI (i + 1))), (0, .ref (ad 0)), (1, .int (nI s))]) hx hb d_Q_goesOut_43 hl (k := 2) rfl (nI_1 _) (by decide) rfl (fun ls hl => ?_)
      refine lv_goto (tgt := 35) hx hb d_Q_goesOut_46 (by decide) ?_
      have hE : k_Q_goesOut_L35 (i_n + 1) i s S0 = k_Q_goesOut_L35 i_n (i + 1) s S0 := by
        replace er101 := er101.symm
        subst er101
        exact ((if_neg c102).trans rfl)
      rw [hE]
      exact ih (i + 1) (nI s) s rfl (by omega) S0 (by omega) (by replace er101 := er101.symm; subst er101; exact (pp_neg c102 hp0)) _ _ _ (lv_sub hl [1, 2, 0] rfl) hP hS
def k_Q_goesOut (S0 : qw_S) (s : Nat) : qw_S :=
  let S1 := qw_si S0 13 0 s (-1 : Int32)
  if (S1.1 12 0 s) = 0 then
    S1
  else
    let S3 := qw_si S1 12 0 s (0 : Int32)
    if 0 ≤ (S3.1 14 0 s) then
      k_Q_goesOut_J56 S3
    else
      k_Q_goesOut_L35 64 0 s S3
def p_Q_goesOut (S0 : qw_S) (s : Nat) : Prop :=
  let S1 := qw_si S0 13 0 s (-1 : Int32)
  if (S1.1 12 0 s) = 0 then
    True
  else
    let S3 := qw_si S1 12 0 s (0 : Int32)
    if 0 ≤ (S3.1 14 0 s) then
      True
    else
      p_Q_goesOut_L35 64 0 s S3
set_option maxHeartbeats 4000000 in
set_option maxRecDepth 100000 in
theorem c_Q_goesOut {l : Launch} {D : va_G} {cI cZ : ClassId} {ad : Nat → Nat} (hinj : wl_inj 18 ad) (S0 : qw_S) (x_s : Int32) (s : Nat) (e_s : x_s = nI s) (h_s : s < 34) (hp0 : p_Q_goesOut S0 s) : wl_Mv l y_Q_goesOut (Cond.code y_Q_goesOut b_Q_goesOut 3 none :: TT) (rm_ 1) D classes (qw_ty cI cZ) 18 ad [.ref (ad 0), .int x_s] (qw_C cI cZ ad S0)  (qw_C cI cZ ad (k_Q_goesOut S0 s)) := by
  subst e_s
  intro sz
  refine wl_enter (own := R_Q) rfl (by decide) (Nat.le_of_ble_eq_true rfl) hinj (fun p_ e_ s_ m_ below meth c_ ls hsz X hml hr hlocks hl hP hS => ?_)
  have hx := X.1
  have hb := X.2.1
  have hA : ∀ q, s_.heap.size ≤ q → (wl_A 18 ad s_.heap.size) q := fun q h => Or.inr h
  have hl : lv_has ls 3 [(0, .ref (ad 0)), (1, .int (nI s))] := hl
  refine lv_aload_n hx hb d_Q_goesOut_0 rfl (lv_at hl 0 rfl) ?_
  refine wl_get (v := .ref (ad 13)) X hP (i := 0) (by decide) (qw_cQ ) rfl i_Q 12 (by decide) lf_Q_47 rfl d_Q_goesOut_1 ?_
  refine lv_iload_n hx hb d_Q_goesOut_4 rfl (lv_at hl 1 rfl) ?_
  refine lv_iconst (v := -1) hx hb d_Q_goesOut_5 (by decide) ?_
  refine wl_iast X hP hS (i := 13) (by decide) 0 (qw_cframe ) rfl (j := s) rfl (by omega) (by decide) d_Q_goesOut_6 (qw_pframe ) (fun H locs hP hS => ?_)
  obtain ⟨S1, eS1⟩ : ∃ z, z = qw_si S0 13 0 s (-1 : Int32) := ⟨_, rfl⟩
  rw [← eS1] at hP
  refine lv_aload_n hx hb d_Q_goesOut_7 rfl (lv_at hl 0 rfl) ?_
  refine wl_get (v := .ref (ad 12)) X hP (i := 0) (by decide) (qw_cQ ) rfl i_Q 11 (by decide) lf_Q_44 rfl d_Q_goesOut_8 ?_
  refine lv_iload_n hx hb d_Q_goesOut_11 rfl (lv_at hl 1 rfl) ?_
  refine wl_zald X hP (i := 12) (by decide) 1 (qw_cchanged ) rfl (j := s) rfl (by omega) (by decide) d_Q_goesOut_12 ?_
  refine lv_if_ne (tgt := 17) hx hb d_Q_goesOut_13 (by decide) (fun c2 => ?_) (fun c2 => ?_)
  · skip
    refine lv_aload_n hx hb d_Q_goesOut_17 rfl (lv_at hl 0 rfl) ?_
    refine wl_get (v := .ref (ad 12)) X hP (i := 0) (by decide) (qw_cQ ) rfl i_Q 11 (by decide) lf_Q_44 rfl d_Q_goesOut_18 ?_
    refine lv_iload_n hx hb d_Q_goesOut_21 rfl (lv_at hl 1 rfl) ?_
    refine lv_iconst (v := 0) hx hb d_Q_goesOut_22 (by decide) ?_
    refine wl_zast X hP hS (i := 12) (by decide) 1 (qw_cchanged ) rfl (j := s) rfl (by omega) (by decide) (x := (0 : Int32)) rfl d_Q_goesOut_23 (qw_pchanged ) (fun H locs hP hS => ?_)
    obtain ⟨S3, eS3⟩ : ∃ z, z = qw_si S1 12 0 s (0 : Int32) := ⟨_, rfl⟩
    rw [← eS3] at hP
    refine lv_aload_n hx hb d_Q_goesOut_24 rfl (lv_at hl 0 rfl) ?_
    refine wl_get (v := .ref (ad 14)) X hP (i := 0) (by decide) (qw_cQ ) rfl i_Q 13 (by decide) lf_Q_50 rfl d_Q_goesOut_25 ?_
    refine lv_iload_n hx hb d_Q_goesOut_28 rfl (lv_at hl 1 rfl) ?_
    refine wl_iald X hP (i := 14) (by decide) 0 (qw_cslot ) rfl (j := s) rfl (by omega) (by decide) d_Q_goesOut_29 ?_
    refine lv_if_ge (tgt := 56) hx hb d_Q_goesOut_30 (by decide) (fun c4 => ?_) (fun c4 => ?_)
    · skip
      have hE : k_Q_goesOut S0 s = k_Q_goesOut_J56 S3 := by
        replace eS3 := eS3.symm
        subst eS3
        replace eS1 := eS1.symm
        subst eS1
        exact ((if_neg c2).trans ((if_pos c4).trans rfl))
      rw [hE]
      exact c_Q_goesOut_J56 hinj X hsz hml hr hlocks S3 _ _ _ (lv_sub hl [0] rfl) hP hS
    · skip
      refine lv_iconst (v := 0) hx hb d_Q_goesOut_33 (by decide) ?_
      refine lv_istore_n (lv' := [(2, .int (0 : Int32)), (0, .ref (ad 0)), (1, .int (nI s))]) hx hb d_Q_goesOut_34 rfl hl (by decide) rfl (fun ls hl => ?_)
      have hE : k_Q_goesOut S0 s = k_Q_goesOut_L35 64 0 s S3 := by
        replace eS3 := eS3.symm
        subst eS3
        replace eS1 := eS1.symm
        subst eS1
        exact ((if_neg c2).trans ((if_neg c4).trans rfl))
      rw [hE]
      exact c_Q_goesOut_L35 hinj X hsz hml hr hlocks 64 0 (nI s) s rfl (by omega) S3 (by omega) (by replace eS3 := eS3.symm; subst eS3; replace eS1 := eS1.symm; subst eS1; exact (pp_neg c4 (pp_neg c2 hp0))) _ _ _ (lv_sub hl [1, 2, 0] rfl) hP hS
  · skip
    have hE : k_Q_goesOut S0 s = S1 := by
      replace eS1 := eS1.symm
      subst eS1
      exact ((if_pos c2).trans rfl)
    rw [hE]
    exact wl_vret X hsz hr hlocks hP hS d_Q_goesOut_16
def k_Q_freeFrame_L24 : Nat → qw_S → Int32 × qw_S
  | 0, S0 =>
    ((0 : Int32), S0)
  | i_n + 1, S0 =>
    let r101 := k_Q_inFrame S0 (nI ((S0.2 0 0 1) % 6))
    if (S0.1 11 0 r101.toNatClampNeg) = 0 then
      let r104 := k_Q_inFrame S0 (nI ((S0.2 0 0 1) % 6))
      let S107 := k_Q_goesOut S0 r104.toNatClampNeg
      let x108 := nI ((S107.2 0 0 1) % 6)
      let S109 := qw_sn S107 0 0 1 ((((S107.2 0 0 1) % 6) + 1) % 6)
      (x108, S109)
    else
      let r110 := k_Q_inFrame S0 (nI ((S0.2 0 0 1) % 6))
      let S112 := qw_si S0 11 0 r110.toNatClampNeg (0 : Int32)
      let S113 := qw_sn S112 0 0 1 ((((S112.2 0 0 1) % 6) + 1) % 6)
      k_Q_freeFrame_L24 i_n S113
def p_Q_freeFrame_L24 : Nat → qw_S → Prop
  | 0, S0 =>
    False
  | i_n + 1, S0 =>
    let r101 := k_Q_inFrame S0 (nI ((S0.2 0 0 1) % 6))
    (in_ r101 34) ∧
    (if (S0.1 11 0 r101.toNatClampNeg) = 0 then
      let r104 := k_Q_inFrame S0 (nI ((S0.2 0 0 1) % 6))
      (in_ r104 34) ∧
      ((p_Q_goesOut S0 r104.toNatClampNeg) ∧
      (let S107 := k_Q_goesOut S0 r104.toNatClampNeg
      let x108 := nI ((S107.2 0 0 1) % 6)
      let S109 := qw_sn S107 0 0 1 ((((S107.2 0 0 1) % 6) + 1) % 6)
      True))
    else
      let r110 := k_Q_inFrame S0 (nI ((S0.2 0 0 1) % 6))
      (in_ r110 34) ∧
      (let S112 := qw_si S0 11 0 r110.toNatClampNeg (0 : Int32)
      let S113 := qw_sn S112 0 0 1 ((((S112.2 0 0 1) % 6) + 1) % 6)
      p_Q_freeFrame_L24 i_n S113))
set_option maxHeartbeats 4000000 in
set_option maxRecDepth 100000 in
theorem c_Q_freeFrame_L24 {l : Launch} {D : va_G} {cI cZ : ClassId} {ad : Nat → Nat} {p_ : Program} {e_ : Env} {s_ : State} {m_ : MethodId} {args : Array Value} {below : List Frame} {meth : Method} {c_ : Code} {sz : Nat} (hinj : wl_inj 18 ad) (X : wl_X p_ s_ m_ args c_ b_Q_freeFrame R_Q TT D classes (qw_ty cI cZ) 18 ad (wl_A 18 ad s_.heap.size)) (hsz : s_.heap.size = sz) (hml : c_.maxLocals = 2) (hr : meth.sig.returnType = some .int) (hlocks : meth.locks = false) :
    ∀ (i_n : Nat) (S0 : qw_S) (hp0 : p_Q_freeFrame_L24 i_n S0) (H : Heap) (locs : List Loc) (ls : Array Slot), lv_has ls 2 [(0, .ref (ad 0))] → va_P D classes (wl_W 18 ad (qw_C cI cZ ad S0)) H → va_S (wl_A 18 ad s_.heap.size) s_.heap H locs → W p_ l e_ (rm_ 2) s_ m_ args below meth c_ H locs 0 0 (MQ below (wl_Qi D classes (qw_ty cI cZ) 18 ad ((k_Q_freeFrame_L24 i_n S0).1) (qw_C cI cZ ad ((k_Q_freeFrame_L24 i_n S0).2)) sz) args s_ 0 0 (wl_A 18 ad sz)) (F0 m_ 24 ls []) := by
  have hx := X.1
  have hb := X.2.1
  have hA : ∀ q, s_.heap.size ≤ q → (wl_A 18 ad s_.heap.size) q := fun q h => Or.inr h
  intro i_n
  induction i_n with
  | zero =>
    intro S0 hp0 H locs ls hl hP hS
    exact (show False from hp0).elim
  | succ i_n ih =>
    intro S0 hp0 H locs ls hl hP hS
    refine lv_aload_n hx hb d_Q_freeFrame_24 rfl (lv_at hl 0 rfl) ?_
    refine wl_get (v := .ref (ad 11)) X hP (i := 0) (by decide) (qw_cQ ) rfl i_Q 10 (by decide) lf_Q_41 rfl d_Q_freeFrame_25 ?_
    refine lv_aload_n hx hb d_Q_freeFrame_28 rfl (lv_at hl 0 rfl) ?_
    refine lv_aload_n hx hb d_Q_freeFrame_29 rfl (lv_at hl 0 rfl) ?_
    refine wl_get (v := .int (nI ((S0.2 0 0 1) % 6))) X hP (i := 0) (by decide) (qw_cQ ) rfl i_Q 20 (by decide) lf_Q_77 rfl d_Q_freeFrame_30 ?_
    refine wl_goi1 (cf := qw_C cI cZ ad) (r := k_Q_inFrame S0 (nI ((S0.2 0 0 1) % 6))) hS hA X.2.2.2.2.2.2 (wl_runV (As := [.int (nI ((S0.2 0 0 1) % 6))]) (rest := [.ref (ad 11)]) X hml hl.1 hP g_TT (c_Q_inFrame hinj S0 (nI ((S0.2 0 0 1) % 6)) _) (by decide) (qw_cQ ) rfl wv_Q_74 (na := 1) (by decide +kernel) rfl ⟨Nat.le_of_ble_eq_true rfl, Nat.le_of_ble_eq_true rfl⟩ rfl (Nat.le_of_ble_eq_true rfl) d_Q_freeFrame_33 ⟨Nat.le_refl _, Nat.le_refl _⟩) (fun r101 er101 H locs hP hS => ?_)
    have ob102 : in_ r101 34 := by
      replace er101 := er101.symm
      subst er101
      exact And.left hp0
    obtain ⟨ob102_1, ob102_2⟩ := ob102
    refine wl_zald X hP (i := 11) (by decide) 1 (qw_cused ) rfl (j := r101.toNatClampNeg) ob102_1 (by omega) (by decide) d_Q_freeFrame_36 ?_
    refine lv_if_eq (tgt := 70) hx hb d_Q_freeFrame_37 (by decide) (fun c103 => ?_) (fun c103 => ?_)
    · skip
      refine lv_aload_n hx hb d_Q_freeFrame_70 rfl (lv_at hl 0 rfl) ?_
      refine lv_aload_n hx hb d_Q_freeFrame_71 rfl (lv_at hl 0 rfl) ?_
      refine lv_aload_n hx hb d_Q_freeFrame_72 rfl (lv_at hl 0 rfl) ?_
      refine wl_get (v := .int (nI ((S0.2 0 0 1) % 6))) X hP (i := 0) (by decide) (qw_cQ ) rfl i_Q 20 (by decide) lf_Q_77 rfl d_Q_freeFrame_73 ?_
      refine wl_goi1 (cf := qw_C cI cZ ad) (r := k_Q_inFrame S0 (nI ((S0.2 0 0 1) % 6))) hS hA X.2.2.2.2.2.2 (wl_runV (As := [.int (nI ((S0.2 0 0 1) % 6))]) (rest := [.ref (ad 0)]) X hml hl.1 hP g_TT (c_Q_inFrame hinj S0 (nI ((S0.2 0 0 1) % 6)) _) (by decide) (qw_cQ ) rfl wv_Q_74 (na := 1) (by decide +kernel) rfl ⟨Nat.le_of_ble_eq_true rfl, Nat.le_of_ble_eq_true rfl⟩ rfl (Nat.le_of_ble_eq_true rfl) d_Q_freeFrame_76 ⟨Nat.le_refl _, Nat.le_refl _⟩) (fun r104 er104 H locs hP hS => ?_)
      have ob105 : in_ r104 34 := by
        replace er104 := er104.symm
        subst er104
        replace er101 := er101.symm
        subst er101
        exact And.left (pp_pos c103 (And.right hp0))
      obtain ⟨ob105_1, ob105_2⟩ := ob105
      have ob106 : p_Q_goesOut S0 r104.toNatClampNeg := by
        replace er104 := er104.symm
        subst er104
        replace er101 := er101.symm
        subst er101
        exact And.left (And.right (pp_pos c103 (And.right hp0)))
      refine wl_gov2 (cf := qw_C cI cZ ad) (S2 := k_Q_goesOut S0 r104.toNatClampNeg) hS hA X.2.2.2.2.2.2 (wl_runV (As := [.int r104]) (rest := []) X hml hl.1 hP g_TT (c_Q_goesOut hinj S0 r104 r104.toNatClampNeg ob105_1 (by omega) ob106 _) (by decide) (qw_cQ ) rfl wv_Q_80 (na := 1) (by decide +kernel) rfl ⟨Nat.le_of_ble_eq_true rfl, Nat.le_of_ble_eq_true rfl⟩ rfl (Nat.le_of_ble_eq_true rfl) d_Q_freeFrame_79 ⟨Nat.le_refl _, Nat.le_refl _⟩) (fun S107 eS107 H locs hP hS => ?_)
      refine lv_aload_n hx hb d_Q_freeFrame_82 rfl (lv_at hl 0 rfl) ?_
      refine wl_get (v := .int (nI ((S107.2 0 0 1) % 6))) X hP (i := 0) (by decide) (qw_cQ ) rfl i_Q 20 (by decide) lf_Q_77 rfl d_Q_freeFrame_83 ?_
      refine lv_topi (fun x108 ex108 => ?_)
      refine lv_istore_n (lv' := [(1, .int x108), (0, .ref (ad 0))]) hx hb d_Q_freeFrame_86 rfl hl (by decide) rfl (fun ls hl => ?_)
      refine lv_aload_n hx hb d_Q_freeFrame_87 rfl (lv_at hl 1 rfl) ?_
      refine lv_aload_n hx hb d_Q_freeFrame_88 rfl (lv_at hl 1 rfl) ?_
      refine wl_get (v := .int (nI ((S107.2 0 0 1) % 6))) X hP (i := 0) (by decide) (qw_cQ ) rfl i_Q 20 (by decide) lf_Q_77 rfl d_Q_freeFrame_89 ?_
      refine lv_iconst (v := 1) hx hb d_Q_freeFrame_92 (by decide) ?_
      refine lv_iadd hx hb d_Q_freeFrame_93 ?_
      refine lv_bipush (v := 6) hx hb d_Q_freeFrame_94 (by decide) ?_
      refine lv_irem hx hb d_Q_freeFrame_96 (by decide) ?_
      refine wl_put X hP hS (i := 0) (by decide) (qw_cQ ) rfl i_Q ft_Q ft_Q_ok fn_Q 20 (by decide) lf_Q_77 rfl rfl rfl (Nat.le_of_ble_eq_true rfl) d_Q_freeFrame_97 (qw_pQ_hand (x := ((((S107.2 0 0 1) % 6) + 1) % 6))  (by rw [Nat.mod_eq_of_lt (show ((((S107.2 0 0 1) % 6) + 1) % 6) < 6 by omega)] <;> exact ((congr (congrArg (fun (a b : Int32) => a - a / b * b) (show (nI ((S107.2 0 0 1) % 6)) + (1 : Int32) = nI (((S107.2 0 0 1) % 6) + 1) from (show (nI ((S107.2 0 0 1) % 6)) + (1 : Int32) = nI (((S107.2 0 0 1) % 6) + 1) from nI_add ((S107.2 0 0 1) % 6) 1))) (show (6 : Int32) = nI 6 from rfl)).trans (pk_rem (a := (((S107.2 0 0 1) % 6) + 1)) (d := 6) (by omega) (by omega) (by omega))))) (fun H locs hP hS => ?_)
      obtain ⟨S109, eS109⟩ : ∃ z, z = qw_sn S107 0 0 1 ((((S107.2 0 0 1) % 6) + 1) % 6) := ⟨_, rfl⟩
      rw [← eS109] at hP
      refine lv_iload_n hx hb d_Q_freeFrame_100 rfl (lv_at hl 0 rfl) ?_
      have hE : k_Q_freeFrame_L24 (i_n + 1) S0 = (x108, S109) := by
        replace eS109 := eS109.symm
        subst eS109
        replace ex108 := ex108.symm
        subst ex108
        replace eS107 := eS107.symm
        subst eS107
        replace er104 := er104.symm
        subst er104
        replace er101 := er101.symm
        subst er101
        exact ((if_pos c103).trans rfl)
      rw [hE]
      exact wl_iret X hsz hr hlocks hP hS d_Q_freeFrame_101
    · skip
      refine lv_aload_n hx hb d_Q_freeFrame_40 rfl (lv_at hl 0 rfl) ?_
      refine wl_get (v := .ref (ad 11)) X hP (i := 0) (by decide) (qw_cQ ) rfl i_Q 10 (by decide) lf_Q_41 rfl d_Q_freeFrame_41 ?_
      refine lv_aload_n hx hb d_Q_freeFrame_44 rfl (lv_at hl 0 rfl) ?_
      refine lv_aload_n hx hb d_Q_freeFrame_45 rfl (lv_at hl 0 rfl) ?_
      refine wl_get (v := .int (nI ((S0.2 0 0 1) % 6))) X hP (i := 0) (by decide) (qw_cQ ) rfl i_Q 20 (by decide) lf_Q_77 rfl d_Q_freeFrame_46 ?_
      refine wl_goi1 (cf := qw_C cI cZ ad) (r := k_Q_inFrame S0 (nI ((S0.2 0 0 1) % 6))) hS hA X.2.2.2.2.2.2 (wl_runV (As := [.int (nI ((S0.2 0 0 1) % 6))]) (rest := [.ref (ad 11)]) X hml hl.1 hP g_TT (c_Q_inFrame hinj S0 (nI ((S0.2 0 0 1) % 6)) _) (by decide) (qw_cQ ) rfl wv_Q_74 (na := 1) (by decide +kernel) rfl ⟨Nat.le_of_ble_eq_true rfl, Nat.le_of_ble_eq_true rfl⟩ rfl (Nat.le_of_ble_eq_true rfl) d_Q_freeFrame_49 ⟨Nat.le_refl _, Nat.le_refl _⟩) (fun r110 er110 H locs hP hS => ?_)
      refine lv_iconst (v := 0) hx hb d_Q_freeFrame_52 (by decide) ?_
      have ob111 : in_ r110 34 := by
        replace er110 := er110.symm
        subst er110
        replace er101 := er101.symm
        subst er101
        exact And.left (pp_neg c103 (And.right hp0))
      obtain ⟨ob111_1, ob111_2⟩ := ob111
      refine wl_zast X hP hS (i := 11) (by decide) 1 (qw_cused ) rfl (j := r110.toNatClampNeg) ob111_1 (by omega) (by decide) (x := (0 : Int32)) rfl d_Q_freeFrame_53 (qw_pused ) (fun H locs hP hS => ?_)
      obtain ⟨S112, eS112⟩ : ∃ z, z = qw_si S0 11 0 r110.toNatClampNeg (0 : Int32) := ⟨_, rfl⟩
      rw [← eS112] at hP
      refine lv_aload_n hx hb d_Q_freeFrame_54 rfl (lv_at hl 0 rfl) ?_
      refine lv_aload_n hx hb d_Q_freeFrame_55 rfl (lv_at hl 0 rfl) ?_
      refine wl_get (v := .int (nI ((S112.2 0 0 1) % 6))) X hP (i := 0) (by decide) (qw_cQ ) rfl i_Q 20 (by decide) lf_Q_77 rfl d_Q_freeFrame_56 ?_
      refine lv_iconst (v := 1) hx hb d_Q_freeFrame_59 (by decide) ?_
      refine lv_iadd hx hb d_Q_freeFrame_60 ?_
      refine lv_bipush (v := 6) hx hb d_Q_freeFrame_61 (by decide) ?_
      refine lv_irem hx hb d_Q_freeFrame_63 (by decide) ?_
      refine wl_put X hP hS (i := 0) (by decide) (qw_cQ ) rfl i_Q ft_Q ft_Q_ok fn_Q 20 (by decide) lf_Q_77 rfl rfl rfl (Nat.le_of_ble_eq_true rfl) d_Q_freeFrame_64 (qw_pQ_hand (x := ((((S112.2 0 0 1) % 6) + 1) % 6))  (by rw [Nat.mod_eq_of_lt (show ((((S112.2 0 0 1) % 6) + 1) % 6) < 6 by omega)] <;> exact ((congr (congrArg (fun (a b : Int32) => a - a / b * b) (show (nI ((S112.2 0 0 1) % 6)) + (1 : Int32) = nI (((S112.2 0 0 1) % 6) + 1) from (show (nI ((S112.2 0 0 1) % 6)) + (1 : Int32) = nI (((S112.2 0 0 1) % 6) + 1) from nI_add ((S112.2 0 0 1) % 6) 1))) (show (6 : Int32) = nI 6 from rfl)).trans (pk_rem (a := (((S112.2 0 0 1) % 6) + 1)) (d := 6) (by omega) (by omega) (by omega))))) (fun H locs hP hS => ?_)
      obtain ⟨S113, eS113⟩ : ∃ z, z = qw_sn S112 0 0 1 ((((S112.2 0 0 1) % 6) + 1) % 6) := ⟨_, rfl⟩
      rw [← eS113] at hP
      refine lv_goto (tgt := 24) hx hb d_Q_freeFrame_67 (by decide) ?_
      have hE : k_Q_freeFrame_L24 (i_n + 1) S0 = k_Q_freeFrame_L24 i_n S113 := by
        replace eS113 := eS113.symm
        subst eS113
        replace eS112 := eS112.symm
        subst eS112
        replace er110 := er110.symm
        subst er110
        replace er101 := er101.symm
        subst er101
        exact ((if_neg c103).trans rfl)
      rw [hE]
      exact ih S113 (by replace eS113 := eS113.symm; subst eS113; replace eS112 := eS112.symm; subst eS112; replace er110 := er110.symm; subst er110; replace er101 := er101.symm; subst er101; exact (And.right (pp_neg c103 (And.right hp0)))) _ _ _ (lv_sub hl [0] rfl) hP hS
def k_Q_freeFrame_L2 : Nat → Nat → qw_S → Int32 × qw_S
  | 0, i, S0 =>
    k_Q_freeFrame_L24 7 S0
  | i_n + 1, i, S0 =>
    let r102 := k_Q_inFrame S0 (nI i)
    if 0 ≤ r102 then
      k_Q_freeFrame_L2 i_n (i + 1) S0
    else
      (nI i, S0)
def p_Q_freeFrame_L2 : Nat → Nat → qw_S → Prop
  | 0, i, S0 =>
    p_Q_freeFrame_L24 7 S0
  | i_n + 1, i, S0 =>
    let r102 := k_Q_inFrame S0 (nI i)
    if 0 ≤ r102 then
      p_Q_freeFrame_L2 i_n (i + 1) S0
    else
      True
set_option maxHeartbeats 4000000 in
set_option maxRecDepth 100000 in
theorem c_Q_freeFrame_L2 {l : Launch} {D : va_G} {cI cZ : ClassId} {ad : Nat → Nat} {p_ : Program} {e_ : Env} {s_ : State} {m_ : MethodId} {args : Array Value} {below : List Frame} {meth : Method} {c_ : Code} {sz : Nat} (hinj : wl_inj 18 ad) (X : wl_X p_ s_ m_ args c_ b_Q_freeFrame R_Q TT D classes (qw_ty cI cZ) 18 ad (wl_A 18 ad s_.heap.size)) (hsz : s_.heap.size = sz) (hml : c_.maxLocals = 2) (hr : meth.sig.returnType = some .int) (hlocks : meth.locks = false) :
    ∀ (i_n i : Nat) (S0 : qw_S) (h_i : i + i_n = 6) (hp0 : p_Q_freeFrame_L2 i_n i S0) (H : Heap) (locs : List Loc) (ls : Array Slot), lv_has ls 2 [(0, .ref (ad 0)), (1, .int (nI i))] → va_P D classes (wl_W 18 ad (qw_C cI cZ ad S0)) H → va_S (wl_A 18 ad s_.heap.size) s_.heap H locs → W p_ l e_ (rm_ 2) s_ m_ args below meth c_ H locs 0 0 (MQ below (wl_Qi D classes (qw_ty cI cZ) 18 ad ((k_Q_freeFrame_L2 i_n i S0).1) (qw_C cI cZ ad ((k_Q_freeFrame_L2 i_n i S0).2)) sz) args s_ 0 0 (wl_A 18 ad sz)) (F0 m_ 2 ls []) := by
  have hx := X.1
  have hb := X.2.1
  have hA : ∀ q, s_.heap.size ≤ q → (wl_A 18 ad s_.heap.size) q := fun q h => Or.inr h
  intro i_n
  induction i_n with
  | zero =>
    intro i S0 h_i hp0 H locs ls hl hP hS
    refine lv_iload_n hx hb d_Q_freeFrame_2 rfl (lv_at hl 1 rfl) ?_
    refine lv_bipush (v := 6) hx hb d_Q_freeFrame_3 (by decide) ?_
    refine lv_icmp_ge (tgt := 24) hx hb d_Q_freeFrame_5 (by decide) (fun c1 => ?_) (fun c1 => ?_)
    · skip
      have hE : k_Q_freeFrame_L2 0 i S0 = k_Q_freeFrame_L24 7 S0 := by
        exact rfl
      rw [hE]
      exact c_Q_freeFrame_L24 hinj X hsz hml hr hlocks 7 S0 (by  exact hp0) _ _ _ (lv_sub hl [0] rfl) hP hS
    · exact absurd (sk_lhz h_i) c1
  | succ i_n ih =>
    intro i S0 h_i hp0 H locs ls hl hP hS
    refine lv_iload_n hx hb d_Q_freeFrame_2 rfl (lv_at hl 1 rfl) ?_
    refine lv_bipush (v := 6) hx hb d_Q_freeFrame_3 (by decide) ?_
    refine lv_icmp_ge (tgt := 24) hx hb d_Q_freeFrame_5 (by decide) (fun c101 => ?_) (fun c101 => ?_)
    · exact absurd c101 (sk_lhs h_i)
    · skip
      refine lv_aload_n hx hb d_Q_freeFrame_8 rfl (lv_at hl 0 rfl) ?_
      refine lv_iload_n hx hb d_Q_freeFrame_9 rfl (lv_at hl 1 rfl) ?_
      refine wl_goi1 (cf := qw_C cI cZ ad) (r := k_Q_inFrame S0 (nI i)) hS hA X.2.2.2.2.2.2 (wl_runV (As := [.int (nI i)]) (rest := []) X hml hl.1 hP g_TT (c_Q_inFrame hinj S0 (nI i) _) (by decide) (qw_cQ ) rfl wv_Q_74 (na := 1) (by decide +kernel) rfl ⟨Nat.le_of_ble_eq_true rfl, Nat.le_of_ble_eq_true rfl⟩ rfl (Nat.le_of_ble_eq_true rfl) d_Q_freeFrame_10 ⟨Nat.le_refl _, Nat.le_refl _⟩) (fun r102 er102 H locs hP hS => ?_)
      refine lv_if_ge (tgt := 18) hx hb d_Q_freeFrame_13 (by decide) (fun c103 => ?_) (fun c103 => ?_)
      · skip
        refine lv_iinc (v := nI (i + 1)) (lv' := [(1, .int (nI (i + 1))), (0, .ref (ad 0))]) hx hb d_Q_freeFrame_18 hl (k := 1) rfl (nI_1 _) (by decide) rfl (fun ls hl => ?_)
        refine lv_goto (tgt := 2) hx hb d_Q_freeFrame_21 (by decide) ?_
        have hE : k_Q_freeFrame_L2 (i_n + 1) i S0 = k_Q_freeFrame_L2 i_n (i + 1) S0 := by
          replace er102 := er102.symm
          subst er102
          exact ((if_pos c103).trans rfl)
        rw [hE]
        exact ih (i + 1) S0 (by omega) (by replace er102 := er102.symm; subst er102; exact (pp_pos c103 hp0)) _ _ _ (lv_sub hl [1, 0] rfl) hP hS
      · skip
        refine lv_iload_n hx hb d_Q_freeFrame_16 rfl (lv_at hl 1 rfl) ?_
        have hE : k_Q_freeFrame_L2 (i_n + 1) i S0 = (nI i, S0) := by
          replace er102 := er102.symm
          subst er102
          exact ((if_neg c103).trans rfl)
        rw [hE]
        exact wl_iret X hsz hr hlocks hP hS d_Q_freeFrame_17
def k_Q_freeFrame (S0 : qw_S) : Int32 × qw_S :=
  k_Q_freeFrame_L2 6 0 S0
def p_Q_freeFrame (S0 : qw_S) : Prop :=
  p_Q_freeFrame_L2 6 0 S0
set_option maxHeartbeats 4000000 in
set_option maxRecDepth 100000 in
theorem c_Q_freeFrame {l : Launch} {D : va_G} {cI cZ : ClassId} {ad : Nat → Nat} (hinj : wl_inj 18 ad) (S0 : qw_S)  (hp0 : p_Q_freeFrame S0) : wl_Mi l y_Q_freeFrame (Cond.code y_Q_freeFrame b_Q_freeFrame 2 (some .int) :: TT) (rm_ 2) D classes (qw_ty cI cZ) 18 ad [.ref (ad 0)] (qw_C cI cZ ad S0) ((k_Q_freeFrame S0).1) (qw_C cI cZ ad ((k_Q_freeFrame S0).2)) := by
  intro sz
  refine wl_enter (own := R_Q) rfl (by decide) (Nat.le_of_ble_eq_true rfl) hinj (fun p_ e_ s_ m_ below meth c_ ls hsz X hml hr hlocks hl hP hS => ?_)
  have hx := X.1
  have hb := X.2.1
  have hA : ∀ q, s_.heap.size ≤ q → (wl_A 18 ad s_.heap.size) q := fun q h => Or.inr h
  have hl : lv_has ls 2 [(0, .ref (ad 0))] := hl
  refine lv_iconst (v := 0) hx hb d_Q_freeFrame_0 (by decide) ?_
  refine lv_istore_n (lv' := [(1, .int (0 : Int32)), (0, .ref (ad 0))]) hx hb d_Q_freeFrame_1 rfl hl (by decide) rfl (fun ls hl => ?_)
  have hE : k_Q_freeFrame S0 = k_Q_freeFrame_L2 6 0 S0 := by
    exact rfl
  rw [hE]
  exact c_Q_freeFrame_L2 hinj X hsz hml hr hlocks 6 0 S0 (by omega) (by  exact hp0) _ _ _ (lv_sub hl [1, 0] rfl) hP hS
