/-- what holds at every place of the law: the two worlds, apart from each other, and the script -/
def lw_C (p : Program) (s : State) (m : MethodId) (c : Code) (b L : Nat) (xs : Nat → Int32) (D : va_G) (cI cT cS cZ : ClassId) (aK aQ : Nat → Nat) : Prop :=
  wl_X p s m #[Value.ref b] c code R_law TT D classes (kw_ty cI cT cS) 83 aK (fun q => s.heap.size ≤ q) ∧ wl_X p s m #[Value.ref b] c code R_law TT D classes (qw_ty cI cZ) 18 aQ (fun q => s.heap.size ≤ q) ∧ (∀ i j, i < 83 → j < 18 → aK i ≠ aQ j) ∧ c.maxLocals = 4 ∧ va_X b L xs s s.heap ∧ b < s.heap.size
theorem lw_a1 (i : Nat) : nI i + 1 = nI (i + 1) := nI_add i 1
theorem lw_a2 (i : Nat) : nI i + 2 = nI (i + 2) := nI_add i 2
theorem lw_a3 (i : Nat) : nI i + 3 = nI (i + 3) := nI_add i 3
theorem lw_a4 (i : Nat) : nI i + 4 = nI (i + 4) := nI_add i 4
theorem lw_a4i (i : Nat) : nI i + Int32.ofInt 4 = nI (i + 4) := nI_add i 4
theorem lw_hd {L i : Nat} (hL : L ≤ 2048) (hi : i ≤ L) (h : ¬ nI L - 4 < nI i) : i + 4 ≤ L := by
  rcases Nat.lt_or_ge L 4 with q | q
  · refine absurd (Int32.lt_of_lt_of_le ?_ (nI_pos' (n := i) (by omega))) h
    have hq : L = 0 ∨ L = 1 ∨ L = 2 ∨ L = 3 := by omega
    rcases hq with rfl | rfl | rfl | rfl <;> decide
  · obtain ⟨k, rfl⟩ : ∃ k, L = k + 4 := ⟨L - 4, by omega⟩
    have e : nI (k + 4) - 4 = nI k := by
      rw [← lw_a4 k]
      exact Int32.add_sub_cancel _ _
    rw [e] at h
    apply Classical.byContradiction
    intro z
    exact h (nI_lt (by omega) (by omega))
set_option maxHeartbeats 4000000 in
set_option maxRecDepth 100000 in
theorem lw_case_0 {p : Program} {l : Launch} {e : Env} {s : State} {m : MethodId} {below : List Frame} {meth : Method} {c : Code} {D : va_G} {cI cT cS cZ : ClassId} {aK aQ : Nat → Nat} {b L : Nat} {xs : Nat → Int32} (hL : L ≤ 2048) (C : lw_C p s m c b L xs D cI cT cS cZ aK aQ) {i : Nat} (hi : i + 4 ≤ L) {S : kw_S} {T : qw_S} (h : r_R (10 * i) S T) {H : Heap} {locs : List Loc} {ls : Array Slot} (hPK : va_P D classes (wl_W 83 aK (kw_C cI cT cS aK S)) H) (hPQ : va_P D classes (wl_W 18 aQ (qw_C cI cZ aQ T)) H) (hS : va_S (fun q => s.heap.size ≤ q) s.heap H locs) (hl : lv_has ls 4 [(0, .ref b), (1, .ref (aK 0)), (2, .ref (aQ 0)), (3, .int (nI i))]) {Z : State → Prop}
    (kk : ∀ (S1 : kw_S) (T1 : qw_S) (H1 : Heap) (locs1 : List Loc), r_R (10 * (i + 4)) S1 T1 → va_P D classes (wl_W 83 aK (kw_C cI cT cS aK S1)) H1 → va_P D classes (wl_W 18 aQ (qw_C cI cZ aQ T1)) H1 → va_S (fun q => s.heap.size ≤ q) s.heap H1 locs1 → W p l e room_1 s m #[Value.ref b] below meth c H1 locs1 101 1259 Z (F0 m 341 ls [])) : W p l e room_1 s m #[Value.ref b] below meth c H locs 101 1259 Z (F0 m 84 ls []) := by
  obtain ⟨XK, XQ, hdis, hml, hX, hbl⟩ := C
  have hx := XK.1
  have hb := XK.2.1
  have hA : ∀ q, s.heap.size ≤ q → (fun q : Nat => s.heap.size ≤ q) q := fun _ h => h
  have hbA : ¬ (fun q : Nat => s.heap.size ≤ q) b := Nat.not_le.mpr hbl
  have hB : 10 * i < 2 ^ 30 := by omega
  refine lv_aload_n hx hb d_L_84 rfl (lv_at hl 1 rfl) ?_
  obtain ⟨r1, r2⟩ := r_spawn h
  refine wl_goi hS hA XK.2.2.2.2.2.2 (wl_runV (As := []) (rest := []) XK hml hl.1 hPK g_TT (c_K_spawn XK.2.2.2.2.2.1 S _) (by decide) kw_cK rfl wv_L_13 (na := 0) (by decide +kernel) rfl ⟨Nat.le_of_ble_eq_true rfl, Nat.le_of_ble_eq_true rfl⟩ rfl (Nat.le_of_ble_eq_true rfl) d_L_85 ⟨Nat.le_of_ble_eq_true rfl, Nat.le_of_ble_eq_true rfl⟩) (fun HK locsK hPK hS hzK hkK => ?_)
  have hPQ := wl_kept hPQ hkK (fun a d ha hd => hdis a d ha hd)
  refine lv_aload_n hx hb d_L_88 rfl (lv_at hl 2 rfl) ?_
  refine wl_goi hS hA XQ.2.2.2.2.2.2 (wl_runV (As := []) (rest := [.int (k_K_spawn S).1]) XQ hml hl.1 hPQ g_TT (c_Q_spawn XQ.2.2.2.2.2.1 T _) (by decide) qw_cQ rfl wv_L_17 (na := 0) (by decide +kernel) rfl ⟨Nat.le_of_ble_eq_true rfl, Nat.le_of_ble_eq_true rfl⟩ rfl (Nat.le_of_ble_eq_true rfl) d_L_89 ⟨Nat.le_of_ble_eq_true rfl, Nat.le_of_ble_eq_true rfl⟩) (fun HQ locsQ hPQ hS hzQ hkQ => ?_)
  have hPK := wl_kept hPK hkQ (fun a d ha hd q => hdis d a hd ha q.symm)
  refine lv_icmp_eq (tgt := 341) hx hb d_L_92 (by decide) (fun c_ => ?_) (fun c_ => absurd r1 c_)
  exact kk _ _ _ _ (r_R_B r2 (by omega)) hPK hPQ hS
set_option maxHeartbeats 4000000 in
set_option maxRecDepth 100000 in
theorem lw_case_1 {p : Program} {l : Launch} {e : Env} {s : State} {m : MethodId} {below : List Frame} {meth : Method} {c : Code} {D : va_G} {cI cT cS cZ : ClassId} {aK aQ : Nat → Nat} {b L : Nat} {xs : Nat → Int32} (hL : L ≤ 2048) (C : lw_C p s m c b L xs D cI cT cS cZ aK aQ) {i : Nat} (hi : i + 4 ≤ L) {S : kw_S} {T : qw_S} (h : r_R (10 * i) S T) {H : Heap} {locs : List Loc} {ls : Array Slot} (hPK : va_P D classes (wl_W 83 aK (kw_C cI cT cS aK S)) H) (hPQ : va_P D classes (wl_W 18 aQ (qw_C cI cZ aQ T)) H) (hS : va_S (fun q => s.heap.size ≤ q) s.heap H locs) (hl : lv_has ls 4 [(0, .ref b), (1, .ref (aK 0)), (2, .ref (aQ 0)), (3, .int (nI i))]) {Z : State → Prop}
    (kk : ∀ (S1 : kw_S) (T1 : qw_S) (H1 : Heap) (locs1 : List Loc), r_R (10 * (i + 4)) S1 T1 → va_P D classes (wl_W 83 aK (kw_C cI cT cS aK S1)) H1 → va_P D classes (wl_W 18 aQ (qw_C cI cZ aQ T1)) H1 → va_S (fun q => s.heap.size ≤ q) s.heap H1 locs1 → W p l e room_1 s m #[Value.ref b] below meth c H1 locs1 101 1259 Z (F0 m 341 ls [])) : W p l e room_1 s m #[Value.ref b] below meth c H locs 101 1259 Z (F0 m 97 ls []) := by
  obtain ⟨XK, XQ, hdis, hml, hX, hbl⟩ := C
  have hx := XK.1
  have hb := XK.2.1
  have hA : ∀ q, s.heap.size ≤ q → (fun q : Nat => s.heap.size ≤ q) q := fun _ h => h
  have hbA : ¬ (fun q : Nat => s.heap.size ≤ q) b := Nat.not_le.mpr hbl
  have hB : 10 * i < 2 ^ 30 := by omega
  refine lv_aload_n hx hb d_L_97 rfl (lv_at hl 1 rfl) ?_
  refine lv_aload_n hx hb d_L_98 rfl (lv_at hl 0 rfl) ?_
  refine lv_iload_n hx hb d_L_99 rfl (lv_at hl 3 rfl) ?_
  refine lv_iconst (v := 1) hx hb d_L_100 (by decide) ?_
  refine lv_iadd hx hb d_L_101 ?_
  refine wl_top (lw_a1 i) ?_
  refine va_sld hx hb hX hbl hbA hS (vp_in_nI (by omega) (by omega)) d_L_102 ?_
  refine lv_aload_n hx hb d_L_103 rfl (lv_at hl 0 rfl) ?_
  refine lv_iload_n hx hb d_L_104 rfl (lv_at hl 3 rfl) ?_
  refine lv_iconst (v := 2) hx hb d_L_105 (by decide) ?_
  refine lv_iadd hx hb d_L_106 ?_
  refine wl_top (lw_a2 i) ?_
  refine va_sld hx hb hX hbl hbA hS (vp_in_nI (by omega) (by omega)) d_L_107 ?_
  refine lv_aload_n hx hb d_L_108 rfl (lv_at hl 0 rfl) ?_
  refine lv_iload_n hx hb d_L_109 rfl (lv_at hl 3 rfl) ?_
  refine lv_iconst (v := 3) hx hb d_L_110 (by decide) ?_
  refine lv_iadd hx hb d_L_111 ?_
  refine wl_top (lw_a3 i) ?_
  refine va_sld hx hb hX hbl hbA hS (vp_in_nI (by omega) (by omega)) d_L_112 ?_
  obtain ⟨r0, r1, r2⟩ := r_poke h (xs (nI (i + 1)).toNatClampNeg) (xs (nI (i + 2)).toNatClampNeg) (xs (nI (i + 3)).toNatClampNeg)
  refine wl_goi hS hA XK.2.2.2.2.2.2 (wl_runV (As := [.int (xs (nI (i + 1)).toNatClampNeg), .int (xs (nI (i + 2)).toNatClampNeg), .int (xs (nI (i + 3)).toNatClampNeg)]) (rest := []) XK hml hl.1 hPK g_TT (c_K_poke XK.2.2.2.2.2.1 S (xs (nI (i + 1)).toNatClampNeg) (xs (nI (i + 2)).toNatClampNeg) (xs (nI (i + 3)).toNatClampNeg) (r_fi h hB).2 _) (by decide) kw_cK rfl wv_L_18 (na := 3) (by decide +kernel) rfl ⟨Nat.le_of_ble_eq_true rfl, Nat.le_of_ble_eq_true rfl⟩ rfl (Nat.le_of_ble_eq_true rfl) d_L_113 ⟨Nat.le_of_ble_eq_true rfl, Nat.le_of_ble_eq_true rfl⟩) (fun HK locsK hPK hS hzK hkK => ?_)
  have hPQ := wl_kept hPQ hkK (fun a d ha hd => hdis a d ha hd)
  refine lv_aload_n hx hb d_L_116 rfl (lv_at hl 2 rfl) ?_
  refine lv_aload_n hx hb d_L_117 rfl (lv_at hl 0 rfl) ?_
  refine lv_iload_n hx hb d_L_118 rfl (lv_at hl 3 rfl) ?_
  refine lv_iconst (v := 1) hx hb d_L_119 (by decide) ?_
  refine lv_iadd hx hb d_L_120 ?_
  refine wl_top (lw_a1 i) ?_
  refine va_sld hx hb hX hbl hbA hS (vp_in_nI (by omega) (by omega)) d_L_121 ?_
  refine lv_aload_n hx hb d_L_122 rfl (lv_at hl 0 rfl) ?_
  refine lv_iload_n hx hb d_L_123 rfl (lv_at hl 3 rfl) ?_
  refine lv_iconst (v := 2) hx hb d_L_124 (by decide) ?_
  refine lv_iadd hx hb d_L_125 ?_
  refine wl_top (lw_a2 i) ?_
  refine va_sld hx hb hX hbl hbA hS (vp_in_nI (by omega) (by omega)) d_L_126 ?_
  refine lv_aload_n hx hb d_L_127 rfl (lv_at hl 0 rfl) ?_
  refine lv_iload_n hx hb d_L_128 rfl (lv_at hl 3 rfl) ?_
  refine lv_iconst (v := 3) hx hb d_L_129 (by decide) ?_
  refine lv_iadd hx hb d_L_130 ?_
  refine wl_top (lw_a3 i) ?_
  refine va_sld hx hb hX hbl hbA hS (vp_in_nI (by omega) (by omega)) d_L_131 ?_
  refine wl_goi hS hA XQ.2.2.2.2.2.2 (wl_runV (As := [.int (xs (nI (i + 1)).toNatClampNeg), .int (xs (nI (i + 2)).toNatClampNeg), .int (xs (nI (i + 3)).toNatClampNeg)]) (rest := [.int (k_K_poke S (xs (nI (i + 1)).toNatClampNeg) (xs (nI (i + 2)).toNatClampNeg) (xs (nI (i + 3)).toNatClampNeg)).1]) XQ hml hl.1 hPQ g_TT (c_Q_poke XQ.2.2.2.2.2.1 T (xs (nI (i + 1)).toNatClampNeg) (xs (nI (i + 2)).toNatClampNeg) (xs (nI (i + 3)).toNatClampNeg) r0 _) (by decide) qw_cQ rfl wv_L_22 (na := 3) (by decide +kernel) rfl ⟨Nat.le_of_ble_eq_true rfl, Nat.le_of_ble_eq_true rfl⟩ rfl (Nat.le_of_ble_eq_true rfl) d_L_132 ⟨Nat.le_of_ble_eq_true rfl, Nat.le_of_ble_eq_true rfl⟩) (fun HQ locsQ hPQ hS hzQ hkQ => ?_)
  have hPK := wl_kept hPK hkQ (fun a d ha hd q => hdis d a hd ha q.symm)
  refine lv_icmp_eq (tgt := 341) hx hb d_L_135 (by decide) (fun c_ => ?_) (fun c_ => absurd r1 c_)
  exact kk _ _ _ _ (r_R_B r2 (by omega)) hPK hPQ hS
set_option maxHeartbeats 4000000 in
set_option maxRecDepth 100000 in
theorem lw_case_2 {p : Program} {l : Launch} {e : Env} {s : State} {m : MethodId} {below : List Frame} {meth : Method} {c : Code} {D : va_G} {cI cT cS cZ : ClassId} {aK aQ : Nat → Nat} {b L : Nat} {xs : Nat → Int32} (hL : L ≤ 2048) (C : lw_C p s m c b L xs D cI cT cS cZ aK aQ) {i : Nat} (hi : i + 4 ≤ L) {S : kw_S} {T : qw_S} (h : r_R (10 * i) S T) {H : Heap} {locs : List Loc} {ls : Array Slot} (hPK : va_P D classes (wl_W 83 aK (kw_C cI cT cS aK S)) H) (hPQ : va_P D classes (wl_W 18 aQ (qw_C cI cZ aQ T)) H) (hS : va_S (fun q => s.heap.size ≤ q) s.heap H locs) (hl : lv_has ls 4 [(0, .ref b), (1, .ref (aK 0)), (2, .ref (aQ 0)), (3, .int (nI i))]) {Z : State → Prop}
    (kk : ∀ (S1 : kw_S) (T1 : qw_S) (H1 : Heap) (locs1 : List Loc), r_R (10 * (i + 4)) S1 T1 → va_P D classes (wl_W 83 aK (kw_C cI cT cS aK S1)) H1 → va_P D classes (wl_W 18 aQ (qw_C cI cZ aQ T1)) H1 → va_S (fun q => s.heap.size ≤ q) s.heap H1 locs1 → W p l e room_1 s m #[Value.ref b] below meth c H1 locs1 101 1259 Z (F0 m 341 ls [])) : W p l e room_1 s m #[Value.ref b] below meth c H locs 101 1259 Z (F0 m 140 ls []) := by
  obtain ⟨XK, XQ, hdis, hml, hX, hbl⟩ := C
  have hx := XK.1
  have hb := XK.2.1
  have hA : ∀ q, s.heap.size ≤ q → (fun q : Nat => s.heap.size ≤ q) q := fun _ h => h
  have hbA : ¬ (fun q : Nat => s.heap.size ≤ q) b := Nat.not_le.mpr hbl
  have hB : 10 * i < 2 ^ 30 := by omega
  refine lv_aload_n hx hb d_L_140 rfl (lv_at hl 1 rfl) ?_
  refine lv_aload_n hx hb d_L_141 rfl (lv_at hl 0 rfl) ?_
  refine lv_iload_n hx hb d_L_142 rfl (lv_at hl 3 rfl) ?_
  refine lv_iconst (v := 1) hx hb d_L_143 (by decide) ?_
  refine lv_iadd hx hb d_L_144 ?_
  refine wl_top (lw_a1 i) ?_
  refine va_sld hx hb hX hbl hbA hS (vp_in_nI (by omega) (by omega)) d_L_145 ?_
  refine lv_aload_n hx hb d_L_146 rfl (lv_at hl 0 rfl) ?_
  refine lv_iload_n hx hb d_L_147 rfl (lv_at hl 3 rfl) ?_
  refine lv_iconst (v := 2) hx hb d_L_148 (by decide) ?_
  refine lv_iadd hx hb d_L_149 ?_
  refine wl_top (lw_a2 i) ?_
  refine va_sld hx hb hX hbl hbA hS (vp_in_nI (by omega) (by omega)) d_L_150 ?_
  have r1 := r_peek h (xs (nI (i + 1)).toNatClampNeg) (xs (nI (i + 2)).toNatClampNeg)
  have r2 := h
  refine wl_goi hS hA XK.2.2.2.2.2.2 (wl_runV (As := [.int (xs (nI (i + 1)).toNatClampNeg), .int (xs (nI (i + 2)).toNatClampNeg)]) (rest := []) XK hml hl.1 hPK g_TT (c_K_peek XK.2.2.2.2.2.1 S (xs (nI (i + 1)).toNatClampNeg) (xs (nI (i + 2)).toNatClampNeg) _) (by decide) kw_cK rfl wv_L_23 (na := 2) (by decide +kernel) rfl ⟨Nat.le_of_ble_eq_true rfl, Nat.le_of_ble_eq_true rfl⟩ rfl (Nat.le_of_ble_eq_true rfl) d_L_151 ⟨Nat.le_of_ble_eq_true rfl, Nat.le_of_ble_eq_true rfl⟩) (fun HK locsK hPK hS hzK hkK => ?_)
  have hPQ := wl_kept hPQ hkK (fun a d ha hd => hdis a d ha hd)
  refine lv_aload_n hx hb d_L_154 rfl (lv_at hl 2 rfl) ?_
  refine lv_aload_n hx hb d_L_155 rfl (lv_at hl 0 rfl) ?_
  refine lv_iload_n hx hb d_L_156 rfl (lv_at hl 3 rfl) ?_
  refine lv_iconst (v := 1) hx hb d_L_157 (by decide) ?_
  refine lv_iadd hx hb d_L_158 ?_
  refine wl_top (lw_a1 i) ?_
  refine va_sld hx hb hX hbl hbA hS (vp_in_nI (by omega) (by omega)) d_L_159 ?_
  refine lv_aload_n hx hb d_L_160 rfl (lv_at hl 0 rfl) ?_
  refine lv_iload_n hx hb d_L_161 rfl (lv_at hl 3 rfl) ?_
  refine lv_iconst (v := 2) hx hb d_L_162 (by decide) ?_
  refine lv_iadd hx hb d_L_163 ?_
  refine wl_top (lw_a2 i) ?_
  refine va_sld hx hb hX hbl hbA hS (vp_in_nI (by omega) (by omega)) d_L_164 ?_
  refine wl_goi hS hA XQ.2.2.2.2.2.2 (wl_runV (As := [.int (xs (nI (i + 1)).toNatClampNeg), .int (xs (nI (i + 2)).toNatClampNeg)]) (rest := [.int (k_K_peek S (xs (nI (i + 1)).toNatClampNeg) (xs (nI (i + 2)).toNatClampNeg))]) XQ hml hl.1 hPQ g_TT (c_Q_peek XQ.2.2.2.2.2.1 T (xs (nI (i + 1)).toNatClampNeg) (xs (nI (i + 2)).toNatClampNeg) _) (by decide) qw_cQ rfl wv_L_27 (na := 2) (by decide +kernel) rfl ⟨Nat.le_of_ble_eq_true rfl, Nat.le_of_ble_eq_true rfl⟩ rfl (Nat.le_of_ble_eq_true rfl) d_L_165 ⟨Nat.le_of_ble_eq_true rfl, Nat.le_of_ble_eq_true rfl⟩) (fun HQ locsQ hPQ hS hzQ hkQ => ?_)
  have hPK := wl_kept hPK hkQ (fun a d ha hd q => hdis d a hd ha q.symm)
  refine lv_icmp_eq (tgt := 341) hx hb d_L_168 (by decide) (fun c_ => ?_) (fun c_ => absurd r1 c_)
  exact kk _ _ _ _ (r_R_B r2 (by omega)) hPK hPQ hS
set_option maxHeartbeats 4000000 in
set_option maxRecDepth 100000 in
theorem lw_case_3 {p : Program} {l : Launch} {e : Env} {s : State} {m : MethodId} {below : List Frame} {meth : Method} {c : Code} {D : va_G} {cI cT cS cZ : ClassId} {aK aQ : Nat → Nat} {b L : Nat} {xs : Nat → Int32} (hL : L ≤ 2048) (C : lw_C p s m c b L xs D cI cT cS cZ aK aQ) {i : Nat} (hi : i + 4 ≤ L) {S : kw_S} {T : qw_S} (h : r_R (10 * i) S T) {H : Heap} {locs : List Loc} {ls : Array Slot} (hPK : va_P D classes (wl_W 83 aK (kw_C cI cT cS aK S)) H) (hPQ : va_P D classes (wl_W 18 aQ (qw_C cI cZ aQ T)) H) (hS : va_S (fun q => s.heap.size ≤ q) s.heap H locs) (hl : lv_has ls 4 [(0, .ref b), (1, .ref (aK 0)), (2, .ref (aQ 0)), (3, .int (nI i))]) {Z : State → Prop}
    (kk : ∀ (S1 : kw_S) (T1 : qw_S) (H1 : Heap) (locs1 : List Loc), r_R (10 * (i + 4)) S1 T1 → va_P D classes (wl_W 83 aK (kw_C cI cT cS aK S1)) H1 → va_P D classes (wl_W 18 aQ (qw_C cI cZ aQ T1)) H1 → va_S (fun q => s.heap.size ≤ q) s.heap H1 locs1 → W p l e room_1 s m #[Value.ref b] below meth c H1 locs1 101 1259 Z (F0 m 341 ls [])) : W p l e room_1 s m #[Value.ref b] below meth c H locs 101 1259 Z (F0 m 173 ls []) := by
  obtain ⟨XK, XQ, hdis, hml, hX, hbl⟩ := C
  have hx := XK.1
  have hb := XK.2.1
  have hA : ∀ q, s.heap.size ≤ q → (fun q : Nat => s.heap.size ≤ q) q := fun _ h => h
  have hbA : ¬ (fun q : Nat => s.heap.size ≤ q) b := Nat.not_le.mpr hbl
  have hB : 10 * i < 2 ^ 30 := by omega
  refine lv_aload_n hx hb d_L_173 rfl (lv_at hl 1 rfl) ?_
  refine lv_aload_n hx hb d_L_174 rfl (lv_at hl 0 rfl) ?_
  refine lv_iload_n hx hb d_L_175 rfl (lv_at hl 3 rfl) ?_
  refine lv_iconst (v := 1) hx hb d_L_176 (by decide) ?_
  refine lv_iadd hx hb d_L_177 ?_
  refine wl_top (lw_a1 i) ?_
  refine va_sld hx hb hX hbl hbA hS (vp_in_nI (by omega) (by omega)) d_L_178 ?_
  obtain ⟨r1, r2⟩ := r_kill h (xs (nI (i + 1)).toNatClampNeg)
  refine wl_goi hS hA XK.2.2.2.2.2.2 (wl_runV (As := [.int (xs (nI (i + 1)).toNatClampNeg)]) (rest := []) XK hml hl.1 hPK g_TT (c_K_kill XK.2.2.2.2.2.1 S (xs (nI (i + 1)).toNatClampNeg) _) (by decide) kw_cK rfl wv_L_28 (na := 1) (by decide +kernel) rfl ⟨Nat.le_of_ble_eq_true rfl, Nat.le_of_ble_eq_true rfl⟩ rfl (Nat.le_of_ble_eq_true rfl) d_L_179 ⟨Nat.le_of_ble_eq_true rfl, Nat.le_of_ble_eq_true rfl⟩) (fun HK locsK hPK hS hzK hkK => ?_)
  have hPQ := wl_kept hPQ hkK (fun a d ha hd => hdis a d ha hd)
  refine lv_aload_n hx hb d_L_182 rfl (lv_at hl 2 rfl) ?_
  refine lv_aload_n hx hb d_L_183 rfl (lv_at hl 0 rfl) ?_
  refine lv_iload_n hx hb d_L_184 rfl (lv_at hl 3 rfl) ?_
  refine lv_iconst (v := 1) hx hb d_L_185 (by decide) ?_
  refine lv_iadd hx hb d_L_186 ?_
  refine wl_top (lw_a1 i) ?_
  refine va_sld hx hb hX hbl hbA hS (vp_in_nI (by omega) (by omega)) d_L_187 ?_
  refine wl_goi hS hA XQ.2.2.2.2.2.2 (wl_runV (As := [.int (xs (nI (i + 1)).toNatClampNeg)]) (rest := [.int (k_K_kill S (xs (nI (i + 1)).toNatClampNeg)).1]) XQ hml hl.1 hPQ g_TT (c_Q_kill XQ.2.2.2.2.2.1 T (xs (nI (i + 1)).toNatClampNeg) _) (by decide) qw_cQ rfl wv_L_32 (na := 1) (by decide +kernel) rfl ⟨Nat.le_of_ble_eq_true rfl, Nat.le_of_ble_eq_true rfl⟩ rfl (Nat.le_of_ble_eq_true rfl) d_L_188 ⟨Nat.le_of_ble_eq_true rfl, Nat.le_of_ble_eq_true rfl⟩) (fun HQ locsQ hPQ hS hzQ hkQ => ?_)
  have hPK := wl_kept hPK hkQ (fun a d ha hd q => hdis d a hd ha q.symm)
  refine lv_icmp_eq (tgt := 341) hx hb d_L_191 (by decide) (fun c_ => ?_) (fun c_ => absurd r1 c_)
  exact kk _ _ _ _ (r_R_B r2 (by omega)) hPK hPQ hS
set_option maxHeartbeats 4000000 in
set_option maxRecDepth 100000 in
theorem lw_case_4 {p : Program} {l : Launch} {e : Env} {s : State} {m : MethodId} {below : List Frame} {meth : Method} {c : Code} {D : va_G} {cI cT cS cZ : ClassId} {aK aQ : Nat → Nat} {b L : Nat} {xs : Nat → Int32} (hL : L ≤ 2048) (C : lw_C p s m c b L xs D cI cT cS cZ aK aQ) {i : Nat} (hi : i + 4 ≤ L) {S : kw_S} {T : qw_S} (h : r_R (10 * i) S T) {H : Heap} {locs : List Loc} {ls : Array Slot} (hPK : va_P D classes (wl_W 83 aK (kw_C cI cT cS aK S)) H) (hPQ : va_P D classes (wl_W 18 aQ (qw_C cI cZ aQ T)) H) (hS : va_S (fun q => s.heap.size ≤ q) s.heap H locs) (hl : lv_has ls 4 [(0, .ref b), (1, .ref (aK 0)), (2, .ref (aQ 0)), (3, .int (nI i))]) {Z : State → Prop}
    (kk : ∀ (S1 : kw_S) (T1 : qw_S) (H1 : Heap) (locs1 : List Loc), r_R (10 * (i + 4)) S1 T1 → va_P D classes (wl_W 83 aK (kw_C cI cT cS aK S1)) H1 → va_P D classes (wl_W 18 aQ (qw_C cI cZ aQ T1)) H1 → va_S (fun q => s.heap.size ≤ q) s.heap H1 locs1 → W p l e room_1 s m #[Value.ref b] below meth c H1 locs1 101 1259 Z (F0 m 341 ls [])) : W p l e room_1 s m #[Value.ref b] below meth c H locs 101 1259 Z (F0 m 196 ls []) := by
  obtain ⟨XK, XQ, hdis, hml, hX, hbl⟩ := C
  have hx := XK.1
  have hb := XK.2.1
  have hA : ∀ q, s.heap.size ≤ q → (fun q : Nat => s.heap.size ≤ q) q := fun _ h => h
  have hbA : ¬ (fun q : Nat => s.heap.size ≤ q) b := Nat.not_le.mpr hbl
  have hB : 10 * i < 2 ^ 30 := by omega
  refine lv_aload_n hx hb d_L_196 rfl (lv_at hl 1 rfl) ?_
  refine lv_aload_n hx hb d_L_197 rfl (lv_at hl 0 rfl) ?_
  refine lv_iload_n hx hb d_L_198 rfl (lv_at hl 3 rfl) ?_
  refine lv_iconst (v := 1) hx hb d_L_199 (by decide) ?_
  refine lv_iadd hx hb d_L_200 ?_
  refine wl_top (lw_a1 i) ?_
  refine va_sld hx hb hX hbl hbA hS (vp_in_nI (by omega) (by omega)) d_L_201 ?_
  obtain ⟨rk, r0, r1, r2⟩ := r_run h (by omega) (xs (nI (i + 1)).toNatClampNeg)
  refine wl_goi hS hA XK.2.2.2.2.2.2 (wl_runV (As := [.int (xs (nI (i + 1)).toNatClampNeg)]) (rest := []) XK hml hl.1 hPK g_TT (c_K_run XK.2.2.2.2.2.1 S (xs (nI (i + 1)).toNatClampNeg) rk _) (by decide) kw_cK rfl wv_L_33 (na := 1) (by decide +kernel) rfl ⟨Nat.le_of_ble_eq_true rfl, Nat.le_of_ble_eq_true rfl⟩ rfl (Nat.le_of_ble_eq_true rfl) d_L_202 ⟨Nat.le_of_ble_eq_true rfl, Nat.le_of_ble_eq_true rfl⟩) (fun HK locsK hPK hS hzK hkK => ?_)
  have hPQ := wl_kept hPQ hkK (fun a d ha hd => hdis a d ha hd)
  refine lv_aload_n hx hb d_L_205 rfl (lv_at hl 2 rfl) ?_
  refine lv_aload_n hx hb d_L_206 rfl (lv_at hl 0 rfl) ?_
  refine lv_iload_n hx hb d_L_207 rfl (lv_at hl 3 rfl) ?_
  refine lv_iconst (v := 1) hx hb d_L_208 (by decide) ?_
  refine lv_iadd hx hb d_L_209 ?_
  refine wl_top (lw_a1 i) ?_
  refine va_sld hx hb hX hbl hbA hS (vp_in_nI (by omega) (by omega)) d_L_210 ?_
  refine wl_goi hS hA XQ.2.2.2.2.2.2 (wl_runV (As := [.int (xs (nI (i + 1)).toNatClampNeg)]) (rest := [.int (k_K_run S (xs (nI (i + 1)).toNatClampNeg)).1]) XQ hml hl.1 hPQ g_TT (c_Q_run XQ.2.2.2.2.2.1 T (xs (nI (i + 1)).toNatClampNeg) r0 _) (by decide) qw_cQ rfl wv_L_37 (na := 1) (by decide +kernel) rfl ⟨Nat.le_of_ble_eq_true rfl, Nat.le_of_ble_eq_true rfl⟩ rfl (Nat.le_of_ble_eq_true rfl) d_L_211 ⟨Nat.le_of_ble_eq_true rfl, Nat.le_of_ble_eq_true rfl⟩) (fun HQ locsQ hPQ hS hzQ hkQ => ?_)
  have hPK := wl_kept hPK hkQ (fun a d ha hd q => hdis d a hd ha q.symm)
  refine lv_icmp_eq (tgt := 341) hx hb d_L_214 (by decide) (fun c_ => ?_) (fun c_ => absurd r1 c_)
  exact kk _ _ _ _ (r_R_B r2 (by omega)) hPK hPQ hS
set_option maxHeartbeats 4000000 in
set_option maxRecDepth 100000 in
theorem lw_case_5 {p : Program} {l : Launch} {e : Env} {s : State} {m : MethodId} {below : List Frame} {meth : Method} {c : Code} {D : va_G} {cI cT cS cZ : ClassId} {aK aQ : Nat → Nat} {b L : Nat} {xs : Nat → Int32} (hL : L ≤ 2048) (C : lw_C p s m c b L xs D cI cT cS cZ aK aQ) {i : Nat} (hi : i + 4 ≤ L) {S : kw_S} {T : qw_S} (h : r_R (10 * i) S T) {H : Heap} {locs : List Loc} {ls : Array Slot} (hPK : va_P D classes (wl_W 83 aK (kw_C cI cT cS aK S)) H) (hPQ : va_P D classes (wl_W 18 aQ (qw_C cI cZ aQ T)) H) (hS : va_S (fun q => s.heap.size ≤ q) s.heap H locs) (hl : lv_has ls 4 [(0, .ref b), (1, .ref (aK 0)), (2, .ref (aQ 0)), (3, .int (nI i))]) {Z : State → Prop}
    (hN : L ≤ 4) (h0 : (i = 0 → ∀ q, q < 4 → S.1 7 q 0 = 0)) (kk : ∀ (S1 : kw_S) (T1 : qw_S) (H1 : Heap) (locs1 : List Loc), r_R (10 * (i + 4)) S1 T1 → va_P D classes (wl_W 83 aK (kw_C cI cT cS aK S1)) H1 → va_P D classes (wl_W 18 aQ (qw_C cI cZ aQ T1)) H1 → va_S (fun q => s.heap.size ≤ q) s.heap H1 locs1 → W p l e room_1 s m #[Value.ref b] below meth c H1 locs1 101 1259 Z (F0 m 341 ls [])) : W p l e room_1 s m #[Value.ref b] below meth c H locs 101 1259 Z (F0 m 219 ls []) := by
  obtain ⟨XK, XQ, hdis, hml, hX, hbl⟩ := C
  have hx := XK.1
  have hb := XK.2.1
  have hA : ∀ q, s.heap.size ≤ q → (fun q : Nat => s.heap.size ≤ q) q := fun _ h => h
  have hbA : ¬ (fun q : Nat => s.heap.size ≤ q) b := Nat.not_le.mpr hbl
  have hB : 10 * i < 2 ^ 30 := by omega
  refine lv_aload_n hx hb d_L_219 rfl (lv_at hl 1 rfl) ?_
  refine lv_aload_n hx hb d_L_220 rfl (lv_at hl 0 rfl) ?_
  refine lv_iload_n hx hb d_L_221 rfl (lv_at hl 3 rfl) ?_
  refine lv_iconst (v := 1) hx hb d_L_222 (by decide) ?_
  refine lv_iadd hx hb d_L_223 ?_
  refine wl_top (lw_a1 i) ?_
  refine va_sld hx hb hX hbl hbA hS (vp_in_nI (by omega) (by omega)) d_L_224 ?_
  refine lv_aload_n hx hb d_L_225 rfl (lv_at hl 0 rfl) ?_
  refine lv_iload_n hx hb d_L_226 rfl (lv_at hl 3 rfl) ?_
  refine lv_iconst (v := 2) hx hb d_L_227 (by decide) ?_
  refine lv_iadd hx hb d_L_228 ?_
  refine wl_top (lw_a2 i) ?_
  refine va_sld hx hb hX hbl hbA hS (vp_in_nI (by omega) (by omega)) d_L_229 ?_
  have r1 := r_process0 h (h0 (by omega)) (xs (nI (i + 1)).toNatClampNeg) (xs (nI (i + 2)).toNatClampNeg)
  have r2 := h
  refine wl_goi hS hA XK.2.2.2.2.2.2 (wl_runV (As := [.int (xs (nI (i + 1)).toNatClampNeg), .int (xs (nI (i + 2)).toNatClampNeg)]) (rest := []) XK hml hl.1 hPK g_TT (c_K_process XK.2.2.2.2.2.1 S (xs (nI (i + 1)).toNatClampNeg) (xs (nI (i + 2)).toNatClampNeg) _) (by decide) kw_cK rfl wv_L_38 (na := 2) (by decide +kernel) rfl ⟨Nat.le_of_ble_eq_true rfl, Nat.le_of_ble_eq_true rfl⟩ rfl (Nat.le_of_ble_eq_true rfl) d_L_230 ⟨Nat.le_of_ble_eq_true rfl, Nat.le_of_ble_eq_true rfl⟩) (fun HK locsK hPK hS hzK hkK => ?_)
  have hPQ := wl_kept hPQ hkK (fun a d ha hd => hdis a d ha hd)
  refine lv_aload_n hx hb d_L_233 rfl (lv_at hl 2 rfl) ?_
  refine lv_aload_n hx hb d_L_234 rfl (lv_at hl 0 rfl) ?_
  refine lv_iload_n hx hb d_L_235 rfl (lv_at hl 3 rfl) ?_
  refine lv_iconst (v := 1) hx hb d_L_236 (by decide) ?_
  refine lv_iadd hx hb d_L_237 ?_
  refine wl_top (lw_a1 i) ?_
  refine va_sld hx hb hX hbl hbA hS (vp_in_nI (by omega) (by omega)) d_L_238 ?_
  refine lv_aload_n hx hb d_L_239 rfl (lv_at hl 0 rfl) ?_
  refine lv_iload_n hx hb d_L_240 rfl (lv_at hl 3 rfl) ?_
  refine lv_iconst (v := 2) hx hb d_L_241 (by decide) ?_
  refine lv_iadd hx hb d_L_242 ?_
  refine wl_top (lw_a2 i) ?_
  refine va_sld hx hb hX hbl hbA hS (vp_in_nI (by omega) (by omega)) d_L_243 ?_
  refine wl_goi hS hA XQ.2.2.2.2.2.2 (wl_runV (As := [.int (xs (nI (i + 1)).toNatClampNeg), .int (xs (nI (i + 2)).toNatClampNeg)]) (rest := [.int (k_K_process S (xs (nI (i + 1)).toNatClampNeg) (xs (nI (i + 2)).toNatClampNeg))]) XQ hml hl.1 hPQ g_TT (c_Q_process XQ.2.2.2.2.2.1 T (xs (nI (i + 1)).toNatClampNeg) (xs (nI (i + 2)).toNatClampNeg) _) (by decide) qw_cQ rfl wv_L_41 (na := 2) (by decide +kernel) rfl ⟨Nat.le_of_ble_eq_true rfl, Nat.le_of_ble_eq_true rfl⟩ rfl (Nat.le_of_ble_eq_true rfl) d_L_244 ⟨Nat.le_of_ble_eq_true rfl, Nat.le_of_ble_eq_true rfl⟩) (fun HQ locsQ hPQ hS hzQ hkQ => ?_)
  have hPK := wl_kept hPK hkQ (fun a d ha hd q => hdis d a hd ha q.symm)
  refine lv_icmp_eq (tgt := 341) hx hb d_L_247 (by decide) (fun c_ => ?_) (fun c_ => absurd r1 c_)
  exact kk _ _ _ _ (r_R_B r2 (by omega)) hPK hPQ hS
set_option maxHeartbeats 4000000 in
set_option maxRecDepth 100000 in
theorem lw_case_6 {p : Program} {l : Launch} {e : Env} {s : State} {m : MethodId} {below : List Frame} {meth : Method} {c : Code} {D : va_G} {cI cT cS cZ : ClassId} {aK aQ : Nat → Nat} {b L : Nat} {xs : Nat → Int32} (hL : L ≤ 2048) (C : lw_C p s m c b L xs D cI cT cS cZ aK aQ) {i : Nat} (hi : i + 4 ≤ L) {S : kw_S} {T : qw_S} (h : r_R (10 * i) S T) {H : Heap} {locs : List Loc} {ls : Array Slot} (hPK : va_P D classes (wl_W 83 aK (kw_C cI cT cS aK S)) H) (hPQ : va_P D classes (wl_W 18 aQ (qw_C cI cZ aQ T)) H) (hS : va_S (fun q => s.heap.size ≤ q) s.heap H locs) (hl : lv_has ls 4 [(0, .ref b), (1, .ref (aK 0)), (2, .ref (aQ 0)), (3, .int (nI i))]) {Z : State → Prop}
    (kk : ∀ (S1 : kw_S) (T1 : qw_S) (H1 : Heap) (locs1 : List Loc), r_R (10 * (i + 4)) S1 T1 → va_P D classes (wl_W 83 aK (kw_C cI cT cS aK S1)) H1 → va_P D classes (wl_W 18 aQ (qw_C cI cZ aQ T1)) H1 → va_S (fun q => s.heap.size ≤ q) s.heap H1 locs1 → W p l e room_1 s m #[Value.ref b] below meth c H1 locs1 101 1259 Z (F0 m 341 ls [])) : W p l e room_1 s m #[Value.ref b] below meth c H locs 101 1259 Z (F0 m 252 ls []) := by
  obtain ⟨XK, XQ, hdis, hml, hX, hbl⟩ := C
  have hx := XK.1
  have hb := XK.2.1
  have hA : ∀ q, s.heap.size ≤ q → (fun q : Nat => s.heap.size ≤ q) q := fun _ h => h
  have hbA : ¬ (fun q : Nat => s.heap.size ≤ q) b := Nat.not_le.mpr hbl
  have hB : 10 * i < 2 ^ 30 := by omega
  refine lv_aload_n hx hb d_L_252 rfl (lv_at hl 1 rfl) ?_
  refine lv_aload_n hx hb d_L_253 rfl (lv_at hl 0 rfl) ?_
  refine lv_iload_n hx hb d_L_254 rfl (lv_at hl 3 rfl) ?_
  refine lv_iconst (v := 1) hx hb d_L_255 (by decide) ?_
  refine lv_iadd hx hb d_L_256 ?_
  refine wl_top (lw_a1 i) ?_
  refine va_sld hx hb hX hbl hbA hS (vp_in_nI (by omega) (by omega)) d_L_257 ?_
  refine lv_aload_n hx hb d_L_258 rfl (lv_at hl 0 rfl) ?_
  refine lv_iload_n hx hb d_L_259 rfl (lv_at hl 3 rfl) ?_
  refine lv_iconst (v := 2) hx hb d_L_260 (by decide) ?_
  refine lv_iadd hx hb d_L_261 ?_
  refine wl_top (lw_a2 i) ?_
  refine va_sld hx hb hX hbl hbA hS (vp_in_nI (by omega) (by omega)) d_L_262 ?_
  refine lv_aload_n hx hb d_L_263 rfl (lv_at hl 0 rfl) ?_
  refine lv_iload_n hx hb d_L_264 rfl (lv_at hl 3 rfl) ?_
  refine lv_iconst (v := 3) hx hb d_L_265 (by decide) ?_
  refine lv_iadd hx hb d_L_266 ?_
  refine wl_top (lw_a3 i) ?_
  refine va_sld hx hb hX hbl hbA hS (vp_in_nI (by omega) (by omega)) d_L_267 ?_
  have r1 := r_page h (xs (nI (i + 1)).toNatClampNeg) (xs (nI (i + 2)).toNatClampNeg) (xs (nI (i + 3)).toNatClampNeg)
  have r2 := h
  refine wl_goi hS hA XK.2.2.2.2.2.2 (wl_runV (As := [.int (xs (nI (i + 1)).toNatClampNeg), .int (xs (nI (i + 2)).toNatClampNeg), .int (xs (nI (i + 3)).toNatClampNeg)]) (rest := []) XK hml hl.1 hPK g_TT (c_K_page XK.2.2.2.2.2.1 S (xs (nI (i + 1)).toNatClampNeg) (xs (nI (i + 2)).toNatClampNeg) (xs (nI (i + 3)).toNatClampNeg) _) (by decide) kw_cK rfl wv_L_42 (na := 3) (by decide +kernel) rfl ⟨Nat.le_of_ble_eq_true rfl, Nat.le_of_ble_eq_true rfl⟩ rfl (Nat.le_of_ble_eq_true rfl) d_L_268 ⟨Nat.le_of_ble_eq_true rfl, Nat.le_of_ble_eq_true rfl⟩) (fun HK locsK hPK hS hzK hkK => ?_)
  have hPQ := wl_kept hPQ hkK (fun a d ha hd => hdis a d ha hd)
  refine lv_aload_n hx hb d_L_271 rfl (lv_at hl 2 rfl) ?_
  refine lv_aload_n hx hb d_L_272 rfl (lv_at hl 0 rfl) ?_
  refine lv_iload_n hx hb d_L_273 rfl (lv_at hl 3 rfl) ?_
  refine lv_iconst (v := 1) hx hb d_L_274 (by decide) ?_
  refine lv_iadd hx hb d_L_275 ?_
  refine wl_top (lw_a1 i) ?_
  refine va_sld hx hb hX hbl hbA hS (vp_in_nI (by omega) (by omega)) d_L_276 ?_
  refine lv_aload_n hx hb d_L_277 rfl (lv_at hl 0 rfl) ?_
  refine lv_iload_n hx hb d_L_278 rfl (lv_at hl 3 rfl) ?_
  refine lv_iconst (v := 2) hx hb d_L_279 (by decide) ?_
  refine lv_iadd hx hb d_L_280 ?_
  refine wl_top (lw_a2 i) ?_
  refine va_sld hx hb hX hbl hbA hS (vp_in_nI (by omega) (by omega)) d_L_281 ?_
  refine lv_aload_n hx hb d_L_282 rfl (lv_at hl 0 rfl) ?_
  refine lv_iload_n hx hb d_L_283 rfl (lv_at hl 3 rfl) ?_
  refine lv_iconst (v := 3) hx hb d_L_284 (by decide) ?_
  refine lv_iadd hx hb d_L_285 ?_
  refine wl_top (lw_a3 i) ?_
  refine va_sld hx hb hX hbl hbA hS (vp_in_nI (by omega) (by omega)) d_L_286 ?_
  refine wl_goi hS hA XQ.2.2.2.2.2.2 (wl_runV (As := [.int (xs (nI (i + 1)).toNatClampNeg), .int (xs (nI (i + 2)).toNatClampNeg), .int (xs (nI (i + 3)).toNatClampNeg)]) (rest := [.int (k_K_page S (xs (nI (i + 1)).toNatClampNeg) (xs (nI (i + 2)).toNatClampNeg) (xs (nI (i + 3)).toNatClampNeg))]) XQ hml hl.1 hPQ g_TT (c_Q_page XQ.2.2.2.2.2.1 T (xs (nI (i + 1)).toNatClampNeg) (xs (nI (i + 2)).toNatClampNeg) (xs (nI (i + 3)).toNatClampNeg) _) (by decide) qw_cQ rfl wv_L_45 (na := 3) (by decide +kernel) rfl ⟨Nat.le_of_ble_eq_true rfl, Nat.le_of_ble_eq_true rfl⟩ rfl (Nat.le_of_ble_eq_true rfl) d_L_287 ⟨Nat.le_of_ble_eq_true rfl, Nat.le_of_ble_eq_true rfl⟩) (fun HQ locsQ hPQ hS hzQ hkQ => ?_)
  have hPK := wl_kept hPK hkQ (fun a d ha hd q => hdis d a hd ha q.symm)
  refine lv_icmp_eq (tgt := 341) hx hb d_L_290 (by decide) (fun c_ => ?_) (fun c_ => absurd r1 c_)
  exact kk _ _ _ _ (r_R_B r2 (by omega)) hPK hPQ hS
set_option maxHeartbeats 4000000 in
set_option maxRecDepth 100000 in
theorem lw_case_7 {p : Program} {l : Launch} {e : Env} {s : State} {m : MethodId} {below : List Frame} {meth : Method} {c : Code} {D : va_G} {cI cT cS cZ : ClassId} {aK aQ : Nat → Nat} {b L : Nat} {xs : Nat → Int32} (hL : L ≤ 2048) (C : lw_C p s m c b L xs D cI cT cS cZ aK aQ) {i : Nat} (hi : i + 4 ≤ L) {S : kw_S} {T : qw_S} (h : r_R (10 * i) S T) {H : Heap} {locs : List Loc} {ls : Array Slot} (hPK : va_P D classes (wl_W 83 aK (kw_C cI cT cS aK S)) H) (hPQ : va_P D classes (wl_W 18 aQ (qw_C cI cZ aQ T)) H) (hS : va_S (fun q => s.heap.size ≤ q) s.heap H locs) (hl : lv_has ls 4 [(0, .ref b), (1, .ref (aK 0)), (2, .ref (aQ 0)), (3, .int (nI i))]) {Z : State → Prop}
    (kk : ∀ (S1 : kw_S) (T1 : qw_S) (H1 : Heap) (locs1 : List Loc), r_R (10 * (i + 4)) S1 T1 → va_P D classes (wl_W 83 aK (kw_C cI cT cS aK S1)) H1 → va_P D classes (wl_W 18 aQ (qw_C cI cZ aQ T1)) H1 → va_S (fun q => s.heap.size ≤ q) s.heap H1 locs1 → W p l e room_1 s m #[Value.ref b] below meth c H1 locs1 101 1259 Z (F0 m 341 ls [])) : W p l e room_1 s m #[Value.ref b] below meth c H locs 101 1259 Z (F0 m 295 ls []) := by
  obtain ⟨XK, XQ, hdis, hml, hX, hbl⟩ := C
  have hx := XK.1
  have hb := XK.2.1
  have hA : ∀ q, s.heap.size ≤ q → (fun q : Nat => s.heap.size ≤ q) q := fun _ h => h
  have hbA : ¬ (fun q : Nat => s.heap.size ≤ q) b := Nat.not_le.mpr hbl
  have hB : 10 * i < 2 ^ 30 := by omega
  refine lv_aload_n hx hb d_L_295 rfl (lv_at hl 1 rfl) ?_
  refine lv_aload_n hx hb d_L_296 rfl (lv_at hl 0 rfl) ?_
  refine lv_iload_n hx hb d_L_297 rfl (lv_at hl 3 rfl) ?_
  refine lv_iconst (v := 1) hx hb d_L_298 (by decide) ?_
  refine lv_iadd hx hb d_L_299 ?_
  refine wl_top (lw_a1 i) ?_
  refine va_sld hx hb hX hbl hbA hS (vp_in_nI (by omega) (by omega)) d_L_300 ?_
  have r1 := r_printed h hB (xs (nI (i + 1)).toNatClampNeg)
  have r2 := h
  refine wl_goi hS hA XK.2.2.2.2.2.2 (wl_runV (As := [.int (xs (nI (i + 1)).toNatClampNeg)]) (rest := []) XK hml hl.1 hPK g_TT (c_K_printed XK.2.2.2.2.2.1 S (xs (nI (i + 1)).toNatClampNeg) _) (by decide) kw_cK rfl wv_L_46 (na := 1) (by decide +kernel) rfl ⟨Nat.le_of_ble_eq_true rfl, Nat.le_of_ble_eq_true rfl⟩ rfl (Nat.le_of_ble_eq_true rfl) d_L_301 ⟨Nat.le_of_ble_eq_true rfl, Nat.le_of_ble_eq_true rfl⟩) (fun HK locsK hPK hS hzK hkK => ?_)
  have hPQ := wl_kept hPQ hkK (fun a d ha hd => hdis a d ha hd)
  refine lv_aload_n hx hb d_L_304 rfl (lv_at hl 2 rfl) ?_
  refine lv_aload_n hx hb d_L_305 rfl (lv_at hl 0 rfl) ?_
  refine lv_iload_n hx hb d_L_306 rfl (lv_at hl 3 rfl) ?_
  refine lv_iconst (v := 1) hx hb d_L_307 (by decide) ?_
  refine lv_iadd hx hb d_L_308 ?_
  refine wl_top (lw_a1 i) ?_
  refine va_sld hx hb hX hbl hbA hS (vp_in_nI (by omega) (by omega)) d_L_309 ?_
  refine wl_goi hS hA XQ.2.2.2.2.2.2 (wl_runV (As := [.int (xs (nI (i + 1)).toNatClampNeg)]) (rest := [.int (k_K_printed S (xs (nI (i + 1)).toNatClampNeg))]) XQ hml hl.1 hPQ g_TT (c_Q_printed XQ.2.2.2.2.2.1 T (xs (nI (i + 1)).toNatClampNeg) _) (by decide) qw_cQ rfl wv_L_49 (na := 1) (by decide +kernel) rfl ⟨Nat.le_of_ble_eq_true rfl, Nat.le_of_ble_eq_true rfl⟩ rfl (Nat.le_of_ble_eq_true rfl) d_L_310 ⟨Nat.le_of_ble_eq_true rfl, Nat.le_of_ble_eq_true rfl⟩) (fun HQ locsQ hPQ hS hzQ hkQ => ?_)
  have hPK := wl_kept hPK hkQ (fun a d ha hd q => hdis d a hd ha q.symm)
  refine lv_icmp_eq (tgt := 341) hx hb d_L_313 (by decide) (fun c_ => ?_) (fun c_ => absurd r1 c_)
  exact kk _ _ _ _ (r_R_B r2 (by omega)) hPK hPQ hS
set_option maxHeartbeats 4000000 in
set_option maxRecDepth 100000 in
theorem lw_case_8 {p : Program} {l : Launch} {e : Env} {s : State} {m : MethodId} {below : List Frame} {meth : Method} {c : Code} {D : va_G} {cI cT cS cZ : ClassId} {aK aQ : Nat → Nat} {b L : Nat} {xs : Nat → Int32} (hL : L ≤ 2048) (C : lw_C p s m c b L xs D cI cT cS cZ aK aQ) {i : Nat} (hi : i + 4 ≤ L) {S : kw_S} {T : qw_S} (h : r_R (10 * i) S T) {H : Heap} {locs : List Loc} {ls : Array Slot} (hPK : va_P D classes (wl_W 83 aK (kw_C cI cT cS aK S)) H) (hPQ : va_P D classes (wl_W 18 aQ (qw_C cI cZ aQ T)) H) (hS : va_S (fun q => s.heap.size ≤ q) s.heap H locs) (hl : lv_has ls 4 [(0, .ref b), (1, .ref (aK 0)), (2, .ref (aQ 0)), (3, .int (nI i))]) {Z : State → Prop}
    (kk : ∀ (S1 : kw_S) (T1 : qw_S) (H1 : Heap) (locs1 : List Loc), r_R (10 * (i + 4)) S1 T1 → va_P D classes (wl_W 83 aK (kw_C cI cT cS aK S1)) H1 → va_P D classes (wl_W 18 aQ (qw_C cI cZ aQ T1)) H1 → va_S (fun q => s.heap.size ≤ q) s.heap H1 locs1 → W p l e room_1 s m #[Value.ref b] below meth c H1 locs1 101 1259 Z (F0 m 341 ls [])) : W p l e room_1 s m #[Value.ref b] below meth c H locs 101 1259 Z (F0 m 318 ls []) := by
  obtain ⟨XK, XQ, hdis, hml, hX, hbl⟩ := C
  have hx := XK.1
  have hb := XK.2.1
  have hA : ∀ q, s.heap.size ≤ q → (fun q : Nat => s.heap.size ≤ q) q := fun _ h => h
  have hbA : ¬ (fun q : Nat => s.heap.size ≤ q) b := Nat.not_le.mpr hbl
  have hB : 10 * i < 2 ^ 30 := by omega
  refine lv_aload_n hx hb d_L_318 rfl (lv_at hl 1 rfl) ?_
  refine lv_aload_n hx hb d_L_319 rfl (lv_at hl 0 rfl) ?_
  refine lv_iload_n hx hb d_L_320 rfl (lv_at hl 3 rfl) ?_
  refine lv_iconst (v := 1) hx hb d_L_321 (by decide) ?_
  refine lv_iadd hx hb d_L_322 ?_
  refine wl_top (lw_a1 i) ?_
  refine va_sld hx hb hX hbl hbA hS (vp_in_nI (by omega) (by omega)) d_L_323 ?_
  have r1 := r_count h (xs (nI (i + 1)).toNatClampNeg)
  have r2 := h
  refine wl_goi hS hA XK.2.2.2.2.2.2 (wl_runV (As := [.int (xs (nI (i + 1)).toNatClampNeg)]) (rest := []) XK hml hl.1 hPK g_TT (c_K_count XK.2.2.2.2.2.1 S (xs (nI (i + 1)).toNatClampNeg) _) (by decide) kw_cK rfl wv_L_50 (na := 1) (by decide +kernel) rfl ⟨Nat.le_of_ble_eq_true rfl, Nat.le_of_ble_eq_true rfl⟩ rfl (Nat.le_of_ble_eq_true rfl) d_L_324 ⟨Nat.le_of_ble_eq_true rfl, Nat.le_of_ble_eq_true rfl⟩) (fun HK locsK hPK hS hzK hkK => ?_)
  have hPQ := wl_kept hPQ hkK (fun a d ha hd => hdis a d ha hd)
  refine lv_aload_n hx hb d_L_327 rfl (lv_at hl 2 rfl) ?_
  refine lv_aload_n hx hb d_L_328 rfl (lv_at hl 0 rfl) ?_
  refine lv_iload_n hx hb d_L_329 rfl (lv_at hl 3 rfl) ?_
  refine lv_iconst (v := 1) hx hb d_L_330 (by decide) ?_
  refine lv_iadd hx hb d_L_331 ?_
  refine wl_top (lw_a1 i) ?_
  refine va_sld hx hb hX hbl hbA hS (vp_in_nI (by omega) (by omega)) d_L_332 ?_
  refine wl_goi hS hA XQ.2.2.2.2.2.2 (wl_runV (As := [.int (xs (nI (i + 1)).toNatClampNeg)]) (rest := [.int (k_K_count S (xs (nI (i + 1)).toNatClampNeg))]) XQ hml hl.1 hPQ g_TT (c_Q_count XQ.2.2.2.2.2.1 T (xs (nI (i + 1)).toNatClampNeg) _) (by decide) qw_cQ rfl wv_L_53 (na := 1) (by decide +kernel) rfl ⟨Nat.le_of_ble_eq_true rfl, Nat.le_of_ble_eq_true rfl⟩ rfl (Nat.le_of_ble_eq_true rfl) d_L_333 ⟨Nat.le_of_ble_eq_true rfl, Nat.le_of_ble_eq_true rfl⟩) (fun HQ locsQ hPQ hS hzQ hkQ => ?_)
  have hPK := wl_kept hPK hkQ (fun a d ha hd q => hdis d a hd ha q.symm)
  refine lv_icmp_eq (tgt := 341) hx hb d_L_336 (by decide) (fun c_ => ?_) (fun c_ => absurd r1 c_)
  exact kk _ _ _ _ (r_R_B r2 (by omega)) hPK hPQ hS
