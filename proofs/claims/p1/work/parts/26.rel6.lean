/-- a sheet that nobody has is neither used nor changed -/
def r_Z (z : Nat → Prop) (S : kw_S) : Prop := ∀ i, z i → S.1 10 i 1 = 0 ∧ S.1 10 i 2 = 0
theorem z_k {z : Nat → Prop} {S : kw_S} {k b d : Nat} {v : Int32} (h : r_Z z S) (hk : k ≠ 10) : r_Z z (kw_si S k b d v) := fun i hi => by
  rw [kw_si_nc (by omega)]
  exact h i hi
theorem z_n {z : Nat → Prop} {S : kw_S} {k b d v : Nat} (h : r_Z z S) : r_Z z (kw_sn S k b d v) := h
theorem z_0 {z : Nat → Prop} {S : kw_S} {b d : Nat} (h : r_Z z S) : r_Z z (kw_si S 10 b d (0 : Int32)) := fun i hi => by
  rw [kw_si_at, kw_si_at]
  constructor
  · split
    · rfl
    · exact (h i hi).1
  · split
    · rfl
    · exact (h i hi).2
theorem z_e {z : Nat → Prop} {S : kw_S} {b d : Nat} {v : Int32} (h : r_Z z S) (hb : ¬ z b) : r_Z z (kw_si S 10 b d v) := fun i hi => by
  have e : ¬ i = b := fun q => hb (q ▸ hi)
  rw [kw_si_at, kw_si_at, if_neg (fun q => e q.2.1), if_neg (fun q => e q.2.1)]
  exact h i hi
theorem z_o {z : Nat → Prop} {S : kw_S} {b : Nat} {v : Int32} (h : r_Z z S) : r_Z z (kw_si S 10 b 0 v) := fun i hi => by
  rw [kw_si_at, kw_si_at, if_neg (fun q => absurd q.2.2 (by decide)), if_neg (fun q => absurd q.2.2 (by decide))]
  exact h i hi
theorem z_goOut {z : Nat → Prop} {S : kw_S} {e : Nat} (h : r_Z z S) : r_Z z (k_M_goOut S e) := by
  unfold k_M_goOut
  dsimp only
  split
  · exact h
  · split
    · exact z_0 (S := kw_si _ 2 0 1 _) (z_k h (by decide))
    · exact z_0 (S := kw_si _ 2 0 1 _) (z_k h (by decide))
theorem z_L27 {z : Nat → Prop} : ∀ n i S, r_Z z S → r_Z z (k_M_chooseFrame_L27 n i S).2 := by
  intro n
  induction n with
  | zero => exact fun i U h => h
  | succ n ih =>
    intro i U h
    unfold k_M_chooseFrame_L27
    dsimp only
    split
    · exact h
    · exact ih _ _ (z_n (z_0 h))
theorem z_L2 {z : Nat → Prop} : ∀ n i S, r_Z z S → r_Z z (k_M_chooseFrame_L2 n i S).2 := by
  intro n
  induction n with
  | zero => exact fun i U h => z_L27 6 0 U h
  | succ n ih =>
    intro i U h
    unfold k_M_chooseFrame_L2
    split
    · exact ih _ _ h
    · exact h
theorem z_layIn {z : Nat → Prop} {S : kw_S} {e : Nat} (h : r_Z z S) : r_Z z (k_M_layInFrame S e) := by
  have hc : r_Z z (k_M_chooseFrame S).2 := z_L2 6 0 S h
  unfold k_M_layInFrame
  dsimp only
  split
  · exact z_goOut hc
  · exact hc
/-- an entry too few for all sheets -/
theorem pg_free (F : Nat → Nat) {j0 : Nat} (h0 : j0 < 32) (h : ∀ i, i < 32 → ∃ j, j < 32 ∧ j ≠ j0 ∧ F j = i) : False := by
  have hg : ∃ g : Nat → Nat, ∀ i, i < 32 → g i < 32 ∧ g i ≠ j0 ∧ F (g i) = i := by
    refine ⟨fun i => if hi : i < 32 then Classical.choose (h i hi) else 0, fun i hi => ?_⟩
    have e : (fun i => if hi : i < 32 then Classical.choose (h i hi) else 0) i = Classical.choose (h i hi) := dif_pos hi
    rw [e]
    exact Classical.choose_spec (h i hi)
  obtain ⟨g, hg⟩ := hg
  obtain ⟨i, j, h1, h2, h3⟩ := pig 31 (fun i => if g i < j0 then g i else g i - 1) (fun i hi => by
    have := hg i (by omega)
    show (if g i < j0 then g i else g i - 1) < 31
    split <;> omega)
  have a := hg i (by omega)
  have b := hg j (by omega)
  have e : g i = g j := by
    have a2 := a.2.1
    have b2 := b.2.1
    clear a b hg h
    split at h3 <;> split at h3 <;> omega
  rw [e] at a
  have a3 := a.2.2
  have b3 := b.2.2
  omega
theorem r_cnt_ex {F : Nat → Nat} {s : Nat} : ∀ n, r_cnt F s n ≠ 0 → ∃ j, j < n ∧ F j = s := by
  intro n
  induction n with
  | zero => exact fun h => absurd rfl h
  | succ n ih =>
    intro h
    by_cases g : F n = s
    · exact ⟨n, Nat.lt_succ_self n, g⟩
    · have e : r_cnt F s (n + 1) = r_cnt F s n := by
        show _ + (if F n = s then 1 else 0) = _
        rw [if_neg g]
        rfl
      rw [e] at h
      obtain ⟨j, h1, h2⟩ := ih h
      exact ⟨j, by omega, h2⟩
theorem r_cnt_ge {F : Nat → Nat} {j s : Nat} : ∀ n, j < n → F j = s → r_cnt F s n ≠ 0 := by
  intro n
  induction n with
  | zero => exact fun h _ => absurd h (Nat.not_lt_zero _)
  | succ n ih =>
    intro h1 h2
    show r_cnt F s n + (if F n = s then 1 else 0) ≠ 0
    by_cases g : j = n
    · rw [← g, if_pos h2]
      omega
    · have := ih (by omega) h2
      omega
/-- setting one entry -/
def r_up (F : Nat → Nat) (j s : Nat) : Nat → Nat := fun d => if d = j then s else F d
theorem r_cnt_up {F : Nat → Nat} {j s i : Nat} : ∀ n, r_cnt (r_up F j s) i n + (if j < n ∧ F j = i then 1 else 0) = r_cnt F i n + (if j < n ∧ s = i then 1 else 0) := by
  intro n
  induction n with
  | zero => simp [r_cnt]
  | succ n ih =>
    show r_cnt (r_up F j s) i n + (if r_up F j s n = i then 1 else 0) + _ = r_cnt F i n + (if F n = i then 1 else 0) + _
    by_cases g : n = j
    · have e : r_up F j s n = s := if_pos g
      rw [e]
      subst g
      simp only [Nat.lt_irrefl, false_and, if_false, Nat.lt_succ_self, true_and] at ih ⊢
      omega
    · have e : r_up F j s n = F n := if_neg g
      rw [e]
      have e2 : (j < n + 1) = (j < n) := propext ⟨fun h => by omega, fun h => by omega⟩
      simp only [e2]
      omega
theorem r_cnt_two {F : Nat → Nat} {j s : Nat} {n : Nat} (h : F j = s) (h2 : 2 ≤ r_cnt F s n) : ∃ d, d < n ∧ d ≠ j ∧ F d = s := by
  have h1 := r_cnt_up (F := F) (j := j) (s := s + 1) (i := s) n
  rw [if_neg (c := j < n ∧ s + 1 = s) (fun q => by have := q.2; omega)] at h1
  have h3 : r_cnt (r_up F j (s + 1)) s n ≠ 0 := by
    intro q
    rw [q] at h1
    split at h1 <;> omega
  obtain ⟨d, d1, d2⟩ := r_cnt_ex n h3
  refine ⟨d, d1, ?_, ?_⟩
  · intro q
    rw [show r_up F j (s + 1) d = s + 1 from if_pos q] at d2
    omega
  · by_cases q : d = j
    · rw [show r_up F j (s + 1) d = s + 1 from if_pos q] at d2
      omega
    · rw [show r_up F j (s + 1) d = F d from if_neg q] at d2
      exact d2
/-- a free sheet, the least one -/
theorem r_spare {F : Nat → Nat} {j0 : Nat} (h0 : j0 < 32) (h : ¬ F j0 < 32 ∨ 2 ≤ r_cnt F (F j0) 32) : ∃ s, s < 32 ∧ r_cnt F s 32 = 0 ∧ ∀ d, d < s → r_cnt F d 32 ≠ 0 := by
  have hex : ∃ s, s < 32 ∧ r_cnt F s 32 = 0 := by
    apply Classical.byContradiction
    intro hn
    refine pg_free F h0 (fun i hi => ?_)
    have hc : r_cnt F i 32 ≠ 0 := fun q => hn ⟨i, hi, q⟩
    by_cases e : F j0 = i
    · rcases h with h | h
      · omega
      · rw [e] at h
        exact r_cnt_two e h
    · obtain ⟨j, h1, h2⟩ := r_cnt_ex 32 hc
      exact ⟨j, h1, fun q => e (q ▸ h2), h2⟩
  obtain ⟨t, ⟨h1, h2⟩, h3⟩ := pk_least (fun t => t < 32 ∧ r_cnt F t 32 = 0) hex
  exact ⟨t, h1, h2, fun d hd q => h3 d hd ⟨by omega, q⟩⟩
