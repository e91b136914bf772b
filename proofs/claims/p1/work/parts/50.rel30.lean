theorem qi_fillA : ∀ n i (S : qw_S), (qi_fill n i S).1 = S.1 ∧ ∀ a b d, (qi_fill n i S).2 a b d = if a = 9 ∧ b = 0 ∧ i ≤ d ∧ d < i + n then 34 else S.2 a b d := by
  intro n
  induction n with
  | zero =>
    intro i S
    refine ⟨rfl, fun a b d => ?_⟩
    rw [if_neg (fun z => by have := z.2.2; omega)]
    rfl
  | succ n ih =>
    intro i S
    obtain ⟨h1, h2⟩ := ih (i + 1) (qw_sn S 9 0 i 34)
    refine ⟨h1, fun a b d => ?_⟩
    refine (h2 a b d).trans ?_
    rw [qw_sn_at]
    by_cases g : a = 9 ∧ b = 0
    · by_cases g2 : i + 1 ≤ d ∧ d < i + 1 + n
      · rw [if_pos ⟨g.1, g.2, g2⟩, if_pos ⟨g.1, g.2, by omega, by omega⟩]
      · rw [if_neg (fun z => g2 z.2.2)]
        by_cases g3 : d = i
        · rw [if_pos ⟨g.1, g.2, g3⟩, if_pos ⟨g.1, g.2, by omega, by omega⟩]
        · rw [if_neg (fun z => g3 z.2.2), if_neg (fun z => by have := z.2.2; omega)]
    · rw [if_neg (fun z => g ⟨z.1, z.2.1⟩), if_neg (fun z => g ⟨z.1, z.2.1⟩), if_neg (fun z => g ⟨z.1, z.2.1⟩)]
theorem r_cnt0 {F : Nat → Nat} {s : Nat} : ∀ n, (∀ j, j < n → F j ≠ s) → r_cnt F s n = 0 := by
  intro n
  induction n with
  | zero => exact fun _ => rfl
  | succ n ih =>
    intro h
    show r_cnt F s n + (if F n = s then 1 else 0) = 0
    rw [ih (fun j hj => h j (by omega)), if_neg (h n (by omega))]
/-- the two constructors' states are related -/
theorem r_start : r_R 0 ki_1 qi_0 := by
  obtain ⟨q1, q2⟩ := qi_fillA 32 0 (qw_sn qi_S 0 0 0 3)
  have e1 : qi_0.1 = fun _ _ _ => 0 := q1
  have e9 : ∀ j, j < 32 → qi_0.2 9 0 j = 34 := fun j hj => (q2 9 0 j).trans (if_pos ⟨rfl, rfl, by omega, by omega⟩)
  have e0 : ∀ j, qi_0.2 0 0 j = if j = 0 then 3 else 0 := fun j => by
    refine (q2 0 0 j).trans ?_
    rw [if_neg (fun z => by have := z.1; omega), qw_sn_at]
    by_cases h : j = 0
    · rw [if_pos ⟨rfl, rfl, h⟩, if_pos h]
    · rw [if_neg (fun z => h z.2.2), if_neg h]
      rfl
  have k0 : ∀ a, a ≠ 0 → ki_1.2 a = ki_S.2 a := fun a ha => kw_sn_nc ha
  have hc : ∀ i, r_c qi_0 i = 0 := fun i => by
    by_cases h : i < 32
    · rw [r_c_in h]
      exact r_cnt0 32 (fun j hj => by rw [e9 j hj]; omega)
    · exact r_c_out h
  have k00 : ki_1.2 0 0 0 = 0 := by
    show (kw_sn ki_S 0 0 1 3).2 0 0 0 = 0
    rw [kw_sn_at, if_neg (by decide)]
    rfl
  have k01 : ki_1.2 0 0 1 = 3 := kw_sn_is
  have k7 : ∀ i, ki_1.2 7 i 0 = 4 := fun i => by rw [k0 7 (by decide)]; rfl
  have k9 : ∀ p k, ki_1.2 9 p k = 32 := fun p k => by rw [k0 9 (by decide)]; rfl
  have k10 : ∀ i, ki_1.2 10 i 0 = 6 := fun i => by rw [k0 10 (by decide)]; rfl
  have k11 : ∀ i, ki_1.2 10 i 1 = 32 := fun i => by rw [k0 10 (by decide)]; rfl
  have k5 : ∀ f, ki_1.2 5 0 f = 32 := fun i => by rw [k0 5 (by decide)]; rfl
  have k6 : ∀ f, ki_1.2 6 0 f = 32 := fun i => by rw [k0 6 (by decide)]; rfl
  have k2 : ki_1.2 2 0 0 = 0 := by rw [k0 2 (by decide)]; rfl
  refine ⟨⟨⟨⟨fun i _ => by rw [hc]; rfl, fun i _ => by rw [hc, e1]; exact ⟨fun _ => rfl, fun _ => rfl⟩, fun i _ => hc i, fun i => by rw [hc]; decide⟩, fun i _ h => absurd (hc i) h, ⟨fun i _ _ => by rw [k10, k11]; decide, fun f _ h => absurd h (by rw [k5]; decide), fun i _ h => absurd h (by rw [k10]; decide), fun f _ h => absurd h (by rw [k6]; decide), fun i _ h => absurd h (by rw [k11]; decide)⟩, ?_⟩, fun i _ => ⟨rfl, rfl⟩, fun p k hp hk => Or.inr ⟨by rw [k9]; decide, by rw [e9 _ (by omega)]; decide⟩, fun q _ => by rw [e1]; rfl⟩, fun i hi => ?_, ?_, by rw [k00]; exact Nat.le_refl 0⟩
  · unfold r_N
    rw [k2, e0, e1]
    exact ⟨rfl, rfl, rfl, rfl, rfl⟩
  · unfold r_T
    rw [k7, e1]
    exact ⟨rfl, fun _ => by decide, fun z => absurd rfl z, fun z => absurd rfl z, fun _ => rfl, fun _ => rfl, rfl, fun _ _ => rfl, fun _ k _ => by rw [k9]; decide⟩
  · unfold r_S
    rw [k00, k01, e0, e0, e1]
    exact ⟨rfl, rfl, ⟨0, by decide, rfl, rfl⟩, ⟨fun _ => rfl, fun _ => rfl⟩, rfl, rfl, rfl, fun _ _ => rfl, fun _ _ _ => rfl⟩
