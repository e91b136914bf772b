theorem r_C_of {c : Nat → Nat} {S S2 : kw_S} {T T2 : qw_S} (h : r_C c S T) (h1 : ∀ i, i < 32 → S2.1 10 i 0 = S.1 10 i 0) (h2 : ∀ i, i < 34 → T2.1 10 0 i = T.1 10 0 i) : r_C c S2 T2 :=
  ⟨fun i hi => (h1 i hi).trans (h.1 i hi), fun i hi => by rw [h2 i hi]; exact h.2.1 i hi, h.2.2⟩
theorem r_F_of {c : Nat → Nat} {S S2 : kw_S} (h : r_F c S) (h5 : S2.2 5 = S.2 5) (h6 : S2.2 6 = S.2 6) (h10 : S2.2 10 = S.2 10) : r_F c S2 := by
  unfold r_F
  rw [h5, h6, h10]
  exact h
theorem r_N_of {S S2 : kw_S} {T T2 : qw_S} (h : r_N S T) (h1 : S2.2 2 = S.2 2) (h2 : T2.2 0 = T.2 0) (h3 : S2.1 2 = S.1 2) (h4 : T2.1 17 = T.1 17) : r_N S2 T2 := by
  unfold r_N
  rw [h1, h2, h3, h4]
  exact h
theorem qw_si_nc {S : qw_S} {c i j a : Nat} {v : Int32} (h : a ≠ c) : (qw_si S c i j v).1 a = S.1 a := funext fun _ => qw_si_ne (fun q => h q.1)
theorem qw_sn_nc {S : qw_S} {c i j v a : Nat} (h : a ≠ c) : (qw_sn S c i j v).2 a = S.2 a := funext fun _ => qw_sn_ne (fun q => h q.1)
theorem qw_ext {S T : qw_S} (h1 : ∀ a b d, S.1 a b d = T.1 a b d) (h2 : ∀ a b d, S.2 a b d = T.2 a b d) : S = T :=
  Prod.ext (funext fun a => funext fun b => funext fun d => h1 a b d) (funext fun a => funext fun b => funext fun d => h2 a b d)
theorem kw_ext {S T : kw_S} (h1 : ∀ a b d, S.1 a b d = T.1 a b d) (h2 : ∀ a b d, S.2 a b d = T.2 a b d) : S = T :=
  Prod.ext (funext fun a => funext fun b => funext fun d => h1 a b d) (funext fun a => funext fun b => funext fun d => h2 a b d)
theorem qw_si_comm {S : qw_S} {c i j c2 i2 j2 : Nat} {v v2 : Int32} (h : c ≠ c2) : qw_si (qw_si S c i j v) c2 i2 j2 v2 = qw_si (qw_si S c2 i2 j2 v2) c i j v := by
  refine qw_ext (fun a b d => ?_) (fun a b d => rfl)
  rw [qw_si_at, qw_si_at, qw_si_at, qw_si_at]
  by_cases h1 : a = c2 ∧ b = i2 ∧ d = j2
  · rw [if_pos h1, if_neg (fun q => h (q.1.symm.trans h1.1)), if_pos h1]
  · rw [if_neg h1, if_neg h1]
/-- changed -/
theorem u_ch {c : Nat → Nat} {S : kw_S} {T : qw_S} {e : Nat} {v : Int32} (h : r_M c S T) : r_M c (kw_si S 10 e 2 v) (qw_si T 12 0 e v) := by
  refine ⟨r_C_of h.1 (fun i _ => by rw [kw_si_at, if_neg (by simp)]) (fun i _ => by rw [qw_si_nc (by decide)]), fun i hi hc => ?_, r_F_of h.2.2.1 rfl rfl rfl, r_N_of h.2.2.2 rfl rfl (kw_si_nc (by decide)) (qw_si_nc (by decide))⟩
  obtain ⟨a1, a2, a3, a4, a5⟩ := h.2.1 i hi hc
  refine ⟨?_, ?_, ?_, ?_, fun w hw => ?_⟩
  · rw [kw_si_at, if_neg (by simp), qw_si_nc (by decide)]
    exact a1
  · rw [kw_si_at, qw_si_at]
    by_cases he : i = e
    · rw [if_pos ⟨rfl, he, rfl⟩, if_pos ⟨rfl, rfl, he⟩]
    · rw [if_neg (fun q => he q.2.1), if_neg (fun q => he q.2.2)]
      exact a2
  · rw [qw_si_nc (by decide)]
    exact a3
  · rw [qw_si_nc (by decide)]
    exact a4
  · rw [kw_si_nc (by decide), qw_si_nc (by decide)]
    exact a5 w hw
/-- used -/
theorem u_us {c : Nat → Nat} {S : kw_S} {T : qw_S} {e : Nat} {v : Int32} (h : r_M c S T) : r_M c (kw_si S 10 e 1 v) (qw_si T 11 0 e v) := by
  refine ⟨r_C_of h.1 (fun i _ => by rw [kw_si_at, if_neg (by simp)]) (fun i _ => by rw [qw_si_nc (by decide)]), fun i hi hc => ?_, r_F_of h.2.2.1 rfl rfl rfl, r_N_of h.2.2.2 rfl rfl (kw_si_nc (by decide)) (qw_si_nc (by decide))⟩
  obtain ⟨a1, a2, a3, a4, a5⟩ := h.2.1 i hi hc
  refine ⟨?_, ?_, ?_, ?_, fun w hw => ?_⟩
  · rw [kw_si_at, qw_si_at]
    by_cases he : i = e
    · rw [if_pos ⟨rfl, he, rfl⟩, if_pos ⟨rfl, rfl, he⟩]
    · rw [if_neg (fun q => he q.2.1), if_neg (fun q => he q.2.2)]
      exact a1
  · rw [kw_si_at, if_neg (by simp), qw_si_nc (by decide)]
    exact a2
  · rw [qw_si_nc (by decide)]
    exact a3
  · rw [qw_si_nc (by decide)]
    exact a4
  · rw [kw_si_nc (by decide), qw_si_nc (by decide)]
    exact a5 w hw
/-- a sheet's parts where neither side's sheets change -/
theorem r_sh_of {S S2 : kw_S} {T T2 : qw_S} {i : Nat} (h : r_sh S T i) (h1 : S2.1 10 = S.1 10) (h2 : S2.1 11 = S.1 11) (h3 : S2.2 10 = S.2 10) (g1 : T2.1 11 = T.1 11) (g2 : T2.1 12 = T.1 12) (g3 : T2.1 13 = T.1 13) (g4 : T2.1 14 = T.1 14) (g5 : T2.1 15 = T.1 15) : r_sh S2 T2 i := by
  unfold r_sh
  rw [h1, h2, h3, g1, g2, g3, g4, g5]
  exact h
/-- what was counted: one of the class' four, and its place in the reference's list -/
theorem u_ct {c : Nat → Nat} {S : kw_S} {T : qw_S} (h : r_M c S T) (k : Nat) (hk : k < 4) : r_M c (kw_si S 2 0 k (S.1 2 0 k + (1 : Int32))) (qw_si T 17 0 (7 + k) (T.1 17 0 (7 + k) + (1 : Int32))) := by
  refine ⟨r_C_of h.1 (fun i _ => by rw [kw_si_nc (by decide)]) (fun i _ => by rw [qw_si_nc (by decide)]), fun i hi hc => r_sh_of (h.2.1 i hi hc) (kw_si_nc (by decide)) (kw_si_nc (by decide)) rfl (qw_si_nc (by decide)) (qw_si_nc (by decide)) (qw_si_nc (by decide)) (qw_si_nc (by decide)) (qw_si_nc (by decide)), r_F_of h.2.2.1 rfl rfl rfl, ?_⟩
  obtain ⟨b0, b1, b2, b3, b4⟩ := h.2.2.2
  unfold r_N
  simp only [kw_si_at, qw_si_at, kw_si_o, qw_si_o]
  rcases (show k = 0 ∨ k = 1 ∨ k = 2 ∨ k = 3 by omega) with rfl | rfl | rfl | rfl <;> simp_all
/-- counters of the reference that the memory does not look at, and faults of a process -/
theorem u_q {c : Nat → Nat} {S : kw_S} {T : qw_S} (h : r_M c S T) {k b d : Nat} {v : Int32} (hk : k < 10) : r_M c S (qw_si T k b d v) := by
  refine ⟨r_C_of h.1 (fun i _ => rfl) (fun i _ => by rw [qw_si_nc (by omega)]), fun i hi hc => r_sh_of (h.2.1 i hi hc) rfl rfl rfl (qw_si_nc (by omega)) (qw_si_nc (by omega)) (qw_si_nc (by omega)) (qw_si_nc (by omega)) (qw_si_nc (by omega)), h.2.2.1, r_N_of h.2.2.2 rfl rfl rfl (qw_si_nc (by omega))⟩
theorem u_k {c : Nat → Nat} {S : kw_S} {T : qw_S} (h : r_M c S T) {k b d : Nat} {v : Int32} (h1 : k ≠ 2) (h2 : k ≠ 10) (h3 : k ≠ 11) : r_M c (kw_si S k b d v) T := by
  refine ⟨r_C_of h.1 (fun i _ => by rw [kw_si_nc (Ne.symm h2)]) (fun i _ => rfl), fun i hi hc => r_sh_of (h.2.1 i hi hc) (kw_si_nc (Ne.symm h2)) (kw_si_nc (Ne.symm h3)) rfl rfl rfl rfl rfl rfl, r_F_of h.2.2.1 rfl rfl rfl, r_N_of h.2.2.2 rfl rfl (kw_si_nc (Ne.symm h1)) rfl⟩
/-- out of its frame -/
theorem u_out {c : Nat → Nat} {S : kw_S} {T : qw_S} {e f : Nat} (h : r_M c S T) (he : S.2 10 e 0 = f) (hf : f < 6) (he2 : e < 32) : r_M c (kw_sn (kw_sn S 5 0 f 32) 10 e 0 6) (qw_si T 13 0 e (-1 : Int32)) := by
  have e10 : ∀ i j, (kw_sn (kw_sn S 5 0 f 32) 10 e 0 6).2 10 i j = if i = e ∧ j = 0 then 6 else S.2 10 i j := by
    intro i j
    rw [kw_sn_at, kw_sn_at]
    by_cases h1 : i = e ∧ j = 0
    · rw [if_pos ⟨rfl, h1.1, h1.2⟩, if_pos h1]
    · rw [if_neg (fun q => h1 q.2), if_neg (by simp), if_neg h1]
  have e5 : ∀ d, (kw_sn (kw_sn S 5 0 f 32) 10 e 0 6).2 5 0 d = if d = f then 32 else S.2 5 0 d := by
    intro d
    rw [kw_sn_at, if_neg (by simp), kw_sn_at]
    simp
  have e6 : (kw_sn (kw_sn S 5 0 f 32) 10 e 0 6).2 6 = S.2 6 := by rw [kw_sn_nc (by decide), kw_sn_nc (by decide)]
  have e100 : ∀ i, (kw_sn (kw_sn S 5 0 f 32) 10 e 0 6).2 10 i 0 = if i = e then 6 else S.2 10 i 0 := fun i => by
    rw [e10]
    simp
  have e101 : ∀ i, (kw_sn (kw_sn S 5 0 f 32) 10 e 0 6).2 10 i 1 = S.2 10 i 1 := fun i => by
    rw [e10]
    simp
  have e2 : (kw_sn (kw_sn S 5 0 f 32) 10 e 0 6).2 2 = S.2 2 := by rw [kw_sn_nc (by decide), kw_sn_nc (by decide)]
  obtain ⟨f1, f2, f3, f4, f5⟩ := h.2.2.1
  refine ⟨r_C_of h.1 (fun i _ => rfl) (fun i _ => by rw [qw_si_nc (by decide)]), fun i hi hc => ?_, ⟨fun i hi hc => ?_, fun d hd hl => ?_, fun i hi hl => ?_, fun t ht hl => ?_, fun i hi hl => ?_⟩, r_N_of h.2.2.2 e2 rfl rfl (qw_si_nc (by decide))⟩
  · obtain ⟨a1, a2, a3, a4, a5⟩ := h.2.1 i hi hc
    refine ⟨?_, ?_, ?_, ?_, fun w hw => ?_⟩
    · rw [qw_si_nc (by decide)]
      exact a1
    · rw [qw_si_nc (by decide)]
      exact a2
    · rw [e100, qw_si_at]
      by_cases h1 : i = e
      · rw [if_pos h1, if_pos ⟨rfl, rfl, h1⟩]
        exact Or.inr ⟨by omega, rfl⟩
      · rw [if_neg h1, if_neg (fun q => h1 q.2.2)]
        exact a3
    · rw [e101, qw_si_nc (by decide)]
      exact a4
    · rw [qw_si_nc (by decide)]
      exact a5 w hw
  · rw [e100, e101]
    refine ⟨?_, (f1 i hi hc).2⟩
    by_cases h1 : i = e
    · rw [if_pos h1]
      omega
    · rw [if_neg h1]
      exact (f1 i hi hc).1
  · rw [e5] at hl ⊢
    by_cases h1 : d = f
    · rw [if_pos h1] at hl
      omega
    · rw [if_neg h1] at hl ⊢
      have h2 := f2 d hd hl
      rw [e100]
      by_cases h3 : S.2 5 0 d = e
      · rw [h3, he] at h2
        exact absurd h2.symm h1
      · rw [if_neg h3]
        exact h2
  · rw [e100] at hl ⊢
    by_cases h1 : i = e
    · rw [if_pos h1] at hl
      omega
    · rw [if_neg h1] at hl ⊢
      have h2 := f3 i hi hl
      rw [e5]
      by_cases h3 : S.2 10 i 0 = f
      · have h4 := f3 e he2 (by omega)
        rw [he, ← h3, h2] at h4
        exact absurd h4 h1
      · rw [if_neg h3]
        exact h2
  · rw [e6] at hl ⊢
    rw [e101]
    exact f4 t ht hl
  · rw [e101] at hl ⊢
    rw [e6]
    exact f5 i hi hl
/-- into a free frame -/
theorem u_in {c : Nat → Nat} {S : kw_S} {T : qw_S} {e f : Nat} (h : r_M c S T) (hf : f < 6) (hff : ¬ S.2 5 0 f < 32) (he : ¬ S.2 10 e 0 < 6) (he2 : e < 32) (hce : c e ≠ 0) : r_M c (kw_sn (kw_sn S 5 0 f e) 10 e 0 f) (qw_si T 13 0 e (nI f)) := by
  have e10 : ∀ i j, (kw_sn (kw_sn S 5 0 f e) 10 e 0 f).2 10 i j = if i = e ∧ j = 0 then f else S.2 10 i j := by
    intro i j
    rw [kw_sn_at, kw_sn_at]
    by_cases h1 : i = e ∧ j = 0
    · rw [if_pos ⟨rfl, h1.1, h1.2⟩, if_pos h1]
    · rw [if_neg (fun q => h1 q.2), if_neg (by simp), if_neg h1]
  have e5 : ∀ d, (kw_sn (kw_sn S 5 0 f e) 10 e 0 f).2 5 0 d = if d = f then e else S.2 5 0 d := by
    intro d
    rw [kw_sn_at, if_neg (by simp), kw_sn_at]
    simp
  have e6 : (kw_sn (kw_sn S 5 0 f e) 10 e 0 f).2 6 = S.2 6 := by rw [kw_sn_nc (by decide), kw_sn_nc (by decide)]
  have e100 : ∀ i, (kw_sn (kw_sn S 5 0 f e) 10 e 0 f).2 10 i 0 = if i = e then f else S.2 10 i 0 := fun i => by
    rw [e10]
    simp
  have e101 : ∀ i, (kw_sn (kw_sn S 5 0 f e) 10 e 0 f).2 10 i 1 = S.2 10 i 1 := fun i => by
    rw [e10]
    simp
  have e2 : (kw_sn (kw_sn S 5 0 f e) 10 e 0 f).2 2 = S.2 2 := by rw [kw_sn_nc (by decide), kw_sn_nc (by decide)]
  obtain ⟨f1, f2, f3, f4, f5⟩ := h.2.2.1
  refine ⟨r_C_of h.1 (fun i _ => rfl) (fun i _ => by rw [qw_si_nc (by decide)]), fun i hi hc => ?_, ⟨fun i hi hc => ?_, fun d hd hl => ?_, fun i hi hl => ?_, fun t ht hl => ?_, fun i hi hl => ?_⟩, r_N_of h.2.2.2 e2 rfl rfl (qw_si_nc (by decide))⟩
  · obtain ⟨a1, a2, a3, a4, a5⟩ := h.2.1 i hi hc
    refine ⟨?_, ?_, ?_, ?_, fun w hw => ?_⟩
    · rw [qw_si_nc (by decide)]
      exact a1
    · rw [qw_si_nc (by decide)]
      exact a2
    · rw [e100, qw_si_at]
      by_cases h1 : i = e
      · rw [if_pos h1, if_pos ⟨rfl, rfl, h1⟩]
        exact Or.inl ⟨hf, rfl⟩
      · rw [if_neg h1, if_neg (fun q => h1 q.2.2)]
        exact a3
    · rw [e101, qw_si_nc (by decide)]
      exact a4
    · rw [qw_si_nc (by decide)]
      exact a5 w hw
  · rw [e100, e101, if_neg (fun q => hce (by rw [← q]; exact hc))]
    exact f1 i hi hc
  · rw [e5] at hl ⊢
    rw [e100]
    by_cases h1 : d = f
    · rw [if_pos h1, if_pos rfl, h1]
    · rw [if_neg h1] at hl ⊢
      have h2 := f2 d hd hl
      by_cases h3 : S.2 5 0 d = e
      · rw [h3] at h2
        exact absurd hd (by omega)
      · rw [if_neg h3]
        exact h2
  · rw [e100] at hl ⊢
    rw [e5]
    by_cases h1 : i = e
    · rw [if_pos h1, if_pos rfl, h1]
    · rw [if_neg h1] at hl ⊢
      have h2 := f3 i hi hl
      by_cases h3 : S.2 10 i 0 = f
      · rw [h3] at h2
        exact absurd hi (by omega)
      · rw [if_neg h3]
        exact h2
  · rw [e6] at hl ⊢
    rw [e101]
    exact f4 t ht hl
  · rw [e101] at hl ⊢
    rw [e6]
    exact f5 i hi hl
/-- a slot for it -/
theorem u_slot {c : Nat → Nat} {S : kw_S} {T : qw_S} {e t : Nat} (h : r_M c S T) (ht : t < 32) (hft : ¬ S.2 6 0 t < 32) (he : ¬ S.2 10 e 1 < 32) (he2 : e < 32) (hce : c e ≠ 0) : r_M c (kw_sn (kw_sn S 10 e 1 t) 6 0 t e) (qw_si T 14 0 e (nI t)) := by
  have e10 : ∀ i j, (kw_sn (kw_sn S 10 e 1 t) 6 0 t e).2 10 i j = if i = e ∧ j = 1 then t else S.2 10 i j := by
    intro i j
    rw [kw_sn_at, if_neg (by simp), kw_sn_at]
    by_cases h1 : i = e ∧ j = 1
    · rw [if_pos ⟨rfl, h1.1, h1.2⟩, if_pos h1]
    · rw [if_neg (fun q => h1 q.2), if_neg h1]
  have e6 : ∀ d, (kw_sn (kw_sn S 10 e 1 t) 6 0 t e).2 6 0 d = if d = t then e else S.2 6 0 d := by
    intro d
    rw [kw_sn_at, kw_sn_at]
    simp
  have e5 : (kw_sn (kw_sn S 10 e 1 t) 6 0 t e).2 5 = S.2 5 := by rw [kw_sn_nc (by decide), kw_sn_nc (by decide)]
  have e101 : ∀ i, (kw_sn (kw_sn S 10 e 1 t) 6 0 t e).2 10 i 1 = if i = e then t else S.2 10 i 1 := fun i => by
    rw [e10]
    simp
  have e100 : ∀ i, (kw_sn (kw_sn S 10 e 1 t) 6 0 t e).2 10 i 0 = S.2 10 i 0 := fun i => by
    rw [e10]
    simp
  have e2 : (kw_sn (kw_sn S 10 e 1 t) 6 0 t e).2 2 = S.2 2 := by rw [kw_sn_nc (by decide), kw_sn_nc (by decide)]
  obtain ⟨f1, f2, f3, f4, f5⟩ := h.2.2.1
  refine ⟨r_C_of h.1 (fun i _ => rfl) (fun i _ => by rw [qw_si_nc (by decide)]), fun i hi hc => ?_, ⟨fun i hi hc => ?_, fun d hd hl => ?_, fun i hi hl => ?_, fun d hd hl => ?_, fun i hi hl => ?_⟩, r_N_of h.2.2.2 e2 rfl rfl (qw_si_nc (by decide))⟩
  · obtain ⟨a1, a2, a3, a4, a5⟩ := h.2.1 i hi hc
    refine ⟨?_, ?_, ?_, ?_, fun w hw => ?_⟩
    · rw [qw_si_nc (by decide)]
      exact a1
    · rw [qw_si_nc (by decide)]
      exact a2
    · rw [e100, qw_si_nc (by decide)]
      exact a3
    · rw [e101, qw_si_at]
      by_cases h1 : i = e
      · rw [if_pos h1, if_pos ⟨rfl, rfl, h1⟩]
        exact Or.inl ⟨ht, rfl⟩
      · rw [if_neg h1, if_neg (fun q => h1 q.2.2)]
        exact a4
    · rw [qw_si_nc (by decide)]
      exact a5 w hw
  · rw [e100, e101, if_neg (fun q => hce (by rw [← q]; exact hc))]
    exact f1 i hi hc
  · rw [e5] at hl ⊢
    rw [e100]
    exact f2 d hd hl
  · rw [e100] at hl ⊢
    rw [e5]
    exact f3 i hi hl
  · rw [e6] at hl ⊢
    rw [e101]
    by_cases h1 : d = t
    · rw [if_pos h1, if_pos rfl, h1]
    · rw [if_neg h1] at hl ⊢
      have h2 := f4 d hd hl
      by_cases h3 : S.2 6 0 d = e
      · rw [h3] at h2
        exact absurd hd (by omega)
      · rw [if_neg h3]
        exact h2
  · rw [e101] at hl ⊢
    rw [e6]
    by_cases h1 : i = e
    · rw [if_pos h1, if_pos rfl, h1]
    · rw [if_neg h1] at hl ⊢
      have h2 := f5 i hi hl
      by_cases h3 : S.2 10 i 1 = t
      · rw [h3] at h2
        exact absurd hi (by omega)
      · rw [if_neg h3]
        exact h2
/-- more pigeons than holes -/
theorem pig : ∀ (n : Nat) (f : Nat → Nat), (∀ i, i ≤ n → f i < n) → ∃ i j, i < j ∧ j ≤ n ∧ f i = f j := by
  intro n
  induction n with
  | zero => exact fun f h => absurd (h 0 (Nat.le_refl 0)) (Nat.not_lt_zero _)
  | succ n ih =>
    intro f h
    by_cases hx : ∃ i, i ≤ n ∧ f i = f (n + 1)
    · obtain ⟨i, h1, h2⟩ := hx
      exact ⟨i, n + 1, by omega, Nat.le_refl _, h2⟩
    · have hx2 : ∀ i, i ≤ n → f i ≠ f (n + 1) := fun i hi q => hx ⟨i, hi, q⟩
      obtain ⟨i, j, h1, h2, h3⟩ := ih (fun i => if f i = n then f (n + 1) else f i) (fun i hi => by
        have a := h i (by omega)
        have b := h (n + 1) (Nat.le_refl _)
        have d := hx2 i hi
        show (if f i = n then f (n + 1) else f i) < n
        split <;> omega)
      refine ⟨i, j, h1, by omega, ?_⟩
      have d1 := hx2 i (by omega)
      have d2 := hx2 j (by omega)
      by_cases g1 : f i = n <;> by_cases g2 : f j = n
      · omega
      · rw [if_pos g1, if_neg g2] at h3
        omega
      · rw [if_neg g1, if_pos g2] at h3
        omega
      · rw [if_neg g1, if_neg g2] at h3
        exact h3
