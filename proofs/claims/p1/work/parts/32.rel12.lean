/-- out of a slot -/
theorem u_outS {c : Nat → Nat} {S : kw_S} {T : qw_S} {e f : Nat} (h : r_M c S T) (he : S.2 10 e 1 = f) (hf : f < 32) (he2 : e < 32) : r_M c (kw_sn (kw_sn S 6 0 f 32) 10 e 1 32) (qw_si T 14 0 e (-1 : Int32)) := by
  have e10 : ∀ i j, (kw_sn (kw_sn S 6 0 f 32) 10 e 1 32).2 10 i j = if i = e ∧ j = 1 then 32 else S.2 10 i j := by
    intro i j
    rw [kw_sn_at, kw_sn_at]
    by_cases h1 : i = e ∧ j = 1
    · rw [if_pos ⟨rfl, h1.1, h1.2⟩, if_pos h1]
    · rw [if_neg (fun q => h1 q.2), if_neg (by simp), if_neg h1]
  have e6 : ∀ d, (kw_sn (kw_sn S 6 0 f 32) 10 e 1 32).2 6 0 d = if d = f then 32 else S.2 6 0 d := by
    intro d
    rw [kw_sn_at, if_neg (by simp), kw_sn_at]
    simp
  have e5 : (kw_sn (kw_sn S 6 0 f 32) 10 e 1 32).2 5 = S.2 5 := by rw [kw_sn_nc (by decide), kw_sn_nc (by decide)]
  have e101 : ∀ i, (kw_sn (kw_sn S 6 0 f 32) 10 e 1 32).2 10 i 1 = if i = e then 32 else S.2 10 i 1 := fun i => by
    rw [e10]
    simp
  have e100 : ∀ i, (kw_sn (kw_sn S 6 0 f 32) 10 e 1 32).2 10 i 0 = S.2 10 i 0 := fun i => by
    rw [e10]
    simp
  have e2 : (kw_sn (kw_sn S 6 0 f 32) 10 e 1 32).2 2 = S.2 2 := by rw [kw_sn_nc (by decide), kw_sn_nc (by decide)]
  obtain ⟨f1, f2, f3, f4, f5⟩ := h.2.2.1
  refine ⟨r_C_of h.1 (fun i _ => rfl) (fun i _ => by rw [qw_si_nc (by decide)]), fun i hi hc => ?_, ⟨fun i hi hc => ?_, fun d hd hl => ?_, fun i hi hl => ?_, fun t ht hl => ?_, fun i hi hl => ?_⟩, r_N_of h.2.2.2 e2 rfl rfl (qw_si_nc (by decide))⟩
  · obtain ⟨a1, a2, a3, a4, a5⟩ := h.2.1 i hi hc
    refine ⟨?_, ?_, ?_, ?_, fun w hw => ?_⟩
    · rw [qw_si_nc (by decide)]
      exact a1
    · rw [qw_si_nc (by decide)]
      exact a2
    · rw [e100, qw_si_nc (by decide)]
      exact a3
    · rw [e101, qw_si_at]
      by_cases h1 : i = e
      · rw [if_pos h1, if_pos ⟨rfl, rfl, h1⟩]
        exact Or.inr ⟨by omega, rfl⟩
      · rw [if_neg h1, if_neg (fun q => h1 q.2.2)]
        exact a4
    · rw [qw_si_nc (by decide)]
      exact a5 w hw
  · rw [e100, e101]
    refine ⟨(f1 i hi hc).1, ?_⟩
    by_cases h1 : i = e
    · rw [if_pos h1]
      omega
    · rw [if_neg h1]
      exact (f1 i hi hc).2
  · rw [e5] at hl ⊢
    rw [e100]
    exact f2 d hd hl
  · rw [e100] at hl ⊢
    rw [e5]
    exact f3 i hi hl
  · rw [e6] at hl ⊢
    by_cases h1 : t = f
    · rw [if_pos h1] at hl
      omega
    · rw [if_neg h1] at hl ⊢
      have h2 := f4 t ht hl
      rw [e101]
      by_cases h3 : S.2 6 0 t = e
      · rw [h3, he] at h2
        exact absurd h2.symm h1
      · rw [if_neg h3]
        exact h2
  · rw [e101] at hl ⊢
    by_cases h1 : i = e
    · rw [if_pos h1] at hl
      omega
    · rw [if_neg h1] at hl ⊢
      have h2 := f5 i hi hl
      rw [e6]
      by_cases h3 : S.2 10 i 1 = f
      · have h4 := f5 e he2 (by omega)
        rw [he, ← h3, h2] at h4
        exact absurd h4 h1
      · rw [if_neg h3]
        exact h2
/-- the last owner goes; the reference's rows of the sheet don't matter any more -/
theorem u_none {c : Nat → Nat} {S : kw_S} {T V : qw_S} {e : Nat} (h : r_M c S T) (he : e < 32) (hf : ¬ S.2 10 e 0 < 6) (hs : ¬ S.2 10 e 1 < 32) (h10 : ∀ i, V.1 10 0 i = if i = e then 0 else T.1 10 0 i) (h11 : ∀ i, i ≠ e → V.1 11 0 i = T.1 11 0 i ∧ V.1 12 0 i = T.1 12 0 i ∧ V.1 13 0 i = T.1 13 0 i ∧ V.1 14 0 i = T.1 14 0 i) (h15 : V.1 15 = T.1 15) (h17 : V.1 17 = T.1 17) (h0 : V.2 0 = T.2 0) : r_M (r_up c e 0) (kw_si S 10 e 0 (0 : Int32)) V := by
  obtain ⟨c1, c2, c3, c4⟩ := h.1
  have n1 : ∀ i, i ≠ e → r_up c e 0 i = c i := fun i q => if_neg q
  have n2 : r_up c e 0 e = 0 := if_pos rfl
  refine ⟨⟨fun i hi => ?_, fun i hi => ?_, fun i hi => ?_, fun i => ?_⟩, fun i hi hci => ?_, ?_, r_N_of h.2.2.2 rfl h0 (kw_si_nc (by decide)) h17⟩
  · rw [kw_si_at]
    by_cases q : i = e
    · rw [if_pos ⟨rfl, q, rfl⟩, q, n2]
      decide
    · rw [if_neg (fun z => q z.2.1), n1 i q]
      exact c1 i hi
  · rw [h10]
    by_cases q : i = e
    · rw [if_pos q, q, n2]
      exact ⟨fun _ => rfl, fun _ => rfl⟩
    · rw [if_neg q, n1 i q]
      exact c2 i hi
  · rw [n1 i (by omega)]
    exact c3 i hi
  · have := c4 i
    show (if i = e then 0 else c i) < 64
    split <;> omega
  · by_cases q : i = e
    · rw [q, n2] at hci
      exact absurd rfl hci
    · rw [n1 i q] at hci
      obtain ⟨a1, a2, a3, a4, a5⟩ := h.2.1 i hi hci
      obtain ⟨b1, b2, b3, b4⟩ := h11 i q
      refine ⟨?_, ?_, ?_, ?_, fun w hw => ?_⟩
      · rw [kw_si_at, if_neg (fun z => absurd z.2.2 (by decide)), b1]
        exact a1
      · rw [kw_si_at, if_neg (fun z => absurd z.2.2 (by decide)), b2]
        exact a2
      · rw [b3]
        exact a3
      · rw [b4]
        exact a4
      · rw [kw_si_nc (by decide), h15]
        exact a5 w hw
  · have hF := h.2.2.1
    refine ⟨fun i hi hci => ?_, hF.2⟩
    by_cases q : i = e
    · rw [q]
      exact ⟨hf, hs⟩
    · rw [n1 i q] at hci
      exact hF.1 i hi hci
