/-- words of one process change -/
theorem r_R_upd {B i : Nat} {S U : kw_S} {T V : qw_S} (h : r_R B S T) (k1 : ∀ a, a ≠ 7 → U.1 a = S.1 a) (k3 : ∀ b d, b ≠ i → U.1 7 b d = S.1 7 b d) (k4 : U.1 7 i 4 = S.1 7 i 4) (k2 : ∀ a, a ≠ 7 → U.2 a = S.2 a) (k5 : ∀ b, b ≠ i → U.2 7 b 0 = S.2 7 b 0) (q1 : ∀ a, a = 0 ∨ a = 6 ∨ 8 ≤ a → V.1 a = T.1 a) (q3 : ∀ a d, d ≠ i → V.1 a 0 d = T.1 a 0 d) (q2 : ∀ a, a ≠ 3 → V.2 a = T.2 a) (q5 : ∀ d, d ≠ i → V.2 3 0 d = T.2 3 0 d) (hi : r_T U V i) : r_R B U V := by
  refine ⟨r_P_cg h.1 (fun a ha => k1 a (by omega)) (fun a ha => k2 a (by omega)) (fun a ha => q1 a (by omega)) (q2 0 (by decide)) (q2 9 (by decide)) ?_, fun j hj => ?_, ?_, ?_⟩
  · intro j hj
    rw [q1 6 (by omega)]
    by_cases e : j = i
    · rw [e, k4, ← e]
      exact h.1.2.2.2 j hj
    · rw [k3 j 4 e]
      exact h.1.2.2.2 j hj
  · by_cases e : j = i
    · rw [e]
      exact hi
    · exact r_T_cg (h.2.1 j hj) (fun d _ => k3 j d e) (k5 j e) (by rw [k1 8 (by decide)]) (by rw [k2 9 (by decide)]) (fun a _ => q3 a j e) (fun r hr => by rw [q1 8 (by omega)]) (q5 j e)
  · exact r_S_of h.2.2.1 (k1 0 (by decide)) (k2 0 (by decide)) (k1 3 (by decide)) (q1 0 (by omega)) (fun j _ => by rw [q2 0 (by decide)]) (q1 16 (by omega)) (fun j _ => by rw [q1 17 (by omega)])
  · rw [k2 0 (by decide)]
    exact h.2.2.2
theorem kw_si_oi {S : kw_S} {c i j : Nat} {v : Int32} {b d : Nat} (h : b ≠ i) : (kw_si S c i j v).1 c b d = S.1 c b d := by rw [kw_si_at, if_neg (fun z => h z.2.1)]
theorem kw_si_oj {S : kw_S} {c i j : Nat} {v : Int32} {d : Nat} (h : d ≠ j) : (kw_si S c i j v).1 c i d = S.1 c i d := by rw [kw_si_at, if_neg (fun z => h z.2.2)]
theorem kw_si_is {S : kw_S} {c i j : Nat} {v : Int32} : (kw_si S c i j v).1 c i j = v := by rw [kw_si_at, if_pos ⟨rfl, rfl, rfl⟩]
theorem kw_sn_is {S : kw_S} {c i j v : Nat} : (kw_sn S c i j v).2 c i j = v := by rw [kw_sn_at, if_pos ⟨rfl, rfl, rfl⟩]
theorem qw_si_is {S : qw_S} {c i j : Nat} {v : Int32} : (qw_si S c i j v).1 c i j = v := by rw [qw_si_at, if_pos ⟨rfl, rfl, rfl⟩]
theorem qw_sn_is {S : qw_S} {c i j v : Nat} : (qw_sn S c i j v).2 c i j = v := by rw [qw_sn_at, if_pos ⟨rfl, rfl, rfl⟩]
theorem qw_si_od {S : qw_S} {c i j : Nat} {v : Int32} {a d : Nat} (h : d ≠ j) : (qw_si S c i j v).1 a 0 d = S.1 a 0 d := by rw [qw_si_at, if_neg (fun z => h z.2.2)]
/-- a process loses its parent -/
theorem v_par {B i : Nat} {S : kw_S} {T : qw_S} (h : r_R B S T) (hi : i < 4) : r_R B (kw_sn S 7 i 0 4) (qw_sn T 3 0 i 4) := by
  refine r_R_upd h (fun a _ => rfl) (fun b d _ => rfl) rfl (fun a ha => kw_sn_nc ha) (fun b hb => by rw [kw_sn_at, if_neg (fun z => hb z.2.1)]) (fun a _ => rfl) (fun a d _ => rfl) (fun a ha => qw_sn_nc ha) (fun d hd => by rw [qw_sn_at, if_neg (fun z => hd z.2.2)]) ?_
  obtain ⟨h1, h2, h3, h4, h5, h6, h7, h8, h9⟩ := h.2.1 i hi
  unfold r_T
  rw [kw_sn_is, qw_sn_is, kw_sn_nc (by decide)]
  exact ⟨h1, fun _ => by decide, fun _ => Or.inr ⟨by decide, by decide⟩, h4, h5, h6, h7, h8, h9⟩
/-- a process without a parent goes -/
theorem v_gone {B i : Nat} {S : kw_S} {T : qw_S} (h : r_R B S T) (hi : i < 4) (hp : ¬ S.2 7 i 0 < 4) (h9 : ∀ k, k < 8 → ¬ S.2 9 i k < 32) : r_R B (kw_si S 7 i 0 (0 : Int32)) (qw_si T 1 0 i (0 : Int32)) := by
  refine r_R_upd h (fun a ha => kw_si_nc ha) (fun b d hb => kw_si_oi hb) (kw_si_oj (by decide)) (fun a _ => rfl) (fun b _ => rfl) (fun a _ => qw_si_nc (by omega)) (fun a d hd => qw_si_od hd) (fun a _ => rfl) (fun d _ => rfl) ?_
  obtain ⟨h1, h2, h3, h4, h5, h6, h7, h8, _⟩ := h.2.1 i hi
  have e : ∀ d, d ≠ 0 → (kw_si S 7 i 0 (0 : Int32)).1 7 i d = S.1 7 i d := fun d hd => kw_si_oj hd
  have e8 : (kw_si S 7 i 0 (0 : Int32)).1 8 = S.1 8 := kw_si_nc (by decide)
  have t : ∀ a, a ≠ 1 → (qw_si T 1 0 i (0 : Int32)).1 a = T.1 a := fun a ha => qw_si_nc ha
  unfold r_T
  rw [kw_si_is, qw_si_is, e 5 (by decide), e8, t 7 (by decide), t 8 (by decide)]
  exact ⟨rfl, fun _ => hp, fun z => absurd rfl z, fun z => absurd rfl z, fun z => absurd z (by decide), fun z => absurd z (by decide), h7, h8, fun _ => h9⟩
/-- a process is dead -/
theorem v_dead {B i : Nat} {S : kw_S} {T : qw_S} {x : Int32} (h : r_R B S T) (hi : i < 4) (h0 : S.1 7 i 0 ≠ 0) (h9 : ∀ k, k < 8 → ¬ S.2 9 i k < 32) : r_R B (kw_si (kw_si S 7 i 0 (4 : Int32)) 7 i 2 x) (qw_si (qw_si T 1 0 i (4 : Int32)) 4 0 i x) := by
  refine r_R_upd h (fun a ha => by rw [kw_si_nc ha, kw_si_nc ha]) (fun b d hb => by rw [kw_si_oi hb, kw_si_oi hb]) (by rw [kw_si_oj (by decide), kw_si_oj (by decide)]) (fun a _ => rfl) (fun b _ => rfl) (fun a _ => by rw [qw_si_nc (by omega), qw_si_nc (by omega)]) (fun a d hd => by rw [qw_si_od hd, qw_si_od hd]) (fun a _ => rfl) (fun d _ => rfl) ?_
  obtain ⟨h1, h2, h3, h4, h5, h6, h7, h8, _⟩ := h.2.1 i hi
  have e0 : (kw_si (kw_si S 7 i 0 (4 : Int32)) 7 i 2 x).1 7 i 0 = 4 := by rw [kw_si_oj (by decide), kw_si_is]
  have t0 : (qw_si (qw_si T 1 0 i (4 : Int32)) 4 0 i x).1 1 0 i = 4 := by rw [qw_si_nc (by decide), qw_si_is]
  have e5 : (kw_si (kw_si S 7 i 0 (4 : Int32)) 7 i 2 x).1 7 i 5 = S.1 7 i 5 := by rw [kw_si_oj (by decide), kw_si_oj (by decide)]
  have e8 : (kw_si (kw_si S 7 i 0 (4 : Int32)) 7 i 2 x).1 8 = S.1 8 := by rw [kw_si_nc (by decide), kw_si_nc (by decide)]
  have t7 : (qw_si (qw_si T 1 0 i (4 : Int32)) 4 0 i x).1 7 = T.1 7 := by rw [qw_si_nc (by decide), qw_si_nc (by decide)]
  have t8 : (qw_si (qw_si T 1 0 i (4 : Int32)) 4 0 i x).1 8 = T.1 8 := by rw [qw_si_nc (by decide), qw_si_nc (by decide)]
  unfold r_T
  rw [e0, t0, e5, e8, t7, t8, kw_si_is, qw_si_is]
  exact ⟨rfl, fun z => absurd z (by decide), fun _ => h3 h0, fun _ z => absurd rfl z, fun _ => rfl, fun z => absurd z (by decide), h7, h8, fun _ => h9⟩
/-- a process that waits is ready again -/
theorem v_wake {B i : Nat} {S : kw_S} {T : qw_S} (h : r_R B S T) (hi : i < 4) (h0 : S.1 7 i 0 = 3) : r_R B (kw_si S 7 i 0 (1 : Int32)) (qw_si T 1 0 i (1 : Int32)) := by
  refine r_R_upd h (fun a ha => kw_si_nc ha) (fun b d hb => kw_si_oi hb) (kw_si_oj (by decide)) (fun a _ => rfl) (fun b _ => rfl) (fun a _ => qw_si_nc (by omega)) (fun a d hd => qw_si_od hd) (fun a _ => rfl) (fun d _ => rfl) ?_
  obtain ⟨h1, h2, h3, h4, h5, h6, h7, h8, _⟩ := h.2.1 i hi
  rw [h0] at h3 h4
  have k := h4 (by decide) (by decide)
  have e : ∀ d, d ≠ 0 → (kw_si S 7 i 0 (1 : Int32)).1 7 i d = S.1 7 i d := fun d hd => kw_si_oj hd
  have e8 : (kw_si S 7 i 0 (1 : Int32)).1 8 = S.1 8 := kw_si_nc (by decide)
  have t : ∀ a, a ≠ 1 → (qw_si T 1 0 i (1 : Int32)).1 a = T.1 a := fun a ha => qw_si_nc ha
  unfold r_T
  rw [kw_si_is, qw_si_is, e 1 (by decide), e 2 (by decide), e 5 (by decide), e8, t 2 (by decide), t 7 (by decide), t 8 (by decide)]
  refine ⟨rfl, fun z => absurd z (by decide), fun _ => h3 (by decide), fun _ _ => k, fun z => absurd z (by decide), fun z => absurd z (by decide), h7, h8, fun z => ?_⟩
  rcases z with z | z
  · exact absurd z (by decide)
  · exact absurd z (by decide)
