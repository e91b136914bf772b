theorem r_M_ch {c : Nat → Nat} {S U : kw_S} {T V : qw_S} (h : r_M c S T) (k1 : ∀ a, a = 2 ∨ a = 10 ∨ a = 11 → U.1 a = S.1 a) (k2 : ∀ a, a = 2 ∨ a = 5 ∨ a = 6 ∨ a = 10 → U.2 a = S.2 a) (q1 : ∀ a, 9 < a → a < 16 → V.1 a = T.1 a) (q17 : ∀ j, 6 < j → j < 11 → V.1 17 0 j = T.1 17 0 j) (q2 : V.2 0 0 1 = T.2 0 0 1) : r_M c U V := by
  refine ⟨r_C_of h.1 (fun i _ => by rw [k1 10 (by omega)]) (fun i _ => by rw [q1 10 (by omega) (by omega)]), fun i hi hc => r_sh_of (h.2.1 i hi hc) (k1 10 (by omega)) (k1 11 (by omega)) (k2 10 (by omega)) (q1 11 (by omega) (by omega)) (q1 12 (by omega) (by omega)) (q1 13 (by omega) (by omega)) (q1 14 (by omega) (by omega)) (q1 15 (by omega) (by omega)), r_F_of h.2.2.1 (k2 5 (by omega)) (k2 6 (by omega)) (k2 10 (by omega)), ?_⟩
  have hn := h.2.2.2
  unfold r_N at hn ⊢
  rw [k2 2 (by omega), k1 2 (by omega), q2, q17 7 (by decide) (by decide), q17 8 (by decide) (by decide), q17 9 (by decide) (by decide), q17 10 (by decide) (by decide)]
  exact hn
/-- words of the machine itself change -/
theorem r_R_mach {B B2 : Nat} {S U : kw_S} {T V : qw_S} (h : r_R B S T) (k1 : ∀ a, a ≠ 0 → a ≠ 3 → U.1 a = S.1 a) (k2 : ∀ a, a ≠ 0 → U.2 a = S.2 a) (q1 : ∀ a, a ≠ 0 → a ≠ 16 → a ≠ 17 → V.1 a = T.1 a) (q17 : ∀ j, 6 < j → j < 11 → V.1 17 0 j = T.1 17 0 j) (q2 : ∀ a, a ≠ 0 → V.2 a = T.2 a) (q0 : V.2 0 0 1 = T.2 0 0 1) (hs : r_S U V) (hb : U.2 0 0 0 ≤ B2) : r_R B2 U V := by
  refine ⟨r_P_of (T := T) (q2 9 (by decide)) (r_M_ch h.1.1 (fun a ha => k1 a (by omega) (by omega)) (fun a ha => k2 a (by omega)) (fun a a1 a2 => q1 a (by omega) (by omega) (by omega)) q17 q0) (fun i hi => by rw [k1 10 (by decide) (by decide)]; exact h.1.2.1 i hi) (r_pg_of h.1.2.2.1 (k2 9 (by decide)) (q2 9 (by decide))) (r_fa_of h.1.2.2.2 (k1 7 (by decide) (by decide)) (q1 6 (by decide) (by decide) (by decide))), fun j hj => ?_, hs, hb⟩
  exact r_T_cg (h.2.1 j hj) (fun d _ => by rw [k1 7 (by decide) (by decide)]) (by rw [k2 7 (by decide)]) (by rw [k1 8 (by decide) (by decide)]) (by rw [k2 9 (by decide)]) (fun a ha => by rw [q1 a (by omega) (by omega) (by omega)]) (fun r _ => by rw [q1 8 (by decide) (by decide) (by decide)]) (by rw [q2 3 (by decide)])
theorem r_R_B {B B2 : Nat} {S : kw_S} {T : qw_S} (h : r_R B S T) (hb : B ≤ B2) : r_R B2 S T := ⟨h.1, h.2.1, h.2.2.1, Nat.le_trans h.2.2.2 hb⟩
/-- the reference's printing -/
def q_pr (T : qw_S) (v : Int32) : qw_S :=
  if (40 : Int32) ≤ (nI (T.2 0 0 2)) then qw_sn T 0 0 2 ((T.2 0 0 2) + 1) else qw_sn (qw_si T 16 0 (T.2 0 0 2) v) 0 0 2 ((T.2 0 0 2) + 1)
theorem r_print {B : Nat} {S : kw_S} {T : qw_S} {v : Int32} (h : r_R B S T) (hB : B < 2 ^ 30) : r_R (B + 1) (k_K_print S v) (q_pr T v) := by
  obtain ⟨s1, s2, s3, s4, s5, s6, s7, s8, s9⟩ := h.2.2.1
  have hc := h.2.2.2
  have ek : k_K_print S v = if (40 : Int32) ≤ (nI (S.2 0 0 0)) then kw_sn S 0 0 0 ((S.2 0 0 0) + 1) else kw_sn (kw_si S 3 0 (S.2 0 0 0) v) 0 0 0 ((S.2 0 0 0) + 1) := rfl
  rw [ek]
  unfold q_pr
  rw [← s7]
  by_cases g : 40 ≤ S.2 0 0 0
  · have gI : (40 : Int32) ≤ nI (S.2 0 0 0) := nI_le (a := 40) g (by omega)
    rw [if_pos gI, if_pos gI]
    refine r_R_mach h (fun a _ _ => rfl) (fun a ha => kw_sn_nc ha) (fun a _ _ _ => rfl) (fun _ _ _ => rfl) (fun a ha => qw_sn_nc ha) (by rw [qw_sn_at, if_neg (by decide)]) ?_ (by rw [kw_sn_is]; omega)
    unfold r_S
    rw [kw_sn_is, qw_sn_is, kw_sn_o, qw_sn_o]
    refine ⟨s1, ?_, s3, s4, s5, s6, rfl, s8, fun i hi h2 => absurd hi (by omega)⟩
    rw [kw_sn_at, if_neg (by decide), qw_sn_at, if_neg (by decide)]
    exact s2
  · have gI : ¬ (40 : Int32) ≤ nI (S.2 0 0 0) := nI_ge (b := 40) (by omega) (by decide)
    rw [if_neg gI, if_neg gI]
    refine r_R_mach h (fun a _ a3 => kw_si_nc a3) (fun a ha => kw_sn_nc ha) (fun a _ a2 _ => qw_si_nc a2) (fun j _ _ => by rw [qw_sn_o, qw_si_nc (by decide)]) (fun a ha => qw_sn_nc ha) (by rw [qw_sn_at, if_neg (by decide)]; rfl) ?_ (by rw [kw_sn_is]; omega)
    unfold r_S
    rw [kw_sn_is, qw_sn_is, kw_sn_o, qw_sn_o]
    have e0 : (kw_si S 3 0 (S.2 0 0 0) v).1 0 = S.1 0 := kw_si_nc (by decide)
    have t0 : (qw_si T 16 0 (S.2 0 0 0) v).1 0 = T.1 0 := qw_si_nc (by decide)
    have t17 : (qw_si T 16 0 (S.2 0 0 0) v).1 17 = T.1 17 := qw_si_nc (by decide)
    rw [e0, t0, t17]
    refine ⟨s1, ?_, s3, s4, s5, s6, rfl, fun i hi => ?_, fun i hi h2 => ?_⟩
    · rw [kw_sn_at, if_neg (by decide), qw_sn_at, if_neg (by decide)]
      exact s2
    · rw [kw_si_at, qw_si_at]
      by_cases e : i = S.2 0 0 0
      · rw [if_pos ⟨rfl, rfl, e⟩, if_pos ⟨rfl, rfl, e⟩]
      · rw [if_neg (fun z => e z.2.2), if_neg (fun z => e z.2.2)]
        exact s8 i hi
    · rw [qw_si_at, if_neg (fun z => by have := z.2.2; omega)]
      exact s9 i hi (by omega)
theorem r_yield {B : Nat} {S : kw_S} {T : qw_S} (h : r_R B S T) : r_R B (kw_si S 0 0 4 (1 : Int32)) (qw_si T 0 0 2 (1 : Int32)) := by
  obtain ⟨s1, s2, s3, s4, s5, s6, s7, s8, s9⟩ := h.2.2.1
  refine r_R_mach h (fun a a0 _ => kw_si_nc a0) (fun a ha => rfl) (fun a a0 _ _ => qw_si_nc a0) (fun j _ _ => by rw [qw_si_nc (by decide)]) (fun a ha => rfl) rfl ?_ h.2.2.2
  have k : ∀ d, d ≠ 4 → (kw_si S 0 0 4 (1 : Int32)).1 0 0 d = S.1 0 0 d := fun d hd => kw_si_oj hd
  have t : ∀ d, d ≠ 2 → (qw_si T 0 0 2 (1 : Int32)).1 0 0 d = T.1 0 0 d := fun d hd => qw_si_od hd
  have k3 : (kw_si S 0 0 4 (1 : Int32)).1 3 = S.1 3 := kw_si_nc (by decide)
  have t16 : (qw_si T 0 0 2 (1 : Int32)).1 16 = T.1 16 := qw_si_nc (by decide)
  have t17 : (qw_si T 0 0 2 (1 : Int32)).1 17 = T.1 17 := qw_si_nc (by decide)
  unfold r_S
  rw [k 0 (by decide), k 1 (by decide), k 2 (by decide), k 3 (by decide), kw_si_is, k3, t 0 (by decide), t 1 (by decide), qw_si_is, t16, t17]
  exact ⟨s1, s2, s3, Iff.rfl, s5, s6, s7, s8, s9⟩
/-- a process sleeps -/
theorem v_sleep {B i : Nat} {S : kw_S} {T : qw_S} {x : Int32} (h : r_R B S T) (hi : i < 4) (hl : S.1 7 i 0 ≠ 0 ∧ S.1 7 i 0 ≠ 4) : r_R B (kw_si (kw_si S 7 i 0 (2 : Int32)) 7 i 3 x) (qw_si (qw_si T 1 0 i (2 : Int32)) 5 0 i x) := by
  refine r_R_upd h (fun a ha => by rw [kw_si_nc ha, kw_si_nc ha]) (fun b d hb => by rw [kw_si_oi hb, kw_si_oi hb]) (by rw [kw_si_oj (by decide), kw_si_oj (by decide)]) (fun a _ => rfl) (fun b _ => rfl) (fun a _ => by rw [qw_si_nc (by omega), qw_si_nc (by omega)]) (fun a d hd => by rw [qw_si_od hd, qw_si_od hd]) (fun a _ => rfl) (fun d _ => rfl) ?_
  obtain ⟨h1, h2, h3, h4, h5, h6, h7, h8, _⟩ := h.2.1 i hi
  have k := h4 hl.1 hl.2
  have e0 : (kw_si (kw_si S 7 i 0 (2 : Int32)) 7 i 3 x).1 7 i 0 = 2 := by rw [kw_si_oj (by decide), kw_si_is]
  have t0 : (qw_si (qw_si T 1 0 i (2 : Int32)) 5 0 i x).1 1 0 i = 2 := by rw [qw_si_nc (by decide), qw_si_is]
  have e : ∀ d, d ≠ 0 → d ≠ 3 → (kw_si (kw_si S 7 i 0 (2 : Int32)) 7 i 3 x).1 7 i d = S.1 7 i d := fun d d0 d3 => by rw [kw_si_oj d3, kw_si_oj d0]
  have e8 : (kw_si (kw_si S 7 i 0 (2 : Int32)) 7 i 3 x).1 8 = S.1 8 := by rw [kw_si_nc (by decide), kw_si_nc (by decide)]
  have t : ∀ a, a ≠ 1 → a ≠ 5 → (qw_si (qw_si T 1 0 i (2 : Int32)) 5 0 i x).1 a = T.1 a := fun a a1 a5 => by rw [qw_si_nc a5, qw_si_nc a1]
  unfold r_T
  rw [e0, t0, e 1 (by decide) (by decide), e 2 (by decide) (by decide), e 5 (by decide) (by decide), e8, t 2 (by decide) (by decide), t 7 (by decide) (by decide), t 8 (by decide) (by decide), kw_si_is, qw_si_is]
  refine ⟨rfl, fun z => absurd z (by decide), fun _ => h3 hl.1, fun _ _ => k, fun z => absurd z (by decide), fun _ => rfl, h7, h8, fun z => ?_⟩
  rcases z with z | z
  · exact absurd z (by decide)
  · exact absurd z (by decide)
/-- a place is written -/
theorem v_place {B i : Nat} {S : kw_S} {T : qw_S} {x : Int32} (h : r_R B S T) (hi : i < 4) : r_R B (kw_si S 7 i 1 x) (qw_si T 2 0 i x) := by
  refine r_R_upd h (fun a ha => kw_si_nc ha) (fun b d hb => kw_si_oi hb) (kw_si_oj (by decide)) (fun a _ => rfl) (fun b _ => rfl) (fun a _ => qw_si_nc (by omega)) (fun a d hd => qw_si_od hd) (fun a _ => rfl) (fun d _ => rfl) ?_
  obtain ⟨h1, h2, h3, h4, h5, h6, h7, h8, h9⟩ := h.2.1 i hi
  have e : ∀ d, d ≠ 1 → (kw_si S 7 i 1 x).1 7 i d = S.1 7 i d := fun d hd => kw_si_oj hd
  have e8 : (kw_si S 7 i 1 x).1 8 = S.1 8 := kw_si_nc (by decide)
  have t : ∀ a, a ≠ 2 → (qw_si T 2 0 i x).1 a = T.1 a := fun a ha => qw_si_nc ha
  unfold r_T
  rw [kw_si_is, qw_si_is, e 0 (by decide), e 2 (by decide), e 3 (by decide), e 5 (by decide), e8, t 1 (by decide), t 4 (by decide), t 5 (by decide), t 7 (by decide), t 8 (by decide)]
  exact ⟨h1, h2, h3, fun z1 z2 => ⟨rfl, (h4 z1 z2).2⟩, h5, h6, h7, h8, h9⟩
/-- a process waits -/
theorem v_wait {B i : Nat} {S : kw_S} {T : qw_S} (h : r_R B S T) (hi : i < 4) (hl : S.1 7 i 0 ≠ 0 ∧ S.1 7 i 0 ≠ 4) : r_R B (kw_si S 7 i 0 (3 : Int32)) (qw_si T 1 0 i (3 : Int32)) := by
  refine r_R_upd h (fun a ha => kw_si_nc ha) (fun b d hb => kw_si_oi hb) (kw_si_oj (by decide)) (fun a _ => rfl) (fun b _ => rfl) (fun a _ => qw_si_nc (by omega)) (fun a d hd => qw_si_od hd) (fun a _ => rfl) (fun d _ => rfl) ?_
  obtain ⟨h1, h2, h3, h4, h5, h6, h7, h8, _⟩ := h.2.1 i hi
  have k := h4 hl.1 hl.2
  have e : ∀ d, d ≠ 0 → (kw_si S 7 i 0 (3 : Int32)).1 7 i d = S.1 7 i d := fun d hd => kw_si_oj hd
  have e8 : (kw_si S 7 i 0 (3 : Int32)).1 8 = S.1 8 := kw_si_nc (by decide)
  have t : ∀ a, a ≠ 1 → (qw_si T 1 0 i (3 : Int32)).1 a = T.1 a := fun a ha => qw_si_nc ha
  unfold r_T
  rw [kw_si_is, qw_si_is, e 1 (by decide), e 2 (by decide), e 5 (by decide), e8, t 2 (by decide), t 7 (by decide), t 8 (by decide)]
  refine ⟨rfl, fun z => absurd z (by decide), fun _ => h3 hl.1, fun _ _ => k, fun z => absurd z (by decide), fun z => absurd z (by decide), h7, h8, fun z => ?_⟩
  rcases z with z | z
  · exact absurd z (by decide)
  · exact absurd z (by decide)
/-- a dead process is forgotten -/
theorem v_leave {B i : Nat} {S : kw_S} {T : qw_S} (h : r_R B S T) (hi : i < 4) (h4 : S.1 7 i 0 = 4) : r_R B (k_T_leave S i) (qw_si T 1 0 i (0 : Int32)) := by
  obtain ⟨h1, _, _, _, _, _, _, _, h9⟩ := h.2.1 i hi
  have e := v_left (x := T.1 4 0 i) h hi (h9 (Or.inr h4))
  rw [qw_si_self (T := T) (c := 1) (i := 0) (j := i) (v := 4) (h1.symm.trans h4), qw_si_self (T := T) (c := 4) (i := 0) (j := i) rfl] at e
  exact e
