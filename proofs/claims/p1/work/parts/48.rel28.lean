/-- a process has begun an instruction more -/
theorem v_begun {B i : Nat} {S : kw_S} {T : qw_S} (h : r_R B S T) (hi : i < 4) : r_R B (kw_si S 7 i 5 ((S.1 7 i 5) + (1 : Int32))) (qw_si T 7 0 i ((T.1 7 0 i) + (1 : Int32))) := by
  refine r_R_upd h (fun a ha => kw_si_nc ha) (fun b d hb => kw_si_oi hb) (kw_si_oj (by decide)) (fun a _ => rfl) (fun b _ => rfl) (fun a _ => qw_si_nc (by omega)) (fun a d hd => qw_si_od hd) (fun a _ => rfl) (fun d _ => rfl) ?_
  obtain ⟨h1, h2, h3, h4, h5, h6, h7, h8, h9⟩ := h.2.1 i hi
  have e : ∀ d, d ≠ 5 → (kw_si S 7 i 5 ((S.1 7 i 5) + (1 : Int32))).1 7 i d = S.1 7 i d := fun d hd => kw_si_oj hd
  have e8 : (kw_si S 7 i 5 ((S.1 7 i 5) + (1 : Int32))).1 8 = S.1 8 := kw_si_nc (by decide)
  have t : ∀ a, a ≠ 7 → (qw_si T 7 0 i ((T.1 7 0 i) + (1 : Int32))).1 a = T.1 a := fun a ha => qw_si_nc ha
  unfold r_T
  rw [kw_si_is, qw_si_is, e 0 (by decide), e 1 (by decide), e 2 (by decide), e 3 (by decide), e8, t 1 (by decide), t 2 (by decide), t 4 (by decide), t 5 (by decide), t 8 (by decide)]
  exact ⟨h1, h2, h3, h4, h5, h6, by rw [h7], h8, h9⟩
/-- a word of the machine changes: index d of the class, index e of the reference -/
theorem v_done {B d : Nat} {S : kw_S} {T : qw_S} (h : r_R B S T) (hd : d < 4) (e1 : S.1 0 0 3 = nI d) (e2 : T.1 0 0 1 = nI d) : r_R B (kw_si S 0 0 3 ((S.1 0 0 3) + (1 : Int32))) (qw_si T 0 0 1 ((T.1 0 0 1) + (1 : Int32))) := by
  obtain ⟨s1, s2, s3, s4, s5, s6, s7, s8, s9⟩ := h.2.2.1
  refine r_R_mach h (fun a a0 _ => kw_si_nc a0) (fun a ha => rfl) (fun a a0 _ _ => qw_si_nc a0) (fun j _ _ => by rw [qw_si_nc (by decide)]) (fun a ha => rfl) rfl ?_ h.2.2.2
  rw [e1, e2, nI_1]
  have k : ∀ x, x ≠ 3 → (kw_si S 0 0 3 (nI (d + 1))).1 0 0 x = S.1 0 0 x := fun x hx => kw_si_oj hx
  have t : ∀ x, x ≠ 1 → (qw_si T 0 0 1 (nI (d + 1))).1 0 0 x = T.1 0 0 x := fun x hx => qw_si_od hx
  have k3 : (kw_si S 0 0 3 (nI (d + 1))).1 3 = S.1 3 := kw_si_nc (by decide)
  have t16 : (qw_si T 0 0 1 (nI (d + 1))).1 16 = T.1 16 := qw_si_nc (by decide)
  have t17 : (qw_si T 0 0 1 (nI (d + 1))).1 17 = T.1 17 := qw_si_nc (by decide)
  unfold r_S
  rw [k 0 (by decide), k 1 (by decide), k 2 (by decide), k 4 (by decide), kw_si_is, k3, t 0 (by decide), t 2 (by decide), qw_si_is, t16, t17]
  exact ⟨s1, s2, ⟨d + 1, by omega, rfl, rfl⟩, s4, s5, s6, s7, s8, s9⟩
theorem v_tick {B : Nat} {S : kw_S} {T : qw_S} (h : r_R B S T) : r_R B (kw_si S 0 0 0 ((S.1 0 0 0) + (1 : Int32))) (qw_si T 0 0 0 ((T.1 0 0 0) + (1 : Int32))) := by
  obtain ⟨s1, s2, s3, s4, s5, s6, s7, s8, s9⟩ := h.2.2.1
  refine r_R_mach h (fun a a0 _ => kw_si_nc a0) (fun a ha => rfl) (fun a a0 _ _ => qw_si_nc a0) (fun j _ _ => by rw [qw_si_nc (by decide)]) (fun a ha => rfl) rfl ?_ h.2.2.2
  rw [s1]
  generalize T.1 0 0 0 + (1 : Int32) = y
  have k : ∀ x, x ≠ 0 → (kw_si S 0 0 0 y).1 0 0 x = S.1 0 0 x := fun x hx => kw_si_oj hx
  have t : ∀ x, x ≠ 0 → (qw_si T 0 0 0 y).1 0 0 x = T.1 0 0 x := fun x hx => qw_si_od hx
  have k3 : (kw_si S 0 0 0 y).1 3 = S.1 3 := kw_si_nc (by decide)
  have t16 : (qw_si T 0 0 0 y).1 16 = T.1 16 := qw_si_nc (by decide)
  have t17 : (qw_si T 0 0 0 y).1 17 = T.1 17 := qw_si_nc (by decide)
  unfold r_S
  rw [k 1 (by decide), k 2 (by decide), k 3 (by decide), k 4 (by decide), kw_si_is, k3, t 1 (by decide), t 2 (by decide), qw_si_is, t16, t17]
  exact ⟨rfl, s2, s3, s4, s5, s6, s7, s8, s9⟩
theorem v_idle {B : Nat} {S : kw_S} {T : qw_S} (h : r_R B S T) : r_R B (kw_si S 0 0 1 ((S.1 0 0 1) + (1 : Int32))) (qw_si T 17 0 11 ((T.1 17 0 11) + (1 : Int32))) := by
  obtain ⟨s1, s2, s3, s4, s5, s6, s7, s8, s9⟩ := h.2.2.1
  refine r_R_mach h (fun a a0 _ => kw_si_nc a0) (fun a ha => rfl) (fun a _ _ a17 => qw_si_nc a17) (fun j _ _ => by rw [qw_si_at, if_neg (fun z => by have := z.2.2; omega)]) (fun a ha => rfl) rfl ?_ h.2.2.2
  rw [s5]
  generalize T.1 17 0 11 + (1 : Int32) = y
  have k : ∀ x, x ≠ 1 → (kw_si S 0 0 1 y).1 0 0 x = S.1 0 0 x := fun x hx => kw_si_oj hx
  have k3 : (kw_si S 0 0 1 y).1 3 = S.1 3 := kw_si_nc (by decide)
  have t0 : (qw_si T 17 0 11 y).1 0 = T.1 0 := qw_si_nc (by decide)
  have t16 : (qw_si T 17 0 11 y).1 16 = T.1 16 := qw_si_nc (by decide)
  have t13 : (qw_si T 17 0 11 y).1 17 0 13 = T.1 17 0 13 := qw_si_od (by decide)
  unfold r_S
  rw [k 0 (by decide), k 2 (by decide), k 3 (by decide), k 4 (by decide), kw_si_is, k3, t0, qw_si_is, t16, t13]
  exact ⟨s1, s2, s3, s4, rfl, s6, s7, s8, s9⟩
theorem v_wild {B : Nat} {S : kw_S} {T : qw_S} (h : r_R B S T) : r_R B (kw_si S 0 0 2 ((S.1 0 0 2) + (1 : Int32))) (qw_si T 17 0 13 ((T.1 17 0 13) + (1 : Int32))) := by
  obtain ⟨s1, s2, s3, s4, s5, s6, s7, s8, s9⟩ := h.2.2.1
  refine r_R_mach h (fun a a0 _ => kw_si_nc a0) (fun a ha => rfl) (fun a _ _ a17 => qw_si_nc a17) (fun j _ _ => by rw [qw_si_at, if_neg (fun z => by have := z.2.2; omega)]) (fun a ha => rfl) rfl ?_ h.2.2.2
  rw [s6]
  generalize T.1 17 0 13 + (1 : Int32) = y
  have k : ∀ x, x ≠ 2 → (kw_si S 0 0 2 y).1 0 0 x = S.1 0 0 x := fun x hx => kw_si_oj hx
  have k3 : (kw_si S 0 0 2 y).1 3 = S.1 3 := kw_si_nc (by decide)
  have t0 : (qw_si T 17 0 13 y).1 0 = T.1 0 := qw_si_nc (by decide)
  have t16 : (qw_si T 17 0 13 y).1 16 = T.1 16 := qw_si_nc (by decide)
  have t11 : (qw_si T 17 0 13 y).1 17 0 11 = T.1 17 0 11 := qw_si_od (by decide)
  unfold r_S
  rw [k 0 (by decide), k 1 (by decide), k 3 (by decide), k 4 (by decide), kw_si_is, k3, t0, qw_si_is, t16, t11]
  exact ⟨s1, s2, s3, s4, s5, rfl, s7, s8, s9⟩
/-- the reference's state when an instruction is begun -/
def q_b2 (T : qw_S) (p : Nat) : qw_S := qw_si (qw_si T 0 0 1 ((T.1 0 0 1) + (1 : Int32))) 7 0 p (((qw_si T 0 0 1 ((T.1 0 0 1) + (1 : Int32))).1 7 0 p) + (1 : Int32))
theorem q_J162 {T : qw_S} : k_Q_tick_J162 T = (if (k_Q_does (q_b2 T (T.2 0 0 0 % 4)) (T.2 0 0 0 % 4)).1 = 0 then ((1 : Int32), k_Q_ends (qw_si (k_Q_does (q_b2 T (T.2 0 0 0 % 4)) (T.2 0 0 0 % 4)).2 17 0 13 (((k_Q_does (q_b2 T (T.2 0 0 0 % 4)) (T.2 0 0 0 % 4)).2.1 17 0 13) + (1 : Int32))) ((k_Q_does (q_b2 T (T.2 0 0 0 % 4)) (T.2 0 0 0 % 4)).2.2 0 0 0 % 4) (-99 : Int32)) else ((1 : Int32), (k_Q_does (q_b2 T (T.2 0 0 0 % 4)) (T.2 0 0 0 % 4)).2)) := rfl
theorem p_J162 {T : qw_S} : p_Q_does (q_b2 T (T.2 0 0 0 % 4)) (T.2 0 0 0 % 4) → p_Q_tick_J162 T := by
  intro h
  refine ⟨h, ?_⟩
  dsimp only
  split <;> trivial
/-- the class' doing of an instruction, its pieces named -/
def k_b2 (S : kw_S) (p : Nat) : kw_S := kw_si (kw_si S 7 p 5 ((S.1 7 p 5) + (1 : Int32))) 0 0 3 (((kw_si S 7 p 5 ((S.1 7 p 5) + (1 : Int32))).1 0 0 3) + (1 : Int32))
def k_wild (S : kw_S) (p : Nat) : kw_S := k_K_end (kw_si S 0 0 2 ((S.1 0 0 2) + (1 : Int32))) p (-99 : Int32)
theorem k_inst0 {S : kw_S} {p : Nat} (g : k_Q_in ((k_b2 S p).1 7 p 1) 64 = 0) : k_K_doInstruction S p = k_wild (k_b2 S p) p := (if_pos g).trans (if_pos g)
def k_in2 (S : kw_S) (p : Nat) (w : Int32) : kw_S := if (k_K_obey S p w).1 = 0 then k_wild (k_K_obey S p w).2 p else (k_K_obey S p w).2
theorem k_inst1 {S : kw_S} {p : Nat} (g : ¬ k_Q_in ((k_b2 S p).1 7 p 1) 64 = 0) : k_K_doInstruction S p = k_in2 (kw_si (k_M_fetch (k_b2 S p) p ((k_b2 S p).1 7 p 1).toNatClampNeg).2 7 p 1 (((k_b2 S p).1 7 p 1) + (1 : Int32))) p (k_M_fetch (k_b2 S p) p ((k_b2 S p).1 7 p 1).toNatClampNeg).1 := if_neg g
theorem r_b2 {B p d : Nat} {S : kw_S} {T : qw_S} (h : r_R B S T) (hp : p < 4) (hd : d < 4) (e1 : S.1 0 0 3 = nI d) (e2 : T.1 0 0 1 = nI d) : r_R B (k_b2 S p) (q_b2 T p) := by
  have k := v_done (v_begun h hp) hd (by rw [kw_si_nc (by decide)]; exact e1) (by rw [qw_si_nc (by decide)]; exact e2)
  have et : qw_si (qw_si T 7 0 p ((T.1 7 0 p) + (1 : Int32))) 0 0 1 (((qw_si T 7 0 p ((T.1 7 0 p) + (1 : Int32))).1 0 0 1) + (1 : Int32)) = q_b2 T p := by
    unfold q_b2
    rw [show (qw_si T 7 0 p ((T.1 7 0 p) + (1 : Int32))).1 0 = T.1 0 from qw_si_nc (by decide), show (qw_si T 0 0 1 ((T.1 0 0 1) + (1 : Int32))).1 7 = T.1 7 from qw_si_nc (by decide)]
    exact qw_si_comm (by decide)
  rw [et] at k
  exact k
/-- an instruction is done, on both sides -/
theorem r_inst {B p d : Nat} {S : kw_S} {T : qw_S} (h : r_R B S T) (hB : B < 2 ^ 30) (hp : p < 4) (hs : S.1 7 p 0 = 1) (hd : d < 4) (e1 : S.1 0 0 3 = nI d) (e2 : T.1 0 0 1 = nI d) (ht : T.2 0 0 0 % 4 = p) : p_Q_tick_J162 T ∧ (k_Q_tick_J162 T).1 = 1 ∧ r_R (B + 1) (k_K_doInstruction S p) (k_Q_tick_J162 T).2 := by
  have h2 := r_b2 h hp hd e1 e2
  have hs2 : (k_b2 S p).1 7 p 0 = 1 := by
    unfold k_b2
    rw [kw_si_nc (by decide), kw_si_oj (by decide)]
    exact hs
  have ht2 : (q_b2 T p).2 0 0 0 = T.2 0 0 0 := rfl
  have hl2 : (k_b2 S p).1 7 p 0 ≠ 0 ∧ (k_b2 S p).1 7 p 0 ≠ 4 := by
    rw [hs2]
    decide
  have hpl := ((h2.2.1 p hp).2.2.2.1 hl2.1 hl2.2).1
  have hup : ∀ {U V}, r_R B U V → r_R (B + 1) U V := fun q => r_R_B q (Nat.le_succ B)
  rw [q_J162, ht]
  have hpj : p_Q_does (q_b2 T p) p → p_Q_tick_J162 T := fun q => p_J162 (by rw [ht]; exact q)
  by_cases g : k_Q_in ((k_b2 S p).1 7 p 1) 64 = 0
  · have gT := g
    rw [hpl] at gT
    have eq : k_Q_does (q_b2 T p) p = ((0 : Int32), q_b2 T p) := if_pos gT
    have ep : p_Q_does (q_b2 T p) p := by
      unfold p_Q_does
      dsimp only
      rw [if_pos gT]
      trivial
    rw [k_inst0 g, eq]
    dsimp only
    rw [if_pos rfl, ht2, ht]
    have k := r_end (x := (-99 : Int32)) (v_wild h2) hp (by rw [kw_si_nc (by decide)]; exact hl2)
    refine ⟨hpj ep, rfl, ?_⟩
    unfold k_wild
    dsimp only
    exact hup k
  · have gT := g
    rw [hpl] at gT
    obtain ⟨a, ha, ea⟩ := in_of (N := 64) (by decide) g
    have eaT : (q_b2 T p).1 2 0 p = nI a := hpl.symm.trans ea
    obtain ⟨r1, x, U, V, r2, r3, r4, r5, r6, r7, r8⟩ := r_R_reach (w := 0) h2 hp ha hl2
    have hc : (nI (8 * x + a % 8)).toNatClampNeg = 8 * x + a % 8 := nI_clamp (by omega)
    have hca : (nI a).toNatClampNeg = a := nI_clamp (by omega)
    have ef : k_M_fetch (k_b2 S p) p a = (U.1 11 x (a % 8), U) := by
      unfold k_M_fetch
      dsimp only
      rw [r2]
    have ev : V.1 15 0 (8 * x + a % 8) = U.1 11 x (a % 8) := ((r5.1.1.2.1 x r4 r8).2.2.2.2 (a % 8) (by omega)).symm
    have eV : V.1 2 0 p = nI a := by
      rw [r7.1 2 (by omega) (by decide)]
      exact eaT
    have eV0 : V.2 0 0 0 = T.2 0 0 0 := (r7.2.2.2 0 (by decide)).trans ht2
    have ek := k_inst1 g
    rw [ea, hca, ef] at ek
    dsimp only at ek
    have eq : k_Q_does (q_b2 T p) p = q_do V p (U.1 11 x (a % 8)) := by
      rw [q_doEq gT, eaT, hca, r3]
      dsimp only
      rw [hc, ev]
    have hpd : p_do V p (U.1 11 x (a % 8)) → p_Q_does (q_b2 T p) p := fun q => by
      rw [p_doEq gT, eaT, hca, r3]
      dsimp only
      rw [hc, ev]
      exact ⟨r1, in_nI (by omega) (by decide), q⟩
    have h3 := v_place (x := nI a + (1 : Int32)) r5 hp
    have hl3 : (kw_si U 7 p 1 (nI a + (1 : Int32))).1 7 p 0 ≠ 0 ∧ (kw_si U 7 p 1 (nI a + (1 : Int32))).1 7 p 0 ≠ 4 := by
      rw [kw_si_oj (by decide), r6.2.1 p 0 (fun z => absurd z.2 (by decide))]
      exact hl2
    rw [← eV] at h3
    obtain ⟨o1, o2⟩ := r_obey (U.1 11 x (a % 8)) hB hp (by rw [eV]; exact hl3) h3
    rw [eV] at o2
    rw [ek, eq]
    refine ⟨hpj (hpd o1), ?_⟩
    unfold k_in2
    generalize k_K_obey (kw_si U 7 p 1 (nI a + (1 : Int32))) p (U.1 11 x (a % 8)) = X at o2
    generalize q_do V p (U.1 11 x (a % 8)) = Y at o2
    rcases o2 with ⟨x1, y1, y0, hR, hl4⟩ | ⟨x1, y1, hR⟩
    · rw [if_pos x1, if_pos y1, y0, eV0, ht]
      have h5 := v_wild hR
      rw [show (qw_si Y.2 2 0 p (nI a + (1 : Int32))).1 17 = Y.2.1 17 from qw_si_nc (by decide), qw_si_comm (c := 2) (c2 := 17) (by decide)] at h5
      have k := r_O_end (x := (-99 : Int32)) h5 hp (by rw [kw_si_nc (by decide)]; exact hl4)
      refine ⟨rfl, ?_⟩
      unfold k_wild
      dsimp only
      exact hup k
    · have x2 : ¬ X.1 = 0 := by rw [x1]; decide
      have y2 : ¬ Y.1 = 0 := by rw [y1]; decide
      rw [if_neg x2, if_neg y2]
      exact ⟨rfl, hR⟩
