/-- a process is ready -/
theorem v_ready {B i : Nat} {S : kw_S} {T : qw_S} (h : r_R B S T) (hi : i < 4) (hl : S.1 7 i 0 ≠ 0 ∧ S.1 7 i 0 ≠ 4) : r_R B (kw_si S 7 i 0 (1 : Int32)) (qw_si T 1 0 i (1 : Int32)) := by
  refine r_R_upd h (fun a ha => kw_si_nc ha) (fun b d hb => kw_si_oi hb) (kw_si_oj (by decide)) (fun a _ => rfl) (fun b _ => rfl) (fun a _ => qw_si_nc (by omega)) (fun a d hd => qw_si_od hd) (fun a _ => rfl) (fun d _ => rfl) ?_
  obtain ⟨h1, h2, h3, h4, h5, h6, h7, h8, _⟩ := h.2.1 i hi
  have k := h4 hl.1 hl.2
  have e : ∀ d, d ≠ 0 → (kw_si S 7 i 0 (1 : Int32)).1 7 i d = S.1 7 i d := fun d hd => kw_si_oj hd
  have e8 : (kw_si S 7 i 0 (1 : Int32)).1 8 = S.1 8 := kw_si_nc (by decide)
  have t : ∀ a, a ≠ 1 → (qw_si T 1 0 i (1 : Int32)).1 a = T.1 a := fun a ha => qw_si_nc ha
  unfold r_T
  rw [kw_si_is, qw_si_is, e 1 (by decide), e 2 (by decide), e 5 (by decide), e8, t 2 (by decide), t 7 (by decide), t 8 (by decide)]
  refine ⟨rfl, fun z => absurd z (by decide), fun _ => h3 hl.1, fun _ _ => k, fun z => absurd z (by decide), fun z => absurd z (by decide), h7, h8, fun z => ?_⟩
  rcases z with z | z
  · exact absurd z (by decide)
  · exact absurd z (by decide)
/-- a sleeper's ticks -/
theorem v_tock {B i : Nat} {S : kw_S} {T : qw_S} (h : r_R B S T) (hi : i < 4) (h0 : S.1 7 i 0 = 2) : r_R B (kw_si S 7 i 3 ((S.1 7 i 3) - (1 : Int32))) (qw_si T 5 0 i ((T.1 5 0 i) - (1 : Int32))) ∧ S.1 7 i 3 = T.1 5 0 i := by
  obtain ⟨h1, h2, h3, h4, h5, h6, h7, h8, h9⟩ := h.2.1 i hi
  refine ⟨r_R_upd h (fun a ha => kw_si_nc ha) (fun b d hb => kw_si_oi hb) (kw_si_oj (by decide)) (fun a _ => rfl) (fun b _ => rfl) (fun a _ => qw_si_nc (by omega)) (fun a d hd => qw_si_od hd) (fun a _ => rfl) (fun d _ => rfl) ?_, h6 h0⟩
  have e : ∀ d, d ≠ 3 → (kw_si S 7 i 3 ((S.1 7 i 3) - (1 : Int32))).1 7 i d = S.1 7 i d := fun d hd => kw_si_oj hd
  have e8 : (kw_si S 7 i 3 ((S.1 7 i 3) - (1 : Int32))).1 8 = S.1 8 := kw_si_nc (by decide)
  have t : ∀ a, a ≠ 5 → (qw_si T 5 0 i ((T.1 5 0 i) - (1 : Int32))).1 a = T.1 a := fun a ha => qw_si_nc ha
  unfold r_T
  rw [kw_si_is, qw_si_is, e 0 (by decide), e 1 (by decide), e 2 (by decide), e 5 (by decide), e8, t 1 (by decide), t 2 (by decide), t 4 (by decide), t 7 (by decide), t 8 (by decide)]
  exact ⟨h1, h2, h3, h4, h5, fun z => by rw [h6 z], h7, h8, h9⟩
theorem r_wakes {B : Nat} : ∀ n i (S : kw_S) (T : qw_S), i + n = 4 → r_R B S T → ∃ V, k_Q_tick_L12 n i T = k_Q_tick_L12 0 0 V ∧ (p_Q_tick_L12 0 0 V → p_Q_tick_L12 n i T) ∧ r_R B (k_K_wakeSleepers_L2 n i S) V := by
  intro n
  induction n with
  | zero => exact fun i S T _ h => ⟨T, rfl, id, h⟩
  | succ n ih =>
    intro i S T hn h
    have hi : i < 4 := by omega
    have t1 := (h.2.1 i hi).1
    by_cases g : S.1 7 i 0 = 2
    · have gT : T.1 1 0 i = 2 := t1.symm.trans g
      obtain ⟨hk, e3⟩ := v_tock h hi g
      by_cases g0 : (S.1 7 i 3) - (1 : Int32) = 0
      · have a1 : (kw_si S 7 i 3 ((S.1 7 i 3) - (1 : Int32))).1 7 i 3 = 0 := kw_si_is.trans g0
        have a2 : (qw_si T 5 0 i ((T.1 5 0 i) - (1 : Int32))).1 5 0 i = 0 := qw_si_is.trans (by rw [← e3]; exact g0)
        have e1 : k_K_wakeSleepers_L2 (n + 1) i S = k_K_wakeSleepers_L2 n (i + 1) (kw_si (kw_si S 7 i 3 ((S.1 7 i 3) - (1 : Int32))) 7 i 0 (1 : Int32)) := (if_pos g).trans (if_pos a1)
        have e2 : k_Q_tick_L12 (n + 1) i T = k_Q_tick_L12 n (i + 1) (qw_si (qw_si T 5 0 i ((T.1 5 0 i) - (1 : Int32))) 1 0 i (1 : Int32)) := (if_pos gT).trans (if_pos a2)
        have e4 : p_Q_tick_L12 (n + 1) i T = p_Q_tick_L12 n (i + 1) (qw_si (qw_si T 5 0 i ((T.1 5 0 i) - (1 : Int32))) 1 0 i (1 : Int32)) := (if_pos gT).trans (if_pos a2)
        rw [e1, e2, e4]
        refine ih (i + 1) _ _ (by omega) (v_ready hk hi ?_)
        rw [kw_si_oj (by decide), g]
        decide
      · have a1 : ¬ (kw_si S 7 i 3 ((S.1 7 i 3) - (1 : Int32))).1 7 i 3 = 0 := fun q => g0 (kw_si_is.symm.trans q)
        have a2 : ¬ (qw_si T 5 0 i ((T.1 5 0 i) - (1 : Int32))).1 5 0 i = 0 := fun q => g0 (by rw [e3]; exact qw_si_is.symm.trans q)
        have e1 : k_K_wakeSleepers_L2 (n + 1) i S = k_K_wakeSleepers_L2 n (i + 1) (kw_si S 7 i 3 ((S.1 7 i 3) - (1 : Int32))) := (if_pos g).trans (if_neg a1)
        have e2 : k_Q_tick_L12 (n + 1) i T = k_Q_tick_L12 n (i + 1) (qw_si T 5 0 i ((T.1 5 0 i) - (1 : Int32))) := (if_pos gT).trans (if_neg a2)
        have e4 : p_Q_tick_L12 (n + 1) i T = p_Q_tick_L12 n (i + 1) (qw_si T 5 0 i ((T.1 5 0 i) - (1 : Int32))) := (if_pos gT).trans (if_neg a2)
        rw [e1, e2, e4]
        exact ih (i + 1) _ _ (by omega) hk
    · have gT : ¬ T.1 1 0 i = 2 := fun q => g (t1.trans q)
      have e1 : k_K_wakeSleepers_L2 (n + 1) i S = k_K_wakeSleepers_L2 n (i + 1) S := if_neg g
      have e2 : k_Q_tick_L12 (n + 1) i T = k_Q_tick_L12 n (i + 1) T := if_neg gT
      have e4 : p_Q_tick_L12 (n + 1) i T = p_Q_tick_L12 n (i + 1) T := if_neg gT
      rw [e1, e2, e4]
      exact ih (i + 1) _ _ (by omega) h
/-- the first ready process behind the one with the turn: the reference -/
def q_fst : Nat → Nat → qw_S → Nat
  | 0, q, _ => q
  | n + 1, q, T => if (T.1 1 0 ((((T.2 0 0 0) % 4) + (n + 1)) % 4)) = (1 : Int32) then q_fst n ((((T.2 0 0 0) % 4) + (n + 1)) % 4) T else q_fst n q T
theorem q_L94 {T : qw_S} : ∀ n q, k_Q_tick_L94 n q T = k_Q_tick_L94 0 (q_fst n q T) T ∧ p_Q_tick_L94 n q T = p_Q_tick_L94 0 (q_fst n q T) T := by
  intro n
  induction n with
  | zero => exact fun q => ⟨rfl, rfl⟩
  | succ n ih =>
    intro q
    by_cases g : (T.1 1 0 ((((T.2 0 0 0) % 4) + (n + 1)) % 4)) = (1 : Int32)
    · have e1 : k_Q_tick_L94 (n + 1) q T = k_Q_tick_L94 n ((((T.2 0 0 0) % 4) + (n + 1)) % 4) T := if_pos g
      have e2 : p_Q_tick_L94 (n + 1) q T = p_Q_tick_L94 n ((((T.2 0 0 0) % 4) + (n + 1)) % 4) T := if_pos g
      have e3 : q_fst (n + 1) q T = q_fst n ((((T.2 0 0 0) % 4) + (n + 1)) % 4) T := if_pos g
      rw [e1, e2, e3]
      exact ih _
    · have e1 : k_Q_tick_L94 (n + 1) q T = k_Q_tick_L94 n q T := if_neg g
      have e2 : p_Q_tick_L94 (n + 1) q T = p_Q_tick_L94 n q T := if_neg g
      have e3 : q_fst (n + 1) q T = q_fst n q T := if_neg g
      rw [e1, e2, e3]
      exact ih _
theorem q_fst0 {T : qw_S} : ∀ n q, (∀ k, 1 ≤ k → k ≤ n → ¬ (T.1 1 0 ((((T.2 0 0 0) % 4) + k) % 4)) = (1 : Int32)) → q_fst n q T = q := by
  intro n
  induction n with
  | zero => exact fun q _ => rfl
  | succ n ih =>
    intro q h
    have e3 : q_fst (n + 1) q T = q_fst n q T := if_neg (h (n + 1) (by omega) (Nat.le_refl _))
    rw [e3]
    exact ih q (fun k h1 h2 => h k h1 (by omega))
theorem q_fst1 {T : qw_S} {j : Nat} (h1 : 1 ≤ j) (hj : (T.1 1 0 ((((T.2 0 0 0) % 4) + j) % 4)) = (1 : Int32)) (hk : ∀ k, 1 ≤ k → k < j → ¬ (T.1 1 0 ((((T.2 0 0 0) % 4) + k) % 4)) = (1 : Int32)) : ∀ n q, j ≤ n → q_fst n q T = (((T.2 0 0 0) % 4) + j) % 4 := by
  intro n
  induction n with
  | zero => exact fun q h => absurd h (by omega)
  | succ n ih =>
    intro q h
    by_cases e : j = n + 1
    · rw [e] at hj
      have e3 : q_fst (n + 1) q T = q_fst n ((((T.2 0 0 0) % 4) + (n + 1)) % 4) T := if_pos hj
      rw [e3, e]
      exact q_fst0 n _ (fun k k1 k2 => hk k k1 (by omega))
    · by_cases g : (T.1 1 0 ((((T.2 0 0 0) % 4) + (n + 1)) % 4)) = (1 : Int32)
      · have e3 : q_fst (n + 1) q T = q_fst n ((((T.2 0 0 0) % 4) + (n + 1)) % 4) T := if_pos g
        rw [e3]
        exact ih _ (by omega)
      · have e3 : q_fst (n + 1) q T = q_fst n q T := if_neg g
        rw [e3]
        exact ih _ (by omega)
/-- the class' -/
def k_gv (S : kw_S) (q : Nat) : kw_S := kw_si (kw_si (kw_sn S 0 0 1 q) 0 0 3 (0 : Int32)) 0 0 4 (0 : Int32)
theorem k_L45 {S : kw_S} : ∀ n i, i + n = 5 → ((∀ k, i ≤ k → k ≤ 4 → ¬ (S.1 7 ((((S.2 0 0 1) % 4) + k) % 4) 0) = (1 : Int32)) ∧ k_K_giveTurn_L45 n i S = ((0 : Int32), S)) ∨ ∃ j, i ≤ j ∧ j ≤ 4 ∧ (S.1 7 ((((S.2 0 0 1) % 4) + j) % 4) 0) = (1 : Int32) ∧ (∀ k, i ≤ k → k < j → ¬ (S.1 7 ((((S.2 0 0 1) % 4) + k) % 4) 0) = (1 : Int32)) ∧ k_K_giveTurn_L45 n i S = ((1 : Int32), k_gv S ((((S.2 0 0 1) % 4) + j) % 4)) := by
  intro n
  induction n with
  | zero => exact fun i h => Or.inl ⟨fun k h1 h2 => absurd h2 (by omega), rfl⟩
  | succ n ih =>
    intro i h
    by_cases g : (S.1 7 ((((S.2 0 0 1) % 4) + i) % 4) 0) = (1 : Int32)
    · exact Or.inr ⟨i, Nat.le_refl _, by omega, g, fun k h1 h2 => absurd h2 (by omega), if_pos g⟩
    · have e : k_K_giveTurn_L45 (n + 1) i S = k_K_giveTurn_L45 n (i + 1) S := if_neg g
      rw [e]
      rcases ih (i + 1) (by omega) with ⟨h1, h2⟩ | ⟨j, h1, h2, h3, h4, h5⟩
      · refine Or.inl ⟨fun k k1 k2 => ?_, h2⟩
        by_cases q : k = i
        · rw [q]
          exact g
        · exact h1 k (by omega) k2
      · refine Or.inr ⟨j, by omega, h2, h3, fun k k1 k2 => ?_, h5⟩
        by_cases q : k = i
        · rw [q]
          exact g
        · exact h4 k (by omega) k2
theorem r_gv {B q : Nat} {S : kw_S} {T : qw_S} (h : r_R B S T) : r_R B (k_gv S q) (qw_si (qw_si (qw_sn T 0 0 0 q) 0 0 1 (0 : Int32)) 0 0 2 (0 : Int32)) := by
  obtain ⟨s1, s2, s3, s4, s5, s6, s7, s8, s9⟩ := h.2.2.1
  unfold k_gv
  refine r_R_mach h (fun a a0 _ => by rw [kw_si_nc a0, kw_si_nc a0, kw_sn_o]) (fun a ha => by rw [kw_si_o, kw_si_o, kw_sn_nc ha]) (fun a a0 _ _ => by rw [qw_si_nc a0, qw_si_nc a0, qw_sn_o]) (fun j _ _ => by rw [qw_si_nc (by decide), qw_si_nc (by decide), qw_sn_o]) (fun a ha => by rw [qw_si_o, qw_si_o, qw_sn_nc ha]) (by rw [qw_si_o, qw_si_o, qw_sn_at, if_neg (by decide)]) ?_ (by rw [kw_si_o, kw_si_o, kw_sn_at, if_neg (by decide)]; exact h.2.2.2)
  have k : ∀ x, x ≠ 3 → x ≠ 4 → (kw_si (kw_si (kw_sn S 0 0 1 q) 0 0 3 (0 : Int32)) 0 0 4 (0 : Int32)).1 0 0 x = S.1 0 0 x := fun x h3 h4 => by rw [kw_si_oj h4, kw_si_oj h3, kw_sn_o]
  have k3 : (kw_si (kw_si (kw_sn S 0 0 1 q) 0 0 3 (0 : Int32)) 0 0 4 (0 : Int32)).1 0 0 3 = 0 := by rw [kw_si_oj (by decide), kw_si_is]
  have kp : (kw_si (kw_si (kw_sn S 0 0 1 q) 0 0 3 (0 : Int32)) 0 0 4 (0 : Int32)).1 3 = S.1 3 := by rw [kw_si_nc (by decide), kw_si_nc (by decide), kw_sn_o]
  have kn : (kw_si (kw_si (kw_sn S 0 0 1 q) 0 0 3 (0 : Int32)) 0 0 4 (0 : Int32)).2 0 0 1 = q := by rw [kw_si_o, kw_si_o, kw_sn_is]
  have km : (kw_si (kw_si (kw_sn S 0 0 1 q) 0 0 3 (0 : Int32)) 0 0 4 (0 : Int32)).2 0 0 0 = S.2 0 0 0 := by rw [kw_si_o, kw_si_o, kw_sn_at, if_neg (by decide)]
  have t0 : (qw_si (qw_si (qw_sn T 0 0 0 q) 0 0 1 (0 : Int32)) 0 0 2 (0 : Int32)).1 0 0 0 = T.1 0 0 0 := by rw [qw_si_od (by decide), qw_si_od (by decide), qw_sn_o]
  have t1 : (qw_si (qw_si (qw_sn T 0 0 0 q) 0 0 1 (0 : Int32)) 0 0 2 (0 : Int32)).1 0 0 1 = 0 := by rw [qw_si_od (by decide), qw_si_is]
  have t16 : (qw_si (qw_si (qw_sn T 0 0 0 q) 0 0 1 (0 : Int32)) 0 0 2 (0 : Int32)).1 16 = T.1 16 := by rw [qw_si_nc (by decide), qw_si_nc (by decide), qw_sn_o]
  have t17 : (qw_si (qw_si (qw_sn T 0 0 0 q) 0 0 1 (0 : Int32)) 0 0 2 (0 : Int32)).1 17 = T.1 17 := by rw [qw_si_nc (by decide), qw_si_nc (by decide), qw_sn_o]
  have tn : (qw_si (qw_si (qw_sn T 0 0 0 q) 0 0 1 (0 : Int32)) 0 0 2 (0 : Int32)).2 0 0 0 = q := by rw [qw_si_o, qw_si_o, qw_sn_is]
  have tm : (qw_si (qw_si (qw_sn T 0 0 0 q) 0 0 1 (0 : Int32)) 0 0 2 (0 : Int32)).2 0 0 2 = T.2 0 0 2 := by rw [qw_si_o, qw_si_o, qw_sn_at, if_neg (by decide)]
  unfold r_S
  rw [k 0 (by decide) (by decide), k 1 (by decide) (by decide), k 2 (by decide) (by decide), k3, kp, kn, km, kw_si_is, t0, t1, t16, t17, tn, tm, qw_si_is]
  exact ⟨s1, rfl, ⟨0, by decide, rfl, rfl⟩, Iff.rfl, s5, s6, s7, s8, s9⟩
/-- a tick behind the waking, on both sides -/
def r_tk (B : Nat) (x : Int32 × kw_S) (y : Int32 × qw_S) : Prop :=
  (x.1 = 0 ∧ y.1 = 0 ∧ r_R (B + 1) (kw_si x.2 0 0 1 ((x.2.1 0 0 1) + (1 : Int32))) y.2) ∨ (x.1 = 1 ∧ y.1 = 1 ∧ r_R (B + 1) (k_K_doInstruction x.2 ((x.2.2 0 0 1) % 4)) y.2 ∧ (x.2.2 0 0 0 < 2 ^ 30 ∧ kw_FI x.2))
theorem r_fi {B : Nat} {S : kw_S} {T : qw_S} (h : r_R B S T) (hB : B < 2 ^ 30) : S.2 0 0 0 < 2 ^ 30 ∧ kw_FI S := ⟨Nat.lt_of_le_of_lt h.2.2.2 hB, h.1.1.2.2.1.2.1⟩
theorem r_search {B : Nat} {S : kw_S} {T : qw_S} (h : r_R B S T) (hB : B < 2 ^ 30) : p_Q_tick_L94 4 4 T ∧ r_tk B (k_K_giveTurn_L45 4 1 S) (k_Q_tick_L94 4 4 T) := by
  have s2 : S.2 0 0 1 % 4 = T.2 0 0 0 % 4 := h.2.2.1.2.1
  have hst : ∀ k, S.1 7 ((((S.2 0 0 1) % 4) + k) % 4) 0 = T.1 1 0 ((((T.2 0 0 0) % 4) + k) % 4) := fun k => by
    rw [s2]
    exact (h.2.1 _ (Nat.mod_lt _ (by decide))).1
  obtain ⟨l1, l2⟩ := q_L94 (T := T) 4 4
  rw [l1, l2]
  rcases k_L45 (S := S) 4 1 rfl with ⟨h1, h2⟩ | ⟨j, h1, h2, h3, h4, h5⟩
  · have ef : q_fst 4 4 T = 4 := q_fst0 4 4 (fun k k1 k2 => by rw [← hst]; exact h1 k k1 k2)
    have gt : ¬ 0 ≤ qw_tn 4 := by decide
    have eq : k_Q_tick_L94 0 4 T = ((0 : Int32), qw_si T 17 0 11 ((T.1 17 0 11) + (1 : Int32))) := if_neg gt
    have ep : p_Q_tick_L94 0 4 T = True := if_neg gt
    rw [ef, h2, eq, ep]
    exact ⟨trivial, Or.inl ⟨rfl, rfl, r_R_B (v_idle h) (Nat.le_succ B)⟩⟩
  · have ef : q_fst 4 4 T = (((T.2 0 0 0) % 4) + j) % 4 := q_fst1 h1 (by rw [← hst]; exact h3) (fun k k1 k2 => by rw [← hst]; exact h4 k k1 k2) 4 4 h2
    rw [ef, h5, ← s2]
    have hq : (((S.2 0 0 1) % 4) + j) % 4 < 4 := Nat.mod_lt _ (by decide)
    generalize (((S.2 0 0 1) % 4) + j) % 4 = q at h3 hq
    have gt : 0 ≤ qw_tn q := by
      unfold qw_tn
      rw [if_pos hq]
      exact nI_pos' (by omega)
    have eq : k_Q_tick_L94 0 q T = k_Q_tick_J162 (qw_si (qw_si (qw_sn T 0 0 0 q) 0 0 1 (0 : Int32)) 0 0 2 (0 : Int32)) := if_pos gt
    have ep : p_Q_tick_L94 0 q T = p_Q_tick_J162 (qw_si (qw_si (qw_sn T 0 0 0 q) 0 0 1 (0 : Int32)) 0 0 2 (0 : Int32)) := if_pos gt
    have kn : (k_gv S q).2 0 0 1 % 4 = q := by
      unfold k_gv
      rw [kw_si_o, kw_si_o, kw_sn_is]
      omega
    have tn : (qw_si (qw_si (qw_sn T 0 0 0 q) 0 0 1 (0 : Int32)) 0 0 2 (0 : Int32)).2 0 0 0 % 4 = q := by
      rw [qw_si_o, qw_si_o, qw_sn_is]
      omega
    have k3 : (k_gv S q).1 0 0 3 = nI 0 := by
      unfold k_gv
      rw [kw_si_oj (by decide), kw_si_is]
      rfl
    have t1 : (qw_si (qw_si (qw_sn T 0 0 0 q) 0 0 1 (0 : Int32)) 0 0 2 (0 : Int32)).1 0 0 1 = nI 0 := by
      rw [qw_si_od (by decide), qw_si_is]
      rfl
    have k7 : (k_gv S q).1 7 q 0 = 1 := by
      unfold k_gv
      rw [kw_si_nc (by decide), kw_si_nc (by decide), kw_sn_o]
      exact h3
    obtain ⟨i1, i2, i3⟩ := r_inst (r_gv (q := q) h) hB hq k7 (d := 0) (by decide) k3 t1 tn
    rw [eq, ep]
    refine ⟨i1, Or.inr ⟨rfl, i2, ?_, r_fi (r_gv (q := q) h) hB⟩⟩
    dsimp only
    rw [kn]
    exact i3
theorem r_turn {B : Nat} {S : kw_S} {T : qw_S} (h : r_R B S T) (hB : B < 2 ^ 30) : p_Q_tick_L12 0 0 T ∧ r_tk B (k_K_giveTurn S) (k_Q_tick_L12 0 0 T) := by
  obtain ⟨_, s2, ⟨d, hd, d1, d2⟩, s4, _⟩ := h.2.2.1
  have hst : S.1 7 (S.2 0 0 1 % 4) 0 = T.1 1 0 (T.2 0 0 0 % 4) := by
    rw [s2]
    exact (h.2.1 _ (Nat.mod_lt _ (by decide))).1
  have eq : k_Q_tick_L12 0 0 T = if (T.1 1 0 ((T.2 0 0 0) % 4)) = (1 : Int32) then (if (T.1 0 0 2) = 0 then (if (T.1 0 0 1) = (4 : Int32) then k_Q_tick_L94 4 4 T else k_Q_tick_J162 T) else k_Q_tick_L94 4 4 T) else k_Q_tick_L94 4 4 T := rfl
  have ep : p_Q_tick_L12 0 0 T = if (T.1 1 0 ((T.2 0 0 0) % 4)) = (1 : Int32) then (if (T.1 0 0 2) = 0 then (if (T.1 0 0 1) = (4 : Int32) then p_Q_tick_L94 4 4 T else p_Q_tick_J162 T) else p_Q_tick_L94 4 4 T) else p_Q_tick_L94 4 4 T := rfl
  have ek : k_K_giveTurn S = if S.1 0 0 4 = 0 then (if S.1 0 0 3 < (4 : Int32) then (if S.1 7 (S.2 0 0 1 % 4) 0 = (1 : Int32) then ((1 : Int32), S) else k_K_giveTurn_L45 4 1 S) else k_K_giveTurn_L45 4 1 S) else k_K_giveTurn_L45 4 1 S := by
    unfold k_K_giveTurn
    simp only [ite_self]
  have hsr := r_search h hB
  have hgo : k_K_giveTurn S = k_K_giveTurn_L45 4 1 S → k_Q_tick_L12 0 0 T = k_Q_tick_L94 4 4 T → p_Q_tick_L12 0 0 T = p_Q_tick_L94 4 4 T → p_Q_tick_L12 0 0 T ∧ r_tk B (k_K_giveTurn S) (k_Q_tick_L12 0 0 T) := fun e1 e2 e3 => by
    rw [e1, e2, e3]
    exact hsr
  by_cases g1 : T.1 1 0 (T.2 0 0 0 % 4) = 1
  · by_cases g2 : T.1 0 0 2 = 0
    · by_cases g3 : d = 4
      · have a1 : ¬ S.1 0 0 3 < (4 : Int32) := by rw [d1, g3]; decide
        have a2 : T.1 0 0 1 = (4 : Int32) := by rw [d2, g3]; rfl
        exact hgo (ek.trans ((if_pos (s4.mpr g2)).trans (if_neg a1))) (eq.trans ((if_pos g1).trans ((if_pos g2).trans (if_pos a2)))) (ep.trans ((if_pos g1).trans ((if_pos g2).trans (if_pos a2))))
      · have a1 : S.1 0 0 3 < (4 : Int32) := by rw [d1]; exact nI_lt (b := 4) (by omega) (by decide)
        have a2 : ¬ T.1 0 0 1 = (4 : Int32) := by rw [d2]; exact fun q => g3 ((nI_eq (b := 4) (by omega) (by decide)).mp q)
        have e1 : k_K_giveTurn S = ((1 : Int32), S) := ek.trans ((if_pos (s4.mpr g2)).trans ((if_pos a1).trans (if_pos (hst.trans g1))))
        have e2 : k_Q_tick_L12 0 0 T = k_Q_tick_J162 T := eq.trans ((if_pos g1).trans ((if_pos g2).trans (if_neg a2)))
        have e3 : p_Q_tick_L12 0 0 T = p_Q_tick_J162 T := ep.trans ((if_pos g1).trans ((if_pos g2).trans (if_neg a2)))
        have hp : T.2 0 0 0 % 4 < 4 := Nat.mod_lt _ (by decide)
        obtain ⟨i1, i2, i3⟩ := r_inst (p := T.2 0 0 0 % 4) (d := d) h hB hp (by rw [← s2, hst]; exact g1) (by omega) d1 d2 rfl
        rw [e1, e2, e3]
        refine ⟨i1, Or.inr ⟨rfl, i2, ?_, r_fi h hB⟩⟩
        dsimp only
        rw [s2]
        exact i3
    · exact hgo (ek.trans (if_neg (fun z => g2 (s4.mp z)))) (eq.trans ((if_pos g1).trans (if_neg g2))) (ep.trans ((if_pos g1).trans (if_neg g2)))
  · exact hgo (by rw [ek, if_neg (fun z => g1 (hst.symm.trans z)), ite_self, ite_self]) (eq.trans (if_neg g1)) (ep.trans (if_neg g1))
/-- a run, on both sides -/
theorem r_runL : ∀ n i m b B (S : kw_S) (T : qw_S), r_R B S T → B + n < 2 ^ 30 → kw_RI n S ∧ p_Q_run_L17 n i m b T ∧ (k_K_run_L17 n i m b S).1 = (k_Q_run_L17 n i m b T).1 ∧ r_R (B + n) (k_K_run_L17 n i m b S).2 (k_Q_run_L17 n i m b T).2 := by
  intro n
  induction n with
  | zero => exact fun i m b B S T h _ => ⟨trivial, trivial, rfl, h⟩
  | succ n ih =>
    intro i m b B S T h hB
    obtain ⟨V, w1, w2, w3⟩ := r_wakes 4 0 _ _ rfl (v_tick h)
    obtain ⟨t1, t2⟩ := r_turn w3 (by omega)
    have e1 : k_Q_tick T = k_Q_tick_L12 0 0 V := w1
    have e2 : p_Q_tick T := w2 t1
    rw [← e1] at t2
    have ek : k_K_run_L17 (n + 1) i m b S = (if (k_K_giveTurn (k_K_wakeSleepers_L2 4 0 (kw_si S 0 0 0 ((S.1 0 0 0) + (1 : Int32))))).1 = 0 then k_K_run_L17 n (i + 1) m b (kw_si (k_K_giveTurn (k_K_wakeSleepers_L2 4 0 (kw_si S 0 0 0 ((S.1 0 0 0) + (1 : Int32))))).2 0 0 1 (((k_K_giveTurn (k_K_wakeSleepers_L2 4 0 (kw_si S 0 0 0 ((S.1 0 0 0) + (1 : Int32))))).2.1 0 0 1) + (1 : Int32))) else k_K_run_L17 n (i + 1) m (b + Int32.ofInt (1)) (k_K_doInstruction (k_K_giveTurn (k_K_wakeSleepers_L2 4 0 (kw_si S 0 0 0 ((S.1 0 0 0) + (1 : Int32))))).2 (((k_K_giveTurn (k_K_wakeSleepers_L2 4 0 (kw_si S 0 0 0 ((S.1 0 0 0) + (1 : Int32))))).2.2 0 0 1) % 4))) := rfl
    have eq : k_Q_run_L17 (n + 1) i m b T = (if (k_Q_tick T).1 = 0 then k_Q_run_L17 n (i + 1) m b (k_Q_tick T).2 else k_Q_run_L17 n (i + 1) m (b + Int32.ofInt (1)) (k_Q_tick T).2) := rfl
    have ep : p_Q_run_L17 (n + 1) i m b T = (p_Q_tick T ∧ (if (k_Q_tick T).1 = 0 then p_Q_run_L17 n (i + 1) m b (k_Q_tick T).2 else p_Q_run_L17 n (i + 1) m (b + Int32.ofInt (1)) (k_Q_tick T).2)) := rfl
    have er : kw_RI (n + 1) S = (if (k_K_giveTurn (k_K_wakeSleepers_L2 4 0 (kw_si S 0 0 0 ((S.1 0 0 0) + (1 : Int32))))).1 = 0 then kw_RI n (kw_si (k_K_giveTurn (k_K_wakeSleepers_L2 4 0 (kw_si S 0 0 0 ((S.1 0 0 0) + (1 : Int32))))).2 0 0 1 (((k_K_giveTurn (k_K_wakeSleepers_L2 4 0 (kw_si S 0 0 0 ((S.1 0 0 0) + (1 : Int32))))).2.1 0 0 1) + (1 : Int32))) else (((k_K_giveTurn (k_K_wakeSleepers_L2 4 0 (kw_si S 0 0 0 ((S.1 0 0 0) + (1 : Int32))))).2.2 0 0 0 < 2 ^ 30 ∧ kw_FI (k_K_giveTurn (k_K_wakeSleepers_L2 4 0 (kw_si S 0 0 0 ((S.1 0 0 0) + (1 : Int32))))).2) ∧ kw_RI n (k_K_doInstruction (k_K_giveTurn (k_K_wakeSleepers_L2 4 0 (kw_si S 0 0 0 ((S.1 0 0 0) + (1 : Int32))))).2 (((k_K_giveTurn (k_K_wakeSleepers_L2 4 0 (kw_si S 0 0 0 ((S.1 0 0 0) + (1 : Int32))))).2.2 0 0 1) % 4)))) := rfl
    rw [ek, eq, ep, er]
    have eB : B + (n + 1) = (B + 1) + n := by omega
    rw [eB]
    generalize k_K_giveTurn (k_K_wakeSleepers_L2 4 0 (kw_si S 0 0 0 ((S.1 0 0 0) + (1 : Int32)))) = X at t2
    generalize k_Q_tick T = Y at t2
    rcases t2 with ⟨x1, y1, hR⟩ | ⟨x1, y1, hR, hF⟩
    · rw [if_pos x1, if_pos x1, if_pos y1, if_pos y1]
      obtain ⟨a0, a1, a2, a3⟩ := ih (i + 1) m b (B + 1) _ _ hR (by omega)
      exact ⟨a0, ⟨e2, a1⟩, a2, a3⟩
    · have x2 : ¬ X.1 = 0 := by rw [x1]; decide
      have y2 : ¬ Y.1 = 0 := by rw [y1]; decide
      rw [if_neg x2, if_neg x2, if_neg y2, if_neg y2]
      obtain ⟨a0, a1, a2, a3⟩ := ih (i + 1) m (b + Int32.ofInt (1)) (B + 1) _ _ hR (by omega)
      exact ⟨⟨hF, a0⟩, ⟨e2, a1⟩, a2, a3⟩
theorem r_run {B : Nat} {S : kw_S} {T : qw_S} (h : r_R B S T) (hB : B + 40 < 2 ^ 30) (n : Int32) : (¬ n < 1 → n ≤ 40 → kw_RI n.toNatClampNeg S) ∧ p_Q_run T n ∧ (k_K_run S n).1 = (k_Q_run T n).1 ∧ r_R (B + 40) (k_K_run S n).2 (k_Q_run T n).2 := by
  have hup : r_R (B + 40) S T := r_R_B h (by omega)
  unfold p_Q_run k_K_run k_Q_run
  by_cases g1 : n < 1
  · rw [if_pos g1, if_pos g1, if_pos g1]
    exact ⟨fun q => absurd g1 q, trivial, rfl, hup⟩
  · rw [if_neg g1, if_neg g1, if_neg g1]
    by_cases g2 : n ≤ 40
    · rw [if_pos g2, if_pos g2, if_pos g2]
      have h40 : n.toNatClampNeg ≤ 40 := by
        have h0 : ¬ n < 0 := fun q => g1 (Int32.lt_trans q (by decide))
        obtain ⟨j, hj, e⟩ := nI_of h0
        rw [e, nI_clamp hj]
        apply Classical.byContradiction
        intro q
        rw [e] at g2
        exact nI_ge (a := 40) (by omega) hj g2
      obtain ⟨a0, a1, a2, a3⟩ := r_runL (n.toNatClampNeg - 0) 0 n.toNatClampNeg 0 B S T h (by omega)
      exact ⟨fun _ _ => a0, a1, a2, r_R_B a3 (by omega)⟩
    · rw [if_neg g2, if_neg g2, if_neg g2]
      exact ⟨fun _ q => absurd q g2, trivial, rfl, hup⟩
