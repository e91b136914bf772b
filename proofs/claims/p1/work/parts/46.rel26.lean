theorem i_sub2 (x : Int32) : x + 1 - 1 = x := Int32.add_sub_cancel x 1
theorem i_and15 (x : Int32) : x &&& 15 = nI (x &&& 15).toNatClampNeg ∧ (x &&& 15).toNatClampNeg < 16 := sk_in (n := 16) (pk_andIn x 4 (by decide) (by decide)) (by decide)
/-- what the reference does in a system call, case by case; T1 : its place is raised -/
theorem q_cl {T : qw_S} {p R : Nat} {n : Int32} (h1 : ¬ k_Q_in n 6 = 0) (h2 : ¬ n = 4) : k_Q_calls T p R n = k_Q_calls_J35 p R n (T.1 8 0 R) T ∧ (p_Q_calls T p R n ↔ p_Q_calls_J35 p R n (T.1 8 0 R) T) := by
  unfold k_Q_calls p_Q_calls
  dsimp only
  rw [if_neg h1, if_neg h1, if_neg h2, if_neg h2]
  exact ⟨rfl, Iff.rfl⟩
theorem q_c0 {T : qw_S} {p R : Nat} {old : Int32} (hc : T.2 0 0 2 < 2 ^ 30) : k_Q_calls_J35 p R 0 old T = ((1 : Int32), q_pr (qw_si T 2 0 p ((T.1 2 0 p) + (1 : Int32))) old) ∧ p_Q_calls_J35 p R 0 old T := by
  unfold k_Q_calls_J35 p_Q_calls_J35 q_pr
  dsimp only
  rw [if_pos rfl, if_pos rfl]
  by_cases g : (40 : Int32) ≤ nI ((qw_si T 2 0 p ((T.1 2 0 p) + (1 : Int32))).2 0 0 2)
  · rw [if_pos g, if_pos g, if_pos g]
    exact ⟨rfl, trivial⟩
  · rw [if_neg g, if_neg g, if_neg g]
    exact ⟨rfl, hc, trivial⟩
theorem q_c1 {T : qw_S} {p R : Nat} {old : Int32} : k_Q_calls_J35 p R 1 old T = ((1 : Int32), qw_si (k_Q_fork (qw_si T 2 0 p ((T.1 2 0 p) + (1 : Int32))) p (R % 4)).2 8 0 R (k_Q_fork (qw_si T 2 0 p ((T.1 2 0 p) + (1 : Int32))) p (R % 4)).1) ∧ p_Q_calls_J35 p R 1 old T := by
  unfold k_Q_calls_J35 p_Q_calls_J35
  dsimp only
  rw [if_neg (show ¬ (1 : Int32) = 0 by decide), if_neg (show ¬ (1 : Int32) = 0 by decide), if_pos rfl, if_pos rfl]
  exact ⟨rfl, trivial⟩
theorem q_c2 {T : qw_S} {p R : Nat} {old : Int32} : k_Q_calls_J35 p R 2 old T = ((1 : Int32), qw_si (qw_si T 2 0 p ((T.1 2 0 p) + (1 : Int32))) 0 0 2 (1 : Int32)) ∧ p_Q_calls_J35 p R 2 old T := by
  unfold k_Q_calls_J35 p_Q_calls_J35
  dsimp only
  rw [if_neg (show ¬ (2 : Int32) = 0 by decide), if_neg (show ¬ (2 : Int32) = 0 by decide), if_neg (show ¬ (2 : Int32) = 1 by decide), if_neg (show ¬ (2 : Int32) = 1 by decide), if_pos rfl, if_pos rfl]
  exact ⟨rfl, trivial⟩
theorem q_c3 {T : qw_S} {p R : Nat} {old : Int32} : k_Q_calls_J35 p R 3 old T = ((1 : Int32), if (1 : Int32) ≤ old then qw_si (qw_si (qw_si T 2 0 p ((T.1 2 0 p) + (1 : Int32))) 1 0 p (2 : Int32)) 5 0 p old else qw_si T 2 0 p ((T.1 2 0 p) + (1 : Int32))) ∧ p_Q_calls_J35 p R 3 old T := by
  unfold k_Q_calls_J35 p_Q_calls_J35
  dsimp only
  rw [if_neg (show ¬ (3 : Int32) = 0 by decide), if_neg (show ¬ (3 : Int32) = 0 by decide), if_neg (show ¬ (3 : Int32) = 1 by decide), if_neg (show ¬ (3 : Int32) = 1 by decide), if_neg (show ¬ (3 : Int32) = 2 by decide), if_neg (show ¬ (3 : Int32) = 2 by decide), if_pos rfl, if_pos rfl]
  by_cases g : (1 : Int32) ≤ old
  · rw [if_pos g, if_pos g, if_pos g]
    exact ⟨rfl, trivial⟩
  · rw [if_neg g, if_neg g, if_neg g]
    exact ⟨rfl, trivial⟩
theorem q_c4 {T : qw_S} {p R : Nat} {old : Int32} : k_Q_calls_J35 p R 4 old T = ((1 : Int32), qw_si T 2 0 p ((T.1 2 0 p) + (1 : Int32))) ∧ p_Q_calls_J35 p R 4 old T := by
  unfold k_Q_calls_J35 p_Q_calls_J35
  dsimp only
  rw [if_neg (show ¬ (4 : Int32) = 0 by decide), if_neg (show ¬ (4 : Int32) = 0 by decide), if_neg (show ¬ (4 : Int32) = 1 by decide), if_neg (show ¬ (4 : Int32) = 1 by decide), if_neg (show ¬ (4 : Int32) = 2 by decide), if_neg (show ¬ (4 : Int32) = 2 by decide), if_neg (show ¬ (4 : Int32) = 3 by decide), if_neg (show ¬ (4 : Int32) = 3 by decide), if_pos rfl, if_pos rfl]
  exact ⟨rfl, trivial⟩
theorem q_c5 {T : qw_S} {p R : Nat} {old : Int32} : k_Q_calls_J35 p R 5 old T = ((1 : Int32), qw_si (qw_si T 2 0 p ((T.1 2 0 p) + (1 : Int32))) 8 0 R (nI p)) ∧ p_Q_calls_J35 p R 5 old T := by
  unfold k_Q_calls_J35 p_Q_calls_J35
  dsimp only
  rw [if_neg (show ¬ (5 : Int32) = 0 by decide), if_neg (show ¬ (5 : Int32) = 0 by decide), if_neg (show ¬ (5 : Int32) = 1 by decide), if_neg (show ¬ (5 : Int32) = 1 by decide), if_neg (show ¬ (5 : Int32) = 2 by decide), if_neg (show ¬ (5 : Int32) = 2 by decide), if_neg (show ¬ (5 : Int32) = 3 by decide), if_neg (show ¬ (5 : Int32) = 3 by decide), if_neg (show ¬ (5 : Int32) = 4 by decide), if_neg (show ¬ (5 : Int32) = 4 by decide), if_pos rfl, if_pos rfl]
  exact ⟨rfl, trivial⟩
/-- a system call, on both sides; x, y: what the class and the reference answer -/
def r_step (B p : Nat) (v : Int32) (t : Nat) (x : Int32 × kw_S) (y : Int32 × qw_S) : Prop :=
  (x.1 = 0 ∧ y.1 = 0 ∧ y.2.2 0 0 0 = t ∧ r_R B x.2 (qw_si y.2 2 0 p v) ∧ x.2.1 7 p 0 ≠ 0 ∧ x.2.1 7 p 0 ≠ 4) ∨ (x.1 = 1 ∧ y.1 = 1 ∧ r_R (B + 1) x.2 y.2)
theorem r_calls {B p r : Nat} {S : kw_S} {T : qw_S} (n : Int32) (hB : B < 2 ^ 30) (hp : p < 4) (hr : r < 4) (hl : S.1 7 p 0 ≠ 0 ∧ S.1 7 p 0 ≠ 4) (h : r_R B S (qw_si T 2 0 p ((T.1 2 0 p) + (1 : Int32)))) : p_Q_calls T p (4 * p + r) n ∧ r_step B p ((T.1 2 0 p) + (1 : Int32)) (T.2 0 0 0) (k_K_callSystem S p r n) (k_Q_calls T p (4 * p + r) n) := by
  have hreg : S.1 8 p r = T.1 8 0 (4 * p + r) := by
    have k := (h.2.1 p hp).2.2.2.2.2.2.2.1 r hr
    rw [qw_si_nc (by decide)] at k
    exact k
  have hup : ∀ {U V}, r_R B U V → r_R (B + 1) U V := fun q => r_R_B q (Nat.le_succ B)
  by_cases g : k_Q_in n 6 = 0
  · have ne : ∀ j, j < 6 → ¬ n = nI j := fun j hj e => by
      rw [e, show (6 : Int32) = nI 6 from rfl, in_yes hj (by decide)] at g
      exact absurd g (by decide)
    have n0 : ¬ n = 0 := ne 0 (by decide)
    have n1 : ¬ n = 1 := ne 1 (by decide)
    have n2 : ¬ n = 2 := ne 2 (by decide)
    have n3 : ¬ n = 3 := ne 3 (by decide)
    have n4 : ¬ n = 4 := ne 4 (by decide)
    have n5 : ¬ n = 5 := ne 5 (by decide)
    have ek : k_K_callSystem S p r n = ((0 : Int32), S) := by
      unfold k_K_callSystem
      dsimp only
      rw [if_neg n0, if_neg n1, if_neg n2, if_neg n3, if_neg n4, if_neg n5]
    have eq : k_Q_calls T p (4 * p + r) n = ((0 : Int32), T) := by
      unfold k_Q_calls
      dsimp only
      rw [if_pos g]
    rw [ek, eq]
    refine ⟨?_, Or.inl ⟨rfl, rfl, rfl, h, hl⟩⟩
    unfold p_Q_calls
    dsimp only
    rw [if_pos g]
    trivial
  · obtain ⟨j, hj, e⟩ := in_of (N := 6) (by decide) g
    have hj2 : j = 0 ∨ j = 1 ∨ j = 2 ∨ j = 3 ∨ j = 4 ∨ j = 5 := by omega
    rcases hj2 with rfl | rfl | rfl | rfl | rfl | rfl
    · have e' : n = 0 := e
      subst e'
      have ek : k_K_callSystem S p r 0 = ((1 : Int32), k_K_print S (S.1 8 p r)) := by
        unfold k_K_callSystem
        dsimp only
        rw [if_pos rfl]
      have hc : T.2 0 0 2 < 2 ^ 30 := by
        have s7 : S.2 0 0 0 = T.2 0 0 2 := h.2.2.1.2.2.2.2.2.2.1
        have := h.2.2.2
        omega
      obtain ⟨c1, c2⟩ := q_cl (T := T) (p := p) (R := 4 * p + r) g (by decide)
      obtain ⟨c3, c4⟩ := q_c0 (p := p) (R := 4 * p + r) (old := T.1 8 0 (4 * p + r)) hc
      rw [c1, c2, c3, ek, hreg]
      exact ⟨c4, Or.inr ⟨rfl, rfl, r_print h hB⟩⟩
    · have e' : n = 1 := e
      subst e'
      have ek : k_K_callSystem S p r 1 = ((1 : Int32), k_K_fork S p r) := by
        unfold k_K_callSystem
        dsimp only
        rw [if_neg (by decide), if_pos rfl]
      obtain ⟨c1, c2⟩ := q_cl (T := T) (p := p) (R := 4 * p + r) g (by decide)
      obtain ⟨c3, c4⟩ := q_c1 (T := T) (p := p) (R := 4 * p + r) (old := T.1 8 0 (4 * p + r))
      rw [c1, c2, c3, ek, show (4 * p + r) % 4 = r by omega]
      exact ⟨c4, Or.inr ⟨rfl, rfl, hup (r_fork h hp hr hl)⟩⟩
    · have e' : n = 2 := e
      subst e'
      have ek : k_K_callSystem S p r 2 = ((1 : Int32), kw_si S 0 0 4 (1 : Int32)) := by
        unfold k_K_callSystem
        dsimp only
        rw [if_neg (by decide), if_neg (by decide), if_pos rfl]
      obtain ⟨c1, c2⟩ := q_cl (T := T) (p := p) (R := 4 * p + r) g (by decide)
      obtain ⟨c3, c4⟩ := q_c2 (T := T) (p := p) (R := 4 * p + r) (old := T.1 8 0 (4 * p + r))
      rw [c1, c2, c3, ek]
      exact ⟨c4, Or.inr ⟨rfl, rfl, hup (r_yield h)⟩⟩
    · have e' : n = 3 := e
      subst e'
      have ek : k_K_callSystem S p r 3 = ((1 : Int32), k_K_sleep S p (S.1 8 p r)) := by
        unfold k_K_callSystem
        dsimp only
        rw [if_neg (by decide), if_neg (by decide), if_neg (by decide), if_pos rfl]
      obtain ⟨c1, c2⟩ := q_cl (T := T) (p := p) (R := 4 * p + r) g (by decide)
      obtain ⟨c3, c4⟩ := q_c3 (T := T) (p := p) (R := 4 * p + r) (old := T.1 8 0 (4 * p + r))
      rw [c1, c2, c3, ek, hreg]
      refine ⟨c4, Or.inr ⟨rfl, rfl, hup ?_⟩⟩
      unfold k_K_sleep
      dsimp only
      by_cases g1 : T.1 8 0 (4 * p + r) < 1
      · rw [if_pos g1, if_neg (fun q => Int32.not_lt.mpr q g1)]
        exact h
      · rw [if_neg g1, if_pos (Int32.not_lt.mp g1)]
        exact v_sleep h hp hl
    · have e' : n = 4 := e
      subst e'
      have ek : k_K_callSystem S p r 4 = ((1 : Int32), k_K_awaitChild S p r) := by
        unfold k_K_callSystem
        dsimp only
        rw [if_neg (by decide), if_neg (by decide), if_neg (by decide), if_neg (by decide), if_pos rfl]
      rw [ek]
      have ew : k_Q_waits T p (4 * p + r) = k_Q_waits_L5 4 0 p (4 * p + r) 0 T := rfl
      have ea : k_K_awaitChild S p r = k_K_awaitChild_L13 4 0 p r 0 S := rfl
      rcases r_wait hp hr h hl 4 0 0 rfl with ⟨w1, w2, w3⟩ | ⟨w1, w2, w3⟩
      · rw [← ew] at w1 w2 w3
        rw [← ea] at w2
        have eq : k_Q_calls T p (4 * p + r) 4 = k_Q_calls_J35 p (4 * p + r) 4 (T.1 8 0 (4 * p + r)) (k_Q_waits T p (4 * p + r)).2 := by
          unfold k_Q_calls
          dsimp only
          rw [if_neg g, if_pos rfl, if_neg (by rw [w1]; decide)]
        obtain ⟨c3, c4⟩ := q_c4 (T := (k_Q_waits T p (4 * p + r)).2) (p := p) (R := 4 * p + r) (old := T.1 8 0 (4 * p + r))
        rw [eq, c3, w3]
        refine ⟨?_, Or.inr ⟨rfl, rfl, hup w2⟩⟩
        unfold p_Q_calls
        dsimp only
        rw [if_neg g, if_pos rfl, if_neg (by rw [w1]; decide)]
        exact c4
      · rw [← ew] at w1 w2 w3
        rw [← ea] at w2
        have eq : k_Q_calls T p (4 * p + r) 4 = ((1 : Int32), (k_Q_waits T p (4 * p + r)).2) := by
          unfold k_Q_calls
          dsimp only
          rw [if_neg g, if_pos rfl, if_pos w1]
        rw [i_sub2, qw_si_self (by rw [w3])] at w2
        rw [eq]
        refine ⟨?_, Or.inr ⟨rfl, rfl, hup w2⟩⟩
        unfold p_Q_calls
        dsimp only
        rw [if_neg g, if_pos rfl, if_pos w1]
        trivial
    · have e' : n = 5 := e
      subst e'
      have ek : k_K_callSystem S p r 5 = ((1 : Int32), kw_si S 8 p r (nI p)) := by
        unfold k_K_callSystem
        dsimp only
        rw [if_neg (by decide), if_neg (by decide), if_neg (by decide), if_neg (by decide), if_neg (by decide), if_pos rfl]
      obtain ⟨c1, c2⟩ := q_cl (T := T) (p := p) (R := 4 * p + r) g (by decide)
      obtain ⟨c3, c4⟩ := q_c5 (T := T) (p := p) (R := 4 * p + r) (old := T.1 8 0 (4 * p + r))
      rw [c1, c2, c3, ek]
      exact ⟨c4, Or.inr ⟨rfl, rfl, hup (r_R_reg h hr)⟩⟩
