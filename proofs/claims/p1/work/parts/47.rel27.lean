/-- the reference's doing of the instruction w -/
def q_do (T : qw_S) (p : Nat) (w : Int32) : Int32 × qw_S :=
  if w &&& 15 = (8 : Int32) then k_Q_calls T p ((4 * p) + (kw_rr w)) (w >>> ((8 : Int32) &&& 31))
  else
    if w &&& 15 ≤ (9 : Int32) then
      if w &&& 15 = (4 : Int32) then
        if k_Q_in (T.1 8 0 ((4 * p) + (kw_rs w)) + w >>> ((8 : Int32) &&& 31)) (64 : Int32) = 0 then ((0 : Int32), T)
        else k_Q_does_J131 p (w &&& 15) ((4 * p) + (kw_rr w)) (T.1 8 0 ((4 * p) + (kw_rs w))) (w >>> ((8 : Int32) &&& 31)) (T.1 8 0 ((4 * p) + (kw_rr w))) T
      else
        if w &&& 15 = (5 : Int32) then
          if k_Q_in (T.1 8 0 ((4 * p) + (kw_rs w)) + w >>> ((8 : Int32) &&& 31)) (64 : Int32) = 0 then ((0 : Int32), T)
          else k_Q_does_J131 p (w &&& 15) ((4 * p) + (kw_rr w)) (T.1 8 0 ((4 * p) + (kw_rs w))) (w >>> ((8 : Int32) &&& 31)) (T.1 8 0 ((4 * p) + (kw_rr w))) T
        else k_Q_does_J131 p (w &&& 15) ((4 * p) + (kw_rr w)) (T.1 8 0 ((4 * p) + (kw_rs w))) (w >>> ((8 : Int32) &&& 31)) (T.1 8 0 ((4 * p) + (kw_rr w))) T
    else ((0 : Int32), T)
def p_do (T : qw_S) (p : Nat) (w : Int32) : Prop :=
  if w &&& 15 = (8 : Int32) then p_Q_calls T p ((4 * p) + (kw_rr w)) (w >>> ((8 : Int32) &&& 31)) ∧ True
  else
    if w &&& 15 ≤ (9 : Int32) then
      if w &&& 15 = (4 : Int32) then
        if k_Q_in (T.1 8 0 ((4 * p) + (kw_rs w)) + w >>> ((8 : Int32) &&& 31)) (64 : Int32) = 0 then True
        else p_Q_does_J131 p (w &&& 15) ((4 * p) + (kw_rr w)) (T.1 8 0 ((4 * p) + (kw_rs w))) (w >>> ((8 : Int32) &&& 31)) (T.1 8 0 ((4 * p) + (kw_rr w))) T
      else
        if w &&& 15 = (5 : Int32) then
          if k_Q_in (T.1 8 0 ((4 * p) + (kw_rs w)) + w >>> ((8 : Int32) &&& 31)) (64 : Int32) = 0 then True
          else p_Q_does_J131 p (w &&& 15) ((4 * p) + (kw_rr w)) (T.1 8 0 ((4 * p) + (kw_rs w))) (w >>> ((8 : Int32) &&& 31)) (T.1 8 0 ((4 * p) + (kw_rr w))) T
        else p_Q_does_J131 p (w &&& 15) ((4 * p) + (kw_rr w)) (T.1 8 0 ((4 * p) + (kw_rs w))) (w >>> ((8 : Int32) &&& 31)) (T.1 8 0 ((4 * p) + (kw_rr w))) T
    else True
theorem q_doEq {T : qw_S} {p : Nat} (g : ¬ k_Q_in (T.1 2 0 p) 64 = 0) : k_Q_does T p = q_do (k_Q_reach T p ((T.1 2 0 p).toNatClampNeg) (0 : Int32)).2 p ((k_Q_reach T p ((T.1 2 0 p).toNatClampNeg) (0 : Int32)).2.1 15 0 (k_Q_reach T p ((T.1 2 0 p).toNatClampNeg) (0 : Int32)).1.toNatClampNeg) := if_neg g
theorem p_doEq {T : qw_S} {p : Nat} (g : ¬ k_Q_in (T.1 2 0 p) 64 = 0) : p_Q_does T p = (p_Q_reach T p ((T.1 2 0 p).toNatClampNeg) (0 : Int32) ∧ in_ (k_Q_reach T p ((T.1 2 0 p).toNatClampNeg) (0 : Int32)).1 272 ∧ p_do (k_Q_reach T p ((T.1 2 0 p).toNatClampNeg) (0 : Int32)).2 p ((k_Q_reach T p ((T.1 2 0 p).toNatClampNeg) (0 : Int32)).2.1 15 0 (k_Q_reach T p ((T.1 2 0 p).toNatClampNeg) (0 : Int32)).1.toNatClampNeg)) := if_neg g
theorem q_do8 {T : qw_S} {p : Nat} {w : Int32} (h : w &&& 15 = 8) : q_do T p w = k_Q_calls T p ((4 * p) + (kw_rr w)) (w >>> ((8 : Int32) &&& 31)) ∧ (p_Q_calls T p ((4 * p) + (kw_rr w)) (w >>> ((8 : Int32) &&& 31)) → p_do T p w) := ⟨if_pos h, fun q => by
  unfold p_do
  rw [if_pos h]
  exact ⟨q, trivial⟩⟩
theorem q_doJ {T : qw_S} {p : Nat} {w : Int32} (o : Int32) (h : w &&& 15 = o) (h8 : ¬ o = 8) (h9 : o ≤ 9) (h4 : ¬ o = 4) (h5 : ¬ o = 5) : q_do T p w = k_Q_does_J131 p o ((4 * p) + (kw_rr w)) (T.1 8 0 ((4 * p) + (kw_rs w))) (w >>> ((8 : Int32) &&& 31)) (T.1 8 0 ((4 * p) + (kw_rr w))) T ∧ (p_Q_does_J131 p o ((4 * p) + (kw_rr w)) (T.1 8 0 ((4 * p) + (kw_rs w))) (w >>> ((8 : Int32) &&& 31)) (T.1 8 0 ((4 * p) + (kw_rr w))) T → p_do T p w) := by
  unfold q_do p_do
  rw [h, if_neg h8, if_neg h8, if_pos h9, if_pos h9, if_neg h4, if_neg h4, if_neg h5, if_neg h5]
  exact ⟨rfl, id⟩
theorem q_do45 {T : qw_S} {p : Nat} {w : Int32} (o : Int32) (h : w &&& 15 = o) (ho : o = 4 ∨ o = 5) : q_do T p w = (if k_Q_in (T.1 8 0 ((4 * p) + (kw_rs w)) + w >>> ((8 : Int32) &&& 31)) (64 : Int32) = 0 then ((0 : Int32), T) else k_Q_does_J131 p o ((4 * p) + (kw_rr w)) (T.1 8 0 ((4 * p) + (kw_rs w))) (w >>> ((8 : Int32) &&& 31)) (T.1 8 0 ((4 * p) + (kw_rr w))) T) ∧ ((if k_Q_in (T.1 8 0 ((4 * p) + (kw_rs w)) + w >>> ((8 : Int32) &&& 31)) (64 : Int32) = 0 then True else p_Q_does_J131 p o ((4 * p) + (kw_rr w)) (T.1 8 0 ((4 * p) + (kw_rs w))) (w >>> ((8 : Int32) &&& 31)) (T.1 8 0 ((4 * p) + (kw_rr w))) T) → p_do T p w) := by
  unfold q_do p_do
  rw [h]
  rcases ho with rfl | rfl
  · rw [if_neg (show ¬ (4 : Int32) = 8 by decide), if_neg (show ¬ (4 : Int32) = 8 by decide), if_pos (show (4 : Int32) ≤ 9 by decide), if_pos (show (4 : Int32) ≤ 9 by decide), if_pos (show (4 : Int32) = 4 from rfl), if_pos (show (4 : Int32) = 4 from rfl)]
    exact ⟨rfl, id⟩
  · rw [if_neg (show ¬ (5 : Int32) = 8 by decide), if_neg (show ¬ (5 : Int32) = 8 by decide), if_pos (show (5 : Int32) ≤ 9 by decide), if_pos (show (5 : Int32) ≤ 9 by decide), if_neg (show ¬ (5 : Int32) = 4 by decide), if_neg (show ¬ (5 : Int32) = 4 by decide), if_pos (show (5 : Int32) = 5 from rfl), if_pos (show (5 : Int32) = 5 from rfl)]
    exact ⟨rfl, id⟩
theorem q_doX {T : qw_S} {p : Nat} {w : Int32} (h8 : ¬ w &&& 15 = 8) (h9 : ¬ w &&& 15 ≤ 9) : q_do T p w = ((0 : Int32), T) ∧ p_do T p w := by
  unfold q_do p_do
  rw [if_neg h8, if_neg h8, if_neg h9, if_neg h9]
  exact ⟨rfl, trivial⟩
/-- an instruction that writes a register -/
theorem r_O_reg {B p r : Nat} {v x : Int32} {S : kw_S} {T : qw_S} (h : r_R B S (qw_si T 2 0 p v)) (hr : r < 4) : r_R B (kw_si S 8 p r x) (qw_si (qw_si T 8 0 (4 * p + r) x) 2 0 p v) := by
  have k := r_R_reg (p := p) (v := x) h hr
  rw [qw_si_comm (c := 2) (c2 := 8) (by decide)] at k
  exact k
/-- an instruction, on both sides -/
theorem r_obey {B p : Nat} {S : kw_S} {T : qw_S} (w : Int32) (hB : B < 2 ^ 30) (hp : p < 4) (hl : S.1 7 p 0 ≠ 0 ∧ S.1 7 p 0 ≠ 4) (h : r_R B S (qw_si T 2 0 p ((T.1 2 0 p) + (1 : Int32)))) : p_do T p w ∧ r_step B p ((T.1 2 0 p) + (1 : Int32)) (T.2 0 0 0) (k_K_obey S p w) (q_do T p w) := by
  have hrr := (kw_rr_eq w).2
  have hrs := (kw_rs_eq w).2
  have hreg : ∀ r, r < 4 → T.1 8 0 (4 * p + r) = S.1 8 p r := fun r hr => by
    have k := (h.2.1 p hp).2.2.2.2.2.2.2.1 r hr
    rw [qw_si_nc (by decide)] at k
    exact k.symm
  have e1 := hreg _ hrr
  have e2 := hreg _ hrs
  have hup : ∀ {U V}, r_R B U V → r_R (B + 1) U V := fun q => r_R_B q (Nat.le_succ B)
  obtain ⟨o1, o2⟩ := i_and15 w
  generalize (w &&& 15).toNatClampNeg = o at o1 o2
  by_cases g9 : 10 ≤ o
  · have ne : ∀ j, j < 10 → ¬ w &&& 15 = nI j := fun j hj q => by
      rw [o1, nI_eq (by omega) (by omega)] at q
      omega
    have n9 : ¬ w &&& 15 ≤ 9 := by
      rw [o1]
      exact nI_ge (b := o) (a := 9) (by omega) (by omega)
    obtain ⟨d1, d2⟩ := q_doX (T := T) (p := p) (ne 8 (by decide)) n9
    have ek : k_K_obey S p w = ((0 : Int32), S) := by
      unfold k_K_obey
      dsimp only
      rw [if_neg (show ¬ w &&& 15 = 0 from ne 0 (by decide)), if_neg (show ¬ w &&& 15 = 1 from ne 1 (by decide)), if_neg (show ¬ w &&& 15 = 2 from ne 2 (by decide)), if_neg (show ¬ w &&& 15 = 3 from ne 3 (by decide)), if_neg (show ¬ w &&& 15 = 4 from ne 4 (by decide)), if_neg (show ¬ w &&& 15 = 5 from ne 5 (by decide)), if_neg (show ¬ w &&& 15 = 6 from ne 6 (by decide)), if_neg (show ¬ w &&& 15 = 7 from ne 7 (by decide)), if_neg (show ¬ w &&& 15 = 8 from ne 8 (by decide)), if_neg (show ¬ w &&& 15 = 9 from ne 9 (by decide))]
    rw [ek, d1]
    exact ⟨d2, Or.inl ⟨rfl, rfl, rfl, h, hl⟩⟩
  · have ho : o = 0 ∨ o = 1 ∨ o = 2 ∨ o = 3 ∨ o = 4 ∨ o = 5 ∨ o = 6 ∨ o = 7 ∨ o = 8 ∨ o = 9 := by omega
    rcases ho with rfl | rfl | rfl | rfl | rfl | rfl | rfl | rfl | rfl | rfl
    · have eo : w &&& 15 = 0 := o1
      obtain ⟨d1, d2⟩ := q_doJ (T := T) (p := p) 0 eo (by decide) (by decide) (by decide) (by decide)
      have ek : k_K_obey S p w = ((1 : Int32), k_K_end S p (S.1 8 p (kw_rr w))) := if_pos eo
      have eq : q_do T p w = ((1 : Int32), k_Q_ends T p (S.1 8 p (kw_rr w))) := by
        rw [d1, e1]
        rfl
      have k := r_O_end (x := S.1 8 p (kw_rr w)) h hp hl
      rw [ek, eq]
      refine ⟨d2 trivial, Or.inr ⟨rfl, rfl, ?_⟩⟩
      dsimp only
      exact hup k
    · have eo : w &&& 15 = 1 := o1
      obtain ⟨d1, d2⟩ := q_doJ (T := T) (p := p) 1 eo (by decide) (by decide) (by decide) (by decide)
      have ek : k_K_obey S p w = ((1 : Int32), kw_si S 8 p (kw_rr w) (w >>> ((8 : Int32) &&& 31))) := by
        unfold k_K_obey
        dsimp only
        rw [eo, if_neg (by decide), if_pos rfl]
      rw [ek, d1]
      exact ⟨d2 trivial, Or.inr ⟨rfl, rfl, hup (r_O_reg h hrr)⟩⟩
    · have eo : w &&& 15 = 2 := o1
      obtain ⟨d1, d2⟩ := q_doJ (T := T) (p := p) 2 eo (by decide) (by decide) (by decide) (by decide)
      have ek : k_K_obey S p w = ((1 : Int32), kw_si S 8 p (kw_rr w) (S.1 8 p (kw_rr w) + S.1 8 p (kw_rs w))) := by
        unfold k_K_obey
        dsimp only
        rw [eo, if_neg (by decide), if_neg (by decide), if_pos rfl]
      rw [ek, d1, e1, e2]
      exact ⟨d2 trivial, Or.inr ⟨rfl, rfl, hup (r_O_reg h hrr)⟩⟩
    · have eo : w &&& 15 = 3 := o1
      obtain ⟨d1, d2⟩ := q_doJ (T := T) (p := p) 3 eo (by decide) (by decide) (by decide) (by decide)
      have ek : k_K_obey S p w = ((1 : Int32), kw_si S 8 p (kw_rr w) (S.1 8 p (kw_rr w) - S.1 8 p (kw_rs w))) := by
        unfold k_K_obey
        dsimp only
        rw [eo, if_neg (by decide), if_neg (by decide), if_neg (by decide), if_pos rfl]
      rw [ek, d1, e1, e2]
      exact ⟨d2 trivial, Or.inr ⟨rfl, rfl, hup (r_O_reg h hrr)⟩⟩
    · have eo : w &&& 15 = 4 := o1
      obtain ⟨d1, d2⟩ := q_do45 (T := T) (p := p) 4 eo (by decide)
      have ek : k_K_obey S p w = if k_K_isAddress (S.1 8 p (kw_rs w) + w >>> ((8 : Int32) &&& 31)) = 0 then ((0 : Int32), S) else ((1 : Int32), kw_si (k_M_fetch S p ((S.1 8 p (kw_rs w) + w >>> ((8 : Int32) &&& 31)).toNatClampNeg)).2 8 p (kw_rr w) (k_M_fetch S p ((S.1 8 p (kw_rs w) + w >>> ((8 : Int32) &&& 31)).toNatClampNeg)).1) := by
        unfold k_K_obey
        dsimp only
        rw [eo, if_neg (by decide), if_neg (by decide), if_neg (by decide), if_neg (by decide), if_pos rfl]
      rw [e1, e2] at d1 d2
      have ea : k_K_isAddress (S.1 8 p (kw_rs w) + w >>> ((8 : Int32) &&& 31)) = k_Q_in (S.1 8 p (kw_rs w) + w >>> ((8 : Int32) &&& 31)) 64 := rfl
      rw [ea] at ek
      by_cases g : k_Q_in (S.1 8 p (kw_rs w) + w >>> ((8 : Int32) &&& 31)) 64 = 0
      · rw [if_pos g] at d1 d2 ek
        rw [ek, d1]
        exact ⟨d2 trivial, Or.inl ⟨rfl, rfl, rfl, h, hl⟩⟩
      · rw [if_neg g] at d1 d2 ek
        obtain ⟨b, hb, eb⟩ := in_of (N := 64) (by decide) g
        rw [eb, nI_clamp (by omega)] at ek
        obtain ⟨r1, x, U, V, r2, r3, r4, r5, _, r7, r8⟩ := r_O_reach (w := 0) h hp hb hl
        have hc : (nI (8 * x + b % 8)).toNatClampNeg = 8 * x + b % 8 := nI_clamp (by omega)
        have ef : k_M_fetch S p b = (U.1 11 x (b % 8), U) := by
          unfold k_M_fetch
          dsimp only
          rw [r2]
        rw [ef] at ek
        dsimp only at ek
        have eq : q_do T p w = ((1 : Int32), qw_si (qw_si V 8 0 (4 * p + kw_rr w) (V.1 15 0 (8 * x + b % 8))) 2 0 p ((T.1 2 0 p) + (1 : Int32))) := by
          rw [d1]
          unfold k_Q_does_J131
          dsimp only
          rw [if_neg (by decide), if_neg (by decide), if_neg (by decide), if_neg (by decide), if_pos rfl, eb, nI_clamp (by omega), r3]
          dsimp only
          rw [hc]
          rfl
        have ev : V.1 15 0 (8 * x + b % 8) = U.1 11 x (b % 8) := by
          have k := (r5.1.1.2.1 x r4 r8).2.2.2.2 (b % 8) (by omega)
          rw [qw_si_nc (by decide)] at k
          exact k.symm
        rw [ek, eq, ev]
        refine ⟨d2 ?_, Or.inr ⟨rfl, rfl, hup (r_O_reg r5 hrr)⟩⟩
        unfold p_Q_does_J131
        dsimp only
        rw [if_neg (by decide), if_neg (by decide), if_neg (by decide), if_neg (by decide), if_pos rfl, eb, nI_clamp (by omega), r3]
        exact ⟨r1, in_nI (by omega) (by decide), trivial⟩
    · have eo : w &&& 15 = 5 := o1
      obtain ⟨d1, d2⟩ := q_do45 (T := T) (p := p) 5 eo (by decide)
      have ek : k_K_obey S p w = if k_K_isAddress (S.1 8 p (kw_rs w) + w >>> ((8 : Int32) &&& 31)) = 0 then ((0 : Int32), S) else ((1 : Int32), k_M_write S p ((S.1 8 p (kw_rs w) + w >>> ((8 : Int32) &&& 31)).toNatClampNeg) (S.1 8 p (kw_rr w))) := by
        unfold k_K_obey
        dsimp only
        rw [eo, if_neg (by decide), if_neg (by decide), if_neg (by decide), if_neg (by decide), if_neg (by decide), if_pos rfl]
      rw [e1, e2] at d1 d2
      have ea : k_K_isAddress (S.1 8 p (kw_rs w) + w >>> ((8 : Int32) &&& 31)) = k_Q_in (S.1 8 p (kw_rs w) + w >>> ((8 : Int32) &&& 31)) 64 := rfl
      rw [ea] at ek
      by_cases g : k_Q_in (S.1 8 p (kw_rs w) + w >>> ((8 : Int32) &&& 31)) 64 = 0
      · rw [if_pos g] at d1 d2 ek
        rw [ek, d1]
        exact ⟨d2 trivial, Or.inl ⟨rfl, rfl, rfl, h, hl⟩⟩
      · rw [if_neg g] at d1 d2 ek
        obtain ⟨b, hb, eb⟩ := in_of (N := 64) (by decide) g
        rw [eb, nI_clamp (by omega)] at ek
        obtain ⟨r1, x, U, V, r2, r3, r4, r5, _, r7, r8⟩ := r_O_reach (w := 1) h hp hb hl
        have hc : (nI (8 * x + b % 8)).toNatClampNeg = 8 * x + b % 8 := nI_clamp (by omega)
        have ef : k_M_write S p b (S.1 8 p (kw_rr w)) = kw_si U 11 x (b % 8) (S.1 8 p (kw_rr w)) := by
          unfold k_M_write
          dsimp only
          rw [r2]
        rw [ef] at ek
        have eq : q_do T p w = ((1 : Int32), qw_si (qw_si V 15 0 (8 * x + b % 8) (S.1 8 p (kw_rr w))) 2 0 p ((T.1 2 0 p) + (1 : Int32))) := by
          rw [d1]
          unfold k_Q_does_J131
          dsimp only
          rw [if_neg (by decide), if_neg (by decide), if_neg (by decide), if_neg (by decide), if_neg (by decide), if_pos rfl, eb, nI_clamp (by omega), r3]
          dsimp only
          rw [hc]
          rfl
        have k := r_R_word (x := x) (i := b % 8) (v := S.1 8 p (kw_rr w)) r5 (by omega)
        rw [qw_si_comm (c := 2) (c2 := 15) (by decide)] at k
        rw [ek, eq]
        refine ⟨d2 ?_, Or.inr ⟨rfl, rfl, hup k⟩⟩
        unfold p_Q_does_J131
        dsimp only
        rw [if_neg (by decide), if_neg (by decide), if_neg (by decide), if_neg (by decide), if_neg (by decide), if_pos rfl, eb, nI_clamp (by omega), r3]
        exact ⟨r1, in_nI (by omega) (by decide), trivial⟩
    · have eo : w &&& 15 = 6 := o1
      obtain ⟨d1, d2⟩ := q_doJ (T := T) (p := p) 6 eo (by decide) (by decide) (by decide) (by decide)
      have ek : k_K_obey S p w = if (S.1 8 p (kw_rr w)) = 0 then ((1 : Int32), kw_si S 7 p 1 (w >>> ((8 : Int32) &&& 31))) else ((1 : Int32), S) := by
        unfold k_K_obey
        dsimp only
        rw [eo, if_neg (by decide), if_neg (by decide), if_neg (by decide), if_neg (by decide), if_neg (by decide), if_neg (by decide), if_pos rfl]
      rw [e1] at d1 d2
      have hd : p_do T p w := d2 (by
        unfold p_Q_does_J131
        dsimp only
        rw [if_neg (by decide), if_neg (by decide), if_neg (by decide), if_neg (by decide), if_neg (by decide), if_neg (by decide), if_pos rfl]
        split <;> trivial)
      have eq : q_do T p w = if (S.1 8 p (kw_rr w)) = 0 then ((1 : Int32), qw_si T 2 0 p (w >>> ((8 : Int32) &&& 31))) else ((1 : Int32), qw_si T 2 0 p ((T.1 2 0 p) + (1 : Int32))) := by
        rw [d1]
        unfold k_Q_does_J131
        dsimp only
        rw [if_neg (by decide), if_neg (by decide), if_neg (by decide), if_neg (by decide), if_neg (by decide), if_neg (by decide), if_pos rfl]
        rfl
      by_cases g : (S.1 8 p (kw_rr w)) = 0
      · rw [if_pos g] at ek eq
        rw [ek, eq]
        have k := v_place (x := w >>> ((8 : Int32) &&& 31)) h hp
        rw [qw_si_tw] at k
        exact ⟨hd, Or.inr ⟨rfl, rfl, hup k⟩⟩
      · rw [if_neg g] at ek eq
        rw [ek, eq]
        exact ⟨hd, Or.inr ⟨rfl, rfl, hup h⟩⟩
    · have eo : w &&& 15 = 7 := o1
      obtain ⟨d1, d2⟩ := q_doJ (T := T) (p := p) 7 eo (by decide) (by decide) (by decide) (by decide)
      have ek : k_K_obey S p w = ((1 : Int32), kw_si S 7 p 1 (w >>> ((8 : Int32) &&& 31))) := by
        unfold k_K_obey
        dsimp only
        rw [eo, if_neg (by decide), if_neg (by decide), if_neg (by decide), if_neg (by decide), if_neg (by decide), if_neg (by decide), if_neg (by decide), if_pos rfl]
      have k := v_place (x := w >>> ((8 : Int32) &&& 31)) h hp
      rw [qw_si_tw] at k
      rw [ek, d1]
      exact ⟨d2 trivial, Or.inr ⟨rfl, rfl, hup k⟩⟩
    · have eo : w &&& 15 = 8 := o1
      obtain ⟨d1, d2⟩ := q_do8 (T := T) (p := p) eo
      have ek : k_K_obey S p w = k_K_callSystem S p (kw_rr w) (w >>> ((8 : Int32) &&& 31)) := by
        unfold k_K_obey
        dsimp only
        rw [eo, if_neg (by decide), if_neg (by decide), if_neg (by decide), if_neg (by decide), if_neg (by decide), if_neg (by decide), if_neg (by decide), if_neg (by decide), if_pos rfl]
      obtain ⟨c1, c2⟩ := r_calls (w >>> ((8 : Int32) &&& 31)) hB hp hrr hl h
      rw [ek, d1]
      exact ⟨d2 c1, c2⟩
    · have eo : w &&& 15 = 9 := o1
      obtain ⟨d1, d2⟩ := q_doJ (T := T) (p := p) 9 eo (by decide) (by decide) (by decide) (by decide)
      have ek : k_K_obey S p w = if S.1 8 p (kw_rs w) ≤ S.1 8 p (kw_rr w) then ((1 : Int32), kw_si S 8 p (kw_rr w) (0 : Int32)) else ((1 : Int32), kw_si S 8 p (kw_rr w) (1 : Int32)) := by
        unfold k_K_obey
        dsimp only
        rw [eo, if_neg (by decide), if_neg (by decide), if_neg (by decide), if_neg (by decide), if_neg (by decide), if_neg (by decide), if_neg (by decide), if_neg (by decide), if_neg (by decide), if_pos rfl]
      rw [e1, e2] at d1 d2
      have hd : p_do T p w := d2 (by
        unfold p_Q_does_J131
        dsimp only
        rw [if_neg (by decide), if_neg (by decide), if_neg (by decide), if_neg (by decide), if_neg (by decide), if_neg (by decide), if_neg (by decide), if_neg (by decide)]
        split <;> trivial)
      have eq : q_do T p w = if S.1 8 p (kw_rs w) ≤ S.1 8 p (kw_rr w) then ((1 : Int32), qw_si (qw_si T 8 0 (4 * p + kw_rr w) (0 : Int32)) 2 0 p ((T.1 2 0 p) + (1 : Int32))) else ((1 : Int32), qw_si (qw_si T 8 0 (4 * p + kw_rr w) (1 : Int32)) 2 0 p ((T.1 2 0 p) + (1 : Int32))) := by
        rw [d1]
        unfold k_Q_does_J131
        dsimp only
        rw [if_neg (by decide), if_neg (by decide), if_neg (by decide), if_neg (by decide), if_neg (by decide), if_neg (by decide), if_neg (by decide), if_neg (by decide)]
        rfl
      by_cases g : S.1 8 p (kw_rs w) ≤ S.1 8 p (kw_rr w)
      · rw [if_pos g] at ek eq
        rw [ek, eq]
        exact ⟨hd, Or.inr ⟨rfl, rfl, hup (r_O_reg h hrr)⟩⟩
      · rw [if_neg g] at ek eq
        rw [ek, eq]
        exact ⟨hd, Or.inr ⟨rfl, rfl, hup (r_O_reg h hrr)⟩⟩
