theorem qw_si_self {T : qw_S} {c i j : Nat} {v : Int32} (h : T.1 c i j = v) : qw_si T c i j v = T := by
  refine qw_ext (fun a b d => ?_) (fun a b d => rfl)
  rw [qw_si_at]
  by_cases g : a = c ∧ b = i ∧ d = j
  · rw [if_pos g, g.1, g.2.1, g.2.2, h]
  · rw [if_neg g]
theorem qw_si_tw {T : qw_S} {c i j : Nat} {v w : Int32} : qw_si (qw_si T c i j v) c i j w = qw_si T c i j w := by
  refine qw_ext (fun a b d => ?_) (fun a b d => rfl)
  rw [qw_si_at, qw_si_at, qw_si_at]
  by_cases g : a = c ∧ b = i ∧ d = j
  · rw [if_pos g, if_pos g]
  · rw [if_neg g, if_neg g, if_neg g]
/-- the place of a process is no part of the memory -/
theorem r_P_pl {S : kw_S} {T : qw_S} {p : Nat} {v : Int32} (h : r_P S T) : r_P S (qw_si T 2 0 p v) :=
  r_P_cg h (fun _ _ => rfl) (fun _ _ => rfl) (fun a ha => qw_si_nc (by omega)) rfl rfl (r_fa_of h.2.2.2 rfl (qw_si_nc (by decide)))
theorem r_P_lp {S : kw_S} {T : qw_S} {p : Nat} {v : Int32} (h : r_P S (qw_si T 2 0 p v)) : r_P S T :=
  r_P_cg h (fun _ _ => rfl) (fun _ _ => rfl) (fun a ha => (qw_si_nc (by omega)).symm) rfl rfl (r_fa_of h.2.2.2 rfl (qw_si_nc (by decide)).symm)
theorem g_Q_pl {p i : Nat} {v : Int32} {T V : qw_S} (h : g_Q p T V) : g_Q p (qw_si T 2 0 i v) (qw_si V 2 0 i v) := by
  refine ⟨fun a a1 a2 => ?_, fun j hj => ?_, h.2.2.1, h.2.2.2⟩
  · by_cases e : a = 2
    · subst e
      funext b d
      rw [qw_si_at, qw_si_at, h.1 2 (Or.inl (by decide)) (by decide)]
    · rw [qw_si_nc e, qw_si_nc e]
      exact h.1 a a1 a2
  · rw [qw_si_nc (by decide), qw_si_nc (by decide)]
    exact h.2.1 j hj
/-- reaching a word, the reference's place of p set aside -/
theorem r_O_reach {B : Nat} {S : kw_S} {T : qw_S} {p a : Nat} {w v : Int32} (h : r_R B S (qw_si T 2 0 p v)) (hp : p < 4) (ha : a < 64) (hl : S.1 7 p 0 ≠ 0 ∧ S.1 7 p 0 ≠ 4) : p_Q_reach T p a w ∧ ∃ x U V, k_M_reach S p (a / 8) w = (x, U) ∧ k_Q_reach T p a w = (nI (8 * x + a % 8), V) ∧ x < 32 ∧ r_R B U (qw_si V 2 0 p v) ∧ g_K p S U ∧ g_Q p T V ∧ r_c (qw_si V 2 0 p v) x ≠ 0 := by
  obtain ⟨h1, x, U, V, h2, h3, h4, h5, h6, h7, h8⟩ := r_reach (w := w) (r_P_lp h.1) hp ha
  refine ⟨h1, x, U, V, h2, h3, h4, ⟨r_P_pl h5, fun i hi => r_T_g (h.2.1 i hi) h6 (g_Q_pl h7) (fun e q => ?_), r_S_g h.2.2.1 h6 (g_Q_pl h7), ?_⟩, h6, h7, h8⟩
  · rw [e] at q
    rcases q with q | q
    · exact hl.1 q
    · exact hl.2 q
  · rw [h6.2.2.1 0 (by decide) (by decide) (by decide) (by decide) (by decide)]
    exact h.2.2.2
/-- a register is written -/
theorem r_R_reg {B : Nat} {S : kw_S} {T : qw_S} {p r : Nat} {v : Int32} (h : r_R B S T) (hr : r < 4) : r_R B (kw_si S 8 p r v) (qw_si T 8 0 (4 * p + r) v) := by
  have e7 : (kw_si S 8 p r v).1 7 = S.1 7 := kw_si_nc (by decide)
  have t : ∀ a, a ≠ 8 → (qw_si T 8 0 (4 * p + r) v).1 a = T.1 a := fun a ha => qw_si_nc ha
  refine ⟨r_P_cg h.1 (fun a ha => kw_si_nc (by omega)) (fun _ _ => rfl) (fun a ha => qw_si_nc (by omega)) rfl rfl (r_fa_of h.1.2.2.2 e7 (t 6 (by decide))), fun j hj => ?_, r_S_of h.2.2.1 (kw_si_nc (by decide)) rfl (kw_si_nc (by decide)) (t 0 (by decide)) (fun _ _ => rfl) (t 16 (by decide)) (fun j _ => by rw [t 17 (by decide)]), h.2.2.2⟩
  obtain ⟨h1, h2, h3, h4, h5, h6, h7, h8, h9⟩ := h.2.1 j hj
  unfold r_T
  rw [e7, t 1 (by decide), t 2 (by decide), t 4 (by decide), t 5 (by decide), t 7 (by decide)]
  refine ⟨h1, h2, h3, h4, h5, h6, h7, fun r2 hr2 => ?_, h9⟩
  rw [kw_si_at, qw_si_at]
  by_cases e : j = p ∧ r2 = r
  · rw [if_pos ⟨rfl, e⟩, if_pos ⟨rfl, rfl, by omega⟩]
  · rw [if_neg (fun z => e z.2), if_neg (fun z => e (by omega))]
    exact h8 r2 hr2
/-- the reference's end of a process does nothing with places -/
theorem q_shL {s : Int32} {T U : qw_S} (h : U.2 9 = T.2 9) : ∀ n i m, k_Q_sharers_L4 n i s m U = k_Q_sharers_L4 n i s m T := by
  intro n
  induction n with
  | zero => exact fun i m => rfl
  | succ n ih =>
    intro i m
    unfold k_Q_sharers_L4
    dsimp only
    rw [h]
    simp only [ih]
theorem q_let_pl {T : qw_S} {q k : Nat} {v : Int32} : k_Q_let (qw_si T 2 0 q v) k = qw_si (k_Q_let T k) 2 0 q v := by
  have es : k_Q_sharers (qw_sn (qw_si T 2 0 q v) 9 0 k 34) (qw_pg (T.2 9 0 k)) = k_Q_sharers (qw_sn T 9 0 k 34) (qw_pg (T.2 9 0 k)) := q_shL (T := qw_sn T 9 0 k 34) (U := qw_sn (qw_si T 2 0 q v) 9 0 k 34) rfl 32 0 0
  have e1 : k_Q_let (qw_si T 2 0 q v) k = if qw_pg (T.2 9 0 k) < 0 then qw_sn (qw_si T 2 0 q v) 9 0 k 34 else if k_Q_sharers (qw_sn (qw_si T 2 0 q v) 9 0 k 34) (qw_pg (T.2 9 0 k)) = 0 then qw_si (qw_sn (qw_si T 2 0 q v) 9 0 k 34) 10 0 (T.2 9 0 k) (0 : Int32) else qw_sn (qw_si T 2 0 q v) 9 0 k 34 := rfl
  have e2 : k_Q_let T k = if qw_pg (T.2 9 0 k) < 0 then qw_sn T 9 0 k 34 else if k_Q_sharers (qw_sn T 9 0 k 34) (qw_pg (T.2 9 0 k)) = 0 then qw_si (qw_sn T 9 0 k 34) 10 0 (T.2 9 0 k) (0 : Int32) else qw_sn T 9 0 k 34 := rfl
  rw [e1, e2, es]
  by_cases g : qw_pg (T.2 9 0 k) < 0
  · rw [if_pos g, if_pos g]
    rfl
  · rw [if_neg g, if_neg g]
    by_cases g2 : k_Q_sharers (qw_sn T 9 0 k 34) (qw_pg (T.2 9 0 k)) = 0
    · rw [if_pos g2, if_pos g2]
      exact qw_si_comm (S := qw_sn T 9 0 k 34) (by decide)
    · rw [if_neg g2, if_neg g2]
      rfl
theorem q_L29_pl {p q : Nat} {x v : Int32} : ∀ n i (T : qw_S), k_Q_ends_L29 n i p x (qw_si T 2 0 q v) = qw_si (k_Q_ends_L29 n i p x T) 2 0 q v := by
  intro n
  induction n with
  | zero =>
    intro i T
    have eL : ∀ W : qw_S, k_Q_ends_L29 0 i p x W = (if 0 ≤ qw_pa (W.2 3 0 p) then (if (qw_si (qw_si W 1 0 p (4 : Int32)) 4 0 p x).1 1 0 (W.2 3 0 p) = (3 : Int32) then qw_si (qw_si (qw_si W 1 0 p (4 : Int32)) 4 0 p x) 1 0 (W.2 3 0 p) (1 : Int32) else qw_si (qw_si W 1 0 p (4 : Int32)) 4 0 p x) else qw_si (qw_si (qw_si W 1 0 p (4 : Int32)) 4 0 p x) 1 0 p (0 : Int32)) := fun _ => rfl
    rw [eL, eL]
    have e3 : (qw_si T 2 0 q v).2 = T.2 := rfl
    have eW : qw_si (qw_si (qw_si T 2 0 q v) 1 0 p (4 : Int32)) 4 0 p x = qw_si (qw_si (qw_si T 1 0 p (4 : Int32)) 4 0 p x) 2 0 q v := by
      rw [qw_si_comm (c := 2) (c2 := 1) (by decide), qw_si_comm (c := 2) (c2 := 4) (by decide)]
    rw [e3, eW]
    generalize qw_si (qw_si T 1 0 p (4 : Int32)) 4 0 p x = W
    have e1 : (qw_si W 2 0 q v).1 1 = W.1 1 := qw_si_nc (by decide)
    rw [e1]
    by_cases g : 0 ≤ qw_pa (T.2 3 0 p)
    · rw [if_pos g, if_pos g]
      by_cases g2 : W.1 1 0 (T.2 3 0 p) = 3
      · rw [if_pos g2, if_pos g2]
        exact qw_si_comm (by decide)
      · rw [if_neg g2, if_neg g2]
    · rw [if_neg g, if_neg g]
      exact qw_si_comm (by decide)
  | succ n ih =>
    intro i T
    have e1 : (qw_si T 2 0 q v).1 1 0 i = T.1 1 0 i := by rw [qw_si_nc (by decide)]
    by_cases g0 : T.1 1 0 i = 0
    · have a1 : k_Q_ends_L29 (n + 1) i p x (qw_si T 2 0 q v) = k_Q_ends_L29 n (i + 1) p x (qw_si T 2 0 q v) := if_pos (e1.trans g0)
      have a2 : k_Q_ends_L29 (n + 1) i p x T = k_Q_ends_L29 n (i + 1) p x T := if_pos g0
      rw [a1, a2]
      exact ih _ _
    · have g0' : ¬ (qw_si T 2 0 q v).1 1 0 i = 0 := by rw [e1]; exact g0
      by_cases g1 : qw_pa (T.2 3 0 i) = nI p
      · by_cases g2 : T.1 1 0 i = 4
        · have a1 : k_Q_ends_L29 (n + 1) i p x (qw_si T 2 0 q v) = k_Q_ends_L29 n (i + 1) p x (qw_si (qw_sn (qw_si T 2 0 q v) 3 0 i 4) 1 0 i (0 : Int32)) := (if_neg g0').trans ((if_pos g1).trans (if_pos (e1.trans g2)))
          have a2 : k_Q_ends_L29 (n + 1) i p x T = k_Q_ends_L29 n (i + 1) p x (qw_si (qw_sn T 3 0 i 4) 1 0 i (0 : Int32)) := (if_neg g0).trans ((if_pos g1).trans (if_pos g2))
          rw [a1, a2, ← ih]
          exact congrArg _ (qw_si_comm (S := qw_sn T 3 0 i 4) (by decide))
        · have a1 : k_Q_ends_L29 (n + 1) i p x (qw_si T 2 0 q v) = k_Q_ends_L29 n (i + 1) p x (qw_sn (qw_si T 2 0 q v) 3 0 i 4) := (if_neg g0').trans ((if_pos g1).trans (if_neg (fun z => g2 (e1.symm.trans z))))
          have a2 : k_Q_ends_L29 (n + 1) i p x T = k_Q_ends_L29 n (i + 1) p x (qw_sn T 3 0 i 4) := (if_neg g0).trans ((if_pos g1).trans (if_neg g2))
          rw [a1, a2, ← ih]
          rfl
      · have a1 : k_Q_ends_L29 (n + 1) i p x (qw_si T 2 0 q v) = k_Q_ends_L29 n (i + 1) p x (qw_si T 2 0 q v) := (if_neg g0').trans (if_neg g1)
        have a2 : k_Q_ends_L29 (n + 1) i p x T = k_Q_ends_L29 n (i + 1) p x T := (if_neg g0).trans (if_neg g1)
        rw [a1, a2]
        exact ih _ _
theorem q_L5_pl {p q : Nat} {x v : Int32} : ∀ n i (T : qw_S), k_Q_ends_L5 n i p x (qw_si T 2 0 q v) = qw_si (k_Q_ends_L5 n i p x T) 2 0 q v := by
  intro n
  induction n with
  | zero => exact fun i T => q_L29_pl 4 0 T
  | succ n ih =>
    intro i T
    show k_Q_ends_L5 n (i + 1) p x (k_Q_let (qw_si T 2 0 q v) i) = qw_si (k_Q_ends_L5 n (i + 1) p x (k_Q_let T i)) 2 0 q v
    rw [q_let_pl]
    exact ih _ _
theorem q_ends_pl {p q : Nat} {x v : Int32} {T : qw_S} : k_Q_ends (qw_si T 2 0 q v) p x = qw_si (k_Q_ends T p x) 2 0 q v := q_L5_pl 8 (8 * p) T
/-- the place of a process that is dead or absent doesn't matter -/
theorem r_R_off {B p : Nat} {v : Int32} {S : kw_S} {T : qw_S} (h : r_R B S (qw_si T 2 0 p v)) (hd : S.1 7 p 0 = 0 ∨ S.1 7 p 0 = 4) : r_R B S T := by
  have t : ∀ a, a ≠ 2 → (qw_si T 2 0 p v).1 a = T.1 a := fun a ha => qw_si_nc ha
  refine ⟨r_P_lp h.1, fun i hi => ?_, r_S_of h.2.2.1 rfl rfl rfl (t 0 (by decide)).symm (fun _ _ => rfl) (t 16 (by decide)).symm (fun j _ => by rw [t 17 (by decide)]), h.2.2.2⟩
  obtain ⟨h1, h2, h3, h4, h5, h6, h7, h8, h9⟩ := h.2.1 i hi
  rw [t 1 (by decide)] at h1
  rw [t 4 (by decide)] at h5
  rw [t 5 (by decide)] at h6
  rw [t 7 (by decide)] at h7
  rw [t 8 (by decide)] at h8
  refine ⟨h1, h2, h3, fun z1 z2 => ?_, h5, h6, h7, h8, h9⟩
  by_cases e : i = p
  · rw [e] at z1 z2
    rcases hd with q | q
    · exact absurd q z1
    · exact absurd q z2
  · have h4' := h4 z1 z2
    rw [qw_si_od e] at h4'
    exact h4'
theorem k_end0 {S : kw_S} {p : Nat} {x : Int32} : (k_K_end S p x).1 7 p 0 = 0 ∨ (k_K_end S p x).1 7 p 0 = 4 := by
  unfold k_K_end
  dsimp only
  generalize k_K_orphanChildren (k_M_releaseAll S p) p = X
  have ed : (kw_si (kw_si X 7 p 0 (4 : Int32)) 7 p 2 x).1 7 p 0 = 4 := by rw [kw_si_oj (by decide), kw_si_is]
  split
  · left
    show (kw_sn (kw_si X 7 p 0 (0 : Int32)) 7 p 0 4).1 7 p 0 = 0
    rw [kw_sn_o, kw_si_is]
  · right
    split
    · rename_i g
      have g2 : (kw_si (kw_si X 7 p 0 (4 : Int32)) 7 p 2 x).1 7 (X.2 7 p 0) 0 = 3 := g
      by_cases e : X.2 7 p 0 = p
      · rw [e, ed] at g2
        exact absurd g2 (by decide)
      · show (kw_si (kw_si (kw_si X 7 p 0 (4 : Int32)) 7 p 2 x) 7 (X.2 7 p 0) 0 (1 : Int32)).1 7 p 0 = 4
        rw [kw_si_oi (fun q => e q.symm)]
        exact ed
    · exact ed
/-- a process ends, its place set aside -/
theorem r_O_end {B p : Nat} {S : kw_S} {T : qw_S} {x v : Int32} (h : r_R B S (qw_si T 2 0 p v)) (hp : p < 4) (hl : S.1 7 p 0 ≠ 0 ∧ S.1 7 p 0 ≠ 4) : r_R B (k_K_end S p x) (k_Q_ends T p x) := by
  have e := r_end (x := x) h hp hl
  rw [q_ends_pl] at e
  exact r_R_off e k_end0
