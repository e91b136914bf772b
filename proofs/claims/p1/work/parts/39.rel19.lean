/-- the reference's beginning of process i -/
def q_bg (T : qw_S) (i q : Nat) : qw_S := (k_Q_begin_L56 4 0 i (qw_si (qw_si (qw_sn (qw_si (qw_si T 1 0 i (1 : Int32)) 2 0 i (0 : Int32)) 3 0 i q) 6 0 i (0 : Int32)) 7 0 i (0 : Int32))).2
theorem q_beg {T : qw_S} {i q : Nat} : (∀ a d, (q_bg T i q).1 a 0 d = if a = 8 ∧ 4 * i ≤ d ∧ d < 4 * i + 4 then 0 else if a = 1 ∧ d = i then 1 else if (a = 2 ∨ a = 6 ∨ a = 7) ∧ d = i then 0 else T.1 a 0 d) ∧ (∀ a, 8 < a ∨ a = 0 → (q_bg T i q).1 a = T.1 a) ∧ (q_bg T i q).2 = (qw_sn T 3 0 i q).2 := by
  obtain ⟨_, h1, h2⟩ := q_fillR (s := i) 4 0 (qw_si (qw_si (qw_sn (qw_si (qw_si T 1 0 i (1 : Int32)) 2 0 i (0 : Int32)) 3 0 i q) 6 0 i (0 : Int32)) 7 0 i (0 : Int32))
  refine ⟨fun a d => ?_, fun a ha => funext fun b => funext fun d => ?_, h2⟩
  · refine (h1 a 0 d).trans ?_
    rw [qw_si_at, qw_si_at, qw_sn_o, qw_si_at, qw_si_at]
    by_cases g8 : a = 8
    · have e : ∀ n, n ≠ 8 → ¬ (a = n ∧ (0 : Nat) = 0 ∧ d = i) := fun n hn z => by omega
      have e2 : ¬ (a = 1 ∧ d = i) := fun z => by omega
      have e3 : ¬ ((a = 2 ∨ a = 6 ∨ a = 7) ∧ d = i) := fun z => by omega
      rw [if_neg (e 7 (by decide)), if_neg (e 6 (by decide)), if_neg (e 2 (by decide)), if_neg (e 1 (by decide)), if_neg e2, if_neg e3]
      by_cases g : 4 * i ≤ d ∧ d < 4 * i + 4
      · rw [if_pos ⟨g8, rfl, by omega, by omega⟩, if_pos ⟨g8, g⟩]
      · rw [if_neg (fun z => g (by omega)), if_neg (fun z => g z.2)]
    · rw [if_neg (c := a = 8 ∧ (0 : Nat) = 0 ∧ 4 * i + 0 ≤ d ∧ d < 4 * i + 0 + 4) (fun z => g8 z.1), if_neg (c := a = 8 ∧ 4 * i ≤ d ∧ d < 4 * i + 4) (fun z => g8 z.1)]
      by_cases g : d = i
      · by_cases a1 : a = 1
        · simp [g, a1]
        · by_cases a2 : a = 2
          · simp [g, a2]
          · by_cases a6 : a = 6
            · simp [g, a6]
            · by_cases a7 : a = 7
              · simp [g, a7]
              · simp [a1, a2, a6, a7]
      · simp [g]
  · refine (h1 a b d).trans ?_
    rw [if_neg (fun z => by omega), qw_si_nc (by omega), qw_si_nc (by omega), qw_sn_o, qw_si_nc (by omega), qw_si_nc (by omega)]
theorem r_T_cg {i : Nat} {S U : kw_S} {T V : qw_S} (h : r_T S T i) (k7 : ∀ j, j ≠ 4 → U.1 7 i j = S.1 7 i j) (k72 : U.2 7 i 0 = S.2 7 i 0) (k8 : U.1 8 i = S.1 8 i) (k9 : U.2 9 i = S.2 9 i) (q : ∀ a, a = 1 ∨ a = 2 ∨ a = 4 ∨ a = 5 ∨ a = 7 → V.1 a 0 i = T.1 a 0 i) (q8 : ∀ r, r < 4 → V.1 8 0 (4 * i + r) = T.1 8 0 (4 * i + r)) (q3 : V.2 3 0 i = T.2 3 0 i) : r_T U V i := by
  obtain ⟨h1, h2, h3, h4, h5, h6, h7, h8, h9⟩ := h
  unfold r_T
  rw [k7 0 (by decide), k7 1 (by decide), k7 2 (by decide), k7 3 (by decide), k7 5 (by decide), k72, k8, k9, q 1 (by omega), q 2 (by omega), q 4 (by omega), q 5 (by omega), q 7 (by omega), q3]
  exact ⟨h1, h2, h3, h4, h5, h6, h7, fun r hr => (h8 r hr).trans (q8 r hr).symm, h9⟩
/-- a process begins, on both sides -/
theorem r_beg {B : Nat} {S : kw_S} {T : qw_S} {i q : Nat} (h : r_R B S T) (hi : i < 4) (h0 : S.1 7 i 0 = 0) : r_R B (k_T_begin S i q) (q_bg T i q) := by
  obtain ⟨k1, k2⟩ := k_beg (S := S) (i := i) (q := q)
  obtain ⟨q1, q2, q3⟩ := q_beg (T := T) (i := i) (q := q)
  have kn : ∀ a, a ≠ 7 → a ≠ 8 → (k_T_begin S i q).1 a = S.1 a := fun a a7 a8 => funext fun b => funext fun d => by
    rw [k1, if_neg (fun z => a8 z.1), if_neg (fun z => a7 z.1)]
  have km : ∀ a, a ≠ 7 → (k_T_begin S i q).2 a = S.2 a := fun a a7 => by
    rw [k2, kw_sn_nc a7]
  have qm : ∀ a, a ≠ 3 → (q_bg T i q).2 a = T.2 a := fun a a7 => by
    rw [q3, qw_sn_nc a7]
  refine ⟨r_P_cg h.1 (fun a ha => kn a (by omega) (by omega)) (fun a ha => km a (by omega)) (fun a ha => q2 a (by omega)) (qm 0 (by decide)) (qm 9 (by decide)) ?_, fun j hj => ?_, ?_, ?_⟩
  · intro j hj
    have eT : (q_bg T i q).1 6 0 j = if j = i then 0 else T.1 6 0 j := by
      rw [q1, if_neg (fun z => by omega), if_neg (fun z => by omega)]
      by_cases e : j = i
      · rw [if_pos ⟨by omega, e⟩, if_pos e]
      · rw [if_neg (fun z => e z.2), if_neg e]
    have eS : (k_T_begin S i q).1 7 j 4 = if j = i then 0 else S.1 7 j 4 := by
      rw [k1, if_neg (fun z => by omega)]
      by_cases e : j = i
      · rw [if_pos ⟨rfl, e, by decide⟩, if_pos e, if_neg (by decide)]
      · rw [if_neg (fun z => e z.2.1), if_neg e]
    rw [eT, eS, h.1.2.2.2 j hj]
  · by_cases e : j = i
    · have s7 : ∀ d, d < 6 → (k_T_begin S i q).1 7 i d = if d = 0 then 1 else 0 := fun d hd => by
        rw [k1, if_neg (fun z => by omega), if_pos ⟨rfl, rfl, hd⟩]
      have s72 : (k_T_begin S i q).2 7 i 0 = q := by rw [k2, kw_sn_at, if_pos ⟨rfl, rfl, rfl⟩]
      have t3 : (q_bg T i q).2 3 0 i = q := by rw [q3, qw_sn_at, if_pos ⟨rfl, rfl, rfl⟩]
      have t1 : (q_bg T i q).1 1 0 i = 1 := by rw [q1, if_neg (fun z => by omega), if_pos ⟨rfl, rfl⟩]
      have t2 : ∀ a, a = 2 ∨ a = 6 ∨ a = 7 → (q_bg T i q).1 a 0 i = 0 := fun a ha => by
        rw [q1, if_neg (fun z => by omega), if_neg (fun z => by omega), if_pos ⟨ha, rfl⟩]
      rw [e]
      unfold r_T
      rw [s7 0 (by decide), s7 1 (by decide), s7 2 (by decide), s7 5 (by decide), s72, t3, t1, t2 2 (by omega), t2 7 (by omega), if_pos rfl, if_neg (by decide), if_neg (by decide), if_neg (by decide)]
      refine ⟨rfl, fun z => absurd z (by decide), fun _ => ?_, fun _ _ => ⟨rfl, rfl⟩, fun z => absurd z (by decide), fun z => absurd z (by decide), rfl, fun r hr => ?_, fun z => ?_⟩
      · by_cases g : q < 4
        · exact Or.inl ⟨g, rfl⟩
        · exact Or.inr ⟨g, g⟩
      · rw [k1, q1, if_pos ⟨rfl, rfl, hr⟩, if_pos ⟨rfl, by omega, by omega⟩]
      · rcases z with z | z
        · exact absurd z (by decide)
        · exact absurd z (by decide)
    · refine r_T_cg (h.2.1 j hj) (fun d _ => ?_) ?_ ?_ (by rw [km 9 (by decide)]) (fun a ha => ?_) (fun r hr => ?_) ?_
      · rw [k1, if_neg (fun z => e z.2.1), if_neg (fun z => e z.2.1)]
      · rw [k2, kw_sn_at, if_neg (fun z => e z.2.1)]
      · funext d
        rw [k1, if_neg (fun z => e z.2.1), if_neg (fun z => e z.2.1)]
      · rw [q1, if_neg (fun z => by omega), if_neg (fun z => e z.2), if_neg (fun z => e z.2)]
      · rw [q1, if_neg (fun z => by omega), if_neg (fun z => by omega), if_neg (fun z => by omega)]
      · rw [q3, qw_sn_at, if_neg (fun z => e z.2.2)]
  · exact r_S_of h.2.2.1 (kn 0 (by decide) (by decide)) (km 0 (by decide)) (kn 3 (by decide) (by decide)) (q2 0 (by omega)) (fun j _ => by rw [qm 0 (by decide)]) (q2 16 (by omega)) (fun j _ => by rw [q2 17 (by omega)])
  · rw [km 0 (by decide)]
    exact h.2.2.2
/-- the least absent process is the same -/
theorem r_least {B : Nat} {S : kw_S} {T : qw_S} {q : Nat} (h : r_R B S T) : (k_K_leastAbsent S = -2 ∧ k_Q_begin T q = (-2, T)) ∨ ∃ i, i < 4 ∧ S.1 7 i 0 = 0 ∧ k_K_leastAbsent S = nI i ∧ k_Q_begin T q = (nI i, q_bg T i q) := by
  have key : ∀ n i, i + n = 4 → (k_K_leastAbsent_L2 n i S = -2 ∧ k_Q_begin_L2 n i q T = (-2, T)) ∨ ∃ j, j < 4 ∧ S.1 7 j 0 = 0 ∧ k_K_leastAbsent_L2 n i S = nI j ∧ k_Q_begin_L2 n i q T = (nI j, q_bg T j q) := by
    intro n
    induction n with
    | zero => exact fun i _ => Or.inl ⟨rfl, rfl⟩
    | succ n ih =>
      intro i hi
      have hs := (h.2.1 i (by omega)).1
      by_cases g : S.1 7 i 0 = 0
      · refine Or.inr ⟨i, by omega, g, if_pos g, ?_⟩
        have gT : T.1 1 0 i = 0 := hs.symm.trans g
        refine (if_pos gT).trans ?_
        exact Prod.ext (q_fillR 4 0 _).1 rfl
      · have gT : ¬ T.1 1 0 i = 0 := fun z => g (hs.trans z)
        have e1 : k_K_leastAbsent_L2 (n + 1) i S = k_K_leastAbsent_L2 n (i + 1) S := if_neg g
        have e2 : k_Q_begin_L2 (n + 1) i q T = k_Q_begin_L2 n (i + 1) q T := if_neg gT
        rw [e1, e2]
        exact ih (i + 1) (by omega)
  exact key 4 0 rfl
/-- spawn, on both sides -/
theorem r_spawn {B : Nat} {S : kw_S} {T : qw_S} (h : r_R B S T) : (k_K_spawn S).1 = (k_Q_spawn T).1 ∧ r_R B (k_K_spawn S).2 (k_Q_spawn T).2 := by
  unfold k_K_spawn k_Q_spawn
  dsimp only
  rcases r_least (q := 4) h with ⟨h1, h2⟩ | ⟨i, hi, h0, h1, h2⟩
  · rw [h1, h2, if_pos rfl]
    dsimp only
    rw [if_neg (show ¬ (0 : Int32) ≤ -2 by decide)]
    exact ⟨rfl, h⟩
  · rw [h1, h2, if_neg (n_m2 (by omega)), if_pos (nI_pos' (by omega)), nI_clamp (by omega)]
    exact ⟨rfl, r_beg h hi h0⟩
