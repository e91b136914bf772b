theorem r_M_cg {c : Nat → Nat} {S U : kw_S} {T V : qw_S} (h : r_M c S T) (k1 : ∀ a, a = 2 ∨ a = 10 ∨ a = 11 → U.1 a = S.1 a) (k2 : ∀ a, a = 2 ∨ a = 5 ∨ a = 6 ∨ a = 10 → U.2 a = S.2 a) (q1 : ∀ a, (9 < a ∧ a < 16) ∨ a = 17 → V.1 a = T.1 a) (q2 : V.2 0 = T.2 0) : r_M c U V :=
  ⟨r_C_of h.1 (fun i _ => by rw [k1 10 (by omega)]) (fun i _ => by rw [q1 10 (by omega)]), fun i hi hc => r_sh_of (h.2.1 i hi hc) (k1 10 (by omega)) (k1 11 (by omega)) (k2 10 (by omega)) (q1 11 (by omega)) (q1 12 (by omega)) (q1 13 (by omega)) (q1 14 (by omega)) (q1 15 (by omega)), r_F_of h.2.2.1 (k2 5 (by omega)) (k2 6 (by omega)) (k2 10 (by omega)), r_N_of h.2.2.2 (k2 2 (by omega)) q2 (k1 2 (by omega)) (q1 17 (by omega))⟩
theorem r_P_cg {S U : kw_S} {T V : qw_S} (h : r_P S T) (k1 : ∀ a, a = 2 ∨ a = 10 ∨ a = 11 → U.1 a = S.1 a) (k2 : ∀ a, a = 2 ∨ a = 5 ∨ a = 6 ∨ a = 9 ∨ a = 10 → U.2 a = S.2 a) (q1 : ∀ a, (9 < a ∧ a < 16) ∨ a = 17 → V.1 a = T.1 a) (q2 : V.2 0 = T.2 0) (q9 : V.2 9 = T.2 9) (hf : r_fa U V) : r_P U V :=
  r_P_of q9 (r_M_cg h.1 k1 (fun a ha => k2 a (by omega)) q1 q2) (fun i hi => by rw [k1 10 (by omega)]; exact h.2.1 i hi) (r_pg_of h.2.2.1 (k2 9 (by omega)) q9) hf
theorem k_fillR {q : Nat} {v : Int32} : ∀ n i (S : kw_S), (∀ a b d, (k_J_fill_AR_L5 n i q v S).1 a b d = if a = 8 ∧ b = q ∧ i ≤ d ∧ d < i + n then v else S.1 a b d) ∧ (k_J_fill_AR_L5 n i q v S).2 = S.2 := by
  intro n
  induction n with
  | zero =>
    intro i S
    refine ⟨fun a b d => ?_, rfl⟩
    rw [if_neg (fun z => by have := z.2.2; omega)]
    rfl
  | succ n ih =>
    intro i S
    obtain ⟨h1, h2⟩ := ih (i + 1) (kw_si S 8 q i v)
    refine ⟨fun a b d => ?_, h2⟩
    refine (h1 a b d).trans ?_
    rw [kw_si_at]
    by_cases g : a = 8 ∧ b = q
    · by_cases g2 : i + 1 ≤ d ∧ d < i + 1 + n
      · rw [if_pos ⟨g.1, g.2, g2⟩, if_pos ⟨g.1, g.2, by omega, by omega⟩]
      · rw [if_neg (fun z => g2 z.2.2)]
        by_cases g3 : d = i
        · rw [if_pos ⟨g.1, g.2, g3⟩, if_pos ⟨g.1, g.2, by omega, by omega⟩]
        · rw [if_neg (fun z => g3 z.2.2), if_neg (fun z => by have := z.2.2; omega)]
    · rw [if_neg (fun z => g ⟨z.1, z.2.1⟩), if_neg (fun z => g ⟨z.1, z.2.1⟩), if_neg (fun z => g ⟨z.1, z.2.1⟩)]
theorem q_fillR {s : Nat} : ∀ n i (T : qw_S), (k_Q_begin_L56 n i s T).1 = nI s ∧ (∀ a b d, (k_Q_begin_L56 n i s T).2.1 a b d = if a = 8 ∧ b = 0 ∧ 4 * s + i ≤ d ∧ d < 4 * s + i + n then 0 else T.1 a b d) ∧ (k_Q_begin_L56 n i s T).2.2 = T.2 := by
  intro n
  induction n with
  | zero =>
    intro i S
    refine ⟨rfl, fun a b d => ?_, rfl⟩
    rw [if_neg (fun z => by have := z.2.2; omega)]
    rfl
  | succ n ih =>
    intro i S
    obtain ⟨h0, h1, h2⟩ := ih (i + 1) (qw_si S 8 0 (4 * s + i) (0 : Int32))
    refine ⟨h0, fun a b d => ?_, h2⟩
    refine (h1 a b d).trans ?_
    rw [qw_si_at]
    by_cases g : a = 8 ∧ b = 0
    · by_cases g2 : 4 * s + (i + 1) ≤ d ∧ d < 4 * s + (i + 1) + n
      · rw [if_pos ⟨g.1, g.2, g2⟩, if_pos ⟨g.1, g.2, by omega, by omega⟩]
      · rw [if_neg (fun z => g2 z.2.2)]
        by_cases g3 : d = 4 * s + i
        · rw [if_pos ⟨g.1, g.2, g3⟩, if_pos ⟨g.1, g.2, by omega, by omega⟩]
        · rw [if_neg (fun z => g3 z.2.2), if_neg (fun z => by have := z.2.2; omega)]
    · rw [if_neg (fun z => g ⟨z.1, z.2.1⟩), if_neg (fun z => g ⟨z.1, z.2.1⟩), if_neg (fun z => g ⟨z.1, z.2.1⟩)]
/-- what a beginning writes, word by word -/
theorem k_beg {S : kw_S} {i q : Nat} : (∀ a b d, (k_T_begin S i q).1 a b d = if a = 8 ∧ b = i ∧ d < 4 then 0 else if a = 7 ∧ b = i ∧ d < 6 then (if d = 0 then 1 else 0) else S.1 a b d) ∧ (k_T_begin S i q).2 = (kw_sn S 7 i 0 q).2 := by
  obtain ⟨h1, h2⟩ := k_fillR (q := i) (v := (0 : Int32)) 4 0 S
  constructor
  · intro a b d
    show (kw_si (kw_si (kw_si (kw_si (kw_sn (kw_si (kw_si (k_J_fill_AR_L5 4 0 i 0 S) 7 i 0 (1 : Int32)) 7 i 1 (0 : Int32)) 7 i 0 q) 7 i 2 (0 : Int32)) 7 i 3 (0 : Int32)) 7 i 4 (0 : Int32)) 7 i 5 (0 : Int32)).1 a b d = _
    rw [kw_si_at, kw_si_at, kw_si_at, kw_si_at, kw_sn_o, kw_si_at, kw_si_at, h1]
    by_cases g8 : a = 8
    · have e : ∀ d2, ¬ (a = 7 ∧ b = i ∧ d = d2) := fun d2 z => by omega
      have e2 : ¬ (a = 7 ∧ b = i ∧ d < 6) := fun z => by omega
      simp only [e, e2, if_false]
      by_cases g : b = i ∧ d < 4
      · rw [if_pos ⟨g8, g.1, by omega, by omega⟩, if_pos ⟨g8, g⟩]
      · rw [if_neg (fun z => g ⟨z.2.1, by omega⟩), if_neg (fun z => g z.2)]
    · have e8 : ∀ P : Prop, ¬ (a = 8 ∧ P) := fun P z => g8 z.1
      rw [if_neg (c := a = 8 ∧ b = i ∧ 0 ≤ d ∧ d < 0 + 4) (e8 _), if_neg (c := a = 8 ∧ b = i ∧ d < 4) (e8 _)]
      by_cases g : a = 7 ∧ b = i
      · simp only [g, true_and]
        by_cases d5 : d = 5
        · simp [d5]
        · by_cases d4 : d = 4
          · simp [d4]
          · by_cases d3 : d = 3
            · simp [d3]
            · by_cases d2 : d = 2
              · simp [d2]
              · by_cases d1 : d = 1
                · simp [d1]
                · by_cases d0 : d = 0
                  · simp [d0]
                  · have e : ¬ d < 6 := by omega
                    simp only [d5, d4, d3, d2, d1, d0, e, if_false]
      · have e : ∀ d2, ¬ (a = 7 ∧ b = i ∧ d = d2) := fun d2 z => g ⟨z.1, z.2.1⟩
        have e2 : ¬ (a = 7 ∧ b = i ∧ d < 6) := fun z => g ⟨z.1, z.2.1⟩
        simp only [e, e2, if_false]
  · show (kw_sn (kw_si (kw_si (k_J_fill_AR_L5 4 0 i 0 S) 7 i 0 (1 : Int32)) 7 i 1 (0 : Int32)) 7 i 0 q).2 = _
    unfold kw_sn
    dsimp only
    rw [kw_si_o, kw_si_o, h2]
