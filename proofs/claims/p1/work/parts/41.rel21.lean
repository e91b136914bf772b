theorem pa_eq {x y : Nat} (h : r_pa x y) : kw_pa x = qw_pa y := by
  unfold kw_pa qw_pa
  rcases h with h | h
  · rw [h.2, if_pos h.1]
  · rw [if_neg h.1, if_neg h.2]
theorem kw_pa_no {x : Nat} (h : ¬ x < 4) : kw_pa x = -2 := if_neg h
theorem kw_sn_self {S : kw_S} {c i j v : Nat} (h : S.2 c i j = v) : kw_sn S c i j v = S := by
  refine kw_ext (fun a b d => rfl) (fun a b d => ?_)
  rw [kw_sn_at]
  by_cases g : a = c ∧ b = i ∧ d = j
  · rw [if_pos g, g.1, g.2.1, g.2.2, h]
  · rw [if_neg g]
theorem r_orph {B p : Nat} {x : Int32} (hp : p < 4) : ∀ n i (S : kw_S) (T : qw_S), i + n = 4 → r_R B S T → S.1 7 p 0 ≠ 4 → ∃ V, k_Q_ends_L29 n i p x T = k_Q_ends_L29 0 0 p x V ∧ r_R B (k_K_orphanChildren_L2 n i p S) V ∧ (k_K_orphanChildren_L2 n i p S).1 7 p 0 = S.1 7 p 0 ∧ (k_K_orphanChildren_L2 n i p S).2 9 = S.2 9 := by
  intro n
  induction n with
  | zero => exact fun i S T _ h _ => ⟨T, rfl, h, rfl, rfl⟩
  | succ n ih =>
    intro i S T hn h h4
    have hi : i < 4 := by omega
    obtain ⟨t1, t2, t3, _, _, _, _, _, t9⟩ := h.2.1 i hi
    by_cases g0 : S.1 7 i 0 = 0
    · have gT : T.1 1 0 i = 0 := t1.symm.trans g0
      have e1 : k_K_orphanChildren_L2 (n + 1) i p S = k_K_orphanChildren_L2 n (i + 1) p S := if_neg (by rw [kw_pa_no (t2 g0)]; exact fun q => n_m2 (by omega) q.symm)
      have e2 : k_Q_ends_L29 (n + 1) i p x T = k_Q_ends_L29 n (i + 1) p x T := if_pos gT
      rw [e1, e2]
      exact ih (i + 1) S T (by omega) h h4
    · have gT : ¬ T.1 1 0 i = 0 := fun q => g0 (t1.trans q)
      have hpa := pa_eq (t3 g0)
      by_cases gp : kw_pa (S.2 7 i 0) = nI p
      · have gpT : qw_pa (T.2 3 0 i) = nI p := hpa.symm.trans gp
        have hv := v_par h hi
        by_cases gd : S.1 7 i 0 = 4
        · have gdT : (qw_sn T 3 0 i 4).1 1 0 i = 4 := t1.symm.trans gd
          have hg := v_gone hv hi (by rw [kw_sn_is]; decide) (by rw [kw_sn_nc (by decide)]; exact t9 (Or.inr gd))
          have el : k_T_leave (kw_sn S 7 i 0 4) i = kw_si (kw_sn S 7 i 0 4) 7 i 0 (0 : Int32) := kw_sn_self kw_sn_is
          have e1 : k_K_orphanChildren_L2 (n + 1) i p S = k_K_orphanChildren_L2 n (i + 1) p (kw_si (kw_sn S 7 i 0 4) 7 i 0 (0 : Int32)) := by
            rw [← el]
            exact (if_pos gp).trans (if_pos gd)
          have e2 : k_Q_ends_L29 (n + 1) i p x T = k_Q_ends_L29 n (i + 1) p x (qw_si (qw_sn T 3 0 i 4) 1 0 i (0 : Int32)) := (if_neg gT).trans ((if_pos gpT).trans (if_pos gdT))
          have ne : p ≠ i := fun q => h4 (by rw [q]; exact gd)
          rw [e1, e2]
          obtain ⟨V, v1, v2, v3, v4⟩ := ih (i + 1) _ _ (by omega) hg (by rw [kw_si_oi ne]; exact h4)
          refine ⟨V, v1, v2, v3.trans (kw_si_oi ne), v4.trans ?_⟩
          rw [kw_si_o, kw_sn_nc (by decide)]
        · have gdT : ¬ (qw_sn T 3 0 i 4).1 1 0 i = 4 := fun q => gd (t1.trans q)
          have e1 : k_K_orphanChildren_L2 (n + 1) i p S = k_K_orphanChildren_L2 n (i + 1) p (kw_sn S 7 i 0 4) := (if_pos gp).trans (if_neg gd)
          have e2 : k_Q_ends_L29 (n + 1) i p x T = k_Q_ends_L29 n (i + 1) p x (qw_sn T 3 0 i 4) := (if_neg gT).trans ((if_pos gpT).trans (if_neg gdT))
          rw [e1, e2]
          obtain ⟨V, v1, v2, v3, v4⟩ := ih (i + 1) _ _ (by omega) hv h4
          refine ⟨V, v1, v2, v3, v4.trans ?_⟩
          rw [kw_sn_nc (by decide)]
      · have gpT : ¬ qw_pa (T.2 3 0 i) = nI p := fun q => gp (hpa.trans q)
        have e1 : k_K_orphanChildren_L2 (n + 1) i p S = k_K_orphanChildren_L2 n (i + 1) p S := if_neg gp
        have e2 : k_Q_ends_L29 (n + 1) i p x T = k_Q_ends_L29 n (i + 1) p x T := (if_neg gT).trans (if_neg gpT)
        rw [e1, e2]
        exact ih (i + 1) S T (by omega) h h4
/-- a process without a parent ends -/
theorem v_left {B i : Nat} {S : kw_S} {T : qw_S} {x : Int32} (h : r_R B S T) (hi : i < 4) (h9 : ∀ k, k < 8 → ¬ S.2 9 i k < 32) : r_R B (kw_sn (kw_si S 7 i 0 (0 : Int32)) 7 i 0 4) (qw_si (qw_si (qw_si T 1 0 i (4 : Int32)) 4 0 i x) 1 0 i (0 : Int32)) := by
  refine r_R_upd h (fun a ha => by rw [kw_sn_o, kw_si_nc ha]) (fun b d hb => by rw [kw_sn_o, kw_si_oi hb]) (by rw [kw_sn_o, kw_si_oj (by decide)]) (fun a ha => by rw [kw_sn_nc ha]; rfl) (fun b hb => by rw [kw_sn_at, if_neg (fun z => hb z.2.1)]; rfl) (fun a _ => by rw [qw_si_nc (by omega), qw_si_nc (by omega), qw_si_nc (by omega)]) (fun a d hd => by rw [qw_si_od hd, qw_si_od hd, qw_si_od hd]) (fun a _ => rfl) (fun d _ => rfl) ?_
  obtain ⟨h1, h2, h3, h4, h5, h6, h7, h8, _⟩ := h.2.1 i hi
  have e : ∀ d, d ≠ 0 → (kw_si S 7 i 0 (0 : Int32)).1 7 i d = S.1 7 i d := fun d hd => kw_si_oj hd
  have e8 : (kw_si S 7 i 0 (0 : Int32)).1 8 = S.1 8 := kw_si_nc (by decide)
  have t : ∀ a, a ≠ 1 → a ≠ 4 → (qw_si (qw_si (qw_si T 1 0 i (4 : Int32)) 4 0 i x) 1 0 i (0 : Int32)).1 a = T.1 a := fun a ha hb => by rw [qw_si_nc ha, qw_si_nc hb, qw_si_nc ha]
  unfold r_T
  rw [kw_sn_o, kw_si_is, qw_si_is, e 5 (by decide), e8, t 7 (by decide) (by decide), t 8 (by decide) (by decide), kw_sn_is]
  refine ⟨rfl, fun _ => by decide, fun z => absurd rfl z, fun z => absurd rfl z, fun z => absurd z (by decide), fun z => absurd z (by decide), h7, h8, fun _ k hk => ?_⟩
  rw [kw_sn_nc (by decide)]
  exact h9 k hk
