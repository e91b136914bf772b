/-- waiting for a child, the reference's place set aside -/
theorem r_wait {B p r : Nat} {v : Int32} {S : kw_S} {T : qw_S} (hp : p < 4) (hr : r < 4) (h : r_R B S (qw_si T 2 0 p v)) (hl : S.1 7 p 0 ≠ 0 ∧ S.1 7 p 0 ≠ 4) : ∀ n i b, i + n = 4 → ((k_Q_waits_L5 n i p (4 * p + r) b T).1 = 1 ∧ r_R B (k_K_awaitChild_L13 n i p r b S) (qw_si (k_Q_waits_L5 n i p (4 * p + r) b T).2 2 0 p v) ∧ (k_Q_waits_L5 n i p (4 * p + r) b T).2.1 2 = T.1 2) ∨ ((k_Q_waits_L5 n i p (4 * p + r) b T).1 = 0 ∧ r_R B (k_K_awaitChild_L13 n i p r b S) (qw_si (k_Q_waits_L5 n i p (4 * p + r) b T).2 2 0 p (v - 1)) ∧ (k_Q_waits_L5 n i p (4 * p + r) b T).2.1 2 = T.1 2) := by
  intro n
  induction n with
  | zero =>
    intro i b hn
    by_cases g : b = 0
    · have e1 : k_K_awaitChild_L13 0 i p r b S = kw_si S 8 p r (-2 : Int32) := if_pos g
      have e2 : k_Q_waits_L5 0 i p (4 * p + r) b T = ((1 : Int32), qw_si T 8 0 (4 * p + r) (-2 : Int32)) := (if_pos g).trans (if_pos g)
      rw [e1, e2]
      refine Or.inl ⟨rfl, ?_, qw_si_nc (by decide)⟩
      have hr1 := r_R_reg (p := p) (v := (-2 : Int32)) h hr
      rw [qw_si_comm (c := 2) (c2 := 8) (by decide)] at hr1
      exact hr1
    · have e1 : k_K_awaitChild_L13 0 i p r b S = kw_si (kw_si S 7 p 0 (3 : Int32)) 7 p 1 ((kw_si S 7 p 0 (3 : Int32)).1 7 p 1 - (1 : Int32)) := if_neg g
      have e2 : k_Q_waits_L5 0 i p (4 * p + r) b T = ((0 : Int32), qw_si T 1 0 p (3 : Int32)) := (if_neg g).trans (if_neg g)
      have ev : S.1 7 p 1 = v := by
        have k := (h.2.1 p hp).2.2.2.1 hl.1 hl.2
        rw [qw_si_is] at k
        exact k.1
      have e3 : (kw_si S 7 p 0 (3 : Int32)).1 7 p 1 = v := (kw_si_oj (by decide)).trans ev
      rw [e1, e2, e3]
      refine Or.inr ⟨rfl, ?_, qw_si_nc (by decide)⟩
      have hw := v_place (x := v - 1) (v_wait h hp hl) hp
      rw [qw_si_comm (c := 2) (c2 := 1) (by decide), qw_si_tw] at hw
      exact hw
  | succ n ih =>
    intro i b hn
    have hi : i < 4 := by omega
    obtain ⟨t1, t2, t3, _, t5, _, _, _, _⟩ := h.2.1 i hi
    rw [show (qw_si T 2 0 p v).1 1 = T.1 1 from qw_si_nc (by decide)] at t1
    rw [show (qw_si T 2 0 p v).1 4 = T.1 4 from qw_si_nc (by decide)] at t5
    by_cases g0 : S.1 7 i 0 = 0
    · have gT : T.1 1 0 i = 0 := t1.symm.trans g0
      have e1 : k_K_awaitChild_L13 (n + 1) i p r b S = k_K_awaitChild_L13 n (i + 1) p r b S := if_neg (by rw [kw_pa_no (t2 g0)]; exact fun q => n_m2 (by omega) q.symm)
      have e2 : k_Q_waits_L5 (n + 1) i p (4 * p + r) b T = k_Q_waits_L5 n (i + 1) p (4 * p + r) b T := if_pos gT
      rw [e1, e2]
      exact ih (i + 1) b (by omega)
    · have gT : ¬ T.1 1 0 i = 0 := fun q => g0 (t1.trans q)
      have hpa : kw_pa (S.2 7 i 0) = qw_pa (T.2 3 0 i) := pa_eq (t3 g0)
      by_cases gp : kw_pa (S.2 7 i 0) = nI p
      · have gpT : qw_pa (T.2 3 0 i) = nI p := hpa.symm.trans gp
        by_cases gd : S.1 7 i 0 = 4
        · have gdT : T.1 1 0 i = 4 := t1.symm.trans gd
          have e1 : k_K_awaitChild_L13 (n + 1) i p r b S = k_T_leave (kw_si S 8 p r (S.1 7 i 2)) i := (if_pos gp).trans (if_pos gd)
          have e2 : k_Q_waits_L5 (n + 1) i p (4 * p + r) b T = ((1 : Int32), qw_si (qw_si T 1 0 i (0 : Int32)) 8 0 (4 * p + r) ((qw_si T 1 0 i (0 : Int32)).1 4 0 i)) := (if_neg gT).trans ((if_pos gpT).trans (if_pos gdT))
          have hx : (qw_si T 1 0 i (0 : Int32)).1 4 0 i = S.1 7 i 2 := by
            rw [qw_si_nc (by decide)]
            exact (t5 gd).symm
          have hv := v_leave (r_R_reg (p := p) (v := S.1 7 i 2) h hr) hi (by rw [kw_si_nc (by decide)]; exact gd)
          rw [e1, e2, hx]
          refine Or.inl ⟨rfl, ?_, ?_⟩
          · rw [qw_si_comm (c := 8) (c2 := 1) (by decide), qw_si_comm (c := 2) (c2 := 1) (by decide), qw_si_comm (c := 2) (c2 := 8) (by decide)] at hv
            exact hv
          · dsimp only
            rw [qw_si_nc (by decide), qw_si_nc (by decide)]
        · have gdT : ¬ T.1 1 0 i = 4 := fun q => gd (t1.trans q)
          have e1 : k_K_awaitChild_L13 (n + 1) i p r b S = k_K_awaitChild_L13 n (i + 1) p r (1 : Int32) S := (if_pos gp).trans (if_neg gd)
          have e2 : k_Q_waits_L5 (n + 1) i p (4 * p + r) b T = k_Q_waits_L5 n (i + 1) p (4 * p + r) (1 : Int32) T := (if_neg gT).trans ((if_pos gpT).trans (if_neg gdT))
          rw [e1, e2]
          exact ih (i + 1) _ (by omega)
      · have gpT : ¬ qw_pa (T.2 3 0 i) = nI p := fun q => gp (hpa.trans q)
        have e1 : k_K_awaitChild_L13 (n + 1) i p r b S = k_K_awaitChild_L13 n (i + 1) p r b S := if_neg gp
        have e2 : k_Q_waits_L5 (n + 1) i p (4 * p + r) b T = k_Q_waits_L5 n (i + 1) p (4 * p + r) b T := (if_neg gT).trans (if_neg gpT)
        rw [e1, e2]
        exact ih (i + 1) b (by omega)
/-- an owner more -/
theorem u_inc {c : Nat → Nat} {S : kw_S} {T : qw_S} {x : Nat} (h : r_M c S T) (hx : x < 32) (hc : c x ≠ 0) (hm : c x + 1 < 64) : r_M (r_up c x (c x + 1)) (kw_si S 10 x 0 (S.1 10 x 0 + (1 : Int32))) T := by
  obtain ⟨c1, c2, c3, c4⟩ := h.1
  have n0 : ∀ i, r_up c x (c x + 1) i = 0 ↔ c i = 0 := by
    intro i
    by_cases e : i = x
    · rw [show r_up c x (c x + 1) i = c x + 1 from if_pos e, e]
      omega
    · rw [show r_up c x (c x + 1) i = c i from if_neg e]
  refine ⟨⟨fun i hi => ?_, fun i hi => (c2 i hi).trans (n0 i).symm, fun i hi => (n0 i).mpr (c3 i hi), fun i => ?_⟩, fun i hi hci => ?_, ?_, r_N_of h.2.2.2 rfl rfl (kw_si_nc (by decide)) rfl⟩
  · rw [kw_si_at]
    by_cases e : i = x
    · rw [if_pos ⟨rfl, e, rfl⟩, show r_up c x (c x + 1) i = c x + 1 from if_pos e, c1 x hx]
      exact nI_1 (c x)
    · rw [if_neg (fun z => e z.2.1), show r_up c x (c x + 1) i = c i from if_neg e]
      exact c1 i hi
  · have h1 := c4 i
    show (if i = x then c x + 1 else c i) < 64
    split <;> omega
  · obtain ⟨a1, a2, a3, a4, a5⟩ := h.2.1 i hi (fun q => hci ((n0 i).mpr q))
    refine ⟨?_, ?_, a3, a4, fun w hw => ?_⟩
    · rw [kw_si_at, if_neg (fun z => absurd z.2.2 (by decide))]
      exact a1
    · rw [kw_si_at, if_neg (fun z => absurd z.2.2 (by decide))]
      exact a2
    · rw [kw_si_nc (by decide)]
      exact a5 w hw
  · have hF := h.2.2.1
    exact ⟨fun i hi hci => hF.1 i hi ((n0 i).mp hci), hF.2⟩
/-- an entry of the parent is copied to the child -/
theorem r_ent {B p c i : Nat} {S : kw_S} {T : qw_S} (h : r_R B S T) (hp : p < 4) (hc : c < 4) (hi : i < 8) (hx : S.2 9 p i < 32) (he : ¬ S.2 9 c i < 32) (hl : S.1 7 c 0 ≠ 0 ∧ S.1 7 c 0 ≠ 4) : r_R B (kw_sn (kw_si S 10 (S.2 9 p i) 0 ((S.1 10 (S.2 9 p i) 0) + (1 : Int32))) 9 c i (S.2 9 p i)) (qw_sn T 9 0 (8 * c + i) (T.2 9 0 (8 * p + i))) := by
  obtain ⟨t1, t2⟩ := r_pc h.1.2.2.1 hp hi hx
  rw [t1]
  generalize S.2 9 p i = x at hx t1 t2
  have hT : ¬ T.2 9 0 (8 * c + i) < 34 := by
    rcases h.1.2.2.1 c i hc hi with q | q
    · exact absurd q.1 he
    · exact q.2
  have hb : r_c T x + 1 < 64 := by
    have h1 := r_cnt_le (f := T.2 9 0) (s := x) 32
    rw [r_c_in hx]
    omega
  have ec : r_c (qw_sn T 9 0 (8 * c + i) x) = r_up (r_c T) x (r_c T x + 1) := by
    funext j
    by_cases hj : j < 32
    · rw [r_c_in hj, qw_sn9]
      have h1 := r_c_set (F := T.2 9 0) (j := 8 * c + i) (s := x) (by omega) j
      rw [if_neg (c := T.2 9 0 (8 * c + i) = j) (by omega)] at h1
      by_cases e : j = x
      · rw [show r_up (r_c T) x (r_c T x + 1) j = r_c T x + 1 from if_pos e, r_c_in hx]
        rw [if_pos e.symm, e] at h1
        rw [e]
        exact h1
      · rw [show r_up (r_c T) x (r_c T x + 1) j = r_c T j from if_neg e, r_c_in hj]
        rw [if_neg (fun q => e q.symm)] at h1
        exact h1
    · rw [r_c_out hj, show r_up (r_c T) x (r_c T x + 1) j = r_c T j from if_neg (by omega), r_c_out hj]
  have k7 : (kw_sn (kw_si S 10 x 0 ((S.1 10 x 0) + (1 : Int32))) 9 c i x).1 7 = S.1 7 := by rw [kw_sn_o, kw_si_nc (by decide)]
  have k8 : (kw_sn (kw_si S 10 x 0 ((S.1 10 x 0) + (1 : Int32))) 9 c i x).1 8 = S.1 8 := by rw [kw_sn_o, kw_si_nc (by decide)]
  have k72 : (kw_sn (kw_si S 10 x 0 ((S.1 10 x 0) + (1 : Int32))) 9 c i x).2 7 = S.2 7 := kw_sn_nc (by decide)
  have q3 : (qw_sn T 9 0 (8 * c + i) x).2 3 = T.2 3 := qw_sn_nc (by decide)
  refine ⟨⟨?_, ?_, r_pg_set h.1.2.2.1 hc hi hx rfl qw_sn9, r_fa_of h.1.2.2.2 k7 rfl⟩, fun j hj => ?_, r_S_of h.2.2.1 (by rw [kw_sn_o, kw_si_nc (by decide)]) (kw_sn_nc (by decide)) (by rw [kw_sn_o, kw_si_nc (by decide)]) rfl (fun j _ => by rw [qw_sn_nc (by decide)]) rfl (fun _ _ => rfl), ?_⟩
  · rw [ec]
    exact u_q9 (u_k9 (u_inc h.1.1 hx t2 hb))
  · rw [ec]
    refine z_n (z_o ?_)
    intro j hj
    have e : ¬ j = x := fun e => by
      have h2 := hj.2
      rw [show r_up (r_c T) x (r_c T x + 1) j = r_c T x + 1 from if_pos e] at h2
      omega
    have h2 := hj.2
    rw [show r_up (r_c T) x (r_c T x + 1) j = r_c T j from if_neg e] at h2
    exact h.1.2.1 j ⟨hj.1, h2⟩
  · by_cases e : j = c
    · rw [e]
      obtain ⟨h1, h2, h3, h4, h5, h6, h7, h8, _⟩ := h.2.1 c hc
      unfold r_T
      rw [k7, k8, k72, q3]
      refine ⟨h1, h2, h3, h4, h5, h6, h7, h8, fun z => ?_⟩
      rcases z with z | z
      · exact absurd z hl.1
      · exact absurd z hl.2
    · exact r_T_cg (h.2.1 j hj) (fun d _ => by rw [k7]) (by rw [k72]) (by rw [k8]) (kw_sn_ne (fun z => e z.2)) (fun a _ => rfl) (fun r _ => rfl) (by rw [q3])
  · rw [kw_sn_nc (by decide)]
    exact h.2.2.2
theorem r_ent0 {B p c i : Nat} {S : kw_S} {T : qw_S} (h : r_R B S T) (hp : p < 4) (hc : c < 4) (hi : i < 8) (hx : ¬ S.2 9 p i < 32) (he : ¬ S.2 9 c i < 32) : r_R B S (qw_sn T 9 0 (8 * c + i) (T.2 9 0 (8 * p + i))) := by
  have hy : ¬ T.2 9 0 (8 * p + i) < 34 := by
    rcases h.1.2.2.1 p i hp hi with q | q
    · exact absurd q.1 hx
    · exact q.2
  have hT : ¬ T.2 9 0 (8 * c + i) < 34 := by
    rcases h.1.2.2.1 c i hc hi with q | q
    · exact absurd q.1 he
    · exact q.2
  generalize T.2 9 0 (8 * p + i) = y at hy
  have ec : r_c (qw_sn T 9 0 (8 * c + i) y) = r_c T := by
    funext j
    by_cases hj : j < 32
    · rw [r_c_in hj, r_c_in hj, qw_sn9]
      have h1 := r_c_set (F := T.2 9 0) (j := 8 * c + i) (s := y) (by omega) j
      rw [if_neg (c := T.2 9 0 (8 * c + i) = j) (by omega), if_neg (c := y = j) (by omega)] at h1
      exact h1
    · rw [r_c_out hj, r_c_out hj]
  have q3 : (qw_sn T 9 0 (8 * c + i) y).2 3 = T.2 3 := qw_sn_nc (by decide)
  refine ⟨⟨?_, ?_, fun q l hq hl => ?_, h.1.2.2.2⟩, fun j hj => ?_, r_S_of h.2.2.1 rfl rfl rfl rfl (fun j _ => by rw [qw_sn_nc (by decide)]) rfl (fun _ _ => rfl), h.2.2.2⟩
  · rw [ec]
    exact u_q9 h.1.1
  · rw [ec]
    exact h.1.2.1
  · rw [qw_sn_at]
    by_cases e : 8 * q + l = 8 * c + i
    · rw [if_pos ⟨rfl, rfl, e⟩]
      have e1 : q = c := by omega
      have e2 : l = i := by omega
      rw [e1, e2]
      exact Or.inr ⟨he, hy⟩
    · rw [if_neg (fun z => e z.2.2)]
      exact h.1.2.2.1 q l hq hl
  · exact r_T_cg (h.2.1 j hj) (fun d _ => rfl) rfl rfl rfl (fun a _ => rfl) (fun r _ => rfl) (by rw [q3])
def q_en : Nat → Nat → Nat → Nat → qw_S → qw_S
  | 0, _, _, _, T => T
  | n + 1, i, p, q, T => q_en n (i + 1) p q (qw_sn T 9 0 (8 * q + i) (T.2 9 0 (8 * p + i)))
theorem q_en_si {p q c a b : Nat} {v : Int32} : ∀ n i (T : qw_S), q_en n i p q (qw_si T c a b v) = qw_si (q_en n i p q T) c a b v := by
  intro n
  induction n with
  | zero => exact fun i T => rfl
  | succ n ih => exact fun i T => ih (i + 1) (qw_sn T 9 0 (8 * q + i) (T.2 9 0 (8 * p + i)))
theorem q_en_1 {p q : Nat} : ∀ n i (T : qw_S), (q_en n i p q T).1 = T.1 := by
  intro n
  induction n with
  | zero => exact fun i T => rfl
  | succ n ih => exact fun i T => ih (i + 1) (qw_sn T 9 0 (8 * q + i) (T.2 9 0 (8 * p + i)))
theorem r_ents {B p c r : Nat} (hp : p < 4) (hc : c < 4) (hpc : p ≠ c) : ∀ n i (S : kw_S) (T : qw_S), i + n = 8 → r_R B S T → (S.1 7 c 0 ≠ 0 ∧ S.1 7 c 0 ≠ 4) → (∀ k, i ≤ k → k < 8 → ¬ S.2 9 c k < 32) → r_R B (k_K_fork_L102 n i p r c S) (q_en n i p c T) := by
  intro n
  induction n with
  | zero => exact fun i S T _ h _ _ => h
  | succ n ih =>
    intro i S T hn h hl hk
    by_cases g : S.2 9 p i < 32
    · have e1 : k_K_fork_L102 (n + 1) i p r c S = k_K_fork_L102 n (i + 1) p r c (kw_sn (kw_si S 10 (S.2 9 p i) 0 ((S.1 10 (S.2 9 p i) 0) + (1 : Int32))) 9 c i (S.2 9 p i)) := if_pos g
      rw [e1]
      refine ih (i + 1) _ _ (by omega) (r_ent h hp hc (by omega) g (hk i (Nat.le_refl _) (by omega)) hl) ?_ (fun k h1 h2 => ?_)
      · rw [kw_sn_o, kw_si_nc (by decide)]
        exact hl
      · rw [kw_sn_at, if_neg (fun z => by have := z.2.2; omega)]
        exact hk k (by omega) h2
    · have e1 : k_K_fork_L102 (n + 1) i p r c S = k_K_fork_L102 n (i + 1) p r c S := if_neg g
      rw [e1]
      exact ih (i + 1) _ _ (by omega) (r_ent0 h hp hc (by omega) g (hk i (Nat.le_refl _) (by omega))) hl (fun k h1 h2 => hk k (by omega) h2)
def q_rg : Nat → Nat → Nat → Nat → qw_S → qw_S
  | 0, _, _, _, T => T
  | n + 1, i, p, q, T => q_rg n (i + 1) p q (qw_si T 8 0 (4 * q + i) (T.1 8 0 (4 * p + i)))
theorem q_rg_2 {p q a : Nat} {v : Int32} : ∀ n i (T : qw_S), q_rg n i p q (qw_si T 2 0 a v) = qw_si (q_rg n i p q T) 2 0 a v := by
  intro n
  induction n with
  | zero => exact fun i T => rfl
  | succ n ih =>
    intro i T
    show q_rg n (i + 1) p q (qw_si (qw_si T 2 0 a v) 8 0 (4 * q + i) ((qw_si T 2 0 a v).1 8 0 (4 * p + i))) = qw_si (q_rg n (i + 1) p q (qw_si T 8 0 (4 * q + i) (T.1 8 0 (4 * p + i)))) 2 0 a v
    rw [show (qw_si T 2 0 a v).1 8 = T.1 8 from qw_si_nc (by decide), qw_si_comm (c := 2) (c2 := 8) (by decide)]
    exact ih _ _
theorem q_rg_o {p q a : Nat} (ha : a ≠ 8) : ∀ n i (T : qw_S), (q_rg n i p q T).1 a = T.1 a := by
  intro n
  induction n with
  | zero => exact fun i T => rfl
  | succ n ih =>
    intro i T
    exact (ih (i + 1) _).trans (qw_si_nc ha)
theorem q_L16 {p r q : Nat} : ∀ n i (T : qw_S), k_Q_fork_L16 n i p r q T = k_Q_fork_L53 8 0 p r q (q_rg n i p q T) := by
  intro n
  induction n with
  | zero => exact fun i T => rfl
  | succ n ih => exact fun i T => ih (i + 1) _
theorem q_L53 {p r q : Nat} : ∀ n i (T : qw_S), k_Q_fork_L53 n i p r q T = (nI q, qw_si (qw_si (q_en n i p q T) 8 0 (4 * q + r) (-1 : Int32)) 2 0 q ((qw_si (q_en n i p q T) 8 0 (4 * q + r) (-1 : Int32)).1 2 0 p)) := by
  intro n
  induction n with
  | zero => exact fun i T => rfl
  | succ n ih => exact fun i T => ih (i + 1) _
def k_rg : Nat → Nat → Nat → Nat → kw_S → kw_S
  | 0, _, _, _, S => S
  | n + 1, i, p, c, S => k_rg n (i + 1) p c (kw_si S 8 c i (S.1 8 p i))
theorem k_L56 {p r c : Nat} : ∀ n i (S : kw_S), k_K_fork_L56 n i p r c S = k_K_fork_L102 8 0 p r c (kw_si (kw_si (k_rg n i p c S) 8 c r (-1 : Int32)) 8 p r (nI c)) := by
  intro n
  induction n with
  | zero => exact fun i S => rfl
  | succ n ih => exact fun i S => ih (i + 1) _
theorem k_rg_o {p c a : Nat} (ha : a ≠ 8) : ∀ n i (S : kw_S), (k_rg n i p c S).1 a = S.1 a := by
  intro n
  induction n with
  | zero => exact fun i S => rfl
  | succ n ih =>
    intro i S
    exact (ih (i + 1) _).trans (kw_si_nc ha)
theorem k_rg_2 {p c : Nat} : ∀ n i (S : kw_S), (k_rg n i p c S).2 = S.2 := by
  intro n
  induction n with
  | zero => exact fun i S => rfl
  | succ n ih => exact fun i S => ih (i + 1) _
theorem r_regs {B p c : Nat} (hp : p < 4) : ∀ n i (S : kw_S) (T : qw_S), i + n = 4 → r_R B S T → r_R B (k_rg n i p c S) (q_rg n i p c T) := by
  intro n
  induction n with
  | zero => exact fun i S T _ h => h
  | succ n ih =>
    intro i S T hn h
    have e : S.1 8 p i = T.1 8 0 (4 * p + i) := (h.2.1 p hp).2.2.2.2.2.2.2.1 i (by omega)
    have h1 := r_R_reg (p := c) (r := i) (v := S.1 8 p i) h (by omega)
    refine ih (i + 1) _ _ (by omega) ?_
    rw [← e]
    exact h1
/-- a fork, on both sides -/
theorem r_fork {B p r : Nat} {S : kw_S} {T : qw_S} (h : r_R B S T) (hp : p < 4) (hr : r < 4) (hl : S.1 7 p 0 ≠ 0 ∧ S.1 7 p 0 ≠ 4) : r_R B (k_K_fork S p r) (qw_si (k_Q_fork T p r).2 8 0 (4 * p + r) (k_Q_fork T p r).1) := by
  unfold k_K_fork k_Q_fork
  dsimp only
  rcases r_least (q := p) h with ⟨h1, h2⟩ | ⟨c, hc, h0, h1, h2⟩
  · rw [h1, h2, if_pos rfl]
    dsimp only
    rw [if_neg (show ¬ (0 : Int32) ≤ -2 by decide)]
    exact r_R_reg h hr
  · rw [h1, h2]
    dsimp only
    rw [if_neg (n_m2 (by omega)), if_pos (nI_pos' (by omega)), nI_clamp (by omega)]
    have hpc : p ≠ c := fun q => hl.1 (by rw [q]; exact h0)
    have hb := r_beg (q := p) h hc h0
    obtain ⟨b1, b2⟩ := k_beg (S := S) (i := c) (q := p)
    have bp : ∀ d, (k_T_begin S c p).1 7 p d = S.1 7 p d := fun d => by rw [b1, if_neg (fun z => hpc z.2.1), if_neg (fun z => hpc z.2.1)]
    have bc : (k_T_begin S c p).1 7 c 0 = 1 := by rw [b1, if_neg (fun z => by omega), if_pos ⟨rfl, rfl, by decide⟩, if_pos rfl]
    have b9 : (k_T_begin S c p).2 9 = S.2 9 := by rw [b2, kw_sn_nc (by decide)]
    have ep : (q_bg T c p).1 2 0 p = (k_T_begin S c p).1 7 p 1 := ((hb.2.1 p hp).2.2.2.1 (by rw [bp]; exact hl.1) (by rw [bp]; exact hl.2)).1.symm
    rw [k_L56, q_L16, q_L53]
    dsimp only
    generalize (k_T_begin S c p).1 7 p 1 = x at ep
    have h3 := r_regs (c := c) hp 4 0 _ _ rfl (v_place (x := x) hb hc)
    have h4 := r_R_reg (p := p) (r := r) (v := nI c) (r_R_reg (p := c) (r := r) (v := (-1 : Int32)) h3 hr) hr
    have s7 : (kw_si (kw_si (k_rg 4 0 p c (kw_si (k_T_begin S c p) 7 c 1 x)) 8 c r (-1 : Int32)) 8 p r (nI c)).1 7 c 0 = 1 := by
      rw [kw_si_nc (by decide), kw_si_nc (by decide), k_rg_o (by decide), kw_si_oj (by decide), bc]
    have s9 : (kw_si (kw_si (k_rg 4 0 p c (kw_si (k_T_begin S c p) 7 c 1 x)) 8 c r (-1 : Int32)) 8 p r (nI c)).2 9 = S.2 9 := by
      rw [kw_si_o, kw_si_o, k_rg_2, kw_si_o, b9]
    have h5 := r_ents (r := r) hp hc hpc 8 0 _ _ rfl h4 (by rw [s7]; decide) (fun k _ hk => by rw [s9]; exact (h.2.1 c hc).2.2.2.2.2.2.2.2 (Or.inl h0) k hk)
    rw [q_en_si, q_en_si, q_rg_2, q_en_si, qw_si_comm (c := 2) (c2 := 8) (by decide)] at h5
    have ex : (qw_si (q_en 8 0 p c (q_rg 4 0 p c (q_bg T c p))) 8 0 (4 * c + r) (-1 : Int32)).1 2 0 p = x := by
      rw [qw_si_nc (by decide), q_en_1, q_rg_o (by decide)]
      exact ep
    rw [ex]
    exact h5
