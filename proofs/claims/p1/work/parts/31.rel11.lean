theorem nI_le1 {x : Nat} (h : x < 64) : nI x ≤ (1 : Int32) ↔ x ≤ 1 := by
  rw [show (1 : Int32) = nI 1 by decide]
  exact nI_leI (by omega) (by decide)
theorem q_br1 {Z : qw_S} {p s : Nat} (h : Z.1 13 0 s < 0) : k_Q_bring Z p s 1 = k_Q_bring_J55 s Z ∧ p_Q_bring Z p s 1 = p_Q_bring_J55 s Z := by
  unfold k_Q_bring p_Q_bring
  rw [if_pos h, if_pos h, if_neg (by decide), if_neg (by decide)]
  exact ⟨rfl, rfl⟩
theorem r_J {S : kw_S} {T : qw_S} {p a : Nat} {w : Int32} (h : r_P S T) (hp : p < 4) (ha : a < 64) (hx : S.2 9 p (a / 8) < 32) : p_Q_reach_J32 p a w T ∧ ∃ x U V, k_M_reach_J19 p (a / 8) w S = (x, U) ∧ k_Q_reach_J32 p a w T = (nI (8 * x + a % 8), V) ∧ x < 32 ∧ r_P U V ∧ g_K p S U ∧ g_Q p T V ∧ r_c V x ≠ 0 := by
  have hk : a / 8 < 8 := by omega
  obtain ⟨hT, hc⟩ := r_pc h.2.2.1 hp hk hx
  rw [k_J19]
  generalize S.2 9 p (a / 8) = x at hx hT hc
  obtain ⟨b1, b2, b3, b4, b5, b6⟩ := r_bring h hp hx hc
  have hcC : r_c (k_Q_bring T p x 0) x ≠ 0 := by
    rw [r_c_of b6]
    exact hc
  have hTC : (k_Q_bring T p x 0).2 9 0 (8 * p + a / 8) = x := by
    rw [b6]
    exact hT
  unfold k_M_reach_J83 k_Q_reach_J32 p_Q_reach_J32
  dsimp only
  rw [hT]
  generalize k_br S p x = B at b2 b3 b5
  generalize k_Q_bring T p x 0 = C at b2 b4 b6 hcC hTC
  by_cases hw : w = 0
  · rw [if_pos hw, if_pos hw, if_pos hw]
    obtain ⟨t1, t2, t3, t4, t5, _, t7⟩ := r_touch (a := a) (p := p) (w := w) b2 hcC
    exact ⟨⟨b1, trivial⟩, x, _, _, Prod.ext t2 rfl, Prod.ext t3 rfl, hx, t1, g_K_t b3 t4, g_Q_t b4 t5, by rw [r_c_of (congrFun t7 9)]; exact hcC⟩
  · rw [if_neg hw, if_neg hw, if_neg hw]
    have e1 : B.1 10 x 0 = nI (r_c C x) := b2.1.1.1 x hx
    have e2 : k_Q_sharers C (nI x) = nI (r_c C x) := by rw [q_sharers (by omega), r_c_in hx]
    have h64 : r_c C x < 64 := b2.1.1.2.2.2 x
    rw [e1, e2]
    by_cases g : r_c C x ≤ 1
    · rw [if_pos ((nI_le1 h64).mpr g), if_pos ((nI_le1 h64).mpr g), if_pos ((nI_le1 h64).mpr g)]
      obtain ⟨t1, t2, t3, t4, t5, _, t7⟩ := r_touch (a := a) (p := p) (w := w) b2 hcC
      exact ⟨⟨b1, trivial⟩, x, _, _, Prod.ext t2 rfl, Prod.ext t3 rfl, hx, t1, g_K_t b3 t4, g_Q_t b4 t5, by rw [r_c_of (congrFun t7 9)]; exact hcC⟩
    · have g1 : ¬ nI (r_c C x) ≤ (1 : Int32) := fun q => g ((nI_le1 h64).mp q)
      rw [if_neg g1, if_neg g1, if_neg g1]
      obtain ⟨s, hs, c1, c2, c3, c4, c5, c6, c7, c8⟩ := r_copy b2 hp hk hx hTC (by omega)
      have hcl : (nI s).toNatClampNeg = s := nI_clamp (by omega)
      rw [c1, c2, hcl]
      obtain ⟨l1, l2⟩ := q_cpL (p := p) (a := a) (s := x) (c := s) (w := w) 8 0 (qw_sn (k_Q_fresh C).2 9 0 (8 * p + a / 8) s)
      rw [l1]
      have l3 : k_Q_reach_L81 0 0 p a w x s (q_cp 8 0 x s (qw_sn (k_Q_fresh C).2 9 0 (8 * p + a / 8) s)) = k_Q_reach_J143 a w s (k_Q_bring (qw_si (q_cp 8 0 x s (qw_sn (k_Q_fresh C).2 9 0 (8 * p + a / 8) s)) 17 0 10 ((q_cp 8 0 x s (qw_sn (k_Q_fresh C).2 9 0 (8 * p + a / 8) s)).1 17 0 10 + (1 : Int32))) p s 1) := rfl
      have l4 : p_Q_reach_L81 0 0 p a w x s (q_cp 8 0 x s (qw_sn (k_Q_fresh C).2 9 0 (8 * p + a / 8) s)) = (p_Q_bring (qw_si (q_cp 8 0 x s (qw_sn (k_Q_fresh C).2 9 0 (8 * p + a / 8) s)) 17 0 10 ((q_cp 8 0 x s (qw_sn (k_Q_fresh C).2 9 0 (8 * p + a / 8) s)).1 17 0 10 + (1 : Int32))) p s 1 ∧ True) := rfl
      rw [l3]
      rw [l4] at l2
      generalize (qw_si (q_cp 8 0 x s (qw_sn (k_Q_fresh C).2 9 0 (8 * p + a / 8) s)) 17 0 10 ((q_cp 8 0 x s (qw_sn (k_Q_fresh C).2 9 0 (8 * p + a / 8) s)).1 17 0 10 + (1 : Int32))) = Z at c4 c6 c8 l2
      generalize (kw_sn (k_M_copyOf B x).2 9 p (a / 8) s) = Y at c4 c5 c7
      have hz : Z.1 13 0 s < 0 := (r_fr_neg (c4.1.2.1 s hs c6).2.2.1).mpr c5
      obtain ⟨y1, y2⟩ := q_br1 (p := p) hz
      rw [y2] at l2
      rw [y1]
      obtain ⟨y3, y4⟩ := r_layP c4 hs c6 c5
      have fK : f_K Y (k_M_layInFrame Y s) := f_K_layIn f_K_r
      have fQ : f_Q Z (k_Q_bring_J55 s Z) := f_Q_J55 f_Q_r
      have y5 : r_c (k_Q_bring_J55 s Z) s ≠ 0 := by
        rw [r_c_of (fQ.2.2.1 9 (by decide))]
        exact c6
      obtain ⟨t1, t2, t3, t4, t5, _, t7⟩ := r_touch (a := a) (p := p) (w := w) y4 y5
      exact ⟨⟨b1, c3, l2.mpr ⟨y3, trivial⟩⟩, s, _, _, Prod.ext t2 rfl, Prod.ext t3 rfl, hs, t1, g_K_t b3 (g_K_t c7 (g_K_t (g_K_f fK) t4)), g_Q_t b4 (g_Q_t c8 (g_Q_t (g_Q_f fQ) t5)), by rw [r_c_of (congrFun t7 9)]; exact y5⟩
/-- reaching a word, on both sides -/
theorem r_reach {S : kw_S} {T : qw_S} {p a : Nat} {w : Int32} (h : r_P S T) (hp : p < 4) (ha : a < 64) : p_Q_reach T p a w ∧ ∃ x U V, k_M_reach S p (a / 8) w = (x, U) ∧ k_Q_reach T p a w = (nI (8 * x + a % 8), V) ∧ x < 32 ∧ r_P U V ∧ g_K p S U ∧ g_Q p T V ∧ r_c V x ≠ 0 := by
  have hk : a / 8 < 8 := by omega
  unfold k_M_reach k_Q_reach p_Q_reach
  dsimp only
  by_cases g : S.2 9 p (a / 8) < 32
  · have hT := (r_pc h.2.2.1 hp hk g).1
    have gT : 0 ≤ qw_pg (T.2 9 0 (8 * p + a / 8)) := by
      rw [hT]
      unfold qw_pg
      rw [if_pos (by omega)]
      exact nI_pos' (by omega)
    rw [if_pos g, if_pos gT, if_pos gT]
    exact r_J h hp ha g
  · have gT : ¬ 0 ≤ qw_pg (T.2 9 0 (8 * p + a / 8)) := by
      rcases h.2.2.1 p (a / 8) hp hk with q | q
      · exact absurd q.1 g
      · unfold qw_pg
        rw [if_neg q.2]
        decide
    rw [if_neg g, if_neg gT, if_neg gT]
    obtain ⟨s, U, V, hs, n1, n2, n3, n4, n5, n6⟩ := r_fresh h hp hk g
    have hcl : (nI s).toNatClampNeg = s := nI_clamp (by omega)
    rw [n1, n2]
    dsimp only
    rw [hcl]
    have hx : (kw_sn U 9 p (a / 8) s).2 9 p (a / 8) < 32 := by
      rw [kw_sn_at, if_pos ⟨rfl, rfl, rfl⟩]
      exact hs
    obtain ⟨j1, x, U2, V2, j2, j3, j4, j5, j6, j7, j8⟩ := r_J (w := w) n4 hp ha hx
    exact ⟨⟨n3, j1⟩, x, U2, V2, j2, j3, j4, j5, g_K_t n5 j6, g_Q_t n6 j7, j8⟩
