theorem f_K_J68 {S U : kw_S} {e : Nat} (h : f_K S U) : f_K S (k_M_release_J68 e U) := f_K_i (f_K_i h (by omega)) (by omega)
theorem f_K_J43 {S U : kw_S} {e : Nat} (h : f_K S U) : f_K S (k_M_release_J43 e U) := by
  unfold k_M_release_J43
  dsimp only
  split
  · exact f_K_J68 h
  · exact f_K_J68 (f_K_n (f_K_n h (by omega)) (by omega))
theorem f_K_rel {S U : kw_S} {e : Nat} (h : f_K S U) : f_K S (k_M_release U e) := by
  have h1 := f_K_i (k := 10) (i := e) (j := 0) (v := U.1 10 e 0 - (1 : Int32)) h (by omega)
  unfold k_M_release
  dsimp only
  split
  · split
    · exact f_K_J43 h1
    · exact f_K_J43 (f_K_n (f_K_n h1 (by omega)) (by omega))
  · exact h1
theorem z_J68 {z : Nat → Prop} {S : kw_S} {e : Nat} (h : r_Z z S) : r_Z (fun i => z i ∨ i = e) (k_M_release_J68 e S) := by
  intro i hi
  show (kw_si (kw_si S 10 e 1 (0 : Int32)) 10 e 2 (0 : Int32)).1 10 i 1 = 0 ∧ (kw_si (kw_si S 10 e 1 (0 : Int32)) 10 e 2 (0 : Int32)).1 10 i 2 = 0
  by_cases q : i = e
  · rw [q]
    constructor
    · rw [kw_si_at, if_neg (fun z => absurd z.2.2 (by decide)), kw_si_at, if_pos ⟨rfl, rfl, rfl⟩]
    · rw [kw_si_at, if_pos ⟨rfl, rfl, rfl⟩]
  · rcases hi with hi | hi
    · exact z_0 (z_0 h) i hi
    · exact absurd hi q
theorem z_J43 {z : Nat → Prop} {S : kw_S} {e : Nat} (h : r_Z z S) : r_Z (fun i => z i ∨ i = e) (k_M_release_J43 e S) := by
  unfold k_M_release_J43
  dsimp only
  split
  · exact z_J68 h
  · exact z_J68 (z_n (z_n h))
theorem z_rel0 {z : Nat → Prop} {S : kw_S} {e : Nat} (h : r_Z z S) (ho : S.1 10 e 0 = nI 1) : r_Z (fun i => z i ∨ i = e) (k_M_release S e) := by
  have e1 : (kw_si S 10 e 0 (S.1 10 e 0 - (1 : Int32))).1 10 e 0 = 0 := by
    rw [kw_si_at, if_pos ⟨rfl, rfl, rfl⟩, ho]
    decide
  have h1 : r_Z z (kw_si S 10 e 0 (S.1 10 e 0 - (1 : Int32))) := z_o h
  unfold k_M_release
  dsimp only
  rw [e1, if_pos (by decide)]
  split
  · exact z_J43 h1
  · exact z_J43 (z_n (z_n h1))
/-- the class' letting go of one entry -/
def k_rs (S : kw_S) (p i : Nat) : kw_S := if S.2 9 p i < 32 then k_M_release (kw_sn S 9 p i 32) (S.2 9 p i) else S
theorem r_pg_clr {S U : kw_S} {T V : qw_S} {p k : Nat} (h : r_pg S T) (hp : p < 4) (hk : k < 8) (h1 : U.2 9 = (kw_sn S 9 p k 32).2 9) (h2 : V.2 9 0 = r_up (T.2 9 0) (8 * p + k) 34) : r_pg U V := by
  intro q l hq hl
  rw [h1, h2, kw_sn_at]
  by_cases e : q = p ∧ l = k
  · rw [if_pos ⟨rfl, e⟩, show r_up (T.2 9 0) (8 * p + k) 34 (8 * q + l) = 34 from if_pos (by omega)]
    exact Or.inr ⟨by decide, by decide⟩
  · rw [if_neg (fun z => e z.2), show r_up (T.2 9 0) (8 * p + k) 34 (8 * q + l) = T.2 9 0 (8 * q + l) from if_neg (fun z => e (by omega))]
    exact h q l hq hl
theorem r_let {S : kw_S} {T : qw_S} {p k : Nat} (h : r_P S T) (hp : p < 4) (hk : k < 8) : r_P (k_rs S p k) (k_Q_let T (8 * p + k)) ∧ g_K p S (k_rs S p k) ∧ g_Q p T (k_Q_let T (8 * p + k)) := by
  have hj : 8 * p + k < 32 := by omega
  unfold k_rs k_Q_let
  dsimp only
  by_cases g : S.2 9 p k < 32
  · obtain ⟨hT, hc⟩ := r_pc h.2.2.1 hp hk g
    rw [if_pos g, hT]
    generalize hxe : S.2 9 p k = x at g hT hc
    obtain ⟨m, hm⟩ : ∃ m, r_c T x = m + 1 := ⟨r_c T x - 1, by omega⟩
    have h64 := h.1.1.2.2.2 x
    have gp : ¬ qw_pg x < 0 := by
      unfold qw_pg
      rw [if_pos (by omega)]
      exact nI_pos (by omega)
    have gq : qw_pg x = nI x := by
      unfold qw_pg
      rw [if_pos (by omega)]
    have ec : r_c (qw_sn T 9 0 (8 * p + k) 34) = r_up (r_c T) x m := by
      funext i
      by_cases hi : i < 32
      · rw [r_c_in hi, qw_sn9]
        have h1 := r_c_set (F := T.2 9 0) (j := 8 * p + k) (s := 34) hj i
        rw [hT, if_neg (c := 34 = i) (by omega)] at h1
        by_cases q : i = x
        · rw [show r_up (r_c T) x m i = m from if_pos q]
          rw [if_pos q.symm, q, ← r_c_in g, hm] at h1
          rw [q]
          omega
        · rw [show r_up (r_c T) x m i = r_c T i from if_neg q, r_c_in hi]
          rw [if_neg (fun z => q z.symm)] at h1
          exact h1
      · rw [r_c_out hi, show r_up (r_c T) x m i = r_c T i from if_neg (by omega), r_c_out hi]
    have esh : k_Q_sharers (qw_sn T 9 0 (8 * p + k) 34) (nI x) = nI m := by
      rw [q_sharers (by omega), ← r_c_in g, ec, show r_up (r_c T) x m x = m from if_pos rfl]
    rw [if_neg gp, gq, esh]
    have hM : r_M (r_c T) (kw_sn S 9 p k 32) (qw_sn T 9 0 (8 * p + k) 34) := u_q9 (u_k9 h.1)
    have fK : f_K (kw_sn S 9 p k 32) (k_M_release (kw_sn S 9 p k 32) x) := f_K_rel f_K_r
    have gK : g_K p S (k_M_release (kw_sn S 9 p k 32) x) := g_K_t (g_K_9 g_K_r) (g_K_f fK)
    have ho : (kw_sn S 9 p k 32).1 10 x 0 = nI (m + 1) := by rw [← hm]; exact h.1.1.1 x g
    have fa7 : (k_M_release (kw_sn S 9 p k 32) x).1 7 = S.1 7 := fK.1 7 (by decide) (by decide)
    have e9 : (k_M_release (kw_sn S 9 p k 32) x).2 9 = (kw_sn S 9 p k 32).2 9 := fK.2 9 (by decide) (by decide) (by decide) (by decide)
    by_cases gm : m = 0
    · rw [gm, if_pos (by decide)]
      rw [gm] at hm ec ho
      refine ⟨⟨?_, ?_, ?_, ?_⟩, gK, g_Q_i (g_Q_9 g_Q_r) (by omega)⟩
      · rw [show r_c (qw_si (qw_sn T 9 0 (8 * p + k) 34) 10 0 x (0 : Int32)) = r_up (r_c T) x 0 from ec]
        exact r_rel0 hM g hm
      · rw [show r_c (qw_si (qw_sn T 9 0 (8 * p + k) 34) 10 0 x (0 : Int32)) = r_up (r_c T) x 0 from ec]
        intro i hi
        refine z_rel0 (S := kw_sn S 9 p k 32) (z_n h.2.1) ho i ?_
        by_cases q : i = x
        · exact Or.inr q
        · have h5 := hi.2
          rw [show r_up (r_c T) x 0 i = r_c T i from if_neg q] at h5
          exact Or.inl ⟨hi.1, h5⟩
      · exact r_pg_clr h.2.2.1 hp hk e9 (by rw [← qw_sn9]; rfl)
      · exact r_fa_of h.2.2.2 fa7 (qw_si_nc (by decide))
    · have gm2 : ¬ nI m = 0 := nI_ne0 (by omega) (by omega)
      rw [if_neg gm2]
      have er := k_rel1 ho gm (by omega)
      refine ⟨⟨?_, ?_, ?_, ?_⟩, gK, g_Q_9 g_Q_r⟩
      · rw [ec, er]
        exact u_own hM g hm gm
      · rw [ec, er]
        refine z_o (z_n ?_)
        intro i hi
        have q : ¬ i = x := fun q => by
          have h5 := hi.2
          rw [show r_up (r_c T) x m i = m from if_pos q] at h5
          exact gm h5
        have h5 := hi.2
        rw [show r_up (r_c T) x m i = r_c T i from if_neg q] at h5
        exact h.2.1 i ⟨hi.1, h5⟩
      · exact r_pg_clr h.2.2.1 hp hk e9 qw_sn9
      · exact r_fa_of h.2.2.2 fa7 rfl
  · have hT : ¬ T.2 9 0 (8 * p + k) < 34 := by
      rcases h.2.2.1 p k hp hk with q | q
      · exact absurd q.1 g
      · exact q.2
    have gp : qw_pg (T.2 9 0 (8 * p + k)) < 0 := by
      unfold qw_pg
      rw [if_neg hT]
      decide
    rw [if_neg g, if_pos gp]
    have ec : r_c (qw_sn T 9 0 (8 * p + k) 34) = r_c T := by
      funext i
      by_cases hi : i < 32
      · rw [r_c_in hi, r_c_in hi, qw_sn9]
        have h1 := r_c_set (F := T.2 9 0) (j := 8 * p + k) (s := 34) hj i
        rw [if_neg (c := 34 = i) (by omega), if_neg (c := T.2 9 0 (8 * p + k) = i) (by omega)] at h1
        exact h1
      · rw [r_c_out hi, r_c_out hi]
    refine ⟨⟨?_, ?_, ?_, ?_⟩, g_K_r, g_Q_9 g_Q_r⟩
    · rw [ec]
      exact u_q9 h.1
    · rw [ec]
      exact h.2.1
    · intro q l hq hl
      rw [qw_sn9]
      by_cases e : q = p ∧ l = k
      · rw [show r_up (T.2 9 0) (8 * p + k) 34 (8 * q + l) = 34 from if_pos (by omega), e.1, e.2]
        exact Or.inr ⟨g, by decide⟩
      · rw [show r_up (T.2 9 0) (8 * p + k) 34 (8 * q + l) = T.2 9 0 (8 * q + l) from if_neg (fun z => e (by omega))]
        exact h.2.2.1 q l hq hl
    · exact h.2.2.2
/-- letting go of all entries of a process -/
theorem r_all {p : Nat} {x : Int32} (hp : p < 4) : ∀ n i (S : kw_S) (T : qw_S), i + n = 8 → r_P S T → ∃ V, k_Q_ends_L5 n (8 * p + i) p x T = k_Q_ends_L29 4 0 p x V ∧ r_P (k_M_releaseAll_L2 n i p S) V ∧ g_K p S (k_M_releaseAll_L2 n i p S) ∧ g_Q p T V := by
  intro n
  induction n with
  | zero => exact fun i S T _ h => ⟨T, rfl, h, g_K_r, g_Q_r⟩
  | succ n ih =>
    intro i S T hi h
    obtain ⟨h1, h2, h3⟩ := r_let h hp (k := i) (by omega)
    obtain ⟨V, v1, v2, v3, v4⟩ := ih (i + 1) (k_rs S p i) (k_Q_let T (8 * p + i)) (by omega) h1
    have e : k_M_releaseAll_L2 (n + 1) i p S = k_M_releaseAll_L2 n (i + 1) p (k_rs S p i) := by
      unfold k_rs
      by_cases g : S.2 9 p i < 32
      · rw [if_pos g]
        exact if_pos g
      · rw [if_neg g]
        exact if_neg g
    rw [e]
    exact ⟨V, v1, v2, g_K_t h2 v3, g_Q_t h3 v4⟩
