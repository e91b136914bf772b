/-- an empty entry gets a sheet -/
theorem r_fresh {S : kw_S} {T : qw_S} {p k : Nat} (h : r_P S T) (hp : p < 4) (hk : k < 8) (hx : ¬ S.2 9 p k < 32) : ∃ s U V, s < 32 ∧ k_M_newSheet S = (s, U) ∧ k_Q_fresh T = (nI s, V) ∧ p_Q_fresh T ∧ r_P (kw_sn U 9 p k s) (qw_sn V 9 0 (8 * p + k) s) ∧ g_K p S (kw_sn U 9 p k s) ∧ g_Q p T (qw_sn V 9 0 (8 * p + k) s) := by
  have hT : ¬ T.2 9 0 (8 * p + k) < 34 := by
    rcases h.2.2.1 p k hp hk with q | q
    · exact absurd q.1 hx
    · exact q.2
  obtain ⟨s, hs, s1, s2⟩ := r_spare (F := T.2 9 0) (j0 := 8 * p + k) (by omega) (Or.inl (by omega))
  obtain ⟨U, V, n1, n2, n3, n4, n5, n6, n7, n8, n9⟩ := r_new h.1 h.2.1 hs ((r_c_in hs).trans s1) (fun d hd => by rw [r_c_in (by omega)]; exact s2 d hd)
  have e9 : (qw_sn V 9 0 (8 * p + k) s).2 9 0 = r_up (T.2 9 0) (8 * p + k) s := by rw [qw_sn9, n6]
  have ec : r_c (qw_sn V 9 0 (8 * p + k) s) = r_up (r_c T) s 1 := by
    funext i
    by_cases hi : i < 32
    · rw [r_c_in hi, e9]
      have h1 := r_c_set (F := T.2 9 0) (j := 8 * p + k) (s := s) (by omega) i
      rw [if_neg (c := T.2 9 0 (8 * p + k) = i) (by omega)] at h1
      by_cases e : i = s
      · rw [show r_up (r_c T) s 1 i = 1 from if_pos e]
        rw [if_pos e.symm, e, s1] at h1
        rw [e]
        exact h1
      · rw [show r_up (r_c T) s 1 i = r_c T i from if_neg e, r_c_in hi]
        rw [if_neg (fun q => e q.symm)] at h1
        exact h1
    · rw [r_c_out hi, show r_up (r_c T) s 1 i = r_c T i from if_neg (by omega), r_c_out hi]
  have gK : g_K p S U := ⟨fun a _ _ a3 a4 => n7 a a3 a4, fun i j _ => by rw [n7 7 (by decide) (by decide)], fun a _ _ _ _ _ => by rw [n5], fun q _ => by rw [n5]⟩
  have gQ : g_Q p T V := ⟨fun a a1 a2 => n8 a (by omega), fun j _ => by rw [n8 17 (by decide)], fun a _ _ => by rw [n6], fun j _ => by rw [n6]⟩
  refine ⟨s, U, V, hs, n1, n2, n3, ⟨?_, ?_, ?_, ?_⟩, g_K_9 gK, g_Q_9 gQ⟩
  · rw [ec]
    exact u_q9 (u_k9 n4)
  · rw [ec]
    intro i hi
    have e : ¬ i = s := fun e => by
      have := hi.2
      rw [show r_up (r_c T) s 1 i = 1 from if_pos e] at this
      omega
    have h2 := hi.2
    rw [show r_up (r_c T) s 1 i = r_c T i from if_neg e] at h2
    have h3 := h.2.1 i ⟨hi.1, h2⟩
    have h4 := n9 i
    exact ⟨h4.1.trans h3.1, h4.2.trans h3.2⟩
  · exact r_pg_set h.2.2.1 hp hk hs (by rw [n5]) e9
  · exact r_fa_of h.2.2.2 (n7 7 (by decide) (by decide)) (n8 6 (by decide))
/-- a shared sheet is copied -/
theorem r_copy {S : kw_S} {T : qw_S} {p k x : Nat} (h : r_P S T) (hp : p < 4) (hk : k < 8) (hx : x < 32) (hxT : T.2 9 0 (8 * p + k) = x) (h2 : 2 ≤ r_c T x) : ∃ s, s < 32 ∧ (k_M_copyOf S x).1 = s ∧ (k_Q_fresh T).1 = nI s ∧ p_Q_fresh T ∧ r_P (kw_sn (k_M_copyOf S x).2 9 p k s) (qw_si (q_cp 8 0 x s (qw_sn (k_Q_fresh T).2 9 0 (8 * p + k) s)) 17 0 10 ((q_cp 8 0 x s (qw_sn (k_Q_fresh T).2 9 0 (8 * p + k) s)).1 17 0 10 + (1 : Int32))) ∧ ¬ (kw_sn (k_M_copyOf S x).2 9 p k s).2 10 s 0 < 6 ∧ r_c (qw_si (q_cp 8 0 x s (qw_sn (k_Q_fresh T).2 9 0 (8 * p + k) s)) 17 0 10 ((q_cp 8 0 x s (qw_sn (k_Q_fresh T).2 9 0 (8 * p + k) s)).1 17 0 10 + (1 : Int32))) s ≠ 0 ∧ g_K p S (kw_sn (k_M_copyOf S x).2 9 p k s) ∧ g_Q p T (qw_si (q_cp 8 0 x s (qw_sn (k_Q_fresh T).2 9 0 (8 * p + k) s)) 17 0 10 ((q_cp 8 0 x s (qw_sn (k_Q_fresh T).2 9 0 (8 * p + k) s)).1 17 0 10 + (1 : Int32))) := by
  have hcx : r_c T x = r_cnt (T.2 9 0) x 32 := r_c_in hx
  obtain ⟨s, hs, s1, s2⟩ := r_spare (F := T.2 9 0) (j0 := 8 * p + k) (by omega) (Or.inr (by rw [hxT, ← hcx]; exact h2))
  obtain ⟨U, V, n1, n2, n3, n4, n5, n6, n7, n8, n9⟩ := r_new h.1 h.2.1 hs ((r_c_in hs).trans s1) (fun d hd => by rw [r_c_in (by omega)]; exact s2 d hd)
  have hxs : x ≠ s := fun q => by rw [q, r_c_in hs, s1] at h2; omega
  obtain ⟨m, hm⟩ : ∃ m, r_c T x = m + 1 := ⟨r_c T x - 1, by omega⟩
  have e9 : (qw_sn V 9 0 (8 * p + k) s).2 9 0 = r_up (T.2 9 0) (8 * p + k) s := by rw [qw_sn9, n6]
  obtain ⟨p1, p2⟩ := q_cpA hxs 8 0 (qw_sn V 9 0 (8 * p + k) s) (Nat.le_refl _)
  have p3 : ∀ a, a ≠ 15 → (q_cp 8 0 x s (qw_sn V 9 0 (8 * p + k) s)).1 a = V.1 a := fun a ha => funext fun b => funext fun d => (p1 a b d).trans (if_neg (fun z => ha z.1))
  have ek : k_M_copyOf S x = (s, kw_si (kw_si (kw_sr U 11 s (va_cpy (U.1 11 x) (U.1 11 s) 0 0 8)) 10 x 0 ((kw_sr U 11 s (va_cpy (U.1 11 x) (U.1 11 s) 0 0 8)).1 10 x 0 - (1 : Int32))) 2 0 3 ((kw_si (kw_sr U 11 s (va_cpy (U.1 11 x) (U.1 11 s) 0 0 8)) 10 x 0 ((kw_sr U 11 s (va_cpy (U.1 11 x) (U.1 11 s) 0 0 8)).1 10 x 0 - (1 : Int32))).1 2 0 3 + (1 : Int32))) := by
    unfold k_M_copyOf
    rw [n1]
  rw [ek, n2]
  dsimp only
  have ec : r_c (qw_si (q_cp 8 0 x s (qw_sn V 9 0 (8 * p + k) s)) 17 0 10 ((q_cp 8 0 x s (qw_sn V 9 0 (8 * p + k) s)).1 17 0 10 + (1 : Int32))) = r_up (r_up (r_c T) s 1) x m := by
    funext i
    by_cases hi : i < 32
    · rw [r_c_in hi]
      have e0 : (qw_si (q_cp 8 0 x s (qw_sn V 9 0 (8 * p + k) s)) 17 0 10 ((q_cp 8 0 x s (qw_sn V 9 0 (8 * p + k) s)).1 17 0 10 + (1 : Int32))).2 9 0 = r_up (T.2 9 0) (8 * p + k) s := by
        refine Eq.trans ?_ e9
        exact congrFun (congrFun p2 9) 0
      rw [e0]
      have h1 := r_c_set (F := T.2 9 0) (j := 8 * p + k) (s := s) (by omega) i
      rw [hxT] at h1
      by_cases ex : i = x
      · rw [show r_up (r_up (r_c T) s 1) x m i = m from if_pos ex]
        rw [if_pos ex.symm, if_neg (c := s = i) (by omega), ex, ← hcx, hm] at h1
        rw [ex]
        omega
      · rw [show r_up (r_up (r_c T) s 1) x m i = r_up (r_c T) s 1 i from if_neg ex]
        rw [if_neg (fun q => ex q.symm)] at h1
        by_cases e : i = s
        · rw [show r_up (r_c T) s 1 i = 1 from if_pos e]
          rw [if_pos e.symm, e, s1] at h1
          rw [e]
          exact h1
        · rw [show r_up (r_c T) s 1 i = r_c T i from if_neg e, r_c_in hi]
          rw [if_neg (fun q => e q.symm)] at h1
          exact h1
    · rw [r_c_out hi, show r_up (r_up (r_c T) s 1) x m i = r_up (r_c T) s 1 i from if_neg (by omega), show r_up (r_c T) s 1 i = r_c T i from if_neg (by omega), r_c_out hi]
  have hc1x : r_up (r_c T) s 1 x = m + 1 := by rw [show r_up (r_c T) s 1 x = r_c T x from if_neg hxs, hm]
  have gK : g_K p S U := ⟨fun a _ _ a3 a4 => n7 a a3 a4, fun i j _ => by rw [n7 7 (by decide) (by decide)], fun a _ _ _ _ _ => by rw [n5], fun q _ => by rw [n5]⟩
  have gQ : g_Q p T V := ⟨fun a a1 a2 => n8 a (by omega), fun j _ => by rw [n8 17 (by decide)], fun a _ _ => by rw [n6], fun j _ => by rw [n6]⟩
  have gQ2 : g_Q p V (q_cp 8 0 x s (qw_sn V 9 0 (8 * p + k) s)) := ⟨fun a a1 a2 => p3 a (by omega), fun j _ => by rw [p3 17 (by decide)], fun a _ a2 => by rw [p2, qw_sn_nc a2], fun j _ => by rw [p2, qw_sn_nc (by decide)]⟩
  refine ⟨s, hs, rfl, rfl, n3, ⟨?_, ?_, ?_, ?_⟩, ?_, ?_, g_K_9 (g_K_i (g_K_i (g_K_r11 gK) (by omega)) (by omega)), g_Q_c (g_Q_t gQ gQ2) (by omega)⟩
  · rw [ec]
    exact u_k9 (u_ct (u_own (u_cpy (u_q9 n4) hxs hx (by rw [hc1x]; omega)) hx hc1x (by omega)) 3 (by decide))
  · rw [ec]
    refine z_n (z_k (z_o ?_) (by decide))
    intro i hi
    have ex : ¬ i = x := fun e => by
      have := hi.2
      rw [show r_up (r_up (r_c T) s 1) x m i = m from if_pos e] at this
      omega
    have h5 := hi.2
    rw [show r_up (r_up (r_c T) s 1) x m i = r_up (r_c T) s 1 i from if_neg ex] at h5
    have e : ¬ i = s := fun e => by
      rw [show r_up (r_c T) s 1 i = 1 from if_pos e] at h5
      omega
    rw [show r_up (r_c T) s 1 i = r_c T i from if_neg e] at h5
    have h3 := h.2.1 i ⟨hi.1, h5⟩
    have h4 := n9 i
    rw [kw_sr_nc (by decide)]
    exact ⟨h4.1.trans h3.1, h4.2.trans h3.2⟩
  · refine r_pg_set h.2.2.1 hp hk hs (congrFun n5 9) ?_
    refine Eq.trans ?_ e9
    exact congrFun (congrFun p2 9) 0
  · refine r_fa_of h.2.2.2 ?_ ?_
    · rw [kw_sn_o, kw_si_nc (by decide), kw_si_nc (by decide), kw_sr_nc (by decide)]
      exact n7 7 (by decide) (by decide)
    · rw [qw_si_nc (by decide), p3 6 (by decide)]
      exact n8 6 (by decide)
  · rw [kw_sn_nc (by decide)]
    show ¬ U.2 10 s 0 < 6
    rw [n5]
    exact (h.1.2.2.1.1 s hs ((r_c_in hs).trans s1)).1
  · rw [ec, show r_up (r_up (r_c T) s 1) x m s = r_up (r_c T) s 1 s from if_neg (fun q => hxs q.symm), show r_up (r_c T) s 1 s = 1 from if_pos rfl]
    decide
