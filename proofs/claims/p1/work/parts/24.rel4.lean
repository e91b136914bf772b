theorem u_hand {c : Nat → Nat} {S : kw_S} {T : qw_S} {x : Nat} (h : r_M c S T) : r_M c (kw_sn S 2 0 0 x) (qw_sn T 0 0 1 x) := by
  refine ⟨r_C_of h.1 (fun i _ => rfl) (fun i _ => rfl), fun i hi hc => r_sh_of (h.2.1 i hi hc) rfl rfl (kw_sn_nc (by decide)) rfl rfl rfl rfl rfl, r_F_of h.2.2.1 (kw_sn_nc (by decide)) (kw_sn_nc (by decide)) (kw_sn_nc (by decide)), ?_⟩
  obtain ⟨b0, b1, b2, b3, b4⟩ := h.2.2.2
  refine ⟨?_, b1, b2, b3, b4⟩
  rw [kw_sn_at, qw_sn_at, if_pos ⟨rfl, rfl, rfl⟩, if_pos ⟨rfl, rfl, rfl⟩]
theorem in_nI {x n : Nat} (h : x < n) (hn : n < 2 ^ 31) : in_ (nI x) n := by
  unfold in_
  rw [nI_clamp (by omega)]
  exact ⟨rfl, h⟩
set_option maxRecDepth 100000 in
theorem q_go_sn {T : qw_S} {s x : Nat} : k_Q_goesOut (qw_sn T 0 0 1 x) s = qw_sn (k_Q_goesOut T s) 0 0 1 x := by
  have key : ∀ n i (U : qw_S), k_Q_goesOut_L35 n i s (qw_sn U 0 0 1 x) = qw_sn (k_Q_goesOut_L35 n i s U) 0 0 1 x := by
    intro n
    induction n with
    | zero => exact fun i U => rfl
    | succ n ih =>
      intro i U
      have hs : k_Q_isSlot (qw_sn U 0 0 1 x) (nI i) = k_Q_isSlot U (nI i) := q_isSlot_cg rfl rfl
      unfold k_Q_goesOut_L35
      dsimp only
      rw [hs]
      by_cases g : k_Q_isSlot U (nI i) = 0
      · rw [if_pos g, if_pos g]
        rfl
      · rw [if_neg g, if_neg g]
        exact ih (i + 1) U
  unfold k_Q_goesOut
  dsimp only
  by_cases g : (qw_si T 13 0 s (-1 : Int32)).1 12 0 s = 0
  · have g2 : (qw_si (qw_sn T 0 0 1 x) 13 0 s (-1 : Int32)).1 12 0 s = 0 := g
    rw [if_pos g, if_pos g2]
    rfl
  · have g2 : ¬ (qw_si (qw_sn T 0 0 1 x) 13 0 s (-1 : Int32)).1 12 0 s = 0 := g
    rw [if_neg g, if_neg g2]
    by_cases g3 : 0 ≤ (qw_si (qw_si T 13 0 s (-1 : Int32)) 12 0 s (0 : Int32)).1 14 0 s
    · have g4 : 0 ≤ (qw_si (qw_si (qw_sn T 0 0 1 x) 13 0 s (-1 : Int32)) 12 0 s (0 : Int32)).1 14 0 s := g3
      rw [if_pos g3, if_pos g4]
      rfl
    · have g4 : ¬ 0 ≤ (qw_si (qw_si (qw_sn T 0 0 1 x) 13 0 s (-1 : Int32)) 12 0 s (0 : Int32)).1 14 0 s := g3
      rw [if_neg g3, if_neg g4]
      have e : qw_si (qw_si (qw_sn T 0 0 1 x) 13 0 s (-1 : Int32)) 12 0 s (0 : Int32) = qw_sn (qw_si (qw_si T 13 0 s (-1 : Int32)) 12 0 s (0 : Int32)) 0 0 1 x := rfl
      rw [e]
      exact key 64 0 _
set_option maxRecDepth 100000 in
theorem q_go2 {T : qw_S} {s : Nat} : (k_Q_goesOut T s).2 = T.2 := by
  have key : ∀ n i (U : qw_S), (k_Q_goesOut_L35 n i s U).2 = U.2 := by
    intro n
    induction n with
    | zero => exact fun i U => rfl
    | succ n ih =>
      intro i U
      unfold k_Q_goesOut_L35
      dsimp only
      split
      · rfl
      · exact ih (i + 1) U
  unfold k_Q_goesOut
  dsimp only
  split
  · rfl
  · split
    · rfl
    · exact key 64 0 _
/-- the class' choice of a frame, with the going out of whoever lies there -/
def k_ch (r : Int32 × kw_S) : kw_S := if r.2.2 5 0 r.1.toNatClampNeg < 32 then k_M_goOut r.2 (r.2.2 5 0 r.1.toNatClampNeg) else r.2
/-- what a choice of a frame must be on both sides -/
def r_Ch (c : Nat → Nat) (S : kw_S) (a : Int32 × kw_S) (b : Int32 × qw_S) : Prop := ∃ f, f < 6 ∧ a.1 = nI f ∧ b.1 = nI f ∧ r_M c (k_ch a) b.2 ∧ ¬ (k_ch a).2 5 0 f < 32 ∧ ∀ e, ¬ S.2 10 e 0 < 6 → ¬ (k_ch a).2 10 e 0 < 6
theorem r_done {c : Nat → Nat} {S : kw_S} {T : qw_S} (h : r_M c S T) (hx6 : S.2 2 0 0 % 6 < 6) (hx : S.2 5 0 (S.2 2 0 0 % 6) < 32) (hin : k_Q_inFrame T (nI (T.2 0 0 1 % 6)) = nI (S.2 5 0 (S.2 2 0 0 % 6))) (hus : T.1 11 0 (S.2 5 0 (S.2 2 0 0 % 6)) = 0) (i n : Nat) : p_Q_freeFrame_L24 (n + 1) T ∧ r_Ch c S (k_M_chooseFrame_J80 S) (k_Q_freeFrame_L24 (n + 1) T) := by
  have hh : T.2 0 0 1 % 6 = S.2 2 0 0 % 6 := h.2.2.2.1.symm
  have hcl : (nI (S.2 5 0 (S.2 2 0 0 % 6))).toNatClampNeg = S.2 5 0 (S.2 2 0 0 % 6) := nI_clamp (by omega)
  have hfr := h.2.2.1.2.1 _ hx6 hx
  have hgo := r_goOut h hx hfr hx6
  constructor
  · unfold p_Q_freeFrame_L24
    dsimp only
    rw [hin, hcl, if_pos hus]
    exact ⟨in_nI (by omega) (by decide), in_nI (by omega) (by decide), hgo.2, trivial⟩
  · have e : k_Q_freeFrame_L24 (n + 1) T = (nI (T.2 0 0 1 % 6), qw_sn (k_Q_goesOut T (S.2 5 0 (S.2 2 0 0 % 6))) 0 0 1 ((T.2 0 0 1 % 6 + 1) % 6)) := by
      unfold k_Q_freeFrame_L24
      dsimp only
      rw [hin, hcl, if_pos hus, q_go2]
    rw [e, hh, ← q_go_sn]
    have hcl2 : (nI (S.2 2 0 0 % 6)).toNatClampNeg = S.2 2 0 0 % 6 := nI_clamp (by omega)
    have k5 : (kw_sn S 2 0 0 ((S.2 2 0 0 % 6 + 1) % 6)).2 5 = S.2 5 := kw_sn_nc (by decide)
    have k10 : (kw_sn S 2 0 0 ((S.2 2 0 0 % 6 + 1) % 6)).2 10 = S.2 10 := kw_sn_nc (by decide)
    have ek : k_ch (k_M_chooseFrame_J80 S) = k_M_goOut (kw_sn S 2 0 0 ((S.2 2 0 0 % 6 + 1) % 6)) (S.2 5 0 (S.2 2 0 0 % 6)) := by
      unfold k_ch k_M_chooseFrame_J80
      dsimp only
      rw [hcl2, k5, if_pos hx]
    have hfr2 : (kw_sn S 2 0 0 ((S.2 2 0 0 % 6 + 1) % 6)).2 10 (S.2 5 0 (S.2 2 0 0 % 6)) 0 = S.2 2 0 0 % 6 := by rw [k10]; exact hfr
    refine ⟨S.2 2 0 0 % 6, hx6, rfl, rfl, ?_, ?_, fun e he => ?_⟩
    · rw [ek]
      exact (r_goOut (u_hand h) hx hfr2 hx6).1
    · rw [ek, kq_goOut5 hfr2]
      dsimp only
      rw [if_pos rfl]
      decide
    · rw [ek, kq_goOut10, k10]
      by_cases h1 : e = S.2 5 0 (S.2 2 0 0 % 6)
      · rw [if_pos h1]
        decide
      · rw [if_neg h1]
        exact he
theorem r_m0 {h : Nat} (hh : h < 6) : ((h + 1) % 6 % 6 + 5 - 0) % 6 = h := by omega
theorem r_m1 {h m : Nat} (hh : h < 6) (h1 : ¬ m = 0) (h2 : m < 6) : ((h + 1) % 6 % 6 + 5 - m) % 6 = (h + 5 - (m - 1)) % 6 := by omega
theorem r_clock {c : Nat → Nat} : ∀ n, n ≤ 6 → ∀ i (S : kw_S) (T : qw_S), r_M c S T → (∀ f, f < 6 → S.2 5 0 f < 32) → (∀ m, m < 6 - n → S.1 10 (S.2 5 0 ((S.2 2 0 0 % 6 + 5 - m) % 6)) 1 = 0) → p_Q_freeFrame_L24 (n + 1) T ∧ r_Ch c S (k_M_chooseFrame_L27 n i S) (k_Q_freeFrame_L24 (n + 1) T) := by
  intro n
  induction n with
  | zero =>
    intro _ i S T h hall hcl
    have hh : T.2 0 0 1 % 6 = S.2 2 0 0 % 6 := h.2.2.2.1.symm
    have hx6 : S.2 2 0 0 % 6 < 6 := Nat.mod_lt _ (by decide)
    have hx := hall _ hx6
    have hin : k_Q_inFrame T (nI (T.2 0 0 1 % 6)) = nI (S.2 5 0 (S.2 2 0 0 % 6)) := by rw [hh, r_inFrame h hx6, if_pos hx]
    have hus : T.1 11 0 (S.2 5 0 (S.2 2 0 0 % 6)) = 0 := by
      rw [← (h.2.1 _ hx (r_inF h hx6 hx)).1]
      have := hcl 5 (by decide)
      rw [show (S.2 2 0 0 % 6 + 5 - 5) % 6 = S.2 2 0 0 % 6 by omega] at this
      exact this
    exact r_done h hx6 hx hin hus i 0
  | succ n ih =>
    intro hn i S T h hall hcl
    have hh : T.2 0 0 1 % 6 = S.2 2 0 0 % 6 := h.2.2.2.1.symm
    have hx6 : S.2 2 0 0 % 6 < 6 := Nat.mod_lt _ (by decide)
    have hx := hall _ hx6
    have hin : k_Q_inFrame T (nI (T.2 0 0 1 % 6)) = nI (S.2 5 0 (S.2 2 0 0 % 6)) := by rw [hh, r_inFrame h hx6, if_pos hx]
    have hu1 := (h.2.1 _ hx (r_inF h hx6 hx)).1
    by_cases hus : S.1 10 (S.2 5 0 (S.2 2 0 0 % 6)) 1 = 0
    · have := r_done h hx6 hx hin (hu1.symm.trans hus) i (n + 1)
      refine ⟨this.1, ?_⟩
      have e : k_M_chooseFrame_L27 (n + 1) i S = k_M_chooseFrame_J80 S := if_pos hus
      rw [e]
      exact this.2
    · have husT : ¬ T.1 11 0 (S.2 5 0 (S.2 2 0 0 % 6)) = 0 := fun q => hus (hu1.trans q)
      have hcn : (nI (S.2 5 0 (S.2 2 0 0 % 6))).toNatClampNeg = S.2 5 0 (S.2 2 0 0 % 6) := nI_clamp (by omega)
      have ek : k_M_chooseFrame_L27 (n + 1) i S = k_M_chooseFrame_L27 n (i + 1) (kw_sn (kw_si S 10 (S.2 5 0 (S.2 2 0 0 % 6)) 1 (0 : Int32)) 2 0 0 ((S.2 2 0 0 % 6 + 1) % 6)) := if_neg hus
      have et : k_Q_freeFrame_L24 (n + 1 + 1) T = k_Q_freeFrame_L24 (n + 1) (qw_sn (qw_si T 11 0 (S.2 5 0 (S.2 2 0 0 % 6)) (0 : Int32)) 0 0 1 ((S.2 2 0 0 % 6 + 1) % 6)) := by
        have e1 : k_Q_freeFrame_L24 (n + 1 + 1) T = (if T.1 11 0 (k_Q_inFrame T (nI (T.2 0 0 1 % 6))).toNatClampNeg = 0 then _ else k_Q_freeFrame_L24 (n + 1) (qw_sn (qw_si T 11 0 (k_Q_inFrame T (nI (T.2 0 0 1 % 6))).toNatClampNeg (0 : Int32)) 0 0 1 ((T.2 0 0 1 % 6 + 1) % 6))) := rfl
        rw [e1, hin, hcn, if_neg husT, hh]
      have ep : p_Q_freeFrame_L24 (n + 1) (qw_sn (qw_si T 11 0 (S.2 5 0 (S.2 2 0 0 % 6)) (0 : Int32)) 0 0 1 ((S.2 2 0 0 % 6 + 1) % 6)) → p_Q_freeFrame_L24 (n + 1 + 1) T := by
        intro hp
        have e1 : p_Q_freeFrame_L24 (n + 1 + 1) T = (in_ (k_Q_inFrame T (nI (T.2 0 0 1 % 6))) 34 ∧ (if T.1 11 0 (k_Q_inFrame T (nI (T.2 0 0 1 % 6))).toNatClampNeg = 0 then _ else (in_ (k_Q_inFrame T (nI (T.2 0 0 1 % 6))) 34 ∧ p_Q_freeFrame_L24 (n + 1) (qw_sn (qw_si T 11 0 (k_Q_inFrame T (nI (T.2 0 0 1 % 6))).toNatClampNeg (0 : Int32)) 0 0 1 ((T.2 0 0 1 % 6 + 1) % 6))))) := rfl
        rw [e1, hin, hcn, if_neg husT, hh]
        exact ⟨in_nI (by omega) (by decide), in_nI (by omega) (by decide), hp⟩
      have k5 : (kw_sn (kw_si S 10 (S.2 5 0 (S.2 2 0 0 % 6)) 1 (0 : Int32)) 2 0 0 ((S.2 2 0 0 % 6 + 1) % 6)).2 5 = S.2 5 := kw_sn_nc (by decide)
      have k10 : (kw_sn (kw_si S 10 (S.2 5 0 (S.2 2 0 0 % 6)) 1 (0 : Int32)) 2 0 0 ((S.2 2 0 0 % 6 + 1) % 6)).2 10 = S.2 10 := kw_sn_nc (by decide)
      have k2 : (kw_sn (kw_si S 10 (S.2 5 0 (S.2 2 0 0 % 6)) 1 (0 : Int32)) 2 0 0 ((S.2 2 0 0 % 6 + 1) % 6)).2 2 0 0 = (S.2 2 0 0 % 6 + 1) % 6 := by rw [kw_sn_at, if_pos ⟨rfl, rfl, rfl⟩]
      have kk : ∀ a, (kw_sn (kw_si S 10 (S.2 5 0 (S.2 2 0 0 % 6)) 1 (0 : Int32)) 2 0 0 ((S.2 2 0 0 % 6 + 1) % 6)).1 10 a 1 = if a = S.2 5 0 (S.2 2 0 0 % 6) then 0 else S.1 10 a 1 := by
        intro a
        show (kw_si S 10 (S.2 5 0 (S.2 2 0 0 % 6)) 1 (0 : Int32)).1 10 a 1 = _
        rw [kw_si_at]
        by_cases q : a = S.2 5 0 (S.2 2 0 0 % 6)
        · rw [if_pos ⟨rfl, q, rfl⟩, if_pos q]
        · rw [if_neg (fun z => q z.2.1), if_neg q]
      have hr := ih (by omega) (i + 1) _ _ (u_hand (x := (S.2 2 0 0 % 6 + 1) % 6) (u_us (e := S.2 5 0 (S.2 2 0 0 % 6)) (v := (0 : Int32)) h)) (by rw [k5]; exact hall) (fun m hm => by
        rw [k5, k2, kk]
        by_cases q : S.2 5 0 (((S.2 2 0 0 % 6 + 1) % 6 % 6 + 5 - m) % 6) = S.2 5 0 (S.2 2 0 0 % 6)
        · rw [if_pos q]
        · rw [if_neg q]
          by_cases m0 : m = 0
          · exfalso
            apply q
            rw [m0, r_m0 hx6]
          · rw [r_m1 hx6 m0 (by omega)]
            exact hcl (m - 1) (by omega))
      rw [ek, et]
      refine ⟨ep hr.1, ?_⟩
      obtain ⟨f, f1, f2, f3, f4, f5, f6⟩ := hr.2
      exact ⟨f, f1, f2, f3, f4, f5, fun e he => f6 e (by rw [k10]; exact he)⟩
