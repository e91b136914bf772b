/-- the pages of the processes -/
def r_pg (S : kw_S) (T : qw_S) : Prop := ∀ p k, p < 4 → k < 8 → (S.2 9 p k < 32 ∧ T.2 9 0 (8 * p + k) = S.2 9 p k) ∨ (¬ S.2 9 p k < 32 ∧ ¬ T.2 9 0 (8 * p + k) < 34)
def r_c (T : qw_S) : Nat → Nat := fun i => if i < 32 then r_cnt (T.2 9 0) i 32 else 0
theorem r_c_in {T : qw_S} {i : Nat} (h : i < 32) : r_c T i = r_cnt (T.2 9 0) i 32 := if_pos h
theorem r_c_out {T : qw_S} {i : Nat} (h : ¬ i < 32) : r_c T i = 0 := if_neg h
def r_fa (S : kw_S) (T : qw_S) : Prop := ∀ q, q < 4 → S.1 7 q 4 = T.1 6 0 q
/-- memory, pages and faults -/
def r_P (S : kw_S) (T : qw_S) : Prop := r_M (r_c T) S T ∧ r_Z (fun i => i < 32 ∧ r_c T i = 0) S ∧ r_pg S T ∧ r_fa S T
theorem r_c_of {T U : qw_S} (h : U.2 9 = T.2 9) : r_c U = r_c T := by
  unfold r_c
  rw [h]
theorem r_pg_of {S U : kw_S} {T V : qw_S} (h : r_pg S T) (h1 : U.2 9 = S.2 9) (h2 : V.2 9 = T.2 9) : r_pg U V := by
  intro p k hp hk
  rw [h1, h2]
  exact h p k hp hk
theorem r_P_of {U : kw_S} {T V : qw_S} (hc : V.2 9 = T.2 9) (h1 : r_M (r_c T) U V) (h2 : r_Z (fun i => i < 32 ∧ r_c T i = 0) U) (h3 : r_pg U V) (h4 : r_fa U V) : r_P U V := by
  unfold r_P
  rw [r_c_of hc]
  exact ⟨h1, h2, h3, h4⟩
theorem r_pc {S : kw_S} {T : qw_S} (h : r_pg S T) {p k : Nat} (hp : p < 4) (hk : k < 8) (hx : S.2 9 p k < 32) : T.2 9 0 (8 * p + k) = S.2 9 p k ∧ r_c T (S.2 9 p k) ≠ 0 := by
  rcases h p k hp hk with h1 | h1
  · exact ⟨h1.2, by rw [r_c_in hx]; exact r_cnt_ge 32 (j := 8 * p + k) (by omega) h1.2⟩
  · exact absurd hx h1.1
theorem n_m2 {x : Nat} (h : x < 64) : ¬ nI x = -2 := by
  intro q
  have h1 := congrArg Int32.toInt q
  rw [nI_toInt (by omega)] at h1
  have h2 : ((-2 : Int32)).toInt = -2 := by decide
  rw [h2] at h1
  omega
theorem kw_fr2 {x : Nat} : kw_fr x = -2 ↔ ¬ x < 6 := by
  unfold kw_fr
  by_cases h : x < 6
  · rw [if_pos h]
    exact ⟨fun q => absurd q (n_m2 (by omega)), fun q => absurd h q⟩
  · rw [if_neg h]
    exact ⟨fun _ => h, fun _ => rfl⟩
theorem kw_sl2 {x : Nat} : kw_sl x = -2 ↔ ¬ x < 32 := by
  unfold kw_sl
  by_cases h : x < 32
  · rw [if_pos h]
    exact ⟨fun q => absurd q (n_m2 (by omega)), fun q => absurd h q⟩
  · rw [if_neg h]
    exact ⟨fun _ => h, fun _ => rfl⟩
/-- what reaching a word of process p leaves as it was -/
def g_K (p : Nat) (S U : kw_S) : Prop := (∀ a, a ≠ 2 → a ≠ 7 → a ≠ 10 → a ≠ 11 → U.1 a = S.1 a) ∧ (∀ i j, ¬ (i = p ∧ j = 4) → U.1 7 i j = S.1 7 i j) ∧ (∀ a, a ≠ 2 → a ≠ 5 → a ≠ 6 → a ≠ 9 → a ≠ 10 → U.2 a = S.2 a) ∧ ∀ q, q ≠ p → U.2 9 q = S.2 9 q
def g_Q (p : Nat) (T U : qw_S) : Prop := (∀ a, a < 10 ∨ a = 16 → a ≠ 6 → U.1 a = T.1 a) ∧ (∀ j, j < 7 ∨ 10 < j → U.1 17 0 j = T.1 17 0 j) ∧ (∀ a, a ≠ 0 → a ≠ 9 → U.2 a = T.2 a) ∧ ∀ j, j ≠ 1 → U.2 0 0 j = T.2 0 0 j
theorem g_K_r {p : Nat} {S : kw_S} : g_K p S S := ⟨fun _ _ _ _ _ => rfl, fun _ _ _ => rfl, fun _ _ _ _ _ _ => rfl, fun _ _ => rfl⟩
theorem g_K_t {p : Nat} {S U V : kw_S} (h1 : g_K p S U) (h2 : g_K p U V) : g_K p S V := ⟨fun a a1 a2 a3 a4 => (h2.1 a a1 a2 a3 a4).trans (h1.1 a a1 a2 a3 a4), fun i j h => (h2.2.1 i j h).trans (h1.2.1 i j h), fun a a1 a2 a3 a4 a5 => (h2.2.2.1 a a1 a2 a3 a4 a5).trans (h1.2.2.1 a a1 a2 a3 a4 a5), fun q hq => (h2.2.2.2 q hq).trans (h1.2.2.2 q hq)⟩
theorem g_Q_r {p : Nat} {S : qw_S} : g_Q p S S := ⟨fun _ _ _ => rfl, fun _ _ => rfl, fun _ _ _ => rfl, fun _ _ => rfl⟩
theorem g_Q_t {p : Nat} {S U V : qw_S} (h1 : g_Q p S U) (h2 : g_Q p U V) : g_Q p S V := ⟨fun a a1 a2 => (h2.1 a a1 a2).trans (h1.1 a a1 a2), fun j h => (h2.2.1 j h).trans (h1.2.1 j h), fun a a1 a2 => (h2.2.2.1 a a1 a2).trans (h1.2.2.1 a a1 a2), fun a a1 => (h2.2.2.2 a a1).trans (h1.2.2.2 a a1)⟩
theorem g_K_f {p : Nat} {S U : kw_S} (h : f_K S U) : g_K p S U := ⟨fun a a1 _ a3 _ => h.1 a a1 a3, fun i j _ => by rw [h.1 7 (by decide) (by decide)], fun a a1 a2 a3 _ a5 => h.2 a a1 a2 a3 a5, fun q _ => by rw [h.2 9 (by decide) (by decide) (by decide) (by decide)]⟩
theorem g_Q_f {p : Nat} {S U : qw_S} (h : f_Q S U) : g_Q p S U := ⟨fun a a1 a2 => h.1 a (by omega), h.2.1, fun a a1 _ => h.2.2.1 a a1, h.2.2.2⟩
theorem g_K_i {p k i j : Nat} {v : Int32} {S U : kw_S} (h : g_K p S U) (hk : k = 2 ∨ k = 10 ∨ k = 11) : g_K p S (kw_si U k i j v) := g_K_t h ⟨fun a a1 a2 a3 a4 => kw_si_nc (by omega), fun a b _ => by rw [kw_si_nc (by omega)], fun a _ _ _ _ _ => rfl, fun _ _ => rfl⟩
theorem g_K_7 {p : Nat} {v : Int32} {S U : kw_S} (h : g_K p S U) : g_K p S (kw_si U 7 p 4 v) := g_K_t h ⟨fun a a1 a2 a3 a4 => kw_si_nc a2, fun a b g => by rw [kw_si_at, if_neg (fun z => g z.2)], fun a _ _ _ _ _ => rfl, fun _ _ => rfl⟩
theorem g_K_9 {p j v : Nat} {S U : kw_S} (h : g_K p S U) : g_K p S (kw_sn U 9 p j v) := g_K_t h ⟨fun a a1 a2 a3 a4 => rfl, fun a b g => rfl, fun a _ _ _ a4 _ => kw_sn_nc a4, fun q hq => kw_sn_ne (fun z => hq z.2)⟩
theorem g_K_r11 {p i : Nat} {f : Nat → Int32} {S U : kw_S} (h : g_K p S U) : g_K p S (kw_sr U 11 i f) := g_K_t h ⟨fun a a1 a2 a3 a4 => kw_sr_nc a4, fun a b _ => by rw [kw_sr_nc (by decide)], fun a _ _ _ _ _ => rfl, fun _ _ => rfl⟩
theorem g_Q_i {p k i j : Nat} {v : Int32} {S U : qw_S} (h : g_Q p S U) (hk : k = 6 ∨ (9 < k ∧ k < 16)) : g_Q p S (qw_si U k i j v) := g_Q_t h ⟨fun a a1 a2 => qw_si_nc (by omega), fun a _ => by rw [qw_si_nc (by omega)], fun a _ _ => rfl, fun a _ => rfl⟩
theorem g_Q_c {p j : Nat} {v : Int32} {S U : qw_S} (h : g_Q p S U) (hk : 6 < j ∧ j < 11) : g_Q p S (qw_si U 17 0 j v) := g_Q_t h ⟨fun a a1 a2 => qw_si_nc (by omega), fun k hk2 => by rw [qw_si_at, if_neg (fun z => by have := z.2.2; omega)], fun a _ _ => rfl, fun a _ => rfl⟩
theorem g_Q_9 {p i j v : Nat} {S U : qw_S} (h : g_Q p S U) : g_Q p S (qw_sn U 9 i j v) := g_Q_t h ⟨fun a a1 a2 => rfl, fun a _ => rfl, fun a _ a2 => qw_sn_nc a2, fun a _ => by rw [qw_sn_nc (by decide)]⟩
theorem r_fa_of {S U : kw_S} {T V : qw_S} (h : r_fa S T) (h1 : U.1 7 = S.1 7) (h2 : V.1 6 = T.1 6) : r_fa U V := by
  intro q hq
  rw [h1, h2]
  exact h q hq
theorem r_fa_1 {S : kw_S} {T : qw_S} {p : Nat} (h : r_fa S T) (hp : p < 4) : r_fa (kw_si S 7 p 4 (S.1 7 p 4 + (1 : Int32))) (qw_si T 6 0 p (T.1 6 0 p + (1 : Int32))) := by
  intro q hq
  rw [kw_si_at, qw_si_at]
  by_cases e : q = p
  · rw [if_pos ⟨rfl, e, rfl⟩, if_pos ⟨rfl, rfl, e⟩, h p hp]
  · rw [if_neg (fun z => e z.2.1), if_neg (fun z => e z.2.2)]
    exact h q hq
/-- the class' bringing of a sheet -/
def k_br (S0 : kw_S) (p x : Nat) : kw_S :=
  if (kw_fr (S0.2 10 x 0)) = (-2 : Int32) then
    let S3 := kw_si S0 7 p 4 ((S0.1 7 p 4) + (1 : Int32))
    let S4 := kw_si S3 2 0 0 ((S3.1 2 0 0) + (1 : Int32))
    if (kw_sl (S4.2 10 x 1)) = (-2 : Int32) then
      k_M_layInFrame S4 x
    else
      let S7 := kw_si S4 2 0 2 ((S4.1 2 0 2) + (1 : Int32))
      k_M_layInFrame S7 x
  else
    S0
theorem k_J19 {p k : Nat} {w : Int32} {S : kw_S} : k_M_reach_J19 p k w S = k_M_reach_J83 p k w (S.2 9 p k) (k_br S p (S.2 9 p k)) := by
  unfold k_M_reach_J19 k_br
  dsimp only
  split
  · split <;> rfl
  · rfl
theorem r_layP {S : kw_S} {T : qw_S} {x : Nat} (h : r_P S T) (hx : x < 32) (hc : r_c T x ≠ 0) (hf : ¬ S.2 10 x 0 < 6) : p_Q_bring_J55 x T ∧ r_P (k_M_layInFrame S x) (k_Q_bring_J55 x T) := by
  have hl := r_layIn h.1 hx hc hf
  have fK : f_K S (k_M_layInFrame S x) := f_K_layIn f_K_r
  have fQ : f_Q T (k_Q_bring_J55 x T) := f_Q_J55 f_Q_r
  have e9 : (k_Q_bring_J55 x T).2 9 = T.2 9 := fQ.2.2.1 9 (by decide)
  refine ⟨hl.1, r_P_of e9 hl.2 (z_layIn h.2.1) (r_pg_of h.2.2.1 (fK.2 9 (by decide) (by decide) (by decide) (by decide)) e9) (r_fa_of h.2.2.2 (fK.1 7 (by decide) (by decide)) (fQ.1 6 (by decide)))⟩
/-- bringing a sheet, on both sides -/
theorem r_bring {S : kw_S} {T : qw_S} {p x : Nat} (h : r_P S T) (hp : p < 4) (hx : x < 32) (hc : r_c T x ≠ 0) : p_Q_bring T p x 0 ∧ r_P (k_br S p x) (k_Q_bring T p x 0) ∧ g_K p S (k_br S p x) ∧ g_Q p T (k_Q_bring T p x 0) ∧ (k_br S p x).2 9 = S.2 9 ∧ (k_Q_bring T p x 0).2 9 = T.2 9 := by
  obtain ⟨a1, a2, a3, a4, a5⟩ := h.1.2.1 x hx hc
  unfold k_br k_Q_bring p_Q_bring
  dsimp only
  by_cases g : S.2 10 x 0 < 6
  · have gT : ¬ T.1 13 0 x < 0 := fun q => (r_fr_neg a3).mp q g
    rw [if_neg (fun q => kw_fr2.mp q g), if_neg gT, if_neg gT]
    exact ⟨trivial, h, g_K_r, g_Q_r, rfl, rfl⟩
  · have gT : T.1 13 0 x < 0 := (r_fr_neg a3).mpr g
    rw [if_pos (kw_fr2.mpr g), if_pos gT, if_pos gT, if_pos rfl, if_pos rfl]
    have h4 : r_P (kw_si (kw_si S 7 p 4 (S.1 7 p 4 + (1 : Int32))) 2 0 0 ((kw_si S 7 p 4 (S.1 7 p 4 + (1 : Int32))).1 2 0 0 + (1 : Int32))) (qw_si (qw_si T 17 0 7 (T.1 17 0 7 + (1 : Int32))) 6 0 p ((qw_si T 17 0 7 (T.1 17 0 7 + (1 : Int32))).1 6 0 p + (1 : Int32))) := by
      refine r_P_of (T := T) rfl (u_q (u_ct (u_k h.1 (by decide) (by decide) (by decide)) 0 (by decide)) (by decide)) (z_k (z_k h.2.1 (by decide)) (by decide)) (r_pg_of h.2.2.1 rfl rfl) ?_
      have e : qw_si (qw_si T 17 0 7 (T.1 17 0 7 + (1 : Int32))) 6 0 p ((qw_si T 17 0 7 (T.1 17 0 7 + (1 : Int32))).1 6 0 p + (1 : Int32)) = qw_si (qw_si T 6 0 p (T.1 6 0 p + (1 : Int32))) 17 0 7 (T.1 17 0 7 + (1 : Int32)) := qw_si_comm (by decide)
      rw [e]
      exact r_fa_of (r_fa_1 h.2.2.2 hp) (kw_si_nc (by decide)) (qw_si_nc (by decide))
    have k4 := g_K_i (k := 2) (i := 0) (j := 0) (v := (kw_si S 7 p 4 (S.1 7 p 4 + (1 : Int32))).1 2 0 0 + (1 : Int32)) (g_K_7 (p := p) (v := S.1 7 p 4 + (1 : Int32)) (g_K_r (p := p) (S := S))) (by omega)
    have q4 := g_Q_i (k := 6) (i := 0) (j := p) (v := (qw_si T 17 0 7 (T.1 17 0 7 + (1 : Int32))).1 6 0 p + (1 : Int32)) (g_Q_c (p := p) (j := 7) (v := T.1 17 0 7 + (1 : Int32)) (g_Q_r (p := p) (S := T)) (by omega)) (by omega)
    have e14 : (qw_si (qw_si T 17 0 7 (T.1 17 0 7 + (1 : Int32))) 6 0 p ((qw_si T 17 0 7 (T.1 17 0 7 + (1 : Int32))).1 6 0 p + (1 : Int32))).1 14 0 x = T.1 14 0 x := by rw [qw_si_nc (by decide), qw_si_nc (by decide)]
    rw [e14]
    have hf4 : ¬ (kw_si (kw_si S 7 p 4 (S.1 7 p 4 + (1 : Int32))) 2 0 0 ((kw_si S 7 p 4 (S.1 7 p 4 + (1 : Int32))).1 2 0 0 + (1 : Int32))).2 10 x 0 < 6 := g
    have hs4 : (kw_si (kw_si S 7 p 4 (S.1 7 p 4 + (1 : Int32))) 2 0 0 ((kw_si S 7 p 4 (S.1 7 p 4 + (1 : Int32))).1 2 0 0 + (1 : Int32))).2 = S.2 := rfl
    have ht4 : (qw_si (qw_si T 17 0 7 (T.1 17 0 7 + (1 : Int32))) 6 0 p ((qw_si T 17 0 7 (T.1 17 0 7 + (1 : Int32))).1 6 0 p + (1 : Int32))).2 = T.2 := rfl
    generalize (kw_si (kw_si S 7 p 4 (S.1 7 p 4 + (1 : Int32))) 2 0 0 ((kw_si S 7 p 4 (S.1 7 p 4 + (1 : Int32))).1 2 0 0 + (1 : Int32))) = S4 at *
    generalize (qw_si (qw_si T 17 0 7 (T.1 17 0 7 + (1 : Int32))) 6 0 p ((qw_si T 17 0 7 (T.1 17 0 7 + (1 : Int32))).1 6 0 p + (1 : Int32))) = T4 at *
    have hc4 : r_c T4 x ≠ 0 := by rw [r_c_of (congrFun ht4 9)]; exact hc
    by_cases gs : S.2 10 x 1 < 32
    · have gsT : ¬ T.1 14 0 x < 0 := fun q => (r_sl_neg a4).mp q gs
      rw [if_neg (fun q => kw_sl2.mp q (by rw [hs4]; exact gs)), if_neg gsT, if_neg gsT]
      have h7 : r_P (kw_si S4 2 0 2 (S4.1 2 0 2 + (1 : Int32))) (qw_si T4 17 0 9 (T4.1 17 0 9 + (1 : Int32))) := r_P_of (T := T4) rfl (u_ct h4.1 2 (by decide)) (z_k h4.2.1 (by decide)) (r_pg_of h4.2.2.1 rfl rfl) (r_fa_of h4.2.2.2 (kw_si_nc (by decide)) (qw_si_nc (by decide)))
      have hl := r_layP h7 hx hc4 hf4
      have fK : f_K S4 (k_M_layInFrame (kw_si S4 2 0 2 (S4.1 2 0 2 + (1 : Int32))) x) := f_K_layIn (f_K_i f_K_r (by omega))
      have fQ : f_Q T4 (k_Q_bring_J55 x (qw_si T4 17 0 9 (T4.1 17 0 9 + (1 : Int32)))) := f_Q_J55 (f_Q_c f_Q_r (by omega))
      exact ⟨hl.1, hl.2, g_K_t k4 (g_K_f fK), g_Q_t q4 (g_Q_f fQ), (fK.2 9 (by decide) (by decide) (by decide) (by decide)).trans (congrFun hs4 9), (fQ.2.2.1 9 (by decide)).trans (congrFun ht4 9)⟩
    · have gsT : T.1 14 0 x < 0 := (r_sl_neg a4).mpr gs
      rw [if_pos (kw_sl2.mpr (by rw [hs4]; exact gs)), if_pos gsT, if_pos gsT]
      have hl := r_layP h4 hx hc4 hf4
      have fK : f_K S4 (k_M_layInFrame S4 x) := f_K_layIn f_K_r
      have fQ : f_Q T4 (k_Q_bring_J55 x T4) := f_Q_J55 f_Q_r
      exact ⟨hl.1, hl.2, g_K_t k4 (g_K_f fK), g_Q_t q4 (g_Q_f fQ), (fK.2 9 (by decide) (by decide) (by decide) (by decide)).trans (congrFun hs4 9), (fQ.2.2.1 9 (by decide)).trans (congrFun ht4 9)⟩
