theorem i_min10 {w : Int32} {j : Nat} (e : w - 10 = nI j) : w = nI (j + 10) := by
  have h : w = nI j + 10 := by
    rw [← e]
    exact (Int32.sub_add_cancel w 10).symm
  rw [h]
  exact nI_add j 10
/-- process of a process that is absent, on both sides -/
theorem r_process0 {B : Nat} {S : kw_S} {T : qw_S} (h : r_R B S T) (h0 : ∀ q, q < 4 → S.1 7 q 0 = 0) (p w : Int32) : k_K_process S p w = k_Q_process T p w := by
  by_cases gp : k_Q_in p 4 = 0
  · have e2 : k_Q_process T p w = -1 := if_pos gp
    have e3 : ∀ g, k_K_process_J18 p w g S = -1 := fun g => if_pos gp
    have e1 : k_K_process S p w = -1 := by
      unfold k_K_process
      rw [e3, e3, ite_self, ite_self]
    rw [e1, e2]
  · obtain ⟨q, hq, rfl⟩ := in_of (N := 4) (by decide) gp
    have hs : S.1 7 q 0 = 0 := h0 q hq
    have ht : T.1 1 0 q = 0 := (h.2.1 q hq).1.symm.trans hs
    have e3 : ∀ g, k_K_process_J18 (nI q) w g S = if w < 0 then -1 else if w ≤ 6 then 0 else if g = 0 then -1 else 0 := fun g => by
      have gp2 : ¬ k_K_isTask (nI q) = 0 := gp
      unfold k_K_process_J18
      dsimp only
      rw [if_neg gp2, nI_clamp (by omega), hs, if_pos rfl]
    have e4 : k_Q_process_J30 (nI q) w T = 0 := by
      unfold k_Q_process_J30
      rw [nI_clamp (by omega), if_pos ht]
    have e2 : k_Q_process T (nI q) w = if k_Q_in w 7 = 0 then (if k_Q_in (w - 10) 4 = 0 then -1 else 0) else 0 := by
      unfold k_Q_process
      dsimp only
      rw [if_neg gp, e4]
    rw [e2]
    unfold k_K_process
    rw [e3, e3]
    by_cases w1 : w < 0
    · have a1 : k_Q_in w 7 = 0 := if_pos w1
      have a2 : k_Q_in (w - 10) 4 = 0 := by
        apply Classical.byContradiction
        intro z
        obtain ⟨j, hj, e⟩ := in_of (N := 4) (by decide) z
        rw [i_min10 e] at w1
        exact nI_pos (by omega) w1
      rw [if_pos w1, if_pos w1, ite_self, ite_self, if_pos a1, if_pos a2]
    · obtain ⟨v, hv, rfl⟩ := nI_of w1
      rw [if_neg w1, if_neg w1]
      by_cases w2 : v ≤ 6
      · have b1 : nI v ≤ (6 : Int32) := nI_le (b := 6) w2 (by decide)
        have a1 : ¬ k_Q_in (nI v) 7 = 0 := by
          rw [show (7 : Int32) = nI 7 from rfl, in_yes (by omega) (by decide)]
          decide
        rw [if_pos b1, if_pos b1, ite_self, ite_self, if_neg a1]
      · have b1 : ¬ nI v ≤ (6 : Int32) := nI_ge (a := 6) (by omega) hv
        have a1 : k_Q_in (nI v) 7 = 0 := by
          unfold k_Q_in
          rw [if_neg w1, if_pos (show (7 : Int32) ≤ nI v from nI_le (a := 7) (by omega) hv)]
        rw [if_neg b1, if_neg b1, if_pos a1, if_pos rfl, if_neg (show ¬ (1 : Int32) = 0 by decide)]
        by_cases w3 : v < 10
        · have c1 : nI v < (10 : Int32) := nI_lt (b := 10) w3 (by decide)
          have a2 : k_Q_in (nI v - 10) 4 = 0 := by
            apply Classical.byContradiction
            intro z
            obtain ⟨j, hj, e⟩ := in_of (N := 4) (by decide) z
            have e5 := i_min10 e
            rw [nI_eq hv (by omega)] at e5
            omega
          rw [if_pos c1, if_pos a2]
        · have c1 : ¬ nI v < (10 : Int32) := nI_nlt (b := 10) (by omega) hv
          rw [if_neg c1]
          by_cases w4 : 14 ≤ v
          · have c2 : (14 : Int32) ≤ nI v := nI_le (a := 14) w4 hv
            have a2 : k_Q_in (nI v - 10) 4 = 0 := by
              apply Classical.byContradiction
              intro z
              obtain ⟨j, hj, e⟩ := in_of (N := 4) (by decide) z
              have e5 := i_min10 e
              rw [nI_eq hv (by omega)] at e5
              omega
            rw [if_pos c2, if_pos a2]
          · have c2 : ¬ (14 : Int32) ≤ nI v := nI_ge (b := 14) (by omega) (by decide)
            have a2 : ¬ k_Q_in (nI v - 10) 4 = 0 := by
              obtain ⟨j, rfl⟩ : ∃ j, v = j + 10 := ⟨v - 10, by omega⟩
              have e5 : nI (j + 10) - 10 = nI j := by
                rw [← nI_add]
                exact Int32.add_sub_cancel _ _
              rw [e5, show (4 : Int32) = nI 4 from rfl, in_yes (by omega) (by decide)]
              decide
            rw [if_neg c2, if_neg a2]
