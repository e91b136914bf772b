def kw_pa (x : Nat) : Int32 := if x < 4 then nI x else -2
def kw_fr (x : Nat) : Int32 := if x < 6 then nI x else -2
def kw_sl (x : Nat) : Int32 := if x < 32 then nI x else -2
abbrev kw_ty (cI cT cS : ClassId) : List (ClassId × FieldType) := [(cI, .int), (cT, .object "SheetKernel$Task"), (cS, .object "SheetKernel$Sheet")]
abbrev kw_S : Type := (Nat → Nat → Nat → Int32) × (Nat → Nat → Nat → Nat)
def kw_si (S : kw_S) (c i j : Nat) (v : Int32) : kw_S := (fun a b => if a = c ∧ b = i then (fun d => if d = j then v else S.1 a b d) else S.1 a b, S.2)
theorem kw_si_ne {S : kw_S} {c i j : Nat} {v : Int32} {a b : Nat} (h : ¬ (a = c ∧ b = i)) : (kw_si S c i j v).1 a b = S.1 a b := if_neg h
theorem kw_si_eq {S : kw_S} {c i j : Nat} {v : Int32} : (kw_si S c i j v).1 c i = fun d => if d = j then v else S.1 c i d := if_pos ⟨rfl, rfl⟩
theorem kw_si_at {S : kw_S} {c i j : Nat} {v : Int32} {a b d : Nat} : (kw_si S c i j v).1 a b d = if a = c ∧ b = i ∧ d = j then v else S.1 a b d := by
  unfold kw_si
  by_cases h : a = c ∧ b = i
  · simp only [h, and_self, if_true, true_and]
  · simp only [h, if_false]
    rw [if_neg (fun q => h ⟨q.1, q.2.1⟩)]
theorem kw_si_o {S : kw_S} {c i j : Nat} {v : Int32} : (kw_si S c i j v).2 = S.2 := rfl
def kw_sn (S : kw_S) (c i j : Nat) (v : Nat) : kw_S := (S.1, fun a b => if a = c ∧ b = i then (fun d => if d = j then v else S.2 a b d) else S.2 a b)
theorem kw_sn_ne {S : kw_S} {c i j : Nat} {v : Nat} {a b : Nat} (h : ¬ (a = c ∧ b = i)) : (kw_sn S c i j v).2 a b = S.2 a b := if_neg h
theorem kw_sn_eq {S : kw_S} {c i j : Nat} {v : Nat} : (kw_sn S c i j v).2 c i = fun d => if d = j then v else S.2 c i d := if_pos ⟨rfl, rfl⟩
theorem kw_sn_at {S : kw_S} {c i j : Nat} {v : Nat} {a b d : Nat} : (kw_sn S c i j v).2 a b d = if a = c ∧ b = i ∧ d = j then v else S.2 a b d := by
  unfold kw_sn
  by_cases h : a = c ∧ b = i
  · simp only [h, and_self, if_true, true_and]
  · simp only [h, if_false]
    rw [if_neg (fun q => h ⟨q.1, q.2.1⟩)]
theorem kw_sn_o {S : kw_S} {c i j : Nat} {v : Nat} : (kw_sn S c i j v).1 = S.1 := rfl
def kw_sr (S : kw_S) (c i : Nat) (f : Nat → Int32) : kw_S := (fun a b => if a = c ∧ b = i then f else S.1 a b, S.2)
theorem kw_sr_ne {S : kw_S} {c i : Nat} {f : Nat → Int32} {a b : Nat} (h : ¬ (a = c ∧ b = i)) : (kw_sr S c i f).1 a b = S.1 a b := if_neg h
theorem kw_sr_eq {S : kw_S} {c i : Nat} {f : Nat → Int32} : (kw_sr S c i f).1 c i = f := if_pos ⟨rfl, rfl⟩
theorem kw_sr_at {S : kw_S} {c i : Nat} {f : Nat → Int32} {a b d : Nat} : (kw_sr S c i f).1 a b d = if a = c ∧ b = i then f d else S.1 a b d := by
  unfold kw_sr
  by_cases h : a = c ∧ b = i
  · rw [if_pos h]
    exact congrFun (if_pos h) d
  · rw [if_neg h]
    exact congrFun (if_neg h) d
theorem kw_sr_o {S : kw_S} {c i : Nat} {f : Nat → Int32} : (kw_sr S c i f).2 = S.2 := rfl
def kw_co (q : Nat) : Nat := if q < 1 then (0) else if q < 2 then (1) else if q < 3 then (2) else if q < 4 then (4) else if q < 5 then (5) else if q < 6 then (6) else if q < 70 then (if (q - 6) % 2 = 0 then 10 else 11) else if q < 71 then (3) else (if (q - 71) % 3 = 0 then 7 else if (q - 71) % 3 = 1 then 8 else 9)
def kw_ix (q : Nat) : Nat := if q < 1 then q - 0 else if q < 2 then q - 1 else if q < 3 then q - 2 else if q < 4 then q - 3 else if q < 5 then q - 4 else if q < 6 then q - 5 else if q < 70 then (q - 6) / 2 else if q < 71 then q - 70 else (q - 71) / 3
def kw_pl (c i : Nat) : Nat := match c with
  | 0 => 0 + i
  | 1 => 1 + i
  | 2 => 2 + i
  | 3 => 70 + i
  | 4 => 3 + i
  | 5 => 4 + i
  | 6 => 5 + i
  | 7 => (71 + 3 * i)
  | 8 => (72 + 3 * i)
  | 9 => (73 + 3 * i)
  | 10 => (6 + 2 * i)
  | _ => (7 + 2 * i)
theorem kw_plc (q : Nat) : kw_pl (kw_co q) (kw_ix q) = q := by
  unfold kw_co kw_ix
  by_cases h0 : q < 1
  · rw [if_pos h0, if_pos h0]
    show 0 + (q - 0) = q
    omega
  rw [if_neg h0, if_neg h0]
  by_cases h1 : q < 2
  · rw [if_pos h1, if_pos h1]
    show 1 + (q - 1) = q
    omega
  rw [if_neg h1, if_neg h1]
  by_cases h2 : q < 3
  · rw [if_pos h2, if_pos h2]
    show 2 + (q - 2) = q
    omega
  rw [if_neg h2, if_neg h2]
  by_cases h3 : q < 4
  · rw [if_pos h3, if_pos h3]
    show 3 + (q - 3) = q
    omega
  rw [if_neg h3, if_neg h3]
  by_cases h4 : q < 5
  · rw [if_pos h4, if_pos h4]
    show 4 + (q - 4) = q
    omega
  rw [if_neg h4, if_neg h4]
  by_cases h5 : q < 6
  · rw [if_pos h5, if_pos h5]
    show 5 + (q - 5) = q
    omega
  rw [if_neg h5, if_neg h5]
  by_cases h6 : q < 70
  · rw [if_pos h6, if_pos h6]
    by_cases ga6_0 : (q - 6) % 2 = 0
    · rw [if_pos ga6_0]
      show 6 + 2 * ((q - 6) / 2) = q
      omega
    rw [if_neg ga6_0]
    show 7 + 2 * ((q - 6) / 2) = q
    omega
  rw [if_neg h6, if_neg h6]
  by_cases h7 : q < 71
  · rw [if_pos h7, if_pos h7]
    show 70 + (q - 70) = q
    omega
  rw [if_neg h7, if_neg h7]
  by_cases gz0 : (q - 71) % 3 = 0
  · rw [if_pos gz0]
    show 71 + 3 * ((q - 71) / 3) = q
    omega
  rw [if_neg gz0]
  by_cases gz1 : (q - 71) % 3 = 1
  · rw [if_pos gz1]
    show 72 + 3 * ((q - 71) / 3) = q
    omega
  rw [if_neg gz1]
  show 73 + 3 * ((q - 71) / 3) = q
  omega
theorem kw_inj {q r : Nat} (h1 : kw_co q = kw_co r) (h2 : kw_ix q = kw_ix r) : q = r := by
  rw [← kw_plc q, ← kw_plc r, h1, h2]
def kw_rE (ad : Nat → Nat) (x : Nat) : Option Nat := if x < 32 then some (ad (6 + 2 * x)) else none
def kw_cell (cI cT cS : ClassId) (ad : Nat → Nat) (c i : Nat) (f : Nat → Int32) (g : Nat → Nat) : va_E := match c with
  | 0 => .inr (0, [.ref (ad 1), .ref (ad 2), .ref (ad 70), .int (nI (g 0)), .int (f 0), .int (f 1), .int (f 2), .int (nI ((g 1) % 4)), .int (f 3), .int (f 4)])
  | 1 => .inl (cT, 4, .inr (.inr (.inr (.inr (fun j => some (ad (71 + 3 * j)))))))
  | 2 => .inr (1, [.ref (ad 3), .ref (ad 4), .ref (ad 5), .int (nI ((g 0) % 6)), .int (f 0), .int (f 1), .int (f 2), .int (f 3)])
  | 3 => .inl (cI, 40, .inl (f))
  | 4 => .inl (cS, 32, .inr (.inr (.inr (.inr (fun j => some (ad (6 + 2 * j)))))))
  | 5 => .inl (cS, 6, .inr (.inr (.inr (.inr (fun j => kw_rE ad (g j))))))
  | 6 => .inl (cS, 32, .inr (.inr (.inr (.inr (fun j => kw_rE ad (g j))))))
  | 7 => .inr (2, [.ref (ad (72 + 3 * i)), .ref (ad (73 + 3 * i)), .int (f 0), .int (f 1), .int (kw_pa (g 0)), .int (f 2), .int (f 3), .int (f 4), .int (f 5)])
  | 8 => .inl (cI, 4, .inl (f))
  | 9 => .inl (cS, 8, .inr (.inr (.inr (.inr (fun j => kw_rE ad (g j))))))
  | 10 => .inr (3, [.ref (ad (7 + 2 * i)), .int (f 0), .int (kw_fr (g 0)), .int (kw_sl (g 1)), .int (f 1), .int (f 2)])
  | _ => .inl (cI, 8, .inl (f))
def kw_C (cI cT cS : ClassId) (ad : Nat → Nat) (S : kw_S) : Nat → va_E := fun q => kw_cell cI cT cS ad (kw_co q) (kw_ix q) (S.1 (kw_co q) (kw_ix q)) (S.2 (kw_co q) (kw_ix q))
theorem kw_up {cI cT cS : ClassId} {ad : Nat → Nat} {S S2 : kw_S} {q0 c i : Nat} {e : va_E} (hc : kw_co q0 = c ∧ kw_ix q0 = i) (h1 : ∀ a b, ¬ (a = c ∧ b = i) → S2.1 a b = S.1 a b) (h2 : ∀ a b, ¬ (a = c ∧ b = i) → S2.2 a b = S.2 a b) (he : e = kw_cell cI cT cS ad c i (S2.1 c i) (S2.2 c i)) : va_up (kw_C cI cT cS ad S) q0 e = kw_C cI cT cS ad S2 := by
  funext q
  by_cases hq : q = q0
  · subst hq
    rw [va_up_self, he]
    unfold kw_C
    rw [hc.1, hc.2]
  · rw [va_up_ne _ _ hq]
    have hne : ¬ (kw_co q = c ∧ kw_ix q = i) := fun h => hq (kw_inj (h.1.trans hc.1.symm) (h.2.trans hc.2.symm))
    unfold kw_C
    rw [h1 _ _ hne, h2 _ _ hne]
theorem kw_coK : kw_co 0 = 0 ∧ kw_ix 0 = 0 := ⟨by decide, by decide⟩
theorem kw_cK {cI cT cS : ClassId} {ad : Nat → Nat} {S : kw_S} : kw_C cI cT cS ad S 0 = .inr (0, [.ref (ad 1), .ref (ad 2), .ref (ad 70), .int (nI (S.2 0 0 0)), .int (S.1 0 0 0), .int (S.1 0 0 1), .int (S.1 0 0 2), .int (nI ((S.2 0 0 1) % 4)), .int (S.1 0 0 3), .int (S.1 0 0 4)]) := by
  unfold kw_C
  rw [(kw_coK).1, (kw_coK).2]
  rfl
theorem kw_pK_values {cI cT cS : ClassId} {ad : Nat → Nat} {S : kw_S} {x : Nat} {v : Int32} (hv : v = nI x) : va_up (kw_C cI cT cS ad S) 0 (.inr (0, [.ref (ad 1), .ref (ad 2), .ref (ad 70), .int (nI (S.2 0 0 0)), .int (S.1 0 0 0), .int (S.1 0 0 1), .int (S.1 0 0 2), .int (nI ((S.2 0 0 1) % 4)), .int (S.1 0 0 3), .int (S.1 0 0 4)].set 3 (.int v))) = kw_C cI cT cS ad (kw_sn S 0 0 0 x) := by
  subst hv
  refine kw_up (kw_coK) (fun _ _ _ => rfl) (fun _ _ h9 => kw_sn_ne h9) ?_
  rw [kw_sn_eq]
  rfl
theorem kw_pK_time {cI cT cS : ClassId} {ad : Nat → Nat} {S : kw_S} {v : Int32} : va_up (kw_C cI cT cS ad S) 0 (.inr (0, [.ref (ad 1), .ref (ad 2), .ref (ad 70), .int (nI (S.2 0 0 0)), .int (S.1 0 0 0), .int (S.1 0 0 1), .int (S.1 0 0 2), .int (nI ((S.2 0 0 1) % 4)), .int (S.1 0 0 3), .int (S.1 0 0 4)].set 4 (.int v))) = kw_C cI cT cS ad (kw_si S 0 0 0 v) := by
  refine kw_up (kw_coK) (fun _ _ h9 => kw_si_ne h9) (fun _ _ _ => rfl) ?_
  rw [kw_si_eq]
  rfl
theorem kw_pK_idleTicks {cI cT cS : ClassId} {ad : Nat → Nat} {S : kw_S} {v : Int32} : va_up (kw_C cI cT cS ad S) 0 (.inr (0, [.ref (ad 1), .ref (ad 2), .ref (ad 70), .int (nI (S.2 0 0 0)), .int (S.1 0 0 0), .int (S.1 0 0 1), .int (S.1 0 0 2), .int (nI ((S.2 0 0 1) % 4)), .int (S.1 0 0 3), .int (S.1 0 0 4)].set 5 (.int v))) = kw_C cI cT cS ad (kw_si S 0 0 1 v) := by
  refine kw_up (kw_coK) (fun _ _ h9 => kw_si_ne h9) (fun _ _ _ => rfl) ?_
  rw [kw_si_eq]
  rfl
theorem kw_pK_wildInstructions {cI cT cS : ClassId} {ad : Nat → Nat} {S : kw_S} {v : Int32} : va_up (kw_C cI cT cS ad S) 0 (.inr (0, [.ref (ad 1), .ref (ad 2), .ref (ad 70), .int (nI (S.2 0 0 0)), .int (S.1 0 0 0), .int (S.1 0 0 1), .int (S.1 0 0 2), .int (nI ((S.2 0 0 1) % 4)), .int (S.1 0 0 3), .int (S.1 0 0 4)].set 6 (.int v))) = kw_C cI cT cS ad (kw_si S 0 0 2 v) := by
  refine kw_up (kw_coK) (fun _ _ h9 => kw_si_ne h9) (fun _ _ _ => rfl) ?_
  rw [kw_si_eq]
  rfl
theorem kw_pK_turn {cI cT cS : ClassId} {ad : Nat → Nat} {S : kw_S} {x : Nat} {v : Int32} (hv : v = nI (x % 4)) : va_up (kw_C cI cT cS ad S) 0 (.inr (0, [.ref (ad 1), .ref (ad 2), .ref (ad 70), .int (nI (S.2 0 0 0)), .int (S.1 0 0 0), .int (S.1 0 0 1), .int (S.1 0 0 2), .int (nI ((S.2 0 0 1) % 4)), .int (S.1 0 0 3), .int (S.1 0 0 4)].set 7 (.int v))) = kw_C cI cT cS ad (kw_sn S 0 0 1 x) := by
  subst hv
  refine kw_up (kw_coK) (fun _ _ _ => rfl) (fun _ _ h9 => kw_sn_ne h9) ?_
  rw [kw_sn_eq]
  rfl
theorem kw_pK_doneInTurn {cI cT cS : ClassId} {ad : Nat → Nat} {S : kw_S} {v : Int32} : va_up (kw_C cI cT cS ad S) 0 (.inr (0, [.ref (ad 1), .ref (ad 2), .ref (ad 70), .int (nI (S.2 0 0 0)), .int (S.1 0 0 0), .int (S.1 0 0 1), .int (S.1 0 0 2), .int (nI ((S.2 0 0 1) % 4)), .int (S.1 0 0 3), .int (S.1 0 0 4)].set 8 (.int v))) = kw_C cI cT cS ad (kw_si S 0 0 3 v) := by
  refine kw_up (kw_coK) (fun _ _ h9 => kw_si_ne h9) (fun _ _ _ => rfl) ?_
  rw [kw_si_eq]
  rfl
theorem kw_pK_yielded {cI cT cS : ClassId} {ad : Nat → Nat} {S : kw_S} {v : Int32} : va_up (kw_C cI cT cS ad S) 0 (.inr (0, [.ref (ad 1), .ref (ad 2), .ref (ad 70), .int (nI (S.2 0 0 0)), .int (S.1 0 0 0), .int (S.1 0 0 1), .int (S.1 0 0 2), .int (nI ((S.2 0 0 1) % 4)), .int (S.1 0 0 3), .int (S.1 0 0 4)].set 9 (.int v))) = kw_C cI cT cS ad (kw_si S 0 0 4 v) := by
  refine kw_up (kw_coK) (fun _ _ h9 => kw_si_ne h9) (fun _ _ _ => rfl) ?_
  rw [kw_si_eq]
  rfl
theorem kw_coAT : kw_co 1 = 1 ∧ kw_ix 1 = 0 := ⟨by decide, by decide⟩
theorem kw_cAT {cI cT cS : ClassId} {ad : Nat → Nat} {S : kw_S} : kw_C cI cT cS ad S 1 = .inl (cT, 4, .inr (.inr (.inr (.inr (fun j => some (ad (71 + 3 * j))))))) := by
  unfold kw_C
  rw [(kw_coAT).1, (kw_coAT).2]
  rfl
theorem kw_coM : kw_co 2 = 2 ∧ kw_ix 2 = 0 := ⟨by decide, by decide⟩
theorem kw_cM {cI cT cS : ClassId} {ad : Nat → Nat} {S : kw_S} : kw_C cI cT cS ad S 2 = .inr (1, [.ref (ad 3), .ref (ad 4), .ref (ad 5), .int (nI ((S.2 2 0 0) % 6)), .int (S.1 2 0 0), .int (S.1 2 0 1), .int (S.1 2 0 2), .int (S.1 2 0 3)]) := by
  unfold kw_C
  rw [(kw_coM).1, (kw_coM).2]
  rfl
theorem kw_pM_hand {cI cT cS : ClassId} {ad : Nat → Nat} {S : kw_S} {x : Nat} {v : Int32} (hv : v = nI (x % 6)) : va_up (kw_C cI cT cS ad S) 2 (.inr (1, [.ref (ad 3), .ref (ad 4), .ref (ad 5), .int (nI ((S.2 2 0 0) % 6)), .int (S.1 2 0 0), .int (S.1 2 0 1), .int (S.1 2 0 2), .int (S.1 2 0 3)].set 3 (.int v))) = kw_C cI cT cS ad (kw_sn S 2 0 0 x) := by
  subst hv
  refine kw_up (kw_coM) (fun _ _ _ => rfl) (fun _ _ h9 => kw_sn_ne h9) ?_
  rw [kw_sn_eq]
  rfl
theorem kw_pM_faults {cI cT cS : ClassId} {ad : Nat → Nat} {S : kw_S} {v : Int32} : va_up (kw_C cI cT cS ad S) 2 (.inr (1, [.ref (ad 3), .ref (ad 4), .ref (ad 5), .int (nI ((S.2 2 0 0) % 6)), .int (S.1 2 0 0), .int (S.1 2 0 1), .int (S.1 2 0 2), .int (S.1 2 0 3)].set 4 (.int v))) = kw_C cI cT cS ad (kw_si S 2 0 0 v) := by
  refine kw_up (kw_coM) (fun _ _ h9 => kw_si_ne h9) (fun _ _ _ => rfl) ?_
  rw [kw_si_eq]
  rfl
theorem kw_pM_written {cI cT cS : ClassId} {ad : Nat → Nat} {S : kw_S} {v : Int32} : va_up (kw_C cI cT cS ad S) 2 (.inr (1, [.ref (ad 3), .ref (ad 4), .ref (ad 5), .int (nI ((S.2 2 0 0) % 6)), .int (S.1 2 0 0), .int (S.1 2 0 1), .int (S.1 2 0 2), .int (S.1 2 0 3)].set 5 (.int v))) = kw_C cI cT cS ad (kw_si S 2 0 1 v) := by
  refine kw_up (kw_coM) (fun _ _ h9 => kw_si_ne h9) (fun _ _ _ => rfl) ?_
  rw [kw_si_eq]
  rfl
theorem kw_pM_read {cI cT cS : ClassId} {ad : Nat → Nat} {S : kw_S} {v : Int32} : va_up (kw_C cI cT cS ad S) 2 (.inr (1, [.ref (ad 3), .ref (ad 4), .ref (ad 5), .int (nI ((S.2 2 0 0) % 6)), .int (S.1 2 0 0), .int (S.1 2 0 1), .int (S.1 2 0 2), .int (S.1 2 0 3)].set 6 (.int v))) = kw_C cI cT cS ad (kw_si S 2 0 2 v) := by
  refine kw_up (kw_coM) (fun _ _ h9 => kw_si_ne h9) (fun _ _ _ => rfl) ?_
  rw [kw_si_eq]
  rfl
theorem kw_pM_copies {cI cT cS : ClassId} {ad : Nat → Nat} {S : kw_S} {v : Int32} : va_up (kw_C cI cT cS ad S) 2 (.inr (1, [.ref (ad 3), .ref (ad 4), .ref (ad 5), .int (nI ((S.2 2 0 0) % 6)), .int (S.1 2 0 0), .int (S.1 2 0 1), .int (S.1 2 0 2), .int (S.1 2 0 3)].set 7 (.int v))) = kw_C cI cT cS ad (kw_si S 2 0 3 v) := by
  refine kw_up (kw_coM) (fun _ _ h9 => kw_si_ne h9) (fun _ _ _ => rfl) ?_
  rw [kw_si_eq]
  rfl
theorem kw_coAK : kw_co 70 = 3 ∧ kw_ix 70 = 0 := ⟨by decide, by decide⟩
theorem kw_cAK {cI cT cS : ClassId} {ad : Nat → Nat} {S : kw_S} : kw_C cI cT cS ad S 70 = .inl (cI, 40, .inl (S.1 3 0)) := by
  unfold kw_C
  rw [(kw_coAK).1, (kw_coAK).2]
  rfl
theorem kw_pAK {cI cT cS : ClassId} {ad : Nat → Nat} {S : kw_S} {j : Nat} {v : Int32} : va_up (kw_C cI cT cS ad S) 70 (.inl (cI, 40, .inl (upd (S.1 3 0) j v))) = kw_C cI cT cS ad (kw_si S 3 0 j v) := by
  refine kw_up (kw_coAK) (fun _ _ h9 => kw_si_ne h9) (fun _ _ _ => rfl) ?_
  rw [kw_si_eq]
  rfl
theorem kw_pfAK {cI cT cS : ClassId} {ad : Nat → Nat} {S : kw_S} {f : Nat → Int32} : va_up (kw_C cI cT cS ad S) 70 (.inl (cI, 40, .inl f)) = kw_C cI cT cS ad (kw_sr S 3 0 f) := by
  refine kw_up (kw_coAK) (fun _ _ h9 => kw_sr_ne h9) (fun _ _ _ => rfl) ?_
  rw [kw_sr_eq]
  rfl
theorem kw_coAS : kw_co 3 = 4 ∧ kw_ix 3 = 0 := ⟨by decide, by decide⟩
theorem kw_cAS {cI cT cS : ClassId} {ad : Nat → Nat} {S : kw_S} : kw_C cI cT cS ad S 3 = .inl (cS, 32, .inr (.inr (.inr (.inr (fun j => some (ad (6 + 2 * j))))))) := by
  unfold kw_C
  rw [(kw_coAS).1, (kw_coAS).2]
  rfl
theorem kw_coAF : kw_co 4 = 5 ∧ kw_ix 4 = 0 := ⟨by decide, by decide⟩
theorem kw_cAF {cI cT cS : ClassId} {ad : Nat → Nat} {S : kw_S} : kw_C cI cT cS ad S 4 = .inl (cS, 6, .inr (.inr (.inr (.inr (fun j => kw_rE ad (S.2 5 0 j)))))) := by
  unfold kw_C
  rw [(kw_coAF).1, (kw_coAF).2]
  rfl
theorem kw_prAF {cI cT cS : ClassId} {ad : Nat → Nat} {S : kw_S} {j : Nat} {x : Nat} (hx : x < 32) : va_up (kw_C cI cT cS ad S) 4 (.inl (cS, 6, .inr (.inr (.inr (.inr (va_up (fun j => kw_rE ad (S.2 5 0 j)) j (some (ad (6 + 2 * x))))))))) = kw_C cI cT cS ad (kw_sn S 5 0 j x) := by
  refine kw_up (kw_coAF) (fun _ _ _ => rfl) (fun _ _ h9 => kw_sn_ne h9) ?_
  rw [kw_sn_eq]
  have hf : va_up (fun j => kw_rE ad (S.2 5 0 j)) j (some (ad (6 + 2 * x))) = fun d => kw_rE ad (if d = j then x else S.2 5 0 d) := by
    funext d
    unfold va_up kw_rE
    by_cases h9 : d = j
    · rw [if_pos h9, if_pos h9, if_pos hx]
    · rw [if_neg h9, if_neg h9]
  rw [hf]
  rfl
theorem kw_pnAF {cI cT cS : ClassId} {ad : Nat → Nat} {S : kw_S} {j : Nat} : va_up (kw_C cI cT cS ad S) 4 (.inl (cS, 6, .inr (.inr (.inr (.inr (va_up (fun j => kw_rE ad (S.2 5 0 j)) j (none))))))) = kw_C cI cT cS ad (kw_sn S 5 0 j 32) := by
  refine kw_up (kw_coAF) (fun _ _ _ => rfl) (fun _ _ h9 => kw_sn_ne h9) ?_
  rw [kw_sn_eq]
  have hf : va_up (fun j => kw_rE ad (S.2 5 0 j)) j (none) = fun d => kw_rE ad (if d = j then 32 else S.2 5 0 d) := by
    funext d
    unfold va_up kw_rE
    by_cases h9 : d = j
    · rw [if_pos h9, if_pos h9, if_neg (by decide)]
    · rw [if_neg h9, if_neg h9]
  rw [hf]
  rfl
theorem kw_coAL : kw_co 5 = 6 ∧ kw_ix 5 = 0 := ⟨by decide, by decide⟩
theorem kw_cAL {cI cT cS : ClassId} {ad : Nat → Nat} {S : kw_S} : kw_C cI cT cS ad S 5 = .inl (cS, 32, .inr (.inr (.inr (.inr (fun j => kw_rE ad (S.2 6 0 j)))))) := by
  unfold kw_C
  rw [(kw_coAL).1, (kw_coAL).2]
  rfl
theorem kw_prAL {cI cT cS : ClassId} {ad : Nat → Nat} {S : kw_S} {j : Nat} {x : Nat} (hx : x < 32) : va_up (kw_C cI cT cS ad S) 5 (.inl (cS, 32, .inr (.inr (.inr (.inr (va_up (fun j => kw_rE ad (S.2 6 0 j)) j (some (ad (6 + 2 * x))))))))) = kw_C cI cT cS ad (kw_sn S 6 0 j x) := by
  refine kw_up (kw_coAL) (fun _ _ _ => rfl) (fun _ _ h9 => kw_sn_ne h9) ?_
  rw [kw_sn_eq]
  have hf : va_up (fun j => kw_rE ad (S.2 6 0 j)) j (some (ad (6 + 2 * x))) = fun d => kw_rE ad (if d = j then x else S.2 6 0 d) := by
    funext d
    unfold va_up kw_rE
    by_cases h9 : d = j
    · rw [if_pos h9, if_pos h9, if_pos hx]
    · rw [if_neg h9, if_neg h9]
  rw [hf]
  rfl
theorem kw_pnAL {cI cT cS : ClassId} {ad : Nat → Nat} {S : kw_S} {j : Nat} : va_up (kw_C cI cT cS ad S) 5 (.inl (cS, 32, .inr (.inr (.inr (.inr (va_up (fun j => kw_rE ad (S.2 6 0 j)) j (none))))))) = kw_C cI cT cS ad (kw_sn S 6 0 j 32) := by
  refine kw_up (kw_coAL) (fun _ _ _ => rfl) (fun _ _ h9 => kw_sn_ne h9) ?_
  rw [kw_sn_eq]
  have hf : va_up (fun j => kw_rE ad (S.2 6 0 j)) j (none) = fun d => kw_rE ad (if d = j then 32 else S.2 6 0 d) := by
    funext d
    unfold va_up kw_rE
    by_cases h9 : d = j
    · rw [if_pos h9, if_pos h9, if_neg (by decide)]
    · rw [if_neg h9, if_neg h9]
  rw [hf]
  rfl
theorem kw_coT {i : Nat} (h : i < 4) : kw_co (71 + 3 * i) = 7 ∧ kw_ix (71 + 3 * i) = i := ⟨by unfold kw_co; rw [if_neg (by omega), if_neg (by omega), if_neg (by omega), if_neg (by omega), if_neg (by omega), if_neg (by omega), if_neg (by omega), if_neg (by omega), if_pos (by omega)], by unfold kw_ix; rw [if_neg (by omega), if_neg (by omega), if_neg (by omega), if_neg (by omega), if_neg (by omega), if_neg (by omega), if_neg (by omega), if_neg (by omega)]; omega⟩
theorem kw_cT {cI cT cS : ClassId} {ad : Nat → Nat} {S : kw_S} {i : Nat} (h : i < 4) : kw_C cI cT cS ad S (71 + 3 * i) = .inr (2, [.ref (ad (72 + 3 * i)), .ref (ad (73 + 3 * i)), .int (S.1 7 i 0), .int (S.1 7 i 1), .int (kw_pa (S.2 7 i 0)), .int (S.1 7 i 2), .int (S.1 7 i 3), .int (S.1 7 i 4), .int (S.1 7 i 5)]) := by
  unfold kw_C
  rw [(kw_coT h).1, (kw_coT h).2]
  rfl
theorem kw_pT_state {cI cT cS : ClassId} {ad : Nat → Nat} {S : kw_S} {i : Nat} (h : i < 4) {v : Int32} : va_up (kw_C cI cT cS ad S) (71 + 3 * i) (.inr (2, [.ref (ad (72 + 3 * i)), .ref (ad (73 + 3 * i)), .int (S.1 7 i 0), .int (S.1 7 i 1), .int (kw_pa (S.2 7 i 0)), .int (S.1 7 i 2), .int (S.1 7 i 3), .int (S.1 7 i 4), .int (S.1 7 i 5)].set 2 (.int v))) = kw_C cI cT cS ad (kw_si S 7 i 0 v) := by
  refine kw_up (kw_coT h) (fun _ _ h9 => kw_si_ne h9) (fun _ _ _ => rfl) ?_
  rw [kw_si_eq]
  rfl
theorem kw_pT_place {cI cT cS : ClassId} {ad : Nat → Nat} {S : kw_S} {i : Nat} (h : i < 4) {v : Int32} : va_up (kw_C cI cT cS ad S) (71 + 3 * i) (.inr (2, [.ref (ad (72 + 3 * i)), .ref (ad (73 + 3 * i)), .int (S.1 7 i 0), .int (S.1 7 i 1), .int (kw_pa (S.2 7 i 0)), .int (S.1 7 i 2), .int (S.1 7 i 3), .int (S.1 7 i 4), .int (S.1 7 i 5)].set 3 (.int v))) = kw_C cI cT cS ad (kw_si S 7 i 1 v) := by
  refine kw_up (kw_coT h) (fun _ _ h9 => kw_si_ne h9) (fun _ _ _ => rfl) ?_
  rw [kw_si_eq]
  rfl
theorem kw_pT_parent {cI cT cS : ClassId} {ad : Nat → Nat} {S : kw_S} {i : Nat} (h : i < 4) {x : Nat} {v : Int32} (hv : v = kw_pa x) : va_up (kw_C cI cT cS ad S) (71 + 3 * i) (.inr (2, [.ref (ad (72 + 3 * i)), .ref (ad (73 + 3 * i)), .int (S.1 7 i 0), .int (S.1 7 i 1), .int (kw_pa (S.2 7 i 0)), .int (S.1 7 i 2), .int (S.1 7 i 3), .int (S.1 7 i 4), .int (S.1 7 i 5)].set 4 (.int v))) = kw_C cI cT cS ad (kw_sn S 7 i 0 x) := by
  subst hv
  refine kw_up (kw_coT h) (fun _ _ _ => rfl) (fun _ _ h9 => kw_sn_ne h9) ?_
  rw [kw_sn_eq]
  rfl
theorem kw_pT_code {cI cT cS : ClassId} {ad : Nat → Nat} {S : kw_S} {i : Nat} (h : i < 4) {v : Int32} : va_up (kw_C cI cT cS ad S) (71 + 3 * i) (.inr (2, [.ref (ad (72 + 3 * i)), .ref (ad (73 + 3 * i)), .int (S.1 7 i 0), .int (S.1 7 i 1), .int (kw_pa (S.2 7 i 0)), .int (S.1 7 i 2), .int (S.1 7 i 3), .int (S.1 7 i 4), .int (S.1 7 i 5)].set 5 (.int v))) = kw_C cI cT cS ad (kw_si S 7 i 2 v) := by
  refine kw_up (kw_coT h) (fun _ _ h9 => kw_si_ne h9) (fun _ _ _ => rfl) ?_
  rw [kw_si_eq]
  rfl
theorem kw_pT_sleepLeft {cI cT cS : ClassId} {ad : Nat → Nat} {S : kw_S} {i : Nat} (h : i < 4) {v : Int32} : va_up (kw_C cI cT cS ad S) (71 + 3 * i) (.inr (2, [.ref (ad (72 + 3 * i)), .ref (ad (73 + 3 * i)), .int (S.1 7 i 0), .int (S.1 7 i 1), .int (kw_pa (S.2 7 i 0)), .int (S.1 7 i 2), .int (S.1 7 i 3), .int (S.1 7 i 4), .int (S.1 7 i 5)].set 6 (.int v))) = kw_C cI cT cS ad (kw_si S 7 i 3 v) := by
  refine kw_up (kw_coT h) (fun _ _ h9 => kw_si_ne h9) (fun _ _ _ => rfl) ?_
  rw [kw_si_eq]
  rfl
theorem kw_pT_faults {cI cT cS : ClassId} {ad : Nat → Nat} {S : kw_S} {i : Nat} (h : i < 4) {v : Int32} : va_up (kw_C cI cT cS ad S) (71 + 3 * i) (.inr (2, [.ref (ad (72 + 3 * i)), .ref (ad (73 + 3 * i)), .int (S.1 7 i 0), .int (S.1 7 i 1), .int (kw_pa (S.2 7 i 0)), .int (S.1 7 i 2), .int (S.1 7 i 3), .int (S.1 7 i 4), .int (S.1 7 i 5)].set 7 (.int v))) = kw_C cI cT cS ad (kw_si S 7 i 4 v) := by
  refine kw_up (kw_coT h) (fun _ _ h9 => kw_si_ne h9) (fun _ _ _ => rfl) ?_
  rw [kw_si_eq]
  rfl
theorem kw_pT_begun {cI cT cS : ClassId} {ad : Nat → Nat} {S : kw_S} {i : Nat} (h : i < 4) {v : Int32} : va_up (kw_C cI cT cS ad S) (71 + 3 * i) (.inr (2, [.ref (ad (72 + 3 * i)), .ref (ad (73 + 3 * i)), .int (S.1 7 i 0), .int (S.1 7 i 1), .int (kw_pa (S.2 7 i 0)), .int (S.1 7 i 2), .int (S.1 7 i 3), .int (S.1 7 i 4), .int (S.1 7 i 5)].set 8 (.int v))) = kw_C cI cT cS ad (kw_si S 7 i 5 v) := by
  refine kw_up (kw_coT h) (fun _ _ h9 => kw_si_ne h9) (fun _ _ _ => rfl) ?_
  rw [kw_si_eq]
  rfl
theorem kw_coAR {i : Nat} (h : i < 4) : kw_co (72 + 3 * i) = 8 ∧ kw_ix (72 + 3 * i) = i := ⟨by unfold kw_co; rw [if_neg (by omega), if_neg (by omega), if_neg (by omega), if_neg (by omega), if_neg (by omega), if_neg (by omega), if_neg (by omega), if_neg (by omega), if_neg (by omega), if_pos (by omega)], by unfold kw_ix; rw [if_neg (by omega), if_neg (by omega), if_neg (by omega), if_neg (by omega), if_neg (by omega), if_neg (by omega), if_neg (by omega), if_neg (by omega)]; omega⟩
theorem kw_cAR {cI cT cS : ClassId} {ad : Nat → Nat} {S : kw_S} {i : Nat} (h : i < 4) : kw_C cI cT cS ad S (72 + 3 * i) = .inl (cI, 4, .inl (S.1 8 i)) := by
  unfold kw_C
  rw [(kw_coAR h).1, (kw_coAR h).2]
  rfl
theorem kw_pAR {cI cT cS : ClassId} {ad : Nat → Nat} {S : kw_S} {i : Nat} (h : i < 4) {j : Nat} {v : Int32} : va_up (kw_C cI cT cS ad S) (72 + 3 * i) (.inl (cI, 4, .inl (upd (S.1 8 i) j v))) = kw_C cI cT cS ad (kw_si S 8 i j v) := by
  refine kw_up (kw_coAR h) (fun _ _ h9 => kw_si_ne h9) (fun _ _ _ => rfl) ?_
  rw [kw_si_eq]
  rfl
theorem kw_pfAR {cI cT cS : ClassId} {ad : Nat → Nat} {S : kw_S} {i : Nat} (h : i < 4) {f : Nat → Int32} : va_up (kw_C cI cT cS ad S) (72 + 3 * i) (.inl (cI, 4, .inl f)) = kw_C cI cT cS ad (kw_sr S 8 i f) := by
  refine kw_up (kw_coAR h) (fun _ _ h9 => kw_sr_ne h9) (fun _ _ _ => rfl) ?_
  rw [kw_sr_eq]
  rfl
theorem kw_coAP {i : Nat} (h : i < 4) : kw_co (73 + 3 * i) = 9 ∧ kw_ix (73 + 3 * i) = i := ⟨by unfold kw_co; rw [if_neg (by omega), if_neg (by omega), if_neg (by omega), if_neg (by omega), if_neg (by omega), if_neg (by omega), if_neg (by omega), if_neg (by omega), if_neg (by omega), if_neg (by omega)], by unfold kw_ix; rw [if_neg (by omega), if_neg (by omega), if_neg (by omega), if_neg (by omega), if_neg (by omega), if_neg (by omega), if_neg (by omega), if_neg (by omega)]; omega⟩
theorem kw_cAP {cI cT cS : ClassId} {ad : Nat → Nat} {S : kw_S} {i : Nat} (h : i < 4) : kw_C cI cT cS ad S (73 + 3 * i) = .inl (cS, 8, .inr (.inr (.inr (.inr (fun j => kw_rE ad (S.2 9 i j)))))) := by
  unfold kw_C
  rw [(kw_coAP h).1, (kw_coAP h).2]
  rfl
theorem kw_prAP {cI cT cS : ClassId} {ad : Nat → Nat} {S : kw_S} {i : Nat} (h : i < 4) {j : Nat} {x : Nat} (hx : x < 32) : va_up (kw_C cI cT cS ad S) (73 + 3 * i) (.inl (cS, 8, .inr (.inr (.inr (.inr (va_up (fun j => kw_rE ad (S.2 9 i j)) j (some (ad (6 + 2 * x))))))))) = kw_C cI cT cS ad (kw_sn S 9 i j x) := by
  refine kw_up (kw_coAP h) (fun _ _ _ => rfl) (fun _ _ h9 => kw_sn_ne h9) ?_
  rw [kw_sn_eq]
  have hf : va_up (fun j => kw_rE ad (S.2 9 i j)) j (some (ad (6 + 2 * x))) = fun d => kw_rE ad (if d = j then x else S.2 9 i d) := by
    funext d
    unfold va_up kw_rE
    by_cases h9 : d = j
    · rw [if_pos h9, if_pos h9, if_pos hx]
    · rw [if_neg h9, if_neg h9]
  rw [hf]
  rfl
theorem kw_pnAP {cI cT cS : ClassId} {ad : Nat → Nat} {S : kw_S} {i : Nat} (h : i < 4) {j : Nat} : va_up (kw_C cI cT cS ad S) (73 + 3 * i) (.inl (cS, 8, .inr (.inr (.inr (.inr (va_up (fun j => kw_rE ad (S.2 9 i j)) j (none))))))) = kw_C cI cT cS ad (kw_sn S 9 i j 32) := by
  refine kw_up (kw_coAP h) (fun _ _ _ => rfl) (fun _ _ h9 => kw_sn_ne h9) ?_
  rw [kw_sn_eq]
  have hf : va_up (fun j => kw_rE ad (S.2 9 i j)) j (none) = fun d => kw_rE ad (if d = j then 32 else S.2 9 i d) := by
    funext d
    unfold va_up kw_rE
    by_cases h9 : d = j
    · rw [if_pos h9, if_pos h9, if_neg (by decide)]
    · rw [if_neg h9, if_neg h9]
  rw [hf]
  rfl
theorem kw_coE {i : Nat} (h : i < 32) : kw_co (6 + 2 * i) = 10 ∧ kw_ix (6 + 2 * i) = i := ⟨by unfold kw_co; rw [if_neg (by omega), if_neg (by omega), if_neg (by omega), if_neg (by omega), if_neg (by omega), if_neg (by omega), if_pos (by omega), if_pos (by omega)], by unfold kw_ix; rw [if_neg (by omega), if_neg (by omega), if_neg (by omega), if_neg (by omega), if_neg (by omega), if_neg (by omega), if_pos (by omega)]; omega⟩
theorem kw_cE {cI cT cS : ClassId} {ad : Nat → Nat} {S : kw_S} {i : Nat} (h : i < 32) : kw_C cI cT cS ad S (6 + 2 * i) = .inr (3, [.ref (ad (7 + 2 * i)), .int (S.1 10 i 0), .int (kw_fr (S.2 10 i 0)), .int (kw_sl (S.2 10 i 1)), .int (S.1 10 i 1), .int (S.1 10 i 2)]) := by
  unfold kw_C
  rw [(kw_coE h).1, (kw_coE h).2]
  rfl
theorem kw_pE_owners {cI cT cS : ClassId} {ad : Nat → Nat} {S : kw_S} {i : Nat} (h : i < 32) {v : Int32} : va_up (kw_C cI cT cS ad S) (6 + 2 * i) (.inr (3, [.ref (ad (7 + 2 * i)), .int (S.1 10 i 0), .int (kw_fr (S.2 10 i 0)), .int (kw_sl (S.2 10 i 1)), .int (S.1 10 i 1), .int (S.1 10 i 2)].set 1 (.int v))) = kw_C cI cT cS ad (kw_si S 10 i 0 v) := by
  refine kw_up (kw_coE h) (fun _ _ h9 => kw_si_ne h9) (fun _ _ _ => rfl) ?_
  rw [kw_si_eq]
  rfl
theorem kw_pE_frame {cI cT cS : ClassId} {ad : Nat → Nat} {S : kw_S} {i : Nat} (h : i < 32) {x : Nat} {v : Int32} (hv : v = kw_fr x) : va_up (kw_C cI cT cS ad S) (6 + 2 * i) (.inr (3, [.ref (ad (7 + 2 * i)), .int (S.1 10 i 0), .int (kw_fr (S.2 10 i 0)), .int (kw_sl (S.2 10 i 1)), .int (S.1 10 i 1), .int (S.1 10 i 2)].set 2 (.int v))) = kw_C cI cT cS ad (kw_sn S 10 i 0 x) := by
  subst hv
  refine kw_up (kw_coE h) (fun _ _ _ => rfl) (fun _ _ h9 => kw_sn_ne h9) ?_
  rw [kw_sn_eq]
  rfl
theorem kw_pE_slot {cI cT cS : ClassId} {ad : Nat → Nat} {S : kw_S} {i : Nat} (h : i < 32) {x : Nat} {v : Int32} (hv : v = kw_sl x) : va_up (kw_C cI cT cS ad S) (6 + 2 * i) (.inr (3, [.ref (ad (7 + 2 * i)), .int (S.1 10 i 0), .int (kw_fr (S.2 10 i 0)), .int (kw_sl (S.2 10 i 1)), .int (S.1 10 i 1), .int (S.1 10 i 2)].set 3 (.int v))) = kw_C cI cT cS ad (kw_sn S 10 i 1 x) := by
  subst hv
  refine kw_up (kw_coE h) (fun _ _ _ => rfl) (fun _ _ h9 => kw_sn_ne h9) ?_
  rw [kw_sn_eq]
  rfl
theorem kw_pE_used {cI cT cS : ClassId} {ad : Nat → Nat} {S : kw_S} {i : Nat} (h : i < 32) {v : Int32} : va_up (kw_C cI cT cS ad S) (6 + 2 * i) (.inr (3, [.ref (ad (7 + 2 * i)), .int (S.1 10 i 0), .int (kw_fr (S.2 10 i 0)), .int (kw_sl (S.2 10 i 1)), .int (S.1 10 i 1), .int (S.1 10 i 2)].set 4 (.int v))) = kw_C cI cT cS ad (kw_si S 10 i 1 v) := by
  refine kw_up (kw_coE h) (fun _ _ h9 => kw_si_ne h9) (fun _ _ _ => rfl) ?_
  rw [kw_si_eq]
  rfl
theorem kw_pE_changed {cI cT cS : ClassId} {ad : Nat → Nat} {S : kw_S} {i : Nat} (h : i < 32) {v : Int32} : va_up (kw_C cI cT cS ad S) (6 + 2 * i) (.inr (3, [.ref (ad (7 + 2 * i)), .int (S.1 10 i 0), .int (kw_fr (S.2 10 i 0)), .int (kw_sl (S.2 10 i 1)), .int (S.1 10 i 1), .int (S.1 10 i 2)].set 5 (.int v))) = kw_C cI cT cS ad (kw_si S 10 i 2 v) := by
  refine kw_up (kw_coE h) (fun _ _ h9 => kw_si_ne h9) (fun _ _ _ => rfl) ?_
  rw [kw_si_eq]
  rfl
theorem kw_coAW {i : Nat} (h : i < 32) : kw_co (7 + 2 * i) = 11 ∧ kw_ix (7 + 2 * i) = i := ⟨by unfold kw_co; rw [if_neg (by omega), if_neg (by omega), if_neg (by omega), if_neg (by omega), if_neg (by omega), if_neg (by omega), if_pos (by omega), if_neg (by omega)], by unfold kw_ix; rw [if_neg (by omega), if_neg (by omega), if_neg (by omega), if_neg (by omega), if_neg (by omega), if_neg (by omega), if_pos (by omega)]; omega⟩
theorem kw_cAW {cI cT cS : ClassId} {ad : Nat → Nat} {S : kw_S} {i : Nat} (h : i < 32) : kw_C cI cT cS ad S (7 + 2 * i) = .inl (cI, 8, .inl (S.1 11 i)) := by
  unfold kw_C
  rw [(kw_coAW h).1, (kw_coAW h).2]
  rfl
theorem kw_pAW {cI cT cS : ClassId} {ad : Nat → Nat} {S : kw_S} {i : Nat} (h : i < 32) {j : Nat} {v : Int32} : va_up (kw_C cI cT cS ad S) (7 + 2 * i) (.inl (cI, 8, .inl (upd (S.1 11 i) j v))) = kw_C cI cT cS ad (kw_si S 11 i j v) := by
  refine kw_up (kw_coAW h) (fun _ _ h9 => kw_si_ne h9) (fun _ _ _ => rfl) ?_
  rw [kw_si_eq]
  rfl
theorem kw_pfAW {cI cT cS : ClassId} {ad : Nat → Nat} {S : kw_S} {i : Nat} (h : i < 32) {f : Nat → Int32} : va_up (kw_C cI cT cS ad S) (7 + 2 * i) (.inl (cI, 8, .inl f)) = kw_C cI cT cS ad (kw_sr S 11 i f) := by
  refine kw_up (kw_coAW h) (fun _ _ h9 => kw_sr_ne h9) (fun _ _ _ => rfl) ?_
  rw [kw_sr_eq]
  rfl
theorem kw_nnE {ad : Nat → Nat} {x : Nat} (h : x < 32) : va_rf (kw_rE ad x) = .ref (ad (6 + 2 * x)) := by
  unfold kw_rE
  rw [if_pos h]
  rfl
theorem kw_caseE {p : Program} {l : Launch} {e : Env} {R : Room} {s : State} {m : MethodId} {args : Array Value} {below : List Frame} {meth : Method} {c : Code} {H : Heap} {locs : List Loc} {cells slots : Nat} {Q : State → Prop} {pc : Nat} {ls : Array Slot} {rest : List Value} {ad : Nat → Nat} {x : Nat} (h1 : x < 32 → W p l e R s m args below meth c H locs cells slots Q (F0 m pc ls (.ref (ad (6 + 2 * x)) :: rest))) (h2 : ¬ x < 32 → W p l e R s m args below meth c H locs cells slots Q (F0 m pc ls (.null :: rest))) : W p l e R s m args below meth c H locs cells slots Q (F0 m pc ls (va_rf (kw_rE ad x) :: rest)) := by
  unfold kw_rE
  by_cases h : x < 32
  · rw [if_pos h]
    exact h1 h
  · rw [if_neg h]
    exact h2 h
