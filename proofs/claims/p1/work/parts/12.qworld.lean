theorem pp_pos {c : Prop} {d : Decidable c} {a b : Prop} (h : c) (q : @ite Prop c d a b) : a := by
  rw [if_pos h] at q
  exact q
theorem pp_neg {c : Prop} {d : Decidable c} {a b : Prop} (h : ¬ c) (q : @ite Prop c d a b) : b := by
  rw [if_neg h] at q
  exact q
/-- an int that is an index -/
def in_ (x : Int32) (n : Nat) : Prop := x = nI x.toNatClampNeg ∧ x.toNatClampNeg < n
section WLZ
variable {p : Program} {l : Launch} {e : Env} {R : Room} {s : State} {m : MethodId} {args : Array Value} {below : List Frame} {meth : Method} {c : Code} {H : Heap} {locs : List Loc} {cells slots : Nat} {Q : State → Prop}
variable {cc : ByteArray} {pc : Nat} {ls : Array Slot} {rest : List Value} {D : va_G} {cl : List vw_C} {tys : List (ClassId × FieldType)} {H0 : Heap} {n : Nat} {ad : Nat → Nat} {ct ct' : Nat → va_E} {own : String} {Ts : List Cond} {A : Nat → Prop}
theorem wl_zald (X : wl_X p s m args c cc own Ts D cl tys n ad A) (hP : va_P D cl (wl_W n ad ct) H) {i : Nat} (hi : i < n) (t0 : Nat) {cA : ClassId} {len : Nat} {f : Nat → Int32} (he : ct i = .inl (cA, len, .inl f)) (ht : tys[t0]? = some (cA, .boolean)) {xj : Int32} {j : Nat} (hxj : xj = nI j) (hj : j < len) (hlen : len < 2 ^ 31) (hdg : decode cc pc = .ok (.baload, 1))
    (kk : W p l e R s m args below meth c H locs cells slots Q (F0 m (pc + 1) ls (.int (f j) :: rest))) : W p l e R s m args below meth c H locs cells slots Q (F0 m pc ls (.int xj :: .ref (ad i) :: rest)) := by
  subst hxj
  refine va_zald (D := D) (cl := cl) (ws := wl_W n ad ct) X.1 X.2.1 X.2.2.2.2.1 hP i t0 (by rw [wl_at hi, he]) ht (vp_in_nI hj hlen) hdg ?_
  rw [nI_clamp (Nat.lt_trans hj hlen)]
  exact kk
theorem wl_zast (X : wl_X p s m args c cc own Ts D cl tys n ad A) (hP : va_P D cl (wl_W n ad ct) H) (hS : va_S A H0 H locs) {i : Nat} (hi : i < n) (t0 : Nat) {cA : ClassId} {len : Nat} {f : Nat → Int32} (he : ct i = .inl (cA, len, .inl f)) (ht : tys[t0]? = some (cA, .boolean)) {xj : Int32} {j : Nat} (hxj : xj = nI j) (hj : j < len) (hlen : len < 2 ^ 31) {x : Int32} (hx : vp_nar .boolean x = x) (hdg : decode cc pc = .ok (.bastore, 1)) (hct : va_up ct i (.inl (cA, len, .inl (upd f j x))) = ct')
    (kk : ∀ (H1 : Heap) (locs1 : List Loc), va_P D cl (wl_W n ad ct') H1 → va_S A H0 H1 locs1 → W p l e R s m args below meth c H1 locs1 cells slots Q (F0 m (pc + 1) ls rest)) : W p l e R s m args below meth c H locs cells slots Q (F0 m pc ls (.int x :: .int xj :: .ref (ad i) :: rest)) := by
  subst hxj
  subst hct
  refine va_zast (D := D) (cl := cl) (ws := wl_W n ad ct) X.1 X.2.1 X.2.2.2.2.1 hP (wl_D X.2.2.2.2.2.1 X.2.2.2.2.2.2) hS i t0 (by rw [wl_at hi, he]) ht (vp_in_nI hj hlen) hdg (fun H1 locs1 h1 _ h3 => kk H1 locs1 ?_ h3)
  rw [nI_clamp (Nat.lt_trans hj hlen), wl_set hi, hx] at h1
  exact h1
end WLZ
def qw_pa (x : Nat) : Int32 := if x < 4 then nI x else -2
def qw_pg (x : Nat) : Int32 := if x < 34 then nI x else -1
abbrev qw_ty (cI cZ : ClassId) : List (ClassId × FieldType) := [(cI, .int), (cZ, .boolean)]
abbrev qw_S : Type := (Nat → Nat → Nat → Int32) × (Nat → Nat → Nat → Nat)
def qw_si (S : qw_S) (c i j : Nat) (v : Int32) : qw_S := (fun a b => if a = c ∧ b = i then (fun d => if d = j then v else S.1 a b d) else S.1 a b, S.2)
theorem qw_si_ne {S : qw_S} {c i j : Nat} {v : Int32} {a b : Nat} (h : ¬ (a = c ∧ b = i)) : (qw_si S c i j v).1 a b = S.1 a b := if_neg h
theorem qw_si_eq {S : qw_S} {c i j : Nat} {v : Int32} : (qw_si S c i j v).1 c i = fun d => if d = j then v else S.1 c i d := if_pos ⟨rfl, rfl⟩
theorem qw_si_at {S : qw_S} {c i j : Nat} {v : Int32} {a b d : Nat} : (qw_si S c i j v).1 a b d = if a = c ∧ b = i ∧ d = j then v else S.1 a b d := by
  unfold qw_si
  by_cases h : a = c ∧ b = i
  · simp only [h, and_self, if_true, true_and]
  · simp only [h, if_false]
    rw [if_neg (fun q => h ⟨q.1, q.2.1⟩)]
theorem qw_si_o {S : qw_S} {c i j : Nat} {v : Int32} : (qw_si S c i j v).2 = S.2 := rfl
def qw_sn (S : qw_S) (c i j : Nat) (v : Nat) : qw_S := (S.1, fun a b => if a = c ∧ b = i then (fun d => if d = j then v else S.2 a b d) else S.2 a b)
theorem qw_sn_ne {S : qw_S} {c i j : Nat} {v : Nat} {a b : Nat} (h : ¬ (a = c ∧ b = i)) : (qw_sn S c i j v).2 a b = S.2 a b := if_neg h
theorem qw_sn_eq {S : qw_S} {c i j : Nat} {v : Nat} : (qw_sn S c i j v).2 c i = fun d => if d = j then v else S.2 c i d := if_pos ⟨rfl, rfl⟩
theorem qw_sn_at {S : qw_S} {c i j : Nat} {v : Nat} {a b d : Nat} : (qw_sn S c i j v).2 a b d = if a = c ∧ b = i ∧ d = j then v else S.2 a b d := by
  unfold qw_sn
  by_cases h : a = c ∧ b = i
  · simp only [h, and_self, if_true, true_and]
  · simp only [h, if_false]
    rw [if_neg (fun q => h ⟨q.1, q.2.1⟩)]
theorem qw_sn_o {S : qw_S} {c i j : Nat} {v : Nat} : (qw_sn S c i j v).1 = S.1 := rfl
def qw_sr (S : qw_S) (c i : Nat) (f : Nat → Int32) : qw_S := (fun a b => if a = c ∧ b = i then f else S.1 a b, S.2)
theorem qw_sr_ne {S : qw_S} {c i : Nat} {f : Nat → Int32} {a b : Nat} (h : ¬ (a = c ∧ b = i)) : (qw_sr S c i f).1 a b = S.1 a b := if_neg h
theorem qw_sr_eq {S : qw_S} {c i : Nat} {f : Nat → Int32} : (qw_sr S c i f).1 c i = f := if_pos ⟨rfl, rfl⟩
theorem qw_sr_at {S : qw_S} {c i : Nat} {f : Nat → Int32} {a b d : Nat} : (qw_sr S c i f).1 a b d = if a = c ∧ b = i then f d else S.1 a b d := by
  unfold qw_sr
  by_cases h : a = c ∧ b = i
  · rw [if_pos h]
    exact congrFun (if_pos h) d
  · rw [if_neg h]
    exact congrFun (if_neg h) d
theorem qw_sr_o {S : qw_S} {c i : Nat} {f : Nat → Int32} : (qw_sr S c i f).2 = S.2 := rfl
def qw_co (q : Nat) : Nat := if q < 1 then (0) else if q < 2 then (1) else if q < 3 then (2) else if q < 4 then (3) else if q < 5 then (4) else if q < 6 then (5) else if q < 7 then (6) else if q < 8 then (7) else if q < 9 then (8) else if q < 10 then (9) else if q < 11 then (10) else if q < 12 then (11) else if q < 13 then (12) else if q < 14 then (13) else if q < 15 then (14) else if q < 16 then (15) else if q < 17 then (16) else (17)
def qw_ix (q : Nat) : Nat := if q < 1 then q - 0 else if q < 2 then q - 1 else if q < 3 then q - 2 else if q < 4 then q - 3 else if q < 5 then q - 4 else if q < 6 then q - 5 else if q < 7 then q - 6 else if q < 8 then q - 7 else if q < 9 then q - 8 else if q < 10 then q - 9 else if q < 11 then q - 10 else if q < 12 then q - 11 else if q < 13 then q - 12 else if q < 14 then q - 13 else if q < 15 then q - 14 else if q < 16 then q - 15 else if q < 17 then q - 16 else q - 17
def qw_pl (c i : Nat) : Nat := match c with
  | 0 => 0 + i
  | 1 => 1 + i
  | 2 => 2 + i
  | 3 => 3 + i
  | 4 => 4 + i
  | 5 => 5 + i
  | 6 => 6 + i
  | 7 => 7 + i
  | 8 => 8 + i
  | 9 => 9 + i
  | 10 => 10 + i
  | 11 => 11 + i
  | 12 => 12 + i
  | 13 => 13 + i
  | 14 => 14 + i
  | 15 => 15 + i
  | 16 => 16 + i
  | _ => 17 + i
theorem qw_plc (q : Nat) : qw_pl (qw_co q) (qw_ix q) = q := by
  unfold qw_co qw_ix
  by_cases h0 : q < 1
  · rw [if_pos h0, if_pos h0]
    show 0 + (q - 0) = q
    omega
  rw [if_neg h0, if_neg h0]
  by_cases h1 : q < 2
  · rw [if_pos h1, if_pos h1]
    show 1 + (q - 1) = q
    omega
  rw [if_neg h1, if_neg h1]
  by_cases h2 : q < 3
  · rw [if_pos h2, if_pos h2]
    show 2 + (q - 2) = q
    omega
  rw [if_neg h2, if_neg h2]
  by_cases h3 : q < 4
  · rw [if_pos h3, if_pos h3]
    show 3 + (q - 3) = q
    omega
  rw [if_neg h3, if_neg h3]
  by_cases h4 : q < 5
  · rw [if_pos h4, if_pos h4]
    show 4 + (q - 4) = q
    omega
  rw [if_neg h4, if_neg h4]
  by_cases h5 : q < 6
  · rw [if_pos h5, if_pos h5]
    show 5 + (q - 5) = q
    omega
  rw [if_neg h5, if_neg h5]
  by_cases h6 : q < 7
  · rw [if_pos h6, if_pos h6]
    show 6 + (q - 6) = q
    omega
  rw [if_neg h6, if_neg h6]
  by_cases h7 : q < 8
  · rw [if_pos h7, if_pos h7]
    show 7 + (q - 7) = q
    omega
  rw [if_neg h7, if_neg h7]
  by_cases h8 : q < 9
  · rw [if_pos h8, if_pos h8]
    show 8 + (q - 8) = q
    omega
  rw [if_neg h8, if_neg h8]
  by_cases h9 : q < 10
  · rw [if_pos h9, if_pos h9]
    show 9 + (q - 9) = q
    omega
  rw [if_neg h9, if_neg h9]
  by_cases h10 : q < 11
  · rw [if_pos h10, if_pos h10]
    show 10 + (q - 10) = q
    omega
  rw [if_neg h10, if_neg h10]
  by_cases h11 : q < 12
  · rw [if_pos h11, if_pos h11]
    show 11 + (q - 11) = q
    omega
  rw [if_neg h11, if_neg h11]
  by_cases h12 : q < 13
  · rw [if_pos h12, if_pos h12]
    show 12 + (q - 12) = q
    omega
  rw [if_neg h12, if_neg h12]
  by_cases h13 : q < 14
  · rw [if_pos h13, if_pos h13]
    show 13 + (q - 13) = q
    omega
  rw [if_neg h13, if_neg h13]
  by_cases h14 : q < 15
  · rw [if_pos h14, if_pos h14]
    show 14 + (q - 14) = q
    omega
  rw [if_neg h14, if_neg h14]
  by_cases h15 : q < 16
  · rw [if_pos h15, if_pos h15]
    show 15 + (q - 15) = q
    omega
  rw [if_neg h15, if_neg h15]
  by_cases h16 : q < 17
  · rw [if_pos h16, if_pos h16]
    show 16 + (q - 16) = q
    omega
  rw [if_neg h16, if_neg h16]
  show 17 + (q - 17) = q
  omega
theorem qw_inj {q r : Nat} (h1 : qw_co q = qw_co r) (h2 : qw_ix q = qw_ix r) : q = r := by
  rw [← qw_plc q, ← qw_plc r, h1, h2]
def qw_cell (cI cZ : ClassId) (ad : Nat → Nat) (c i : Nat) (f : Nat → Int32) (g : Nat → Nat) : va_E := match c with
  | 0 => .inr (4, [.ref (ad 1), .ref (ad 2), .ref (ad 3), .ref (ad 4), .ref (ad 5), .ref (ad 6), .ref (ad 7), .ref (ad 8), .ref (ad 9), .ref (ad 10), .ref (ad 11), .ref (ad 12), .ref (ad 13), .ref (ad 14), .ref (ad 15), .ref (ad 16), .ref (ad 17), .int (f 0), .int (nI ((g 0) % 4)), .int (f 1), .int (nI ((g 1) % 6)), .int (nI (g 2)), .int (f 2)])
  | 1 => .inl (cI, 4, .inl (f))
  | 2 => .inl (cI, 4, .inl (f))
  | 3 => .inl (cI, 4, .inl (fun j => qw_pa (g j)))
  | 4 => .inl (cI, 4, .inl (f))
  | 5 => .inl (cI, 4, .inl (f))
  | 6 => .inl (cI, 4, .inl (f))
  | 7 => .inl (cI, 4, .inl (f))
  | 8 => .inl (cI, 16, .inl (f))
  | 9 => .inl (cI, 32, .inl (fun j => qw_pg (g j)))
  | 10 => .inl (cZ, 34, .inl (f))
  | 11 => .inl (cZ, 34, .inl (f))
  | 12 => .inl (cZ, 34, .inl (f))
  | 13 => .inl (cI, 34, .inl (f))
  | 14 => .inl (cI, 34, .inl (f))
  | 15 => .inl (cI, 272, .inl (f))
  | 16 => .inl (cI, 40, .inl (f))
  | _ => .inl (cI, 14, .inl (f))
def qw_C (cI cZ : ClassId) (ad : Nat → Nat) (S : qw_S) : Nat → va_E := fun q => qw_cell cI cZ ad (qw_co q) (qw_ix q) (S.1 (qw_co q) (qw_ix q)) (S.2 (qw_co q) (qw_ix q))
theorem qw_up {cI cZ : ClassId} {ad : Nat → Nat} {S S2 : qw_S} {q0 c i : Nat} {e : va_E} (hc : qw_co q0 = c ∧ qw_ix q0 = i) (h1 : ∀ a b, ¬ (a = c ∧ b = i) → S2.1 a b = S.1 a b) (h2 : ∀ a b, ¬ (a = c ∧ b = i) → S2.2 a b = S.2 a b) (he : e = qw_cell cI cZ ad c i (S2.1 c i) (S2.2 c i)) : va_up (qw_C cI cZ ad S) q0 e = qw_C cI cZ ad S2 := by
  funext q
  by_cases hq : q = q0
  · subst hq
    rw [va_up_self, he]
    unfold qw_C
    rw [hc.1, hc.2]
  · rw [va_up_ne _ _ hq]
    have hne : ¬ (qw_co q = c ∧ qw_ix q = i) := fun h => hq (qw_inj (h.1.trans hc.1.symm) (h.2.trans hc.2.symm))
    unfold qw_C
    rw [h1 _ _ hne, h2 _ _ hne]
theorem qw_coQ : qw_co 0 = 0 ∧ qw_ix 0 = 0 := ⟨by decide, by decide⟩
theorem qw_cQ {cI cZ : ClassId} {ad : Nat → Nat} {S : qw_S} : qw_C cI cZ ad S 0 = .inr (4, [.ref (ad 1), .ref (ad 2), .ref (ad 3), .ref (ad 4), .ref (ad 5), .ref (ad 6), .ref (ad 7), .ref (ad 8), .ref (ad 9), .ref (ad 10), .ref (ad 11), .ref (ad 12), .ref (ad 13), .ref (ad 14), .ref (ad 15), .ref (ad 16), .ref (ad 17), .int (S.1 0 0 0), .int (nI ((S.2 0 0 0) % 4)), .int (S.1 0 0 1), .int (nI ((S.2 0 0 1) % 6)), .int (nI (S.2 0 0 2)), .int (S.1 0 0 2)]) := by
  unfold qw_C
  rw [(qw_coQ).1, (qw_coQ).2]
  rfl
theorem qw_pQ_time {cI cZ : ClassId} {ad : Nat → Nat} {S : qw_S} {v : Int32} : va_up (qw_C cI cZ ad S) 0 (.inr (4, [.ref (ad 1), .ref (ad 2), .ref (ad 3), .ref (ad 4), .ref (ad 5), .ref (ad 6), .ref (ad 7), .ref (ad 8), .ref (ad 9), .ref (ad 10), .ref (ad 11), .ref (ad 12), .ref (ad 13), .ref (ad 14), .ref (ad 15), .ref (ad 16), .ref (ad 17), .int (S.1 0 0 0), .int (nI ((S.2 0 0 0) % 4)), .int (S.1 0 0 1), .int (nI ((S.2 0 0 1) % 6)), .int (nI (S.2 0 0 2)), .int (S.1 0 0 2)].set 17 (.int v))) = qw_C cI cZ ad (qw_si S 0 0 0 v) := by
  refine qw_up (qw_coQ) (fun _ _ h9 => qw_si_ne h9) (fun _ _ _ => rfl) ?_
  rw [qw_si_eq]
  rfl
theorem qw_pQ_turn {cI cZ : ClassId} {ad : Nat → Nat} {S : qw_S} {x : Nat} {v : Int32} (hv : v = nI (x % 4)) : va_up (qw_C cI cZ ad S) 0 (.inr (4, [.ref (ad 1), .ref (ad 2), .ref (ad 3), .ref (ad 4), .ref (ad 5), .ref (ad 6), .ref (ad 7), .ref (ad 8), .ref (ad 9), .ref (ad 10), .ref (ad 11), .ref (ad 12), .ref (ad 13), .ref (ad 14), .ref (ad 15), .ref (ad 16), .ref (ad 17), .int (S.1 0 0 0), .int (nI ((S.2 0 0 0) % 4)), .int (S.1 0 0 1), .int (nI ((S.2 0 0 1) % 6)), .int (nI (S.2 0 0 2)), .int (S.1 0 0 2)].set 18 (.int v))) = qw_C cI cZ ad (qw_sn S 0 0 0 x) := by
  subst hv
  refine qw_up (qw_coQ) (fun _ _ _ => rfl) (fun _ _ h9 => qw_sn_ne h9) ?_
  rw [qw_sn_eq]
  rfl
theorem qw_pQ_inTurn {cI cZ : ClassId} {ad : Nat → Nat} {S : qw_S} {v : Int32} : va_up (qw_C cI cZ ad S) 0 (.inr (4, [.ref (ad 1), .ref (ad 2), .ref (ad 3), .ref (ad 4), .ref (ad 5), .ref (ad 6), .ref (ad 7), .ref (ad 8), .ref (ad 9), .ref (ad 10), .ref (ad 11), .ref (ad 12), .ref (ad 13), .ref (ad 14), .ref (ad 15), .ref (ad 16), .ref (ad 17), .int (S.1 0 0 0), .int (nI ((S.2 0 0 0) % 4)), .int (S.1 0 0 1), .int (nI ((S.2 0 0 1) % 6)), .int (nI (S.2 0 0 2)), .int (S.1 0 0 2)].set 19 (.int v))) = qw_C cI cZ ad (qw_si S 0 0 1 v) := by
  refine qw_up (qw_coQ) (fun _ _ h9 => qw_si_ne h9) (fun _ _ _ => rfl) ?_
  rw [qw_si_eq]
  rfl
theorem qw_pQ_hand {cI cZ : ClassId} {ad : Nat → Nat} {S : qw_S} {x : Nat} {v : Int32} (hv : v = nI (x % 6)) : va_up (qw_C cI cZ ad S) 0 (.inr (4, [.ref (ad 1), .ref (ad 2), .ref (ad 3), .ref (ad 4), .ref (ad 5), .ref (ad 6), .ref (ad 7), .ref (ad 8), .ref (ad 9), .ref (ad 10), .ref (ad 11), .ref (ad 12), .ref (ad 13), .ref (ad 14), .ref (ad 15), .ref (ad 16), .ref (ad 17), .int (S.1 0 0 0), .int (nI ((S.2 0 0 0) % 4)), .int (S.1 0 0 1), .int (nI ((S.2 0 0 1) % 6)), .int (nI (S.2 0 0 2)), .int (S.1 0 0 2)].set 20 (.int v))) = qw_C cI cZ ad (qw_sn S 0 0 1 x) := by
  subst hv
  refine qw_up (qw_coQ) (fun _ _ _ => rfl) (fun _ _ h9 => qw_sn_ne h9) ?_
  rw [qw_sn_eq]
  rfl
theorem qw_pQ_print {cI cZ : ClassId} {ad : Nat → Nat} {S : qw_S} {x : Nat} {v : Int32} (hv : v = nI x) : va_up (qw_C cI cZ ad S) 0 (.inr (4, [.ref (ad 1), .ref (ad 2), .ref (ad 3), .ref (ad 4), .ref (ad 5), .ref (ad 6), .ref (ad 7), .ref (ad 8), .ref (ad 9), .ref (ad 10), .ref (ad 11), .ref (ad 12), .ref (ad 13), .ref (ad 14), .ref (ad 15), .ref (ad 16), .ref (ad 17), .int (S.1 0 0 0), .int (nI ((S.2 0 0 0) % 4)), .int (S.1 0 0 1), .int (nI ((S.2 0 0 1) % 6)), .int (nI (S.2 0 0 2)), .int (S.1 0 0 2)].set 21 (.int v))) = qw_C cI cZ ad (qw_sn S 0 0 2 x) := by
  subst hv
  refine qw_up (qw_coQ) (fun _ _ _ => rfl) (fun _ _ h9 => qw_sn_ne h9) ?_
  rw [qw_sn_eq]
  rfl
theorem qw_pQ_over {cI cZ : ClassId} {ad : Nat → Nat} {S : qw_S} {v : Int32} : va_up (qw_C cI cZ ad S) 0 (.inr (4, [.ref (ad 1), .ref (ad 2), .ref (ad 3), .ref (ad 4), .ref (ad 5), .ref (ad 6), .ref (ad 7), .ref (ad 8), .ref (ad 9), .ref (ad 10), .ref (ad 11), .ref (ad 12), .ref (ad 13), .ref (ad 14), .ref (ad 15), .ref (ad 16), .ref (ad 17), .int (S.1 0 0 0), .int (nI ((S.2 0 0 0) % 4)), .int (S.1 0 0 1), .int (nI ((S.2 0 0 1) % 6)), .int (nI (S.2 0 0 2)), .int (S.1 0 0 2)].set 22 (.int v))) = qw_C cI cZ ad (qw_si S 0 0 2 v) := by
  refine qw_up (qw_coQ) (fun _ _ h9 => qw_si_ne h9) (fun _ _ _ => rfl) ?_
  rw [qw_si_eq]
  rfl
theorem qw_costate : qw_co 1 = 1 ∧ qw_ix 1 = 0 := ⟨by decide, by decide⟩
theorem qw_cstate {cI cZ : ClassId} {ad : Nat → Nat} {S : qw_S} : qw_C cI cZ ad S 1 = .inl (cI, 4, .inl (S.1 1 0)) := by
  unfold qw_C
  rw [(qw_costate).1, (qw_costate).2]
  rfl
theorem qw_pstate {cI cZ : ClassId} {ad : Nat → Nat} {S : qw_S} {j : Nat} {v : Int32} : va_up (qw_C cI cZ ad S) 1 (.inl (cI, 4, .inl (upd (S.1 1 0) j v))) = qw_C cI cZ ad (qw_si S 1 0 j v) := by
  refine qw_up (qw_costate) (fun _ _ h9 => qw_si_ne h9) (fun _ _ _ => rfl) ?_
  rw [qw_si_eq]
  rfl
theorem qw_pfstate {cI cZ : ClassId} {ad : Nat → Nat} {S : qw_S} {f : Nat → Int32} : va_up (qw_C cI cZ ad S) 1 (.inl (cI, 4, .inl f)) = qw_C cI cZ ad (qw_sr S 1 0 f) := by
  refine qw_up (qw_costate) (fun _ _ h9 => qw_sr_ne h9) (fun _ _ _ => rfl) ?_
  rw [qw_sr_eq]
  rfl
theorem qw_coplace : qw_co 2 = 2 ∧ qw_ix 2 = 0 := ⟨by decide, by decide⟩
theorem qw_cplace {cI cZ : ClassId} {ad : Nat → Nat} {S : qw_S} : qw_C cI cZ ad S 2 = .inl (cI, 4, .inl (S.1 2 0)) := by
  unfold qw_C
  rw [(qw_coplace).1, (qw_coplace).2]
  rfl
theorem qw_pplace {cI cZ : ClassId} {ad : Nat → Nat} {S : qw_S} {j : Nat} {v : Int32} : va_up (qw_C cI cZ ad S) 2 (.inl (cI, 4, .inl (upd (S.1 2 0) j v))) = qw_C cI cZ ad (qw_si S 2 0 j v) := by
  refine qw_up (qw_coplace) (fun _ _ h9 => qw_si_ne h9) (fun _ _ _ => rfl) ?_
  rw [qw_si_eq]
  rfl
theorem qw_pfplace {cI cZ : ClassId} {ad : Nat → Nat} {S : qw_S} {f : Nat → Int32} : va_up (qw_C cI cZ ad S) 2 (.inl (cI, 4, .inl f)) = qw_C cI cZ ad (qw_sr S 2 0 f) := by
  refine qw_up (qw_coplace) (fun _ _ h9 => qw_sr_ne h9) (fun _ _ _ => rfl) ?_
  rw [qw_sr_eq]
  rfl
theorem qw_coparent : qw_co 3 = 3 ∧ qw_ix 3 = 0 := ⟨by decide, by decide⟩
theorem qw_cparent {cI cZ : ClassId} {ad : Nat → Nat} {S : qw_S} : qw_C cI cZ ad S 3 = .inl (cI, 4, .inl (fun j => qw_pa (S.2 3 0 j))) := by
  unfold qw_C
  rw [(qw_coparent).1, (qw_coparent).2]
  rfl
theorem qw_pparent {cI cZ : ClassId} {ad : Nat → Nat} {S : qw_S} {j x : Nat} {v : Int32} (hv : v = qw_pa x) : va_up (qw_C cI cZ ad S) 3 (.inl (cI, 4, .inl (upd (fun j => qw_pa (S.2 3 0 j)) j v))) = qw_C cI cZ ad (qw_sn S 3 0 j x) := by
  subst hv
  refine qw_up (qw_coparent) (fun _ _ _ => rfl) (fun _ _ h9 => qw_sn_ne h9) ?_
  rw [qw_sn_eq]
  have hf : upd (fun j => qw_pa (S.2 3 0 j)) j (qw_pa x) = fun d => qw_pa (if d = j then x else S.2 3 0 d) := by
    funext d
    unfold upd
    by_cases h9 : d = j
    · rw [if_pos h9, if_pos h9]
    · rw [if_neg h9, if_neg h9]
  rw [hf]
  rfl
theorem qw_cocode : qw_co 4 = 4 ∧ qw_ix 4 = 0 := ⟨by decide, by decide⟩
theorem qw_ccode {cI cZ : ClassId} {ad : Nat → Nat} {S : qw_S} : qw_C cI cZ ad S 4 = .inl (cI, 4, .inl (S.1 4 0)) := by
  unfold qw_C
  rw [(qw_cocode).1, (qw_cocode).2]
  rfl
theorem qw_pcode {cI cZ : ClassId} {ad : Nat → Nat} {S : qw_S} {j : Nat} {v : Int32} : va_up (qw_C cI cZ ad S) 4 (.inl (cI, 4, .inl (upd (S.1 4 0) j v))) = qw_C cI cZ ad (qw_si S 4 0 j v) := by
  refine qw_up (qw_cocode) (fun _ _ h9 => qw_si_ne h9) (fun _ _ _ => rfl) ?_
  rw [qw_si_eq]
  rfl
theorem qw_pfcode {cI cZ : ClassId} {ad : Nat → Nat} {S : qw_S} {f : Nat → Int32} : va_up (qw_C cI cZ ad S) 4 (.inl (cI, 4, .inl f)) = qw_C cI cZ ad (qw_sr S 4 0 f) := by
  refine qw_up (qw_cocode) (fun _ _ h9 => qw_sr_ne h9) (fun _ _ _ => rfl) ?_
  rw [qw_sr_eq]
  rfl
theorem qw_cowake : qw_co 5 = 5 ∧ qw_ix 5 = 0 := ⟨by decide, by decide⟩
theorem qw_cwake {cI cZ : ClassId} {ad : Nat → Nat} {S : qw_S} : qw_C cI cZ ad S 5 = .inl (cI, 4, .inl (S.1 5 0)) := by
  unfold qw_C
  rw [(qw_cowake).1, (qw_cowake).2]
  rfl
theorem qw_pwake {cI cZ : ClassId} {ad : Nat → Nat} {S : qw_S} {j : Nat} {v : Int32} : va_up (qw_C cI cZ ad S) 5 (.inl (cI, 4, .inl (upd (S.1 5 0) j v))) = qw_C cI cZ ad (qw_si S 5 0 j v) := by
  refine qw_up (qw_cowake) (fun _ _ h9 => qw_si_ne h9) (fun _ _ _ => rfl) ?_
  rw [qw_si_eq]
  rfl
theorem qw_pfwake {cI cZ : ClassId} {ad : Nat → Nat} {S : qw_S} {f : Nat → Int32} : va_up (qw_C cI cZ ad S) 5 (.inl (cI, 4, .inl f)) = qw_C cI cZ ad (qw_sr S 5 0 f) := by
  refine qw_up (qw_cowake) (fun _ _ h9 => qw_sr_ne h9) (fun _ _ _ => rfl) ?_
  rw [qw_sr_eq]
  rfl
theorem qw_cofaults : qw_co 6 = 6 ∧ qw_ix 6 = 0 := ⟨by decide, by decide⟩
theorem qw_cfaults {cI cZ : ClassId} {ad : Nat → Nat} {S : qw_S} : qw_C cI cZ ad S 6 = .inl (cI, 4, .inl (S.1 6 0)) := by
  unfold qw_C
  rw [(qw_cofaults).1, (qw_cofaults).2]
  rfl
theorem qw_pfaults {cI cZ : ClassId} {ad : Nat → Nat} {S : qw_S} {j : Nat} {v : Int32} : va_up (qw_C cI cZ ad S) 6 (.inl (cI, 4, .inl (upd (S.1 6 0) j v))) = qw_C cI cZ ad (qw_si S 6 0 j v) := by
  refine qw_up (qw_cofaults) (fun _ _ h9 => qw_si_ne h9) (fun _ _ _ => rfl) ?_
  rw [qw_si_eq]
  rfl
theorem qw_pffaults {cI cZ : ClassId} {ad : Nat → Nat} {S : qw_S} {f : Nat → Int32} : va_up (qw_C cI cZ ad S) 6 (.inl (cI, 4, .inl f)) = qw_C cI cZ ad (qw_sr S 6 0 f) := by
  refine qw_up (qw_cofaults) (fun _ _ h9 => qw_sr_ne h9) (fun _ _ _ => rfl) ?_
  rw [qw_sr_eq]
  rfl
theorem qw_cobegun : qw_co 7 = 7 ∧ qw_ix 7 = 0 := ⟨by decide, by decide⟩
theorem qw_cbegun {cI cZ : ClassId} {ad : Nat → Nat} {S : qw_S} : qw_C cI cZ ad S 7 = .inl (cI, 4, .inl (S.1 7 0)) := by
  unfold qw_C
  rw [(qw_cobegun).1, (qw_cobegun).2]
  rfl
theorem qw_pbegun {cI cZ : ClassId} {ad : Nat → Nat} {S : qw_S} {j : Nat} {v : Int32} : va_up (qw_C cI cZ ad S) 7 (.inl (cI, 4, .inl (upd (S.1 7 0) j v))) = qw_C cI cZ ad (qw_si S 7 0 j v) := by
  refine qw_up (qw_cobegun) (fun _ _ h9 => qw_si_ne h9) (fun _ _ _ => rfl) ?_
  rw [qw_si_eq]
  rfl
theorem qw_pfbegun {cI cZ : ClassId} {ad : Nat → Nat} {S : qw_S} {f : Nat → Int32} : va_up (qw_C cI cZ ad S) 7 (.inl (cI, 4, .inl f)) = qw_C cI cZ ad (qw_sr S 7 0 f) := by
  refine qw_up (qw_cobegun) (fun _ _ h9 => qw_sr_ne h9) (fun _ _ _ => rfl) ?_
  rw [qw_sr_eq]
  rfl
theorem qw_coregister : qw_co 8 = 8 ∧ qw_ix 8 = 0 := ⟨by decide, by decide⟩
theorem qw_cregister {cI cZ : ClassId} {ad : Nat → Nat} {S : qw_S} : qw_C cI cZ ad S 8 = .inl (cI, 16, .inl (S.1 8 0)) := by
  unfold qw_C
  rw [(qw_coregister).1, (qw_coregister).2]
  rfl
theorem qw_pregister {cI cZ : ClassId} {ad : Nat → Nat} {S : qw_S} {j : Nat} {v : Int32} : va_up (qw_C cI cZ ad S) 8 (.inl (cI, 16, .inl (upd (S.1 8 0) j v))) = qw_C cI cZ ad (qw_si S 8 0 j v) := by
  refine qw_up (qw_coregister) (fun _ _ h9 => qw_si_ne h9) (fun _ _ _ => rfl) ?_
  rw [qw_si_eq]
  rfl
theorem qw_pfregister {cI cZ : ClassId} {ad : Nat → Nat} {S : qw_S} {f : Nat → Int32} : va_up (qw_C cI cZ ad S) 8 (.inl (cI, 16, .inl f)) = qw_C cI cZ ad (qw_sr S 8 0 f) := by
  refine qw_up (qw_coregister) (fun _ _ h9 => qw_sr_ne h9) (fun _ _ _ => rfl) ?_
  rw [qw_sr_eq]
  rfl
theorem qw_copage : qw_co 9 = 9 ∧ qw_ix 9 = 0 := ⟨by decide, by decide⟩
theorem qw_cpage {cI cZ : ClassId} {ad : Nat → Nat} {S : qw_S} : qw_C cI cZ ad S 9 = .inl (cI, 32, .inl (fun j => qw_pg (S.2 9 0 j))) := by
  unfold qw_C
  rw [(qw_copage).1, (qw_copage).2]
  rfl
theorem qw_ppage {cI cZ : ClassId} {ad : Nat → Nat} {S : qw_S} {j x : Nat} {v : Int32} (hv : v = qw_pg x) : va_up (qw_C cI cZ ad S) 9 (.inl (cI, 32, .inl (upd (fun j => qw_pg (S.2 9 0 j)) j v))) = qw_C cI cZ ad (qw_sn S 9 0 j x) := by
  subst hv
  refine qw_up (qw_copage) (fun _ _ _ => rfl) (fun _ _ h9 => qw_sn_ne h9) ?_
  rw [qw_sn_eq]
  have hf : upd (fun j => qw_pg (S.2 9 0 j)) j (qw_pg x) = fun d => qw_pg (if d = j then x else S.2 9 0 d) := by
    funext d
    unfold upd
    by_cases h9 : d = j
    · rw [if_pos h9, if_pos h9]
    · rw [if_neg h9, if_neg h9]
  rw [hf]
  rfl
theorem qw_cois : qw_co 10 = 10 ∧ qw_ix 10 = 0 := ⟨by decide, by decide⟩
theorem qw_cis {cI cZ : ClassId} {ad : Nat → Nat} {S : qw_S} : qw_C cI cZ ad S 10 = .inl (cZ, 34, .inl (S.1 10 0)) := by
  unfold qw_C
  rw [(qw_cois).1, (qw_cois).2]
  rfl
theorem qw_pis {cI cZ : ClassId} {ad : Nat → Nat} {S : qw_S} {j : Nat} {v : Int32} : va_up (qw_C cI cZ ad S) 10 (.inl (cZ, 34, .inl (upd (S.1 10 0) j v))) = qw_C cI cZ ad (qw_si S 10 0 j v) := by
  refine qw_up (qw_cois) (fun _ _ h9 => qw_si_ne h9) (fun _ _ _ => rfl) ?_
  rw [qw_si_eq]
  rfl
theorem qw_pfis {cI cZ : ClassId} {ad : Nat → Nat} {S : qw_S} {f : Nat → Int32} : va_up (qw_C cI cZ ad S) 10 (.inl (cZ, 34, .inl f)) = qw_C cI cZ ad (qw_sr S 10 0 f) := by
  refine qw_up (qw_cois) (fun _ _ h9 => qw_sr_ne h9) (fun _ _ _ => rfl) ?_
  rw [qw_sr_eq]
  rfl
theorem qw_coused : qw_co 11 = 11 ∧ qw_ix 11 = 0 := ⟨by decide, by decide⟩
theorem qw_cused {cI cZ : ClassId} {ad : Nat → Nat} {S : qw_S} : qw_C cI cZ ad S 11 = .inl (cZ, 34, .inl (S.1 11 0)) := by
  unfold qw_C
  rw [(qw_coused).1, (qw_coused).2]
  rfl
theorem qw_pused {cI cZ : ClassId} {ad : Nat → Nat} {S : qw_S} {j : Nat} {v : Int32} : va_up (qw_C cI cZ ad S) 11 (.inl (cZ, 34, .inl (upd (S.1 11 0) j v))) = qw_C cI cZ ad (qw_si S 11 0 j v) := by
  refine qw_up (qw_coused) (fun _ _ h9 => qw_si_ne h9) (fun _ _ _ => rfl) ?_
  rw [qw_si_eq]
  rfl
theorem qw_pfused {cI cZ : ClassId} {ad : Nat → Nat} {S : qw_S} {f : Nat → Int32} : va_up (qw_C cI cZ ad S) 11 (.inl (cZ, 34, .inl f)) = qw_C cI cZ ad (qw_sr S 11 0 f) := by
  refine qw_up (qw_coused) (fun _ _ h9 => qw_sr_ne h9) (fun _ _ _ => rfl) ?_
  rw [qw_sr_eq]
  rfl
theorem qw_cochanged : qw_co 12 = 12 ∧ qw_ix 12 = 0 := ⟨by decide, by decide⟩
theorem qw_cchanged {cI cZ : ClassId} {ad : Nat → Nat} {S : qw_S} : qw_C cI cZ ad S 12 = .inl (cZ, 34, .inl (S.1 12 0)) := by
  unfold qw_C
  rw [(qw_cochanged).1, (qw_cochanged).2]
  rfl
theorem qw_pchanged {cI cZ : ClassId} {ad : Nat → Nat} {S : qw_S} {j : Nat} {v : Int32} : va_up (qw_C cI cZ ad S) 12 (.inl (cZ, 34, .inl (upd (S.1 12 0) j v))) = qw_C cI cZ ad (qw_si S 12 0 j v) := by
  refine qw_up (qw_cochanged) (fun _ _ h9 => qw_si_ne h9) (fun _ _ _ => rfl) ?_
  rw [qw_si_eq]
  rfl
theorem qw_pfchanged {cI cZ : ClassId} {ad : Nat → Nat} {S : qw_S} {f : Nat → Int32} : va_up (qw_C cI cZ ad S) 12 (.inl (cZ, 34, .inl f)) = qw_C cI cZ ad (qw_sr S 12 0 f) := by
  refine qw_up (qw_cochanged) (fun _ _ h9 => qw_sr_ne h9) (fun _ _ _ => rfl) ?_
  rw [qw_sr_eq]
  rfl
theorem qw_coframe : qw_co 13 = 13 ∧ qw_ix 13 = 0 := ⟨by decide, by decide⟩
theorem qw_cframe {cI cZ : ClassId} {ad : Nat → Nat} {S : qw_S} : qw_C cI cZ ad S 13 = .inl (cI, 34, .inl (S.1 13 0)) := by
  unfold qw_C
  rw [(qw_coframe).1, (qw_coframe).2]
  rfl
theorem qw_pframe {cI cZ : ClassId} {ad : Nat → Nat} {S : qw_S} {j : Nat} {v : Int32} : va_up (qw_C cI cZ ad S) 13 (.inl (cI, 34, .inl (upd (S.1 13 0) j v))) = qw_C cI cZ ad (qw_si S 13 0 j v) := by
  refine qw_up (qw_coframe) (fun _ _ h9 => qw_si_ne h9) (fun _ _ _ => rfl) ?_
  rw [qw_si_eq]
  rfl
theorem qw_pfframe {cI cZ : ClassId} {ad : Nat → Nat} {S : qw_S} {f : Nat → Int32} : va_up (qw_C cI cZ ad S) 13 (.inl (cI, 34, .inl f)) = qw_C cI cZ ad (qw_sr S 13 0 f) := by
  refine qw_up (qw_coframe) (fun _ _ h9 => qw_sr_ne h9) (fun _ _ _ => rfl) ?_
  rw [qw_sr_eq]
  rfl
theorem qw_coslot : qw_co 14 = 14 ∧ qw_ix 14 = 0 := ⟨by decide, by decide⟩
theorem qw_cslot {cI cZ : ClassId} {ad : Nat → Nat} {S : qw_S} : qw_C cI cZ ad S 14 = .inl (cI, 34, .inl (S.1 14 0)) := by
  unfold qw_C
  rw [(qw_coslot).1, (qw_coslot).2]
  rfl
theorem qw_pslot {cI cZ : ClassId} {ad : Nat → Nat} {S : qw_S} {j : Nat} {v : Int32} : va_up (qw_C cI cZ ad S) 14 (.inl (cI, 34, .inl (upd (S.1 14 0) j v))) = qw_C cI cZ ad (qw_si S 14 0 j v) := by
  refine qw_up (qw_coslot) (fun _ _ h9 => qw_si_ne h9) (fun _ _ _ => rfl) ?_
  rw [qw_si_eq]
  rfl
theorem qw_pfslot {cI cZ : ClassId} {ad : Nat → Nat} {S : qw_S} {f : Nat → Int32} : va_up (qw_C cI cZ ad S) 14 (.inl (cI, 34, .inl f)) = qw_C cI cZ ad (qw_sr S 14 0 f) := by
  refine qw_up (qw_coslot) (fun _ _ h9 => qw_sr_ne h9) (fun _ _ _ => rfl) ?_
  rw [qw_sr_eq]
  rfl
theorem qw_coword : qw_co 15 = 15 ∧ qw_ix 15 = 0 := ⟨by decide, by decide⟩
theorem qw_cword {cI cZ : ClassId} {ad : Nat → Nat} {S : qw_S} : qw_C cI cZ ad S 15 = .inl (cI, 272, .inl (S.1 15 0)) := by
  unfold qw_C
  rw [(qw_coword).1, (qw_coword).2]
  rfl
theorem qw_pword {cI cZ : ClassId} {ad : Nat → Nat} {S : qw_S} {j : Nat} {v : Int32} : va_up (qw_C cI cZ ad S) 15 (.inl (cI, 272, .inl (upd (S.1 15 0) j v))) = qw_C cI cZ ad (qw_si S 15 0 j v) := by
  refine qw_up (qw_coword) (fun _ _ h9 => qw_si_ne h9) (fun _ _ _ => rfl) ?_
  rw [qw_si_eq]
  rfl
theorem qw_pfword {cI cZ : ClassId} {ad : Nat → Nat} {S : qw_S} {f : Nat → Int32} : va_up (qw_C cI cZ ad S) 15 (.inl (cI, 272, .inl f)) = qw_C cI cZ ad (qw_sr S 15 0 f) := by
  refine qw_up (qw_coword) (fun _ _ h9 => qw_sr_ne h9) (fun _ _ _ => rfl) ?_
  rw [qw_sr_eq]
  rfl
theorem qw_cooutput : qw_co 16 = 16 ∧ qw_ix 16 = 0 := ⟨by decide, by decide⟩
theorem qw_coutput {cI cZ : ClassId} {ad : Nat → Nat} {S : qw_S} : qw_C cI cZ ad S 16 = .inl (cI, 40, .inl (S.1 16 0)) := by
  unfold qw_C
  rw [(qw_cooutput).1, (qw_cooutput).2]
  rfl
theorem qw_poutput {cI cZ : ClassId} {ad : Nat → Nat} {S : qw_S} {j : Nat} {v : Int32} : va_up (qw_C cI cZ ad S) 16 (.inl (cI, 40, .inl (upd (S.1 16 0) j v))) = qw_C cI cZ ad (qw_si S 16 0 j v) := by
  refine qw_up (qw_cooutput) (fun _ _ h9 => qw_si_ne h9) (fun _ _ _ => rfl) ?_
  rw [qw_si_eq]
  rfl
theorem qw_pfoutput {cI cZ : ClassId} {ad : Nat → Nat} {S : qw_S} {f : Nat → Int32} : va_up (qw_C cI cZ ad S) 16 (.inl (cI, 40, .inl f)) = qw_C cI cZ ad (qw_sr S 16 0 f) := by
  refine qw_up (qw_cooutput) (fun _ _ h9 => qw_sr_ne h9) (fun _ _ _ => rfl) ?_
  rw [qw_sr_eq]
  rfl
theorem qw_cocounts : qw_co 17 = 17 ∧ qw_ix 17 = 0 := ⟨by decide, by decide⟩
theorem qw_ccounts {cI cZ : ClassId} {ad : Nat → Nat} {S : qw_S} : qw_C cI cZ ad S 17 = .inl (cI, 14, .inl (S.1 17 0)) := by
  unfold qw_C
  rw [(qw_cocounts).1, (qw_cocounts).2]
  rfl
theorem qw_pcounts {cI cZ : ClassId} {ad : Nat → Nat} {S : qw_S} {j : Nat} {v : Int32} : va_up (qw_C cI cZ ad S) 17 (.inl (cI, 14, .inl (upd (S.1 17 0) j v))) = qw_C cI cZ ad (qw_si S 17 0 j v) := by
  refine qw_up (qw_cocounts) (fun _ _ h9 => qw_si_ne h9) (fun _ _ _ => rfl) ?_
  rw [qw_si_eq]
  rfl
theorem qw_pfcounts {cI cZ : ClassId} {ad : Nat → Nat} {S : qw_S} {f : Nat → Int32} : va_up (qw_C cI cZ ad S) 17 (.inl (cI, 14, .inl f)) = qw_C cI cZ ad (qw_sr S 17 0 f) := by
  refine qw_up (qw_cocounts) (fun _ _ h9 => qw_sr_ne h9) (fun _ _ _ => rfl) ?_
  rw [qw_sr_eq]
  rfl
