/-! the reader: 103, its Emitters 104; a state: what is due, column, pattern, emitters -/
abbrev Cr : Type := Nat × Nat × Nat × List Em
def CrA (M : mx_M) (s : Cr) : Prop := s.1 ≤ 5 ∧ M 103 1 = nI s.1 ∧ ((s.1 = 1 ∨ s.1 = 2) → M 103 2 = nI s.2.1 ∧ s.2.1 < 10) ∧ (s.1 = 2 → M 103 3 = nI s.2.2.1 ∧ s.2.2.1 < 6) ∧ EmA M 104 s.2.2.2 ∧ (s.1 ≤ 2 → s.2.2.2.length < 4) ∧ (3 ≤ s.1 → s.2.2.2 ≠ [])
def patN (c : Nat) : Option Nat := if c = 100 then some 0 else if c = 108 then some 1 else if c = 114 then some 2 else if c = 119 then some 3 else if c = 97 then some 4 else if c = 102 then some 5 else none
def patI (c : Nat) : Int32 := match patN c with
  | some p => nI p
  | none => (-4)
def crS (s : Cr) (c : Nat) : Option Cr :=
  if s.1 = 0 then (if 48 ≤ c ∧ c ≤ 57 then some (1, c - 48, s.2.2.1, s.2.2.2) else none)
  else if s.1 = 1 then (match patN c with | some p => some (2, s.2.1, p, s.2.2.2) | none => none)
  else if s.1 = 2 then (if 49 ≤ c ∧ c ≤ 57 then some (3, s.2.1, s.2.2.1, s.2.2.2 ++ [(s.2.1, s.2.2.1, c - 48, 0)]) else none)
  else if s.1 = 4 then (match s.2.2.2.getLast? with | some e => if 48 ≤ c ∧ c - 48 < e.2.2.1 then some (5, s.2.1, s.2.2.1, s.2.2.2.dropLast ++ [(e.1, e.2.1, e.2.2.1, c - 48)]) else none | none => none)
  else if c = 43 ∧ s.1 = 3 then some (4, s.2.1, s.2.2.1, s.2.2.2)
  else if c = 59 ∧ s.2.2.2.length < 4 then some (0, s.2.1, s.2.2.1, s.2.2.2)
  else none
def crR (s : Cr) : List Nat → Nat × Option Cr
  | [] => (0, some s)
  | c :: L => match crS s c with
    | some t => ((crR t L).1 + 1, (crR t L).2)
    | none => (0, none)
def cr0 : Cr := (0, 0, 0, [])
def crF (L : List Nat) : Int32 := match (crR cr0 L).2 with
  | some s => if s.1 = 3 ∨ s.1 = 5 then (-4) else nI L.length
  | none => nI (crR cr0 L).1
theorem dg_1 : ∀ c, c < 127 → ((0 ≤ nI c - nI 48 ∧ nI c - nI 48 < nI 10) ↔ (48 ≤ c ∧ c ≤ 57)) := by decide +kernel
theorem dg_2 : ∀ c, c < 127 → ((nI 1 ≤ nI c - nI 48 ∧ nI c - nI 48 ≤ nI 9) ↔ (49 ≤ c ∧ c ≤ 57)) := by decide +kernel
theorem dg_3 : ∀ c, c < 127 → (nI c - nI 48 < 0 ↔ c < 48) := by decide +kernel
theorem pat_1 : ∀ c, c < 127 → ((0 ≤ patI c ∧ patI c ≤ nI 5) ↔ (patN c).isSome = true) := by decide +kernel
theorem pat_lt {c p : Nat} (h : patN c = some p) : p < 6 := by
  unfold patN at h
  repeat (split at h; · cases h; decide)
  cases h
theorem lk_1 : ∀ c, c < 127 → Op.lookupswitch.offset [(97, 67), (100, 59), (102, 69), (108, 61), (114, 63), (119, 65)] 71 (nI c).toInt = (if c = 97 then 67 else if c = 100 then 59 else if c = 102 then 69 else if c = 108 then 61 else if c = 114 then 63 else if c = 119 then 65 else 71) := by decide +kernel
set_option maxHeartbeats 1000000 in
set_option maxRecDepth 10000 in
theorem t_X1_patternOf (M : mx_M) (c : Nat) (hc : c < 127) : mx_T yX1_patternOf cX1_patternOf 1 (some .int) 1 [.int (nI c)] M (fun v M' => v = some (.int (patI c)) ∧ M' = M) := by
  refine mx_T.of1 (own := RX1) (ls := [some (.int (nI c))]) (by decide +kernel) rfl (Nat.le_of_ble_eq_true rfl) rfl rfl ?_
  refine mx_iload_n (pc' := 1) dX1_patternOf_0 rfl rfl ?_
  rcases (show c = 97 ∨ c = 100 ∨ c = 102 ∨ c = 108 ∨ c = 114 ∨ c = 119 ∨ (c ≠ 97 ∧ c ≠ 100 ∧ c ≠ 102 ∧ c ≠ 108 ∧ c ≠ 114 ∧ c ≠ 119) by omega) with rfl | rfl | rfl | rfl | rfl | rfl | h7
  · refine mx_lookup (pc' := 68) (off := 67) dX1_patternOf_1 rfl (lk_1 97 (by decide)) (by decide) ?_
    refine mx_iconst (pc' := 69) (v := nI 4) dX1_patternOf_68 (by decide) rfl ?_
    refine mx_iret dX1_patternOf_69 (Or.inl rfl) ?_
    exact ⟨rfl, rfl⟩
  · refine mx_lookup (pc' := 60) (off := 59) dX1_patternOf_1 rfl (lk_1 100 (by decide)) (by decide) ?_
    refine mx_iconst (pc' := 61) (v := nI 0) dX1_patternOf_60 (by decide) rfl ?_
    refine mx_iret dX1_patternOf_61 (Or.inl rfl) ?_
    exact ⟨rfl, rfl⟩
  · refine mx_lookup (pc' := 70) (off := 69) dX1_patternOf_1 rfl (lk_1 102 (by decide)) (by decide) ?_
    refine mx_iconst (pc' := 71) (v := nI 5) dX1_patternOf_70 (by decide) rfl ?_
    refine mx_iret dX1_patternOf_71 (Or.inl rfl) ?_
    exact ⟨rfl, rfl⟩
  · refine mx_lookup (pc' := 62) (off := 61) dX1_patternOf_1 rfl (lk_1 108 (by decide)) (by decide) ?_
    refine mx_iconst (pc' := 63) (v := nI 1) dX1_patternOf_62 (by decide) rfl ?_
    refine mx_iret dX1_patternOf_63 (Or.inl rfl) ?_
    exact ⟨rfl, rfl⟩
  · refine mx_lookup (pc' := 64) (off := 63) dX1_patternOf_1 rfl (lk_1 114 (by decide)) (by decide) ?_
    refine mx_iconst (pc' := 65) (v := nI 2) dX1_patternOf_64 (by decide) rfl ?_
    refine mx_iret dX1_patternOf_65 (Or.inl rfl) ?_
    exact ⟨rfl, rfl⟩
  · refine mx_lookup (pc' := 66) (off := 65) dX1_patternOf_1 rfl (lk_1 119 (by decide)) (by decide) ?_
    refine mx_iconst (pc' := 67) (v := nI 3) dX1_patternOf_66 (by decide) rfl ?_
    refine mx_iret dX1_patternOf_67 (Or.inl rfl) ?_
    exact ⟨rfl, rfl⟩
  · refine mx_lookup (pc' := 72) (off := 71) dX1_patternOf_1 rfl ((lk_1 c hc).trans (by simp [h7])) (by decide) ?_
    refine mx_bipush (pc' := 74) (v := (-4)) dX1_patternOf_72 (by decide) rfl ?_
    refine mx_iret dX1_patternOf_74 (Or.inl rfl) ?_
    exact ⟨by simp [patI, patN, h7], rfl⟩

set_option maxHeartbeats 1000000 in
set_option maxRecDepth 10000 in
theorem t_X1_takesColumn (M : mx_M) (x : Int32) : mx_T yX1_takesColumn cX1_takesColumn 2 (some .boolean) 2 [.ref 103, .int x] M (fun v M' => v = some (.int (bI (0 ≤ x ∧ x < nI 10))) ∧ M' = mx_up (mx_up M 103 2 x) 103 1 (nI 1)) := by
  refine mx_T.of1 (own := RX1) (ls := [some (.ref 103), some (.int x)]) (by decide +kernel) rfl (Nat.le_of_ble_eq_true rfl) rfl rfl ?_
  refine mx_aload_n (pc' := 1) dX1_takesColumn_0 rfl rfl ?_
  refine mx_iload_n (pc' := 2) dX1_takesColumn_1 rfl rfl ?_
  refine mx_putf (pc' := 5) dX1_takesColumn_2 fl_X1_22 (rfl) (by rfl) (⟨rfl, rfl⟩) rfl ?_
  refine mx_aload_n (pc' := 6) dX1_takesColumn_5 rfl rfl ?_
  refine mx_iconst (pc' := 7) (v := nI 1) dX1_takesColumn_6 (by decide) rfl ?_
  refine mx_putf (pc' := 10) dX1_takesColumn_7 fl_X1_18 (rfl) (by rfl) (⟨rfl, rfl⟩) rfl ?_
  refine mx_iload_n (pc' := 11) dX1_takesColumn_10 rfl rfl ?_
  refine mx_callN (pc' := 14) dX1_takesColumn_11 cl_X1_63 (t_X7_isColumn _ x) rfl (by decide) rfl (Nat.le_of_ble_eq_true rfl) rfl (fun v N11 hv => ?_)
  obtain ⟨rfl, hv⟩ := hv
  rw [hv]
  refine mx_iret dX1_takesColumn_14 (Or.inr ⟨rfl, bI_nb _⟩) ?_
  exact ⟨rfl, rfl⟩

set_option maxHeartbeats 1000000 in
set_option maxRecDepth 10000 in
theorem t_X1_takesPattern (M : mx_M) (x : Int32) : mx_T yX1_takesPattern cX1_takesPattern 2 (some .boolean) 2 [.ref 103, .int x] M (fun v M' => v = some (.int (bI (0 ≤ x ∧ x ≤ nI 5))) ∧ M' = mx_up (mx_up M 103 3 x) 103 1 (nI 2)) := by
  refine mx_T.of1 (own := RX1) (ls := [some (.ref 103), some (.int x)]) (by decide +kernel) rfl (Nat.le_of_ble_eq_true rfl) rfl rfl ?_
  refine mx_aload_n (pc' := 1) dX1_takesPattern_0 rfl rfl ?_
  refine mx_iload_n (pc' := 2) dX1_takesPattern_1 rfl rfl ?_
  refine mx_putf (pc' := 5) dX1_takesPattern_2 fl_X1_25 (rfl) (by rfl) (⟨rfl, rfl⟩) rfl ?_
  refine mx_aload_n (pc' := 6) dX1_takesPattern_5 rfl rfl ?_
  refine mx_iconst (pc' := 7) (v := nI 2) dX1_takesPattern_6 (by decide) rfl ?_
  refine mx_putf (pc' := 10) dX1_takesPattern_7 fl_X1_18 (rfl) (by rfl) (⟨rfl, rfl⟩) rfl ?_
  refine mx_iload_n (pc' := 11) dX1_takesPattern_10 rfl rfl ?_
  refine mx_callN (pc' := 14) dX1_takesPattern_11 cl_X1_66 (t_X7_isPattern _ x) rfl (by decide) rfl (Nat.le_of_ble_eq_true rfl) rfl (fun v N11 hv => ?_)
  obtain ⟨rfl, hv⟩ := hv
  rw [hv]
  refine mx_iret dX1_takesPattern_14 (Or.inr ⟨rfl, bI_nb _⟩) ?_
  exact ⟨rfl, rfl⟩

set_option maxHeartbeats 1000000 in
set_option maxRecDepth 10000 in
theorem t_X1_takesPeriod (M : mx_M) (s : Cr) (hA : CrA M s) (h2 : s.1 = 2) (c : Nat) (hc : c < 127) (x : Int32) (hx : x = nI c - nI 48) : mx_T yX1_takesPeriod cX1_takesPeriod 2 (some .boolean) 3 [.ref 103, .int x] M (fun v M' => v = some (.int (bI ((crS s c).isSome = true))) ∧ (∀ s', crS s c = some s' → CrA M' s') ∧ Out M M' 103 109) := by
  obtain ⟨g1, g2, g3, g4, g5, g6, g7⟩ := id hA
  refine mx_T.of1 (own := RX1) (ls := [some (.ref 103), some (.int x)]) (by decide +kernel) rfl (Nat.le_of_ble_eq_true rfl) rfl rfl ?_
  refine mx_iload_n (pc' := 1) dX1_takesPeriod_0 rfl rfl ?_
  refine mx_callN (pc' := 4) dX1_takesPeriod_1 cl_X1_69 (t_X7_isPeriod M x) rfl (by decide) rfl (Nat.le_of_ble_eq_true rfl) rfl (fun v N1 hv => ?_)
  obtain ⟨rfl, hv⟩ := hv
  rw [hv]
  refine mx_if_ne (tgt := 9) (pc' := 7) dX1_takesPeriod_4 (by decide) rfl (fun c4 => ?_) (fun c4 => ?_)
  · have c5 := (dg_2 c hc).mp (hx ▸ bI_n.mp c4)
    obtain rfl : x = nI (c - 48) := hx.trans (pk_sub (by omega))
    have e : crS s c = some (3, s.2.1, s.2.2.1, s.2.2.2 ++ [(s.2.1, s.2.2.1, c - 48, 0)]) := by simp [crS, h2, c5]
    refine mx_aload_n (pc' := 10) dX1_takesPeriod_9 rfl rfl ?_
    refine mx_getr (pc' := 13) dX1_takesPeriod_10 fl_X1_12 (rfl) (by rfl) rfl ?_
    refine mx_aload_n (pc' := 14) dX1_takesPeriod_13 rfl rfl ?_
    refine mx_getf (pc' := 17) (v := nI s.2.1) dX1_takesPeriod_14 fl_X1_22 (rfl) (by rfl) ((g3 (Or.inr h2)).1) rfl ?_
    refine mx_aload_n (pc' := 18) dX1_takesPeriod_17 rfl rfl ?_
    refine mx_getf (pc' := 21) (v := nI s.2.2.1) dX1_takesPeriod_18 fl_X1_25 (rfl) (by rfl) ((g4 h2).1) rfl ?_
    refine mx_iload_n (pc' := 22) dX1_takesPeriod_21 rfl rfl ?_
    refine mx_iconst (pc' := 23) (v := nI 0) dX1_takesPeriod_22 (by decide) rfl ?_
    refine mx_callV (pc' := 26) dX1_takesPeriod_23 cl_X1_72 (EmS104.1) (t_X2_add M 104 EmS104 s.2.2.2 g5 (g6 (by omega)) (s.2.1, s.2.2.1, c - 48, 0) ⟨(g3 (Or.inr h2)).2, (g4 h2).2, by show 1 ≤ c - 48; omega, by show c - 48 ≤ 9; omega, by show 0 < c - 48; omega⟩) rfl (by decide) rfl (Nat.le_of_ble_eq_true rfl) rfl (fun v N23 hv => ?_)
    obtain ⟨rfl, hE, hO⟩ := hv
    refine mx_aload_n (pc' := 27) dX1_takesPeriod_26 rfl rfl ?_
    refine mx_iconst (pc' := 28) (v := nI 3) dX1_takesPeriod_27 (by decide) rfl ?_
    refine mx_putf (pc' := 31) dX1_takesPeriod_28 fl_X1_18 (rfl) (by rfl) (⟨rfl, rfl⟩) rfl ?_
    refine mx_iconst (pc' := 32) (v := nI 1) dX1_takesPeriod_31 (by decide) rfl ?_
    refine mx_iret dX1_takesPeriod_32 (Or.inr ⟨rfl, by decide⟩) ?_
    refine ⟨bI_rt (by rw [e]; rfl), fun t ht => ?_, fun q hq => by rw [mx_up_ne (by omega)]; exact hO q (by omega)⟩
    rw [e] at ht
    cases ht
    exact ⟨Nat.le_of_ble_eq_true rfl, mx_up_eq _ _ _ _, fun z => by dsimp only at z; omega, fun z => by dsimp only at z; omega, hE.fr fun q z1 z2 => mx_up_ne (by omega), fun z => by dsimp only at z; omega, fun _ => by simp⟩
  · have c4 : ¬ (49 ≤ c ∧ c ≤ 57) := fun z => bI_0.mp c4 (hx ▸ (dg_2 c hc).mpr z)
    have e : crS s c = none := by simp [crS, h2, c4]
    refine mx_iconst (pc' := 8) (v := nI 0) dX1_takesPeriod_7 (by decide) rfl ?_
    refine mx_iret dX1_takesPeriod_8 (Or.inr ⟨rfl, by decide⟩) ?_
    exact ⟨bI_rf (by rw [e]; decide), (fun s z => by rw [e] at z; cases z), Out.rf⟩

set_option maxHeartbeats 1000000 in
set_option maxRecDepth 10000 in
theorem t_X1_takesPhase (M : mx_M) (s : Cr) (hA : CrA M s) (h4 : s.1 = 4) (c : Nat) (hc : c < 127) (x : Int32) (hx : x = nI c - nI 48) : mx_T yX1_takesPhase cX1_takesPhase 3 (some .boolean) 1 [.ref 103, .int x] M (fun v M' => v = some (.int (bI ((crS s c).isSome = true))) ∧ (∀ s', crS s c = some s' → CrA M' s') ∧ Out M M' 103 109) := by
  obtain ⟨g1, g2, g3, g4, g5, g6, g7⟩ := id hA
  obtain ⟨E, e, hE⟩ : ∃ E e, s.2.2.2 = E ++ [e] := ⟨_, _, (List.dropLast_concat_getLast (g7 (by omega))).symm⟩
  have hl : E.length + 1 ≤ 4 := by have := g5.2.1.1; rw [hE, List.length_append] at this; exact this
  have hP := g5.2.2
  rw [hE, EmP.app, EmP.cons, Nat.zero_add] at hP
  have hW := hP.2.1
  have hV := g5.2.1.2 e (by rw [hE]; simp)
  have hV9 := hV.2.2.2.1
  refine mx_T.of1 (own := RX1) (ls := [some (.ref 103), some (.int x), none]) (by decide +kernel) rfl (Nat.le_of_ble_eq_true rfl) rfl rfl ?_
  refine mx_aload_n (pc' := 1) dX1_takesPhase_0 rfl rfl ?_
  refine mx_getr (pc' := 4) dX1_takesPhase_1 fl_X1_12 (by first | rfl | exact EmS104.1) (by rfl) rfl ?_
  refine mx_getf (pc' := 7) (v := nI (E.length + 1)) dX1_takesPhase_4 fl_X1_28 (by first | rfl | exact EmS104.1) (by rfl) (g5.1.trans (congrArg nI (by rw [hE, List.length_append]; rfl))) rfl ?_
  refine mx_iconst (pc' := 8) (v := nI 1) dX1_takesPhase_7 (by decide) rfl ?_
  refine mx_isub (pc' := 9) (v := nI E.length) dX1_takesPhase_8 (pk_sub (b := 1) (by omega)) rfl ?_
  refine mx_istore_n (pc' := 10) (ls' := [_, _, _]) dX1_takesPhase_9 (by decide) (rfl) rfl rfl ?_
  refine mx_iload_n (pc' := 11) dX1_takesPhase_10 rfl rfl ?_
  refine mx_if_lt (tgt := 31) (pc' := 14) dX1_takesPhase_11 (by decide) rfl (fun c11 => ?_) (fun c11 => ?_)
  · exact absurd c11 (nI_pos (by omega))
  · refine mx_iload_n (pc' := 15) dX1_takesPhase_14 rfl rfl ?_
    refine mx_if_lt (tgt := 31) (pc' := 18) dX1_takesPhase_15 (by decide) rfl (fun c15 => ?_) (fun c15 => ?_)
    · have c15 : c < 48 := (dg_3 c hc).mp (hx ▸ c15)
      have e1 : crS s c = none := by simp [crS, h4, hE, show ¬ (48 ≤ c) by omega]
      refine mx_iconst (pc' := 32) (v := nI 0) dX1_takesPhase_31 (by decide) rfl ?_
      refine mx_iret dX1_takesPhase_32 (Or.inr ⟨rfl, by decide⟩) ?_
      exact ⟨bI_rf (by rw [e1]; decide), (fun s z => by rw [e1] at z; cases z), Out.rf⟩
    · have c15 : ¬ c < 48 := fun z => c15 (hx ▸ (dg_3 c hc).mpr z)
      obtain rfl : x = nI (c - 48) := hx.trans (pk_sub (by omega))
      refine mx_iload_n (pc' := 19) dX1_takesPhase_18 rfl rfl ?_
      refine mx_aload_n (pc' := 20) dX1_takesPhase_19 rfl rfl ?_
      refine mx_getr (pc' := 23) dX1_takesPhase_20 fl_X1_12 (by first | rfl | exact EmS104.1) (by rfl) rfl ?_
      refine mx_getr (pc' := 26) dX1_takesPhase_23 fl_X1_76 (by first | rfl | exact EmS104.1) (by rfl) rfl ?_
      refine mx_iload_n (pc' := 27) dX1_takesPhase_26 rfl rfl ?_
      refine mx_iald (pc' := 28) (v := nI e.2.2.1) dX1_takesPhase_27 (by first | rfl | exact EmS104.1) (rfl) (by omega) (hW.2.2.1) rfl ?_
      refine mx_icmp_lt (tgt := 33) (pc' := 31) dX1_takesPhase_28 (by decide) rfl (fun c28 => ?_) (fun c28 => ?_)
      · have c28 := (nI_ltI (by omega) (by omega)).mp c28
        have e1 : crS s c = some (5, s.2.1, s.2.2.1, E ++ [(e.1, e.2.1, e.2.2.1, c - 48)]) := by
          simp [crS, h4, hE, show 48 ≤ c by omega, c28]
        refine mx_aload_n (pc' := 34) dX1_takesPhase_33 rfl rfl ?_
        refine mx_getr (pc' := 37) dX1_takesPhase_34 fl_X1_12 (by first | rfl | exact EmS104.1) (by rfl) rfl ?_
        refine mx_getr (pc' := 40) dX1_takesPhase_37 fl_X1_79 (by first | rfl | exact EmS104.1) (by rfl) rfl ?_
        refine mx_iload_n (pc' := 41) dX1_takesPhase_40 rfl rfl ?_
        refine mx_iload_n (pc' := 42) dX1_takesPhase_41 rfl rfl ?_
        refine mx_iast (pc' := 43) dX1_takesPhase_42 (by first | rfl | exact EmS104.1) (rfl) (by omega) rfl ?_
        refine mx_aload_n (pc' := 44) dX1_takesPhase_43 rfl rfl ?_
        refine mx_iconst (pc' := 45) (v := nI 5) dX1_takesPhase_44 (by decide) rfl ?_
        refine mx_putf (pc' := 48) dX1_takesPhase_45 fl_X1_18 (by first | rfl | exact EmS104.1) (by rfl) (⟨rfl, rfl⟩) rfl ?_
        refine mx_iconst (pc' := 49) (v := nI 1) dX1_takesPhase_48 (by decide) rfl ?_
        refine mx_iret dX1_takesPhase_49 (Or.inr ⟨rfl, by decide⟩) ?_
        refine ⟨bI_rt (by rw [e1]; rfl), fun t ht => ?_, Out.up (Out.up Out.rf (by omega) (by omega)) (by omega) (by omega)⟩
        rw [e1] at ht
        cases ht
        refine ⟨Nat.le_of_ble_eq_true rfl, mx_up_eq _ _ _ _, fun z => by dsimp only at z; omega, fun z => by dsimp only at z; omega, ?_, fun z => by dsimp only at z; omega, fun _ => by simp⟩
        refine EmA.fr (M := mx_up M 108 E.length (nI (c - 48))) ⟨?_, ⟨?_, fun y hy => ?_⟩, EmP.snoc (hP.1.fr fun q j z1 z2 z3 z4 => ?_) ?_⟩ fun q z1 z2 => mx_up_ne (by omega)
        · rw [mx_up_ne (by omega), g5.1, hE, List.length_append, List.length_append]; rfl
        · rw [List.length_append, List.length_singleton]; omega
        · rcases List.mem_append.mp hy with hy | hy
          · exact g5.2.1.2 y (by rw [hE]; exact List.mem_append_left _ hy)
          · rw [List.mem_singleton.mp hy]
            exact ⟨hV.1, hV.2.1, hV.2.2.1, hV.2.2.2.1, c28⟩
        · simp [mx_up, show j ≠ E.length by omega]
        · rw [Nat.zero_add]
          exact ⟨by rw [mx_up_ne (by omega)]; exact hW.1, by rw [mx_up_ne (by omega)]; exact hW.2.1, by rw [mx_up_ne (by omega)]; exact hW.2.2.1, mx_up_eq _ _ _ _⟩
      · have c28 := Nat.not_lt.mp (fun z => c28 ((nI_ltI (by omega) (by omega)).mpr z))
        have e1 : crS s c = none := by
          simp [crS, h4, hE, show 48 ≤ c by omega, show ¬ c - 48 < e.2.2.1 by omega]
        refine mx_iconst (pc' := 32) (v := nI 0) dX1_takesPhase_31 (by decide) rfl ?_
        refine mx_iret dX1_takesPhase_32 (Or.inr ⟨rfl, by decide⟩) ?_
        exact ⟨bI_rf (by rw [e1]; decide), (fun s z => by rw [e1] at z; cases z), Out.rf⟩

set_option maxHeartbeats 1000000 in
set_option maxRecDepth 10000 in
theorem t_X1_takesMark (M : mx_M) (s : Cr) (hA : CrA M s) (h3 : s.1 = 3 ∨ s.1 = 5) (c : Nat) (hc : c < 127) : mx_T yX1_takesMark cX1_takesMark 2 (some .boolean) 2 [.ref 103, .int (nI c)] M (fun v M' => v = some (.int (bI ((crS s c).isSome = true))) ∧ (∀ s', crS s c = some s' → CrA M' s') ∧ Out M M' 103 109) := by
  obtain ⟨g1, g2, g3, g4, g5, g6, g7⟩ := id hA
  refine mx_T.of1 (own := RX1) (ls := [some (.ref 103), some (.int (nI c))]) (by decide +kernel) rfl (Nat.le_of_ble_eq_true rfl) rfl rfl ?_
  refine mx_iload_n (pc' := 1) dX1_takesMark_0 rfl rfl ?_
  refine mx_bipush (pc' := 3) (v := nI 43) dX1_takesMark_1 (by decide) rfl ?_
  refine mx_icmp_ne (tgt := 21) (pc' := 6) dX1_takesMark_3 (by decide) rfl (fun c3 => ?_) (fun c3 => ?_)
  · have c3 : ¬ _ := fun z => c3 ((nI_eq (by omega) (by omega)).mpr z)
    refine mx_iload_n (pc' := 22) dX1_takesMark_21 rfl rfl ?_
    refine mx_bipush (pc' := 24) (v := nI 59) dX1_takesMark_22 (by decide) rfl ?_
    refine mx_icmp_ne (tgt := 44) (pc' := 27) dX1_takesMark_24 (by decide) rfl (fun c24 => ?_) (fun c24 => ?_)
    · have c24 : ¬ _ := fun z => c24 ((nI_eq (by omega) (by omega)).mpr z)
      refine mx_iconst (pc' := 45) (v := nI 0) dX1_takesMark_44 (by decide) rfl ?_
      refine mx_iret dX1_takesMark_45 (Or.inr ⟨rfl, by decide⟩) ?_
      have e1 : crS s c = none := by
        unfold crS
        rw [if_neg (by omega), if_neg (by omega), if_neg (by omega), if_neg (by omega), if_neg (by omega), if_neg (by omega)]
      exact ⟨bI_rf (by rw [e1]; decide), (fun s z => by rw [e1] at z; cases z), Out.rf⟩
    · have c24 := (nI_eq (by omega) (by omega)).mp c24
      refine mx_aload_n (pc' := 28) dX1_takesMark_27 rfl rfl ?_
      refine mx_getr (pc' := 31) dX1_takesMark_28 fl_X1_12 (rfl) (by rfl) rfl ?_
      refine mx_callV (pc' := 34) dX1_takesMark_31 cl_X1_82 (EmS104.1) (t_X2_isFull M 104 s.2.2.2.length EmS104 g5.1 g5.2.1.1) rfl (by decide) rfl (Nat.le_of_ble_eq_true rfl) rfl (fun v N31 hv => ?_)
      obtain ⟨rfl, hv⟩ := hv
      rw [hv]
      refine mx_if_ne (tgt := 44) (pc' := 37) dX1_takesMark_34 (by decide) rfl (fun c34 => ?_) (fun c34 => ?_)
      · have c34 := bI_n.mp c34
        refine mx_iconst (pc' := 45) (v := nI 0) dX1_takesMark_44 (by decide) rfl ?_
        refine mx_iret dX1_takesMark_45 (Or.inr ⟨rfl, by decide⟩) ?_
        have e1 : crS s c = none := by
          unfold crS
          rw [if_neg (by omega), if_neg (by omega), if_neg (by omega), if_neg (by omega), if_neg (by omega), if_neg (by omega)]
        exact ⟨bI_rf (by rw [e1]; decide), (fun s z => by rw [e1] at z; cases z), Out.rf⟩
      · have c34 := bI_0.mp c34
        have h4 := g5.2.1.1
        refine mx_aload_n (pc' := 38) dX1_takesMark_37 rfl rfl ?_
        refine mx_iconst (pc' := 39) (v := nI 0) dX1_takesMark_38 (by decide) rfl ?_
        refine mx_putf (pc' := 42) dX1_takesMark_39 fl_X1_18 (rfl) (by rfl) (⟨rfl, rfl⟩) rfl ?_
        refine mx_iconst (pc' := 43) (v := nI 1) dX1_takesMark_42 (by decide) rfl ?_
        refine mx_iret dX1_takesMark_43 (Or.inr ⟨rfl, by decide⟩) ?_
        have e1 : crS s c = some (0, s.2.1, s.2.2.1, s.2.2.2) := by
          rcases h3 with h3 | h3 <;> simp [crS, c24, h3, show s.2.2.2.length < 4 by omega]
        refine ⟨bI_rt (by rw [e1]; rfl), fun t ht => ?_, Out.up Out.rf (by omega) (by omega)⟩
        rw [e1] at ht
        cases ht
        exact ⟨Nat.le_of_ble_eq_true rfl, mx_up_eq _ _ _ _, fun z => by dsimp only at z; omega, fun z => by dsimp only at z; omega, g5.fr fun q z1 z2 => mx_up_ne (by omega), fun _ => by show s.2.2.2.length < 4; omega, fun z => by dsimp only at z; omega⟩
  · have c3 := (nI_eq (by omega) (by omega)).mp c3
    refine mx_aload_n (pc' := 7) dX1_takesMark_6 rfl rfl ?_
    refine mx_getf (pc' := 10) (v := nI s.1) dX1_takesMark_7 fl_X1_18 (rfl) (by rfl) (g2) rfl ?_
    refine mx_iconst (pc' := 11) (v := nI 3) dX1_takesMark_10 (by decide) rfl ?_
    refine mx_icmp_ne (tgt := 21) (pc' := 14) dX1_takesMark_11 (by decide) rfl (fun c11 => ?_) (fun c11 => ?_)
    · have c11 : ¬ _ := fun z => c11 ((nI_eq (by omega) (by omega)).mpr z)
      refine mx_iload_n (pc' := 22) dX1_takesMark_21 rfl rfl ?_
      refine mx_bipush (pc' := 24) (v := nI 59) dX1_takesMark_22 (by decide) rfl ?_
      refine mx_icmp_ne (tgt := 44) (pc' := 27) dX1_takesMark_24 (by decide) rfl (fun c24 => ?_) (fun c24 => ?_)
      · have c24 : ¬ _ := fun z => c24 ((nI_eq (by omega) (by omega)).mpr z)
        refine mx_iconst (pc' := 45) (v := nI 0) dX1_takesMark_44 (by decide) rfl ?_
        refine mx_iret dX1_takesMark_45 (Or.inr ⟨rfl, by decide⟩) ?_
        have e1 : crS s c = none := by
          unfold crS
          rw [if_neg (by omega), if_neg (by omega), if_neg (by omega), if_neg (by omega), if_neg (by omega), if_neg (by omega)]
        exact ⟨bI_rf (by rw [e1]; decide), (fun s z => by rw [e1] at z; cases z), Out.rf⟩
      · have c24 := (nI_eq (by omega) (by omega)).mp c24
        refine mx_aload_n (pc' := 28) dX1_takesMark_27 rfl rfl ?_
        refine mx_getr (pc' := 31) dX1_takesMark_28 fl_X1_12 (rfl) (by rfl) rfl ?_
        refine mx_callV (pc' := 34) dX1_takesMark_31 cl_X1_82 (EmS104.1) (t_X2_isFull M 104 s.2.2.2.length EmS104 g5.1 g5.2.1.1) rfl (by decide) rfl (Nat.le_of_ble_eq_true rfl) rfl (fun v N31 hv => ?_)
        obtain ⟨rfl, hv⟩ := hv
        rw [hv]
        refine mx_if_ne (tgt := 44) (pc' := 37) dX1_takesMark_34 (by decide) rfl (fun c34 => ?_) (fun c34 => ?_)
        · have c34 := bI_n.mp c34
          refine mx_iconst (pc' := 45) (v := nI 0) dX1_takesMark_44 (by decide) rfl ?_
          refine mx_iret dX1_takesMark_45 (Or.inr ⟨rfl, by decide⟩) ?_
          have e1 : crS s c = none := by
            unfold crS
            rw [if_neg (by omega), if_neg (by omega), if_neg (by omega), if_neg (by omega), if_neg (by omega), if_neg (by omega)]
          exact ⟨bI_rf (by rw [e1]; decide), (fun s z => by rw [e1] at z; cases z), Out.rf⟩
        · have c34 := bI_0.mp c34
          have h4 := g5.2.1.1
          refine mx_aload_n (pc' := 38) dX1_takesMark_37 rfl rfl ?_
          refine mx_iconst (pc' := 39) (v := nI 0) dX1_takesMark_38 (by decide) rfl ?_
          refine mx_putf (pc' := 42) dX1_takesMark_39 fl_X1_18 (rfl) (by rfl) (⟨rfl, rfl⟩) rfl ?_
          refine mx_iconst (pc' := 43) (v := nI 1) dX1_takesMark_42 (by decide) rfl ?_
          refine mx_iret dX1_takesMark_43 (Or.inr ⟨rfl, by decide⟩) ?_
          have e1 : crS s c = some (0, s.2.1, s.2.2.1, s.2.2.2) := by
            rcases h3 with h3 | h3 <;> simp [crS, c24, h3, show s.2.2.2.length < 4 by omega]
          refine ⟨bI_rt (by rw [e1]; rfl), fun t ht => ?_, Out.up Out.rf (by omega) (by omega)⟩
          rw [e1] at ht
          cases ht
          exact ⟨Nat.le_of_ble_eq_true rfl, mx_up_eq _ _ _ _, fun z => by dsimp only at z; omega, fun z => by dsimp only at z; omega, g5.fr fun q z1 z2 => mx_up_ne (by omega), fun _ => by show s.2.2.2.length < 4; omega, fun z => by dsimp only at z; omega⟩
    · have c11 := (nI_eq (by omega) (by omega)).mp c11
      refine mx_aload_n (pc' := 15) dX1_takesMark_14 rfl rfl ?_
      refine mx_iconst (pc' := 16) (v := nI 4) dX1_takesMark_15 (by decide) rfl ?_
      refine mx_putf (pc' := 19) dX1_takesMark_16 fl_X1_18 (rfl) (by rfl) (⟨rfl, rfl⟩) rfl ?_
      refine mx_iconst (pc' := 20) (v := nI 1) dX1_takesMark_19 (by decide) rfl ?_
      refine mx_iret dX1_takesMark_20 (Or.inr ⟨rfl, by decide⟩) ?_
      have e1 : crS s c = some (4, s.2.1, s.2.2.1, s.2.2.2) := by simp [crS, c3, c11]
      refine ⟨bI_rt (by rw [e1]; rfl), fun t ht => ?_, Out.up Out.rf (by omega) (by omega)⟩
      rw [e1] at ht
      cases ht
      exact ⟨Nat.le_of_ble_eq_true rfl, mx_up_eq _ _ _ _, fun z => by dsimp only at z; omega, fun z => by dsimp only at z; omega, g5.fr fun q z1 z2 => mx_up_ne (by omega), fun z => by dsimp only at z; omega, fun _ => g7 (by omega)⟩

set_option maxHeartbeats 1000000 in
set_option maxRecDepth 10000 in
theorem t_X1_takes (M : mx_M) (s : Cr) (hA : CrA M s) (c : Nat) (hc : c < 127) : mx_T yX1_takes cX1_takes 2 (some .boolean) 4 [.ref 103, .int (nI c)] M (fun v M' => v = some (.int (bI ((crS s c).isSome = true))) ∧ (∀ s', crS s c = some s' → CrA M' s') ∧ Out M M' 103 109) := by
  obtain ⟨g1, g2, g3, g4, g5, g6, g7⟩ := id hA
  refine mx_T.of1 (own := RX1) (ls := [some (.ref 103), some (.int (nI c))]) (by decide +kernel) rfl (Nat.le_of_ble_eq_true rfl) rfl rfl ?_
  refine mx_aload_n (pc' := 1) dX1_takes_0 rfl rfl ?_
  refine mx_getf (pc' := 4) (v := nI s.1) dX1_takes_1 fl_X1_18 (rfl) (by rfl) (g2) rfl ?_
  rcases (show s.1 = 0 ∨ s.1 = 1 ∨ s.1 = 2 ∨ s.1 = 3 ∨ s.1 = 4 ∨ s.1 = 5 by omega) with h | h | h | h | h | h <;> rw [h]
  · refine mx_tableIn (pc' := 40) dX1_takes_4 (by decide) (by decide) (by rfl) (by decide) ?_
    refine mx_aload_n (pc' := 41) dX1_takes_40 rfl rfl ?_
    refine mx_iload_n (pc' := 42) dX1_takes_41 rfl rfl ?_
    refine mx_bipush (pc' := 44) (v := nI 48) dX1_takes_42 (by decide) rfl ?_
    refine mx_isub (pc' := 45) dX1_takes_44 (rfl) rfl ?_
    refine mx_callV (pc' := 48) dX1_takes_45 cl_X1_44 (rfl) (t_X1_takesColumn M _) rfl (by decide) rfl (Nat.le_of_ble_eq_true rfl) rfl (fun v N45 hv => ?_)
    obtain ⟨rfl, hv⟩ := hv
    rw [hv]
    refine mx_iret dX1_takes_48 (Or.inr ⟨rfl, bI_nb _⟩) ?_
    refine ⟨by rw [bI_c (Q := (crS s c).isSome = true)]; rw [dg_1 c hc]; by_cases z : 48 ≤ c ∧ c ≤ 57 <;> simp [crS, h, z], fun t ht => ?_, Out.up (Out.up Out.rf (by omega) (by omega)) (by omega) (by omega)⟩
    by_cases z : 48 ≤ c ∧ c ≤ 57
    · rw [show crS s c = some (1, c - 48, s.2.2.1, s.2.2.2) by simp [crS, h, z]] at ht
      cases ht
      exact ⟨Nat.le_of_ble_eq_true rfl, mx_up_eq _ _ _ _, fun _ => ⟨by rw [show mx_up (mx_up M 103 2 (nI c - nI 48)) 103 1 (nI 1) 103 2 = nI c - nI 48 by simp [mx_up]]; exact pk_sub z.1, by show c - 48 < 10; omega⟩, fun z => by dsimp only at z; omega, g5.fr fun q z1 z2 => by rw [mx_up_ne (by omega), mx_up_ne (by omega)], fun _ => g6 (by omega), fun z => by dsimp only at z; omega⟩
    · rw [show crS s c = none by simp [crS, h, z]] at ht
      cases ht
  · refine mx_tableIn (pc' := 49) dX1_takes_4 (by decide) (by decide) (by rfl) (by decide) ?_
    refine mx_aload_n (pc' := 50) dX1_takes_49 rfl rfl ?_
    refine mx_iload_n (pc' := 51) dX1_takes_50 rfl rfl ?_
    refine mx_callS (pc' := 54) dX1_takes_51 cl_X1_47 (t_X1_patternOf M c hc) rfl (by decide) rfl (Nat.le_of_ble_eq_true rfl) rfl (fun v N51 hv => ?_)
    obtain ⟨rfl, hv⟩ := hv
    rw [hv]
    refine mx_callV (pc' := 57) dX1_takes_54 cl_X1_51 (rfl) (t_X1_takesPattern M _) rfl (by decide) rfl (Nat.le_of_ble_eq_true rfl) rfl (fun v N54 hv => ?_)
    obtain ⟨rfl, hv⟩ := hv
    rw [hv]
    refine mx_iret dX1_takes_57 (Or.inr ⟨rfl, bI_nb _⟩) ?_
    refine ⟨by rw [bI_c (Q := (crS s c).isSome = true)]; rw [pat_1 c hc]; cases hz : patN c <;> simp [crS, h, hz], fun t ht => ?_, Out.up (Out.up Out.rf (by omega) (by omega)) (by omega) (by omega)⟩
    cases hz : patN c with
    | none =>
      rw [show crS s c = none by simp [crS, h, hz]] at ht
      cases ht
    | some pt =>
      rw [show crS s c = some (2, s.2.1, pt, s.2.2.2) by simp [crS, h, hz]] at ht
      cases ht
      have hg := g3 (Or.inl h)
      exact ⟨Nat.le_of_ble_eq_true rfl, mx_up_eq _ _ _ _, fun _ => ⟨by rw [show mx_up (mx_up M 103 3 (patI c)) 103 1 (nI 2) 103 2 = M 103 2 by simp [mx_up]]; exact hg.1, hg.2⟩, fun _ => ⟨by rw [show mx_up (mx_up M 103 3 (patI c)) 103 1 (nI 2) 103 3 = patI c by simp [mx_up]]; simp [patI, hz], pat_lt hz⟩, g5.fr fun q z1 z2 => by rw [mx_up_ne (by omega), mx_up_ne (by omega)], fun _ => g6 (by omega), fun z => by dsimp only at z; omega⟩
  · refine mx_tableIn (pc' := 58) dX1_takes_4 (by decide) (by decide) (by rfl) (by decide) ?_
    refine mx_aload_n (pc' := 59) dX1_takes_58 rfl rfl ?_
    refine mx_iload_n (pc' := 60) dX1_takes_59 rfl rfl ?_
    refine mx_bipush (pc' := 62) (v := nI 48) dX1_takes_60 (by decide) rfl ?_
    refine mx_isub (pc' := 63) dX1_takes_62 (rfl) rfl ?_
    refine mx_callV (pc' := 66) dX1_takes_63 cl_X1_54 (rfl) (t_X1_takesPeriod M s hA h c hc _ rfl) rfl (by decide) rfl (Nat.le_of_ble_eq_true rfl) rfl (fun v N63 hv => ?_)
    obtain ⟨rfl, hv⟩ := hv
    refine mx_iret dX1_takes_66 (Or.inr ⟨rfl, bI_nb _⟩) ?_
    exact ⟨rfl, hv⟩
  · refine mx_tableIn (pc' := 76) dX1_takes_4 (by decide) (by decide) (by rfl) (by decide) ?_
    refine mx_aload_n (pc' := 77) dX1_takes_76 rfl rfl ?_
    refine mx_iload_n (pc' := 78) dX1_takes_77 rfl rfl ?_
    refine mx_callV (pc' := 81) dX1_takes_78 cl_X1_60 (rfl) (t_X1_takesMark M s hA (by omega) c hc) rfl (by decide) rfl (Nat.le_of_ble_eq_true rfl) rfl (fun v N78 hv => ?_)
    obtain ⟨rfl, hv⟩ := hv
    refine mx_iret dX1_takes_81 (Or.inr ⟨rfl, bI_nb _⟩) ?_
    exact ⟨rfl, hv⟩
  · refine mx_tableIn (pc' := 67) dX1_takes_4 (by decide) (by decide) (by rfl) (by decide) ?_
    refine mx_aload_n (pc' := 68) dX1_takes_67 rfl rfl ?_
    refine mx_iload_n (pc' := 69) dX1_takes_68 rfl rfl ?_
    refine mx_bipush (pc' := 71) (v := nI 48) dX1_takes_69 (by decide) rfl ?_
    refine mx_isub (pc' := 72) dX1_takes_71 (rfl) rfl ?_
    refine mx_callV (pc' := 75) dX1_takes_72 cl_X1_57 (rfl) (t_X1_takesPhase M s hA h c hc _ rfl) rfl (by decide) rfl (Nat.le_of_ble_eq_true rfl) rfl (fun v N72 hv => ?_)
    obtain ⟨rfl, hv⟩ := hv
    refine mx_iret dX1_takes_75 (Or.inr ⟨rfl, bI_nb _⟩) ?_
    exact ⟨rfl, hv⟩
  · refine mx_tableOut (pc' := 76) dX1_takes_4 (Or.inr (by decide)) (by decide) ?_
    refine mx_aload_n (pc' := 77) dX1_takes_76 rfl rfl ?_
    refine mx_iload_n (pc' := 78) dX1_takes_77 rfl rfl ?_
    refine mx_callV (pc' := 81) dX1_takes_78 cl_X1_60 (rfl) (t_X1_takesMark M s hA (by omega) c hc) rfl (by decide) rfl (Nat.le_of_ble_eq_true rfl) rfl (fun v N78 hv => ?_)
    obtain ⟨rfl, hv⟩ := hv
    refine mx_iret dX1_takes_81 (Or.inr ⟨rfl, bI_nb _⟩) ?_
    exact ⟨rfl, hv⟩

set_option maxHeartbeats 1000000 in
set_option maxRecDepth 10000 in
theorem l_X1_faultIn (M : mx_M) (L : List Nat) (hA : PaA M L) : ∀ (k : Nat) (i : Nat) (M1 : mx_M) (s : Cr), L.length < i + k → i ≤ L.length → CrA M1 s → Out M M1 103 109 → (crR cr0 L).1 = i + (crR s (L.drop i)).1 → (crR cr0 L).2 = (crR s (L.drop i)).2 → mx_V cX1_faultIn RX1 3 (some .int) 5 15 [some (.ref 103), some (.ref 101), some (.int (nI i))] [] M1 (fun v M' => v = some (.int (crF L)) ∧ (∀ s, (crR cr0 L).2 = some s → EmA M' 104 s.2.2.2) ∧ Out M M' 103 109) := by
  have h60 := hA.2.1
  intro k
  induction k with
  | zero =>
    intro i M1 s hk hi hC hO hr1 hr2
    exact absurd hk (by omega)
  | succ k ih =>
    intro i M1 s hk hi hC hO hr1 hr2
    have hs5 := hC.1
    refine mx_iload_n (pc' := 16) dX1_faultIn_15 rfl rfl ?_
    refine mx_aload_n (pc' := 17) dX1_faultIn_16 rfl rfl ?_
    refine mx_getf (pc' := 20) (v := nI L.length) dX1_faultIn_17 fl_X1_31 (rfl) (by rfl) (by rw [hO 101 (by omega)]; exact hA.1) rfl ?_
    refine mx_icmp_ge (tgt := 44) (pc' := 23) dX1_faultIn_20 (by decide) rfl (fun c20 => ?_) (fun c20 => ?_)
    · have c20 := (nI_leI (by omega) (by omega)).mp c20
      rw [List.drop_eq_nil_of_le c20] at hr1 hr2
      refine mx_aload_n (pc' := 45) dX1_faultIn_44 rfl rfl ?_
      refine mx_getf (pc' := 48) (v := nI s.1) dX1_faultIn_45 fl_X1_18 (rfl) (by rfl) (hC.2.1) rfl ?_
      refine mx_iconst (pc' := 49) (v := nI 3) dX1_faultIn_48 (by decide) rfl ?_
      refine mx_icmp_eq (tgt := 60) (pc' := 52) dX1_faultIn_49 (by decide) rfl (fun c49 => ?_) (fun c49 => ?_)
      · have c49 := (nI_eq (by omega) (by omega)).mp c49
        refine mx_bipush (pc' := 62) (v := (-4)) dX1_faultIn_60 (by decide) rfl ?_
        refine mx_goto (pc' := 69) dX1_faultIn_62 (by decide) ?_
        refine mx_iret dX1_faultIn_69 (Or.inl rfl) ?_
        have e : (crR s []).2 = some s := rfl
        refine ⟨?_, (fun t z => by rw [hr2, e] at z; cases z; exact hC.2.2.2.2.1), hO⟩
        unfold crF
        rw [hr2, e]
        dsimp only
        rw [if_pos (by omega)]
      · have c49 : ¬ _ := fun z => c49 ((nI_eq (by omega) (by omega)).mpr z)
        refine mx_aload_n (pc' := 53) dX1_faultIn_52 rfl rfl ?_
        refine mx_getf (pc' := 56) (v := nI s.1) dX1_faultIn_53 fl_X1_18 (rfl) (by rfl) (hC.2.1) rfl ?_
        refine mx_iconst (pc' := 57) (v := nI 5) dX1_faultIn_56 (by decide) rfl ?_
        refine mx_icmp_ne (tgt := 65) (pc' := 60) dX1_faultIn_57 (by decide) rfl (fun c57 => ?_) (fun c57 => ?_)
        · have c57 : ¬ _ := fun z => c57 ((nI_eq (by omega) (by omega)).mpr z)
          refine mx_aload_n (pc' := 66) dX1_faultIn_65 rfl rfl ?_
          refine mx_getf (pc' := 69) (v := nI L.length) dX1_faultIn_66 fl_X1_31 (rfl) (by rfl) (by rw [hO 101 (by omega)]; exact hA.1) rfl ?_
          refine mx_iret dX1_faultIn_69 (Or.inl rfl) ?_
          have e : (crR s []).2 = some s := rfl
          refine ⟨?_, (fun t z => by rw [hr2, e] at z; cases z; exact hC.2.2.2.2.1), hO⟩
          unfold crF
          rw [hr2, e]
          dsimp only
          rw [if_neg (by omega)]
        · have c57 := (nI_eq (by omega) (by omega)).mp c57
          refine mx_bipush (pc' := 62) (v := (-4)) dX1_faultIn_60 (by decide) rfl ?_
          refine mx_goto (pc' := 69) dX1_faultIn_62 (by decide) ?_
          refine mx_iret dX1_faultIn_69 (Or.inl rfl) ?_
          have e : (crR s []).2 = some s := rfl
          refine ⟨?_, (fun t z => by rw [hr2, e] at z; cases z; exact hC.2.2.2.2.1), hO⟩
          unfold crF
          rw [hr2, e]
          dsimp only
          rw [if_pos (by omega)]
    · have c20 := Nat.not_le.mp (fun z => c20 ((nI_leI (by omega) (by omega)).mpr z))
      obtain ⟨c, hx⟩ := get_lt c20
      have hc := hA.2.2.1 c (List.mem_of_getElem? hx)
      rw [drop_cons hx] at hr1 hr2
      refine mx_aload_n (pc' := 24) dX1_faultIn_23 rfl rfl ?_
      refine mx_aload_n (pc' := 25) dX1_faultIn_24 rfl rfl ?_
      refine mx_getr (pc' := 28) dX1_faultIn_25 fl_X1_36 (rfl) (by rfl) rfl ?_
      refine mx_iload_n (pc' := 29) dX1_faultIn_28 rfl rfl ?_
      refine mx_iald (pc' := 30) (v := nI c) dX1_faultIn_29 (rfl) (rfl) (by omega) (by rw [hO 102 (by omega)]; exact hA.2.2.2 i c hx) rfl ?_
      refine mx_callV (pc' := 33) dX1_faultIn_30 cl_X1_40 (rfl) (t_X1_takes M1 s hC c hc) rfl (by decide) rfl (Nat.le_of_ble_eq_true rfl) rfl (fun v N30 hv => ?_)
      obtain ⟨rfl, hv, hO2⟩ := hv
      refine mx_if_ne (tgt := 38) (pc' := 36) dX1_faultIn_33 (by decide) rfl (fun c33 => ?_) (fun c33 => ?_)
      · have c33 := bI_n.mp c33
        obtain ⟨t, ht⟩ := Option.isSome_iff_exists.mp c33
        have er : crR s (c :: L.drop (i + 1)) = ((crR t (L.drop (i + 1))).1 + 1, (crR t (L.drop (i + 1))).2) := by simp [crR, ht]
        rw [er] at hr1 hr2
        refine mx_iinc (pc' := 41) (ls' := [_, _, _]) (v := nI (i + 1)) dX1_faultIn_38 rfl (nI_add i 1) (by decide) (rfl) rfl rfl ?_
        refine mx_goto (pc' := 15) dX1_faultIn_41 (by decide) ?_
        exact ih (i + 1) N30 t (by omega) (by omega) (hv t ht) (hO.tr hO2) (by omega) hr2
      · have c33 := bI_0.mp c33
        have e : crS s c = none := by
          cases hz : crS s c with
          | none => rfl
          | some t => rw [hz] at c33; exact absurd rfl c33
        have er : crR s (c :: L.drop (i + 1)) = (0, none) := by simp [crR, e]
        rw [er] at hr1 hr2
        refine mx_iload_n (pc' := 37) dX1_faultIn_36 rfl rfl ?_
        refine mx_iret dX1_faultIn_37 (Or.inl rfl) ?_
        refine ⟨?_, (fun s z => by rw [hr2] at z; cases z), hO.tr hO2⟩
        unfold crF
        rw [hr2]
        dsimp only
        rw [hr1]; rfl

set_option maxHeartbeats 1000000 in
set_option maxRecDepth 10000 in
theorem t_X1_faultIn (M : mx_M) (L : List Nat) (hA : PaA M L) : mx_T yX1_faultIn cX1_faultIn 3 (some .int) 5 [.ref 103, .ref 101] M (fun v M' => v = some (.int (crF L)) ∧ (∀ s, (crR cr0 L).2 = some s → EmA M' 104 s.2.2.2) ∧ Out M M' 103 109) := by
  refine mx_T.of1 (own := RX1) (ls := [some (.ref 103), some (.ref 101), none]) (by decide +kernel) rfl (Nat.le_of_ble_eq_true rfl) rfl rfl ?_
  refine mx_aload_n (pc' := 1) dX1_faultIn_0 rfl rfl ?_
  refine mx_getr (pc' := 4) dX1_faultIn_1 fl_X1_12 (by first | rfl | exact EmS104.1) (by rfl) rfl ?_
  refine mx_iconst (pc' := 5) (v := nI 0) dX1_faultIn_4 (by decide) rfl ?_
  refine mx_putf (pc' := 8) dX1_faultIn_5 fl_X1_28 (by first | rfl | exact EmS104.1) (by rfl) (⟨rfl, rfl⟩) rfl ?_
  refine mx_aload_n (pc' := 9) dX1_faultIn_8 rfl rfl ?_
  refine mx_iconst (pc' := 10) (v := nI 0) dX1_faultIn_9 (by decide) rfl ?_
  refine mx_putf (pc' := 13) dX1_faultIn_10 fl_X1_18 (by first | rfl | exact EmS104.1) (by rfl) (⟨rfl, rfl⟩) rfl ?_
  refine mx_iconst (pc' := 14) (v := nI 0) dX1_faultIn_13 (by decide) rfl ?_
  refine mx_istore_n (pc' := 15) (ls' := [_, _, _]) dX1_faultIn_14 (by decide) (rfl) rfl rfl ?_
  exact l_X1_faultIn M L hA (L.length + 1) 0 _ cr0 (by omega) (by omega) ⟨Nat.le_of_ble_eq_true rfl, mx_up_eq _ _ _ _, fun z => by have z : (0 : Nat) = 1 ∨ (0 : Nat) = 2 := z; omega, fun z => by have z : (0 : Nat) = 2 := z; omega, ⟨by simp [mx_up, cr0], ⟨by decide, fun x hx => by simp [cr0] at hx⟩, EmP.nil⟩, fun _ => by decide, fun z => by have z : 3 ≤ (0 : Nat) := z; omega⟩ (by repeat (first | exact Out.rf | refine Out.up ?_ (by omega) (by omega))) (by rw [List.drop_zero, Nat.zero_add]) (by rw [List.drop_zero])

