set_option maxHeartbeats 1000000 in
set_option maxRecDepth 10000 in
theorem t_X8_fault (M : mx_M) (Y : Sy) (hC : MoA M Y) (x : Int32) : mx_T yX8_fault cX8_fault 2 (some .int) 5 [.ref 143, .int x] M (fun v M' => v = some (.int (oFault x Y)) ∧ MoA M' Y ∧ Cl M M') := by
  refine mx_T.of1 (own := RX8) (ls := [some (.ref 143), some (.int x)]) (by decide +kernel) rfl (Nat.le_of_ble_eq_true rfl) rfl rfl ?_
  refine mx_iload_n (pc' := 1) dX8_fault_0 rfl rfl ?_
  refine mx_iconst (pc' := 2) (v := nI 0) dX8_fault_1 (by decide) rfl ?_
  refine mx_iconst (pc' := 3) (v := nI 1) dX8_fault_2 (by decide) rfl ?_
  refine mx_callS (pc' := 6) dX8_fault_3 cl_X8_49 (t_X8_in M x (nI 0) (nI 1)) rfl (by decide) rfl (Nat.le_of_ble_eq_true rfl) rfl (fun v N3 hv => ?_)
  obtain ⟨rfl, hv⟩ := hv
  rw [hv]
  refine mx_if_ne (tgt := 11) (pc' := 9) dX8_fault_6 (by decide) rfl (fun c6 => ?_) (fun c6 => ?_)
  · have c6 := bI_n.mp c6
    refine mx_iload_n (pc' := 12) dX8_fault_11 rfl rfl ?_
    refine mx_if_ne (tgt := 25) (pc' := 15) dX8_fault_12 (by decide) rfl (fun c12 => ?_) (fun c12 => ?_)
    · have e : oFault x Y = stF Y.2.2.2 := by
        unfold oFault
        rw [if_neg c12, if_pos ?_]
        obtain ⟨k, -, hk, rfl⟩ := ge_of2 c6.1 c6.2 (by decide) (by decide)
        rcases (show k = 0 ∨ k = 1 by omega) with rfl | rfl
        · exact absurd rfl c12
        · rfl
      refine mx_aload_n (pc' := 26) dX8_fault_25 rfl rfl ?_
      refine mx_callV (pc' := 29) dX8_fault_26 cl_X8_148 (rfl) (t_X8_areSteps M Y.2.2.2 hC.2.2.2.2) rfl (by decide) rfl (Nat.le_of_ble_eq_true rfl) rfl (fun v N26 hv => ?_)
      obtain ⟨rfl, hr, h9⟩ := hv
      refine mx_if_eq (tgt := 37) (pc' := 32) dX8_fault_29 (by decide) rfl (fun c29 => ?_) (fun c29 => ?_)
      · have c29 := bI_0.mp c29
        refine mx_aload_n (pc' := 38) dX8_fault_37 rfl rfl ?_
        refine mx_getf (pc' := 41) (v := stF Y.2.2.2) dX8_fault_38 fl_X8_119 (rfl) (by rfl) (h9 c29) rfl ?_
        refine mx_iret dX8_fault_41 (Or.inl rfl) ?_
        rw [e]
        exact ⟨rfl, hC.rd hr, hr.cl⟩
      · have c29 := bI_n.mp c29
        refine mx_bipush (pc' := 34) (v := (-4)) dX8_fault_32 (by decide) rfl ?_
        refine mx_goto (pc' := 41) dX8_fault_34 (by decide) ?_
        refine mx_iret dX8_fault_41 (Or.inl rfl) ?_
        rw [e, c29]
        exact ⟨rfl, hC.rd hr, hr.cl⟩
    · have e : oFault x Y = crF Y.2.2.2 := if_pos c12
      refine mx_aload_n (pc' := 16) dX8_fault_15 rfl rfl ?_
      refine mx_callV (pc' := 19) dX8_fault_16 cl_X8_145 (rfl) (t_X8_isCurtain M Y.2.2.2 hC.2.2.2.2) rfl (by decide) rfl (Nat.le_of_ble_eq_true rfl) rfl (fun v N16 hv => ?_)
      obtain ⟨rfl, hr, h9, -⟩ := hv
      refine mx_if_eq (tgt := 37) (pc' := 22) dX8_fault_19 (by decide) rfl (fun c19 => ?_) (fun c19 => ?_)
      · have c19 := bI_0.mp c19
        refine mx_aload_n (pc' := 38) dX8_fault_37 rfl rfl ?_
        refine mx_getf (pc' := 41) (v := crF Y.2.2.2) dX8_fault_38 fl_X8_119 (rfl) (by rfl) (h9 c19) rfl ?_
        refine mx_iret dX8_fault_41 (Or.inl rfl) ?_
        rw [e]
        exact ⟨rfl, hC.rd hr, hr.cl⟩
      · have c19 := bI_n.mp c19
        refine mx_goto (pc' := 32) dX8_fault_22 (by decide) ?_
        refine mx_bipush (pc' := 34) (v := (-4)) dX8_fault_32 (by decide) rfl ?_
        refine mx_goto (pc' := 41) dX8_fault_34 (by decide) ?_
        refine mx_iret dX8_fault_41 (Or.inl rfl) ?_
        rw [e, c19]
        exact ⟨rfl, hC.rd hr, hr.cl⟩
  · have c6 := bI_0.mp c6
    have e : oFault x Y = (-1) := by
      unfold oFault
      rw [if_neg (fun z => c6 (by rw [z]; decide)), if_neg (fun z => c6 (by rw [z]; decide))]
    refine mx_iconst (pc' := 10) (v := (-1)) dX8_fault_9 (by decide) rfl ?_
    refine mx_iret dX8_fault_10 (Or.inl rfl) ?_
    rw [e]
    exact ⟨rfl, hC, Cl.rf⟩

theorem take_succ_get {α : Type} {L : List α} {i : Nat} {x : α} (h : L[i]? = some x) : L.take (i + 1) = L.take i ++ [x] := by
  rw [List.take_succ, h]; rfl
set_option maxHeartbeats 1000000 in
set_option maxRecDepth 10000 in
theorem l_X8_hang2 (M0 M : mx_M) (Y : Sy) (H : List FS) (E : List Em) (hC : MoA M (Y.1, H, Y.2.2.1, Y.2.2.2)) (hM : Cl M0 M) (h12 : M 143 12 = nI E.length) (hE : EmL E) (hR : ∀ (i : Nat) (e : Em), E[i]? = some e → EmR (M 150) (4 * i) e) : ∀ (k : Nat) (i : Nat) (M1 : mx_M), E.length < i + k → i ≤ E.length → MF M1 (E.take i, Y.1.2.1, Y.1.2.2.1, Y.1.2.2.2) → MoS M M1 → mx_V cX8_hang RX8 2 (some .int) 2 45 [some (.ref 143), some (.int (nI i))] [] M1 (fun v M' => v = some (.int (nI E.length)) ∧ MoA M' ((E, Y.1.2.1, Y.1.2.2.1, Y.1.2.2.2), H, Y.2.2.1, []) ∧ Cl M0 M') := by
  have h4 := hE.1
  intro k
  induction k with
  | zero =>
    intro i M1 hk hi hF hO
    exact absurd hk (by omega)
  | succ k ih =>
    intro i M1 hk hi hF hO
    refine mx_iload_n (pc' := 46) dX8_hang_45 rfl rfl ?_
    refine mx_aload_n (pc' := 47) dX8_hang_46 rfl rfl ?_
    refine mx_getf (pc' := 50) (v := nI E.length) dX8_hang_47 fl_X8_133 (rfl) (by rfl) (by rw [hO 143 (by decide) (by decide)]; exact h12) rfl ?_
    refine mx_icmp_ge (tgt := 101) (pc' := 53) dX8_hang_50 (by decide) rfl (fun c50 => ?_) (fun c50 => ?_)
    · have c50 := (nI_leI (by omega) (by omega)).mp c50
      rw [List.take_of_length_le c50] at hF
      refine mx_aload_n (pc' := 102) dX8_hang_101 rfl rfl ?_
      refine mx_iconst (pc' := 103) (v := nI 0) dX8_hang_102 (by decide) rfl ?_
      refine mx_putf (pc' := 106) dX8_hang_103 fl_X8_116 (rfl) (by rfl) (⟨rfl, rfl⟩) rfl ?_
      refine mx_aload_n (pc' := 107) dX8_hang_106 rfl rfl ?_
      refine mx_getr (pc' := 110) dX8_hang_107 fl_X8_7 (rfl) (by rfl) rfl ?_
      refine mx_iconst (pc' := 111) (v := nI 0) dX8_hang_110 (by decide) rfl ?_
      refine mx_iald (pc' := 112) (v := nI E.length) dX8_hang_111 (rfl) (rfl) (by decide) (by rw [mx_up_ne (by decide)]; exact hF.E) rfl ?_
      refine mx_iret dX8_hang_112 (Or.inl rfl) ?_
      have hC2 := hC.fld hF (show FV (E, Y.1.2.1, Y.1.2.2.1, Y.1.2.2.2) from hC.2.1) hO
      have hz3 : ∀ j, j ≠ 7 → mx_up M1 143 7 (nI 0) 143 j = M1 143 j := fun j h => by rw [mx_up_fn, upd_ne _ _ h]
      have hCc : MoA (mx_up M1 143 7 (nI 0)) ((E, Y.1.2.1, Y.1.2.2.1, Y.1.2.2.2), H, Y.2.2.1, []) := ⟨hC2.1.fr (mx_up_ne (by decide)), hC2.2.1, hC2.2.2.1.fr (hz3 3 (by decide)) (mx_up_ne (by decide)), hC2.2.2.2.1.fr (hz3 5 (by decide)) (mx_up_ne (by decide)), mx_up_eq _ _ _ _, Nat.zero_le _, fun c h => by simp at h, fun j c h => by simp at h⟩
      have hClc : Cl M1 (mx_up M1 143 7 (nI 0)) := fun q hq => mx_up_ne (by omega)
      exact ⟨rfl, hCc, (hM.tr hO.cl).tr hClc⟩
    · have c50 := Nat.not_le.mp (fun z => c50 ((nI_leI (by omega) (by omega)).mpr z))
      obtain ⟨e, he⟩ := get_lt c50
      have hw := hR i e he
      have h150 : M1 150 = M 150 := hO 150 (by decide) (by decide)
      refine mx_aload_n (pc' := 54) dX8_hang_53 rfl rfl ?_
      refine mx_aload_n (pc' := 55) dX8_hang_54 rfl rfl ?_
      refine mx_getr (pc' := 58) dX8_hang_55 fl_X8_29 (rfl) (by rfl) rfl ?_
      refine mx_iconst (pc' := 59) (v := nI 4) dX8_hang_58 (by decide) rfl ?_
      refine mx_iload_n (pc' := 60) dX8_hang_59 rfl rfl ?_
      refine mx_imul (pc' := 61) (v := nI (4 * i)) dX8_hang_60 (pk_mul 4 i) rfl ?_
      refine mx_iald (pc' := 62) (v := nI e.1) dX8_hang_61 (rfl) (rfl) (by omega) (by rw [h150]; exact hw.1) rfl ?_
      refine mx_aload_n (pc' := 63) dX8_hang_62 rfl rfl ?_
      refine mx_getr (pc' := 66) dX8_hang_63 fl_X8_29 (rfl) (by rfl) rfl ?_
      refine mx_iconst (pc' := 67) (v := nI 4) dX8_hang_66 (by decide) rfl ?_
      refine mx_iload_n (pc' := 68) dX8_hang_67 rfl rfl ?_
      refine mx_imul (pc' := 69) (v := nI (4 * i)) dX8_hang_68 (pk_mul 4 i) rfl ?_
      refine mx_iconst (pc' := 70) (v := nI 1) dX8_hang_69 (by decide) rfl ?_
      refine mx_iadd (pc' := 71) (v := nI (4 * i + 1)) dX8_hang_70 (nI_add _ 1) rfl ?_
      refine mx_iald (pc' := 72) (v := nI e.2.1) dX8_hang_71 (rfl) (rfl) (by omega) (by rw [h150]; exact hw.2.1) rfl ?_
      refine mx_aload_n (pc' := 73) dX8_hang_72 rfl rfl ?_
      refine mx_getr (pc' := 76) dX8_hang_73 fl_X8_29 (rfl) (by rfl) rfl ?_
      refine mx_iconst (pc' := 77) (v := nI 4) dX8_hang_76 (by decide) rfl ?_
      refine mx_iload_n (pc' := 78) dX8_hang_77 rfl rfl ?_
      refine mx_imul (pc' := 79) (v := nI (4 * i)) dX8_hang_78 (pk_mul 4 i) rfl ?_
      refine mx_iconst (pc' := 80) (v := nI 2) dX8_hang_79 (by decide) rfl ?_
      refine mx_iadd (pc' := 81) (v := nI (4 * i + 2)) dX8_hang_80 (nI_add _ 2) rfl ?_
      refine mx_iald (pc' := 82) (v := nI e.2.2.1) dX8_hang_81 (rfl) (rfl) (by omega) (by rw [h150]; exact hw.2.2.1) rfl ?_
      refine mx_aload_n (pc' := 83) dX8_hang_82 rfl rfl ?_
      refine mx_getr (pc' := 86) dX8_hang_83 fl_X8_29 (rfl) (by rfl) rfl ?_
      refine mx_iconst (pc' := 87) (v := nI 4) dX8_hang_86 (by decide) rfl ?_
      refine mx_iload_n (pc' := 88) dX8_hang_87 rfl rfl ?_
      refine mx_imul (pc' := 89) (v := nI (4 * i)) dX8_hang_88 (pk_mul 4 i) rfl ?_
      refine mx_iconst (pc' := 90) (v := nI 3) dX8_hang_89 (by decide) rfl ?_
      refine mx_iadd (pc' := 91) (v := nI (4 * i + 3)) dX8_hang_90 (nI_add _ 3) rfl ?_
      refine mx_iald (pc' := 92) (v := nI e.2.2.2) dX8_hang_91 (rfl) (rfl) (by omega) (by rw [h150]; exact hw.2.2.2) rfl ?_
      refine mx_callV (pc' := 95) dX8_hang_92 cl_X8_93 (rfl) (t_X8_addsEmitter M1 (E.take i, Y.1.2.1, Y.1.2.2.1, Y.1.2.2.2) hF (by show (E.take i).length < 4; rw [List.length_take]; omega) e (hE.2 e (List.mem_of_getElem? he))) rfl (by decide) rfl (Nat.le_of_ble_eq_true rfl) rfl (fun v N92 hv => ?_)
      obtain ⟨rfl, hF2, hO2⟩ := hv
      refine mx_iinc (pc' := 98) (ls' := [_, _]) (v := nI (i + 1)) dX8_hang_95 rfl (nI_add i 1) (by decide) (rfl) rfl rfl ?_
      refine mx_goto (pc' := 45) dX8_hang_98 (by decide) ?_
      refine ih (i + 1) N92 (by omega) (by omega) (hF2.eq ?_) (hO.tr hO2)
      show (E.take i ++ [e], _) = _
      rw [take_succ_get he]

set_option maxHeartbeats 1000000 in
set_option maxRecDepth 10000 in
theorem l_X8_hang1 (M0 M : mx_M) (Y : Sy) (H : List FS) (E : List Em) (hC : MoA M (Y.1, H, Y.2.2.1, Y.2.2.2)) (hM : Cl M0 M) (h12 : M 143 12 = nI E.length) (hE : EmL E) (hR : ∀ (i : Nat) (e : Em), E[i]? = some e → EmR (M 150) (4 * i) e) : ∀ (k : Nat) (i : Nat) (M1 : mx_M), 33 < i + k → i ≤ 33 → 17 ≤ i → Out M M1 144 145 → (∀ j, j < 17 ∨ 33 ≤ j → M1 144 j = M 144 j) → mx_V cX8_hang RX8 2 (some .int) 2 17 [some (.ref 143), some (.int (nI i))] [] M1 (fun v M' => v = some (.int (nI E.length)) ∧ MoA M' ((E, Y.1.2.1, Y.1.2.2.1, Y.1.2.2.2), H, Y.2.2.1, []) ∧ Cl M0 M') := by
  intro k
  induction k with
  | zero =>
    intro i M1 hk hi hi2 hO hj
    exact absurd hk (by omega)
  | succ k ih =>
    intro i M1 hk hi hi2 hO hj
    refine mx_iload_n (pc' := 18) dX8_hang_17 rfl rfl ?_
    refine mx_bipush (pc' := 20) (v := nI 33) dX8_hang_18 (by decide) rfl ?_
    refine mx_icmp_ge (tgt := 36) (pc' := 23) dX8_hang_20 (by decide) rfl (fun c20 => ?_) (fun c20 => ?_)
    · have c20 := (nI_leI (by omega) (by omega)).mp c20
      refine mx_aload_n (pc' := 37) dX8_hang_36 rfl rfl ?_
      refine mx_getr (pc' := 40) dX8_hang_37 fl_X8_7 (rfl) (by rfl) rfl ?_
      refine mx_iconst (pc' := 41) (v := nI 0) dX8_hang_40 (by decide) rfl ?_
      refine mx_iconst (pc' := 42) (v := nI 0) dX8_hang_41 (by decide) rfl ?_
      refine mx_iast (pc' := 43) dX8_hang_42 (rfl) (rfl) (by decide) rfl ?_
      refine mx_iconst (pc' := 44) (v := nI 0) dX8_hang_43 (by decide) rfl ?_
      refine mx_istore_n (pc' := 45) (ls' := [_, _]) dX8_hang_44 (by decide) (rfl) rfl rfl ?_
      have g : ∀ j, j ≠ 0 → (j < 17 ∨ 33 ≤ j) → mx_up M1 144 0 (nI 0) 144 j = M 144 j := fun j h h1 => by rw [mx_up_fn, upd_ne _ _ h]; exact hj j h1
      refine l_X8_hang2 M0 M Y H E hC hM h12 hE hR (E.length + 1) 0 _ (by omega) (by omega) ?_ (MoS.up (fun q a b => hO q (by omega)) (Or.inl rfl))
      exact MF.mk (F := (E.take 0, Y.1.2.1, Y.1.2.2.1, Y.1.2.2.2)) (by rw [mx_up_fn, upd_eq]; rfl) ((g 1 (by decide) (Or.inl (by decide))).trans hC.1.B) (fun j h => (g _ (by omega) (by omega)).trans (hC.1.sc j h)) (fun j h => (g _ (by omega) (by omega)).trans (hC.1.ac j h)) (fun j h => (g _ (by omega) (by omega)).trans (hC.1.st j h)) ⟨Nat.zero_le _, fun x h => by simp at h⟩ hC.1.bL (fun e x hx => by simp at hx) (fun e x hx => (hC.1.bu hx).fr fun j h => g _ (by omega) (by omega))
    · have c20 := Nat.not_le.mp (fun z => c20 ((nI_leI (by omega) (by omega)).mpr z))
      refine mx_aload_n (pc' := 24) dX8_hang_23 rfl rfl ?_
      refine mx_getr (pc' := 27) dX8_hang_24 fl_X8_7 (rfl) (by rfl) rfl ?_
      refine mx_iload_n (pc' := 28) dX8_hang_27 rfl rfl ?_
      refine mx_iconst (pc' := 29) (v := nI 0) dX8_hang_28 (by decide) rfl ?_
      refine mx_iast (pc' := 30) dX8_hang_29 (rfl) (rfl) (by omega) rfl ?_
      refine mx_iinc (pc' := 33) (ls' := [_, _]) (v := nI (i + 1)) dX8_hang_30 rfl (nI_add i 1) (by decide) (rfl) rfl rfl ?_
      refine mx_goto (pc' := 17) dX8_hang_33 (by decide) ?_
      exact ih (i + 1) _ (by omega) (by omega) (by omega) (hO.up (by omega) (by omega)) (fun j h => by rw [mx_up_fn, upd_ne _ _ (by omega)]; exact hj j h)

set_option maxHeartbeats 1000000 in
set_option maxRecDepth 10000 in
theorem t_X8_hang (M : mx_M) (Y : Sy) (hC : MoA M Y) : mx_T yX8_hang cX8_hang 2 (some .int) 5 [.ref 143] M (fun v M' => v = some (.int (oHang Y).1) ∧ MoA M' (oHang Y).2 ∧ Cl M M') := by
  refine mx_T.of1 (own := RX8) (ls := [some (.ref 143), none]) (by decide +kernel) rfl (Nat.le_of_ble_eq_true rfl) rfl rfl ?_
  refine mx_aload_n (pc' := 1) dX8_hang_0 rfl rfl ?_
  refine mx_callV (pc' := 4) dX8_hang_1 cl_X8_145 (rfl) (t_X8_isCurtain M Y.2.2.2 hC.2.2.2.2) rfl (by decide) rfl (Nat.le_of_ble_eq_true rfl) rfl (fun v N1 hv => ?_)
  obtain ⟨rfl, hr, -, hok⟩ := hv
  have hC0 := hC.rd hr
  refine mx_if_ne (tgt := 10) (pc' := 7) dX8_hang_4 (by decide) rfl (fun c4 => ?_) (fun c4 => ?_)
  · have c4 := bI_n.mp c4
    obtain ⟨k12, kE, kR⟩ := hok c4
    have e0 : oHang Y = (nI (crE Y.2.2.2).length, ((crE Y.2.2.2, Y.1.2.1, Y.1.2.2.1, Y.1.2.2.2), hPush Y.1 Y.2.1, Y.2.2.1, [])) := if_pos c4
    rw [e0]
    refine mx_aload_n (pc' := 11) dX8_hang_10 rfl rfl ?_
    refine mx_callV (pc' := 14) dX8_hang_11 cl_X8_90 (rfl) (t_X8_records _ Y.1 hC0.1 hC0.2.1 Y.2.1 hC0.2.2.1) rfl (by decide) rfl (Nat.le_of_ble_eq_true rfl) rfl (fun v N11 hv => ?_)
    obtain ⟨rfl, hH, hO⟩ := hv
    have hC1 := hC0.rec hH hO
    have hM1 := hr.cl.tr hO.cl
    refine mx_bipush (pc' := 16) (v := nI 17) dX8_hang_14 (by decide) rfl ?_
    refine mx_istore_n (pc' := 17) (ls' := [_, _]) dX8_hang_16 (by decide) (rfl) rfl rfl ?_
    exact (l_X8_hang1 M N11 Y _ (crE Y.2.2.2) hC1 hM1 (by rw [hO.2 12 (by decide)]; exact k12) kE (fun i e he => by rw [hO.1 150 (by decide) (by decide)]; exact kR i e he) 34 17 N11 (by omega) (by omega) (by omega) Out.rf (fun _ _ => rfl)).mono (by decide)
  · have c4 := bI_0.mp c4
    refine mx_bipush (pc' := 9) (v := (-2)) dX8_hang_7 (by decide) rfl ?_
    refine mx_iret dX8_hang_9 (Or.inl rfl) ?_
    have e : oHang Y = ((-2), Y) := if_neg c4
    rw [e]
    exact ⟨rfl, hC0, hr.cl⟩

set_option maxHeartbeats 1000000 in
set_option maxRecDepth 10000 in
theorem l_X8_play (M0 M : mx_M) (Y : Sy) (H : List FS) (L : List Nat) (hL : Y.2.2.2 = L) (hC : MoA M (Y.1, H, Y.2.2.1, L)) (hM : Cl M0 M) (ht : Y.1.2.2.1 3 + 100 < 2147483648) : ∀ (k : Nat) (i : Nat) (M1 : mx_M) (F : FS) (z : Option Value), mx_c1 [z] = true → L.length < i + k → i ≤ L.length → MF M1 F → FV F → MoS M M1 → F.2.2.1 3 ≤ Y.1.2.2.1 3 + i → plR L Y.1 = (i + (plR (L.drop i) F).1, (plR (L.drop i) F).2) → mx_V cX8_play RX8 5 (some .int) 7 20 [some (.ref 143), some (.int (nI i)), some (.int (nI 1)), some (.int (nI i)), z] [] M1 (fun v M' => v = some (.int (nI (plR L Y.1).1)) ∧ MoA M' ((plR L Y.1).2, H, Y.2.2.1, []) ∧ Cl M0 M') := by
  have h60 : L.length ≤ 60 := hC.2.2.2.2.2.1
  have JE : ∀ (N : mx_M) (F : FS) (n : Nat) (a b c : Option Value), MF N F → FV F → MoS M N → plR L Y.1 = (n, F) → mx_V cX8_play RX8 5 (some .int) 7 134 [some (.ref 143), some (.int (nI n)), a, b, c] [] N (fun v M' => v = some (.int (nI (plR L Y.1).1)) ∧ MoA M' ((plR L Y.1).2, H, Y.2.2.1, []) ∧ Cl M0 M') := by
    intro N F n a b c hF hV hO hr
    refine mx_aload_n (pc' := 135) dX8_play_134 rfl rfl ?_
    refine mx_iconst (pc' := 136) (v := nI 0) dX8_play_135 (by decide) rfl ?_
    refine mx_putf (pc' := 139) dX8_play_136 fl_X8_116 (rfl) (by rfl) (⟨rfl, rfl⟩) rfl ?_
    refine mx_iload_n (pc' := 140) dX8_play_139 rfl rfl ?_
    refine mx_iret dX8_play_140 (Or.inl rfl) ?_
    have hC2 := hC.fld hF hV hO
    have hz3 : ∀ j, j ≠ 7 → mx_up N 143 7 (nI 0) 143 j = N 143 j := fun j h => by rw [mx_up_fn, upd_ne _ _ h]
    have hCc : MoA (mx_up N 143 7 (nI 0)) (F, H, Y.2.2.1, []) := ⟨hC2.1.fr (mx_up_ne (by decide)), hC2.2.1, hC2.2.2.1.fr (hz3 3 (by decide)) (mx_up_ne (by decide)), hC2.2.2.2.1.fr (hz3 5 (by decide)) (mx_up_ne (by decide)), mx_up_eq _ _ _ _, Nat.zero_le _, fun c h => by simp at h, fun j c h => by simp at h⟩
    have hClc : Cl N (mx_up N 143 7 (nI 0)) := fun q hq => mx_up_ne (by omega)
    rw [hr]
    exact ⟨rfl, hCc, (hM.tr hO.cl).tr hClc⟩
  have JQ : ∀ (N : mx_M) (F : FS) (n m : Nat) (x : Int32) (c : Option Value), x = 0 → MF N F → FV F → MoS M N → plR L Y.1 = (n, F) → mx_V cX8_play RX8 5 (some .int) 7 20 [some (.ref 143), some (.int (nI n)), some (.int x), some (.int (nI m)), c] [] N (fun v M' => v = some (.int (nI (plR L Y.1).1)) ∧ MoA M' ((plR L Y.1).2, H, Y.2.2.1, []) ∧ Cl M0 M') := by
    intro N F n m x c hx hF hV hO hr
    refine mx_iload_n (pc' := 21) dX8_play_20 rfl rfl ?_
    refine mx_aload_n (pc' := 22) dX8_play_21 rfl rfl ?_
    refine mx_getf (pc' := 25) (v := nI L.length) dX8_play_22 fl_X8_116 (rfl) (by rfl) (by rw [hO 143 (by decide) (by decide)]; exact hC.2.2.2.2.1) rfl ?_
    refine mx_icmp_ge (tgt := 134) (pc' := 28) dX8_play_25 (by decide) rfl (fun c25 => ?_) (fun c25 => ?_)
    · exact JE N F n _ _ _ hF hV hO hr
    · refine mx_iload_n (pc' := 29) dX8_play_28 rfl rfl ?_
      refine mx_if_eq (tgt := 134) (pc' := 32) dX8_play_29 (by decide) rfl (fun c29 => ?_) (fun c29 => ?_)
      · exact JE N F n _ _ _ hF hV hO hr
      · exact absurd hx c29
  intro k
  induction k with
  | zero =>
    intro i M1 F z hz hk hi hF hV hO hT hr
    exact absurd hk (by omega)
  | succ k ih =>
    intro i M1 F z hz hk hi hF hV hO hT hr
    have hf4 := hV.2.2.2.1
    refine mx_iload_n (pc' := 21) dX8_play_20 rfl rfl ?_
    refine mx_aload_n (pc' := 22) dX8_play_21 rfl rfl ?_
    refine mx_getf (pc' := 25) (v := nI L.length) dX8_play_22 fl_X8_116 (rfl) (by rfl) (by rw [hO 143 (by decide) (by decide)]; exact hC.2.2.2.2.1) rfl ?_
    refine mx_icmp_ge (tgt := 134) (pc' := 28) dX8_play_25 (by decide) rfl (fun c25 => ?_) (fun c25 => ?_)
    · have c25 := (nI_leI (by omega) (by omega)).mp c25
      rw [List.drop_eq_nil_of_le c25] at hr
      exact JE M1 F i _ _ _ hF hV hO hr
    · have c25 := Nat.not_le.mp (fun z => c25 ((nI_leI (by omega) (by omega)).mpr z))
      obtain ⟨c, hx⟩ := get_lt c25
      have hc := hC.2.2.2.2.2.2.1 c (List.mem_of_getElem? hx)
      rw [drop_cons hx] at hr
      have h148 : M1 148 i = nI c := by rw [hO 148 (by decide) (by decide)]; exact hC.2.2.2.2.2.2.2 i c hx
      refine mx_iload_n (pc' := 29) dX8_play_28 rfl rfl ?_
      refine mx_if_eq (tgt := 134) (pc' := 32) dX8_play_29 (by decide) rfl (fun c29 => ?_) (fun c29 => ?_)
      · exact absurd c29 (by decide)
      · refine mx_aload_n (pc' := 33) dX8_play_32 rfl rfl ?_
        refine mx_getr (pc' := 36) dX8_play_33 fl_X8_22 (rfl) (by rfl) rfl ?_
        refine mx_iload_n (pc' := 37) dX8_play_36 rfl rfl ?_
        refine mx_iald (pc' := 38) (v := nI c) dX8_play_37 (rfl) (rfl) (by omega) (h148) rfl ?_
        refine mx_bipush (pc' := 40) (v := nI 98) dX8_play_38 (by decide) rfl ?_
        refine mx_icmp_ne (tgt := 50) (pc' := 43) dX8_play_40 (by decide) rfl (fun c40 => ?_) (fun c40 => ?_)
        · have c40 : ¬ _ := fun z => c40 ((nI_eq (by omega) (by omega)).mpr z)
          refine mx_aload_n (pc' := 51) dX8_play_50 rfl rfl ?_
          refine mx_getr (pc' := 54) dX8_play_51 fl_X8_7 (rfl) (by rfl) rfl ?_
          refine mx_bipush (pc' := 56) (v := nI 6) dX8_play_54 (by decide) rfl ?_
          refine mx_iald (pc' := 57) (v := nI (F.2.2.1 4)) dX8_play_56 (rfl) (rfl) (by decide) (hF.sc 4 (by decide)) rfl ?_
          refine mx_if_ne (tgt := 64) (pc' := 60) dX8_play_57 (by decide) rfl (fun c57 => ?_) (fun c57 => ?_)
          · have c57 : ¬ F.2.2.1 4 = 0 := fun z => c57 (by rw [z]; rfl)
            refine mx_iconst (pc' := 65) (v := nI 0) dX8_play_64 (by decide) rfl ?_
            refine mx_istore_n (pc' := 66) (ls' := [_, _, _, _, _]) dX8_play_65 (by decide) (hz) rfl rfl ?_
            refine mx_iload_n (pc' := 67) dX8_play_66 rfl rfl ?_
            refine mx_if_eq (tgt := 128) (pc' := 70) dX8_play_67 (by decide) rfl (fun c67 => ?_) (fun c67 => ?_)
            · have e : plS c F = none := by simp [plS, c40, c57]
              rw [show plR (c :: L.drop (i + 1)) F = (0, F) by simp [plR, e]] at hr
              refine mx_iinc (pc' := 131) (ls' := [_, _, _, _, _]) (v := nI (i + 1)) dX8_play_128 rfl (nI_add i 1) (by decide) (hz) rfl rfl ?_
              refine mx_goto (pc' := 20) dX8_play_131 (by decide) ?_
              exact JQ M1 F i (i + 1) _ _ c67 hF hV hO hr
            · exact absurd rfl c67
          · have c57 : F.2.2.1 4 = 0 := (nI_eq (a := F.2.2.1 4) (b := 0) (by omega) (by omega)).mp c57
            refine mx_iconst (pc' := 61) (v := nI 1) dX8_play_60 (by decide) rfl ?_
            refine mx_goto (pc' := 65) dX8_play_61 (by decide) ?_
            refine mx_istore_n (pc' := 66) (ls' := [_, _, _, _, _]) dX8_play_65 (by decide) (hz) rfl rfl ?_
            refine mx_iload_n (pc' := 67) dX8_play_66 rfl rfl ?_
            refine mx_if_eq (tgt := 128) (pc' := 70) dX8_play_67 (by decide) rfl (fun c67 => ?_) (fun c67 => ?_)
            · exact absurd c67 (by decide)
            · have e : plS c F = some (fPass (stK c) F).2 := by
                unfold plS
                rw [if_neg c40, if_pos c57]
              rw [show plR (c :: L.drop (i + 1)) F = ((plR (L.drop (i + 1)) (fPass (stK c) F).2).1 + 1, (plR (L.drop (i + 1)) (fPass (stK c) F).2).2) by simp [plR, e]] at hr
              refine mx_aload_n (pc' := 71) dX8_play_70 rfl rfl ?_
              refine mx_getr (pc' := 74) dX8_play_71 fl_X8_22 (rfl) (by rfl) rfl ?_
              refine mx_iload_n (pc' := 75) dX8_play_74 rfl rfl ?_
              refine mx_iald (pc' := 76) (v := nI c) dX8_play_75 (rfl) (rfl) (by omega) (h148) rfl ?_
              refine mx_bipush (pc' := 78) (v := nI 98) dX8_play_76 (by decide) rfl ?_
              refine mx_icmp_ne (tgt := 88) (pc' := 81) dX8_play_78 (by decide) rfl (fun c78 => ?_) (fun c78 => ?_)
              · have c78 : ¬ _ := fun z => c78 ((nI_eq (by omega) (by omega)).mpr z)
                refine mx_aload_n (pc' := 89) dX8_play_88 rfl rfl ?_
                refine mx_aload_n (pc' := 90) dX8_play_89 rfl rfl ?_
                refine mx_getr (pc' := 93) dX8_play_90 fl_X8_22 (rfl) (by rfl) rfl ?_
                refine mx_iload_n (pc' := 94) dX8_play_93 rfl rfl ?_
                refine mx_iald (pc' := 95) (v := nI c) dX8_play_94 (rfl) (rfl) (by omega) (h148) rfl ?_
                refine mx_bipush (pc' := 97) (v := nI 108) dX8_play_95 (by decide) rfl ?_
                refine mx_icmp_ne (tgt := 104) (pc' := 100) dX8_play_97 (by decide) rfl (fun c97 => ?_) (fun c97 => ?_)
                · have c97 : ¬ _ := fun z => c97 ((nI_eq (by omega) (by omega)).mpr z)
                  refine mx_aload_n (pc' := 105) dX8_play_104 rfl rfl ?_
                  refine mx_getr (pc' := 108) dX8_play_105 fl_X8_22 (rfl) (by rfl) rfl ?_
                  refine mx_iload_n (pc' := 109) dX8_play_108 rfl rfl ?_
                  refine mx_iald (pc' := 110) (v := nI c) dX8_play_109 (rfl) (rfl) (by omega) (h148) rfl ?_
                  refine mx_bipush (pc' := 112) (v := nI 114) dX8_play_110 (by decide) rfl ?_
                  refine mx_icmp_ne (tgt := 119) (pc' := 115) dX8_play_112 (by decide) rfl (fun c112 => ?_) (fun c112 => ?_)
                  · have c112 : ¬ _ := fun z => c112 ((nI_eq (by omega) (by omega)).mpr z)
                    refine mx_iconst (pc' := 120) (v := dr (stK c)) dX8_play_119 (by rw [show stK c = 1 from (if_neg c97).trans (if_neg c112)]; decide) rfl ?_
                    refine mx_callV (pc' := 123) dX8_play_120 cl_X8_105 (rfl) (t_X8_goTick M1 F hF hV c57 (by omega) (stK c) (stK_3 c)) rfl (by decide) rfl (Nat.le_of_ble_eq_true rfl) rfl (fun v N120 hv => ?_)
                    obtain ⟨rfl, hF2, hO2⟩ := hv
                    refine mx_istore (pc' := 125) (ls' := [_, _, _, _, _]) dX8_play_123 (by decide) (hz) rfl rfl ?_
                    refine mx_iinc (pc' := 128) (ls' := [_, _, _, _, _]) (v := nI (i + 1)) dX8_play_125 rfl (nI_add i 1) (by decide) (rfl) rfl rfl ?_
                    refine mx_iinc (pc' := 131) (ls' := [_, _, _, _, _]) (v := nI (i + 1)) dX8_play_128 rfl (nI_add i 1) (by decide) (rfl) rfl rfl ?_
                    refine mx_goto (pc' := 20) dX8_play_131 (by decide) ?_
                    exact ih (i + 1) N120 (fPass (stK c) F).2 _ rfl (by omega) (by omega) hF2 (hV.pass _) (hO.tr hO2) (by have := plS_t e; omega) (by rw [hr]; congr 1; dsimp only; omega)
                  · have c112 := (nI_eq (by omega) (by omega)).mp c112
                    refine mx_iconst (pc' := 116) (v := dr (stK c)) dX8_play_115 (by rw [show stK c = 2 from (if_neg c97).trans (if_pos c112)]; decide) rfl ?_
                    refine mx_goto (pc' := 120) dX8_play_116 (by decide) ?_
                    refine mx_callV (pc' := 123) dX8_play_120 cl_X8_105 (rfl) (t_X8_goTick M1 F hF hV c57 (by omega) (stK c) (stK_3 c)) rfl (by decide) rfl (Nat.le_of_ble_eq_true rfl) rfl (fun v N120 hv => ?_)
                    obtain ⟨rfl, hF2, hO2⟩ := hv
                    refine mx_istore (pc' := 125) (ls' := [_, _, _, _, _]) dX8_play_123 (by decide) (hz) rfl rfl ?_
                    refine mx_iinc (pc' := 128) (ls' := [_, _, _, _, _]) (v := nI (i + 1)) dX8_play_125 rfl (nI_add i 1) (by decide) (rfl) rfl rfl ?_
                    refine mx_iinc (pc' := 131) (ls' := [_, _, _, _, _]) (v := nI (i + 1)) dX8_play_128 rfl (nI_add i 1) (by decide) (rfl) rfl rfl ?_
                    refine mx_goto (pc' := 20) dX8_play_131 (by decide) ?_
                    exact ih (i + 1) N120 (fPass (stK c) F).2 _ rfl (by omega) (by omega) hF2 (hV.pass _) (hO.tr hO2) (by have := plS_t e; omega) (by rw [hr]; congr 1; dsimp only; omega)
                · have c97 := (nI_eq (by omega) (by omega)).mp c97
                  refine mx_iconst (pc' := 101) (v := dr (stK c)) dX8_play_100 (by rw [show stK c = 0 from if_pos c97]; decide) rfl ?_
                  refine mx_goto (pc' := 120) dX8_play_101 (by decide) ?_
                  refine mx_callV (pc' := 123) dX8_play_120 cl_X8_105 (rfl) (t_X8_goTick M1 F hF hV c57 (by omega) (stK c) (stK_3 c)) rfl (by decide) rfl (Nat.le_of_ble_eq_true rfl) rfl (fun v N120 hv => ?_)
                  obtain ⟨rfl, hF2, hO2⟩ := hv
                  refine mx_istore (pc' := 125) (ls' := [_, _, _, _, _]) dX8_play_123 (by decide) (hz) rfl rfl ?_
                  refine mx_iinc (pc' := 128) (ls' := [_, _, _, _, _]) (v := nI (i + 1)) dX8_play_125 rfl (nI_add i 1) (by decide) (rfl) rfl rfl ?_
                  refine mx_iinc (pc' := 131) (ls' := [_, _, _, _, _]) (v := nI (i + 1)) dX8_play_128 rfl (nI_add i 1) (by decide) (rfl) rfl rfl ?_
                  refine mx_goto (pc' := 20) dX8_play_131 (by decide) ?_
                  exact ih (i + 1) N120 (fPass (stK c) F).2 _ rfl (by omega) (by omega) hF2 (hV.pass _) (hO.tr hO2) (by have := plS_t e; omega) (by rw [hr]; congr 1; dsimp only; omega)
              · have c78 := (nI_eq (by omega) (by omega)).mp c78
                exact absurd c78 c40
        · have c40 := (nI_eq (by omega) (by omega)).mp c40
          refine mx_aload_n (pc' := 44) dX8_play_43 rfl rfl ?_
          refine mx_callV (pc' := 47) dX8_play_44 cl_X8_109 (rfl) (t_X8_canBomb M1 F hF hV) rfl (by decide) rfl (Nat.le_of_ble_eq_true rfl) rfl (fun v N44 hv => ?_)
          obtain ⟨rfl, hv⟩ := hv
          rw [hv]
          refine mx_goto (pc' := 65) dX8_play_47 (by decide) ?_
          refine mx_istore_n (pc' := 66) (ls' := [_, _, _, _, _]) dX8_play_65 (by decide) (hz) rfl rfl ?_
          refine mx_iload_n (pc' := 67) dX8_play_66 rfl rfl ?_
          refine mx_if_eq (tgt := 128) (pc' := 70) dX8_play_67 (by decide) rfl (fun c67 => ?_) (fun c67 => ?_)
          · have c67 := bI_0.mp c67
            have e : plS c F = none := by simp [plS, c40, c67]
            rw [show plR (c :: L.drop (i + 1)) F = (0, F) by simp [plR, e]] at hr
            refine mx_iinc (pc' := 131) (ls' := [_, _, _, _, _]) (v := nI (i + 1)) dX8_play_128 rfl (nI_add i 1) (by decide) (hz) rfl rfl ?_
            refine mx_goto (pc' := 20) dX8_play_131 (by decide) ?_
            exact JQ M1 F i (i + 1) _ _ (bI_0.mpr c67) hF hV hO hr
          · have c67 := bI_n.mp c67
            have e : plS c F = some (fBomb F).2 := by
              unfold plS
              rw [if_pos c40, if_pos c67]
            rw [show plR (c :: L.drop (i + 1)) F = ((plR (L.drop (i + 1)) (fBomb F).2).1 + 1, (plR (L.drop (i + 1)) (fBomb F).2).2) by simp [plR, e]] at hr
            refine mx_aload_n (pc' := 71) dX8_play_70 rfl rfl ?_
            refine mx_getr (pc' := 74) dX8_play_71 fl_X8_22 (rfl) (by rfl) rfl ?_
            refine mx_iload_n (pc' := 75) dX8_play_74 rfl rfl ?_
            refine mx_iald (pc' := 76) (v := nI c) dX8_play_75 (rfl) (rfl) (by omega) (h148) rfl ?_
            refine mx_bipush (pc' := 78) (v := nI 98) dX8_play_76 (by decide) rfl ?_
            refine mx_icmp_ne (tgt := 88) (pc' := 81) dX8_play_78 (by decide) rfl (fun c78 => ?_) (fun c78 => ?_)
            · have c78 : ¬ _ := fun z => c78 ((nI_eq (by omega) (by omega)).mpr z)
              exact absurd c40 c78
            · have c78 := (nI_eq (by omega) (by omega)).mp c78
              refine mx_aload_n (pc' := 82) dX8_play_81 rfl rfl ?_
              refine mx_callV (pc' := 85) dX8_play_82 cl_X8_113 (rfl) (t_X8_goBomb M1 F hF hV c67.2) rfl (by decide) rfl (Nat.le_of_ble_eq_true rfl) rfl (fun v N82 hv => ?_)
              obtain ⟨rfl, hF2, hO2⟩ := hv
              refine mx_goto (pc' := 123) dX8_play_85 (by decide) ?_
              refine mx_istore (pc' := 125) (ls' := [_, _, _, _, _]) dX8_play_123 (by decide) (hz) rfl rfl ?_
              refine mx_iinc (pc' := 128) (ls' := [_, _, _, _, _]) (v := nI (i + 1)) dX8_play_125 rfl (nI_add i 1) (by decide) (rfl) rfl rfl ?_
              refine mx_iinc (pc' := 131) (ls' := [_, _, _, _, _]) (v := nI (i + 1)) dX8_play_128 rfl (nI_add i 1) (by decide) (rfl) rfl rfl ?_
              refine mx_goto (pc' := 20) dX8_play_131 (by decide) ?_
              rw [← bI_t c67]
              exact ih (i + 1) N82 (fBomb F).2 _ rfl (by omega) (by omega) hF2 hV.bomb (hO.tr hO2) (by have := plS_t e; omega) (by rw [hr]; congr 1; dsimp only; omega)

set_option maxHeartbeats 1000000 in
set_option maxRecDepth 10000 in
theorem t_X8_play (M : mx_M) (Y : Sy) (hC : MoA M Y) (ht : Y.1.2.2.1 3 + 100 < 2147483648) : mx_T yX8_play cX8_play 5 (some .int) 7 [.ref 143] M (fun v M' => v = some (.int (oPlay Y).1) ∧ MoA M' (oPlay Y).2 ∧ Cl M M') := by
  refine mx_T.of1 (own := RX8) (ls := [some (.ref 143), none, none, none, none]) (by decide +kernel) rfl (Nat.le_of_ble_eq_true rfl) rfl rfl ?_
  refine mx_aload_n (pc' := 1) dX8_play_0 rfl rfl ?_
  refine mx_callV (pc' := 4) dX8_play_1 cl_X8_148 (rfl) (t_X8_areSteps M Y.2.2.2 hC.2.2.2.2) rfl (by decide) rfl (Nat.le_of_ble_eq_true rfl) rfl (fun v N1 hv => ?_)
  obtain ⟨rfl, hr, -⟩ := hv
  have hC0 := hC.rd hr
  refine mx_if_ne (tgt := 10) (pc' := 7) dX8_play_4 (by decide) rfl (fun c4 => ?_) (fun c4 => ?_)
  · have c4 := bI_n.mp c4
    have e0 : oPlay Y = (nI (plR Y.2.2.2 Y.1).1, ((plR Y.2.2.2 Y.1).2, hPush Y.1 Y.2.1, Y.2.2.1, [])) := if_pos c4
    rw [e0]
    refine mx_aload_n (pc' := 11) dX8_play_10 rfl rfl ?_
    refine mx_callV (pc' := 14) dX8_play_11 cl_X8_90 (rfl) (t_X8_records _ Y.1 hC0.1 hC0.2.1 Y.2.1 hC0.2.2.1) rfl (by decide) rfl (Nat.le_of_ble_eq_true rfl) rfl (fun v N11 hv => ?_)
    obtain ⟨rfl, hH, hO⟩ := hv
    have hC1 := hC0.rec hH hO
    have hM1 := hr.cl.tr hO.cl
    refine mx_iconst (pc' := 15) (v := nI 0) dX8_play_14 (by decide) rfl ?_
    refine mx_istore_n (pc' := 16) (ls' := [_, _, _, _, _]) dX8_play_15 (by decide) (rfl) rfl rfl ?_
    refine mx_iconst (pc' := 17) (v := nI 1) dX8_play_16 (by decide) rfl ?_
    refine mx_istore_n (pc' := 18) (ls' := [_, _, _, _, _]) dX8_play_17 (by decide) (rfl) rfl rfl ?_
    refine mx_iconst (pc' := 19) (v := nI 0) dX8_play_18 (by decide) rfl ?_
    refine mx_istore_n (pc' := 20) (ls' := [_, _, _, _, _]) dX8_play_19 (by decide) (rfl) rfl rfl ?_
    exact l_X8_play M N11 Y _ Y.2.2.2 rfl hC1 hM1 ht (Y.2.2.2.length + 1) 0 N11 Y.1 none rfl (by omega) (by omega) hC1.1 hC.2.1 MoS.rf (by omega) (by rw [List.drop_zero, Nat.zero_add])
  · have c4 := bI_0.mp c4
    refine mx_bipush (pc' := 9) (v := (-2)) dX8_play_7 (by decide) rfl ?_
    refine mx_iret dX8_play_9 (Or.inl rfl) ?_
    have e : oPlay Y = ((-2), Y) := if_neg c4
    rw [e]
    exact ⟨rfl, hC0, hr.cl⟩

