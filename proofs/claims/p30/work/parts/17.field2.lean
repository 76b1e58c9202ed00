set_option maxHeartbeats 1000000 in
set_option maxRecDepth 10000 in
theorem l_X3_advance (M : mx_M) (a : Nat) (hs : FB a) (E : List Em) (t : Nat) (ht : t < 2147483648) (R : FS) : ∀ (k : Nat) (i : Nat) (M1 : mx_M) (H : FS), E.length < i + k → i ≤ E.length → H.1 = E → FV H → H.2.2.1 3 = t → FiA M1 a H → (E.drop i).foldl fStep1 H = R → Out M M1 a (a + 14) → mx_V cX3_advance RX3 2 none 4 43 [some (.ref a), some (.int (nI i))] [] M1 (fun v M' => v = none ∧ FiA M' a R ∧ Out M M' a (a + 14)) := by
  obtain ⟨s0, ⟨e0, e1, e2, e3, e4⟩, ⟨b0, b1, b2, b3, b4, b5⟩, s12, s13⟩ := hs.s
  intro k
  induction k with
  | zero =>
    intro i M1 H hk hi hE hV hT hF hR hO
    exact absurd hk (by omega)
  | succ k ih =>
    intro i M1 H hk hi hE hV hT hF hR hO
    have h4 : E.length ≤ 4 := hE ▸ hF.1.2.1.1
    refine mx_iload_n (pc' := 44) dX3_advance_43 rfl rfl ?_
    refine mx_aload_n (pc' := 45) dX3_advance_44 rfl rfl ?_
    refine mx_getr (pc' := 48) dX3_advance_45 fl_X3_12 (by assumption) (by rfl) rfl ?_
    refine mx_getf (pc' := 51) (v := nI E.length) dX3_advance_48 fl_X3_81 (by assumption) (by rfl) (hE ▸ hF.1.1) rfl ?_
    refine mx_icmp_ge (tgt := 97) (pc' := 54) dX3_advance_51 (by decide) rfl (fun c51 => ?_) (fun c51 => ?_)
    · have c51 := (nI_leI (by omega) (by omega)).mp c51
      refine mx_vret dX3_advance_97 rfl ?_
      rw [List.drop_eq_nil_of_le c51] at hR
      exact ⟨rfl, hF.eq hR, hO⟩
    · have c51 := Nat.not_le.mp (fun z => c51 ((nI_leI (by omega) (by omega)).mpr z))
      obtain ⟨x, hx⟩ := get_lt c51
      have hx2 : H.1[i]? = some x := hE ▸ hx
      have hW := hF.1.2.2.at hx2
      have hXV := hF.1.2.1.2 x (List.mem_of_getElem? hx2)
      refine mx_aload_n (pc' := 55) dX3_advance_54 rfl rfl ?_
      refine mx_getr (pc' := 58) dX3_advance_55 fl_X3_12 (by assumption) (by rfl) rfl ?_
      refine mx_iload_n (pc' := 59) dX3_advance_58 rfl rfl ?_
      refine mx_aload_n (pc' := 60) dX3_advance_59 rfl rfl ?_
      refine mx_getf (pc' := 63) (v := nI t) dX3_advance_60 fl_X3_42 (by assumption) (by rfl) ((hF.2.2.1 3 (by decide)).trans (congrArg nI hT)) rfl ?_
      refine mx_callV (pc' := 66) dX3_advance_63 cl_X3_84 (e0) (t_X2_firesAt M1 (a + 1) i t ⟨e0, e1, e2, e3, e4⟩ (by omega) x hW hXV ht) rfl (by decide) rfl (Nat.le_of_ble_eq_true rfl) rfl (fun v N63 hv => ?_)
      obtain ⟨rfl, hv⟩ := hv
      rw [hv]
      refine mx_if_eq (tgt := 91) (pc' := 69) dX3_advance_66 (by decide) rfl (fun c66 => ?_) (fun c66 => ?_)
      · have c66 := bI_0.mp c66
        refine mx_iinc (pc' := 94) (ls' := [_, _]) (v := nI (i + 1)) dX3_advance_91 rfl (nI_add i 1) (by decide) (rfl) rfl rfl ?_
        refine mx_goto (pc' := 43) dX3_advance_94 (by decide) ?_
        rw [drop_cons hx, List.foldl_cons] at hR
        have h1 := fStep1_1 H x
        have e : fStep1 H x = H := if_neg (by rw [hT]; exact c66)
        rw [e] at hR
        refine ih (i + 1) M1 _ (by omega) (by omega) hE hV hT hF hR hO
      · have c66 := bI_n.mp c66
        refine mx_aload_n (pc' := 70) dX3_advance_69 rfl rfl ?_
        refine mx_aload_n (pc' := 71) dX3_advance_70 rfl rfl ?_
        refine mx_getr (pc' := 74) dX3_advance_71 fl_X3_12 (by assumption) (by rfl) rfl ?_
        refine mx_getr (pc' := 77) dX3_advance_74 fl_X3_88 (by assumption) (by rfl) rfl ?_
        refine mx_iload_n (pc' := 78) dX3_advance_77 rfl rfl ?_
        refine mx_iald (pc' := 79) (v := nI x.1) dX3_advance_78 (by assumption) (rfl) (by omega) (hW.1) rfl ?_
        refine mx_aload_n (pc' := 80) dX3_advance_79 rfl rfl ?_
        refine mx_getr (pc' := 83) dX3_advance_80 fl_X3_12 (by assumption) (by rfl) rfl ?_
        refine mx_getr (pc' := 86) dX3_advance_83 fl_X3_91 (by assumption) (by rfl) rfl ?_
        refine mx_iload_n (pc' := 87) dX3_advance_86 rfl rfl ?_
        refine mx_iald (pc' := 88) (v := nI x.2.1) dX3_advance_87 (by assumption) (rfl) (by omega) (hW.2.1) rfl ?_
        refine mx_callV (pc' := 91) dX3_advance_88 cl_X3_94 (s0) (t_X3_fire M1 a hs H hF hV x.1 x.2.1 hXV.1 hXV.2.1) rfl (by decide) rfl (Nat.le_of_ble_eq_true rfl) rfl (fun v N88 hv => ?_)
        obtain ⟨rfl, hF2, hO2⟩ := hv
        refine mx_iinc (pc' := 94) (ls' := [_, _]) (v := nI (i + 1)) dX3_advance_91 rfl (nI_add i 1) (by decide) (rfl) rfl rfl ?_
        refine mx_goto (pc' := 43) dX3_advance_94 (by decide) ?_
        rw [drop_cons hx, List.foldl_cons] at hR
        have h1 := fStep1_1 H x
        have e : fStep1 H x = fFire x.1 x.2.1 H := if_pos (by rw [hT]; exact c66)
        rw [e] at hR h1
        refine ih (i + 1) N88 _ (by omega) (by omega) (h1.1.trans hE) (by unfold FV; rw [h1.2]; exact hV) (by rw [h1.2]; exact hT) hF2 hR (hO.tr hO2)

set_option maxHeartbeats 1000000 in
set_option maxRecDepth 10000 in
theorem t_X3_advance (M : mx_M) (a : Nat) (hs : FB a) (F : FS) (hF : FiA M a F) (hV : FV F) (ht : F.2.2.1 3 + 1 < 2147483648) : mx_T yX3_advance cX3_advance 2 none 4 [.ref a] M (fun v M' => v = none ∧ FiA M' a (fAdv F) ∧ Out M M' a (a + 14)) := by
  obtain ⟨s0, ⟨e0, e1, e2, e3, e4⟩, ⟨b0, b1, b2, b3, b4, b5⟩, s12, s13⟩ := hs.s
  refine mx_T.of1 (own := RX3) (ls := [some (.ref a), none]) (by decide +kernel) rfl (Nat.le_of_ble_eq_true rfl) rfl rfl ?_
  refine mx_aload_n (pc' := 1) dX3_advance_0 rfl rfl ?_
  refine mx_dup (pc' := 2) dX3_advance_1 rfl rfl ?_
  refine mx_getf (pc' := 5) (v := nI (F.2.2.1 3)) dX3_advance_2 fl_X3_42 (by assumption) (by rfl) (hF.2.2.1 3 (by decide)) rfl ?_
  refine mx_iconst (pc' := 6) (v := nI 1) dX3_advance_5 (by decide) rfl ?_
  refine mx_iadd (pc' := 7) (v := nI (F.2.2.1 3 + 1)) dX3_advance_6 (nI_add _ 1) rfl ?_
  refine mx_putf (pc' := 10) dX3_advance_7 fl_X3_42 (by assumption) (by rfl) (⟨rfl, rfl⟩) rfl ?_
  have hF1 := hF.sc 3 (by decide) (F.2.2.1 3 + 1)
  have h5 : F.2.2.1 5 < 2 := hV.2.2.2.2.1
  refine mx_aload_n (pc' := 11) dX3_advance_10 rfl rfl ?_
  refine mx_getr (pc' := 14) dX3_advance_11 fl_X3_29 (by assumption) (by rfl) rfl ?_
  refine mx_iconst (pc' := 15) (v := nI 2) dX3_advance_14 (by decide) rfl ?_
  refine mx_dup2 (pc' := 16) dX3_advance_15 rfl rfl rfl ?_
  refine mx_iald (pc' := 17) (v := F.2.2.2 2) dX3_advance_16 (by assumption) (rfl) (by omega) (hF1.2.2.2.2 2 (by decide)) rfl ?_
  refine mx_aload_n (pc' := 18) dX3_advance_17 rfl rfl ?_
  refine mx_getr (pc' := 21) dX3_advance_18 fl_X3_21 (by assumption) (by rfl) rfl ?_
  refine mx_aload_n (pc' := 22) dX3_advance_21 rfl rfl ?_
  refine mx_getr (pc' := 25) dX3_advance_22 fl_X3_25 (by assumption) (by rfl) rfl ?_
  refine mx_iconst (pc' := 26) (v := nI 0) dX3_advance_25 (by decide) rfl ?_
  refine mx_iald (pc' := 27) (v := nI (F.2.2.1 5)) dX3_advance_26 (by assumption) (rfl) (by omega) (hF1.2.2.2.1 0 (by decide)) rfl ?_
  refine mx_iconst (pc' := 28) (v := nI 1) dX3_advance_27 (by decide) rfl ?_
  refine mx_icmp_ne (tgt := 35) (pc' := 31) dX3_advance_28 (by decide) rfl (fun c28 => ?_) (fun c28 => ?_)
  · have c28 : ¬ _ := fun z => c28 ((nI_eq (by omega) (by omega)).mpr z)
    have c28 : F.2.2.1 5 = 0 := by omega
    refine mx_iconst (pc' := 36) (v := nI (F.2.2.1 5)) dX3_advance_35 (by rw [c28]; decide) rfl ?_
    refine mx_callV (pc' := 39) dX3_advance_36 cl_X3_77 (b0) (t_X0_fall _ (a + 6) (F.2.2.1 5) ⟨b0, b1, b2, b3, b4, b5⟩ h5 F.2.1 hF1.2.1) rfl (by decide) rfl (Nat.le_of_ble_eq_true rfl) rfl (fun v N36 hv => ?_)
    obtain ⟨rfl, hA, hO⟩ := hv
    have hF2 := hF1.bu hA hO
    refine mx_iadd (pc' := 40) dX3_advance_39 (rfl) rfl ?_
    refine mx_iast (pc' := 41) dX3_advance_40 (by assumption) (rfl) (by omega) rfl ?_
    refine mx_iconst (pc' := 42) (v := nI 0) dX3_advance_41 (by decide) rfl ?_
    refine mx_istore_n (pc' := 43) (ls' := [_, _]) dX3_advance_42 (by decide) (rfl) rfl rfl ?_
    have hF3 := hF2.ac 2 (F.2.2.2 2 + nI (F.2.1.length - (F.2.1.filterMap (fallB (F.2.2.1 5))).length))
    exact l_X3_advance M a hs F.1 (F.2.2.1 3 + 1) ht _ (F.1.length + 1) 0 _ (fFalls (fTick F)) (by omega) (by omega) rfl hV rfl hF3 rfl ((((Out.rf.up (by omega) (by omega)).tr (hO.wd (by omega) (by omega))).up (by omega) (by omega)))
  · have c28 := (nI_eq (by omega) (by omega)).mp c28
    refine mx_iconst (pc' := 32) (v := nI (F.2.2.1 5)) dX3_advance_31 (by rw [c28]; decide) rfl ?_
    refine mx_goto (pc' := 36) dX3_advance_32 (by decide) ?_
    refine mx_callV (pc' := 39) dX3_advance_36 cl_X3_77 (b0) (t_X0_fall _ (a + 6) (F.2.2.1 5) ⟨b0, b1, b2, b3, b4, b5⟩ h5 F.2.1 hF1.2.1) rfl (by decide) rfl (Nat.le_of_ble_eq_true rfl) rfl (fun v N36 hv => ?_)
    obtain ⟨rfl, hA, hO⟩ := hv
    have hF2 := hF1.bu hA hO
    refine mx_iadd (pc' := 40) dX3_advance_39 (rfl) rfl ?_
    refine mx_iast (pc' := 41) dX3_advance_40 (by assumption) (rfl) (by omega) rfl ?_
    refine mx_iconst (pc' := 42) (v := nI 0) dX3_advance_41 (by decide) rfl ?_
    refine mx_istore_n (pc' := 43) (ls' := [_, _]) dX3_advance_42 (by decide) (rfl) rfl rfl ?_
    have hF3 := hF2.ac 2 (F.2.2.2 2 + nI (F.2.1.length - (F.2.1.filterMap (fallB (F.2.2.1 5))).length))
    exact l_X3_advance M a hs F.1 (F.2.2.1 3 + 1) ht _ (F.1.length + 1) 0 _ (fFalls (fTick F)) (by omega) (by omega) rfl hV rfl hF3 rfl ((((Out.rf.up (by omega) (by omega)).tr (hO.wd (by omega) (by omega))).up (by omega) (by omega)))

set_option maxHeartbeats 1000000 in
set_option maxRecDepth 10000 in
theorem t_X3_takeHits (M : mx_M) (a : Nat) (hs : FB a) (F : FS) (hF : FiA M a F) (hV : FV F) : mx_T yX3_takeHits cX3_takeHits 2 (some .int) 4 [.ref a] M (fun v M' => v = some (.int (nI (fHits F).1)) ∧ FiA M' a (fHits F).2 ∧ Out M M' a (a + 14)) := by
  obtain ⟨s0, ⟨e0, e1, e2, e3, e4⟩, ⟨b0, b1, b2, b3, b4, b5⟩, s12, s13⟩ := hs.s
  refine mx_T.of1 (own := RX3) (ls := [some (.ref a), none]) (by decide +kernel) rfl (Nat.le_of_ble_eq_true rfl) rfl rfl ?_
  refine mx_aload_n (pc' := 1) dX3_takeHits_0 rfl rfl ?_
  refine mx_getr (pc' := 4) dX3_takeHits_1 fl_X3_21 (by assumption) (by rfl) rfl ?_
  refine mx_aload_n (pc' := 5) dX3_takeHits_4 rfl rfl ?_
  refine mx_getf (pc' := 8) (v := nI (F.2.2.1 0)) dX3_takeHits_5 fl_X3_32 (by assumption) (by rfl) (hF.2.2.1 0 (by decide)) rfl ?_
  refine mx_iconst (pc' := 9) (v := nI 0) dX3_takeHits_8 (by decide) rfl ?_
  refine mx_callV (pc' := 12) dX3_takeHits_9 cl_X3_112 (b0) (t_X0_takeAround M (a + 6) (F.2.2.1 0) 0 ⟨b0, b1, b2, b3, b4, b5⟩ hV.1 (by decide) F.2.1 hF.2.1) rfl (by decide) rfl (Nat.le_of_ble_eq_true rfl) rfl (fun v N9 hv => ?_)
  obtain ⟨rfl, hA, hO⟩ := hv
  have hF2 := hF.bu hA hO
  have hO := hO.wd (a' := a) (b' := a + 14) (by omega) (by omega)
  have hl : F.2.1.length - (fHitB F).length < 2147483648 := by have := hF.2.1.2.1.1; omega
  refine mx_istore_n (pc' := 13) (ls' := [_, _]) dX3_takeHits_12 (by decide) (rfl) rfl rfl ?_
  refine mx_iload_n (pc' := 14) dX3_takeHits_13 rfl rfl ?_
  refine mx_if_ne (tgt := 19) (pc' := 17) dX3_takeHits_14 (by decide) rfl (fun c14 => ?_) (fun c14 => ?_)
  · have c14 : ¬ F.2.1.length - (fHitB F).length = 0 := fun z => c14 (by show nI (F.2.1.length - (fHitB F).length) = 0; rw [z]; rfl)
    refine mx_aload_n (pc' := 20) dX3_takeHits_19 rfl rfl ?_
    refine mx_getr (pc' := 23) dX3_takeHits_20 fl_X3_29 (by assumption) (by rfl) rfl ?_
    refine mx_iconst (pc' := 24) (v := nI 3) dX3_takeHits_23 (by decide) rfl ?_
    refine mx_dup2 (pc' := 25) dX3_takeHits_24 rfl rfl rfl ?_
    refine mx_iald (pc' := 26) (v := F.2.2.2 3) dX3_takeHits_25 (by assumption) (rfl) (by omega) (hF2.2.2.2.2 3 (by decide)) rfl ?_
    refine mx_iload_n (pc' := 27) dX3_takeHits_26 rfl rfl ?_
    refine mx_iadd (pc' := 28) dX3_takeHits_27 (rfl) rfl ?_
    refine mx_iast (pc' := 29) dX3_takeHits_28 (by assumption) (rfl) (by omega) rfl ?_
    have hF3 := hF2.ac 3 (F.2.2.2 3 + nI (F.2.1.length - (fHitB F).length))
    have hO3 := hO.up (p := a + 13) (i := 3) (v := F.2.2.2 3 + nI (F.2.1.length - (fHitB F).length)) (by omega) (by omega)
    refine mx_aload_n (pc' := 30) dX3_takeHits_29 rfl rfl ?_
    refine mx_getr (pc' := 33) dX3_takeHits_30 fl_X3_29 (by assumption) (by rfl) rfl ?_
    refine mx_bipush (pc' := 35) (v := nI 7) dX3_takeHits_33 (by decide) rfl ?_
    refine mx_dup2 (pc' := 36) dX3_takeHits_35 rfl rfl rfl ?_
    refine mx_iald (pc' := 37) (v := F.2.2.2 7) dX3_takeHits_36 (by assumption) (rfl) (by omega) (hF3.2.2.2.2 7 (by decide)) rfl ?_
    refine mx_iconst (pc' := 38) (v := nI 1) dX3_takeHits_37 (by decide) rfl ?_
    refine mx_iadd (pc' := 39) dX3_takeHits_38 (rfl) rfl ?_
    refine mx_iast (pc' := 40) dX3_takeHits_39 (by assumption) (rfl) (by omega) rfl ?_
    have hF4 := hF3.ac 7 (F.2.2.2 7 + nI 1)
    have hO4 := hO3.up (p := a + 13) (i := 7) (v := F.2.2.2 7 + nI 1) (by omega) (by omega)
    refine mx_aload_n (pc' := 41) dX3_takeHits_40 rfl rfl ?_
    refine mx_getf (pc' := 44) (v := nI (F.2.2.1 1)) dX3_takeHits_41 fl_X3_36 (by assumption) (by rfl) (hF4.2.2.1 1 (by decide)) rfl ?_
    refine mx_if_ne (tgt := 54) (pc' := 47) dX3_takeHits_44 (by decide) rfl (fun c44 => ?_) (fun c44 => ?_)
    · have c44 : ¬ F.2.2.1 1 = 0 := fun z => c44 (by rw [z]; rfl)
      have h1 := hV.2.1
      refine mx_aload_n (pc' := 55) dX3_takeHits_54 rfl rfl ?_
      refine mx_dup (pc' := 56) dX3_takeHits_55 rfl rfl ?_
      refine mx_getf (pc' := 59) (v := nI (F.2.2.1 1)) dX3_takeHits_56 fl_X3_36 (by assumption) (by rfl) (hF4.2.2.1 1 (by decide)) rfl ?_
      refine mx_iconst (pc' := 60) (v := nI 1) dX3_takeHits_59 (by decide) rfl ?_
      refine mx_isub (pc' := 61) (v := nI (F.2.2.1 1 - 1)) dX3_takeHits_60 (pk_sub (b := 1) (by omega)) rfl ?_
      refine mx_putf (pc' := 64) dX3_takeHits_61 fl_X3_36 (by assumption) (by rfl) (⟨rfl, rfl⟩) rfl ?_
      refine mx_iconst (pc' := 65) (v := nI 1) dX3_takeHits_64 (by decide) rfl ?_
      refine mx_iret dX3_takeHits_65 (Or.inl rfl) ?_
      have e : fHits F = (1, (F.1, fHitB F, va_up F.2.2.1 1 (F.2.2.1 1 - 1), upd (upd F.2.2.2 3 (F.2.2.2 3 + nI (F.2.1.length - (fHitB F).length))) 7 (F.2.2.2 7 + nI 1))) := (if_neg c14).trans (if_neg c44)
      rw [e]
      exact ⟨rfl, hF4.sc 1 (by decide) _, hO4.up (by omega) (by omega)⟩
    · have h1 := hV.2.1
      have c44 : F.2.2.1 1 = 0 := (nI_eq (a := F.2.2.1 1) (b := 0) (by omega) (by omega)).mp c44
      refine mx_aload_n (pc' := 48) dX3_takeHits_47 rfl rfl ?_
      refine mx_iconst (pc' := 49) (v := nI 1) dX3_takeHits_48 (by decide) rfl ?_
      refine mx_putf (pc' := 52) dX3_takeHits_49 fl_X3_45 (by assumption) (by rfl) (⟨by decide, by decide⟩) rfl ?_
      refine mx_iconst (pc' := 53) (v := nI 2) dX3_takeHits_52 (by decide) rfl ?_
      refine mx_iret dX3_takeHits_53 (Or.inl rfl) ?_
      have e : fHits F = (2, (F.1, fHitB F, va_up F.2.2.1 4 1, upd (upd F.2.2.2 3 (F.2.2.2 3 + nI (F.2.1.length - (fHitB F).length))) 7 (F.2.2.2 7 + nI 1))) := (if_neg c14).trans (if_pos c44)
      rw [e]
      exact ⟨rfl, hF4.sc 4 (by decide) 1, hO4.up (by omega) (by omega)⟩
  · have c14 : F.2.1.length - (fHitB F).length = 0 := (nI_eq (a := F.2.1.length - (fHitB F).length) (b := 0) hl (by omega)).mp c14
    refine mx_iconst (pc' := 18) (v := nI 0) dX3_takeHits_17 (by decide) rfl ?_
    refine mx_iret dX3_takeHits_18 (Or.inl rfl) ?_
    have e : fHits F = (0, (F.1, fHitB F, F.2.2.1, F.2.2.2)) := if_pos c14
    rw [e]
    exact ⟨rfl, hF2, hO⟩

set_option maxHeartbeats 1000000 in
set_option maxRecDepth 10000 in
theorem t_X3_passTick (M : mx_M) (a : Nat) (hs : FB a) (F : FS) (hF : FiA M a F) (hV : FV F) (ht : F.2.2.1 3 + 1 < 2147483648) (k : Nat) (hk : k < 3) : mx_T yX3_passTick cX3_passTick 3 (some .int) 5 [.ref a, .int (dr k)] M (fun v M' => v = some (.int (nI (fPass k F).1)) ∧ FiA M' a (fPass k F).2 ∧ Out M M' a (a + 14)) := by
  obtain ⟨s0, ⟨e0, e1, e2, e3, e4⟩, ⟨b0, b1, b2, b3, b4, b5⟩, s12, s13⟩ := hs.s
  have h0 := hV.1
  have J22 : ∀ (N : mx_M) (G : FS), fMove k F = G → FiA N a G → Out M N a (a + 14) → mx_V cX3_passTick RX3 3 (some .int) 5 22 [some (.ref a), some (.int (dr k)), none] [] N (fun v M' => v = some (.int (nI (fPass k F).1)) ∧ FiA M' a (fPass k F).2 ∧ Out M M' a (a + 14)) := by
    intro N G hG hF hO
    have hVG : FV G := hG ▸ hV.move k
    have hT : G.2.2.1 3 + 1 < 2147483648 := by rw [← hG, (fMove_0 k F).2]; exact ht
    refine mx_aload_n (pc' := 23) dX3_passTick_22 rfl rfl ?_
    refine mx_callV (pc' := 26) dX3_passTick_23 cl_X3_66 (s0) (t_X3_advance N a hs G hF hVG hT) rfl (by decide) rfl (Nat.le_of_ble_eq_true rfl) rfl (fun v N23 hv => ?_)
    obtain ⟨rfl, hF2, hO2⟩ := hv
    refine mx_aload_n (pc' := 27) dX3_passTick_26 rfl rfl ?_
    refine mx_callV (pc' := 30) dX3_passTick_27 cl_X3_69 (s0) (t_X3_takeHits N23 a hs _ hF2 hVG.adv) rfl (by decide) rfl (Nat.le_of_ble_eq_true rfl) rfl (fun v N27 hv => ?_)
    obtain ⟨rfl, hF3, hO3⟩ := hv
    have hV3 := hVG.adv.hits
    have hO9 := (hO.tr hO2).tr hO3
    generalize hR : fHits (fAdv G) = R at hF3 hV3 ⊢
    have h4 := hV3.2.2.2.1
    refine mx_istore_n (pc' := 31) (ls' := [_, _, _]) dX3_passTick_30 (by decide) (rfl) rfl rfl ?_
    refine mx_aload_n (pc' := 32) dX3_passTick_31 rfl rfl ?_
    refine mx_getf (pc' := 35) (v := nI (R.2.2.2.1 4)) dX3_passTick_32 fl_X3_45 (by assumption) (by rfl) (hF3.2.2.1 4 (by decide)) rfl ?_
    refine mx_if_ne (tgt := 59) (pc' := 38) dX3_passTick_35 (by decide) rfl (fun c35 => ?_) (fun c35 => ?_)
    · have c35 : ¬ R.2.2.2.1 4 = 0 := fun z => c35 (by rw [z]; rfl)
      refine mx_iload_n (pc' := 60) dX3_passTick_59 rfl rfl ?_
      refine mx_iret dX3_passTick_60 (Or.inl rfl) ?_
      have e : fPass k F = (R.1, R.2) := by
        unfold fPass
        rw [hG, hR, if_neg c35]
      rw [e]
      exact ⟨rfl, hF3, hO9⟩
    · have c35 : R.2.2.2.1 4 = 0 := (nI_eq (a := R.2.2.2.1 4) (b := 0) (by omega) (by omega)).mp c35
      refine mx_aload_n (pc' := 39) dX3_passTick_38 rfl rfl ?_
      refine mx_getr (pc' := 42) dX3_passTick_39 fl_X3_29 (by assumption) (by rfl) rfl ?_
      refine mx_bipush (pc' := 44) (v := nI 6) dX3_passTick_42 (by decide) rfl ?_
      refine mx_dup2 (pc' := 45) dX3_passTick_44 rfl rfl rfl ?_
      refine mx_iald (pc' := 46) (v := R.2.2.2.2 6) dX3_passTick_45 (by assumption) (rfl) (by omega) (hF3.2.2.2.2 6 (by decide)) rfl ?_
      refine mx_aload_n (pc' := 47) dX3_passTick_46 rfl rfl ?_
      refine mx_getr (pc' := 50) dX3_passTick_47 fl_X3_21 (by assumption) (by rfl) rfl ?_
      refine mx_aload_n (pc' := 51) dX3_passTick_50 rfl rfl ?_
      refine mx_getf (pc' := 54) (v := nI (R.2.2.2.1 0)) dX3_passTick_51 fl_X3_32 (by assumption) (by rfl) (hF3.2.2.1 0 (by decide)) rfl ?_
      refine mx_callV (pc' := 57) dX3_passTick_54 cl_X3_73 (b0) (t_X0_grazeBeside N27 (a + 6) (R.2.2.2.1 0) ⟨b0, b1, b2, b3, b4, b5⟩ hV3.1 R.2.2.1 hF3.2.1) rfl (by decide) rfl (Nat.le_of_ble_eq_true rfl) rfl (fun v N54 hv => ?_)
      obtain ⟨rfl, hA, hO4⟩ := hv
      have hF4 := hF3.bu hA (hO4.wd (by omega) (by omega))
      refine mx_iadd (pc' := 58) dX3_passTick_57 (rfl) rfl ?_
      refine mx_iast (pc' := 59) dX3_passTick_58 (by assumption) (rfl) (by omega) rfl ?_
      refine mx_iload_n (pc' := 60) dX3_passTick_59 rfl rfl ?_
      refine mx_iret dX3_passTick_60 (Or.inl rfl) ?_
      have e : fPass k F = (R.1, fGraze R.2) := by
        unfold fPass
        rw [hG, hR, if_pos c35]
      rw [e]
      exact ⟨rfl, hF4.ac 6 _, (hO9.tr (hO4.wd (by omega) (by omega))).up (by omega) (by omega)⟩
  refine mx_T.of1 (own := RX3) (ls := [some (.ref a), some (.int (dr k)), none]) (by decide +kernel) rfl (Nat.le_of_ble_eq_true rfl) rfl rfl ?_
  refine mx_aload_n (pc' := 1) dX3_passTick_0 rfl rfl ?_
  refine mx_getf (pc' := 4) (v := nI (F.2.2.1 0)) dX3_passTick_1 fl_X3_32 (by assumption) (by rfl) (hF.2.2.1 0 (by decide)) rfl ?_
  refine mx_iload_n (pc' := 5) dX3_passTick_4 rfl rfl ?_
  refine mx_iadd (pc' := 6) dX3_passTick_5 (rfl) rfl ?_
  refine mx_callN (pc' := 9) dX3_passTick_6 cl_X3_62 (t_X7_isColumn _ _) rfl (by decide) rfl (Nat.le_of_ble_eq_true rfl) rfl (fun v N6 hv => ?_)
  obtain ⟨rfl, hv⟩ := hv
  rw [hv]
  refine mx_if_eq (tgt := 22) (pc' := 12) dX3_passTick_9 (by decide) rfl (fun c9 => ?_) (fun c9 => ?_)
  · have c9 : ¬ (1 ≤ F.2.2.1 0 + k ∧ F.2.2.1 0 + k ≤ 10) := fun z => bI_0.mp c9 ((dr_in _ (by omega) k hk).mpr z)
    exact J22 M F (if_neg c9) hF Out.rf
  · have c9 := (dr_in (F.2.2.1 0) (by omega) k hk).mp (bI_n.mp c9)
    refine mx_aload_n (pc' := 13) dX3_passTick_12 rfl rfl ?_
    refine mx_dup (pc' := 14) dX3_passTick_13 rfl rfl ?_
    refine mx_getf (pc' := 17) (v := nI (F.2.2.1 0)) dX3_passTick_14 fl_X3_32 (by assumption) (by rfl) (hF.2.2.1 0 (by decide)) rfl ?_
    refine mx_iload_n (pc' := 18) dX3_passTick_17 rfl rfl ?_
    refine mx_iadd (pc' := 19) (v := nI (F.2.2.1 0 + k - 1)) dX3_passTick_18 (dr_add _ (by omega) k hk (by omega)) rfl ?_
    refine mx_putf (pc' := 22) dX3_passTick_19 fl_X3_32 (by assumption) (by rfl) (⟨rfl, rfl⟩) rfl ?_
    exact J22 _ _ (if_pos c9) (hF.sc 0 (by decide) _) (Out.rf.up (by omega) (by omega))

set_option maxHeartbeats 1000000 in
set_option maxRecDepth 10000 in
theorem t_X3_canBomb (M : mx_M) (a : Nat) (hs : FB a) (F : FS) (hF : FiA M a F) (hV : FV F) : mx_T yX3_canBomb cX3_canBomb 1 (some .boolean) 1 [.ref a] M (fun v M' => v = some (.int (bI (F.2.2.1 4 = 0 ∧ 0 < F.2.2.1 2))) ∧ M' = M) := by
  obtain ⟨s0, ⟨e0, e1, e2, e3, e4⟩, ⟨b0, b1, b2, b3, b4, b5⟩, s12, s13⟩ := hs.s
  have h4 := hV.2.2.2.1
  have h2 := hV.2.2.1
  refine mx_T.of1 (own := RX3) (ls := [some (.ref a)]) (by decide +kernel) rfl (Nat.le_of_ble_eq_true rfl) rfl rfl ?_
  refine mx_aload_n (pc' := 1) dX3_canBomb_0 rfl rfl ?_
  refine mx_getf (pc' := 4) (v := nI (F.2.2.1 4)) dX3_canBomb_1 fl_X3_45 (by assumption) (by rfl) (hF.2.2.1 4 (by decide)) rfl ?_
  refine mx_if_ne (tgt := 18) (pc' := 7) dX3_canBomb_4 (by decide) rfl (fun c4 => ?_) (fun c4 => ?_)
  · have c4 : ¬ F.2.2.1 4 = 0 := fun z => c4 (by rw [z]; rfl)
    refine mx_iconst (pc' := 19) (v := nI 0) dX3_canBomb_18 (by decide) rfl ?_
    refine mx_iret dX3_canBomb_19 (Or.inr ⟨rfl, by decide⟩) ?_
    first | exact ⟨bI_rt ⟨c4, c11⟩, rfl⟩ | exact ⟨bI_rf (fun z => c11 z.2), rfl⟩ | exact ⟨bI_rf (fun z => c4 z.1), rfl⟩
  · have c4 : F.2.2.1 4 = 0 := (nI_eq (a := F.2.2.1 4) (b := 0) (by omega) (by omega)).mp c4
    refine mx_aload_n (pc' := 8) dX3_canBomb_7 rfl rfl ?_
    refine mx_getf (pc' := 11) (v := nI (F.2.2.1 2)) dX3_canBomb_8 fl_X3_39 (by assumption) (by rfl) (hF.2.2.1 2 (by decide)) rfl ?_
    refine mx_if_le (tgt := 18) (pc' := 14) dX3_canBomb_11 (by decide) rfl (fun c11 => ?_) (fun c11 => ?_)
    · have c11 : ¬ 0 < F.2.2.1 2 := fun z => nI_nle z (by omega) c11
      refine mx_iconst (pc' := 19) (v := nI 0) dX3_canBomb_18 (by decide) rfl ?_
      refine mx_iret dX3_canBomb_19 (Or.inr ⟨rfl, by decide⟩) ?_
      first | exact ⟨bI_rt ⟨c4, c11⟩, rfl⟩ | exact ⟨bI_rf (fun z => c11 z.2), rfl⟩ | exact ⟨bI_rf (fun z => c4 z.1), rfl⟩
    · have c11 : 0 < F.2.2.1 2 := Nat.pos_of_ne_zero (fun z => c11 (by rw [z]; decide))
      refine mx_iconst (pc' := 15) (v := nI 1) dX3_canBomb_14 (by decide) rfl ?_
      refine mx_goto (pc' := 19) dX3_canBomb_15 (by decide) ?_
      refine mx_iret dX3_canBomb_19 (Or.inr ⟨rfl, by decide⟩) ?_
      first | exact ⟨bI_rt ⟨c4, c11⟩, rfl⟩ | exact ⟨bI_rf (fun z => c11 z.2), rfl⟩ | exact ⟨bI_rf (fun z => c4 z.1), rfl⟩

set_option maxHeartbeats 1000000 in
set_option maxRecDepth 10000 in
theorem t_X3_throwBomb (M : mx_M) (a : Nat) (hs : FB a) (F : FS) (hF : FiA M a F) (hV : FV F) (hb : 0 < F.2.2.1 2) : mx_T yX3_throwBomb cX3_throwBomb 2 (some .int) 4 [.ref a] M (fun v M' => v = some (.int (nI (fBomb F).1)) ∧ FiA M' a (fBomb F).2 ∧ Out M M' a (a + 14)) := by
  obtain ⟨s0, ⟨e0, e1, e2, e3, e4⟩, ⟨b0, b1, b2, b3, b4, b5⟩, s12, s13⟩ := hs.s
  refine mx_T.of1 (own := RX3) (ls := [some (.ref a), none]) (by decide +kernel) rfl (Nat.le_of_ble_eq_true rfl) rfl rfl ?_
  refine mx_aload_n (pc' := 1) dX3_throwBomb_0 rfl rfl ?_
  refine mx_dup (pc' := 2) dX3_throwBomb_1 rfl rfl ?_
  refine mx_getf (pc' := 5) (v := nI (F.2.2.1 2)) dX3_throwBomb_2 fl_X3_39 (by assumption) (by rfl) (hF.2.2.1 2 (by decide)) rfl ?_
  refine mx_iconst (pc' := 6) (v := nI 1) dX3_throwBomb_5 (by decide) rfl ?_
  refine mx_isub (pc' := 7) (v := nI (F.2.2.1 2 - 1)) dX3_throwBomb_6 (pk_sub (b := 1) (by omega)) rfl ?_
  refine mx_putf (pc' := 10) dX3_throwBomb_7 fl_X3_39 (by assumption) (by rfl) (⟨rfl, rfl⟩) rfl ?_
  have hF1 := hF.sc 2 (by decide) (F.2.2.1 2 - 1)
  refine mx_aload_n (pc' := 11) dX3_throwBomb_10 rfl rfl ?_
  refine mx_getr (pc' := 14) dX3_throwBomb_11 fl_X3_21 (by assumption) (by rfl) rfl ?_
  refine mx_aload_n (pc' := 15) dX3_throwBomb_14 rfl rfl ?_
  refine mx_getf (pc' := 18) (v := nI (F.2.2.1 0)) dX3_throwBomb_15 fl_X3_32 (by assumption) (by rfl) (hF1.2.2.1 0 (by decide)) rfl ?_
  refine mx_aload_n (pc' := 19) dX3_throwBomb_18 rfl rfl ?_
  refine mx_getr (pc' := 22) dX3_throwBomb_19 fl_X3_25 (by assumption) (by rfl) rfl ?_
  refine mx_iconst (pc' := 23) (v := nI 1) dX3_throwBomb_22 (by decide) rfl ?_
  refine mx_iald (pc' := 24) (v := nI (F.2.2.1 6)) dX3_throwBomb_23 (by assumption) (rfl) (by omega) (hF1.2.2.2.1 1 (by decide)) rfl ?_
  refine mx_callV (pc' := 27) dX3_throwBomb_24 cl_X3_112 (b0) (t_X0_takeAround _ (a + 6) (F.2.2.1 0) (F.2.2.1 6) ⟨b0, b1, b2, b3, b4, b5⟩ hV.1 hV.2.2.2.2.2.2 F.2.1 hF1.2.1) rfl (by decide) rfl (Nat.le_of_ble_eq_true rfl) rfl (fun v N24 hv => ?_)
  obtain ⟨rfl, hA, hO⟩ := hv
  have hF2 := hF1.bu hA hO
  refine mx_istore_n (pc' := 28) (ls' := [_, _]) dX3_throwBomb_27 (by decide) (rfl) rfl rfl ?_
  refine mx_aload_n (pc' := 29) dX3_throwBomb_28 rfl rfl ?_
  refine mx_getr (pc' := 32) dX3_throwBomb_29 fl_X3_29 (by assumption) (by rfl) rfl ?_
  refine mx_iconst (pc' := 33) (v := nI 4) dX3_throwBomb_32 (by decide) rfl ?_
  refine mx_dup2 (pc' := 34) dX3_throwBomb_33 rfl rfl rfl ?_
  refine mx_iald (pc' := 35) (v := F.2.2.2 4) dX3_throwBomb_34 (by assumption) (rfl) (by omega) (hF2.2.2.2.2 4 (by decide)) rfl ?_
  refine mx_iload_n (pc' := 36) dX3_throwBomb_35 rfl rfl ?_
  refine mx_iadd (pc' := 37) dX3_throwBomb_36 (rfl) rfl ?_
  refine mx_iast (pc' := 38) dX3_throwBomb_37 (by assumption) (rfl) (by omega) rfl ?_
  refine mx_iload_n (pc' := 39) dX3_throwBomb_38 rfl rfl ?_
  refine mx_iret dX3_throwBomb_39 (Or.inl rfl) ?_
  exact ⟨rfl, hF2.ac 4 _, (((Out.rf.up (by omega) (by omega)).tr (hO.wd (by omega) (by omega))).up (by omega) (by omega))⟩

set_option maxHeartbeats 1000000 in
set_option maxRecDepth 10000 in
theorem t_X3_sweep (M : mx_M) (a : Nat) (hs : FB a) (F : FS) (hF : FiA M a F) : mx_T yX3_sweep cX3_sweep 2 (some .int) 2 [.ref a] M (fun v M' => v = some (.int (nI (fSweep F).1)) ∧ FiA M' a (fSweep F).2 ∧ Out M M' a (a + 14)) := by
  obtain ⟨s0, ⟨e0, e1, e2, e3, e4⟩, ⟨b0, b1, b2, b3, b4, b5⟩, s12, s13⟩ := hs.s
  refine mx_T.of1 (own := RX3) (ls := [some (.ref a), none]) (by decide +kernel) rfl (Nat.le_of_ble_eq_true rfl) rfl rfl ?_
  refine mx_aload_n (pc' := 1) dX3_sweep_0 rfl rfl ?_
  refine mx_getr (pc' := 4) dX3_sweep_1 fl_X3_21 (by assumption) (by rfl) rfl ?_
  refine mx_iconst (pc' := 5) (v := nI 0) dX3_sweep_4 (by decide) rfl ?_
  refine mx_callV (pc' := 8) dX3_sweep_5 cl_X3_115 (b0) (t_X0_keepOnly M (a + 6) F.2.1.length ⟨b0, b1, b2, b3, b4, b5⟩ hF.2.1.1 0 (by omega)) rfl (by decide) rfl (Nat.le_of_ble_eq_true rfl) rfl (fun v N5 hv => ?_)
  obtain ⟨rfl, hv⟩ := hv
  rw [hv]
  have hA : BuA (mx_up M (a + 6) 5 (nI 0)) (a + 6) [] := ⟨mx_up_eq _ _ _ _, ⟨by decide, fun x hx => by simp at hx⟩, BuP.nil⟩
  have hF2 := hF.bu hA (Out.rf.up (by omega) (by omega))
  refine mx_istore_n (pc' := 9) (ls' := [_, _]) dX3_sweep_8 (by decide) (rfl) rfl rfl ?_
  refine mx_aload_n (pc' := 10) dX3_sweep_9 rfl rfl ?_
  refine mx_getr (pc' := 13) dX3_sweep_10 fl_X3_29 (by assumption) (by rfl) rfl ?_
  refine mx_iconst (pc' := 14) (v := nI 5) dX3_sweep_13 (by decide) rfl ?_
  refine mx_dup2 (pc' := 15) dX3_sweep_14 rfl rfl rfl ?_
  refine mx_iald (pc' := 16) (v := F.2.2.2 5) dX3_sweep_15 (by assumption) (rfl) (by omega) (hF2.2.2.2.2 5 (by decide)) rfl ?_
  refine mx_iload_n (pc' := 17) dX3_sweep_16 rfl rfl ?_
  refine mx_iadd (pc' := 18) dX3_sweep_17 (rfl) rfl ?_
  refine mx_iast (pc' := 19) dX3_sweep_18 (by assumption) (rfl) (by omega) rfl ?_
  refine mx_aload_n (pc' := 20) dX3_sweep_19 rfl rfl ?_
  refine mx_iconst (pc' := 21) (v := nI 3) dX3_sweep_20 (by decide) rfl ?_
  refine mx_putf (pc' := 24) dX3_sweep_21 fl_X3_36 (by assumption) (by rfl) (⟨rfl, rfl⟩) rfl ?_
  refine mx_aload_n (pc' := 25) dX3_sweep_24 rfl rfl ?_
  refine mx_iconst (pc' := 26) (v := nI 2) dX3_sweep_25 (by decide) rfl ?_
  refine mx_putf (pc' := 29) dX3_sweep_26 fl_X3_39 (by assumption) (by rfl) (⟨rfl, rfl⟩) rfl ?_
  refine mx_aload_n (pc' := 30) dX3_sweep_29 rfl rfl ?_
  refine mx_iconst (pc' := 31) (v := nI 0) dX3_sweep_30 (by decide) rfl ?_
  refine mx_putf (pc' := 34) dX3_sweep_31 fl_X3_45 (by assumption) (by rfl) (⟨by decide, by decide⟩) rfl ?_
  refine mx_iload_n (pc' := 35) dX3_sweep_34 rfl rfl ?_
  refine mx_iret dX3_sweep_35 (Or.inl rfl) ?_
  exact ⟨rfl, ((((hF2.ac 5 _).sc 1 (by decide) 3).sc 2 (by decide) 2).sc 4 (by decide) 0), by repeat (first | exact Out.rf | refine Out.up ?_ (by omega) (by omega))⟩

set_option maxHeartbeats 1000000 in
set_option maxRecDepth 10000 in
theorem t_X3_copyFrom (M : mx_M) (a b : Nat) (hs : FB a) (hs2 : FB b) (hab : a ≠ b) (F : FS) (hF : FiA M b F) (hV : FV F) : mx_T yX3_copyFrom cX3_copyFrom 2 none 3 [.ref a, .ref b] M (fun v M' => v = none ∧ FiA M' a F ∧ Out M M' a (a + 14)) := by
  have hap := hs.apart hs2 hab
  obtain ⟨s0, ⟨e0, e1, e2, e3, e4⟩, ⟨b0, b1, b2, b3, b4, b5⟩, s12, s13⟩ := hs.s
  obtain ⟨t0, ⟨f0, f1, f2, f3, f4⟩, ⟨c0, c1, c2, c3, c4, c5⟩, t12, t13⟩ := hs2.s
  refine mx_T.of1 (own := RX3) (ls := [some (.ref a), some (.ref b)]) (by decide +kernel) rfl (Nat.le_of_ble_eq_true rfl) rfl rfl ?_
  refine mx_aload_n (pc' := 1) dX3_copyFrom_0 rfl rfl ?_
  refine mx_getr (pc' := 4) dX3_copyFrom_1 fl_X3_12 (by assumption) (by rfl) rfl ?_
  refine mx_aload_n (pc' := 5) dX3_copyFrom_4 rfl rfl ?_
  refine mx_getr (pc' := 8) dX3_copyFrom_5 fl_X3_12 (by assumption) (by rfl) rfl ?_
  refine mx_callV (pc' := 11) dX3_copyFrom_8 cl_X3_49 (e0) (t_X2_copyFrom M (a + 1) (b + 1) ⟨e0, e1, e2, e3, e4⟩ ⟨f0, f1, f2, f3, f4⟩ (by omega) F.1 hF.1) rfl (by decide) rfl (Nat.le_of_ble_eq_true rfl) rfl (fun v N8 hv => ?_)
  obtain ⟨rfl, hA, hO⟩ := hv
  refine mx_aload_n (pc' := 12) dX3_copyFrom_11 rfl rfl ?_
  refine mx_getr (pc' := 15) dX3_copyFrom_12 fl_X3_21 (by assumption) (by rfl) rfl ?_
  refine mx_aload_n (pc' := 16) dX3_copyFrom_15 rfl rfl ?_
  refine mx_getr (pc' := 19) dX3_copyFrom_16 fl_X3_21 (by assumption) (by rfl) rfl ?_
  refine mx_callV (pc' := 22) dX3_copyFrom_19 cl_X3_53 (b0) (t_X0_copyFrom N8 (a + 6) (b + 6) ⟨b0, b1, b2, b3, b4, b5⟩ ⟨c0, c1, c2, c3, c4, c5⟩ (by omega) F.2.1 (hF.2.1.fr fun q h1 h2 => hO q (by omega))) rfl (by decide) rfl (Nat.le_of_ble_eq_true rfl) rfl (fun v N19 hv => ?_)
  obtain ⟨rfl, hA2, hO2⟩ := hv
  have hO := (hO.wd (a' := a) (b' := a + 14) (by omega) (by omega)).tr (hO2.wd (a' := a) (b' := a + 14) (by omega) (by omega))
  have hA := hA.fr (M' := N19) fun q h1 h2 => hO2 q (by omega)
  have hB := hF.fr (M' := N19) fun q h1 h2 => hO q (by omega)
  refine mx_aload_n (pc' := 23) dX3_copyFrom_22 rfl rfl ?_
  refine mx_getr (pc' := 26) dX3_copyFrom_23 fl_X3_25 (by assumption) (by rfl) rfl ?_
  refine mx_iconst (pc' := 27) (v := nI 0) dX3_copyFrom_26 (by decide) rfl ?_
  refine mx_aload_n (pc' := 28) dX3_copyFrom_27 rfl rfl ?_
  refine mx_getr (pc' := 31) dX3_copyFrom_28 fl_X3_25 (by assumption) (by rfl) rfl ?_
  refine mx_iconst (pc' := 32) (v := nI 0) dX3_copyFrom_31 (by decide) rfl ?_
  refine mx_iconst (pc' := 33) (v := nI 2) dX3_copyFrom_32 (by decide) rfl ?_
  refine mx_acopy (pc' := 36) dX3_copyFrom_33 (mx_in 281 (by decide +kernel) (by decide +kernel)) t12 s12 rfl rfl rfl (by decide) (by decide) (by decide) (by decide) rfl ?_
  refine mx_aload_n (pc' := 37) dX3_copyFrom_36 rfl rfl ?_
  refine mx_getr (pc' := 40) dX3_copyFrom_37 fl_X3_29 (by assumption) (by rfl) rfl ?_
  refine mx_iconst (pc' := 41) (v := nI 0) dX3_copyFrom_40 (by decide) rfl ?_
  refine mx_aload_n (pc' := 42) dX3_copyFrom_41 rfl rfl ?_
  refine mx_getr (pc' := 45) dX3_copyFrom_42 fl_X3_29 (by assumption) (by rfl) rfl ?_
  refine mx_iconst (pc' := 46) (v := nI 0) dX3_copyFrom_45 (by decide) rfl ?_
  refine mx_bipush (pc' := 48) (v := nI 8) dX3_copyFrom_46 (by decide) rfl ?_
  refine mx_acopy (pc' := 51) dX3_copyFrom_48 (mx_in 281 (by decide +kernel) (by decide +kernel)) t13 s13 rfl rfl rfl (by decide) (by decide) (by decide) (by decide) rfl ?_
  refine mx_aload_n (pc' := 52) dX3_copyFrom_51 rfl rfl ?_
  refine mx_aload_n (pc' := 53) dX3_copyFrom_52 rfl rfl ?_
  refine mx_getf (pc' := 56) (v := nI (F.2.2.1 0)) dX3_copyFrom_53 fl_X3_32 (by assumption) (by rfl) (((by simp only [mx_up, mx_cp]; repeat rw [if_neg (by omega)]) : _ = N19 b 4).trans (hB.2.2.1 0 (by decide))) rfl ?_
  refine mx_putf (pc' := 59) dX3_copyFrom_56 fl_X3_32 (by assumption) (by rfl) (⟨rfl, rfl⟩) rfl ?_
  refine mx_aload_n (pc' := 60) dX3_copyFrom_59 rfl rfl ?_
  refine mx_aload_n (pc' := 61) dX3_copyFrom_60 rfl rfl ?_
  refine mx_getf (pc' := 64) (v := nI (F.2.2.1 1)) dX3_copyFrom_61 fl_X3_36 (by assumption) (by rfl) (((by simp only [mx_up, mx_cp]; repeat rw [if_neg (by omega)]) : _ = N19 b 5).trans (hB.2.2.1 1 (by decide))) rfl ?_
  refine mx_putf (pc' := 67) dX3_copyFrom_64 fl_X3_36 (by assumption) (by rfl) (⟨rfl, rfl⟩) rfl ?_
  refine mx_aload_n (pc' := 68) dX3_copyFrom_67 rfl rfl ?_
  refine mx_aload_n (pc' := 69) dX3_copyFrom_68 rfl rfl ?_
  refine mx_getf (pc' := 72) (v := nI (F.2.2.1 2)) dX3_copyFrom_69 fl_X3_39 (by assumption) (by rfl) (((by simp only [mx_up, mx_cp]; repeat rw [if_neg (by omega)]) : _ = N19 b 6).trans (hB.2.2.1 2 (by decide))) rfl ?_
  refine mx_putf (pc' := 75) dX3_copyFrom_72 fl_X3_39 (by assumption) (by rfl) (⟨rfl, rfl⟩) rfl ?_
  refine mx_aload_n (pc' := 76) dX3_copyFrom_75 rfl rfl ?_
  refine mx_aload_n (pc' := 77) dX3_copyFrom_76 rfl rfl ?_
  refine mx_getf (pc' := 80) (v := nI (F.2.2.1 3)) dX3_copyFrom_77 fl_X3_42 (by assumption) (by rfl) (((by simp only [mx_up, mx_cp]; repeat rw [if_neg (by omega)]) : _ = N19 b 7).trans (hB.2.2.1 3 (by decide))) rfl ?_
  refine mx_putf (pc' := 83) dX3_copyFrom_80 fl_X3_42 (by assumption) (by rfl) (⟨rfl, rfl⟩) rfl ?_
  refine mx_aload_n (pc' := 84) dX3_copyFrom_83 rfl rfl ?_
  refine mx_aload_n (pc' := 85) dX3_copyFrom_84 rfl rfl ?_
  refine mx_getf (pc' := 88) (v := nI (F.2.2.1 4)) dX3_copyFrom_85 fl_X3_45 (by assumption) (by rfl) (((by simp only [mx_up, mx_cp]; repeat rw [if_neg (by omega)]) : _ = N19 b 8).trans (hB.2.2.1 4 (by decide))) rfl ?_
  refine mx_putf (pc' := 91) dX3_copyFrom_88 fl_X3_45 (by assumption) (by rfl) (nI_fb hV.2.2.2.1) rfl ?_
  have hO9 : Out M (mx_cp (mx_cp N19 (b + 12) (a + 12) 2) (b + 13) (a + 13) 8) a (a + 14) := fun q hq => by rw [mx_cp_ne (by omega), mx_cp_ne (by omega)]; exact hO q hq
  refine mx_vret dX3_copyFrom_91 rfl ?_
  refine ⟨rfl, ⟨hA.fr fun q h1 h2 => ?_, hA2.fr fun q h1 h2 => ?_, fun j hj => ?_, fun j hj => ?_, fun j hj => ?_⟩, by repeat (first | exact hO9 | refine Out.up ?_ (by omega) (by omega))⟩
  · repeat rw [mx_up_ne (by omega)]
    rw [mx_cp_ne (by omega), mx_cp_ne (by omega)]
  · repeat rw [mx_up_ne (by omega)]
    rw [mx_cp_ne (by omega), mx_cp_ne (by omega)]
  · rcases (show j = 0 ∨ j = 1 ∨ j = 2 ∨ j = 3 ∨ j = 4 by omega) with rfl | rfl | rfl | rfl | rfl <;> simp [mx_up]
  · repeat rw [mx_up_ne (by omega)]
    rw [mx_cp_ne (by omega)]
    have := hB.2.2.2.1 j hj
    simp [mx_cp, hj, this]
  · repeat rw [mx_up_ne (by omega)]
    have := hB.2.2.2.2 j hj
    simp only [mx_cp, if_pos, hj]
    rw [if_neg (by omega)]
    exact this

