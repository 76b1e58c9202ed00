theorem fPass_t (k : Nat) (F : FS) : (fPass k F).2.2.2.1 3 = F.2.2.1 3 + 1 := by
  have h1 : (fHits (fAdv (fMove k F))).2.2.2.1 3 = F.2.2.1 3 + 1 := by
    have h2 : (fAdv (fMove k F)).2.2.1 3 = F.2.2.1 3 + 1 := by
      rw [(fAdv_1 _).2]
      show (fMove k F).2.2.1 3 + 1 = _
      rw [(fMove_0 k F).2]
    rw [← h2]
    unfold fHits
    split
    · rfl
    · split <;> rfl
  unfold fPass
  dsimp only
  split
  · exact h1
  · exact h1
theorem plS_t {c : Nat} {F G : FS} (h : plS c F = some G) : G.2.2.1 3 ≤ F.2.2.1 3 + 1 := by
  unfold plS at h
  split at h
  · split at h
    · cases h
      show F.2.2.1 3 ≤ _
      omega
    · cases h
  · split at h
    · cases h
      rw [fPass_t]
      exact Nat.le_refl _
    · cases h
theorem stK_3 : ∀ c, stK c < 3 := by
  intro c; unfold stK; split
  · decide
  · split <;> decide
set_option maxHeartbeats 1000000 in
set_option maxRecDepth 10000 in
theorem t_X7_playOne (M : mx_M) (F : FS) (hF : FiA M 1 F) (hV : FV F) (ht : F.2.2.1 3 + 1 < 2147483648) (c : Nat) (hc : c < 127) : mx_T yX7_playOne cX7_playOne 2 (some .boolean) 6 [.ref 0, .int (nI c)] M (fun v M' => v = some (.int (bI ((plS c F).isSome = true))) ∧ (∀ G, plS c F = some G → FiA M' 1 G ∧ FV G) ∧ (plS c F = none → M' = M) ∧ Out M M' 1 15) := by
  have h4 := hV.2.2.2.1
  refine mx_T.of1 (own := RX7) (ls := [some (.ref 0), some (.int (nI c))]) (by decide +kernel) rfl (Nat.le_of_ble_eq_true rfl) rfl rfl ?_
  refine mx_iload_n (pc' := 1) dX7_playOne_0 rfl rfl ?_
  refine mx_bipush (pc' := 3) (v := nI 98) dX7_playOne_1 (by decide) rfl ?_
  refine mx_icmp_ne (tgt := 28) (pc' := 6) dX7_playOne_3 (by decide) rfl (fun c3 => ?_) (fun c3 => ?_)
  · have c3 : ¬ _ := fun z => c3 ((nI_eq (by omega) (by omega)).mpr z)
    refine mx_aload_n (pc' := 29) dX7_playOne_28 rfl rfl ?_
    refine mx_getr (pc' := 32) dX7_playOne_29 fl_X7_10 (rfl) (by rfl) rfl ?_
    refine mx_getf (pc' := 35) (v := nI (F.2.2.1 4)) dX7_playOne_32 fl_X7_96 (rfl) (by rfl) (hF.2.2.1 4 (by decide)) rfl ?_
    refine mx_if_eq (tgt := 40) (pc' := 38) dX7_playOne_35 (by decide) rfl (fun c35 => ?_) (fun c35 => ?_)
    · have c35 : F.2.2.1 4 = 0 := (nI_eq (a := F.2.2.1 4) (b := 0) (by omega) (by omega)).mp c35
      have e : plS c F = some (fPass (stK c) F).2 := by
        unfold plS
        rw [if_neg c3, if_pos c35]
      refine mx_aload_n (pc' := 41) dX7_playOne_40 rfl rfl ?_
      refine mx_getr (pc' := 44) dX7_playOne_41 fl_X7_10 (rfl) (by rfl) rfl ?_
      refine mx_iload_n (pc' := 45) dX7_playOne_44 rfl rfl ?_
      refine mx_bipush (pc' := 47) (v := nI 108) dX7_playOne_45 (by decide) rfl ?_
      refine mx_icmp_ne (tgt := 54) (pc' := 50) dX7_playOne_47 (by decide) rfl (fun c47 => ?_) (fun c47 => ?_)
      · have c47 : ¬ _ := fun z => c47 ((nI_eq (by omega) (by omega)).mpr z)
        refine mx_iload_n (pc' := 55) dX7_playOne_54 rfl rfl ?_
        refine mx_bipush (pc' := 57) (v := nI 114) dX7_playOne_55 (by decide) rfl ?_
        refine mx_icmp_ne (tgt := 64) (pc' := 60) dX7_playOne_57 (by decide) rfl (fun c57 => ?_) (fun c57 => ?_)
        · have c57 : ¬ _ := fun z => c57 ((nI_eq (by omega) (by omega)).mpr z)
          refine mx_iconst (pc' := 65) (v := dr (stK c)) dX7_playOne_64 (by rw [show stK c = 1 from (if_neg c47).trans (if_neg c57)]; decide) rfl ?_
          refine mx_callV (pc' := 68) dX7_playOne_65 cl_X7_99 (rfl) (t_X3_passTick M 1 (Or.inl rfl) F hF hV ht (stK c) (stK_3 c)) rfl (by decide) rfl (Nat.le_of_ble_eq_true rfl) rfl (fun v N65 hv => ?_)
          obtain ⟨rfl, hF2, hO⟩ := hv
          refine mx_pop (pc' := 69) dX7_playOne_68 rfl rfl ?_
          refine mx_iconst (pc' := 70) (v := nI 1) dX7_playOne_69 (by decide) rfl ?_
          refine mx_iret dX7_playOne_70 (Or.inr ⟨rfl, by decide⟩) ?_
          exact ⟨bI_rt (by rw [e]; rfl), (fun G z => by rw [e] at z; cases z; exact ⟨hF2, hV.pass _⟩), (fun z => by rw [e] at z; cases z), hO⟩
        · have c57 := (nI_eq (by omega) (by omega)).mp c57
          refine mx_iconst (pc' := 61) (v := dr (stK c)) dX7_playOne_60 (by rw [show stK c = 2 from (if_neg c47).trans (if_pos c57)]; decide) rfl ?_
          refine mx_goto (pc' := 65) dX7_playOne_61 (by decide) ?_
          refine mx_callV (pc' := 68) dX7_playOne_65 cl_X7_99 (rfl) (t_X3_passTick M 1 (Or.inl rfl) F hF hV ht (stK c) (stK_3 c)) rfl (by decide) rfl (Nat.le_of_ble_eq_true rfl) rfl (fun v N65 hv => ?_)
          obtain ⟨rfl, hF2, hO⟩ := hv
          refine mx_pop (pc' := 69) dX7_playOne_68 rfl rfl ?_
          refine mx_iconst (pc' := 70) (v := nI 1) dX7_playOne_69 (by decide) rfl ?_
          refine mx_iret dX7_playOne_70 (Or.inr ⟨rfl, by decide⟩) ?_
          exact ⟨bI_rt (by rw [e]; rfl), (fun G z => by rw [e] at z; cases z; exact ⟨hF2, hV.pass _⟩), (fun z => by rw [e] at z; cases z), hO⟩
      · have c47 := (nI_eq (by omega) (by omega)).mp c47
        refine mx_iconst (pc' := 51) (v := dr (stK c)) dX7_playOne_50 (by rw [show stK c = 0 from if_pos c47]; decide) rfl ?_
        refine mx_goto (pc' := 65) dX7_playOne_51 (by decide) ?_
        refine mx_callV (pc' := 68) dX7_playOne_65 cl_X7_99 (rfl) (t_X3_passTick M 1 (Or.inl rfl) F hF hV ht (stK c) (stK_3 c)) rfl (by decide) rfl (Nat.le_of_ble_eq_true rfl) rfl (fun v N65 hv => ?_)
        obtain ⟨rfl, hF2, hO⟩ := hv
        refine mx_pop (pc' := 69) dX7_playOne_68 rfl rfl ?_
        refine mx_iconst (pc' := 70) (v := nI 1) dX7_playOne_69 (by decide) rfl ?_
        refine mx_iret dX7_playOne_70 (Or.inr ⟨rfl, by decide⟩) ?_
        exact ⟨bI_rt (by rw [e]; rfl), (fun G z => by rw [e] at z; cases z; exact ⟨hF2, hV.pass _⟩), (fun z => by rw [e] at z; cases z), hO⟩
    · have c35 : ¬ F.2.2.1 4 = 0 := fun z => c35 (by rw [z]; rfl)
      have e : plS c F = none := by simp [plS, c3, c35]
      refine mx_iconst (pc' := 39) (v := nI 0) dX7_playOne_38 (by decide) rfl ?_
      refine mx_iret dX7_playOne_39 (Or.inr ⟨rfl, by decide⟩) ?_
      exact ⟨bI_rf (by rw [e]; decide), (fun G z => by rw [e] at z; cases z), (fun _ => rfl), Out.rf⟩
  · have c3 := (nI_eq (by omega) (by omega)).mp c3
    refine mx_aload_n (pc' := 7) dX7_playOne_6 rfl rfl ?_
    refine mx_getr (pc' := 10) dX7_playOne_7 fl_X7_10 (rfl) (by rfl) rfl ?_
    refine mx_callV (pc' := 13) dX7_playOne_10 cl_X7_103 (rfl) (t_X3_canBomb M 1 (Or.inl rfl) F hF hV) rfl (by decide) rfl (Nat.le_of_ble_eq_true rfl) rfl (fun v N10 hv => ?_)
    obtain ⟨rfl, hv⟩ := hv
    rw [hv]
    refine mx_if_ne (tgt := 18) (pc' := 16) dX7_playOne_13 (by decide) rfl (fun c13 => ?_) (fun c13 => ?_)
    · have c13 := bI_n.mp c13
      have e : plS c F = some (fBomb F).2 := by
        unfold plS
        rw [if_pos c3, if_pos c13]
      refine mx_aload_n (pc' := 19) dX7_playOne_18 rfl rfl ?_
      refine mx_getr (pc' := 22) dX7_playOne_19 fl_X7_10 (rfl) (by rfl) rfl ?_
      refine mx_callV (pc' := 25) dX7_playOne_22 cl_X7_106 (rfl) (t_X3_throwBomb M 1 (Or.inl rfl) F hF hV c13.2) rfl (by decide) rfl (Nat.le_of_ble_eq_true rfl) rfl (fun v N22 hv => ?_)
      obtain ⟨rfl, hF2, hO⟩ := hv
      refine mx_pop (pc' := 26) dX7_playOne_25 rfl rfl ?_
      refine mx_iconst (pc' := 27) (v := nI 1) dX7_playOne_26 (by decide) rfl ?_
      refine mx_iret dX7_playOne_27 (Or.inr ⟨rfl, by decide⟩) ?_
      exact ⟨bI_rt (by rw [e]; rfl), (fun G z => by rw [e] at z; cases z; exact ⟨hF2, hV.bomb⟩), (fun z => by rw [e] at z; cases z), hO⟩
    · have c13 := bI_0.mp c13
      have e : plS c F = none := by simp [plS, c3, c13]
      refine mx_iconst (pc' := 17) (v := nI 0) dX7_playOne_16 (by decide) rfl ?_
      refine mx_iret dX7_playOne_17 (Or.inr ⟨rfl, by decide⟩) ?_
      exact ⟨bI_rf (by rw [e]; decide), (fun G z => by rw [e] at z; cases z), (fun _ => rfl), Out.rf⟩

set_option maxHeartbeats 1000000 in
set_option maxRecDepth 10000 in
theorem l_X7_play (M : mx_M) (L : List Nat) (F : FS) (H : List FS) (S : Option FS) (ht : F.2.2.1 3 + 100 < 2147483648) : ∀ (k : Nat) (i : Nat) (M1 : mx_M) (G : FS), L.length < i + k → i ≤ L.length → CoA M1 (G, H, S, L) → Mo M M1 → G.2.2.1 3 ≤ F.2.2.1 3 + i → plR L F = (i + (plR (L.drop i) G).1, (plR (L.drop i) G).2) → mx_V cX7_play RX7 2 (some .int) 7 28 [some (.ref 0), some (.int (nI i))] [] M1 (fun v M' => v = some (.int (nI (plR L F).1)) ∧ CoA M' ((plR L F).2, H, S, []) ∧ Mo M M') := by
  intro k
  induction k with
  | zero =>
    intro i M1 G hk hi hC1 hM1 hT hr
    exact absurd hk (by omega)
  | succ k ih =>
    intro i M1 G hk hi hC1 hM1 hT hr
    have h60 : L.length ≤ 60 := hC1.2.2.2.2.2.1
    refine mx_iload_n (pc' := 29) dX7_play_28 rfl rfl ?_
    refine mx_aload_n (pc' := 30) dX7_play_29 rfl rfl ?_
    refine mx_getr (pc' := 33) dX7_play_30 fl_X7_36 (rfl) (by rfl) rfl ?_
    refine mx_getf (pc' := 36) (v := nI L.length) dX7_play_33 fl_X7_124 (rfl) (by rfl) (hC1.2.2.2.2.1) rfl ?_
    refine mx_icmp_ge (tgt := 61) (pc' := 39) dX7_play_36 (by decide) rfl (fun c36 => ?_) (fun c36 => ?_)
    · have c36 := (nI_leI (by omega) (by omega)).mp c36
      rw [List.drop_eq_nil_of_le c36] at hr
      refine mx_aload_n (pc' := 62) dX7_play_61 rfl rfl ?_
      refine mx_getr (pc' := 65) dX7_play_62 fl_X7_36 (rfl) (by rfl) rfl ?_
      refine mx_iconst (pc' := 66) (v := nI 0) dX7_play_65 (by decide) rfl ?_
      refine mx_putf (pc' := 69) dX7_play_66 fl_X7_124 (rfl) (by rfl) (⟨rfl, rfl⟩) rfl ?_
      refine mx_iload_n (pc' := 70) dX7_play_69 rfl rfl ?_
      refine mx_iret dX7_play_70 (Or.inl rfl) ?_
      have hO3 : Out M1 (mx_up M1 101 1 (nI 0)) 101 103 := Out.rf.up (by decide) (by decide)
      exact ⟨by rw [hr]; rfl, by rw [hr]; exact hC1.pad (L := []) ⟨mx_up_eq _ _ _ _, by decide, fun c h => by simp at h, fun j c h => by simp at h⟩ hO3, hM1.tr (hO3.mo (by decide))⟩
    · have c36 := Nat.not_le.mp (fun z => c36 ((nI_leI (by omega) (by omega)).mpr z))
      obtain ⟨c, hx⟩ := get_lt c36
      have hc := hC1.2.2.2.2.2.2.1 c (List.mem_of_getElem? hx)
      rw [drop_cons hx] at hr
      refine mx_aload_n (pc' := 40) dX7_play_39 rfl rfl ?_
      refine mx_aload_n (pc' := 41) dX7_play_40 rfl rfl ?_
      refine mx_getr (pc' := 44) dX7_play_41 fl_X7_36 (rfl) (by rfl) rfl ?_
      refine mx_getr (pc' := 47) dX7_play_44 fl_X7_139 (rfl) (by rfl) rfl ?_
      refine mx_iload_n (pc' := 48) dX7_play_47 rfl rfl ?_
      refine mx_iald (pc' := 49) (v := nI c) dX7_play_48 (rfl) (rfl) (by omega) (hC1.2.2.2.2.2.2.2 i c hx) rfl ?_
      refine mx_callV (pc' := 52) dX7_play_49 cl_X7_142 (rfl) (t_X7_playOne M1 G hC1.1 hC1.2.1 (by omega) c hc) rfl (by decide) rfl (Nat.le_of_ble_eq_true rfl) rfl (fun v N49 hv => ?_)
      obtain ⟨rfl, hv, hv2, hO⟩ := hv
      refine mx_if_eq (tgt := 61) (pc' := 55) dX7_play_52 (by decide) rfl (fun c52 => ?_) (fun c52 => ?_)
      · have c52 := bI_0.mp c52
        have e : plS c G = none := by
          cases hz : plS c G with
          | none => rfl
          | some t => rw [hz] at c52; exact absurd rfl c52
        rw [hv2 e]
        rw [show plR (c :: L.drop (i + 1)) G = (0, G) by simp [plR, e]] at hr
        refine mx_aload_n (pc' := 62) dX7_play_61 rfl rfl ?_
        refine mx_getr (pc' := 65) dX7_play_62 fl_X7_36 (rfl) (by rfl) rfl ?_
        refine mx_iconst (pc' := 66) (v := nI 0) dX7_play_65 (by decide) rfl ?_
        refine mx_putf (pc' := 69) dX7_play_66 fl_X7_124 (rfl) (by rfl) (⟨rfl, rfl⟩) rfl ?_
        refine mx_iload_n (pc' := 70) dX7_play_69 rfl rfl ?_
        refine mx_iret dX7_play_70 (Or.inl rfl) ?_
        have hO3 : Out M1 (mx_up M1 101 1 (nI 0)) 101 103 := Out.rf.up (by decide) (by decide)
        exact ⟨by rw [hr]; rfl, by rw [hr]; exact hC1.pad (L := []) ⟨mx_up_eq _ _ _ _, by decide, fun c h => by simp at h, fun j c h => by simp at h⟩ hO3, hM1.tr (hO3.mo (by decide))⟩
      · have c52 := bI_n.mp c52
        obtain ⟨K, hK⟩ := Option.isSome_iff_exists.mp c52
        obtain ⟨hF2, hV2⟩ := hv K hK
        rw [show plR (c :: L.drop (i + 1)) G = ((plR (L.drop (i + 1)) K).1 + 1, (plR (L.drop (i + 1)) K).2) by simp [plR, hK]] at hr
        refine mx_iinc (pc' := 58) (ls' := [_, _]) (v := nI (i + 1)) dX7_play_55 rfl (nI_add i 1) (by decide) (rfl) rfl rfl ?_
        refine mx_goto (pc' := 28) dX7_play_58 (by decide) ?_
        exact ih (i + 1) N49 K (by omega) (by omega) (hC1.fld hF2 hV2 (hO.wd (by decide) (by decide))) (hM1.tr (hO.mo (by decide))) (by have := plS_t hK; omega) (by rw [hr]; congr 1; dsimp only; omega)

set_option maxHeartbeats 1000000 in
set_option maxRecDepth 10000 in
theorem t_X7_play (M : mx_M) (Y : Sy) (hC : CoA M Y) (ht : Y.1.2.2.1 3 + 100 < 2147483648) : mx_T yX7_play cX7_play 2 (some .int) 7 [.ref 0] M (fun v M' => v = some (.int (oPlay Y).1) ∧ CoA M' (oPlay Y).2 ∧ Mo M M') := by
  refine mx_T.of1 (own := RX7) (ls := [some (.ref 0), none]) (by decide +kernel) rfl (Nat.le_of_ble_eq_true rfl) rfl rfl ?_
  refine mx_aload_n (pc' := 1) dX7_play_0 rfl rfl ?_
  refine mx_getr (pc' := 4) dX7_play_1 fl_X7_36 (rfl) (by rfl) rfl ?_
  refine mx_callV (pc' := 7) dX7_play_4 cl_X7_131 (rfl) (t_X6_faultInSteps M Y.2.2.2 hC.2.2.2.2) rfl (by decide) rfl (Nat.le_of_ble_eq_true rfl) rfl (fun v N4 hv => ?_)
  obtain ⟨rfl, hv⟩ := hv
  rw [hv]
  refine mx_bipush (pc' := 9) (v := (-4)) dX7_play_7 (by decide) rfl ?_
  refine mx_icmp_eq (tgt := 15) (pc' := 12) dX7_play_9 (by decide) rfl (fun c9 => ?_) (fun c9 => ?_)
  · have e0 : oPlay Y = (nI (plR Y.2.2.2 Y.1).1, ((plR Y.2.2.2 Y.1).2, hPush Y.1 Y.2.1, Y.2.2.1, [])) := if_pos c9
    rw [e0]
    refine mx_aload_n (pc' := 16) dX7_play_15 rfl rfl ?_
    refine mx_getr (pc' := 19) dX7_play_16 fl_X7_29 (rfl) (by rfl) rfl ?_
    refine mx_aload_n (pc' := 20) dX7_play_19 rfl rfl ?_
    refine mx_getr (pc' := 23) dX7_play_20 fl_X7_10 (rfl) (by rfl) rfl ?_
    refine mx_callV (pc' := 26) dX7_play_23 cl_X7_74 (rfl) (t_X4_record _ 1 (Or.inl rfl) (by decide) Y.1 hC.1 hC.2.1 Y.2.1 hC.2.2.1) rfl (by decide) rfl (Nat.le_of_ble_eq_true rfl) rfl (fun v N23 hv => ?_)
    obtain ⟨rfl, hH, hO⟩ := hv
    have hC1 := hC.his hH hO
    have hM1 := hO.mo (by decide)
    refine mx_iconst (pc' := 27) (v := nI 0) dX7_play_26 (by decide) rfl ?_
    refine mx_istore_n (pc' := 28) (ls' := [_, _]) dX7_play_27 (by decide) (rfl) rfl rfl ?_
    exact l_X7_play M Y.2.2.2 Y.1 (hPush Y.1 Y.2.1) Y.2.2.1 ht (Y.2.2.2.length + 1) 0 N23 Y.1 (by omega) (by omega) hC1 hM1 (by omega) (by rw [List.drop_zero, Nat.zero_add])
  · refine mx_bipush (pc' := 14) (v := (-2)) dX7_play_12 (by decide) rfl ?_
    refine mx_iret dX7_play_14 (Or.inl rfl) ?_
    have e : oPlay Y = ((-2), Y) := if_neg c9
    rw [e]
    exact ⟨rfl, hC, Mo.rf⟩

set_option maxHeartbeats 1000000 in
set_option maxRecDepth 10000 in
theorem t_X7_undo (M : mx_M) (Y : Sy) (hC : CoA M Y) : mx_T yX7_undo cX7_undo 1 (some .int) 5 [.ref 0] M (fun v M' => v = some (.int (oUndo Y).1) ∧ CoA M' (oUndo Y).2 ∧ Mo M M') := by
  have h4 := hC.2.2.1.choose_spec.2.2.1
  refine mx_T.of1 (own := RX7) (ls := [some (.ref 0)]) (by decide +kernel) rfl (Nat.le_of_ble_eq_true rfl) rfl rfl ?_
  refine mx_aload_n (pc' := 1) dX7_undo_0 rfl rfl ?_
  refine mx_getr (pc' := 4) dX7_undo_1 fl_X7_29 (rfl) (by rfl) rfl ?_
  refine mx_getf (pc' := 7) (v := nI Y.2.1.length) dX7_undo_4 fl_X7_201 (rfl) (by rfl) (hC.2.2.1.choose_spec.2.1) rfl ?_
  refine mx_if_ne (tgt := 13) (pc' := 10) dX7_undo_7 (by decide) rfl (fun c7 => ?_) (fun c7 => ?_)
  · have c7 : Y.2.1 ≠ [] := fun z => c7 (by rw [z]; rfl)
    obtain ⟨H, G, hH⟩ : ∃ H G, Y.2.1 = H ++ [G] := ⟨_, _, (List.dropLast_concat_getLast c7).symm⟩
    have e : oUndo Y = (nI H.length, (G, H, Y.2.2.1, Y.2.2.2)) := by
      unfold oUndo
      rw [hH, List.getLast?_concat]
      simp
    rw [e]
    have hA : HiA M (H ++ [G]) := hH ▸ hC.2.2.1
    refine mx_aload_n (pc' := 14) dX7_undo_13 rfl rfl ?_
    refine mx_getr (pc' := 17) dX7_undo_14 fl_X7_29 (rfl) (by rfl) rfl ?_
    refine mx_aload_n (pc' := 18) dX7_undo_17 rfl rfl ?_
    refine mx_getr (pc' := 21) dX7_undo_18 fl_X7_10 (rfl) (by rfl) rfl ?_
    refine mx_callV (pc' := 24) dX7_undo_21 cl_X7_246 (rfl) (t_X4_takeBack M Y.1 G H hA) rfl (by decide) rfl (Nat.le_of_ble_eq_true rfl) rfl (fun v N21 hv => ?_)
    obtain ⟨rfl, hH2, hG, hGV, hO⟩ := hv
    refine mx_aload_n (pc' := 25) dX7_undo_24 rfl rfl ?_
    refine mx_getr (pc' := 28) dX7_undo_25 fl_X7_29 (rfl) (by rfl) rfl ?_
    refine mx_getf (pc' := 31) (v := nI H.length) dX7_undo_28 fl_X7_201 (rfl) (by rfl) (hH2.choose_spec.2.1) rfl ?_
    refine mx_iret dX7_undo_31 (Or.inl rfl) ?_
    exact ⟨rfl, ⟨hG, hGV, hH2, hC.2.2.2.1.fr (hO 0 (by omega)) fun q h1 h2 => hO q (by omega), hC.2.2.2.2.fr (hO 101 (by omega)) (hO 102 (by omega))⟩, fun q hq => hO q (by omega)⟩
  · have c7 : Y.2.1.length = 0 := (nI_eq (a := Y.2.1.length) (b := 0) (by omega) (by omega)).mp c7
    have e : oUndo Y = ((-2), Y) := by
      unfold oUndo
      rw [List.eq_nil_of_length_eq_zero c7]; rfl
    rw [e]
    refine mx_bipush (pc' := 12) (v := (-2)) dX7_undo_10 (by decide) rfl ?_
    refine mx_iret dX7_undo_12 (Or.inl rfl) ?_
    exact ⟨rfl, hC, Mo.rf⟩

set_option maxHeartbeats 1000000 in
set_option maxRecDepth 10000 in
theorem t_X7_save (M : mx_M) (Y : Sy) (hC : CoA M Y) : mx_T yX7_save cX7_save 1 (some .int) 4 [.ref 0] M (fun v M' => v = some (.int (oSave Y).1) ∧ CoA M' (oSave Y).2 ∧ Mo M M') := by
  refine mx_T.of1 (own := RX7) (ls := [some (.ref 0)]) (by decide +kernel) rfl (Nat.le_of_ble_eq_true rfl) rfl rfl ?_
  refine mx_aload_n (pc' := 1) dX7_save_0 rfl rfl ?_
  refine mx_getr (pc' := 4) dX7_save_1 fl_X7_19 (rfl) (by rfl) rfl ?_
  refine mx_aload_n (pc' := 5) dX7_save_4 rfl rfl ?_
  refine mx_getr (pc' := 8) dX7_save_5 fl_X7_10 (rfl) (by rfl) rfl ?_
  refine mx_callV (pc' := 11) dX7_save_8 cl_X7_236 (rfl) (t_X3_copyFrom M 29 1 (Or.inr (Or.inr (Or.inl rfl))) (Or.inl rfl) (by decide) Y.1 hC.1 hC.2.1) rfl (by decide) rfl (Nat.le_of_ble_eq_true rfl) rfl (fun v N8 hv => ?_)
  obtain ⟨rfl, hF2, hO⟩ := hv
  refine mx_aload_n (pc' := 12) dX7_save_11 rfl rfl ?_
  refine mx_iconst (pc' := 13) (v := nI 1) dX7_save_12 (by decide) rfl ?_
  refine mx_putf (pc' := 16) dX7_save_13 fl_X7_22 (rfl) (by rfl) (⟨by decide, by decide⟩) rfl ?_
  refine mx_aload_n (pc' := 17) dX7_save_16 rfl rfl ?_
  refine mx_getr (pc' := 20) dX7_save_17 fl_X7_10 (rfl) (by rfl) rfl ?_
  refine mx_getf (pc' := 23) (v := nI (Y.1.2.2.1 3)) dX7_save_20 fl_X7_157 (rfl) (by rfl) (by rw [mx_up_ne (by decide), hO 1 (by omega)]; exact hC.1.2.2.1 3 (by decide)) rfl ?_
  refine mx_iret dX7_save_23 (Or.inl rfl) ?_
  have hz : ∀ q, q ≠ 0 → mx_up N8 0 3 (nI 1) q = N8 q := fun q z => mx_up_ne z
  exact ⟨rfl, ⟨hC.1.fr fun q h1 h2 => by rw [hz q (by omega)]; exact hO q (by omega), hC.2.1, hC.2.2.1.fr fun q h1 h2 => by rw [hz q (by omega)]; exact hO q (by omega), ⟨mx_up_eq _ _ _ _, hF2.fr fun q h1 h2 => hz q (by omega), hC.2.1⟩, hC.2.2.2.2.fr (by rw [hz 101 (by omega)]; exact hO 101 (by omega)) (by rw [hz 102 (by omega)]; exact hO 102 (by omega))⟩, fun q hq => by rw [hz q (by omega)]; exact hO q (by omega)⟩

set_option maxHeartbeats 1000000 in
set_option maxRecDepth 10000 in
theorem t_X7_restore (M : mx_M) (Y : Sy) (hC : CoA M Y) : mx_T yX7_restore cX7_restore 1 (some .int) 5 [.ref 0] M (fun v M' => v = some (.int (oRestore Y).1) ∧ CoA M' (oRestore Y).2 ∧ Mo M M') := by
  refine mx_T.of1 (own := RX7) (ls := [some (.ref 0)]) (by decide +kernel) rfl (Nat.le_of_ble_eq_true rfl) rfl rfl ?_
  refine mx_aload_n (pc' := 1) dX7_restore_0 rfl rfl ?_
  refine mx_getf (pc' := 4) dX7_restore_1 fl_X7_22 (rfl) (by rfl) (rfl) rfl ?_
  refine mx_if_ne (tgt := 10) (pc' := 7) dX7_restore_4 (by decide) rfl (fun c4 => ?_) (fun c4 => ?_)
  · obtain ⟨G, hG⟩ : ∃ G, Y.2.2.1 = some G := by
      cases hz : Y.2.2.1 with
      | some G => exact ⟨G, rfl⟩
      | none =>
        have h3 := hC.2.2.2.1
        rw [hz] at h3
        exact absurd h3 c4
    have hS := hC.2.2.2.1
    rw [hG] at hS
    have e : oRestore Y = (nI (G.2.2.1 3), (G, hPush Y.1 Y.2.1, some G, Y.2.2.2)) := by
      unfold oRestore
      rw [hG]
    rw [e]
    refine mx_aload_n (pc' := 11) dX7_restore_10 rfl rfl ?_
    refine mx_getr (pc' := 14) dX7_restore_11 fl_X7_29 (rfl) (by rfl) rfl ?_
    refine mx_aload_n (pc' := 15) dX7_restore_14 rfl rfl ?_
    refine mx_getr (pc' := 18) dX7_restore_15 fl_X7_10 (rfl) (by rfl) rfl ?_
    refine mx_callV (pc' := 21) dX7_restore_18 cl_X7_74 (rfl) (t_X4_record _ 1 (Or.inl rfl) (by decide) Y.1 hC.1 hC.2.1 Y.2.1 hC.2.2.1) rfl (by decide) rfl (Nat.le_of_ble_eq_true rfl) rfl (fun v N18 hv => ?_)
    obtain ⟨rfl, hH, hO⟩ := hv
    have hC1 := hC.his hH hO
    have hM1 := hO.mo (by decide)
    refine mx_aload_n (pc' := 22) dX7_restore_21 rfl rfl ?_
    refine mx_getr (pc' := 25) dX7_restore_22 fl_X7_10 (rfl) (by rfl) rfl ?_
    refine mx_aload_n (pc' := 26) dX7_restore_25 rfl rfl ?_
    refine mx_getr (pc' := 29) dX7_restore_26 fl_X7_19 (rfl) (by rfl) rfl ?_
    refine mx_callV (pc' := 32) dX7_restore_29 cl_X7_236 (rfl) (t_X3_copyFrom N18 1 29 (Or.inl rfl) (Or.inr (Or.inr (Or.inl rfl))) (by decide) G (hS.2.1.fr fun q h1 h2 => hO q (by omega)) hS.2.2) rfl (by decide) rfl (Nat.le_of_ble_eq_true rfl) rfl (fun v N29 hv => ?_)
    obtain ⟨rfl, hF2, hO2⟩ := hv
    have hC2 := hC1.fld hF2 hS.2.2 (hO2.wd (by decide) (by decide))
    rw [hG] at hC2
    refine mx_aload_n (pc' := 33) dX7_restore_32 rfl rfl ?_
    refine mx_getr (pc' := 36) dX7_restore_33 fl_X7_10 (rfl) (by rfl) rfl ?_
    refine mx_getf (pc' := 39) (v := nI (G.2.2.1 3)) dX7_restore_36 fl_X7_157 (rfl) (by rfl) (hF2.2.2.1 3 (by decide)) rfl ?_
    refine mx_iret dX7_restore_39 (Or.inl rfl) ?_
    exact ⟨rfl, hC2, hM1.tr (hO2.mo (by decide))⟩
  · have e : oRestore Y = ((-2), Y) := by
      unfold oRestore
      cases hz : Y.2.2.1 with
      | none => rfl
      | some G =>
        have := hC.2.2.2.1
        rw [hz] at this
        rw [this.1] at c4
        exact absurd c4 (by decide)
    rw [e]
    refine mx_bipush (pc' := 9) (v := (-2)) dX7_restore_7 (by decide) rfl ?_
    refine mx_iret dX7_restore_9 (Or.inl rfl) ?_
    exact ⟨rfl, hC, Mo.rf⟩

