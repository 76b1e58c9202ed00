set_option maxHeartbeats 1000000 in
set_option maxRecDepth 10000 in
theorem t_X7_isColumn (M : mx_M) (x : Int32) : mx_T yX7_isColumn cX7_isColumn 1 (some .boolean) 1 [.int x] M (fun v M' => v = some (.int (bI (0 ≤ x ∧ x < nI 10))) ∧ M' = M) := by
  refine mx_T.of1 (own := RX7) (ls := [some (.int x)]) (by decide +kernel) rfl (Nat.le_of_ble_eq_true rfl) rfl rfl ?_
  refine mx_iload_n (pc' := 1) dX7_isColumn_0 rfl rfl ?_
  refine mx_if_lt (tgt := 14) (pc' := 4) dX7_isColumn_1 (by decide) rfl (fun c1 => ?_) (fun c1 => ?_)
  · refine mx_iconst (pc' := 15) (v := nI 0) dX7_isColumn_14 (by decide) rfl ?_
    refine mx_iret dX7_isColumn_15 (Or.inr ⟨rfl, by decide⟩) ?_
    first | exact ⟨bI_rt (by (simp (disch := omega) only [Int32.lt_iff_toInt_lt, Int32.le_iff_toInt_le, ← Int32.toInt_inj, ne_eq, nI_t, z_t, m1_t] at * <;> omega)), rfl⟩ | exact ⟨bI_rf (by (simp (disch := omega) only [Int32.lt_iff_toInt_lt, Int32.le_iff_toInt_le, ← Int32.toInt_inj, ne_eq, nI_t, z_t, m1_t] at * <;> omega)), rfl⟩
  · refine mx_iload_n (pc' := 5) dX7_isColumn_4 rfl rfl ?_
    refine mx_bipush (pc' := 7) (v := nI 10) dX7_isColumn_5 (by decide) rfl ?_
    refine mx_icmp_ge (tgt := 14) (pc' := 10) dX7_isColumn_7 (by decide) rfl (fun c7 => ?_) (fun c7 => ?_)
    · refine mx_iconst (pc' := 15) (v := nI 0) dX7_isColumn_14 (by decide) rfl ?_
      refine mx_iret dX7_isColumn_15 (Or.inr ⟨rfl, by decide⟩) ?_
      first | exact ⟨bI_rt (by (simp (disch := omega) only [Int32.lt_iff_toInt_lt, Int32.le_iff_toInt_le, ← Int32.toInt_inj, ne_eq, nI_t, z_t, m1_t] at * <;> omega)), rfl⟩ | exact ⟨bI_rf (by (simp (disch := omega) only [Int32.lt_iff_toInt_lt, Int32.le_iff_toInt_le, ← Int32.toInt_inj, ne_eq, nI_t, z_t, m1_t] at * <;> omega)), rfl⟩
    · refine mx_iconst (pc' := 11) (v := nI 1) dX7_isColumn_10 (by decide) rfl ?_
      refine mx_goto (pc' := 15) dX7_isColumn_11 (by decide) ?_
      refine mx_iret dX7_isColumn_15 (Or.inr ⟨rfl, by decide⟩) ?_
      first | exact ⟨bI_rt (by (simp (disch := omega) only [Int32.lt_iff_toInt_lt, Int32.le_iff_toInt_le, ← Int32.toInt_inj, ne_eq, nI_t, z_t, m1_t] at * <;> omega)), rfl⟩ | exact ⟨bI_rf (by (simp (disch := omega) only [Int32.lt_iff_toInt_lt, Int32.le_iff_toInt_le, ← Int32.toInt_inj, ne_eq, nI_t, z_t, m1_t] at * <;> omega)), rfl⟩

set_option maxHeartbeats 1000000 in
set_option maxRecDepth 10000 in
theorem t_X7_isPattern (M : mx_M) (x : Int32) : mx_T yX7_isPattern cX7_isPattern 1 (some .boolean) 1 [.int x] M (fun v M' => v = some (.int (bI (0 ≤ x ∧ x ≤ nI 5))) ∧ M' = M) := by
  refine mx_T.of1 (own := RX7) (ls := [some (.int x)]) (by decide +kernel) rfl (Nat.le_of_ble_eq_true rfl) rfl rfl ?_
  refine mx_iload_n (pc' := 1) dX7_isPattern_0 rfl rfl ?_
  refine mx_if_lt (tgt := 13) (pc' := 4) dX7_isPattern_1 (by decide) rfl (fun c1 => ?_) (fun c1 => ?_)
  · refine mx_iconst (pc' := 14) (v := nI 0) dX7_isPattern_13 (by decide) rfl ?_
    refine mx_iret dX7_isPattern_14 (Or.inr ⟨rfl, by decide⟩) ?_
    first | exact ⟨bI_rt (by (simp (disch := omega) only [Int32.lt_iff_toInt_lt, Int32.le_iff_toInt_le, ← Int32.toInt_inj, ne_eq, nI_t, z_t, m1_t] at * <;> omega)), rfl⟩ | exact ⟨bI_rf (by (simp (disch := omega) only [Int32.lt_iff_toInt_lt, Int32.le_iff_toInt_le, ← Int32.toInt_inj, ne_eq, nI_t, z_t, m1_t] at * <;> omega)), rfl⟩
  · refine mx_iload_n (pc' := 5) dX7_isPattern_4 rfl rfl ?_
    refine mx_iconst (pc' := 6) (v := nI 5) dX7_isPattern_5 (by decide) rfl ?_
    refine mx_icmp_gt (tgt := 13) (pc' := 9) dX7_isPattern_6 (by decide) rfl (fun c6 => ?_) (fun c6 => ?_)
    · refine mx_iconst (pc' := 14) (v := nI 0) dX7_isPattern_13 (by decide) rfl ?_
      refine mx_iret dX7_isPattern_14 (Or.inr ⟨rfl, by decide⟩) ?_
      first | exact ⟨bI_rt (by (simp (disch := omega) only [Int32.lt_iff_toInt_lt, Int32.le_iff_toInt_le, ← Int32.toInt_inj, ne_eq, nI_t, z_t, m1_t] at * <;> omega)), rfl⟩ | exact ⟨bI_rf (by (simp (disch := omega) only [Int32.lt_iff_toInt_lt, Int32.le_iff_toInt_le, ← Int32.toInt_inj, ne_eq, nI_t, z_t, m1_t] at * <;> omega)), rfl⟩
    · refine mx_iconst (pc' := 10) (v := nI 1) dX7_isPattern_9 (by decide) rfl ?_
      refine mx_goto (pc' := 14) dX7_isPattern_10 (by decide) ?_
      refine mx_iret dX7_isPattern_14 (Or.inr ⟨rfl, by decide⟩) ?_
      first | exact ⟨bI_rt (by (simp (disch := omega) only [Int32.lt_iff_toInt_lt, Int32.le_iff_toInt_le, ← Int32.toInt_inj, ne_eq, nI_t, z_t, m1_t] at * <;> omega)), rfl⟩ | exact ⟨bI_rf (by (simp (disch := omega) only [Int32.lt_iff_toInt_lt, Int32.le_iff_toInt_le, ← Int32.toInt_inj, ne_eq, nI_t, z_t, m1_t] at * <;> omega)), rfl⟩

set_option maxHeartbeats 1000000 in
set_option maxRecDepth 10000 in
theorem t_X7_isPeriod (M : mx_M) (x : Int32) : mx_T yX7_isPeriod cX7_isPeriod 1 (some .boolean) 1 [.int x] M (fun v M' => v = some (.int (bI (nI 1 ≤ x ∧ x ≤ nI 9))) ∧ M' = M) := by
  refine mx_T.of1 (own := RX7) (ls := [some (.int x)]) (by decide +kernel) rfl (Nat.le_of_ble_eq_true rfl) rfl rfl ?_
  refine mx_iload_n (pc' := 1) dX7_isPeriod_0 rfl rfl ?_
  refine mx_iconst (pc' := 2) (v := nI 1) dX7_isPeriod_1 (by decide) rfl ?_
  refine mx_icmp_lt (tgt := 15) (pc' := 5) dX7_isPeriod_2 (by decide) rfl (fun c2 => ?_) (fun c2 => ?_)
  · refine mx_iconst (pc' := 16) (v := nI 0) dX7_isPeriod_15 (by decide) rfl ?_
    refine mx_iret dX7_isPeriod_16 (Or.inr ⟨rfl, by decide⟩) ?_
    first | exact ⟨bI_rt (by (simp (disch := omega) only [Int32.lt_iff_toInt_lt, Int32.le_iff_toInt_le, ← Int32.toInt_inj, ne_eq, nI_t, z_t, m1_t] at * <;> omega)), rfl⟩ | exact ⟨bI_rf (by (simp (disch := omega) only [Int32.lt_iff_toInt_lt, Int32.le_iff_toInt_le, ← Int32.toInt_inj, ne_eq, nI_t, z_t, m1_t] at * <;> omega)), rfl⟩
  · refine mx_iload_n (pc' := 6) dX7_isPeriod_5 rfl rfl ?_
    refine mx_bipush (pc' := 8) (v := nI 9) dX7_isPeriod_6 (by decide) rfl ?_
    refine mx_icmp_gt (tgt := 15) (pc' := 11) dX7_isPeriod_8 (by decide) rfl (fun c8 => ?_) (fun c8 => ?_)
    · refine mx_iconst (pc' := 16) (v := nI 0) dX7_isPeriod_15 (by decide) rfl ?_
      refine mx_iret dX7_isPeriod_16 (Or.inr ⟨rfl, by decide⟩) ?_
      first | exact ⟨bI_rt (by (simp (disch := omega) only [Int32.lt_iff_toInt_lt, Int32.le_iff_toInt_le, ← Int32.toInt_inj, ne_eq, nI_t, z_t, m1_t] at * <;> omega)), rfl⟩ | exact ⟨bI_rf (by (simp (disch := omega) only [Int32.lt_iff_toInt_lt, Int32.le_iff_toInt_le, ← Int32.toInt_inj, ne_eq, nI_t, z_t, m1_t] at * <;> omega)), rfl⟩
    · refine mx_iconst (pc' := 12) (v := nI 1) dX7_isPeriod_11 (by decide) rfl ?_
      refine mx_goto (pc' := 16) dX7_isPeriod_12 (by decide) ?_
      refine mx_iret dX7_isPeriod_16 (Or.inr ⟨rfl, by decide⟩) ?_
      first | exact ⟨bI_rt (by (simp (disch := omega) only [Int32.lt_iff_toInt_lt, Int32.le_iff_toInt_le, ← Int32.toInt_inj, ne_eq, nI_t, z_t, m1_t] at * <;> omega)), rfl⟩ | exact ⟨bI_rf (by (simp (disch := omega) only [Int32.lt_iff_toInt_lt, Int32.le_iff_toInt_le, ← Int32.toInt_inj, ne_eq, nI_t, z_t, m1_t] at * <;> omega)), rfl⟩

set_option maxHeartbeats 1000000 in
set_option maxRecDepth 10000 in
theorem t_X7_isStep (M : mx_M) (x : Int32) : mx_T yX7_isStep cX7_isStep 1 (some .boolean) 1 [.int x] M (fun v M' => v = some (.int (bI ((-1) ≤ x ∧ x ≤ nI 1))) ∧ M' = M) := by
  refine mx_T.of1 (own := RX7) (ls := [some (.int x)]) (by decide +kernel) rfl (Nat.le_of_ble_eq_true rfl) rfl rfl ?_
  refine mx_iload_n (pc' := 1) dX7_isStep_0 rfl rfl ?_
  refine mx_iconst (pc' := 2) (v := (-1)) dX7_isStep_1 (by decide) rfl ?_
  refine mx_icmp_lt (tgt := 14) (pc' := 5) dX7_isStep_2 (by decide) rfl (fun c2 => ?_) (fun c2 => ?_)
  · refine mx_iconst (pc' := 15) (v := nI 0) dX7_isStep_14 (by decide) rfl ?_
    refine mx_iret dX7_isStep_15 (Or.inr ⟨rfl, by decide⟩) ?_
    first | exact ⟨bI_rt (by (simp (disch := omega) only [Int32.lt_iff_toInt_lt, Int32.le_iff_toInt_le, ← Int32.toInt_inj, ne_eq, nI_t, z_t, m1_t] at * <;> omega)), rfl⟩ | exact ⟨bI_rf (by (simp (disch := omega) only [Int32.lt_iff_toInt_lt, Int32.le_iff_toInt_le, ← Int32.toInt_inj, ne_eq, nI_t, z_t, m1_t] at * <;> omega)), rfl⟩
  · refine mx_iload_n (pc' := 6) dX7_isStep_5 rfl rfl ?_
    refine mx_iconst (pc' := 7) (v := nI 1) dX7_isStep_6 (by decide) rfl ?_
    refine mx_icmp_gt (tgt := 14) (pc' := 10) dX7_isStep_7 (by decide) rfl (fun c7 => ?_) (fun c7 => ?_)
    · refine mx_iconst (pc' := 15) (v := nI 0) dX7_isStep_14 (by decide) rfl ?_
      refine mx_iret dX7_isStep_15 (Or.inr ⟨rfl, by decide⟩) ?_
      first | exact ⟨bI_rt (by (simp (disch := omega) only [Int32.lt_iff_toInt_lt, Int32.le_iff_toInt_le, ← Int32.toInt_inj, ne_eq, nI_t, z_t, m1_t] at * <;> omega)), rfl⟩ | exact ⟨bI_rf (by (simp (disch := omega) only [Int32.lt_iff_toInt_lt, Int32.le_iff_toInt_le, ← Int32.toInt_inj, ne_eq, nI_t, z_t, m1_t] at * <;> omega)), rfl⟩
    · refine mx_iconst (pc' := 11) (v := nI 1) dX7_isStep_10 (by decide) rfl ?_
      refine mx_goto (pc' := 15) dX7_isStep_11 (by decide) ?_
      refine mx_iret dX7_isStep_15 (Or.inr ⟨rfl, by decide⟩) ?_
      first | exact ⟨bI_rt (by (simp (disch := omega) only [Int32.lt_iff_toInt_lt, Int32.le_iff_toInt_le, ← Int32.toInt_inj, ne_eq, nI_t, z_t, m1_t] at * <;> omega)), rfl⟩ | exact ⟨bI_rf (by (simp (disch := omega) only [Int32.lt_iff_toInt_lt, Int32.le_iff_toInt_le, ← Int32.toInt_inj, ne_eq, nI_t, z_t, m1_t] at * <;> omega)), rfl⟩

set_option maxHeartbeats 1000000 in
set_option maxRecDepth 10000 in
theorem t_X7_isSpan (M : mx_M) (x : Int32) : mx_T yX7_isSpan cX7_isSpan 1 (some .boolean) 1 [.int x] M (fun v M' => v = some (.int (bI (nI 1 ≤ x ∧ x ≤ nI 30))) ∧ M' = M) := by
  refine mx_T.of1 (own := RX7) (ls := [some (.int x)]) (by decide +kernel) rfl (Nat.le_of_ble_eq_true rfl) rfl rfl ?_
  refine mx_iload_n (pc' := 1) dX7_isSpan_0 rfl rfl ?_
  refine mx_iconst (pc' := 2) (v := nI 1) dX7_isSpan_1 (by decide) rfl ?_
  refine mx_icmp_lt (tgt := 15) (pc' := 5) dX7_isSpan_2 (by decide) rfl (fun c2 => ?_) (fun c2 => ?_)
  · refine mx_iconst (pc' := 16) (v := nI 0) dX7_isSpan_15 (by decide) rfl ?_
    refine mx_iret dX7_isSpan_16 (Or.inr ⟨rfl, by decide⟩) ?_
    first | exact ⟨bI_rt (by (simp (disch := omega) only [Int32.lt_iff_toInt_lt, Int32.le_iff_toInt_le, ← Int32.toInt_inj, ne_eq, nI_t, z_t, m1_t] at * <;> omega)), rfl⟩ | exact ⟨bI_rf (by (simp (disch := omega) only [Int32.lt_iff_toInt_lt, Int32.le_iff_toInt_le, ← Int32.toInt_inj, ne_eq, nI_t, z_t, m1_t] at * <;> omega)), rfl⟩
  · refine mx_iload_n (pc' := 6) dX7_isSpan_5 rfl rfl ?_
    refine mx_bipush (pc' := 8) (v := nI 30) dX7_isSpan_6 (by decide) rfl ?_
    refine mx_icmp_gt (tgt := 15) (pc' := 11) dX7_isSpan_8 (by decide) rfl (fun c8 => ?_) (fun c8 => ?_)
    · refine mx_iconst (pc' := 16) (v := nI 0) dX7_isSpan_15 (by decide) rfl ?_
      refine mx_iret dX7_isSpan_16 (Or.inr ⟨rfl, by decide⟩) ?_
      first | exact ⟨bI_rt (by (simp (disch := omega) only [Int32.lt_iff_toInt_lt, Int32.le_iff_toInt_le, ← Int32.toInt_inj, ne_eq, nI_t, z_t, m1_t] at * <;> omega)), rfl⟩ | exact ⟨bI_rf (by (simp (disch := omega) only [Int32.lt_iff_toInt_lt, Int32.le_iff_toInt_le, ← Int32.toInt_inj, ne_eq, nI_t, z_t, m1_t] at * <;> omega)), rfl⟩
    · refine mx_iconst (pc' := 12) (v := nI 1) dX7_isSpan_11 (by decide) rfl ?_
      refine mx_goto (pc' := 16) dX7_isSpan_12 (by decide) ?_
      refine mx_iret dX7_isSpan_16 (Or.inr ⟨rfl, by decide⟩) ?_
      first | exact ⟨bI_rt (by (simp (disch := omega) only [Int32.lt_iff_toInt_lt, Int32.le_iff_toInt_le, ← Int32.toInt_inj, ne_eq, nI_t, z_t, m1_t] at * <;> omega)), rfl⟩ | exact ⟨bI_rf (by (simp (disch := omega) only [Int32.lt_iff_toInt_lt, Int32.le_iff_toInt_le, ← Int32.toInt_inj, ne_eq, nI_t, z_t, m1_t] at * <;> omega)), rfl⟩

set_option maxHeartbeats 1000000 in
set_option maxRecDepth 10000 in
theorem t_X7_isSetting (M : mx_M) (x y : Int32) : mx_T yX7_isSetting cX7_isSetting 2 (some .boolean) 1 [.int x, .int y] M (fun v M' => v = some (.int (bI ((x = 0 ∧ (y = 0 ∨ y = nI 1)) ∨ (x = nI 1 ∧ nI 1 ≤ y ∧ y ≤ nI 5)))) ∧ M' = M) := by
  refine mx_T.of1 (own := RX7) (ls := [some (.int x), some (.int y)]) (by decide +kernel) rfl (Nat.le_of_ble_eq_true rfl) rfl rfl ?_
  refine mx_iload_n (pc' := 1) dX7_isSetting_0 rfl rfl ?_
  refine mx_if_ne (tgt := 19) (pc' := 4) dX7_isSetting_1 (by decide) rfl (fun c1 => ?_) (fun c1 => ?_)
  · refine mx_iload_n (pc' := 20) dX7_isSetting_19 rfl rfl ?_
    refine mx_iconst (pc' := 21) (v := nI 1) dX7_isSetting_20 (by decide) rfl ?_
    refine mx_icmp_ne (tgt := 38) (pc' := 24) dX7_isSetting_21 (by decide) rfl (fun c21 => ?_) (fun c21 => ?_)
    · refine mx_iconst (pc' := 39) (v := nI 0) dX7_isSetting_38 (by decide) rfl ?_
      refine mx_iret dX7_isSetting_39 (Or.inr ⟨rfl, by decide⟩) ?_
      first | exact ⟨bI_rt (by (simp (disch := omega) only [Int32.lt_iff_toInt_lt, Int32.le_iff_toInt_le, ← Int32.toInt_inj, ne_eq, nI_t, z_t, m1_t] at * <;> omega)), rfl⟩ | exact ⟨bI_rf (by (simp (disch := omega) only [Int32.lt_iff_toInt_lt, Int32.le_iff_toInt_le, ← Int32.toInt_inj, ne_eq, nI_t, z_t, m1_t] at * <;> omega)), rfl⟩
    · refine mx_iload_n (pc' := 25) dX7_isSetting_24 rfl rfl ?_
      refine mx_iconst (pc' := 26) (v := nI 1) dX7_isSetting_25 (by decide) rfl ?_
      refine mx_icmp_lt (tgt := 38) (pc' := 29) dX7_isSetting_26 (by decide) rfl (fun c26 => ?_) (fun c26 => ?_)
      · refine mx_iconst (pc' := 39) (v := nI 0) dX7_isSetting_38 (by decide) rfl ?_
        refine mx_iret dX7_isSetting_39 (Or.inr ⟨rfl, by decide⟩) ?_
        first | exact ⟨bI_rt (by (simp (disch := omega) only [Int32.lt_iff_toInt_lt, Int32.le_iff_toInt_le, ← Int32.toInt_inj, ne_eq, nI_t, z_t, m1_t] at * <;> omega)), rfl⟩ | exact ⟨bI_rf (by (simp (disch := omega) only [Int32.lt_iff_toInt_lt, Int32.le_iff_toInt_le, ← Int32.toInt_inj, ne_eq, nI_t, z_t, m1_t] at * <;> omega)), rfl⟩
      · refine mx_iload_n (pc' := 30) dX7_isSetting_29 rfl rfl ?_
        refine mx_iconst (pc' := 31) (v := nI 5) dX7_isSetting_30 (by decide) rfl ?_
        refine mx_icmp_gt (tgt := 38) (pc' := 34) dX7_isSetting_31 (by decide) rfl (fun c31 => ?_) (fun c31 => ?_)
        · refine mx_iconst (pc' := 39) (v := nI 0) dX7_isSetting_38 (by decide) rfl ?_
          refine mx_iret dX7_isSetting_39 (Or.inr ⟨rfl, by decide⟩) ?_
          first | exact ⟨bI_rt (by (simp (disch := omega) only [Int32.lt_iff_toInt_lt, Int32.le_iff_toInt_le, ← Int32.toInt_inj, ne_eq, nI_t, z_t, m1_t] at * <;> omega)), rfl⟩ | exact ⟨bI_rf (by (simp (disch := omega) only [Int32.lt_iff_toInt_lt, Int32.le_iff_toInt_le, ← Int32.toInt_inj, ne_eq, nI_t, z_t, m1_t] at * <;> omega)), rfl⟩
        · refine mx_iconst (pc' := 35) (v := nI 1) dX7_isSetting_34 (by decide) rfl ?_
          refine mx_goto (pc' := 39) dX7_isSetting_35 (by decide) ?_
          refine mx_iret dX7_isSetting_39 (Or.inr ⟨rfl, by decide⟩) ?_
          first | exact ⟨bI_rt (by (simp (disch := omega) only [Int32.lt_iff_toInt_lt, Int32.le_iff_toInt_le, ← Int32.toInt_inj, ne_eq, nI_t, z_t, m1_t] at * <;> omega)), rfl⟩ | exact ⟨bI_rf (by (simp (disch := omega) only [Int32.lt_iff_toInt_lt, Int32.le_iff_toInt_le, ← Int32.toInt_inj, ne_eq, nI_t, z_t, m1_t] at * <;> omega)), rfl⟩
  · refine mx_iload_n (pc' := 5) dX7_isSetting_4 rfl rfl ?_
    refine mx_if_eq (tgt := 13) (pc' := 8) dX7_isSetting_5 (by decide) rfl (fun c5 => ?_) (fun c5 => ?_)
    · refine mx_iconst (pc' := 14) (v := nI 1) dX7_isSetting_13 (by decide) rfl ?_
      refine mx_goto (pc' := 18) dX7_isSetting_14 (by decide) ?_
      refine mx_iret dX7_isSetting_18 (Or.inr ⟨rfl, by decide⟩) ?_
      first | exact ⟨bI_rt (by (simp (disch := omega) only [Int32.lt_iff_toInt_lt, Int32.le_iff_toInt_le, ← Int32.toInt_inj, ne_eq, nI_t, z_t, m1_t] at * <;> omega)), rfl⟩ | exact ⟨bI_rf (by (simp (disch := omega) only [Int32.lt_iff_toInt_lt, Int32.le_iff_toInt_le, ← Int32.toInt_inj, ne_eq, nI_t, z_t, m1_t] at * <;> omega)), rfl⟩
    · refine mx_iload_n (pc' := 9) dX7_isSetting_8 rfl rfl ?_
      refine mx_iconst (pc' := 10) (v := nI 1) dX7_isSetting_9 (by decide) rfl ?_
      refine mx_icmp_ne (tgt := 17) (pc' := 13) dX7_isSetting_10 (by decide) rfl (fun c10 => ?_) (fun c10 => ?_)
      · refine mx_iconst (pc' := 18) (v := nI 0) dX7_isSetting_17 (by decide) rfl ?_
        refine mx_iret dX7_isSetting_18 (Or.inr ⟨rfl, by decide⟩) ?_
        first | exact ⟨bI_rt (by (simp (disch := omega) only [Int32.lt_iff_toInt_lt, Int32.le_iff_toInt_le, ← Int32.toInt_inj, ne_eq, nI_t, z_t, m1_t] at * <;> omega)), rfl⟩ | exact ⟨bI_rf (by (simp (disch := omega) only [Int32.lt_iff_toInt_lt, Int32.le_iff_toInt_le, ← Int32.toInt_inj, ne_eq, nI_t, z_t, m1_t] at * <;> omega)), rfl⟩
      · refine mx_iconst (pc' := 14) (v := nI 1) dX7_isSetting_13 (by decide) rfl ?_
        refine mx_goto (pc' := 18) dX7_isSetting_14 (by decide) ?_
        refine mx_iret dX7_isSetting_18 (Or.inr ⟨rfl, by decide⟩) ?_
        first | exact ⟨bI_rt (by (simp (disch := omega) only [Int32.lt_iff_toInt_lt, Int32.le_iff_toInt_le, ← Int32.toInt_inj, ne_eq, nI_t, z_t, m1_t] at * <;> omega)), rfl⟩ | exact ⟨bI_rf (by (simp (disch := omega) only [Int32.lt_iff_toInt_lt, Int32.le_iff_toInt_le, ← Int32.toInt_inj, ne_eq, nI_t, z_t, m1_t] at * <;> omega)), rfl⟩

set_option maxHeartbeats 1000000 in
set_option maxRecDepth 10000 in
theorem t_J6_compare_7cf53 (M : mx_M) (x y : Int32) : mx_T yJ6_compare_7cf53 cJ6_compare_7cf53 2 (some .int) 1 [.int x, .int y] M (fun v M' => v = some (.int (if x < y then (-1) else if x = y then nI 0 else nI 1)) ∧ M' = M) := by
  refine mx_T.of1 (own := RJ6) (ls := [some (.int x), some (.int y)]) (by decide +kernel) rfl (Nat.le_of_ble_eq_true rfl) rfl rfl ?_
  refine mx_iload_n (pc' := 1) dJ6_compare_7cf53_0 rfl rfl ?_
  refine mx_iload_n (pc' := 2) dJ6_compare_7cf53_1 rfl rfl ?_
  refine mx_icmp_ge (tgt := 9) (pc' := 5) dJ6_compare_7cf53_2 (by decide) rfl (fun c2 => ?_) (fun c2 => ?_)
  · have c2 : ¬ x < y := Int32.not_lt.mpr c2
    refine mx_iload_n (pc' := 10) dJ6_compare_7cf53_9 rfl rfl ?_
    refine mx_iload_n (pc' := 11) dJ6_compare_7cf53_10 rfl rfl ?_
    refine mx_icmp_ne (tgt := 18) (pc' := 14) dJ6_compare_7cf53_11 (by decide) rfl (fun c11 => ?_) (fun c11 => ?_)
    · refine mx_iconst (pc' := 19) (v := nI 1) dJ6_compare_7cf53_18 (by decide) rfl ?_
      refine mx_iret dJ6_compare_7cf53_19 (Or.inl rfl) ?_
      exact ⟨by simp [*], rfl⟩
    · refine mx_iconst (pc' := 15) (v := nI 0) dJ6_compare_7cf53_14 (by decide) rfl ?_
      refine mx_goto (pc' := 19) dJ6_compare_7cf53_15 (by decide) ?_
      refine mx_iret dJ6_compare_7cf53_19 (Or.inl rfl) ?_
      exact ⟨by simp [*], rfl⟩
  · have c2 : x < y := Int32.not_le.mp c2
    refine mx_iconst (pc' := 6) (v := (-1)) dJ6_compare_7cf53_5 (by decide) rfl ?_
    refine mx_goto (pc' := 19) dJ6_compare_7cf53_6 (by decide) ?_
    refine mx_iret dJ6_compare_7cf53_19 (Or.inl rfl) ?_
    exact ⟨by simp [*], rfl⟩

set_option maxHeartbeats 1000000 in
set_option maxRecDepth 10000 in
theorem t_X0_has (M : mx_M) (b n : Nat) (hs : BuS b) (hn : M b 5 = nI n) (h60 : n ≤ 60) (x : Int32) : mx_T yX0_has cX0_has 2 (some .boolean) 1 [.ref b, .int x] M (fun v M' => v = some (.int (bI (0 ≤ x ∧ x < nI n))) ∧ M' = M) := by
  obtain ⟨s0, s1, s2, s3, s4, s5⟩ := hs
  refine mx_T.of1 (own := RX0) (ls := [some (.ref b), some (.int x)]) (by decide +kernel) rfl (Nat.le_of_ble_eq_true rfl) rfl rfl ?_
  refine mx_iload_n (pc' := 1) dX0_has_0 rfl rfl ?_
  refine mx_if_lt (tgt := 16) (pc' := 4) dX0_has_1 (by decide) rfl (fun c1 => ?_) (fun c1 => ?_)
  · refine mx_iconst (pc' := 17) (v := nI 0) dX0_has_16 (by decide) rfl ?_
    refine mx_iret dX0_has_17 (Or.inr ⟨rfl, by decide⟩) ?_
    first | exact ⟨bI_rt (by (simp (disch := omega) only [Int32.lt_iff_toInt_lt, Int32.le_iff_toInt_le, ← Int32.toInt_inj, ne_eq, nI_t, z_t, m1_t] at * <;> omega)), rfl⟩ | exact ⟨bI_rf (by (simp (disch := omega) only [Int32.lt_iff_toInt_lt, Int32.le_iff_toInt_le, ← Int32.toInt_inj, ne_eq, nI_t, z_t, m1_t] at * <;> omega)), rfl⟩
  · refine mx_iload_n (pc' := 5) dX0_has_4 rfl rfl ?_
    refine mx_aload_n (pc' := 6) dX0_has_5 rfl rfl ?_
    refine mx_getf (pc' := 9) (v := nI n) dX0_has_6 fl_X0_28 (by assumption) (by rfl) (hn) rfl ?_
    refine mx_icmp_ge (tgt := 16) (pc' := 12) dX0_has_9 (by decide) rfl (fun c9 => ?_) (fun c9 => ?_)
    · refine mx_iconst (pc' := 17) (v := nI 0) dX0_has_16 (by decide) rfl ?_
      refine mx_iret dX0_has_17 (Or.inr ⟨rfl, by decide⟩) ?_
      first | exact ⟨bI_rt (by (simp (disch := omega) only [Int32.lt_iff_toInt_lt, Int32.le_iff_toInt_le, ← Int32.toInt_inj, ne_eq, nI_t, z_t, m1_t] at * <;> omega)), rfl⟩ | exact ⟨bI_rf (by (simp (disch := omega) only [Int32.lt_iff_toInt_lt, Int32.le_iff_toInt_le, ← Int32.toInt_inj, ne_eq, nI_t, z_t, m1_t] at * <;> omega)), rfl⟩
    · refine mx_iconst (pc' := 13) (v := nI 1) dX0_has_12 (by decide) rfl ?_
      refine mx_goto (pc' := 17) dX0_has_13 (by decide) ?_
      refine mx_iret dX0_has_17 (Or.inr ⟨rfl, by decide⟩) ?_
      first | exact ⟨bI_rt (by (simp (disch := omega) only [Int32.lt_iff_toInt_lt, Int32.le_iff_toInt_le, ← Int32.toInt_inj, ne_eq, nI_t, z_t, m1_t] at * <;> omega)), rfl⟩ | exact ⟨bI_rf (by (simp (disch := omega) only [Int32.lt_iff_toInt_lt, Int32.le_iff_toInt_le, ← Int32.toInt_inj, ne_eq, nI_t, z_t, m1_t] at * <;> omega)), rfl⟩

set_option maxHeartbeats 1000000 in
set_option maxRecDepth 10000 in
theorem t_X0_keepOnly (M : mx_M) (b n : Nat) (hs : BuS b) (hn : M b 5 = nI n) (k : Nat) (hk : k ≤ n) : mx_T yX0_keepOnly cX0_keepOnly 3 (some .int) 1 [.ref b, .int (nI k)] M (fun v M' => v = some (.int (nI (n - k))) ∧ M' = mx_up M b 5 (nI k)) := by
  obtain ⟨s0, s1, s2, s3, s4, s5⟩ := hs
  refine mx_T.of1 (own := RX0) (ls := [some (.ref b), some (.int (nI k)), none]) (by decide +kernel) rfl (Nat.le_of_ble_eq_true rfl) rfl rfl ?_
  refine mx_aload_n (pc' := 1) dX0_keepOnly_0 rfl rfl ?_
  refine mx_getf (pc' := 4) (v := nI n) dX0_keepOnly_1 fl_X0_28 (by assumption) (by rfl) (hn) rfl ?_
  refine mx_iload_n (pc' := 5) dX0_keepOnly_4 rfl rfl ?_
  refine mx_isub (pc' := 6) (v := nI (n - k)) dX0_keepOnly_5 (pk_sub hk) rfl ?_
  refine mx_istore_n (pc' := 7) (ls' := [_, _, _]) dX0_keepOnly_6 (by decide) (rfl) rfl rfl ?_
  refine mx_aload_n (pc' := 8) dX0_keepOnly_7 rfl rfl ?_
  refine mx_iload_n (pc' := 9) dX0_keepOnly_8 rfl rfl ?_
  refine mx_putf (pc' := 12) dX0_keepOnly_9 fl_X0_28 (by assumption) (by rfl) (⟨rfl, rfl⟩) rfl ?_
  refine mx_iload_n (pc' := 13) dX0_keepOnly_12 rfl rfl ?_
  refine mx_iret dX0_keepOnly_13 (Or.inl rfl) ?_
  exact ⟨rfl, rfl⟩

set_option maxHeartbeats 1000000 in
set_option maxRecDepth 10000 in
theorem t_X0_put (M : mx_M) (b b' : Nat) (hs : BuS b) (hs' : BuS b') (hb : b' = b ∨ b + 6 ≤ b' ∨ b' + 6 ≤ b) (t f : Nat) (ht : t < 60) (hf : f < 60) (h4 : vp_nar .boolean (M (b' + 4) f) = M (b' + 4) f) (h5 : vp_nar .boolean (M (b' + 5) f) = M (b' + 5) f) : mx_T yX0_put cX0_put 4 none 1 [.ref b, .int (nI t), .ref b', .int (nI f)] M (fun v M' => v = none ∧ (∀ q j, (q < b + 1 ∨ b + 5 < q ∨ j ≠ t) → M' q j = M q j) ∧ M' (b + 1) t = M (b' + 1) f ∧ M' (b + 2) t = M (b' + 2) f ∧ M' (b + 3) t = M (b' + 3) f ∧ M' (b + 4) t = M (b' + 4) f ∧ M' (b + 5) t = M (b' + 5) f) := by
  obtain ⟨s0, s1, s2, s3, s4, s5⟩ := hs
  obtain ⟨u0, u1, u2, u3, u4, u5⟩ := hs'
  refine mx_T.of1 (own := RX0) (ls := [some (.ref b), some (.int (nI t)), some (.ref b'), some (.int (nI f))]) (by decide +kernel) rfl (Nat.le_of_ble_eq_true rfl) rfl rfl ?_
  refine mx_aload_n (pc' := 1) dX0_put_0 rfl rfl ?_
  refine mx_getr (pc' := 4) dX0_put_1 fl_X0_9 (by assumption) (by rfl) rfl ?_
  refine mx_iload_n (pc' := 5) dX0_put_4 rfl rfl ?_
  refine mx_aload_n (pc' := 6) dX0_put_5 rfl rfl ?_
  refine mx_getr (pc' := 9) dX0_put_6 fl_X0_9 (by assumption) (by rfl) rfl ?_
  refine mx_iload_n (pc' := 10) dX0_put_9 rfl rfl ?_
  refine mx_iald (pc' := 11) (v := M (b' + 1) f) dX0_put_10 (by assumption) (rfl) (by omega) (by simp only [mx_up]; repeat rw [if_neg (by omega)]) rfl ?_
  refine mx_iast (pc' := 12) dX0_put_11 (by assumption) (rfl) (by omega) rfl ?_
  refine mx_aload_n (pc' := 13) dX0_put_12 rfl rfl ?_
  refine mx_getr (pc' := 16) dX0_put_13 fl_X0_15 (by assumption) (by rfl) rfl ?_
  refine mx_iload_n (pc' := 17) dX0_put_16 rfl rfl ?_
  refine mx_aload_n (pc' := 18) dX0_put_17 rfl rfl ?_
  refine mx_getr (pc' := 21) dX0_put_18 fl_X0_15 (by assumption) (by rfl) rfl ?_
  refine mx_iload_n (pc' := 22) dX0_put_21 rfl rfl ?_
  refine mx_iald (pc' := 23) (v := M (b' + 2) f) dX0_put_22 (by assumption) (rfl) (by omega) (by simp only [mx_up]; repeat rw [if_neg (by omega)]) rfl ?_
  refine mx_iast (pc' := 24) dX0_put_23 (by assumption) (rfl) (by omega) rfl ?_
  refine mx_aload_n (pc' := 25) dX0_put_24 rfl rfl ?_
  refine mx_getr (pc' := 28) dX0_put_25 fl_X0_18 (by assumption) (by rfl) rfl ?_
  refine mx_iload_n (pc' := 29) dX0_put_28 rfl rfl ?_
  refine mx_aload_n (pc' := 30) dX0_put_29 rfl rfl ?_
  refine mx_getr (pc' := 33) dX0_put_30 fl_X0_18 (by assumption) (by rfl) rfl ?_
  refine mx_iload_n (pc' := 34) dX0_put_33 rfl rfl ?_
  refine mx_iald (pc' := 35) (v := M (b' + 3) f) dX0_put_34 (by assumption) (rfl) (by omega) (by simp only [mx_up]; repeat rw [if_neg (by omega)]) rfl ?_
  refine mx_iast (pc' := 36) dX0_put_35 (by assumption) (rfl) (by omega) rfl ?_
  refine mx_aload_n (pc' := 37) dX0_put_36 rfl rfl ?_
  refine mx_getr (pc' := 40) dX0_put_37 fl_X0_21 (by assumption) (by rfl) rfl ?_
  refine mx_iload_n (pc' := 41) dX0_put_40 rfl rfl ?_
  refine mx_aload_n (pc' := 42) dX0_put_41 rfl rfl ?_
  refine mx_getr (pc' := 45) dX0_put_42 fl_X0_21 (by assumption) (by rfl) rfl ?_
  refine mx_iload_n (pc' := 46) dX0_put_45 rfl rfl ?_
  refine mx_bald (pc' := 47) (v := M (b' + 4) f) dX0_put_46 (by assumption) (rfl) (by omega) (by simp only [mx_up]; repeat rw [if_neg (by omega)]) rfl ?_
  refine mx_bast (pc' := 48) dX0_put_47 (by assumption) (rfl) (by omega) (h4) rfl ?_
  refine mx_aload_n (pc' := 49) dX0_put_48 rfl rfl ?_
  refine mx_getr (pc' := 52) dX0_put_49 fl_X0_25 (by assumption) (by rfl) rfl ?_
  refine mx_iload_n (pc' := 53) dX0_put_52 rfl rfl ?_
  refine mx_aload_n (pc' := 54) dX0_put_53 rfl rfl ?_
  refine mx_getr (pc' := 57) dX0_put_54 fl_X0_25 (by assumption) (by rfl) rfl ?_
  refine mx_iload_n (pc' := 58) dX0_put_57 rfl rfl ?_
  refine mx_bald (pc' := 59) (v := M (b' + 5) f) dX0_put_58 (by assumption) (rfl) (by omega) (by simp only [mx_up]; repeat rw [if_neg (by omega)]) rfl ?_
  refine mx_bast (pc' := 60) dX0_put_59 (by assumption) (rfl) (by omega) (h5) rfl ?_
  refine mx_vret dX0_put_60 rfl ?_
  refine ⟨rfl, fun q j hq => ?_, ?_, ?_, ?_, ?_, ?_⟩
  · simp only [mx_up]
    by_cases hj : j = t
    · subst hj
      repeat rw [if_neg (by omega)]
    · simp [hj]
  all_goals (simp [mx_up])

/-- put, of a bullet that is known -/
theorem t_X0_putW (M : mx_M) (b b' : Nat) (hs : BuS b) (hs' : BuS b') (hb : b' = b ∨ b + 6 ≤ b' ∨ b' + 6 ≤ b) (t f : Nat) (ht : t < 60) (hf : f < 60) (x : Bu) (hx : BuW M b' f x) (hV : BuV x) : mx_T yX0_put cX0_put 4 none 1 [.ref b, .int (nI t), .ref b', .int (nI f)] M (fun v M' => v = none ∧ (∀ q j, (q < b + 1 ∨ b + 5 < q ∨ j ≠ t) → M' q j = M q j) ∧ BuW M' b t x) := by
  obtain ⟨x1, x2, x3, x4, x5⟩ := hx
  refine (t_X0_put M b b' hs hs' hb t f ht hf (by rw [x4]; exact nI_vb hV.2.2.2.1) (by rw [x5]; exact nI_vb hV.2.2.2.2)).post ?_
  rintro v M' ⟨e, h, h1, h2, h3, h4, h5⟩
  exact ⟨e, h, h1.trans x1, h2.trans x2, h3.trans x3, h4.trans x4, h5.trans x5⟩
