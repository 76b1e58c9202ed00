set_option maxHeartbeats 1000000 in
set_option maxRecDepth 10000 in
theorem l_X8_fair (M : mx_M) (g : Nat → Nat) (p R : Nat) (hp : p < 10) (hg : ∀ t, g t < 1024) (hL : ∀ t, t ≤ 30 → M 151 t = nI (g t)) (hs : M 144 2 = nI p) : ∀ (k : Nat) (n : Nat), 30 < n + k → n ≤ 30 → lwR g p (30 - n) (n + 1) = R → mx_V cX8_fair RX8 2 (some .int) 2 10 [some (.ref 143), some (.int (nI n))] [] M (fun v M' => v = some (.int (nI R)) ∧ M' = M) := by
  intro k
  induction k with
  | zero =>
    intro n hk hi hr
    exact absurd hk (by omega)
  | succ k ih =>
    intro n hk hi hr
    refine mx_iload_n (pc' := 11) dX8_fair_10 rfl rfl ?_
    refine mx_bipush (pc' := 13) (v := nI 30) dX8_fair_11 (by decide) rfl ?_
    refine mx_icmp_ge (tgt := 32) (pc' := 16) dX8_fair_13 (by decide) rfl (fun c13 => ?_) (fun c13 => ?_)
    · have c13 := (nI_leI (by omega) (by omega)).mp c13
      obtain rfl : n = 30 := by omega
      have hr : 30 = R := hr
      refine mx_iload_n (pc' := 33) dX8_fair_32 rfl rfl ?_
      refine mx_iret dX8_fair_33 (Or.inl rfl) ?_
      exact ⟨by rw [← hr], rfl⟩
    · have c13 := Nat.not_le.mp (fun z => c13 ((nI_leI (by omega) (by omega)).mpr z))
      rw [show 30 - n = (30 - (n + 1)) + 1 by omega] at hr
      refine mx_aload_n (pc' := 17) dX8_fair_16 rfl rfl ?_
      refine mx_iload_n (pc' := 18) dX8_fair_17 rfl rfl ?_
      refine mx_iconst (pc' := 19) (v := nI 1) dX8_fair_18 (by decide) rfl ?_
      refine mx_iadd (pc' := 20) (v := nI (n + 1)) dX8_fair_19 (nI_add n 1) rfl ?_
      refine mx_callV (pc' := 23) dX8_fair_20 cl_X8_160 (rfl) (t_X8_endsOf M g p (n + 1) (by omega) hp hg (fun t h => hL t (by omega)) hs) rfl (by decide) rfl (Nat.le_of_ble_eq_true rfl) rfl (fun v N20 hv => ?_)
      obtain ⟨rfl, hv⟩ := hv
      rw [hv]
      have hrl := rch_lt hp hg (n + 1)
      refine mx_if_eq (tgt := 32) (pc' := 26) dX8_fair_23 (by decide) rfl (fun c23 => ?_) (fun c23 => ?_)
      · have c23 : rch g p (n + 1) = 0 := (nI_eq (a := rch g p (n + 1)) (b := 0) (by omega) (by omega)).mp c23
        have hr : n + 1 - 1 = R := (show lwR g p ((30 - (n + 1)) + 1) (n + 1) = n + 1 - 1 from if_pos c23).symm.trans hr
        refine mx_iload_n (pc' := 33) dX8_fair_32 rfl rfl ?_
        refine mx_iret dX8_fair_33 (Or.inl rfl) ?_
        exact ⟨by rw [← hr, Nat.add_sub_cancel], rfl⟩
      · have c23 : ¬ rch g p (n + 1) = 0 := fun z => c23 (by rw [z]; rfl)
        have hr : lwR g p (30 - (n + 1)) (n + 1 + 1) = R := (show lwR g p ((30 - (n + 1)) + 1) (n + 1) = _ from if_neg c23).symm.trans hr
        refine mx_iinc (pc' := 29) (ls' := [_, _]) (v := nI (n + 1)) dX8_fair_26 rfl (nI_add n 1) (by decide) (rfl) rfl rfl ?_
        refine mx_goto (pc' := 10) dX8_fair_29 (by decide) ?_
        exact ih (n + 1) (by omega) (by omega) hr

set_option maxHeartbeats 1000000 in
set_option maxRecDepth 10000 in
theorem t_X8_fair (M : mx_M) (Y : Sy) (hC : MoA M Y) (ht : Y.1.2.2.1 3 + 100 < 2147483648) : mx_T yX8_fair cX8_fair 2 (some .int) 7 [.ref 143] M (fun v M' => v = some (.int (oFair Y)) ∧ MoA M' Y ∧ Cl M M') := by
  refine mx_T.of1 (own := RX8) (ls := [some (.ref 143), none]) (by decide +kernel) rfl (Nat.le_of_ble_eq_true rfl) rfl rfl ?_
  refine mx_aload_n (pc' := 1) dX8_fair_0 rfl rfl ?_
  refine mx_bipush (pc' := 3) (v := nI 30) dX8_fair_1 (by decide) rfl ?_
  refine mx_bipush (pc' := 5) (v := (-4)) dX8_fair_3 (by decide) rfl ?_
  refine mx_callV (pc' := 8) dX8_fair_5 cl_X8_157 (rfl) (t_X8_forecasts M Y hC (-4) Y.1 FcP.n ht 30 (by decide)) rfl (by decide) rfl (Nat.le_of_ble_eq_true rfl) rfl (fun v N5 hv => ?_)
  obtain ⟨rfl, hL, hC2, hO⟩ := hv
  refine mx_iconst (pc' := 9) (v := nI 0) dX8_fair_8 (by decide) rfl ?_
  refine mx_istore_n (pc' := 10) (ls' := [_, _]) dX8_fair_9 (by decide) (rfl) rfl rfl ?_
  refine ((l_X8_fair N5 (fFr Y.1) (Y.1.2.2.1 0) _ hC.2.1.1 (fFr_lt _) hL (hC2.1.sc 0 (by decide)) 31 0 (by omega) (by omega) rfl).mono (by decide)).post fun v M' hv => ?_
  obtain ⟨rfl, hv⟩ := hv
  rw [hv]
  exact ⟨rfl, hC2, hO.cl⟩

set_option maxHeartbeats 1000000 in
set_option maxRecDepth 10000 in
theorem l_X8_opens (M : mx_M) (g : Nat → Nat) (T : Nat) (hT : T ≤ 30) (hg : ∀ t, g t < 1024) (hL : ∀ t, t ≤ T → M 151 t = nI (g t)) (x : Int32) : ∀ (k : Nat) (n : Nat), T < n + k → n ≤ T → mx_V cX8_opens RX8 5 (some .int) 2 11 [some (.ref 143), some (.int (nI T)), some (.int x), some (.int (nI (sumG g n))), some (.int (nI (n + 1)))] [] M (fun v M' => v = some (.int (nI (sumG g T))) ∧ M' = M) := by
  intro k
  induction k with
  | zero =>
    intro n hk hi
    exact absurd hk (by omega)
  | succ k ih =>
    intro n hk hi
    refine mx_iload (pc' := 13) dX8_opens_11 rfl rfl ?_
    refine mx_iload_n (pc' := 14) dX8_opens_13 rfl rfl ?_
    refine mx_icmp_gt (tgt := 36) (pc' := 17) dX8_opens_14 (by decide) rfl (fun c14 => ?_) (fun c14 => ?_)
    · have c14 := (nI_ltI (by omega) (by omega)).mp c14
      obtain rfl : n = T := by omega
      refine mx_iload_n (pc' := 37) dX8_opens_36 rfl rfl ?_
      refine mx_iret dX8_opens_37 (Or.inl rfl) ?_
      exact ⟨rfl, rfl⟩
    · have c14 := Nat.not_lt.mp (fun z => c14 ((nI_ltI (by omega) (by omega)).mpr z))
      refine mx_iload_n (pc' := 18) dX8_opens_17 rfl rfl ?_
      refine mx_aload_n (pc' := 19) dX8_opens_18 rfl rfl ?_
      refine mx_getr (pc' := 22) dX8_opens_19 fl_X8_32 (rfl) (by rfl) rfl ?_
      refine mx_iload (pc' := 24) dX8_opens_22 rfl rfl ?_
      refine mx_iald (pc' := 25) (v := nI (g (n + 1))) dX8_opens_24 (rfl) (rfl) (by omega) (hL _ c14) rfl ?_
      refine mx_callS (pc' := 28) dX8_opens_25 cl_X8_163 (t_X8_ones M _ (hg (n + 1))) rfl (by decide) rfl (Nat.le_of_ble_eq_true rfl) rfl (fun v N25 hv => ?_)
      obtain ⟨rfl, hv⟩ := hv
      rw [hv]
      refine mx_iadd (pc' := 29) (v := nI (sumG g (n + 1))) dX8_opens_28 (nI_add _ _) rfl ?_
      refine mx_istore_n (pc' := 30) (ls' := [_, _, _, _, _]) dX8_opens_29 (by decide) (rfl) rfl rfl ?_
      refine mx_iinc (pc' := 33) (ls' := [_, _, _, _, _]) (v := nI (n + 1 + 1)) dX8_opens_30 rfl (nI_add (n + 1) 1) (by decide) (rfl) rfl rfl ?_
      refine mx_goto (pc' := 11) dX8_opens_33 (by decide) ?_
      exact ih (n + 1) (by omega) (by omega)

set_option maxHeartbeats 1000000 in
set_option maxRecDepth 10000 in
theorem t_X8_opens (M : mx_M) (Y : Sy) (hC : MoA M Y) (x : Int32) (G : FS) (hG : FcP x Y.1 G) (ht : Y.1.2.2.1 3 + 100 < 2147483648) (T : Nat) (hT : T ≤ 30) : mx_T yX8_opens cX8_opens 5 (some .int) 7 [.ref 143, .int (nI T), .int x] M (fun v M' => v = some (.int (nI (sumG (fFr G) T))) ∧ MoA M' Y ∧ Cl M M') := by
  refine mx_T.of1 (own := RX8) (ls := [some (.ref 143), some (.int (nI T)), some (.int x), none, none]) (by decide +kernel) rfl (Nat.le_of_ble_eq_true rfl) rfl rfl ?_
  refine mx_aload_n (pc' := 1) dX8_opens_0 rfl rfl ?_
  refine mx_iload_n (pc' := 2) dX8_opens_1 rfl rfl ?_
  refine mx_iload_n (pc' := 3) dX8_opens_2 rfl rfl ?_
  refine mx_callV (pc' := 6) dX8_opens_3 cl_X8_157 (rfl) (t_X8_forecasts M Y hC x G hG ht T hT) rfl (by decide) rfl (Nat.le_of_ble_eq_true rfl) rfl (fun v N3 hv => ?_)
  obtain ⟨rfl, hL, hC2, hO⟩ := hv
  refine mx_iconst (pc' := 7) (v := nI 0) dX8_opens_6 (by decide) rfl ?_
  refine mx_istore_n (pc' := 8) (ls' := [_, _, _, _, _]) dX8_opens_7 (by decide) (rfl) rfl rfl ?_
  refine mx_iconst (pc' := 9) (v := nI 1) dX8_opens_8 (by decide) rfl ?_
  refine mx_istore (pc' := 11) (ls' := [_, _, _, _, _]) dX8_opens_9 (by decide) (rfl) rfl rfl ?_
  refine ((l_X8_opens N3 (fFr G) T hT (fFr_lt _) hL x (T + 1) 0 (by omega) (by omega)).mono (by decide)).post fun v M' hv => ?_
  obtain ⟨rfl, hv⟩ := hv
  rw [hv]
  exact ⟨rfl, hC2, hO.cl⟩

set_option maxHeartbeats 1000000 in
set_option maxRecDepth 10000 in
theorem l_X8_shuts (M : mx_M) (Y : Sy) (hC : MoA M Y) (ht : Y.1.2.2.1 3 + 100 < 2147483648) (T : Nat) (hT : T ≤ 30) (hT1 : 1 ≤ T) (R : Nat) : ∀ (k : Nat) (e : Nat) (M1 : mx_M) (s : Nat × Nat) (z : Option Value), mx_c1 [z] = true → Y.1.1.length < e + k → e ≤ Y.1.1.length → MoA M1 Y → Cl M M1 → s.2 ≤ 301 → ((List.range' e (Y.1.1.length - e)).foldl (shS Y.1 T) s).1 = R → mx_V cX8_shuts RX8 6 (some .int) 8 31 [some (.ref 143), some (.int (nI T)), some (.int (nI s.1)), some (.int (dr s.2)), some (.int (nI e)), z] [] M1 (fun v M' => v = some (.int (nI R)) ∧ MoA M' Y ∧ Cl M M') := by
  have h4 := hC.1.eL.1
  intro k
  induction k with
  | zero =>
    intro e M1 s z hz hk hi hC1 hM1 hs hR
    exact absurd hk (by omega)
  | succ k ih =>
    intro e M1 s z hz hk hi hC1 hM1 hs hR
    refine mx_iload (pc' := 33) dX8_shuts_31 rfl rfl ?_
    refine mx_aload_n (pc' := 34) dX8_shuts_33 rfl rfl ?_
    refine mx_getr (pc' := 37) dX8_shuts_34 fl_X8_7 (rfl) (by rfl) rfl ?_
    refine mx_iconst (pc' := 38) (v := nI 0) dX8_shuts_37 (by decide) rfl ?_
    refine mx_iald (pc' := 39) (v := nI Y.1.1.length) dX8_shuts_38 (rfl) (rfl) (by decide) (hC1.1.E) rfl ?_
    refine mx_icmp_ge (tgt := 83) (pc' := 42) dX8_shuts_39 (by decide) rfl (fun c39 => ?_) (fun c39 => ?_)
    · have c39 := (nI_leI (by omega) (by omega)).mp c39
      rw [show Y.1.1.length - e = 0 by omega] at hR
      have hR : s.1 = R := hR
      refine mx_iload_n (pc' := 84) dX8_shuts_83 rfl rfl ?_
      refine mx_iret dX8_shuts_84 (Or.inl rfl) ?_
      exact ⟨by rw [hR], hC1, hM1⟩
    · have c39 := Nat.not_le.mp (fun z => c39 ((nI_leI (by omega) (by omega)).mpr z))
      refine mx_aload_n (pc' := 43) dX8_shuts_42 rfl rfl ?_
      refine mx_iload_n (pc' := 44) dX8_shuts_43 rfl rfl ?_
      refine mx_iload (pc' := 46) dX8_shuts_44 rfl rfl ?_
      refine mx_callV (pc' := 49) dX8_shuts_46 cl_X8_172 (rfl) (t_X8_opens M1 Y hC1 (nI e) (drE e Y.1) (Or.inr ⟨e, c39, rfl, rfl⟩) ht T hT) rfl (by decide) rfl (Nat.le_of_ble_eq_true rfl) rfl (fun v N46 hv => ?_)
      obtain ⟨rfl, hC3, hM⟩ := hv
      have hM3 := hM1.tr hM
      have hle := sumG_le (fFr (drE e Y.1)) T
      refine mx_istore (pc' := 51) (ls' := [_, _, _, _, _, _]) dX8_shuts_49 (by decide) (by simpa [mx_c1, Value.category] using hz) rfl rfl ?_
      refine mx_iload (pc' := 53) dX8_shuts_51 rfl rfl ?_
      refine mx_iload_n (pc' := 54) dX8_shuts_53 rfl rfl ?_
      refine mx_icmp_le (tgt := 62) (pc' := 57) dX8_shuts_54 (by decide) rfl (fun c54 => ?_) (fun c54 => ?_)
      · have c54 : ¬ (s.2 < sumG (fFr (drE e Y.1)) T + 1) := fun z => absurd ((shl_1 (by omega) (by omega)).mp c54) (by omega)
        refine mx_iload_n (pc' := 63) dX8_shuts_62 rfl rfl ?_
        refine mx_istore_n (pc' := 64) (ls' := [_, _, _, _, _, _]) dX8_shuts_63 (by decide) (rfl) rfl rfl ?_
        refine mx_iload (pc' := 66) dX8_shuts_64 rfl rfl ?_
        refine mx_iload_n (pc' := 67) dX8_shuts_66 rfl rfl ?_
        refine mx_icmp_le (tgt := 75) (pc' := 70) dX8_shuts_67 (by decide) rfl (fun c67 => ?_) (fun c67 => ?_)
        · refine mx_iload_n (pc' := 76) dX8_shuts_75 rfl rfl ?_
          refine mx_istore_n (pc' := 77) (ls' := [_, _, _, _, _, _]) dX8_shuts_76 (by decide) (rfl) rfl rfl ?_
          refine mx_iinc (pc' := 80) (ls' := [_, _, _, _, _, _]) (v := nI (e + 1)) dX8_shuts_77 rfl (nI_add e 1) (by decide) (rfl) rfl rfl ?_
          refine mx_goto (pc' := 31) dX8_shuts_80 (by decide) ?_
          rw [show Y.1.1.length - e = (Y.1.1.length - (e + 1)) + 1 by omega, List.range'_succ, List.foldl_cons] at hR
          have e1 : shS Y.1 T s e = s := if_neg (by omega)
          rw [e1] at hR
          exact ih (e + 1) N46 s _ rfl (by omega) (by omega) hC3 hM3 hs hR
        · exact absurd ((shl_1 (by omega) (by omega)).mpr (by omega)) c67
      · have c54 : ¬ _ := fun z => c54 ((shl_1 (by omega) (by omega)).mpr z)
        refine mx_iload (pc' := 59) dX8_shuts_57 rfl rfl ?_
        refine mx_goto (pc' := 63) dX8_shuts_59 (by decide) ?_
        refine mx_istore_n (pc' := 64) (ls' := [_, _, _, _, _, _]) dX8_shuts_63 (by decide) (rfl) rfl rfl ?_
        refine mx_iload (pc' := 66) dX8_shuts_64 rfl rfl ?_
        refine mx_iload_n (pc' := 67) dX8_shuts_66 rfl rfl ?_
        refine mx_icmp_le (tgt := 75) (pc' := 70) dX8_shuts_67 (by decide) rfl (fun c67 => ?_) (fun c67 => ?_)
        · exact absurd ((shl_1 (by omega) (by omega)).mp c67) c54
        · refine mx_iload (pc' := 72) dX8_shuts_70 rfl rfl ?_
          refine mx_goto (pc' := 76) dX8_shuts_72 (by decide) ?_
          refine mx_istore_n (pc' := 77) (ls' := [_, _, _, _, _, _]) dX8_shuts_76 (by decide) (rfl) rfl rfl ?_
          refine mx_iinc (pc' := 80) (ls' := [_, _, _, _, _, _]) (v := nI (e + 1)) dX8_shuts_77 rfl (nI_add e 1) (by decide) (rfl) rfl rfl ?_
          refine mx_goto (pc' := 31) dX8_shuts_80 (by decide) ?_
          rw [show Y.1.1.length - e = (Y.1.1.length - (e + 1)) + 1 by omega, List.range'_succ, List.foldl_cons] at hR
          have e1 : shS Y.1 T s e = (e, sumG (fFr (drE e Y.1)) T + 1) := if_pos (by omega)
          rw [e1] at hR
          rw [show nI (sumG (fFr (drE e Y.1)) T) = dr (sumG (fFr (drE e Y.1)) T + 1) from (dr_s _).symm]
          exact ih (e + 1) N46 (e, sumG (fFr (drE e Y.1)) T + 1) _ rfl (by omega) (by omega) hC3 hM3 (by dsimp only; omega) hR

set_option maxHeartbeats 1000000 in
set_option maxRecDepth 10000 in
theorem t_X8_shuts (M : mx_M) (Y : Sy) (hC : MoA M Y) (ht : Y.1.2.2.1 3 + 100 < 2147483648) (x : Int32) : mx_T yX8_shuts cX8_shuts 6 (some .int) 8 [.ref 143, .int x] M (fun v M' => v = some (.int (oShuts x Y)) ∧ MoA M' Y ∧ Cl M M') := by
  refine mx_T.of1 (own := RX8) (ls := [some (.ref 143), some (.int x), none, none, none, none]) (by decide +kernel) rfl (Nat.le_of_ble_eq_true rfl) rfl rfl ?_
  refine mx_iload_n (pc' := 1) dX8_shuts_0 rfl rfl ?_
  refine mx_iconst (pc' := 2) (v := nI 1) dX8_shuts_1 (by decide) rfl ?_
  refine mx_bipush (pc' := 4) (v := nI 30) dX8_shuts_2 (by decide) rfl ?_
  refine mx_callS (pc' := 7) dX8_shuts_4 cl_X8_49 (t_X8_in M x (nI 1) (nI 30)) rfl (by decide) rfl (Nat.le_of_ble_eq_true rfl) rfl (fun v N4 hv => ?_)
  obtain ⟨rfl, hv⟩ := hv
  rw [hv]
  refine mx_if_ne (tgt := 12) (pc' := 10) dX8_shuts_7 (by decide) rfl (fun c7 => ?_) (fun c7 => ?_)
  · have c7 := bI_n.mp c7
    have h4 := hC.1.eL.1
    have ea : oShuts x Y = (if Y.1.1.length = 0 then (-2) else nI ((List.range' 0 Y.1.1.length).foldl (shS Y.1 (tN x)) (0, 0)).1) := if_pos c7
    rw [ea]
    obtain ⟨T, hT1, hT, rfl⟩ := ge_of2 c7.1 c7.2 (by decide) (by decide)
    rw [tN_n (by omega)]
    refine mx_aload_n (pc' := 13) dX8_shuts_12 rfl rfl ?_
    refine mx_getr (pc' := 16) dX8_shuts_13 fl_X8_7 (rfl) (by rfl) rfl ?_
    refine mx_iconst (pc' := 17) (v := nI 0) dX8_shuts_16 (by decide) rfl ?_
    refine mx_iald (pc' := 18) (v := nI Y.1.1.length) dX8_shuts_17 (rfl) (rfl) (by decide) (hC.1.E) rfl ?_
    refine mx_if_ne (tgt := 24) (pc' := 21) dX8_shuts_18 (by decide) rfl (fun c18 => ?_) (fun c18 => ?_)
    · have c18 : ¬ Y.1.1.length = 0 := fun z => c18 (by rw [z]; rfl)
      rw [if_neg c18]
      refine mx_iconst (pc' := 25) (v := nI 0) dX8_shuts_24 (by decide) rfl ?_
      refine mx_istore_n (pc' := 26) (ls' := [_, _, _, _, _, _]) dX8_shuts_25 (by decide) (rfl) rfl rfl ?_
      refine mx_iconst (pc' := 27) (v := dr 0) dX8_shuts_26 (by decide) rfl ?_
      refine mx_istore_n (pc' := 28) (ls' := [_, _, _, _, _, _]) dX8_shuts_27 (by decide) (rfl) rfl rfl ?_
      refine mx_iconst (pc' := 29) (v := nI 0) dX8_shuts_28 (by decide) rfl ?_
      refine mx_istore (pc' := 31) (ls' := [_, _, _, _, _, _]) dX8_shuts_29 (by decide) (rfl) rfl rfl ?_
      exact l_X8_shuts M Y hC ht T hT hT1 _ (Y.1.1.length + 1) 0 M (0, 0) none rfl (by omega) (by omega) hC Cl.rf (by decide) rfl
    · have c18 : Y.1.1.length = 0 := (nI_eq (a := Y.1.1.length) (b := 0) (by omega) (by omega)).mp c18
      rw [if_pos c18]
      refine mx_bipush (pc' := 23) (v := (-2)) dX8_shuts_21 (by decide) rfl ?_
      refine mx_iret dX8_shuts_23 (Or.inl rfl) ?_
      exact ⟨rfl, hC, Cl.rf⟩
  · have c7 : ¬ (nI 1 ≤ x ∧ x ≤ nI 30) := bI_0.mp c7
    refine mx_iconst (pc' := 11) (v := (-1)) dX8_shuts_10 (by decide) rfl ?_
    refine mx_iret dX8_shuts_11 (Or.inl rfl) ?_
    have e : oShuts x Y = (-1) := if_neg (c7)
    rw [e]
    exact ⟨rfl, hC, Cl.rf⟩

set_option maxHeartbeats 1000000 in
set_option maxRecDepth 10000 in
theorem l_X8_ifStepped (M : mx_M) (Y : Sy) (hC : MoA M Y) (ht : Y.1.2.2.1 3 + 100 < 2147483648) (T : Nat) (hT : T ≤ 30) (s : Nat) (hs : s < 3) (z : Int32) : ∀ (k : Nat) (n : Nat) (M1 : mx_M) (G : FS) (c : Option Value), mx_c1 [c] = true → T < n + k → n ≤ T → Oc M M1 → (∀ j, j < 333 → M1 145 j = M 144 j) → MF M1 G → FV G → G.2.2.1 3 ≤ Y.1.2.2.1 3 + n → isR s T Y.1 = (n + (isR s (T - n) G).1, (isR s (T - n) G).2) → mx_V cX8_ifStepped RX8 6 (some .int) 7 60 [some (.ref 143), some (.int (dr s)), some (.int (nI T)), some (.int z), some (.int (nI n)), c] [] M1 (fun v M' => v = some (.int (if z = 0 then (isR s T Y.1).2.2.2.2 7 - Y.1.2.2.2 7 else if z = nI 1 then (isR s T Y.1).2.2.2.2 6 - Y.1.2.2.2 6 else if (isR s T Y.1).2.2.2.1 4 = 0 then (-4) else nI (isR s T Y.1).1)) ∧ MoA M' Y ∧ Cl M M') := by
  have J89 : ∀ (M1 : mx_M) (n : Nat) (G : FS) (c : Option Value), mx_c1 [c] = true → isR s T Y.1 = (n, G) → n ≤ 30 → MF M1 G → FV G → Oc M M1 → (∀ j, j < 333 → M1 145 j = M 144 j) → mx_V cX8_ifStepped RX8 6 (some .int) 7 89 [some (.ref 143), some (.int (dr s)), some (.int (nI T)), some (.int z), some (.int (nI n)), c] [] M1 (fun v M' => v = some (.int (if z = 0 then (isR s T Y.1).2.2.2.2 7 - Y.1.2.2.2 7 else if z = nI 1 then (isR s T Y.1).2.2.2.2 6 - Y.1.2.2.2 6 else if (isR s T Y.1).2.2.2.1 4 = 0 then (-4) else nI (isR s T Y.1).1)) ∧ MoA M' Y ∧ Cl M M') := by
    intro M1 n G c hz hr hn hF hV hO h145
    rw [hr]
    have h4 := hV.2.2.2.1
    have a14 : M1 145 14 = Y.1.2.2.2 7 := (h145 14 (by decide)).trans (hC.1.ac 7 (by decide))
    have a13 : M1 145 13 = Y.1.2.2.2 6 := (h145 13 (by decide)).trans (hC.1.ac 6 (by decide))
    refine mx_iload_n (pc' := 90) dX8_ifStepped_89 rfl rfl ?_
    refine mx_if_ne (tgt := 111) (pc' := 93) dX8_ifStepped_90 (by decide) rfl (fun c90 => ?_) (fun c90 => ?_)
    · refine mx_iload_n (pc' := 112) dX8_ifStepped_111 rfl rfl ?_
      refine mx_iconst (pc' := 113) (v := nI 1) dX8_ifStepped_112 (by decide) rfl ?_
      refine mx_icmp_ne (tgt := 134) (pc' := 116) dX8_ifStepped_113 (by decide) rfl (fun c113 => ?_) (fun c113 => ?_)
      · refine mx_aload_n (pc' := 135) dX8_ifStepped_134 rfl rfl ?_
        refine mx_getr (pc' := 138) dX8_ifStepped_135 fl_X8_7 (rfl) (by rfl) rfl ?_
        refine mx_bipush (pc' := 140) (v := nI 6) dX8_ifStepped_138 (by decide) rfl ?_
        refine mx_iald (pc' := 141) (v := nI (G.2.2.1 4)) dX8_ifStepped_140 (rfl) (rfl) (by decide) (hF.sc 4 (by decide)) rfl ?_
        refine mx_iconst (pc' := 142) (v := nI 1) dX8_ifStepped_141 (by decide) rfl ?_
        refine mx_icmp_ne (tgt := 150) (pc' := 145) dX8_ifStepped_142 (by decide) rfl (fun c142 => ?_) (fun c142 => ?_)
        · have c142 : G.2.2.1 4 = 0 := by
            have : ¬ G.2.2.1 4 = 1 := fun z => c142 (by rw [z])
            omega
          refine mx_bipush (pc' := 152) (v := (-4)) dX8_ifStepped_150 (by decide) rfl ?_
          refine mx_istore (pc' := 154) (ls' := [_, _, _, _, _, _]) dX8_ifStepped_152 (by decide) (by simpa [mx_c1, Value.category] using hz) rfl rfl ?_
          refine mx_aload_n (pc' := 155) dX8_ifStepped_154 rfl rfl ?_
          refine mx_getr (pc' := 158) dX8_ifStepped_155 fl_X8_13 (rfl) (by rfl) rfl ?_
          refine mx_iconst (pc' := 159) (v := nI 0) dX8_ifStepped_158 (by decide) rfl ?_
          refine mx_aload_n (pc' := 160) dX8_ifStepped_159 rfl rfl ?_
          refine mx_getr (pc' := 163) dX8_ifStepped_160 fl_X8_7 (rfl) (by rfl) rfl ?_
          refine mx_iconst (pc' := 164) (v := nI 0) dX8_ifStepped_163 (by decide) rfl ?_
          refine mx_callS (pc' := 167) dX8_ifStepped_164 cl_X8_45 (t_X8_copies M1 145 144 0 0 333 333 rfl rfl (by decide) (by decide) (by decide)) rfl (by decide) rfl (Nat.le_of_ble_eq_true rfl) rfl (fun v N164 hv => ?_)
          obtain ⟨rfl, hO2, hj⟩ := hv
          have hO3 : Oc M N164 := hO.tr fun q a b c d => hO2 q (by omega)
          have hC3 : MoA N164 Y := hO3.mo hC (fun j h => by rw [hj, if_pos (by omega), ← h145 j h]; congr 1; omega)
          refine mx_iload (pc' := 169) dX8_ifStepped_167 rfl rfl ?_
          refine mx_iret dX8_ifStepped_169 (Or.inl rfl) ?_
          exact ⟨by rw [if_neg c90, if_neg c113, if_pos c142], hC3, hO3.cl⟩
        · have c142 : ¬ G.2.2.1 4 = 0 := by
            have : G.2.2.1 4 = 1 := (nI_eq (by omega) (by omega)).mp c142
            omega
          refine mx_iload (pc' := 147) dX8_ifStepped_145 rfl rfl ?_
          refine mx_goto (pc' := 152) dX8_ifStepped_147 (by decide) ?_
          refine mx_istore (pc' := 154) (ls' := [_, _, _, _, _, _]) dX8_ifStepped_152 (by decide) (by simpa [mx_c1, Value.category] using hz) rfl rfl ?_
          refine mx_aload_n (pc' := 155) dX8_ifStepped_154 rfl rfl ?_
          refine mx_getr (pc' := 158) dX8_ifStepped_155 fl_X8_13 (rfl) (by rfl) rfl ?_
          refine mx_iconst (pc' := 159) (v := nI 0) dX8_ifStepped_158 (by decide) rfl ?_
          refine mx_aload_n (pc' := 160) dX8_ifStepped_159 rfl rfl ?_
          refine mx_getr (pc' := 163) dX8_ifStepped_160 fl_X8_7 (rfl) (by rfl) rfl ?_
          refine mx_iconst (pc' := 164) (v := nI 0) dX8_ifStepped_163 (by decide) rfl ?_
          refine mx_callS (pc' := 167) dX8_ifStepped_164 cl_X8_45 (t_X8_copies M1 145 144 0 0 333 333 rfl rfl (by decide) (by decide) (by decide)) rfl (by decide) rfl (Nat.le_of_ble_eq_true rfl) rfl (fun v N164 hv => ?_)
          obtain ⟨rfl, hO2, hj⟩ := hv
          have hO3 : Oc M N164 := hO.tr fun q a b c d => hO2 q (by omega)
          have hC3 : MoA N164 Y := hO3.mo hC (fun j h => by rw [hj, if_pos (by omega), ← h145 j h]; congr 1; omega)
          refine mx_iload (pc' := 169) dX8_ifStepped_167 rfl rfl ?_
          refine mx_iret dX8_ifStepped_169 (Or.inl rfl) ?_
          exact ⟨by rw [if_neg c90, if_neg c113, if_neg c142], hC3, hO3.cl⟩
      · refine mx_aload_n (pc' := 117) dX8_ifStepped_116 rfl rfl ?_
        refine mx_getr (pc' := 120) dX8_ifStepped_117 fl_X8_7 (rfl) (by rfl) rfl ?_
        refine mx_bipush (pc' := 122) (v := nI 13) dX8_ifStepped_120 (by decide) rfl ?_
        refine mx_iald (pc' := 123) (v := G.2.2.2 6) dX8_ifStepped_122 (rfl) (rfl) (by decide) (hF.ac 6 (by decide)) rfl ?_
        refine mx_aload_n (pc' := 124) dX8_ifStepped_123 rfl rfl ?_
        refine mx_getr (pc' := 127) dX8_ifStepped_124 fl_X8_13 (rfl) (by rfl) rfl ?_
        refine mx_bipush (pc' := 129) (v := nI 13) dX8_ifStepped_127 (by decide) rfl ?_
        refine mx_iald (pc' := 130) (v := Y.1.2.2.2 6) dX8_ifStepped_129 (rfl) (rfl) (by decide) (a13) rfl ?_
        refine mx_isub (pc' := 131) dX8_ifStepped_130 (rfl) rfl ?_
        refine mx_goto (pc' := 152) dX8_ifStepped_131 (by decide) ?_
        refine mx_istore (pc' := 154) (ls' := [_, _, _, _, _, _]) dX8_ifStepped_152 (by decide) (by simpa [mx_c1, Value.category] using hz) rfl rfl ?_
        refine mx_aload_n (pc' := 155) dX8_ifStepped_154 rfl rfl ?_
        refine mx_getr (pc' := 158) dX8_ifStepped_155 fl_X8_13 (rfl) (by rfl) rfl ?_
        refine mx_iconst (pc' := 159) (v := nI 0) dX8_ifStepped_158 (by decide) rfl ?_
        refine mx_aload_n (pc' := 160) dX8_ifStepped_159 rfl rfl ?_
        refine mx_getr (pc' := 163) dX8_ifStepped_160 fl_X8_7 (rfl) (by rfl) rfl ?_
        refine mx_iconst (pc' := 164) (v := nI 0) dX8_ifStepped_163 (by decide) rfl ?_
        refine mx_callS (pc' := 167) dX8_ifStepped_164 cl_X8_45 (t_X8_copies M1 145 144 0 0 333 333 rfl rfl (by decide) (by decide) (by decide)) rfl (by decide) rfl (Nat.le_of_ble_eq_true rfl) rfl (fun v N164 hv => ?_)
        obtain ⟨rfl, hO2, hj⟩ := hv
        have hO3 : Oc M N164 := hO.tr fun q a b c d => hO2 q (by omega)
        have hC3 : MoA N164 Y := hO3.mo hC (fun j h => by rw [hj, if_pos (by omega), ← h145 j h]; congr 1; omega)
        refine mx_iload (pc' := 169) dX8_ifStepped_167 rfl rfl ?_
        refine mx_iret dX8_ifStepped_169 (Or.inl rfl) ?_
        exact ⟨by rw [if_neg c90, if_pos c113], hC3, hO3.cl⟩
    · refine mx_aload_n (pc' := 94) dX8_ifStepped_93 rfl rfl ?_
      refine mx_getr (pc' := 97) dX8_ifStepped_94 fl_X8_7 (rfl) (by rfl) rfl ?_
      refine mx_bipush (pc' := 99) (v := nI 14) dX8_ifStepped_97 (by decide) rfl ?_
      refine mx_iald (pc' := 100) (v := G.2.2.2 7) dX8_ifStepped_99 (rfl) (rfl) (by decide) (hF.ac 7 (by decide)) rfl ?_
      refine mx_aload_n (pc' := 101) dX8_ifStepped_100 rfl rfl ?_
      refine mx_getr (pc' := 104) dX8_ifStepped_101 fl_X8_13 (rfl) (by rfl) rfl ?_
      refine mx_bipush (pc' := 106) (v := nI 14) dX8_ifStepped_104 (by decide) rfl ?_
      refine mx_iald (pc' := 107) (v := Y.1.2.2.2 7) dX8_ifStepped_106 (rfl) (rfl) (by decide) (a14) rfl ?_
      refine mx_isub (pc' := 108) dX8_ifStepped_107 (rfl) rfl ?_
      refine mx_goto (pc' := 152) dX8_ifStepped_108 (by decide) ?_
      refine mx_istore (pc' := 154) (ls' := [_, _, _, _, _, _]) dX8_ifStepped_152 (by decide) (by simpa [mx_c1, Value.category] using hz) rfl rfl ?_
      refine mx_aload_n (pc' := 155) dX8_ifStepped_154 rfl rfl ?_
      refine mx_getr (pc' := 158) dX8_ifStepped_155 fl_X8_13 (rfl) (by rfl) rfl ?_
      refine mx_iconst (pc' := 159) (v := nI 0) dX8_ifStepped_158 (by decide) rfl ?_
      refine mx_aload_n (pc' := 160) dX8_ifStepped_159 rfl rfl ?_
      refine mx_getr (pc' := 163) dX8_ifStepped_160 fl_X8_7 (rfl) (by rfl) rfl ?_
      refine mx_iconst (pc' := 164) (v := nI 0) dX8_ifStepped_163 (by decide) rfl ?_
      refine mx_callS (pc' := 167) dX8_ifStepped_164 cl_X8_45 (t_X8_copies M1 145 144 0 0 333 333 rfl rfl (by decide) (by decide) (by decide)) rfl (by decide) rfl (Nat.le_of_ble_eq_true rfl) rfl (fun v N164 hv => ?_)
      obtain ⟨rfl, hO2, hj⟩ := hv
      have hO3 : Oc M N164 := hO.tr fun q a b c d => hO2 q (by omega)
      have hC3 : MoA N164 Y := hO3.mo hC (fun j h => by rw [hj, if_pos (by omega), ← h145 j h]; congr 1; omega)
      refine mx_iload (pc' := 169) dX8_ifStepped_167 rfl rfl ?_
      refine mx_iret dX8_ifStepped_169 (Or.inl rfl) ?_
      exact ⟨by rw [if_pos c90], hC3, hO3.cl⟩
  intro k
  induction k with
  | zero =>
    intro n M1 G c hcz hk hi hO h145 hF hV hg hr
    exact absurd hk (by omega)
  | succ k ih =>
    intro n M1 G c hcz hk hi hO h145 hF hV hg hr
    refine mx_iload (pc' := 62) dX8_ifStepped_60 rfl rfl ?_
    refine mx_iload_n (pc' := 63) dX8_ifStepped_62 rfl rfl ?_
    refine mx_icmp_ge (tgt := 89) (pc' := 66) dX8_ifStepped_63 (by decide) rfl (fun c63 => ?_) (fun c63 => ?_)
    · have c63 := (nI_leI (by omega) (by omega)).mp c63
      rw [show T - n = 0 by omega] at hr
      exact J89 M1 n G c hcz hr (by omega) hF hV hO h145
    · have c63 := Nat.not_le.mp (fun z => c63 ((nI_leI (by omega) (by omega)).mpr z))
      have h4 := hV.2.2.2.1
      refine mx_aload_n (pc' := 67) dX8_ifStepped_66 rfl rfl ?_
      refine mx_getr (pc' := 70) dX8_ifStepped_67 fl_X8_7 (rfl) (by rfl) rfl ?_
      refine mx_bipush (pc' := 72) (v := nI 6) dX8_ifStepped_70 (by decide) rfl ?_
      refine mx_iald (pc' := 73) (v := nI (G.2.2.1 4)) dX8_ifStepped_72 (rfl) (rfl) (by decide) (hF.sc 4 (by decide)) rfl ?_
      refine mx_if_ne (tgt := 89) (pc' := 76) dX8_ifStepped_73 (by decide) rfl (fun c73 => ?_) (fun c73 => ?_)
      · have c73 : ¬ G.2.2.1 4 = 0 := fun z => c73 (by rw [z]; rfl)
        rw [show T - n = (T - (n + 1)) + 1 by omega, show isR s ((T - (n + 1)) + 1) G = (0, G) from if_neg c73] at hr
        exact J89 M1 n G c hcz hr (by omega) hF hV hO h145
      · have c73 : G.2.2.1 4 = 0 := (nI_eq (a := G.2.2.1 4) (b := 0) (by omega) (by omega)).mp c73
        rw [show T - n = (T - (n + 1)) + 1 by omega, show isR s ((T - (n + 1)) + 1) G = ((isR s (T - (n + 1)) (fPass s G).2).1 + 1, (isR s (T - (n + 1)) (fPass s G).2).2) from if_pos c73] at hr
        refine mx_aload_n (pc' := 77) dX8_ifStepped_76 rfl rfl ?_
        refine mx_iload_n (pc' := 78) dX8_ifStepped_77 rfl rfl ?_
        refine mx_callV (pc' := 81) dX8_ifStepped_78 cl_X8_105 (rfl) (t_X8_goTick M1 G hF hV c73 (by omega) s hs) rfl (by decide) rfl (Nat.le_of_ble_eq_true rfl) rfl (fun v N78 hv => ?_)
        obtain ⟨rfl, hF2, hO2⟩ := hv
        refine mx_istore (pc' := 83) (ls' := [_, _, _, _, _, _]) dX8_ifStepped_81 (by decide) (by simpa [mx_c1, Value.category] using hcz) rfl rfl ?_
        refine mx_iinc (pc' := 86) (ls' := [_, _, _, _, _, _]) (v := nI (n + 1)) dX8_ifStepped_83 rfl (nI_add n 1) (by decide) (rfl) rfl rfl ?_
        refine mx_goto (pc' := 60) dX8_ifStepped_86 (by decide) ?_
        exact ih (n + 1) N78 _ _ rfl (by omega) (by omega) (hO.tr hO2.oc) (fun j h => by rw [hO2 145 (by decide) (by decide)]; exact h145 j h) hF2 (hV.pass s) (by rw [fPass_t]; omega) (by rw [hr]; congr 1; dsimp only; omega)

set_option maxHeartbeats 1000000 in
set_option maxRecDepth 10000 in
theorem t_X8_ifStepped (M : mx_M) (Y : Sy) (hC : MoA M Y) (ht : Y.1.2.2.1 3 + 100 < 2147483648) (x y z : Int32) : mx_T yX8_ifStepped cX8_ifStepped 6 (some .int) 7 [.ref 143, .int x, .int y, .int z] M (fun v M' => v = some (.int (oIfStepped x y z Y)) ∧ MoA M' Y ∧ Cl M M') := by
  refine mx_T.of1 (own := RX8) (ls := [some (.ref 143), some (.int x), some (.int y), some (.int z), none, none]) (by decide +kernel) rfl (Nat.le_of_ble_eq_true rfl) rfl rfl ?_
  refine mx_iload_n (pc' := 1) dX8_ifStepped_0 rfl rfl ?_
  refine mx_iconst (pc' := 2) (v := (-1)) dX8_ifStepped_1 (by decide) rfl ?_
  refine mx_iconst (pc' := 3) (v := nI 1) dX8_ifStepped_2 (by decide) rfl ?_
  refine mx_callS (pc' := 6) dX8_ifStepped_3 cl_X8_49 (t_X8_in M x (-1) (nI 1)) rfl (by decide) rfl (Nat.le_of_ble_eq_true rfl) rfl (fun v N3 hv => ?_)
  obtain ⟨rfl, hv⟩ := hv
  rw [hv]
  refine mx_if_eq (tgt := 28) (pc' := 9) dX8_ifStepped_6 (by decide) rfl (fun c6 => ?_) (fun c6 => ?_)
  · have c6 : ¬ ((-1) ≤ x ∧ x ≤ nI 1) := bI_0.mp c6
    refine mx_iconst (pc' := 29) (v := (-1)) dX8_ifStepped_28 (by decide) rfl ?_
    refine mx_iret dX8_ifStepped_29 (Or.inl rfl) ?_
    have e : oIfStepped x y z Y = (-1) := if_neg (fun w => c6 w.1)
    rw [e]
    exact ⟨rfl, hC, Cl.rf⟩
  · have c6 := bI_n.mp c6
    refine mx_iload_n (pc' := 10) dX8_ifStepped_9 rfl rfl ?_
    refine mx_iconst (pc' := 11) (v := nI 1) dX8_ifStepped_10 (by decide) rfl ?_
    refine mx_bipush (pc' := 13) (v := nI 30) dX8_ifStepped_11 (by decide) rfl ?_
    refine mx_callS (pc' := 16) dX8_ifStepped_13 cl_X8_49 (t_X8_in M y (nI 1) (nI 30)) rfl (by decide) rfl (Nat.le_of_ble_eq_true rfl) rfl (fun v N13 hv => ?_)
    obtain ⟨rfl, hv⟩ := hv
    rw [hv]
    refine mx_if_eq (tgt := 28) (pc' := 19) dX8_ifStepped_16 (by decide) rfl (fun c16 => ?_) (fun c16 => ?_)
    · have c16 : ¬ (nI 1 ≤ y ∧ y ≤ nI 30) := bI_0.mp c16
      refine mx_iconst (pc' := 29) (v := (-1)) dX8_ifStepped_28 (by decide) rfl ?_
      refine mx_iret dX8_ifStepped_29 (Or.inl rfl) ?_
      have e : oIfStepped x y z Y = (-1) := if_neg (fun w => c16 w.2.1)
      rw [e]
      exact ⟨rfl, hC, Cl.rf⟩
    · have c16 := bI_n.mp c16
      refine mx_iload_n (pc' := 20) dX8_ifStepped_19 rfl rfl ?_
      refine mx_iconst (pc' := 21) (v := nI 0) dX8_ifStepped_20 (by decide) rfl ?_
      refine mx_iconst (pc' := 22) (v := nI 2) dX8_ifStepped_21 (by decide) rfl ?_
      refine mx_callS (pc' := 25) dX8_ifStepped_22 cl_X8_49 (t_X8_in M z (nI 0) (nI 2)) rfl (by decide) rfl (Nat.le_of_ble_eq_true rfl) rfl (fun v N22 hv => ?_)
      obtain ⟨rfl, hv⟩ := hv
      rw [hv]
      refine mx_if_ne (tgt := 30) (pc' := 28) dX8_ifStepped_25 (by decide) rfl (fun c25 => ?_) (fun c25 => ?_)
      · have c25 := bI_n.mp c25
        have h4 := hC.2.1.2.2.2.1
        have ea : oIfStepped x y z Y = (if Y.1.2.2.1 4 = 0 then (if z = 0 then (isR (tN (x + nI 1)) (tN y) Y.1).2.2.2.2 7 - Y.1.2.2.2 7 else if z = nI 1 then (isR (tN (x + nI 1)) (tN y) Y.1).2.2.2.2 6 - Y.1.2.2.2 6 else if (isR (tN (x + nI 1)) (tN y) Y.1).2.2.2.1 4 = 0 then (-4) else nI (isR (tN (x + nI 1)) (tN y) Y.1).1) else (-2)) := if_pos ⟨c6, c16, c25⟩
        rw [ea]
        obtain ⟨s, hs, rfl⟩ := st_of c6.1 c6.2
        obtain ⟨T, hT1, hT, rfl⟩ := ge_of2 c16.1 c16.2 (by decide) (by decide)
        rw [tN_n (by omega), tN_d s hs]
        refine mx_aload_n (pc' := 31) dX8_ifStepped_30 rfl rfl ?_
        refine mx_getr (pc' := 34) dX8_ifStepped_31 fl_X8_7 (rfl) (by rfl) rfl ?_
        refine mx_bipush (pc' := 36) (v := nI 6) dX8_ifStepped_34 (by decide) rfl ?_
        refine mx_iald (pc' := 37) (v := nI (Y.1.2.2.1 4)) dX8_ifStepped_36 (rfl) (rfl) (by decide) (hC.1.sc 4 (by decide)) rfl ?_
        refine mx_iconst (pc' := 38) (v := nI 1) dX8_ifStepped_37 (by decide) rfl ?_
        refine mx_icmp_ne (tgt := 44) (pc' := 41) dX8_ifStepped_38 (by decide) rfl (fun c38 => ?_) (fun c38 => ?_)
        · have c38 : Y.1.2.2.1 4 = 0 := by
            have : ¬ Y.1.2.2.1 4 = 1 := fun w => c38 (by rw [w])
            omega
          rw [if_pos c38]
          refine mx_aload_n (pc' := 45) dX8_ifStepped_44 rfl rfl ?_
          refine mx_getr (pc' := 48) dX8_ifStepped_45 fl_X8_7 (rfl) (by rfl) rfl ?_
          refine mx_iconst (pc' := 49) (v := nI 0) dX8_ifStepped_48 (by decide) rfl ?_
          refine mx_aload_n (pc' := 50) dX8_ifStepped_49 rfl rfl ?_
          refine mx_getr (pc' := 53) dX8_ifStepped_50 fl_X8_13 (rfl) (by rfl) rfl ?_
          refine mx_iconst (pc' := 54) (v := nI 0) dX8_ifStepped_53 (by decide) rfl ?_
          refine mx_callS (pc' := 57) dX8_ifStepped_54 cl_X8_45 (t_X8_copies M 144 145 0 0 333 333 rfl rfl (by decide) (by decide) (by decide)) rfl (by decide) rfl (Nat.le_of_ble_eq_true rfl) rfl (fun v N54 hv => ?_)
          obtain ⟨rfl, hO2, hj⟩ := hv
          refine mx_iconst (pc' := 58) (v := nI 0) dX8_ifStepped_57 (by decide) rfl ?_
          refine mx_istore (pc' := 60) (ls' := [_, _, _, _, _, _]) dX8_ifStepped_58 (by decide) (rfl) rfl rfl ?_
          exact l_X8_ifStepped M Y hC ht T hT s hs z (T + 1) 0 N54 Y.1 none rfl (by omega) (by omega) (fun q a b c d => hO2 q (by omega)) (fun j h => by rw [hj, if_pos (by omega)]; congr 1; omega) (hC.1.fr (hO2 144 (by omega))) hC.2.1 (Nat.le_add_right _ _) (by rw [Nat.sub_zero, Nat.zero_add])
        · have c38 : ¬ Y.1.2.2.1 4 = 0 := by
            have : Y.1.2.2.1 4 = 1 := (nI_eq (by omega) (by omega)).mp c38
            omega
          rw [if_neg c38]
          refine mx_bipush (pc' := 43) (v := (-2)) dX8_ifStepped_41 (by decide) rfl ?_
          refine mx_iret dX8_ifStepped_43 (Or.inl rfl) ?_
          exact ⟨rfl, hC, Cl.rf⟩
      · have c25 : ¬ (nI 0 ≤ z ∧ z ≤ nI 2) := bI_0.mp c25
        refine mx_iconst (pc' := 29) (v := (-1)) dX8_ifStepped_28 (by decide) rfl ?_
        refine mx_iret dX8_ifStepped_29 (Or.inl rfl) ?_
        have e : oIfStepped x y z Y = (-1) := if_neg (fun w => c25 w.2.2)
        rw [e]
        exact ⟨rfl, hC, Cl.rf⟩

theorem cl_d175 : Cond.constantDouble RX8 175 13830554455654793216 ∈ mx_TW := mx_in 979 (by decide +kernel) (by decide +kernel)
set_option maxHeartbeats 1000000 in
set_option maxRecDepth 10000 in
theorem t_X8_openness (M : mx_M) (Y : Sy) (hC : MoA M Y) (ht : Y.1.2.2.1 3 + 100 < 2147483648) (x : Int32) : mx_T yX8_openness cX8_openness 2 (some .double) 8 [.ref 143, .int x] M (fun v M' => v = some (.double (oOpenness x Y)) ∧ MoA M' Y ∧ Cl M M') := by
  refine mx_T.of1 (own := RX8) (ls := [some (.ref 143), some (.int x)]) (by decide +kernel) rfl (Nat.le_of_ble_eq_true rfl) rfl rfl ?_
  refine mx_iload_n (pc' := 1) dX8_openness_0 rfl rfl ?_
  refine mx_iconst (pc' := 2) (v := nI 1) dX8_openness_1 (by decide) rfl ?_
  refine mx_bipush (pc' := 4) (v := nI 30) dX8_openness_2 (by decide) rfl ?_
  refine mx_callS (pc' := 7) dX8_openness_4 cl_X8_49 (t_X8_in M x (nI 1) (nI 30)) rfl (by decide) rfl (Nat.le_of_ble_eq_true rfl) rfl (fun v N4 hv => ?_)
  obtain ⟨rfl, hv⟩ := hv
  rw [hv]
  refine mx_if_eq (tgt := 27) (pc' := 10) dX8_openness_7 (by decide) rfl (fun c7 => ?_) (fun c7 => ?_)
  · have c7 : ¬ (nI 1 ≤ x ∧ x ≤ nI 30) := bI_0.mp c7
    refine mx_ldc2d (pc' := 30) dX8_openness_27 (cl_d175) rfl ?_
    refine mx_dret dX8_openness_30 rfl ?_
    exact ⟨congrArg (fun z => some (Value.double z)) (show oOpenness x Y = _ from if_neg c7).symm, hC, Cl.rf⟩
  · have c7 := bI_n.mp c7
    have ea : oOpenness x Y = FP.ddiv (FP.i2d (nI (sumG (fFr Y.1) (tN x)))) (FP.i2d (nI 10 * x)) := if_pos c7
    rw [ea]
    obtain ⟨T, hT1, hT, rfl⟩ := ge_of2 c7.1 c7.2 (by decide) (by decide)
    rw [tN_n (by omega)]
    refine mx_aload_n (pc' := 11) dX8_openness_10 rfl rfl ?_
    refine mx_iload_n (pc' := 12) dX8_openness_11 rfl rfl ?_
    refine mx_bipush (pc' := 14) (v := (-4)) dX8_openness_12 (by decide) rfl ?_
    refine mx_callV (pc' := 17) dX8_openness_14 cl_X8_172 (rfl) (t_X8_opens M Y hC (-4) Y.1 FcP.n ht T hT) rfl (by decide) rfl (Nat.le_of_ble_eq_true rfl) rfl (fun v N14 hv => ?_)
    obtain ⟨rfl, hC2, hM⟩ := hv
    have hle := sumG_le (fFr Y.1) T
    refine mx_i2d (pc' := 18) dX8_openness_17 rfl ?_
    refine mx_bipush (pc' := 20) (v := nI 10) dX8_openness_18 (by decide) rfl ?_
    refine mx_iload_n (pc' := 21) dX8_openness_20 rfl rfl ?_
    refine mx_imul (pc' := 22) dX8_openness_21 (rfl) rfl ?_
    refine mx_i2d (pc' := 23) dX8_openness_22 rfl ?_
    refine mx_ddiv (pc' := 24) dX8_openness_23 (nan_1 _ (by omega) T (by omega) hT1) rfl ?_
    refine mx_goto (pc' := 30) dX8_openness_24 (by decide) ?_
    refine mx_dret dX8_openness_30 rfl ?_
    exact ⟨rfl, hC2, hM⟩

