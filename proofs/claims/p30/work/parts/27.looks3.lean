theorem shl_1 {f s : Nat} (hf : f < 10000) (hs : s < 10000) : nI f ≤ dr s ↔ f + 1 ≤ s := by
  unfold dr
  rw [Int32.le_iff_toInt_le, nI_t f (by omega), pk_sub_toInt (a := s) (b := 1) (by omega) (by omega)]
  omega
theorem shS_le {F : FS} {T : Nat} (hT : T ≤ 30) {s : Nat × Nat} (h : s.2 ≤ 301) (e : Nat) : (shS F T s e).2 ≤ 301 := by
  have := sumG_le (fFr (drE e F)) T
  unfold shS; split
  · dsimp only; omega
  · exact h
set_option maxHeartbeats 1000000 in
set_option maxRecDepth 10000 in
theorem l_X7_shuts (M : mx_M) (Y : Sy) (hC : CoA M Y) (ht : Y.1.2.2.1 3 + 100 < 2147483648) (T : Nat) (hT : T ≤ 30) (hT1 : 1 ≤ T) (R : Nat) : ∀ (k : Nat) (e : Nat) (M1 : mx_M) (s : Nat × Nat) (z : Option Value), mx_c1 [z] = true → Y.1.1.length < e + k → e ≤ Y.1.1.length → CoA M1 Y → Mo M M1 → s.2 ≤ 301 → s.1 < 10 → ((List.range' e (Y.1.1.length - e)).foldl (shS Y.1 T) s).1 = R → mx_V cX7_shuts RX7 6 (some .int) 6 32 [some (.ref 0), some (.int (nI T)), some (.int (nI s.1)), some (.int (dr s.2)), some (.int (nI e)), z] [] M1 (fun v M' => v = some (.int (nI R)) ∧ CoA M' Y ∧ Mo M M') := by
  have h4 := hC.1.1.2.1.1
  intro k
  induction k with
  | zero =>
    intro e M1 s z hz hk hi hC1 hM1 hs hs1 hR
    exact absurd hk (by omega)
  | succ k ih =>
    intro e M1 s z hz hk hi hC1 hM1 hs hs1 hR
    refine mx_iload (pc' := 34) dX7_shuts_32 rfl rfl ?_
    refine mx_aload_n (pc' := 35) dX7_shuts_34 rfl rfl ?_
    refine mx_getr (pc' := 38) dX7_shuts_35 fl_X7_10 (rfl) (by rfl) rfl ?_
    refine mx_getr (pc' := 41) dX7_shuts_38 fl_X7_64 (rfl) (by rfl) rfl ?_
    refine mx_getf (pc' := 44) (v := nI Y.1.1.length) dX7_shuts_41 fl_X7_82 (rfl) (by rfl) (hC1.1.1.1) rfl ?_
    refine mx_icmp_ge (tgt := 110) (pc' := 47) dX7_shuts_44 (by decide) rfl (fun c44 => ?_) (fun c44 => ?_)
    · have c44 := (nI_leI (by omega) (by omega)).mp c44
      rw [show Y.1.1.length - e = 0 by omega] at hR
      have hR : s.1 = R := hR
      refine mx_iload_n (pc' := 111) dX7_shuts_110 rfl rfl ?_
      refine mx_iret dX7_shuts_111 (Or.inl rfl) ?_
      exact ⟨by rw [hR], hC1, hM1⟩
    · have c44 := Nat.not_le.mp (fun z => c44 ((nI_leI (by omega) (by omega)).mpr z))
      refine mx_aload_n (pc' := 48) dX7_shuts_47 rfl rfl ?_
      refine mx_getr (pc' := 51) dX7_shuts_48 fl_X7_16 (rfl) (by rfl) rfl ?_
      refine mx_aload_n (pc' := 52) dX7_shuts_51 rfl rfl ?_
      refine mx_getr (pc' := 55) dX7_shuts_52 fl_X7_10 (rfl) (by rfl) rfl ?_
      refine mx_callV (pc' := 58) dX7_shuts_55 cl_X7_236 (rfl) (t_X3_copyFrom M1 15 1 (Or.inr (Or.inl rfl)) (Or.inl rfl) (by decide) Y.1 hC1.1 hC1.2.1) rfl (by decide) rfl (Nat.le_of_ble_eq_true rfl) rfl (fun v N55 hv => ?_)
      obtain ⟨rfl, hF2, hO⟩ := hv
      refine mx_aload_n (pc' := 59) dX7_shuts_58 rfl rfl ?_
      refine mx_getr (pc' := 62) dX7_shuts_59 fl_X7_16 (rfl) (by rfl) rfl ?_
      refine mx_getr (pc' := 65) dX7_shuts_62 fl_X7_64 (rfl) (by rfl) rfl ?_
      refine mx_iload (pc' := 67) dX7_shuts_65 rfl rfl ?_
      refine mx_callV (pc' := 70) dX7_shuts_67 cl_X7_89 (rfl) (t_X2_remove N55 16 e (FB.s (Or.inr (Or.inl rfl))).2.1 Y.1.1 hF2.1 c44) rfl (by decide) rfl (Nat.le_of_ble_eq_true rfl) rfl (fun v N67 hv => ?_)
      obtain ⟨rfl, hE, hO2⟩ := hv
      have hF3 := hF2.em hE hO2
      refine mx_aload_n (pc' := 71) dX7_shuts_70 rfl rfl ?_
      refine mx_getr (pc' := 74) dX7_shuts_71 fl_X7_50 (rfl) (by rfl) rfl ?_
      refine mx_aload_n (pc' := 75) dX7_shuts_74 rfl rfl ?_
      refine mx_getr (pc' := 78) dX7_shuts_75 fl_X7_16 (rfl) (by rfl) rfl ?_
      refine mx_iload_n (pc' := 79) dX7_shuts_78 rfl rfl ?_
      refine mx_callV (pc' := 82) dX7_shuts_79 cl_X7_238 (rfl) (t_X5_foresee N67 (drE e Y.1) hF3 hC1.2.1 T hT (by show Y.1.2.2.1 3 + 30 < _; omega)) rfl (by decide) rfl (Nat.le_of_ble_eq_true rfl) rfl (fun v N79 hv => ?_)
      obtain ⟨rfl, hL, -, hO3⟩ := hv
      have hO9 : ∀ q, (q < 15 ∨ (29 ≤ q ∧ q ≠ 110)) → N79 q = M1 q := fun q hq => by rw [hO3 q hq, hO2 q (by omega)]; exact hO q (by omega)
      have hC3 : CoA N79 Y := hC1.fr fun q hq => hO9 q (by omega)
      have hM3 : Mo M N79 := hM1.tr fun q hq => hO9 q (by omega)
      have hle := sumG_le (fFr (drE e Y.1)) T
      refine mx_aload_n (pc' := 83) dX7_shuts_82 rfl rfl ?_
      refine mx_getr (pc' := 86) dX7_shuts_83 fl_X7_50 (rfl) (by rfl) rfl ?_
      refine mx_iload_n (pc' := 87) dX7_shuts_86 rfl rfl ?_
      refine mx_callV (pc' := 90) dX7_shuts_87 cl_X7_241 (rfl) (t_X5_sumFree N79 (fFr (drE e Y.1)) T hT hL) rfl (by decide) rfl (Nat.le_of_ble_eq_true rfl) rfl (fun v N87 hv => ?_)
      obtain ⟨rfl, hv⟩ := hv
      rw [hv]
      refine mx_istore (pc' := 92) (ls' := [_, _, _, _, _, _]) dX7_shuts_90 (by decide) (by simpa [mx_c1, Value.category] using hz) rfl rfl ?_
      refine mx_iload (pc' := 94) dX7_shuts_92 rfl rfl ?_
      refine mx_iload_n (pc' := 95) dX7_shuts_94 rfl rfl ?_
      refine mx_icmp_le (tgt := 104) (pc' := 98) dX7_shuts_95 (by decide) rfl (fun c95 => ?_) (fun c95 => ?_)
      · have c95 := (shl_1 (by omega) (by omega)).mp c95
        refine mx_iinc (pc' := 107) (ls' := [_, _, _, _, _, _]) (v := nI (e + 1)) dX7_shuts_104 rfl (nI_add e 1) (by decide) (rfl) rfl rfl ?_
        refine mx_goto (pc' := 32) dX7_shuts_107 (by decide) ?_
        rw [show Y.1.1.length - e = (Y.1.1.length - (e + 1)) + 1 by omega, List.range'_succ, List.foldl_cons] at hR
        have e1 : shS Y.1 T s e = s := if_neg (by omega)
        rw [e1] at hR
        exact ih (e + 1) N79 s _ rfl (by omega) (by omega) hC3 hM3 hs hs1 hR
      · have c95 : ¬ _ := fun z => c95 ((shl_1 (by omega) (by omega)).mpr z)
        refine mx_iload (pc' := 100) dX7_shuts_98 rfl rfl ?_
        refine mx_istore_n (pc' := 101) (ls' := [_, _, _, _, _, _]) dX7_shuts_100 (by decide) (rfl) rfl rfl ?_
        refine mx_iload (pc' := 103) dX7_shuts_101 rfl rfl ?_
        refine mx_istore_n (pc' := 104) (ls' := [_, _, _, _, _, _]) dX7_shuts_103 (by decide) (rfl) rfl rfl ?_
        refine mx_iinc (pc' := 107) (ls' := [_, _, _, _, _, _]) (v := nI (e + 1)) dX7_shuts_104 rfl (nI_add e 1) (by decide) (rfl) rfl rfl ?_
        refine mx_goto (pc' := 32) dX7_shuts_107 (by decide) ?_
        rw [show Y.1.1.length - e = (Y.1.1.length - (e + 1)) + 1 by omega, List.range'_succ, List.foldl_cons] at hR
        have e1 : shS Y.1 T s e = (e, sumG (fFr (drE e Y.1)) T + 1) := if_pos (by omega)
        rw [e1] at hR
        rw [show nI (sumG (fFr (drE e Y.1)) T) = dr (sumG (fFr (drE e Y.1)) T + 1) from (dr_s _).symm]
        exact ih (e + 1) N79 (e, sumG (fFr (drE e Y.1)) T + 1) _ rfl (by omega) (by omega) hC3 hM3 (by dsimp only; omega) (by dsimp only; omega) hR

set_option maxHeartbeats 1000000 in
set_option maxRecDepth 10000 in
theorem t_X7_shuts (M : mx_M) (Y : Sy) (hC : CoA M Y) (ht : Y.1.2.2.1 3 + 100 < 2147483648) (x : Int32) : mx_T yX7_shuts cX7_shuts 6 (some .int) 6 [.ref 0, .int x] M (fun v M' => v = some (.int (oShuts x Y)) ∧ CoA M' Y ∧ Mo M M') := by
  refine mx_T.of1 (own := RX7) (ls := [some (.ref 0), some (.int x), none, none, none, none]) (by decide +kernel) rfl (Nat.le_of_ble_eq_true rfl) rfl rfl ?_
  refine mx_iload_n (pc' := 1) dX7_shuts_0 rfl rfl ?_
  refine mx_callS (pc' := 4) dX7_shuts_1 cl_X7_217 (t_X7_isSpan M x) rfl (by decide) rfl (Nat.le_of_ble_eq_true rfl) rfl (fun v N1 hv => ?_)
  obtain ⟨rfl, hv⟩ := hv
  rw [hv]
  refine mx_if_ne (tgt := 9) (pc' := 7) dX7_shuts_4 (by decide) rfl (fun c4 => ?_) (fun c4 => ?_)
  · have c4 := bI_n.mp c4
    have h4 := hC.1.1.2.1.1
    have ea : oShuts x Y = (if Y.1.1.length = 0 then (-2) else nI ((List.range' 0 Y.1.1.length).foldl (shS Y.1 (tN x)) (0, 0)).1) := if_pos c4
    rw [ea]
    obtain ⟨T, hT1, hT, rfl⟩ := ge_of2 c4.1 c4.2 (by decide) (by decide)
    rw [tN_n (by omega)]
    refine mx_aload_n (pc' := 10) dX7_shuts_9 rfl rfl ?_
    refine mx_getr (pc' := 13) dX7_shuts_10 fl_X7_10 (rfl) (by rfl) rfl ?_
    refine mx_getr (pc' := 16) dX7_shuts_13 fl_X7_64 (rfl) (by rfl) rfl ?_
    refine mx_getf (pc' := 19) (v := nI Y.1.1.length) dX7_shuts_16 fl_X7_82 (rfl) (by rfl) (hC.1.1.1) rfl ?_
    refine mx_if_ne (tgt := 25) (pc' := 22) dX7_shuts_19 (by decide) rfl (fun c19 => ?_) (fun c19 => ?_)
    · have c19 : ¬ Y.1.1.length = 0 := fun z => c19 (by rw [z]; rfl)
      rw [if_neg c19]
      refine mx_iconst (pc' := 26) (v := nI 0) dX7_shuts_25 (by decide) rfl ?_
      refine mx_istore_n (pc' := 27) (ls' := [_, _, _, _, _, _]) dX7_shuts_26 (by decide) (rfl) rfl rfl ?_
      refine mx_iconst (pc' := 28) (v := dr 0) dX7_shuts_27 (by decide) rfl ?_
      refine mx_istore_n (pc' := 29) (ls' := [_, _, _, _, _, _]) dX7_shuts_28 (by decide) (rfl) rfl rfl ?_
      refine mx_iconst (pc' := 30) (v := nI 0) dX7_shuts_29 (by decide) rfl ?_
      refine mx_istore (pc' := 32) (ls' := [_, _, _, _, _, _]) dX7_shuts_30 (by decide) (rfl) rfl rfl ?_
      exact l_X7_shuts M Y hC ht T hT hT1 _ (Y.1.1.length + 1) 0 M (0, 0) none rfl (by omega) (by omega) hC Mo.rf (by decide) (by decide) rfl
    · have c19 : Y.1.1.length = 0 := (nI_eq (a := Y.1.1.length) (b := 0) (by omega) (by omega)).mp c19
      rw [if_pos c19]
      refine mx_bipush (pc' := 24) (v := (-2)) dX7_shuts_22 (by decide) rfl ?_
      refine mx_iret dX7_shuts_24 (Or.inl rfl) ?_
      exact ⟨rfl, hC, Mo.rf⟩
  · refine mx_iconst (pc' := 8) (v := (-1)) dX7_shuts_7 (by decide) rfl ?_
    refine mx_iret dX7_shuts_8 (Or.inl rfl) ?_
    exact ⟨congrArg (fun z => some (Value.int z)) (show oShuts x Y = (-1) from if_neg (bI_0.mp c4)).symm, hC, Mo.rf⟩

set_option maxHeartbeats 1000000 in
set_option maxRecDepth 10000 in
theorem l_X7_ifStepped (M : mx_M) (Y : Sy) (hC : CoA M Y) (ht : Y.1.2.2.1 3 + 100 < 2147483648) (T : Nat) (hT : T ≤ 30) (s : Nat) (hs : s < 3) (z : Int32) : ∀ (k : Nat) (n : Nat) (M1 : mx_M) (G : FS), T < n + k → n ≤ T → CoA M1 Y → Mo M M1 → FiA M1 15 G → FV G → G.2.2.1 3 ≤ Y.1.2.2.1 3 + n → isR s T Y.1 = (n + (isR s (T - n) G).1, (isR s (T - n) G).2) → mx_V cX7_ifStepped RX7 5 (some .int) 6 52 [some (.ref 0), some (.int (dr s)), some (.int (nI T)), some (.int z), some (.int (nI n))] [] M1 (fun v M' => v = some (.int (if z = 0 then (isR s T Y.1).2.2.2.2 7 - Y.1.2.2.2 7 else if z = nI 1 then (isR s T Y.1).2.2.2.2 6 - Y.1.2.2.2 6 else if (isR s T Y.1).2.2.2.1 4 = 0 then (-4) else nI (isR s T Y.1).1)) ∧ CoA M' Y ∧ Mo M M') := by
  have J83 : ∀ (M1 : mx_M) (n : Nat) (G : FS), isR s T Y.1 = (n, G) → n ≤ 30 → FiA M1 15 G → FV G → CoA M1 Y → Mo M M1 → mx_V cX7_ifStepped RX7 5 (some .int) 6 83 [some (.ref 0), some (.int (dr s)), some (.int (nI T)), some (.int z), some (.int (nI n))] [] M1 (fun v M' => v = some (.int (if z = 0 then (isR s T Y.1).2.2.2.2 7 - Y.1.2.2.2 7 else if z = nI 1 then (isR s T Y.1).2.2.2.2 6 - Y.1.2.2.2 6 else if (isR s T Y.1).2.2.2.1 4 = 0 then (-4) else nI (isR s T Y.1).1)) ∧ CoA M' Y ∧ Mo M M') := by
    intro M1 n G hr hn hF hV hC1 hM1
    rw [hr]
    have h4 := hV.2.2.2.1
    refine mx_iload_n (pc' := 84) dX7_ifStepped_83 rfl rfl ?_
    refine mx_if_ne (tgt := 109) (pc' := 87) dX7_ifStepped_84 (by decide) rfl (fun c84 => ?_) (fun c84 => ?_)
    · refine mx_iload_n (pc' := 110) dX7_ifStepped_109 rfl rfl ?_
      refine mx_iconst (pc' := 111) (v := nI 1) dX7_ifStepped_110 (by decide) rfl ?_
      refine mx_icmp_ne (tgt := 136) (pc' := 114) dX7_ifStepped_111 (by decide) rfl (fun c111 => ?_) (fun c111 => ?_)
      · refine mx_aload_n (pc' := 137) dX7_ifStepped_136 rfl rfl ?_
        refine mx_getr (pc' := 140) dX7_ifStepped_137 fl_X7_16 (rfl) (by rfl) rfl ?_
        refine mx_getf (pc' := 143) (v := nI (G.2.2.1 4)) dX7_ifStepped_140 fl_X7_96 (rfl) (by rfl) (hF.2.2.1 4 (by decide)) rfl ?_
        refine mx_if_eq (tgt := 151) (pc' := 146) dX7_ifStepped_143 (by decide) rfl (fun c143 => ?_) (fun c143 => ?_)
        · have c143 : G.2.2.1 4 = 0 := (nI_eq (a := G.2.2.1 4) (b := 0) (by omega) (by omega)).mp c143
          refine mx_bipush (pc' := 153) (v := (-4)) dX7_ifStepped_151 (by decide) rfl ?_
          refine mx_iret dX7_ifStepped_153 (Or.inl rfl) ?_
          exact ⟨by rw [if_neg c84, if_neg c111, if_pos c143], hC1, hM1⟩
        · have c143 : ¬ G.2.2.1 4 = 0 := fun z => c143 (by rw [z]; rfl)
          refine mx_iload (pc' := 148) dX7_ifStepped_146 rfl rfl ?_
          refine mx_goto (pc' := 153) dX7_ifStepped_148 (by decide) ?_
          refine mx_iret dX7_ifStepped_153 (Or.inl rfl) ?_
          exact ⟨by rw [if_neg c84, if_neg c111, if_neg c143], hC1, hM1⟩
      · refine mx_aload_n (pc' := 115) dX7_ifStepped_114 rfl rfl ?_
        refine mx_getr (pc' := 118) dX7_ifStepped_115 fl_X7_16 (rfl) (by rfl) rfl ?_
        refine mx_getr (pc' := 121) dX7_ifStepped_118 fl_X7_188 (rfl) (by rfl) rfl ?_
        refine mx_bipush (pc' := 123) (v := nI 6) dX7_ifStepped_121 (by decide) rfl ?_
        refine mx_iald (pc' := 124) (v := G.2.2.2 6) dX7_ifStepped_123 (rfl) (rfl) (by decide) (hF.2.2.2.2 6 (by decide)) rfl ?_
        refine mx_aload_n (pc' := 125) dX7_ifStepped_124 rfl rfl ?_
        refine mx_getr (pc' := 128) dX7_ifStepped_125 fl_X7_10 (rfl) (by rfl) rfl ?_
        refine mx_getr (pc' := 131) dX7_ifStepped_128 fl_X7_188 (rfl) (by rfl) rfl ?_
        refine mx_bipush (pc' := 133) (v := nI 6) dX7_ifStepped_131 (by decide) rfl ?_
        refine mx_iald (pc' := 134) (v := Y.1.2.2.2 6) dX7_ifStepped_133 (rfl) (rfl) (by decide) (hC1.1.2.2.2.2 6 (by decide)) rfl ?_
        refine mx_isub (pc' := 135) dX7_ifStepped_134 (rfl) rfl ?_
        refine mx_iret dX7_ifStepped_135 (Or.inl rfl) ?_
        exact ⟨by rw [if_neg c84, if_pos c111], hC1, hM1⟩
    · refine mx_aload_n (pc' := 88) dX7_ifStepped_87 rfl rfl ?_
      refine mx_getr (pc' := 91) dX7_ifStepped_88 fl_X7_16 (rfl) (by rfl) rfl ?_
      refine mx_getr (pc' := 94) dX7_ifStepped_91 fl_X7_188 (rfl) (by rfl) rfl ?_
      refine mx_bipush (pc' := 96) (v := nI 7) dX7_ifStepped_94 (by decide) rfl ?_
      refine mx_iald (pc' := 97) (v := G.2.2.2 7) dX7_ifStepped_96 (rfl) (rfl) (by decide) (hF.2.2.2.2 7 (by decide)) rfl ?_
      refine mx_aload_n (pc' := 98) dX7_ifStepped_97 rfl rfl ?_
      refine mx_getr (pc' := 101) dX7_ifStepped_98 fl_X7_10 (rfl) (by rfl) rfl ?_
      refine mx_getr (pc' := 104) dX7_ifStepped_101 fl_X7_188 (rfl) (by rfl) rfl ?_
      refine mx_bipush (pc' := 106) (v := nI 7) dX7_ifStepped_104 (by decide) rfl ?_
      refine mx_iald (pc' := 107) (v := Y.1.2.2.2 7) dX7_ifStepped_106 (rfl) (rfl) (by decide) (hC1.1.2.2.2.2 7 (by decide)) rfl ?_
      refine mx_isub (pc' := 108) dX7_ifStepped_107 (rfl) rfl ?_
      refine mx_iret dX7_ifStepped_108 (Or.inl rfl) ?_
      exact ⟨by rw [if_pos c84], hC1, hM1⟩
  intro k
  induction k with
  | zero =>
    intro n M1 G hk hi hC1 hM1 hF hV hg hr
    exact absurd hk (by omega)
  | succ k ih =>
    intro n M1 G hk hi hC1 hM1 hF hV hg hr
    refine mx_iload (pc' := 54) dX7_ifStepped_52 rfl rfl ?_
    refine mx_iload_n (pc' := 55) dX7_ifStepped_54 rfl rfl ?_
    refine mx_icmp_ge (tgt := 83) (pc' := 58) dX7_ifStepped_55 (by decide) rfl (fun c55 => ?_) (fun c55 => ?_)
    · have c55 := (nI_leI (by omega) (by omega)).mp c55
      rw [show T - n = 0 by omega] at hr
      exact J83 M1 n G hr (by omega) hF hV hC1 hM1
    · have c55 := Nat.not_le.mp (fun z => c55 ((nI_leI (by omega) (by omega)).mpr z))
      have h4 := hV.2.2.2.1
      refine mx_aload_n (pc' := 59) dX7_ifStepped_58 rfl rfl ?_
      refine mx_getr (pc' := 62) dX7_ifStepped_59 fl_X7_16 (rfl) (by rfl) rfl ?_
      refine mx_getf (pc' := 65) (v := nI (G.2.2.1 4)) dX7_ifStepped_62 fl_X7_96 (rfl) (by rfl) (hF.2.2.1 4 (by decide)) rfl ?_
      refine mx_if_ne (tgt := 83) (pc' := 68) dX7_ifStepped_65 (by decide) rfl (fun c65 => ?_) (fun c65 => ?_)
      · have c65 : ¬ G.2.2.1 4 = 0 := fun z => c65 (by rw [z]; rfl)
        rw [show T - n = (T - (n + 1)) + 1 by omega, show isR s ((T - (n + 1)) + 1) G = (0, G) from if_neg c65] at hr
        exact J83 M1 n G hr (by omega) hF hV hC1 hM1
      · have c65 : G.2.2.1 4 = 0 := (nI_eq (a := G.2.2.1 4) (b := 0) (by omega) (by omega)).mp c65
        rw [show T - n = (T - (n + 1)) + 1 by omega, show isR s ((T - (n + 1)) + 1) G = ((isR s (T - (n + 1)) (fPass s G).2).1 + 1, (isR s (T - (n + 1)) (fPass s G).2).2) from if_pos c65] at hr
        refine mx_aload_n (pc' := 69) dX7_ifStepped_68 rfl rfl ?_
        refine mx_getr (pc' := 72) dX7_ifStepped_69 fl_X7_16 (rfl) (by rfl) rfl ?_
        refine mx_iload_n (pc' := 73) dX7_ifStepped_72 rfl rfl ?_
        refine mx_callV (pc' := 76) dX7_ifStepped_73 cl_X7_99 (rfl) (t_X3_passTick M1 15 (Or.inr (Or.inl rfl)) G hF hV (by omega) s hs) rfl (by decide) rfl (Nat.le_of_ble_eq_true rfl) rfl (fun v N73 hv => ?_)
        obtain ⟨rfl, hF2, hO⟩ := hv
        refine mx_pop (pc' := 77) dX7_ifStepped_76 rfl rfl ?_
        refine mx_iinc (pc' := 80) (ls' := [_, _, _, _, _]) (v := nI (n + 1)) dX7_ifStepped_77 rfl (nI_add n 1) (by decide) (rfl) rfl rfl ?_
        refine mx_goto (pc' := 52) dX7_ifStepped_80 (by decide) ?_
        exact ih (n + 1) N73 _ (by omega) (by omega) (hC1.fr fun q hq => hO q (by omega)) (hM1.tr (hO.mo (by decide))) hF2 (hV.pass s) (by rw [fPass_t]; omega) (by rw [hr]; congr 1; dsimp only; omega)

set_option maxHeartbeats 1000000 in
set_option maxRecDepth 10000 in
theorem t_X7_ifStepped (M : mx_M) (Y : Sy) (hC : CoA M Y) (ht : Y.1.2.2.1 3 + 100 < 2147483648) (x y z : Int32) : mx_T yX7_ifStepped cX7_ifStepped 5 (some .int) 6 [.ref 0, .int x, .int y, .int z] M (fun v M' => v = some (.int (oIfStepped x y z Y)) ∧ CoA M' Y ∧ Mo M M') := by
  refine mx_T.of1 (own := RX7) (ls := [some (.ref 0), some (.int x), some (.int y), some (.int z), none]) (by decide +kernel) rfl (Nat.le_of_ble_eq_true rfl) rfl rfl ?_
  refine mx_iload_n (pc' := 1) dX7_ifStepped_0 rfl rfl ?_
  refine mx_callS (pc' := 4) dX7_ifStepped_1 cl_X7_93 (t_X7_isStep M x) rfl (by decide) rfl (Nat.le_of_ble_eq_true rfl) rfl (fun v N1 hv => ?_)
  obtain ⟨rfl, hv⟩ := hv
  rw [hv]
  refine mx_if_eq (tgt := 23) (pc' := 7) dX7_ifStepped_4 (by decide) rfl (fun c4 => ?_) (fun c4 => ?_)
  · refine mx_iconst (pc' := 24) (v := (-1)) dX7_ifStepped_23 (by decide) rfl ?_
    refine mx_iret dX7_ifStepped_24 (Or.inl rfl) ?_
    exact ⟨congrArg (fun z => some (Value.int z)) (show oIfStepped x y z Y = (-1) from if_neg (fun z => bI_0.mp c4 z.1)).symm, hC, Mo.rf⟩
  · have c4 := bI_n.mp c4
    refine mx_iload_n (pc' := 8) dX7_ifStepped_7 rfl rfl ?_
    refine mx_callS (pc' := 11) dX7_ifStepped_8 cl_X7_217 (t_X7_isSpan M y) rfl (by decide) rfl (Nat.le_of_ble_eq_true rfl) rfl (fun v N8 hv => ?_)
    obtain ⟨rfl, hv⟩ := hv
    rw [hv]
    refine mx_if_eq (tgt := 23) (pc' := 14) dX7_ifStepped_11 (by decide) rfl (fun c11 => ?_) (fun c11 => ?_)
    · refine mx_iconst (pc' := 24) (v := (-1)) dX7_ifStepped_23 (by decide) rfl ?_
      refine mx_iret dX7_ifStepped_24 (Or.inl rfl) ?_
      exact ⟨congrArg (fun z => some (Value.int z)) (show oIfStepped x y z Y = (-1) from if_neg (fun z => bI_0.mp c11 z.2.1)).symm, hC, Mo.rf⟩
    · have c11 := bI_n.mp c11
      refine mx_iload_n (pc' := 15) dX7_ifStepped_14 rfl rfl ?_
      refine mx_if_lt (tgt := 23) (pc' := 18) dX7_ifStepped_15 (by decide) rfl (fun c15 => ?_) (fun c15 => ?_)
      · refine mx_iconst (pc' := 24) (v := (-1)) dX7_ifStepped_23 (by decide) rfl ?_
        refine mx_iret dX7_ifStepped_24 (Or.inl rfl) ?_
        exact ⟨congrArg (fun z => some (Value.int z)) (show oIfStepped x y z Y = (-1) from if_neg (fun z => Int32.not_lt.mpr z.2.2.1 c15)).symm, hC, Mo.rf⟩
      · have c15 := Int32.not_lt.mp c15
        refine mx_iload_n (pc' := 19) dX7_ifStepped_18 rfl rfl ?_
        refine mx_iconst (pc' := 20) (v := nI 2) dX7_ifStepped_19 (by decide) rfl ?_
        refine mx_icmp_le (tgt := 25) (pc' := 23) dX7_ifStepped_20 (by decide) rfl (fun c20 => ?_) (fun c20 => ?_)
        · have h4 := hC.2.1.2.2.2.1
          have ea : oIfStepped x y z Y = (if Y.1.2.2.1 4 = 0 then (if z = 0 then (isR (tN (x + nI 1)) (tN y) Y.1).2.2.2.2 7 - Y.1.2.2.2 7 else if z = nI 1 then (isR (tN (x + nI 1)) (tN y) Y.1).2.2.2.2 6 - Y.1.2.2.2 6 else if (isR (tN (x + nI 1)) (tN y) Y.1).2.2.2.1 4 = 0 then (-4) else nI (isR (tN (x + nI 1)) (tN y) Y.1).1) else (-2)) := if_pos ⟨c4, c11, c15, c20⟩
          rw [ea]
          obtain ⟨s, hs, rfl⟩ := st_of c4.1 c4.2
          obtain ⟨T, hT1, hT, rfl⟩ := ge_of2 c11.1 c11.2 (by decide) (by decide)
          rw [tN_n (by omega), tN_d s hs]
          refine mx_aload_n (pc' := 26) dX7_ifStepped_25 rfl rfl ?_
          refine mx_getr (pc' := 29) dX7_ifStepped_26 fl_X7_10 (rfl) (by rfl) rfl ?_
          refine mx_getf (pc' := 32) (v := nI (Y.1.2.2.1 4)) dX7_ifStepped_29 fl_X7_96 (rfl) (by rfl) (hC.1.2.2.1 4 (by decide)) rfl ?_
          refine mx_if_eq (tgt := 38) (pc' := 35) dX7_ifStepped_32 (by decide) rfl (fun c32 => ?_) (fun c32 => ?_)
          · have c32 : Y.1.2.2.1 4 = 0 := (nI_eq (a := Y.1.2.2.1 4) (b := 0) (by omega) (by omega)).mp c32
            rw [if_pos c32]
            refine mx_aload_n (pc' := 39) dX7_ifStepped_38 rfl rfl ?_
            refine mx_getr (pc' := 42) dX7_ifStepped_39 fl_X7_16 (rfl) (by rfl) rfl ?_
            refine mx_aload_n (pc' := 43) dX7_ifStepped_42 rfl rfl ?_
            refine mx_getr (pc' := 46) dX7_ifStepped_43 fl_X7_10 (rfl) (by rfl) rfl ?_
            refine mx_callV (pc' := 49) dX7_ifStepped_46 cl_X7_236 (rfl) (t_X3_copyFrom M 15 1 (Or.inr (Or.inl rfl)) (Or.inl rfl) (by decide) Y.1 hC.1 hC.2.1) rfl (by decide) rfl (Nat.le_of_ble_eq_true rfl) rfl (fun v N46 hv => ?_)
            obtain ⟨rfl, hF2, hO⟩ := hv
            refine mx_iconst (pc' := 50) (v := nI 0) dX7_ifStepped_49 (by decide) rfl ?_
            refine mx_istore (pc' := 52) (ls' := [_, _, _, _, _]) dX7_ifStepped_50 (by decide) (rfl) rfl rfl ?_
            exact l_X7_ifStepped M Y hC ht T hT s hs z (T + 1) 0 N46 Y.1 (by omega) (by omega) (hC.fr fun q hq => hO q (by omega)) (hO.mo (by decide)) hF2 hC.2.1 (Nat.le_add_right _ _) (by rw [Nat.sub_zero, Nat.zero_add])
          · have c32 : ¬ Y.1.2.2.1 4 = 0 := fun z => c32 (by rw [z]; rfl)
            rw [if_neg c32]
            refine mx_bipush (pc' := 37) (v := (-2)) dX7_ifStepped_35 (by decide) rfl ?_
            refine mx_iret dX7_ifStepped_37 (Or.inl rfl) ?_
            exact ⟨rfl, hC, Mo.rf⟩
        · refine mx_iconst (pc' := 24) (v := (-1)) dX7_ifStepped_23 (by decide) rfl ?_
          refine mx_iret dX7_ifStepped_24 (Or.inl rfl) ?_
          exact ⟨congrArg (fun z => some (Value.int z)) (show oIfStepped x y z Y = (-1) from if_neg (fun z => c20 z.2.2.2)).symm, hC, Mo.rf⟩

theorem cl_d244 : Cond.constantDouble RX7 244 13830554455654793216 ∈ mx_TW := mx_in 518 (by decide +kernel) (by decide +kernel)
set_option maxHeartbeats 1000000 in
set_option maxRecDepth 10000 in
theorem t_X7_openness (M : mx_M) (Y : Sy) (hC : CoA M Y) (ht : Y.1.2.2.1 3 + 100 < 2147483648) (x : Int32) : mx_T yX7_openness cX7_openness 2 (some .double) 7 [.ref 0, .int x] M (fun v M' => v = some (.double (oOpenness x Y)) ∧ CoA M' Y ∧ Mo M M') := by
  refine mx_T.of1 (own := RX7) (ls := [some (.ref 0), some (.int x)]) (by decide +kernel) rfl (Nat.le_of_ble_eq_true rfl) rfl rfl ?_
  refine mx_iload_n (pc' := 1) dX7_openness_0 rfl rfl ?_
  refine mx_callS (pc' := 4) dX7_openness_1 cl_X7_217 (t_X7_isSpan M x) rfl (by decide) rfl (Nat.le_of_ble_eq_true rfl) rfl (fun v N1 hv => ?_)
  obtain ⟨rfl, hv⟩ := hv
  rw [hv]
  refine mx_if_ne (tgt := 11) (pc' := 7) dX7_openness_4 (by decide) rfl (fun c4 => ?_) (fun c4 => ?_)
  · have c4 := bI_n.mp c4
    have ea : oOpenness x Y = FP.ddiv (FP.i2d (nI (sumG (fFr Y.1) (tN x)))) (FP.i2d (nI 10 * x)) := if_pos c4
    rw [ea]
    obtain ⟨T, hT1, hT, rfl⟩ := ge_of2 c4.1 c4.2 (by decide) (by decide)
    rw [tN_n (by omega)]
    refine mx_aload_n (pc' := 12) dX7_openness_11 rfl rfl ?_
    refine mx_iload_n (pc' := 13) dX7_openness_12 rfl rfl ?_
    refine mx_callV (pc' := 16) dX7_openness_13 cl_X7_202 (rfl) (t_X7_foresee M Y hC ht T (by omega)) rfl (by decide) rfl (Nat.le_of_ble_eq_true rfl) rfl (fun v N13 hv => ?_)
    obtain ⟨rfl, hL, hC2, hM⟩ := hv
    have hle := sumG_le (fFr Y.1) T
    refine mx_aload_n (pc' := 17) dX7_openness_16 rfl rfl ?_
    refine mx_getr (pc' := 20) dX7_openness_17 fl_X7_50 (rfl) (by rfl) rfl ?_
    refine mx_iload_n (pc' := 21) dX7_openness_20 rfl rfl ?_
    refine mx_callV (pc' := 24) dX7_openness_21 cl_X7_241 (rfl) (t_X5_sumFree N13 (fFr Y.1) T hT hL) rfl (by decide) rfl (Nat.le_of_ble_eq_true rfl) rfl (fun v N21 hv => ?_)
    obtain ⟨rfl, hv⟩ := hv
    rw [hv]
    refine mx_i2d (pc' := 25) dX7_openness_24 rfl ?_
    refine mx_bipush (pc' := 27) (v := nI 10) dX7_openness_25 (by decide) rfl ?_
    refine mx_iload_n (pc' := 28) dX7_openness_27 rfl rfl ?_
    refine mx_imul (pc' := 29) dX7_openness_28 (rfl) rfl ?_
    refine mx_i2d (pc' := 30) dX7_openness_29 rfl ?_
    refine mx_ddiv (pc' := 31) dX7_openness_30 (nan_1 _ (by omega) T (by omega) hT1) rfl ?_
    refine mx_dret dX7_openness_31 rfl ?_
    exact ⟨rfl, hC2, hM⟩
  · refine mx_ldc2d (pc' := 10) dX7_openness_7 (cl_d244) rfl ?_
    refine mx_dret dX7_openness_10 rfl ?_
    exact ⟨congrArg (fun z => some (Value.double z)) (show oOpenness x Y = _ from if_neg (bI_0.mp c4)).symm, hC, Mo.rf⟩

