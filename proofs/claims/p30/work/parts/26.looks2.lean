set_option maxHeartbeats 1000000 in
set_option maxRecDepth 10000 in
theorem t_X7_foresee (M : mx_M) (Y : Sy) (hC : CoA M Y) (ht : Y.1.2.2.1 3 + 100 < 2147483648) (T : Nat) (hT : T ≤ 30) : mx_T yX7_foresee cX7_foresee 2 none 6 [.ref 0, .int (nI T)] M (fun v M' => v = none ∧ LaA M' T (fFr Y.1) ∧ CoA M' Y ∧ Mo M M') := by
  refine mx_T.of1 (own := RX7) (ls := [some (.ref 0), some (.int (nI T))]) (by decide +kernel) rfl (Nat.le_of_ble_eq_true rfl) rfl rfl ?_
  refine mx_aload_n (pc' := 1) dX7_foresee_0 rfl rfl ?_
  refine mx_getr (pc' := 4) dX7_foresee_1 fl_X7_16 (rfl) (by rfl) rfl ?_
  refine mx_aload_n (pc' := 5) dX7_foresee_4 rfl rfl ?_
  refine mx_getr (pc' := 8) dX7_foresee_5 fl_X7_10 (rfl) (by rfl) rfl ?_
  refine mx_callV (pc' := 11) dX7_foresee_8 cl_X7_236 (rfl) (t_X3_copyFrom M 15 1 (Or.inr (Or.inl rfl)) (Or.inl rfl) (by decide) Y.1 hC.1 hC.2.1) rfl (by decide) rfl (Nat.le_of_ble_eq_true rfl) rfl (fun v N8 hv => ?_)
  obtain ⟨rfl, hF2, hO⟩ := hv
  refine mx_aload_n (pc' := 12) dX7_foresee_11 rfl rfl ?_
  refine mx_getr (pc' := 15) dX7_foresee_12 fl_X7_50 (rfl) (by rfl) rfl ?_
  refine mx_aload_n (pc' := 16) dX7_foresee_15 rfl rfl ?_
  refine mx_getr (pc' := 19) dX7_foresee_16 fl_X7_16 (rfl) (by rfl) rfl ?_
  refine mx_iload_n (pc' := 20) dX7_foresee_19 rfl rfl ?_
  refine mx_callV (pc' := 23) dX7_foresee_20 cl_X7_238 (rfl) (t_X5_foresee N8 Y.1 hF2 hC.2.1 T hT (by omega)) rfl (by decide) rfl (Nat.le_of_ble_eq_true rfl) rfl (fun v N20 hv => ?_)
  obtain ⟨rfl, hL, -, hO2⟩ := hv
  refine mx_vret dX7_foresee_23 rfl ?_
  exact ⟨rfl, hL, hC.fr fun q hq => by rw [hO2 q (by omega)]; exact hO q (by omega), fun q hq => by rw [hO2 q (by omega)]; exact hO q (by omega)⟩

set_option maxHeartbeats 1000000 in
set_option maxRecDepth 10000 in
theorem t_X7_emitterOf (M : mx_M) (Y : Sy) (hC : CoA M Y) (ht : Y.1.2.2.1 3 + 100 < 2147483648) (x y : Int32) : mx_T yX7_emitterOf cX7_emitterOf 3 (some .int) 3 [.ref 0, .int x, .int y] M (fun v M' => v = some (.int (oEmitterOf x y Y)) ∧ CoA M' Y ∧ Mo M M') := by
  refine mx_T.of1 (own := RX7) (ls := [some (.ref 0), some (.int x), some (.int y)]) (by decide +kernel) rfl (Nat.le_of_ble_eq_true rfl) rfl rfl ?_
  refine mx_aload_n (pc' := 1) dX7_emitterOf_0 rfl rfl ?_
  refine mx_getr (pc' := 4) dX7_emitterOf_1 fl_X7_10 (rfl) (by rfl) rfl ?_
  refine mx_getr (pc' := 7) dX7_emitterOf_4 fl_X7_64 (rfl) (by rfl) rfl ?_
  refine mx_iload_n (pc' := 8) dX7_emitterOf_7 rfl rfl ?_
  refine mx_callV (pc' := 11) dX7_emitterOf_8 cl_X7_86 (rfl) (t_X2_has M 2 Y.1.1.length (FB.s (Or.inl rfl)).2.1 hC.1.1.1 hC.1.1.2.1.1 x) rfl (by decide) rfl (Nat.le_of_ble_eq_true rfl) rfl (fun v N8 hv => ?_)
  obtain ⟨rfl, hv⟩ := hv
  rw [hv]
  refine mx_if_ne (tgt := 16) (pc' := 14) dX7_emitterOf_11 (by decide) rfl (fun c11 => ?_) (fun c11 => ?_)
  · have c11 := bI_n.mp c11
    have h4 := hC.1.1.2.1.1
    obtain ⟨r, hr, rfl⟩ := ge_of c11.1 c11.2 (by omega)
    obtain ⟨e, he⟩ := get_lt hr
    have hW := hC.1.1.2.2.at he
    have hV := hC.1.1.2.1.2 e (List.mem_of_getElem? he)
    have hg : Y.1.1.getD (tN (nI r)) eD = e := by rw [tN_n (by omega), List.getD_eq_getElem?_getD, he]; rfl
    have ea : oEmitterOf (nI r) y Y = (if y = nI 0 then nI e.1 else if y = nI 1 then nI e.2.1 else if y = nI 2 then nI e.2.2.1 else if y = nI 3 then nI e.2.2.2 else if y = nI 4 then nI (wtF e.2.2.1 e.2.2.2 (Y.1.2.2.1 3)) else (-1)) := by
      unfold oEmitterOf
      rw [if_pos c11, hg]
    rw [ea]
    refine mx_iload_n (pc' := 17) dX7_emitterOf_16 rfl rfl ?_
    rcases sw5 y with rfl | rfl | rfl | rfl | rfl | hy
    · refine mx_tableIn (pc' := 52) dX7_emitterOf_17 (by decide) (by decide) (by rfl) (by decide) ?_
      refine mx_aload_n (pc' := 53) dX7_emitterOf_52 rfl rfl ?_
      refine mx_getr (pc' := 56) dX7_emitterOf_53 fl_X7_10 (rfl) (by rfl) rfl ?_
      refine mx_getr (pc' := 59) dX7_emitterOf_56 fl_X7_64 (rfl) (by rfl) rfl ?_
      refine mx_getr (pc' := 62) dX7_emitterOf_59 fl_X7_145 (rfl) (by rfl) rfl ?_
      refine mx_iload_n (pc' := 63) dX7_emitterOf_62 rfl rfl ?_
      refine mx_iald (pc' := 64) (v := nI e.1) dX7_emitterOf_63 (rfl) (rfl) (by omega) (hW.1) rfl ?_
      refine mx_iret dX7_emitterOf_64 (Or.inl rfl) ?_
      exact ⟨rfl, hC, Mo.rf⟩
    · refine mx_tableIn (pc' := 65) dX7_emitterOf_17 (by decide) (by decide) (by rfl) (by decide) ?_
      refine mx_aload_n (pc' := 66) dX7_emitterOf_65 rfl rfl ?_
      refine mx_getr (pc' := 69) dX7_emitterOf_66 fl_X7_10 (rfl) (by rfl) rfl ?_
      refine mx_getr (pc' := 72) dX7_emitterOf_69 fl_X7_64 (rfl) (by rfl) rfl ?_
      refine mx_getr (pc' := 75) dX7_emitterOf_72 fl_X7_148 (rfl) (by rfl) rfl ?_
      refine mx_iload_n (pc' := 76) dX7_emitterOf_75 rfl rfl ?_
      refine mx_iald (pc' := 77) (v := nI e.2.1) dX7_emitterOf_76 (rfl) (rfl) (by omega) (hW.2.1) rfl ?_
      refine mx_iret dX7_emitterOf_77 (Or.inl rfl) ?_
      exact ⟨rfl, hC, Mo.rf⟩
    · refine mx_tableIn (pc' := 78) dX7_emitterOf_17 (by decide) (by decide) (by rfl) (by decide) ?_
      refine mx_aload_n (pc' := 79) dX7_emitterOf_78 rfl rfl ?_
      refine mx_getr (pc' := 82) dX7_emitterOf_79 fl_X7_10 (rfl) (by rfl) rfl ?_
      refine mx_getr (pc' := 85) dX7_emitterOf_82 fl_X7_64 (rfl) (by rfl) rfl ?_
      refine mx_getr (pc' := 88) dX7_emitterOf_85 fl_X7_151 (rfl) (by rfl) rfl ?_
      refine mx_iload_n (pc' := 89) dX7_emitterOf_88 rfl rfl ?_
      refine mx_iald (pc' := 90) (v := nI e.2.2.1) dX7_emitterOf_89 (rfl) (rfl) (by omega) (hW.2.2.1) rfl ?_
      refine mx_iret dX7_emitterOf_90 (Or.inl rfl) ?_
      exact ⟨rfl, hC, Mo.rf⟩
    · refine mx_tableIn (pc' := 91) dX7_emitterOf_17 (by decide) (by decide) (by rfl) (by decide) ?_
      refine mx_aload_n (pc' := 92) dX7_emitterOf_91 rfl rfl ?_
      refine mx_getr (pc' := 95) dX7_emitterOf_92 fl_X7_10 (rfl) (by rfl) rfl ?_
      refine mx_getr (pc' := 98) dX7_emitterOf_95 fl_X7_64 (rfl) (by rfl) rfl ?_
      refine mx_getr (pc' := 101) dX7_emitterOf_98 fl_X7_154 (rfl) (by rfl) rfl ?_
      refine mx_iload_n (pc' := 102) dX7_emitterOf_101 rfl rfl ?_
      refine mx_iald (pc' := 103) (v := nI e.2.2.2) dX7_emitterOf_102 (rfl) (rfl) (by omega) (hW.2.2.2) rfl ?_
      refine mx_iret dX7_emitterOf_103 (Or.inl rfl) ?_
      exact ⟨rfl, hC, Mo.rf⟩
    · refine mx_tableIn (pc' := 104) dX7_emitterOf_17 (by decide) (by decide) (by rfl) (by decide) ?_
      refine mx_aload_n (pc' := 105) dX7_emitterOf_104 rfl rfl ?_
      refine mx_getr (pc' := 108) dX7_emitterOf_105 fl_X7_10 (rfl) (by rfl) rfl ?_
      refine mx_getr (pc' := 111) dX7_emitterOf_108 fl_X7_64 (rfl) (by rfl) rfl ?_
      refine mx_iload_n (pc' := 112) dX7_emitterOf_111 rfl rfl ?_
      refine mx_aload_n (pc' := 113) dX7_emitterOf_112 rfl rfl ?_
      refine mx_getr (pc' := 116) dX7_emitterOf_113 fl_X7_10 (rfl) (by rfl) rfl ?_
      refine mx_getf (pc' := 119) (v := nI (Y.1.2.2.1 3)) dX7_emitterOf_116 fl_X7_157 (rfl) (by rfl) (hC.1.2.2.1 3 (by decide)) rfl ?_
      refine mx_callV (pc' := 122) dX7_emitterOf_119 cl_X7_160 (rfl) (t_X2_ticksToFire M 2 r (Y.1.2.2.1 3) (FB.s (Or.inl rfl)).2.1 (by omega) e hW hV (by omega)) rfl (by decide) rfl (Nat.le_of_ble_eq_true rfl) rfl (fun v N119 hv => ?_)
      obtain ⟨rfl, hv⟩ := hv
      rw [hv]
      refine mx_iret dX7_emitterOf_122 (Or.inl rfl) ?_
      exact ⟨rfl, hC, Mo.rf⟩
    · refine mx_tableOut (pc' := 123) dX7_emitterOf_17 hy (by decide) ?_
      refine mx_iconst (pc' := 124) (v := (-1)) dX7_emitterOf_123 (by decide) rfl ?_
      refine mx_iret dX7_emitterOf_124 (Or.inl rfl) ?_
      exact ⟨by rw [if_neg (sw_out (n := 4) hy (by decide) (by decide)), if_neg (sw_out (n := 4) hy (by decide) (by decide)), if_neg (sw_out (n := 4) hy (by decide) (by decide)), if_neg (sw_out (n := 4) hy (by decide) (by decide)), if_neg (sw_out (n := 4) hy (by decide) (by decide))], hC, Mo.rf⟩
  · have c11 := bI_0.mp c11
    refine mx_iconst (pc' := 15) (v := (-1)) dX7_emitterOf_14 (by decide) rfl ?_
    refine mx_iret dX7_emitterOf_15 (Or.inl rfl) ?_
    exact ⟨congrArg (fun z => some (Value.int z)) (show oEmitterOf x y Y = (-1) from if_neg (c11)).symm, hC, Mo.rf⟩

set_option maxHeartbeats 1000000 in
set_option maxRecDepth 10000 in
theorem t_X7_bullet (M : mx_M) (Y : Sy) (hC : CoA M Y) (x y : Int32) : mx_T yX7_bullet cX7_bullet 3 (some .int) 2 [.ref 0, .int x, .int y] M (fun v M' => v = some (.int (oBullet x y Y)) ∧ CoA M' Y ∧ Mo M M') := by
  refine mx_T.of1 (own := RX7) (ls := [some (.ref 0), some (.int x), some (.int y)]) (by decide +kernel) rfl (Nat.le_of_ble_eq_true rfl) rfl rfl ?_
  refine mx_aload_n (pc' := 1) dX7_bullet_0 rfl rfl ?_
  refine mx_getr (pc' := 4) dX7_bullet_1 fl_X7_10 (rfl) (by rfl) rfl ?_
  refine mx_getr (pc' := 7) dX7_bullet_4 fl_X7_164 (rfl) (by rfl) rfl ?_
  refine mx_iload_n (pc' := 8) dX7_bullet_7 rfl rfl ?_
  refine mx_callV (pc' := 11) dX7_bullet_8 cl_X7_168 (rfl) (t_X0_has M 7 Y.1.2.1.length (FB.s (Or.inl rfl)).2.2.1 hC.1.2.1.1 hC.1.2.1.2.1.1 x) rfl (by decide) rfl (Nat.le_of_ble_eq_true rfl) rfl (fun v N8 hv => ?_)
  obtain ⟨rfl, hv⟩ := hv
  rw [hv]
  refine mx_if_ne (tgt := 16) (pc' := 14) dX7_bullet_11 (by decide) rfl (fun c11 => ?_) (fun c11 => ?_)
  · have c11 := bI_n.mp c11
    have h4 := hC.1.2.1.2.1.1
    obtain ⟨r, hr, rfl⟩ := ge_of c11.1 c11.2 (by omega)
    obtain ⟨e, he⟩ := get_lt hr
    have hW := hC.1.2.1.2.2.at he
    have hV := hC.1.2.1.2.1.2 e (List.mem_of_getElem? he)
    have hV4 := hV.2.2.2.1
    have hV5 := hV.2.2.2.2
    have hg : Y.1.2.1.getD (tN (nI r)) bD = e := by rw [tN_n (by omega), List.getD_eq_getElem?_getD, he]; rfl
    have ea : oBullet (nI r) y Y = (if y = nI 0 then nI e.1 else if y = nI 1 then nI e.2.1 else if y = nI 2 then nI e.2.2.1 else if y = nI 3 then nI e.2.2.2.1 else if y = nI 4 then nI e.2.2.2.2 else (-1)) := by
      unfold oBullet
      rw [if_pos c11, hg]
    rw [ea]
    refine mx_iload_n (pc' := 17) dX7_bullet_16 rfl rfl ?_
    rcases sw5 y with rfl | rfl | rfl | rfl | rfl | hy
    · refine mx_tableIn (pc' := 52) dX7_bullet_17 (by decide) (by decide) (by rfl) (by decide) ?_
      refine mx_aload_n (pc' := 53) dX7_bullet_52 rfl rfl ?_
      refine mx_getr (pc' := 56) dX7_bullet_53 fl_X7_10 (rfl) (by rfl) rfl ?_
      refine mx_getr (pc' := 59) dX7_bullet_56 fl_X7_164 (rfl) (by rfl) rfl ?_
      refine mx_getr (pc' := 62) dX7_bullet_59 fl_X7_171 (rfl) (by rfl) rfl ?_
      refine mx_iload_n (pc' := 63) dX7_bullet_62 rfl rfl ?_
      refine mx_iald (pc' := 64) (v := nI e.1) dX7_bullet_63 (rfl) (rfl) (by omega) (hW.1) rfl ?_
      refine mx_iret dX7_bullet_64 (Or.inl rfl) ?_
      exact ⟨rfl, hC, Mo.rf⟩
    · refine mx_tableIn (pc' := 65) dX7_bullet_17 (by decide) (by decide) (by rfl) (by decide) ?_
      refine mx_aload_n (pc' := 66) dX7_bullet_65 rfl rfl ?_
      refine mx_getr (pc' := 69) dX7_bullet_66 fl_X7_10 (rfl) (by rfl) rfl ?_
      refine mx_getr (pc' := 72) dX7_bullet_69 fl_X7_164 (rfl) (by rfl) rfl ?_
      refine mx_getr (pc' := 75) dX7_bullet_72 fl_X7_174 (rfl) (by rfl) rfl ?_
      refine mx_iload_n (pc' := 76) dX7_bullet_75 rfl rfl ?_
      refine mx_iald (pc' := 77) (v := nI e.2.1) dX7_bullet_76 (rfl) (rfl) (by omega) (hW.2.1) rfl ?_
      refine mx_iret dX7_bullet_77 (Or.inl rfl) ?_
      exact ⟨rfl, hC, Mo.rf⟩
    · refine mx_tableIn (pc' := 78) dX7_bullet_17 (by decide) (by decide) (by rfl) (by decide) ?_
      refine mx_aload_n (pc' := 79) dX7_bullet_78 rfl rfl ?_
      refine mx_getr (pc' := 82) dX7_bullet_79 fl_X7_10 (rfl) (by rfl) rfl ?_
      refine mx_getr (pc' := 85) dX7_bullet_82 fl_X7_164 (rfl) (by rfl) rfl ?_
      refine mx_getr (pc' := 88) dX7_bullet_85 fl_X7_175 (rfl) (by rfl) rfl ?_
      refine mx_iload_n (pc' := 89) dX7_bullet_88 rfl rfl ?_
      refine mx_iald (pc' := 90) (v := dr e.2.2.1) dX7_bullet_89 (rfl) (rfl) (by omega) (hW.2.2.1) rfl ?_
      refine mx_iconst (pc' := 91) (v := nI 1) dX7_bullet_90 (by decide) rfl ?_
      refine mx_iadd (pc' := 92) (v := nI e.2.2.1) dX7_bullet_91 (dr_of _) rfl ?_
      refine mx_iret dX7_bullet_92 (Or.inl rfl) ?_
      exact ⟨rfl, hC, Mo.rf⟩
    · refine mx_tableIn (pc' := 93) dX7_bullet_17 (by decide) (by decide) (by rfl) (by decide) ?_
      refine mx_aload_n (pc' := 94) dX7_bullet_93 rfl rfl ?_
      refine mx_getr (pc' := 97) dX7_bullet_94 fl_X7_10 (rfl) (by rfl) rfl ?_
      refine mx_getr (pc' := 100) dX7_bullet_97 fl_X7_164 (rfl) (by rfl) rfl ?_
      refine mx_getr (pc' := 103) dX7_bullet_100 fl_X7_178 (rfl) (by rfl) rfl ?_
      refine mx_iload_n (pc' := 104) dX7_bullet_103 rfl rfl ?_
      refine mx_bald (pc' := 105) (v := nI e.2.2.2.1) dX7_bullet_104 (rfl) (rfl) (by omega) (hW.2.2.2.1) rfl ?_
      refine mx_if_eq (tgt := 112) (pc' := 108) dX7_bullet_105 (by decide) rfl (fun c105 => ?_) (fun c105 => ?_)
      · have c105 : e.2.2.2.1 = 0 := (nI_eq (a := e.2.2.2.1) (b := 0) (by omega) (by omega)).mp c105
        refine mx_iconst (pc' := 113) (v := nI 0) dX7_bullet_112 (by decide) rfl ?_
        refine mx_iret dX7_bullet_113 (Or.inl rfl) ?_
        exact ⟨by rw [c105]; rfl, hC, Mo.rf⟩
      · have c105 : e.2.2.2.1 = 1 := by
          have : ¬ e.2.2.2.1 = 0 := fun z => c105 (by rw [z]; rfl)
          omega
        refine mx_iconst (pc' := 109) (v := nI 1) dX7_bullet_108 (by decide) rfl ?_
        refine mx_goto (pc' := 113) dX7_bullet_109 (by decide) ?_
        refine mx_iret dX7_bullet_113 (Or.inl rfl) ?_
        exact ⟨by rw [c105]; rfl, hC, Mo.rf⟩
    · refine mx_tableIn (pc' := 114) dX7_bullet_17 (by decide) (by decide) (by rfl) (by decide) ?_
      refine mx_aload_n (pc' := 115) dX7_bullet_114 rfl rfl ?_
      refine mx_getr (pc' := 118) dX7_bullet_115 fl_X7_10 (rfl) (by rfl) rfl ?_
      refine mx_getr (pc' := 121) dX7_bullet_118 fl_X7_164 (rfl) (by rfl) rfl ?_
      refine mx_getr (pc' := 124) dX7_bullet_121 fl_X7_182 (rfl) (by rfl) rfl ?_
      refine mx_iload_n (pc' := 125) dX7_bullet_124 rfl rfl ?_
      refine mx_bald (pc' := 126) (v := nI e.2.2.2.2) dX7_bullet_125 (rfl) (rfl) (by omega) (hW.2.2.2.2) rfl ?_
      refine mx_if_eq (tgt := 133) (pc' := 129) dX7_bullet_126 (by decide) rfl (fun c126 => ?_) (fun c126 => ?_)
      · have c126 : e.2.2.2.2 = 0 := (nI_eq (a := e.2.2.2.2) (b := 0) (by omega) (by omega)).mp c126
        refine mx_iconst (pc' := 134) (v := nI 0) dX7_bullet_133 (by decide) rfl ?_
        refine mx_iret dX7_bullet_134 (Or.inl rfl) ?_
        exact ⟨by rw [c126]; rfl, hC, Mo.rf⟩
      · have c126 : e.2.2.2.2 = 1 := by
          have : ¬ e.2.2.2.2 = 0 := fun z => c126 (by rw [z]; rfl)
          omega
        refine mx_iconst (pc' := 130) (v := nI 1) dX7_bullet_129 (by decide) rfl ?_
        refine mx_goto (pc' := 134) dX7_bullet_130 (by decide) ?_
        refine mx_iret dX7_bullet_134 (Or.inl rfl) ?_
        exact ⟨by rw [c126]; rfl, hC, Mo.rf⟩
    · refine mx_tableOut (pc' := 135) dX7_bullet_17 hy (by decide) ?_
      refine mx_iconst (pc' := 136) (v := (-1)) dX7_bullet_135 (by decide) rfl ?_
      refine mx_iret dX7_bullet_136 (Or.inl rfl) ?_
      exact ⟨by rw [if_neg (sw_out (n := 4) hy (by decide) (by decide)), if_neg (sw_out (n := 4) hy (by decide) (by decide)), if_neg (sw_out (n := 4) hy (by decide) (by decide)), if_neg (sw_out (n := 4) hy (by decide) (by decide)), if_neg (sw_out (n := 4) hy (by decide) (by decide))], hC, Mo.rf⟩
  · have c11 := bI_0.mp c11
    refine mx_iconst (pc' := 15) (v := (-1)) dX7_bullet_14 (by decide) rfl ?_
    refine mx_iret dX7_bullet_15 (Or.inl rfl) ?_
    exact ⟨congrArg (fun z => some (Value.int z)) (show oBullet x y Y = (-1) from if_neg (c11)).symm, hC, Mo.rf⟩

set_option maxHeartbeats 1000000 in
set_option maxRecDepth 10000 in
theorem t_X7_at (M : mx_M) (Y : Sy) (hC : CoA M Y) (x y : Int32) : mx_T yX7_at cX7_at 3 (some .int) 2 [.ref 0, .int x, .int y] M (fun v M' => v = some (.int (oAt x y Y)) ∧ CoA M' Y ∧ Mo M M') := by
  refine mx_T.of1 (own := RX7) (ls := [some (.ref 0), some (.int x), some (.int y)]) (by decide +kernel) rfl (Nat.le_of_ble_eq_true rfl) rfl rfl ?_
  refine mx_iload_n (pc' := 1) dX7_at_0 rfl rfl ?_
  refine mx_if_lt (tgt := 17) (pc' := 4) dX7_at_1 (by decide) rfl (fun c1 => ?_) (fun c1 => ?_)
  · refine mx_iconst (pc' := 18) (v := (-1)) dX7_at_17 (by decide) rfl ?_
    refine mx_iret dX7_at_18 (Or.inl rfl) ?_
    exact ⟨congrArg (fun z => some (Value.int z)) (show oAt x y Y = (-1) from if_neg (fun z => Int32.not_lt.mpr z.1.1 c1)).symm, hC, Mo.rf⟩
  · have c1 := Int32.not_lt.mp c1
    refine mx_iload_n (pc' := 5) dX7_at_4 rfl rfl ?_
    refine mx_bipush (pc' := 7) (v := nI 11) dX7_at_5 (by decide) rfl ?_
    refine mx_icmp_gt (tgt := 17) (pc' := 10) dX7_at_7 (by decide) rfl (fun c7 => ?_) (fun c7 => ?_)
    · refine mx_iconst (pc' := 18) (v := (-1)) dX7_at_17 (by decide) rfl ?_
      refine mx_iret dX7_at_18 (Or.inl rfl) ?_
      exact ⟨congrArg (fun z => some (Value.int z)) (show oAt x y Y = (-1) from if_neg (fun z => Int32.not_lt.mpr z.1.2 c7)).symm, hC, Mo.rf⟩
    · have c7 := Int32.not_lt.mp c7
      refine mx_iload_n (pc' := 11) dX7_at_10 rfl rfl ?_
      refine mx_callS (pc' := 14) dX7_at_11 cl_X7_54 (t_X7_isColumn M y) rfl (by decide) rfl (Nat.le_of_ble_eq_true rfl) rfl (fun v N11 hv => ?_)
      obtain ⟨rfl, hv⟩ := hv
      rw [hv]
      refine mx_if_ne (tgt := 19) (pc' := 17) dX7_at_14 (by decide) rfl (fun c14 => ?_) (fun c14 => ?_)
      · have c14 := bI_n.mp c14
        have ea : oAt x y Y = nI (Y.1.2.1.countP (atB (tN x) (tN y))) := if_pos ⟨⟨c1, c7⟩, c14⟩
        rw [ea]
        obtain ⟨r, -, hr, rfl⟩ := ge_of2 (m := 0) c1 c7 (by decide) (by decide)
        obtain ⟨c, hc, rfl⟩ := ge_of c14.1 c14.2 (by decide)
        rw [tN_n (by omega), tN_n (by omega)]
        refine mx_aload_n (pc' := 20) dX7_at_19 rfl rfl ?_
        refine mx_getr (pc' := 23) dX7_at_20 fl_X7_10 (rfl) (by rfl) rfl ?_
        refine mx_getr (pc' := 26) dX7_at_23 fl_X7_164 (rfl) (by rfl) rfl ?_
        refine mx_iload_n (pc' := 27) dX7_at_26 rfl rfl ?_
        refine mx_iload_n (pc' := 28) dX7_at_27 rfl rfl ?_
        refine mx_callV (pc' := 31) dX7_at_28 cl_X7_185 (rfl) (t_X0_countIn M 7 (FB.s (Or.inl rfl)).2.2.1 Y.1.2.1 hC.1.2.1 r c (by omega) hc) rfl (by decide) rfl (Nat.le_of_ble_eq_true rfl) rfl (fun v N28 hv => ?_)
        obtain ⟨rfl, hv⟩ := hv
        rw [hv]
        refine mx_iret dX7_at_31 (Or.inl rfl) ?_
        exact ⟨rfl, hC, Mo.rf⟩
      · refine mx_iconst (pc' := 18) (v := (-1)) dX7_at_17 (by decide) rfl ?_
        refine mx_iret dX7_at_18 (Or.inl rfl) ?_
        exact ⟨congrArg (fun z => some (Value.int z)) (show oAt x y Y = (-1) from if_neg (fun z => bI_0.mp c14 z.2)).symm, hC, Mo.rf⟩

set_option maxHeartbeats 1000000 in
set_option maxRecDepth 10000 in
theorem t_X7_count (M : mx_M) (Y : Sy) (hC : CoA M Y) (x : Int32) : mx_T yX7_count cX7_count 2 (some .int) 1 [.ref 0, .int x] M (fun v M' => v = some (.int (oCount x Y)) ∧ CoA M' Y ∧ Mo M M') := by
  have h4 := hC.2.1.2.2.2.1
  refine mx_T.of1 (own := RX7) (ls := [some (.ref 0), some (.int x)]) (by decide +kernel) rfl (Nat.le_of_ble_eq_true rfl) rfl rfl ?_
  rcases sw19 x with ⟨j, hj, rfl⟩ | ⟨j, hj, hj2, rfl⟩ | ⟨j, hj, hj2, rfl⟩ | hy
  · have ea : oCount (nI j) Y = cntV Y j := by
      unfold oCount
      rw [if_pos ⟨nI_pos' (by omega), (nI_leI (by omega) (by omega)).mpr (by omega)⟩, tN_n (by omega)]
    rw [ea]
    refine mx_iload_n (pc' := 1) dX7_count_0 rfl rfl ?_
    refine mx_bipush (pc' := 3) (v := nI 7) dX7_count_1 (by decide) rfl ?_
    refine mx_icmp_lt (tgt := 25) (pc' := 6) dX7_count_3 (by decide) rfl (fun c3 => ?_) (fun c3 => ?_)
    · refine mx_iload_n (pc' := 26) dX7_count_25 rfl rfl ?_
      rcases (show j = 0 ∨ j = 1 ∨ j = 2 ∨ j = 3 ∨ j = 4 ∨ j = 5 ∨ j = 6 by omega) with rfl | rfl | rfl | rfl | rfl | rfl | rfl
      · refine mx_tableIn (pc' := 116) dX7_count_26 (by decide) (by decide) (by rfl) (by decide) ?_
        refine mx_aload_n (pc' := 117) dX7_count_116 rfl rfl ?_
        refine mx_getr (pc' := 120) dX7_count_117 fl_X7_10 (rfl) (by rfl) rfl ?_
        refine mx_getr (pc' := 123) dX7_count_120 fl_X7_64 (rfl) (by rfl) rfl ?_
        refine mx_getf (pc' := 126) (v := nI Y.1.1.length) dX7_count_123 fl_X7_82 (rfl) (by rfl) (hC.1.1.1) rfl ?_
        refine mx_iret dX7_count_126 (Or.inl rfl) ?_
        exact ⟨rfl, hC, Mo.rf⟩
      · refine mx_tableIn (pc' := 127) dX7_count_26 (by decide) (by decide) (by rfl) (by decide) ?_
        refine mx_aload_n (pc' := 128) dX7_count_127 rfl rfl ?_
        refine mx_getr (pc' := 131) dX7_count_128 fl_X7_10 (rfl) (by rfl) rfl ?_
        refine mx_getr (pc' := 134) dX7_count_131 fl_X7_164 (rfl) (by rfl) rfl ?_
        refine mx_getf (pc' := 137) (v := nI Y.1.2.1.length) dX7_count_134 fl_X7_191 (rfl) (by rfl) (hC.1.2.1.1) rfl ?_
        refine mx_iret dX7_count_137 (Or.inl rfl) ?_
        exact ⟨rfl, hC, Mo.rf⟩
      · refine mx_tableIn (pc' := 138) dX7_count_26 (by decide) (by decide) (by rfl) (by decide) ?_
        refine mx_aload_n (pc' := 139) dX7_count_138 rfl rfl ?_
        refine mx_getr (pc' := 142) dX7_count_139 fl_X7_10 (rfl) (by rfl) rfl ?_
        refine mx_getf (pc' := 145) (v := nI (Y.1.2.2.1 0)) dX7_count_142 fl_X7_192 (rfl) (by rfl) (hC.1.2.2.1 0 (by decide)) rfl ?_
        refine mx_iret dX7_count_145 (Or.inl rfl) ?_
        exact ⟨rfl, hC, Mo.rf⟩
      · refine mx_tableIn (pc' := 146) dX7_count_26 (by decide) (by decide) (by rfl) (by decide) ?_
        refine mx_aload_n (pc' := 147) dX7_count_146 rfl rfl ?_
        refine mx_getr (pc' := 150) dX7_count_147 fl_X7_10 (rfl) (by rfl) rfl ?_
        refine mx_getf (pc' := 153) (v := nI (Y.1.2.2.1 1)) dX7_count_150 fl_X7_195 (rfl) (by rfl) (hC.1.2.2.1 1 (by decide)) rfl ?_
        refine mx_iret dX7_count_153 (Or.inl rfl) ?_
        exact ⟨rfl, hC, Mo.rf⟩
      · refine mx_tableIn (pc' := 154) dX7_count_26 (by decide) (by decide) (by rfl) (by decide) ?_
        refine mx_aload_n (pc' := 155) dX7_count_154 rfl rfl ?_
        refine mx_getr (pc' := 158) dX7_count_155 fl_X7_10 (rfl) (by rfl) rfl ?_
        refine mx_getf (pc' := 161) (v := nI (Y.1.2.2.1 2)) dX7_count_158 fl_X7_198 (rfl) (by rfl) (hC.1.2.2.1 2 (by decide)) rfl ?_
        refine mx_iret dX7_count_161 (Or.inl rfl) ?_
        exact ⟨rfl, hC, Mo.rf⟩
      · refine mx_tableIn (pc' := 162) dX7_count_26 (by decide) (by decide) (by rfl) (by decide) ?_
        refine mx_aload_n (pc' := 163) dX7_count_162 rfl rfl ?_
        refine mx_getr (pc' := 166) dX7_count_163 fl_X7_10 (rfl) (by rfl) rfl ?_
        refine mx_getf (pc' := 169) (v := nI (Y.1.2.2.1 3)) dX7_count_166 fl_X7_157 (rfl) (by rfl) (hC.1.2.2.1 3 (by decide)) rfl ?_
        refine mx_iret dX7_count_169 (Or.inl rfl) ?_
        exact ⟨rfl, hC, Mo.rf⟩
      · refine mx_tableIn (pc' := 170) dX7_count_26 (by decide) (by decide) (by rfl) (by decide) ?_
        refine mx_aload_n (pc' := 171) dX7_count_170 rfl rfl ?_
        refine mx_getr (pc' := 174) dX7_count_171 fl_X7_10 (rfl) (by rfl) rfl ?_
        refine mx_getf (pc' := 177) (v := nI (Y.1.2.2.1 4)) dX7_count_174 fl_X7_96 (rfl) (by rfl) (hC.1.2.2.1 4 (by decide)) rfl ?_
        refine mx_if_eq (tgt := 184) (pc' := 180) dX7_count_177 (by decide) rfl (fun c177 => ?_) (fun c177 => ?_)
        · have c177 : Y.1.2.2.1 4 = 0 := (nI_eq (a := Y.1.2.2.1 4) (b := 0) (by omega) (by omega)).mp c177
          refine mx_iconst (pc' := 185) (v := nI 0) dX7_count_184 (by decide) rfl ?_
          refine mx_iret dX7_count_185 (Or.inl rfl) ?_
          exact ⟨by show _ = some (Value.int (nI (Y.1.2.2.1 4))); rw [c177], hC, Mo.rf⟩
        · have c177 : Y.1.2.2.1 4 = 1 := by
            have : ¬ Y.1.2.2.1 4 = 0 := fun z => c177 (by rw [z]; rfl)
            omega
          refine mx_iconst (pc' := 181) (v := nI 1) dX7_count_180 (by decide) rfl ?_
          refine mx_goto (pc' := 185) dX7_count_181 (by decide) ?_
          refine mx_iret dX7_count_185 (Or.inl rfl) ?_
          exact ⟨by show _ = some (Value.int (nI (Y.1.2.2.1 4))); rw [c177], hC, Mo.rf⟩
    · exact absurd ((nI_ltI (by omega) (by omega)).mpr (by omega)) c3
  · have ea : oCount (nI j) Y = cntV Y j := by
      unfold oCount
      rw [if_pos ⟨nI_pos' (by omega), (nI_leI (by omega) (by omega)).mpr (by omega)⟩, tN_n (by omega)]
    rw [ea]
    refine mx_iload_n (pc' := 1) dX7_count_0 rfl rfl ?_
    refine mx_bipush (pc' := 3) (v := nI 7) dX7_count_1 (by decide) rfl ?_
    refine mx_icmp_lt (tgt := 25) (pc' := 6) dX7_count_3 (by decide) rfl (fun c3 => ?_) (fun c3 => ?_)
    · have c3 := (nI_ltI (by omega) (by omega)).mp c3
      exact absurd c3 (by omega)
    · refine mx_iload_n (pc' := 7) dX7_count_6 rfl rfl ?_
      refine mx_bipush (pc' := 9) (v := nI 15) dX7_count_7 (by decide) rfl ?_
      refine mx_icmp_ge (tgt := 25) (pc' := 12) dX7_count_9 (by decide) rfl (fun c9 => ?_) (fun c9 => ?_)
      · have c9 := (nI_leI (by omega) (by omega)).mp c9
        exact absurd c9 (by omega)
      · refine mx_aload_n (pc' := 13) dX7_count_12 rfl rfl ?_
        refine mx_getr (pc' := 16) dX7_count_13 fl_X7_10 (rfl) (by rfl) rfl ?_
        refine mx_getr (pc' := 19) dX7_count_16 fl_X7_188 (rfl) (by rfl) rfl ?_
        refine mx_iload_n (pc' := 20) dX7_count_19 rfl rfl ?_
        refine mx_bipush (pc' := 22) (v := nI 7) dX7_count_20 (by decide) rfl ?_
        refine mx_isub (pc' := 23) (v := nI (j - 7)) dX7_count_22 (pk_sub (b := 7) (by omega)) rfl ?_
        refine mx_iald (pc' := 24) (v := Y.1.2.2.2 (j - 7)) dX7_count_23 (rfl) (rfl) (by omega) (hC.1.2.2.2.2 (j - 7) (by omega)) rfl ?_
        refine mx_iret dX7_count_24 (Or.inl rfl) ?_
        rcases (show j = 7 ∨ j = 8 ∨ j = 9 ∨ j = 10 ∨ j = 11 ∨ j = 12 ∨ j = 13 ∨ j = 14 by omega) with rfl | rfl | rfl | rfl | rfl | rfl | rfl | rfl <;> exact ⟨rfl, hC, Mo.rf⟩
  · have ea : oCount (nI j) Y = cntV Y j := by
      unfold oCount
      rw [if_pos ⟨nI_pos' (by omega), (nI_leI (by omega) (by omega)).mpr (by omega)⟩, tN_n (by omega)]
    rw [ea]
    refine mx_iload_n (pc' := 1) dX7_count_0 rfl rfl ?_
    refine mx_bipush (pc' := 3) (v := nI 7) dX7_count_1 (by decide) rfl ?_
    refine mx_icmp_lt (tgt := 25) (pc' := 6) dX7_count_3 (by decide) rfl (fun c3 => ?_) (fun c3 => ?_)
    · have c3 := (nI_ltI (by omega) (by omega)).mp c3
      exact absurd c3 (by omega)
    · refine mx_iload_n (pc' := 7) dX7_count_6 rfl rfl ?_
      refine mx_bipush (pc' := 9) (v := nI 15) dX7_count_7 (by decide) rfl ?_
      refine mx_icmp_ge (tgt := 25) (pc' := 12) dX7_count_9 (by decide) rfl (fun c9 => ?_) (fun c9 => ?_)
      · refine mx_iload_n (pc' := 26) dX7_count_25 rfl rfl ?_
        rcases (show j = 15 ∨ j = 16 ∨ j = 17 ∨ j = 18 by omega) with rfl | rfl | rfl | rfl
        · refine mx_tableIn (pc' := 186) dX7_count_26 (by decide) (by decide) (by rfl) (by decide) ?_
          refine mx_aload_n (pc' := 187) dX7_count_186 rfl rfl ?_
          refine mx_getr (pc' := 190) dX7_count_187 fl_X7_10 (rfl) (by rfl) rfl ?_
          refine mx_getr (pc' := 193) dX7_count_190 fl_X7_117 (rfl) (by rfl) rfl ?_
          refine mx_iconst (pc' := 194) (v := nI 0) dX7_count_193 (by decide) rfl ?_
          refine mx_iald (pc' := 195) (v := nI (Y.1.2.2.1 5)) dX7_count_194 (rfl) (rfl) (by omega) (hC.1.2.2.2.1 0 (by decide)) rfl ?_
          refine mx_iret dX7_count_195 (Or.inl rfl) ?_
          exact ⟨rfl, hC, Mo.rf⟩
        · refine mx_tableIn (pc' := 196) dX7_count_26 (by decide) (by decide) (by rfl) (by decide) ?_
          refine mx_aload_n (pc' := 197) dX7_count_196 rfl rfl ?_
          refine mx_getr (pc' := 200) dX7_count_197 fl_X7_10 (rfl) (by rfl) rfl ?_
          refine mx_getr (pc' := 203) dX7_count_200 fl_X7_117 (rfl) (by rfl) rfl ?_
          refine mx_iconst (pc' := 204) (v := nI 1) dX7_count_203 (by decide) rfl ?_
          refine mx_iald (pc' := 205) (v := nI (Y.1.2.2.1 6)) dX7_count_204 (rfl) (rfl) (by omega) (hC.1.2.2.2.1 1 (by decide)) rfl ?_
          refine mx_iret dX7_count_205 (Or.inl rfl) ?_
          exact ⟨rfl, hC, Mo.rf⟩
        · refine mx_tableIn (pc' := 206) dX7_count_26 (by decide) (by decide) (by rfl) (by decide) ?_
          refine mx_aload_n (pc' := 207) dX7_count_206 rfl rfl ?_
          refine mx_getr (pc' := 210) dX7_count_207 fl_X7_36 (rfl) (by rfl) rfl ?_
          refine mx_getf (pc' := 213) (v := nI Y.2.2.2.length) dX7_count_210 fl_X7_124 (rfl) (by rfl) (hC.2.2.2.2.1) rfl ?_
          refine mx_iret dX7_count_213 (Or.inl rfl) ?_
          exact ⟨rfl, hC, Mo.rf⟩
        · refine mx_tableIn (pc' := 214) dX7_count_26 (by decide) (by decide) (by rfl) (by decide) ?_
          refine mx_aload_n (pc' := 215) dX7_count_214 rfl rfl ?_
          refine mx_getr (pc' := 218) dX7_count_215 fl_X7_29 (rfl) (by rfl) rfl ?_
          refine mx_getf (pc' := 221) (v := nI Y.2.1.length) dX7_count_218 fl_X7_201 (rfl) (by rfl) (hC.2.2.1.choose_spec.2.1) rfl ?_
          refine mx_iret dX7_count_221 (Or.inl rfl) ?_
          exact ⟨rfl, hC, Mo.rf⟩
      · exact absurd ((nI_leI (by omega) (by omega)).mpr (by omega)) c9
  · refine mx_iload_n (pc' := 1) dX7_count_0 rfl rfl ?_
    refine mx_bipush (pc' := 3) (v := nI 7) dX7_count_1 (by decide) rfl ?_
    refine mx_icmp_lt (tgt := 25) (pc' := 6) dX7_count_3 (by decide) rfl (fun c3 => ?_) (fun c3 => ?_)
    · refine mx_iload_n (pc' := 26) dX7_count_25 rfl rfl ?_
      skip
      · refine mx_tableOut (pc' := 222) dX7_count_26 hy (by decide) ?_
        refine mx_iconst (pc' := 223) (v := (-1)) dX7_count_222 (by decide) rfl ?_
        refine mx_iret dX7_count_223 (Or.inl rfl) ?_
        exact ⟨congrArg (fun z => some (Value.int z)) (show oCount x Y = (-1) from if_neg (fun z => by have z1 := z.1; have z2 := z.2; rw [Int32.le_iff_toInt_le] at z1 z2; rw [nI_t 18 (by decide)] at z2; have : (0 : Int32).toInt = 0 := rfl; omega)).symm, hC, Mo.rf⟩
    · refine mx_iload_n (pc' := 7) dX7_count_6 rfl rfl ?_
      refine mx_bipush (pc' := 9) (v := nI 15) dX7_count_7 (by decide) rfl ?_
      refine mx_icmp_ge (tgt := 25) (pc' := 12) dX7_count_9 (by decide) rfl (fun c9 => ?_) (fun c9 => ?_)
      · refine mx_iload_n (pc' := 26) dX7_count_25 rfl rfl ?_
        skip
        · refine mx_tableOut (pc' := 222) dX7_count_26 hy (by decide) ?_
          refine mx_iconst (pc' := 223) (v := (-1)) dX7_count_222 (by decide) rfl ?_
          refine mx_iret dX7_count_223 (Or.inl rfl) ?_
          exact ⟨congrArg (fun z => some (Value.int z)) (show oCount x Y = (-1) from if_neg (fun z => by have z1 := z.1; have z2 := z.2; rw [Int32.le_iff_toInt_le] at z1 z2; rw [nI_t 18 (by decide)] at z2; have : (0 : Int32).toInt = 0 := rfl; omega)).symm, hC, Mo.rf⟩
      · have hx1 : ¬ x < nI 7 := c3
        have hx2 : ¬ nI 15 ≤ x := c9
        rw [Int32.lt_iff_toInt_lt, nI_t 7 (by decide)] at hx1
        rw [Int32.le_iff_toInt_le, nI_t 15 (by decide)] at hx2
        exact absurd hy (by omega)

set_option maxHeartbeats 1000000 in
set_option maxRecDepth 10000 in
theorem t_X7_free (M : mx_M) (Y : Sy) (hC : CoA M Y) (ht : Y.1.2.2.1 3 + 100 < 2147483648) (x : Int32) : mx_T yX7_free cX7_free 2 (some .int) 7 [.ref 0, .int x] M (fun v M' => v = some (.int (oFree x Y)) ∧ CoA M' Y ∧ Mo M M') := by
  refine mx_T.of1 (own := RX7) (ls := [some (.ref 0), some (.int x)]) (by decide +kernel) rfl (Nat.le_of_ble_eq_true rfl) rfl rfl ?_
  refine mx_iload_n (pc' := 1) dX7_free_0 rfl rfl ?_
  refine mx_if_lt (tgt := 10) (pc' := 4) dX7_free_1 (by decide) rfl (fun c1 => ?_) (fun c1 => ?_)
  · refine mx_iconst (pc' := 11) (v := (-1)) dX7_free_10 (by decide) rfl ?_
    refine mx_iret dX7_free_11 (Or.inl rfl) ?_
    exact ⟨congrArg (fun z => some (Value.int z)) (show oFree x Y = (-1) from if_neg (fun z => Int32.not_lt.mpr z.1 c1)).symm, hC, Mo.rf⟩
  · have c1 := Int32.not_lt.mp c1
    refine mx_iload_n (pc' := 5) dX7_free_4 rfl rfl ?_
    refine mx_bipush (pc' := 7) (v := nI 30) dX7_free_5 (by decide) rfl ?_
    refine mx_icmp_le (tgt := 12) (pc' := 10) dX7_free_7 (by decide) rfl (fun c7 => ?_) (fun c7 => ?_)
    · have ea : oFree x Y = nI (fFr Y.1 (tN x)) := if_pos ⟨c1, c7⟩
      rw [ea]
      obtain ⟨T, -, hT, rfl⟩ := ge_of2 (m := 0) c1 c7 (by decide) (by decide)
      rw [tN_n (by omega)]
      refine mx_aload_n (pc' := 13) dX7_free_12 rfl rfl ?_
      refine mx_iload_n (pc' := 14) dX7_free_13 rfl rfl ?_
      refine mx_callV (pc' := 17) dX7_free_14 cl_X7_202 (rfl) (t_X7_foresee M Y hC ht T (by omega)) rfl (by decide) rfl (Nat.le_of_ble_eq_true rfl) rfl (fun v N14 hv => ?_)
      obtain ⟨rfl, hL, hC2, hM⟩ := hv
      refine mx_aload_n (pc' := 18) dX7_free_17 rfl rfl ?_
      refine mx_getr (pc' := 21) dX7_free_18 fl_X7_50 (rfl) (by rfl) rfl ?_
      refine mx_getr (pc' := 24) dX7_free_21 fl_X7_205 (rfl) (by rfl) rfl ?_
      refine mx_iload_n (pc' := 25) dX7_free_24 rfl rfl ?_
      refine mx_iald (pc' := 26) (v := nI (fFr Y.1 T)) dX7_free_25 (rfl) (rfl) (by omega) ((hL T (Nat.le_refl T)).1) rfl ?_
      refine mx_iret dX7_free_26 (Or.inl rfl) ?_
      exact ⟨rfl, hC2, hM⟩
    · refine mx_iconst (pc' := 11) (v := (-1)) dX7_free_10 (by decide) rfl ?_
      refine mx_iret dX7_free_11 (Or.inl rfl) ?_
      exact ⟨congrArg (fun z => some (Value.int z)) (show oFree x Y = (-1) from if_neg (fun z => c7 z.2)).symm, hC, Mo.rf⟩

set_option maxHeartbeats 1000000 in
set_option maxRecDepth 10000 in
theorem t_X7_lane (M : mx_M) (Y : Sy) (hC : CoA M Y) (ht : Y.1.2.2.1 3 + 100 < 2147483648) (x y : Int32) : mx_T yX7_lane cX7_lane 3 (some .int) 7 [.ref 0, .int x, .int y] M (fun v M' => v = some (.int (oLane x y Y)) ∧ CoA M' Y ∧ Mo M M') := by
  refine mx_T.of1 (own := RX7) (ls := [some (.ref 0), some (.int x), some (.int y)]) (by decide +kernel) rfl (Nat.le_of_ble_eq_true rfl) rfl rfl ?_
  refine mx_iload_n (pc' := 1) dX7_lane_0 rfl rfl ?_
  refine mx_if_lt (tgt := 10) (pc' := 4) dX7_lane_1 (by decide) rfl (fun c1 => ?_) (fun c1 => ?_)
  · refine mx_iconst (pc' := 11) (v := (-1)) dX7_lane_10 (by decide) rfl ?_
    refine mx_iret dX7_lane_11 (Or.inl rfl) ?_
    exact ⟨congrArg (fun z => some (Value.int z)) (show oLane x y Y = (-1) from if_neg (fun z => Int32.not_lt.mpr z.1.1 c1)).symm, hC, Mo.rf⟩
  · have c1 := Int32.not_lt.mp c1
    refine mx_iload_n (pc' := 5) dX7_lane_4 rfl rfl ?_
    refine mx_bipush (pc' := 7) (v := nI 30) dX7_lane_5 (by decide) rfl ?_
    refine mx_icmp_le (tgt := 12) (pc' := 10) dX7_lane_7 (by decide) rfl (fun c7 => ?_) (fun c7 => ?_)
    · refine mx_iload_n (pc' := 13) dX7_lane_12 rfl rfl ?_
      refine mx_if_lt (tgt := 21) (pc' := 16) dX7_lane_13 (by decide) rfl (fun c13 => ?_) (fun c13 => ?_)
      · refine mx_iconst (pc' := 22) (v := (-1)) dX7_lane_21 (by decide) rfl ?_
        refine mx_iret dX7_lane_22 (Or.inl rfl) ?_
        exact ⟨congrArg (fun z => some (Value.int z)) (show oLane x y Y = (-1) from if_neg (fun z => Int32.not_lt.mpr z.2.1 c13)).symm, hC, Mo.rf⟩
      · have c13 := Int32.not_lt.mp c13
        refine mx_iload_n (pc' := 17) dX7_lane_16 rfl rfl ?_
        refine mx_iconst (pc' := 18) (v := nI 2) dX7_lane_17 (by decide) rfl ?_
        refine mx_icmp_le (tgt := 23) (pc' := 21) dX7_lane_18 (by decide) rfl (fun c18 => ?_) (fun c18 => ?_)
        · have ea : oLane x y Y = (if y = 0 then nI (cntL (fFr Y.1 (tN x)) 10) else if y = nI 1 then nI (wdN (fFr Y.1 (tN x)) 10) else stW (fFr Y.1 (tN x))) := if_pos ⟨⟨c1, c7⟩, c13, c18⟩
          rw [ea]
          obtain ⟨T, -, hT, rfl⟩ := ge_of2 (m := 0) c1 c7 (by decide) (by decide)
          rw [tN_n (by omega)]
          refine mx_aload_n (pc' := 24) dX7_lane_23 rfl rfl ?_
          refine mx_iload_n (pc' := 25) dX7_lane_24 rfl rfl ?_
          refine mx_callV (pc' := 28) dX7_lane_25 cl_X7_202 (rfl) (t_X7_foresee M Y hC ht T (by omega)) rfl (by decide) rfl (Nat.le_of_ble_eq_true rfl) rfl (fun v N25 hv => ?_)
          obtain ⟨rfl, hL, hC2, hM⟩ := hv
          have hg := hL T (Nat.le_refl T)
          refine mx_iload_n (pc' := 29) dX7_lane_28 rfl rfl ?_
          refine mx_if_ne (tgt := 41) (pc' := 32) dX7_lane_29 (by decide) rfl (fun c29 => ?_) (fun c29 => ?_)
          · refine mx_iload_n (pc' := 42) dX7_lane_41 rfl rfl ?_
            refine mx_iconst (pc' := 43) (v := nI 1) dX7_lane_42 (by decide) rfl ?_
            refine mx_icmp_ne (tgt := 57) (pc' := 46) dX7_lane_43 (by decide) rfl (fun c43 => ?_) (fun c43 => ?_)
            · refine mx_aload_n (pc' := 58) dX7_lane_57 rfl rfl ?_
              refine mx_getr (pc' := 61) dX7_lane_58 fl_X7_50 (rfl) (by rfl) rfl ?_
              refine mx_iload_n (pc' := 62) dX7_lane_61 rfl rfl ?_
              refine mx_callV (pc' := 65) dX7_lane_62 cl_X7_214 (rfl) (t_X5_startOfWidest N25 T (fFr Y.1 T) hT hg.1 hg.2) rfl (by decide) rfl (Nat.le_of_ble_eq_true rfl) rfl (fun v N62 hv => ?_)
              obtain ⟨rfl, hv⟩ := hv
              rw [hv]
              refine mx_iret dX7_lane_65 (Or.inl rfl) ?_
              exact ⟨by rw [if_neg c29, if_neg c43], hC2, hM⟩
            · refine mx_aload_n (pc' := 47) dX7_lane_46 rfl rfl ?_
              refine mx_getr (pc' := 50) dX7_lane_47 fl_X7_50 (rfl) (by rfl) rfl ?_
              refine mx_iload_n (pc' := 51) dX7_lane_50 rfl rfl ?_
              refine mx_callV (pc' := 54) dX7_lane_51 cl_X7_211 (rfl) (t_X5_widest N25 T (fFr Y.1 T) hT hg.1 hg.2) rfl (by decide) rfl (Nat.le_of_ble_eq_true rfl) rfl (fun v N51 hv => ?_)
              obtain ⟨rfl, hv⟩ := hv
              rw [hv]
              refine mx_goto (pc' := 65) dX7_lane_54 (by decide) ?_
              refine mx_iret dX7_lane_65 (Or.inl rfl) ?_
              exact ⟨by rw [if_neg c29, if_pos c43], hC2, hM⟩
          · refine mx_aload_n (pc' := 33) dX7_lane_32 rfl rfl ?_
            refine mx_getr (pc' := 36) dX7_lane_33 fl_X7_50 (rfl) (by rfl) rfl ?_
            refine mx_iload_n (pc' := 37) dX7_lane_36 rfl rfl ?_
            refine mx_callV (pc' := 40) dX7_lane_37 cl_X7_208 (rfl) (t_X5_countLanes N25 T (fFr Y.1 T) hT hg.1 hg.2) rfl (by decide) rfl (Nat.le_of_ble_eq_true rfl) rfl (fun v N37 hv => ?_)
            obtain ⟨rfl, hv⟩ := hv
            rw [hv]
            refine mx_iret dX7_lane_40 (Or.inl rfl) ?_
            exact ⟨by rw [if_pos c29], hC2, hM⟩
        · refine mx_iconst (pc' := 22) (v := (-1)) dX7_lane_21 (by decide) rfl ?_
          refine mx_iret dX7_lane_22 (Or.inl rfl) ?_
          exact ⟨congrArg (fun z => some (Value.int z)) (show oLane x y Y = (-1) from if_neg (fun z => c18 z.2.2)).symm, hC, Mo.rf⟩
    · refine mx_iconst (pc' := 11) (v := (-1)) dX7_lane_10 (by decide) rfl ?_
      refine mx_iret dX7_lane_11 (Or.inl rfl) ?_
      exact ⟨congrArg (fun z => some (Value.int z)) (show oLane x y Y = (-1) from if_neg (fun z => c7 z.1.2)).symm, hC, Mo.rf⟩

set_option maxHeartbeats 1000000 in
set_option maxRecDepth 10000 in
theorem t_X7_ends (M : mx_M) (Y : Sy) (hC : CoA M Y) (ht : Y.1.2.2.1 3 + 100 < 2147483648) (x y : Int32) : mx_T yX7_ends cX7_ends 3 (some .int) 7 [.ref 0, .int x, .int y] M (fun v M' => v = some (.int (oEnds x y Y)) ∧ CoA M' Y ∧ Mo M M') := by
  refine mx_T.of1 (own := RX7) (ls := [some (.ref 0), some (.int x), some (.int y)]) (by decide +kernel) rfl (Nat.le_of_ble_eq_true rfl) rfl rfl ?_
  refine mx_iload_n (pc' := 1) dX7_ends_0 rfl rfl ?_
  refine mx_callS (pc' := 4) dX7_ends_1 cl_X7_217 (t_X7_isSpan M x) rfl (by decide) rfl (Nat.le_of_ble_eq_true rfl) rfl (fun v N1 hv => ?_)
  obtain ⟨rfl, hv⟩ := hv
  rw [hv]
  refine mx_if_eq (tgt := 16) (pc' := 7) dX7_ends_4 (by decide) rfl (fun c4 => ?_) (fun c4 => ?_)
  · refine mx_iconst (pc' := 17) (v := (-1)) dX7_ends_16 (by decide) rfl ?_
    refine mx_iret dX7_ends_17 (Or.inl rfl) ?_
    exact ⟨congrArg (fun z => some (Value.int z)) (show oEnds x y Y = (-1) from if_neg (fun z => bI_0.mp c4 z.1)).symm, hC, Mo.rf⟩
  · have c4 := bI_n.mp c4
    refine mx_iload_n (pc' := 8) dX7_ends_7 rfl rfl ?_
    refine mx_if_lt (tgt := 16) (pc' := 11) dX7_ends_8 (by decide) rfl (fun c8 => ?_) (fun c8 => ?_)
    · refine mx_iconst (pc' := 17) (v := (-1)) dX7_ends_16 (by decide) rfl ?_
      refine mx_iret dX7_ends_17 (Or.inl rfl) ?_
      exact ⟨congrArg (fun z => some (Value.int z)) (show oEnds x y Y = (-1) from if_neg (fun z => Int32.not_lt.mpr z.2.1 c8)).symm, hC, Mo.rf⟩
    · have c8 := Int32.not_lt.mp c8
      refine mx_iload_n (pc' := 12) dX7_ends_11 rfl rfl ?_
      refine mx_iconst (pc' := 13) (v := nI 1) dX7_ends_12 (by decide) rfl ?_
      refine mx_icmp_le (tgt := 18) (pc' := 16) dX7_ends_13 (by decide) rfl (fun c13 => ?_) (fun c13 => ?_)
      · have ea : oEnds x y Y = nI (pop10 (rch (fFr Y.1) (Y.1.2.2.1 0) (tN x))) := if_pos ⟨c4, c8, c13⟩
        rw [ea]
        obtain ⟨T, hT1, hT, rfl⟩ := ge_of2 c4.1 c4.2 (by decide) (by decide)
        rw [tN_n (by omega)]
        refine mx_aload_n (pc' := 19) dX7_ends_18 rfl rfl ?_
        refine mx_iload_n (pc' := 20) dX7_ends_19 rfl rfl ?_
        refine mx_callV (pc' := 23) dX7_ends_20 cl_X7_202 (rfl) (t_X7_foresee M Y hC ht T (by omega)) rfl (by decide) rfl (Nat.le_of_ble_eq_true rfl) rfl (fun v N20 hv => ?_)
        obtain ⟨rfl, hL, hC2, hM⟩ := hv
        refine mx_iload_n (pc' := 24) dX7_ends_23 rfl rfl ?_
        refine mx_if_ne (tgt := 45) (pc' := 27) dX7_ends_24 (by decide) rfl (fun c24 => ?_) (fun c24 => ?_)
        · refine mx_aload_n (pc' := 46) dX7_ends_45 rfl rfl ?_
          refine mx_getr (pc' := 49) dX7_ends_46 fl_X7_50 (rfl) (by rfl) rfl ?_
          refine mx_aload_n (pc' := 50) dX7_ends_49 rfl rfl ?_
          refine mx_getr (pc' := 53) dX7_ends_50 fl_X7_10 (rfl) (by rfl) rfl ?_
          refine mx_getf (pc' := 56) (v := nI (Y.1.2.2.1 0)) dX7_ends_53 fl_X7_192 (rfl) (by rfl) (hC2.1.2.2.1 0 (by decide)) rfl ?_
          refine mx_iload_n (pc' := 57) dX7_ends_56 rfl rfl ?_
          refine mx_callV (pc' := 60) dX7_ends_57 cl_X7_223 (rfl) (t_X5_endsBackwards N20 (fFr Y.1) T hT (fFr_lt Y.1) hL (Y.1.2.2.1 0) hC.2.1.1) rfl (by decide) rfl (Nat.le_of_ble_eq_true rfl) rfl (fun v N57 hv => ?_)
          obtain ⟨rfl, hv⟩ := hv
          rw [hv]
          refine mx_iret dX7_ends_60 (Or.inl rfl) ?_
          exact ⟨by rw [endB_pop], hC2, hM⟩
        · refine mx_aload_n (pc' := 28) dX7_ends_27 rfl rfl ?_
          refine mx_getr (pc' := 31) dX7_ends_28 fl_X7_50 (rfl) (by rfl) rfl ?_
          refine mx_aload_n (pc' := 32) dX7_ends_31 rfl rfl ?_
          refine mx_getr (pc' := 35) dX7_ends_32 fl_X7_10 (rfl) (by rfl) rfl ?_
          refine mx_getf (pc' := 38) (v := nI (Y.1.2.2.1 0)) dX7_ends_35 fl_X7_192 (rfl) (by rfl) (hC2.1.2.2.1 0 (by decide)) rfl ?_
          refine mx_iload_n (pc' := 39) dX7_ends_38 rfl rfl ?_
          refine mx_callV (pc' := 42) dX7_ends_39 cl_X7_220 (rfl) (t_X5_endsForwards N20 (fFr Y.1) T hT (fFr_lt Y.1) hL (Y.1.2.2.1 0) hC.2.1.1) rfl (by decide) rfl (Nat.le_of_ble_eq_true rfl) rfl (fun v N39 hv => ?_)
          obtain ⟨rfl, hv⟩ := hv
          rw [hv]
          refine mx_goto (pc' := 60) dX7_ends_42 (by decide) ?_
          refine mx_iret dX7_ends_60 (Or.inl rfl) ?_
          exact ⟨rfl, hC2, hM⟩
      · refine mx_iconst (pc' := 17) (v := (-1)) dX7_ends_16 (by decide) rfl ?_
        refine mx_iret dX7_ends_17 (Or.inl rfl) ?_
        exact ⟨congrArg (fun z => some (Value.int z)) (show oEnds x y Y = (-1) from if_neg (fun z => c13 z.2.2)).symm, hC, Mo.rf⟩

set_option maxHeartbeats 1000000 in
set_option maxRecDepth 10000 in
theorem t_X7_way (M : mx_M) (Y : Sy) (hC : CoA M Y) (ht : Y.1.2.2.1 3 + 100 < 2147483648) (x y : Int32) : mx_T yX7_way cX7_way 3 (some .int) 7 [.ref 0, .int x, .int y] M (fun v M' => v = some (.int (oWay x y Y)) ∧ CoA M' Y ∧ Mo M M') := by
  refine mx_T.of1 (own := RX7) (ls := [some (.ref 0), some (.int x), some (.int y)]) (by decide +kernel) rfl (Nat.le_of_ble_eq_true rfl) rfl rfl ?_
  refine mx_iload_n (pc' := 1) dX7_way_0 rfl rfl ?_
  refine mx_callS (pc' := 4) dX7_way_1 cl_X7_217 (t_X7_isSpan M x) rfl (by decide) rfl (Nat.le_of_ble_eq_true rfl) rfl (fun v N1 hv => ?_)
  obtain ⟨rfl, hv⟩ := hv
  rw [hv]
  refine mx_if_eq (tgt := 16) (pc' := 7) dX7_way_4 (by decide) rfl (fun c4 => ?_) (fun c4 => ?_)
  · refine mx_iconst (pc' := 17) (v := (-1)) dX7_way_16 (by decide) rfl ?_
    refine mx_iret dX7_way_17 (Or.inl rfl) ?_
    exact ⟨congrArg (fun z => some (Value.int z)) (show oWay x y Y = (-1) from if_neg (fun z => bI_0.mp c4 z.1)).symm, hC, Mo.rf⟩
  · have c4 := bI_n.mp c4
    refine mx_iload_n (pc' := 8) dX7_way_7 rfl rfl ?_
    refine mx_if_lt (tgt := 16) (pc' := 11) dX7_way_8 (by decide) rfl (fun c8 => ?_) (fun c8 => ?_)
    · refine mx_iconst (pc' := 17) (v := (-1)) dX7_way_16 (by decide) rfl ?_
      refine mx_iret dX7_way_17 (Or.inl rfl) ?_
      exact ⟨congrArg (fun z => some (Value.int z)) (show oWay x y Y = (-1) from if_neg (fun z => Int32.not_lt.mpr z.2.1 c8)).symm, hC, Mo.rf⟩
    · have c8 := Int32.not_lt.mp c8
      refine mx_iload_n (pc' := 12) dX7_way_11 rfl rfl ?_
      refine mx_iload_n (pc' := 13) dX7_way_12 rfl rfl ?_
      refine mx_icmp_le (tgt := 18) (pc' := 16) dX7_way_13 (by decide) rfl (fun c13 => ?_) (fun c13 => ?_)
      · have ea : oWay x y Y = (if calmI (fFr Y.1) (Y.1.2.2.1 0) (tN x) = (-4) then (-4) else nI (cway (fFr Y.1) (Y.1.2.2.1 0) (tN x) (tN y))) := if_pos ⟨c4, c8, c13⟩
        rw [ea]
        obtain ⟨T, hT1, hT, rfl⟩ := ge_of2 c4.1 c4.2 (by decide) (by decide)
        obtain ⟨u, -, hu, rfl⟩ := ge_of2 (m := 0) c8 c13 (by decide) (by omega)
        rw [tN_n (by omega), tN_n (by omega)]
        refine mx_aload_n (pc' := 19) dX7_way_18 rfl rfl ?_
        refine mx_iload_n (pc' := 20) dX7_way_19 rfl rfl ?_
        refine mx_callV (pc' := 23) dX7_way_20 cl_X7_202 (rfl) (t_X7_foresee M Y hC ht T (by omega)) rfl (by decide) rfl (Nat.le_of_ble_eq_true rfl) rfl (fun v N20 hv => ?_)
        obtain ⟨rfl, hL, hC2, hM⟩ := hv
        refine mx_aload_n (pc' := 24) dX7_way_23 rfl rfl ?_
        refine mx_getr (pc' := 27) dX7_way_24 fl_X7_50 (rfl) (by rfl) rfl ?_
        refine mx_aload_n (pc' := 28) dX7_way_27 rfl rfl ?_
        refine mx_getr (pc' := 31) dX7_way_28 fl_X7_10 (rfl) (by rfl) rfl ?_
        refine mx_getf (pc' := 34) (v := nI (Y.1.2.2.1 0)) dX7_way_31 fl_X7_192 (rfl) (by rfl) (hC2.1.2.2.1 0 (by decide)) rfl ?_
        refine mx_iload_n (pc' := 35) dX7_way_34 rfl rfl ?_
        refine mx_iload_n (pc' := 36) dX7_way_35 rfl rfl ?_
        refine mx_callV (pc' := 39) dX7_way_36 cl_X7_226 (rfl) (t_X5_calmestAt N20 (fFr Y.1) T hT (fFr_lt Y.1) hL hT1 (Y.1.2.2.1 0) hC.2.1.1 u hu) rfl (by decide) rfl (Nat.le_of_ble_eq_true rfl) rfl (fun v N36 hv => ?_)
        obtain ⟨rfl, hO3⟩ := hv
        refine mx_iret dX7_way_39 (Or.inl rfl) ?_
        exact ⟨rfl, hC2.fr fun q hq => hO3 q (by omega), hM.tr fun q hq => hO3 q (by omega)⟩
      · refine mx_iconst (pc' := 17) (v := (-1)) dX7_way_16 (by decide) rfl ?_
        refine mx_iret dX7_way_17 (Or.inl rfl) ?_
        exact ⟨congrArg (fun z => some (Value.int z)) (show oWay x y Y = (-1) from if_neg (fun z => c13 z.2.2)).symm, hC, Mo.rf⟩

set_option maxHeartbeats 1000000 in
set_option maxRecDepth 10000 in
theorem t_X7_asides (M : mx_M) (Y : Sy) (hC : CoA M Y) (ht : Y.1.2.2.1 3 + 100 < 2147483648) (x : Int32) : mx_T yX7_asides cX7_asides 2 (some .int) 7 [.ref 0, .int x] M (fun v M' => v = some (.int (oAsides x Y)) ∧ CoA M' Y ∧ Mo M M') := by
  refine mx_T.of1 (own := RX7) (ls := [some (.ref 0), some (.int x)]) (by decide +kernel) rfl (Nat.le_of_ble_eq_true rfl) rfl rfl ?_
  refine mx_iload_n (pc' := 1) dX7_asides_0 rfl rfl ?_
  refine mx_callS (pc' := 4) dX7_asides_1 cl_X7_217 (t_X7_isSpan M x) rfl (by decide) rfl (Nat.le_of_ble_eq_true rfl) rfl (fun v N1 hv => ?_)
  obtain ⟨rfl, hv⟩ := hv
  rw [hv]
  refine mx_if_ne (tgt := 9) (pc' := 7) dX7_asides_4 (by decide) rfl (fun c4 => ?_) (fun c4 => ?_)
  · have c4 := bI_n.mp c4
    have ea : oAsides x Y = calmI (fFr Y.1) (Y.1.2.2.1 0) (tN x) := if_pos c4
    rw [ea]
    obtain ⟨T, hT1, hT, rfl⟩ := ge_of2 c4.1 c4.2 (by decide) (by decide)
    rw [tN_n (by omega)]
    refine mx_aload_n (pc' := 10) dX7_asides_9 rfl rfl ?_
    refine mx_iload_n (pc' := 11) dX7_asides_10 rfl rfl ?_
    refine mx_callV (pc' := 14) dX7_asides_11 cl_X7_202 (rfl) (t_X7_foresee M Y hC ht T (by omega)) rfl (by decide) rfl (Nat.le_of_ble_eq_true rfl) rfl (fun v N11 hv => ?_)
    obtain ⟨rfl, hL, hC2, hM⟩ := hv
    refine mx_aload_n (pc' := 15) dX7_asides_14 rfl rfl ?_
    refine mx_getr (pc' := 18) dX7_asides_15 fl_X7_50 (rfl) (by rfl) rfl ?_
    refine mx_aload_n (pc' := 19) dX7_asides_18 rfl rfl ?_
    refine mx_getr (pc' := 22) dX7_asides_19 fl_X7_10 (rfl) (by rfl) rfl ?_
    refine mx_getf (pc' := 25) (v := nI (Y.1.2.2.1 0)) dX7_asides_22 fl_X7_192 (rfl) (by rfl) (hC2.1.2.2.1 0 (by decide)) rfl ?_
    refine mx_iload_n (pc' := 26) dX7_asides_25 rfl rfl ?_
    refine mx_callV (pc' := 29) dX7_asides_26 cl_X7_230 (rfl) (t_X5_fewestAsides N11 (fFr Y.1) T hT (fFr_lt Y.1) hL hT1 (Y.1.2.2.1 0) hC.2.1.1) rfl (by decide) rfl (Nat.le_of_ble_eq_true rfl) rfl (fun v N26 hv => ?_)
    obtain ⟨rfl, -, hO3⟩ := hv
    refine mx_iret dX7_asides_29 (Or.inl rfl) ?_
    exact ⟨rfl, hC2.fr fun q hq => hO3 q (by omega), hM.tr fun q hq => hO3 q (by omega)⟩
  · refine mx_iconst (pc' := 8) (v := (-1)) dX7_asides_7 (by decide) rfl ?_
    refine mx_iret dX7_asides_8 (Or.inl rfl) ?_
    exact ⟨congrArg (fun z => some (Value.int z)) (show oAsides x Y = (-1) from if_neg (bI_0.mp c4)).symm, hC, Mo.rf⟩

set_option maxHeartbeats 1000000 in
set_option maxRecDepth 10000 in
theorem t_X7_fair (M : mx_M) (Y : Sy) (hC : CoA M Y) (ht : Y.1.2.2.1 3 + 100 < 2147483648) : mx_T yX7_fair cX7_fair 1 (some .int) 7 [.ref 0] M (fun v M' => v = some (.int (oFair Y)) ∧ CoA M' Y ∧ Mo M M') := by
  refine mx_T.of1 (own := RX7) (ls := [some (.ref 0)]) (by decide +kernel) rfl (Nat.le_of_ble_eq_true rfl) rfl rfl ?_
  refine mx_aload_n (pc' := 1) dX7_fair_0 rfl rfl ?_
  refine mx_bipush (pc' := 3) (v := nI 30) dX7_fair_1 (by decide) rfl ?_
  refine mx_callV (pc' := 6) dX7_fair_3 cl_X7_202 (rfl) (t_X7_foresee M Y hC ht 30 (by decide)) rfl (by decide) rfl (Nat.le_of_ble_eq_true rfl) rfl (fun v N3 hv => ?_)
  obtain ⟨rfl, hL, hC2, hM⟩ := hv
  refine mx_aload_n (pc' := 7) dX7_fair_6 rfl rfl ?_
  refine mx_getr (pc' := 10) dX7_fair_7 fl_X7_50 (rfl) (by rfl) rfl ?_
  refine mx_aload_n (pc' := 11) dX7_fair_10 rfl rfl ?_
  refine mx_getr (pc' := 14) dX7_fair_11 fl_X7_10 (rfl) (by rfl) rfl ?_
  refine mx_getf (pc' := 17) (v := nI (Y.1.2.2.1 0)) dX7_fair_14 fl_X7_192 (rfl) (by rfl) (hC2.1.2.2.1 0 (by decide)) rfl ?_
  refine mx_callV (pc' := 20) dX7_fair_17 cl_X7_233 (rfl) (t_X5_longestWay N3 (fFr Y.1) (fFr_lt Y.1) hL (Y.1.2.2.1 0) hC.2.1.1) rfl (by decide) rfl (Nat.le_of_ble_eq_true rfl) rfl (fun v N17 hv => ?_)
  obtain ⟨rfl, hv⟩ := hv
  rw [hv]
  refine mx_iret dX7_fair_20 (Or.inl rfl) ?_
  exact ⟨rfl, hC2, hM⟩

