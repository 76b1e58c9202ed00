/-! curtain and steps: texts that the law types -/
def yP (Y : Sy) (P : List Nat) : Sy := (Y.1, Y.2.1, Y.2.2.1, P)
theorem t_app (M : mx_M) (Y : Sy) (P : List Nat) (hC : CoA M (yP Y P)) (hP : P.length < 60) (c : Nat) (hc : 33 ≤ c ∧ c ≤ 126) : mx_T yX7_append cX7_append 2 (some .int) 3 [.ref 0, .int (nI c)] M (fun v M' => ∃ P', P'.length = P.length + 1 ∧ v = some (.int (nI (P.length + 1))) ∧ CoA M' (yP Y P')) := by
  refine (t_X7_append M (yP Y P) hC (nI c)).post fun v M' h => ⟨P ++ [c], List.length_append, ?_⟩
  have hcnd : nI 33 ≤ nI c ∧ nI c ≤ nI 126 := ⟨(nI_leI (by omega) (by omega)).mpr hc.1, (nI_leI (by omega) (by omega)).mpr hc.2⟩
  have e : oAppend (nI c) (yP Y P) = (nI (P.length + 1), yP Y (P ++ [c])) := by
    unfold oAppend
    rw [if_pos hcnd, if_neg (show ¬ (yP Y P).2.2.2.length = 60 from fun z => by have z2 : P.length = 60 := z; omega), tN_n (by omega)]
    rfl
  rw [e] at h
  exact ⟨h.1, h.2.1⟩
theorem t_clr (M : mx_M) (Y : Sy) (hC : CoA M Y) : mx_T yX7_clear cX7_clear 2 (some .int) 1 [.ref 0] M (fun v M' => v = some (.int (nI Y.2.2.2.length)) ∧ CoA M' (yP Y [])) := (t_X7_clear M Y hC).post fun v M' h => ⟨h.1, h.2.1⟩
set_option maxHeartbeats 2000000 in
set_option maxRecDepth 10000 in
theorem l_steps (Y : Sy) (Q : Option Value → mx_M → Prop) (kq : ∀ M1 P, CoA M1 (yP Y P) → Q (some (.int (nI 1))) M1) (x : Int32) (n : Nat) (hn : n < 18) : ∀ (f k : Nat) (z : Option Value) (P : List Nat) {M1 : mx_M}, n < k + f → k ≤ n → P.length ≤ k → CoA M1 (yP Y P) → mx_V cL_steps RL 6 (some .boolean) 4 23 [some (.ref 0), some (.int (x)), some (.int (nI n)), some (.int (nI 1)), some (.int (nI k)), z] [] M1 Q := by
  intro f
  induction f with
  | zero =>
    intro k z P M1 hk hi hP hC
    exact absurd hk (by omega)
  | succ f ih =>
    intro k z P M1 hk hi hP hC
    refine mx_iload (pc' := 25) dL_steps_23 rfl rfl ?_
    refine mx_iload_n (pc' := 26) dL_steps_25 rfl rfl ?_
    refine mx_icmp_ge (tgt := 102) (pc' := 29) dL_steps_26 (by decide) rfl (fun c26 => ?_) (fun c26 => ?_)
    · try (simp (disch := omega) only [Int32.lt_iff_toInt_lt, Int32.le_iff_toInt_le, ← Int32.toInt_inj, ne_eq, nI_t, z_t, m1_t, m2_t, m3_t, m4_t, m9_t] at c26)
      refine mx_iload_n (pc' := 103) dL_steps_102 rfl rfl ?_
      refine mx_if_eq (tgt := 131) (pc' := 106) dL_steps_103 (by decide) rfl (fun c103 => ?_) (fun c103 => ?_)
      · first | exact absurd rfl c103 | exact absurd c103 (by (simp (disch := omega) only [Int32.lt_iff_toInt_lt, Int32.le_iff_toInt_le, ← Int32.toInt_inj, ne_eq, not_true_eq_false, not_false_eq_true, nI_t, z_t, m1_t, m2_t, m3_t, m4_t, m9_t]) <;> omega)
      · refine mx_iload_n (pc' := 107) dL_steps_106 rfl rfl ?_
        refine mx_bipush (pc' := 109) (v := nI 26) dL_steps_107 (by decide) rfl ?_
        refine mx_ishr (pc' := 110) dL_steps_109 (rfl) rfl ?_
        refine mx_bipush (pc' := 112) (v := nI 6) dL_steps_110 (by decide) rfl ?_
        refine mx_callS (pc' := 115) dL_steps_112 cl_L_34 (t_L_low _ _ _ ⟨by omega, by omega⟩) rfl (by decide) rfl (Nat.le_of_ble_eq_true rfl) rfl (fun v N112 hv => ?_)
        obtain ⟨j112, hj112, rfl, rfl⟩ := hv
        refine mx_if_gt (tgt := 127) (pc' := 118) dL_steps_115 (by decide) rfl (fun c115 => ?_) (fun c115 => ?_)
        · 
          refine mx_iconst (pc' := 128) (v := nI 1) dL_steps_127 (by decide) rfl ?_
          refine mx_goto (pc' := 132) dL_steps_128 (by decide) ?_
          refine mx_iret dL_steps_132 (Or.inr ⟨rfl, by decide⟩) ?_
          exact kq _ _ hC
        · 
          refine mx_aload_n (pc' := 119) dL_steps_118 rfl rfl ?_
          refine mx_bipush (pc' := 121) (v := nI 100) dL_steps_119 (by decide) rfl ?_
          refine mx_callV (pc' := 124) dL_steps_121 cl_L_72 (rfl) (t_app _ Y _ hC (by omega) _ ⟨by omega, by omega⟩) rfl (by decide) rfl (Nat.le_of_ble_eq_true rfl) rfl (fun v N121 hv => ?_)
          obtain ⟨P121, hl121, rfl, hC⟩ := hv
          refine mx_if_le (tgt := 131) (pc' := 127) dL_steps_124 (by decide) rfl (fun c124 => ?_) (fun c124 => ?_)
          · first | exact absurd rfl c124 | exact absurd c124 (by (simp (disch := omega) only [Int32.lt_iff_toInt_lt, Int32.le_iff_toInt_le, ← Int32.toInt_inj, ne_eq, not_true_eq_false, not_false_eq_true, nI_t, z_t, m1_t, m2_t, m3_t, m4_t, m9_t]) <;> omega)
          · refine mx_iconst (pc' := 128) (v := nI 1) dL_steps_127 (by decide) rfl ?_
            refine mx_goto (pc' := 132) dL_steps_128 (by decide) ?_
            refine mx_iret dL_steps_132 (Or.inr ⟨rfl, by decide⟩) ?_
            exact kq _ _ hC
    · try (simp (disch := omega) only [Int32.lt_iff_toInt_lt, Int32.le_iff_toInt_le, ← Int32.toInt_inj, ne_eq, nI_t, z_t, m1_t, m2_t, m3_t, m4_t, m9_t] at c26)
      refine mx_iload_n (pc' := 30) dL_steps_29 rfl rfl ?_
      refine mx_iconst (pc' := 31) (v := nI 1) dL_steps_30 (by decide) rfl ?_
      refine mx_iload (pc' := 33) dL_steps_31 rfl rfl ?_
      refine mx_iadd (pc' := 34) dL_steps_33 (rfl) rfl ?_
      refine mx_ishr (pc' := 35) dL_steps_34 (rfl) rfl ?_
      refine mx_bipush (pc' := 37) (v := nI 12) dL_steps_35 (by decide) rfl ?_
      refine mx_callS (pc' := 40) dL_steps_37 cl_L_34 (t_L_low _ _ _ ⟨by omega, by omega⟩) rfl (by decide) rfl (Nat.le_of_ble_eq_true rfl) rfl (fun v N37 hv => ?_)
      obtain ⟨j37, hj37, rfl, rfl⟩ := hv
      refine mx_xistore (pc' := 42) (ls' := [_, _, _, _, _, _]) dL_steps_40 (by decide) rfl rfl rfl ?_
      generalize hj : j37 = j
      have k84 : ∀ (c : Nat), 33 ≤ c ∧ c ≤ 126 → ∀ {M1}, CoA M1 (yP Y P) → mx_V cL_steps RL 6 (some .boolean) 4 84 [some (.ref 0), some (.int (x)), some (.int (nI n)), some (.int (nI 1)), some (.int (nI k)), some (.int (nI j))] [.int (nI c), .ref 0] M1 Q := by
        intro c hc M1 hC
        refine mx_callV (pc' := 87) dL_steps_84 cl_L_72 (rfl) (t_app _ Y _ hC (by omega) _ ⟨by omega, by omega⟩) rfl (by decide) rfl (Nat.le_of_ble_eq_true rfl) rfl (fun v N84 hv => ?_)
        obtain ⟨P84, hl84, rfl, hC⟩ := hv
        refine mx_if_le (tgt := 94) (pc' := 90) dL_steps_87 (by decide) rfl (fun c87 => ?_) (fun c87 => ?_)
        · first | exact absurd rfl c87 | exact absurd c87 (by (simp (disch := omega) only [Int32.lt_iff_toInt_lt, Int32.le_iff_toInt_le, ← Int32.toInt_inj, ne_eq, not_true_eq_false, not_false_eq_true, nI_t, z_t, m1_t, m2_t, m3_t, m4_t, m9_t]) <;> omega)
        · refine mx_iconst (pc' := 91) (v := nI 1) dL_steps_90 (by decide) rfl ?_
          refine mx_goto (pc' := 95) dL_steps_91 (by decide) ?_
          refine mx_xistore_n (pc' := 96) (ls' := [_, _, _, _, _, _]) dL_steps_95 (by decide) rfl rfl rfl ?_
          refine mx_xiinc (pc' := 99) (ls' := [_, _, _, _, _, _]) (v := nI (k + 1)) dL_steps_96 rfl (nI_add k 1) (by decide) (rfl) rfl rfl ?_
          refine mx_goto (pc' := 23) dL_steps_99 (by decide) ?_
          exact ih (k + 1) _ _ (by omega) (by omega) (by omega) hC
      refine mx_iload_n (pc' := 43) dL_steps_42 rfl rfl ?_
      refine mx_if_eq (tgt := 94) (pc' := 46) dL_steps_43 (by decide) rfl (fun c43 => ?_) (fun c43 => ?_)
      · first | exact absurd rfl c43 | exact absurd c43 (by (simp (disch := omega) only [Int32.lt_iff_toInt_lt, Int32.le_iff_toInt_le, ← Int32.toInt_inj, ne_eq, not_true_eq_false, not_false_eq_true, nI_t, z_t, m1_t, m2_t, m3_t, m4_t, m9_t]) <;> omega)
      · refine mx_aload_n (pc' := 47) dL_steps_46 rfl rfl ?_
        refine mx_iload (pc' := 49) dL_steps_47 rfl rfl ?_
        refine mx_iconst (pc' := 50) (v := nI 4) dL_steps_49 (by decide) rfl ?_
        refine mx_icmp_ge (tgt := 58) (pc' := 53) dL_steps_50 (by decide) rfl (fun c50 => ?_) (fun c50 => ?_)
        · 
          refine mx_iload (pc' := 60) dL_steps_58 rfl rfl ?_
          refine mx_bipush (pc' := 62) (v := nI 7) dL_steps_60 (by decide) rfl ?_
          refine mx_icmp_ge (tgt := 70) (pc' := 65) dL_steps_62 (by decide) rfl (fun c62 => ?_) (fun c62 => ?_)
          · 
            refine mx_iload (pc' := 72) dL_steps_70 rfl rfl ?_
            refine mx_bipush (pc' := 74) (v := nI 11) dL_steps_72 (by decide) rfl ?_
            refine mx_icmp_ge (tgt := 82) (pc' := 77) dL_steps_74 (by decide) rfl (fun c74 => ?_) (fun c74 => ?_)
            · 
              refine mx_bipush (pc' := 84) (v := nI 98) dL_steps_82 (by decide) rfl ?_
              exact k84 _ (by omega) hC
            · 
              refine mx_bipush (pc' := 79) (v := nI 114) dL_steps_77 (by decide) rfl ?_
              refine mx_goto (pc' := 84) dL_steps_79 (by decide) ?_
              exact k84 _ (by omega) hC
          · 
            refine mx_bipush (pc' := 67) (v := nI 108) dL_steps_65 (by decide) rfl ?_
            refine mx_goto (pc' := 84) dL_steps_67 (by decide) ?_
            exact k84 _ (by omega) hC
        · 
          refine mx_bipush (pc' := 55) (v := nI 115) dL_steps_53 (by decide) rfl ?_
          refine mx_goto (pc' := 84) dL_steps_55 (by decide) ?_
          exact k84 _ (by omega) hC

set_option maxHeartbeats 2000000 in
set_option maxRecDepth 10000 in
theorem t_L_steps (M : mx_M) (Y : Sy) (hC : CoA M Y) (x : Int32) : mx_T yL_steps cL_steps 6 (some .boolean) 4 [.ref 0, .int x] M (fun v M' => v = some (.int (nI 1)) ∧ ∃ P, CoA M' (yP Y P)) := by
  refine mx_T.of1 (own := RL) (ls := [some (.ref 0), some (.int x), none, none, none, none]) (by decide +kernel) rfl (Nat.le_of_ble_eq_true rfl) rfl rfl ?_
  refine mx_iload_n (pc' := 1) dL_steps_0 rfl rfl ?_
  refine mx_bipush (pc' := 3) (v := nI 18) dL_steps_1 (by decide) rfl ?_
  refine mx_callS (pc' := 6) dL_steps_3 cl_L_34 (t_L_low _ _ _ ⟨by omega, by omega⟩) rfl (by decide) rfl (Nat.le_of_ble_eq_true rfl) rfl (fun v N3 hv => ?_)
  obtain ⟨j3, hj3, rfl, rfl⟩ := hv
  refine mx_xistore_n (pc' := 7) (ls' := [_, _, _, _, _, _]) dL_steps_6 (by decide) rfl rfl rfl ?_
  have hp60 : Y.2.2.2.length < 2147483648 := by have := hC.2.2.2.2.2.1; omega
  refine mx_aload_n (pc' := 8) dL_steps_7 rfl rfl ?_
  refine mx_callV (pc' := 11) dL_steps_8 cl_L_69 (rfl) (t_clr _ Y hC) rfl (by decide) rfl (Nat.le_of_ble_eq_true rfl) rfl (fun v N8 hv => ?_)
  obtain ⟨rfl, hC⟩ := hv
  refine mx_if_lt (tgt := 18) (pc' := 14) dL_steps_11 (by decide) rfl (fun c11 => ?_) (fun c11 => ?_)
  · exact absurd c11 (Int32.not_lt.mpr (nI_p0 hp60))
  · refine mx_iconst (pc' := 15) (v := nI 1) dL_steps_14 (by decide) rfl ?_
    refine mx_goto (pc' := 19) dL_steps_15 (by decide) ?_
    refine mx_xistore_n (pc' := 20) (ls' := [_, _, _, _, _, _]) dL_steps_19 (by decide) rfl rfl rfl ?_
    refine mx_iconst (pc' := 21) (v := nI 0) dL_steps_20 (by decide) rfl ?_
    refine mx_xistore (pc' := 23) (ls' := [_, _, _, _, _, _]) dL_steps_21 (by decide) rfl rfl rfl ?_
    exact l_steps Y _ (fun M1 P h => ⟨rfl, P, h⟩) x _ hj3 18 0 _ [] (by omega) (by omega) (by show 0 ≤ 0; omega) hC

set_option maxHeartbeats 2000000 in
set_option maxRecDepth 10000 in
theorem l_curtain (Y : Sy) (Q : Option Value → mx_M → Prop) (kq : ∀ M1 P, CoA M1 (yP Y P) → Q (some (.int (nI 1))) M1) (x : Int32) (n : Nat) (hn : n < 6) : ∀ (f k : Nat) (z1 z2 : Option Value) (P : List Nat) {M1 : mx_M}, n < k + f → k ≤ n → P.length ≤ 6 * k → CoA M1 (yP Y P) → mx_V cL_curtain RL 7 (some .boolean) 4 23 [some (.ref 0), some (.int (x)), some (.int (nI n)), some (.int (nI 1)), some (.int (nI k)), z1, z2] [] M1 Q := by
  intro f
  induction f with
  | zero =>
    intro k z1 z2 P M1 hk hi hP hC
    exact absurd hk (by omega)
  | succ f ih =>
    intro k z1 z2 P M1 hk hi hP hC
    refine mx_iload (pc' := 25) dL_curtain_23 rfl rfl ?_
    refine mx_iload_n (pc' := 26) dL_curtain_25 rfl rfl ?_
    refine mx_icmp_ge (tgt := 278) (pc' := 29) dL_curtain_26 (by decide) rfl (fun c26 => ?_) (fun c26 => ?_)
    · try (simp (disch := omega) only [Int32.lt_iff_toInt_lt, Int32.le_iff_toInt_le, ← Int32.toInt_inj, ne_eq, nI_t, z_t, m1_t, m2_t, m3_t, m4_t, m9_t] at c26)
      refine mx_iload_n (pc' := 279) dL_curtain_278 rfl rfl ?_
      refine mx_if_eq (tgt := 307) (pc' := 282) dL_curtain_279 (by decide) rfl (fun c279 => ?_) (fun c279 => ?_)
      · first | exact absurd rfl c279 | exact absurd c279 (by (simp (disch := omega) only [Int32.lt_iff_toInt_lt, Int32.le_iff_toInt_le, ← Int32.toInt_inj, ne_eq, not_true_eq_false, not_false_eq_true, nI_t, z_t, m1_t, m2_t, m3_t, m4_t, m9_t]) <;> omega)
      · refine mx_iload_n (pc' := 283) dL_curtain_282 rfl rfl ?_
        refine mx_bipush (pc' := 285) (v := nI 26) dL_curtain_283 (by decide) rfl ?_
        refine mx_ishr (pc' := 286) dL_curtain_285 (rfl) rfl ?_
        refine mx_bipush (pc' := 288) (v := nI 6) dL_curtain_286 (by decide) rfl ?_
        refine mx_callS (pc' := 291) dL_curtain_288 cl_L_34 (t_L_low _ _ _ ⟨by omega, by omega⟩) rfl (by decide) rfl (Nat.le_of_ble_eq_true rfl) rfl (fun v N288 hv => ?_)
        obtain ⟨j288, hj288, rfl, rfl⟩ := hv
        refine mx_if_gt (tgt := 303) (pc' := 294) dL_curtain_291 (by decide) rfl (fun c291 => ?_) (fun c291 => ?_)
        · 
          refine mx_iconst (pc' := 304) (v := nI 1) dL_curtain_303 (by decide) rfl ?_
          refine mx_goto (pc' := 308) dL_curtain_304 (by decide) ?_
          refine mx_iret dL_curtain_308 (Or.inr ⟨rfl, by decide⟩) ?_
          exact kq _ _ hC
        · 
          refine mx_aload_n (pc' := 295) dL_curtain_294 rfl rfl ?_
          refine mx_bipush (pc' := 297) (v := nI 59) dL_curtain_295 (by decide) rfl ?_
          refine mx_callV (pc' := 300) dL_curtain_297 cl_L_72 (rfl) (t_app _ Y _ hC (by omega) _ ⟨by omega, by omega⟩) rfl (by decide) rfl (Nat.le_of_ble_eq_true rfl) rfl (fun v N297 hv => ?_)
          obtain ⟨P297, hl297, rfl, hC⟩ := hv
          refine mx_if_le (tgt := 307) (pc' := 303) dL_curtain_300 (by decide) rfl (fun c300 => ?_) (fun c300 => ?_)
          · first | exact absurd rfl c300 | exact absurd c300 (by (simp (disch := omega) only [Int32.lt_iff_toInt_lt, Int32.le_iff_toInt_le, ← Int32.toInt_inj, ne_eq, not_true_eq_false, not_false_eq_true, nI_t, z_t, m1_t, m2_t, m3_t, m4_t, m9_t]) <;> omega)
          · refine mx_iconst (pc' := 304) (v := nI 1) dL_curtain_303 (by decide) rfl ?_
            refine mx_goto (pc' := 308) dL_curtain_304 (by decide) ?_
            refine mx_iret dL_curtain_308 (Or.inr ⟨rfl, by decide⟩) ?_
            exact kq _ _ hC
    · try (simp (disch := omega) only [Int32.lt_iff_toInt_lt, Int32.le_iff_toInt_le, ← Int32.toInt_inj, ne_eq, nI_t, z_t, m1_t, m2_t, m3_t, m4_t, m9_t] at c26)
      have k65 : ∀ (y : Int32) (j : Nat) (z : Option Value), j < 7 → ∀ {M1}, CoA M1 (yP Y P) → mx_V cL_curtain RL 7 (some .boolean) 4 65 [some (.ref 0), some (.int (x)), some (.int (nI n)), some (.int (nI 1)), some (.int (nI k)), some (.int (y)), z] [.int (nI j)] M1 Q := by
        intro y j z hj M1 hC
        have k266 : ∀ (P : List Nat), P.length ≤ 6 * k + 6 →  ∀ {M1}, CoA M1 (yP Y P) → mx_V cL_curtain RL 7 (some .boolean) 4 266 [some (.ref 0), some (.int (x)), some (.int (nI n)), some (.int (nI 1)), some (.int (nI k)), some (.int (y)), some (.int (nI j))] [] M1 Q := by
          intro P hP  M1 hC
          refine mx_iconst (pc' := 267) (v := nI 1) dL_curtain_266 (by decide) rfl ?_
          refine mx_goto (pc' := 271) dL_curtain_267 (by decide) ?_
          refine mx_xistore_n (pc' := 272) (ls' := [_, _, _, _, _, _, _]) dL_curtain_271 (by decide) rfl rfl rfl ?_
          refine mx_xiinc (pc' := 275) (ls' := [_, _, _, _, _, _, _]) (v := nI (k + 1)) dL_curtain_272 rfl (nI_add k 1) (by decide) (rfl) rfl rfl ?_
          refine mx_goto (pc' := 23) dL_curtain_275 (by decide) ?_
          exact ih (k + 1) _ _ _ (by omega) (by omega) (by omega) hC
        have k221 : ∀ (P : List Nat), P.length ≤ 6 * k + 3 → ∀ (c : Nat), 33 ≤ c ∧ c ≤ 126 → ∀ {M1}, CoA M1 (yP Y P) → mx_V cL_curtain RL 7 (some .boolean) 4 221 [some (.ref 0), some (.int (x)), some (.int (nI n)), some (.int (nI 1)), some (.int (nI k)), some (.int (y)), some (.int (nI j))] [.int (nI c), .ref 0] M1 Q := by
          intro P hP c hc M1 hC
          refine mx_callV (pc' := 224) dL_curtain_221 cl_L_72 (rfl) (t_app _ Y _ hC (by omega) _ ⟨by omega, by omega⟩) rfl (by decide) rfl (Nat.le_of_ble_eq_true rfl) rfl (fun v N221 hv => ?_)
          obtain ⟨P221, hl221, rfl, hC⟩ := hv
          refine mx_if_le (tgt := 270) (pc' := 227) dL_curtain_224 (by decide) rfl (fun c224 => ?_) (fun c224 => ?_)
          · first | exact absurd rfl c224 | exact absurd c224 (by (simp (disch := omega) only [Int32.lt_iff_toInt_lt, Int32.le_iff_toInt_le, ← Int32.toInt_inj, ne_eq, not_true_eq_false, not_false_eq_true, nI_t, z_t, m1_t, m2_t, m3_t, m4_t, m9_t]) <;> omega)
          · refine mx_iload (pc' := 229) dL_curtain_227 rfl rfl ?_
            refine mx_bipush (pc' := 231) (v := nI 6) dL_curtain_229 (by decide) rfl ?_
            refine mx_ishr (pc' := 232) dL_curtain_231 (rfl) rfl ?_
            refine mx_iconst (pc' := 233) (v := nI 3) dL_curtain_232 (by decide) rfl ?_
            refine mx_callS (pc' := 236) dL_curtain_233 cl_L_34 (t_L_low _ _ _ ⟨by omega, by omega⟩) rfl (by decide) rfl (Nat.le_of_ble_eq_true rfl) rfl (fun v N233 hv => ?_)
            obtain ⟨j233, hj233, rfl, rfl⟩ := hv
            refine mx_if_gt (tgt := 266) (pc' := 239) dL_curtain_236 (by decide) rfl (fun c236 => ?_) (fun c236 => ?_)
            · 
              exact k266 _ (by omega) hC
            · 
              refine mx_aload_n (pc' := 240) dL_curtain_239 rfl rfl ?_
              refine mx_bipush (pc' := 242) (v := nI 43) dL_curtain_240 (by decide) rfl ?_
              refine mx_callV (pc' := 245) dL_curtain_242 cl_L_72 (rfl) (t_app _ Y _ hC (by omega) _ ⟨by omega, by omega⟩) rfl (by decide) rfl (Nat.le_of_ble_eq_true rfl) rfl (fun v N242 hv => ?_)
              obtain ⟨P242, hl242, rfl, hC⟩ := hv
              refine mx_if_le (tgt := 270) (pc' := 248) dL_curtain_245 (by decide) rfl (fun c245 => ?_) (fun c245 => ?_)
              · first | exact absurd rfl c245 | exact absurd c245 (by (simp (disch := omega) only [Int32.lt_iff_toInt_lt, Int32.le_iff_toInt_le, ← Int32.toInt_inj, ne_eq, not_true_eq_false, not_false_eq_true, nI_t, z_t, m1_t, m2_t, m3_t, m4_t, m9_t]) <;> omega)
              · refine mx_aload_n (pc' := 249) dL_curtain_248 rfl rfl ?_
                refine mx_bipush (pc' := 251) (v := nI 48) dL_curtain_249 (by decide) rfl ?_
                refine mx_iload (pc' := 253) dL_curtain_251 rfl rfl ?_
                refine mx_iconst (pc' := 254) (v := nI 5) dL_curtain_253 (by decide) rfl ?_
                refine mx_ishr (pc' := 255) dL_curtain_254 (rfl) rfl ?_
                refine mx_iconst (pc' := 256) (v := nI 3) dL_curtain_255 (by decide) rfl ?_
                refine mx_callS (pc' := 259) dL_curtain_256 cl_L_34 (t_L_low _ _ _ ⟨by omega, by omega⟩) rfl (by decide) rfl (Nat.le_of_ble_eq_true rfl) rfl (fun v N256 hv => ?_)
                obtain ⟨j256, hj256, rfl, rfl⟩ := hv
                refine mx_iadd (pc' := 260) (v := nI (48 + j256)) dL_curtain_259 (nI_add _ _) rfl ?_
                refine mx_callV (pc' := 263) dL_curtain_260 cl_L_72 (rfl) (t_app _ Y _ hC (by omega) _ ⟨by omega, by omega⟩) rfl (by decide) rfl (Nat.le_of_ble_eq_true rfl) rfl (fun v N260 hv => ?_)
                obtain ⟨P260, hl260, rfl, hC⟩ := hv
                refine mx_if_le (tgt := 270) (pc' := 266) dL_curtain_263 (by decide) rfl (fun c263 => ?_) (fun c263 => ?_)
                · first | exact absurd rfl c263 | exact absurd c263 (by (simp (disch := omega) only [Int32.lt_iff_toInt_lt, Int32.le_iff_toInt_le, ← Int32.toInt_inj, ne_eq, not_true_eq_false, not_false_eq_true, nI_t, z_t, m1_t, m2_t, m3_t, m4_t, m9_t]) <;> omega)
                · exact k266 _ (by omega) hC
        have k170 : ∀ (P : List Nat), P.length ≤ 6 * k + 2 → ∀ (c : Nat), 33 ≤ c ∧ c ≤ 126 → ∀ {M1}, CoA M1 (yP Y P) → mx_V cL_curtain RL 7 (some .boolean) 4 170 [some (.ref 0), some (.int (x)), some (.int (nI n)), some (.int (nI 1)), some (.int (nI k)), some (.int (y)), some (.int (nI j))] [.int (nI c), .ref 0] M1 Q := by
          intro P hP c hc M1 hC
          refine mx_callV (pc' := 173) dL_curtain_170 cl_L_72 (rfl) (t_app _ Y _ hC (by omega) _ ⟨by omega, by omega⟩) rfl (by decide) rfl (Nat.le_of_ble_eq_true rfl) rfl (fun v N170 hv => ?_)
          obtain ⟨P170, hl170, rfl, hC⟩ := hv
          refine mx_if_le (tgt := 270) (pc' := 176) dL_curtain_173 (by decide) rfl (fun c173 => ?_) (fun c173 => ?_)
          · first | exact absurd rfl c173 | exact absurd c173 (by (simp (disch := omega) only [Int32.lt_iff_toInt_lt, Int32.le_iff_toInt_le, ← Int32.toInt_inj, ne_eq, not_true_eq_false, not_false_eq_true, nI_t, z_t, m1_t, m2_t, m3_t, m4_t, m9_t]) <;> omega)
          · refine mx_aload_n (pc' := 177) dL_curtain_176 rfl rfl ?_
            refine mx_bipush (pc' := 179) (v := nI 48) dL_curtain_177 (by decide) rfl ?_
            refine mx_iload (pc' := 181) dL_curtain_179 rfl rfl ?_
            refine mx_iconst (pc' := 182) (v := nI 4) dL_curtain_181 (by decide) rfl ?_
            refine mx_ishr (pc' := 183) dL_curtain_182 (rfl) rfl ?_
            refine mx_iload_n (pc' := 184) dL_curtain_183 rfl rfl ?_
            refine mx_bipush (pc' := 186) (v := nI 24) dL_curtain_184 (by decide) rfl ?_
            refine mx_ishr (pc' := 187) dL_curtain_186 (rfl) rfl ?_
            refine mx_iconst (pc' := 188) (v := nI 5) dL_curtain_187 (by decide) rfl ?_
            refine mx_callS (pc' := 191) dL_curtain_188 cl_L_34 (t_L_low _ _ _ ⟨by omega, by omega⟩) rfl (by decide) rfl (Nat.le_of_ble_eq_true rfl) rfl (fun v N188 hv => ?_)
            obtain ⟨j188, hj188, rfl, rfl⟩ := hv
            refine mx_if_ne (tgt := 198) (pc' := 194) dL_curtain_191 (by decide) rfl (fun c191 => ?_) (fun c191 => ?_)
            · 
              refine mx_bipush (pc' := 200) (v := nI 9) dL_curtain_198 (by decide) rfl ?_
              refine mx_callS (pc' := 203) dL_curtain_200 cl_L_34 (t_L_low _ _ _ ⟨by omega, by omega⟩) rfl (by decide) rfl (Nat.le_of_ble_eq_true rfl) rfl (fun v N200 hv => ?_)
              obtain ⟨j200, hj200, rfl, rfl⟩ := hv
              refine mx_iadd (pc' := 204) (v := nI (48 + j200)) dL_curtain_203 (nI_add _ _) rfl ?_
              refine mx_iload_n (pc' := 205) dL_curtain_204 rfl rfl ?_
              refine mx_bipush (pc' := 207) (v := nI 24) dL_curtain_205 (by decide) rfl ?_
              refine mx_ishr (pc' := 208) dL_curtain_207 (rfl) rfl ?_
              refine mx_iconst (pc' := 209) (v := nI 5) dL_curtain_208 (by decide) rfl ?_
              refine mx_callS (pc' := 212) dL_curtain_209 cl_L_34 (t_L_low _ _ _ ⟨by omega, by omega⟩) rfl (by decide) rfl (Nat.le_of_ble_eq_true rfl) rfl (fun v N209 hv => ?_)
              obtain ⟨j209, hj209, rfl, rfl⟩ := hv
              refine mx_if_ne (tgt := 219) (pc' := 215) dL_curtain_212 (by decide) rfl (fun c212 => ?_) (fun c212 => ?_)
              · 
                refine mx_iconst (pc' := 220) (v := nI 1) dL_curtain_219 (by decide) rfl ?_
                refine mx_iadd (pc' := 221) (v := nI (48 + j200 + 1)) dL_curtain_220 (nI_add _ _) rfl ?_
                exact k221 _ (by omega) _ ⟨by omega, by omega⟩ hC
              · 
                refine mx_iconst (pc' := 216) (v := nI 0) dL_curtain_215 (by decide) rfl ?_
                refine mx_goto (pc' := 220) dL_curtain_216 (by decide) ?_
                refine mx_iadd (pc' := 221) (v := nI (48 + j200 + 0)) dL_curtain_220 (nI_add _ _) rfl ?_
                exact k221 _ (by omega) _ ⟨by omega, by omega⟩ hC
            · 
              refine mx_iconst (pc' := 195) (v := nI 5) dL_curtain_194 (by decide) rfl ?_
              refine mx_goto (pc' := 200) dL_curtain_195 (by decide) ?_
              refine mx_callS (pc' := 203) dL_curtain_200 cl_L_34 (t_L_low _ _ _ ⟨by omega, by omega⟩) rfl (by decide) rfl (Nat.le_of_ble_eq_true rfl) rfl (fun v N200 hv => ?_)
              obtain ⟨j200, hj200, rfl, rfl⟩ := hv
              refine mx_iadd (pc' := 204) (v := nI (48 + j200)) dL_curtain_203 (nI_add _ _) rfl ?_
              refine mx_iload_n (pc' := 205) dL_curtain_204 rfl rfl ?_
              refine mx_bipush (pc' := 207) (v := nI 24) dL_curtain_205 (by decide) rfl ?_
              refine mx_ishr (pc' := 208) dL_curtain_207 (rfl) rfl ?_
              refine mx_iconst (pc' := 209) (v := nI 5) dL_curtain_208 (by decide) rfl ?_
              refine mx_callS (pc' := 212) dL_curtain_209 cl_L_34 (t_L_low _ _ _ ⟨by omega, by omega⟩) rfl (by decide) rfl (Nat.le_of_ble_eq_true rfl) rfl (fun v N209 hv => ?_)
              obtain ⟨j209, hj209, rfl, rfl⟩ := hv
              refine mx_if_ne (tgt := 219) (pc' := 215) dL_curtain_212 (by decide) rfl (fun c212 => ?_) (fun c212 => ?_)
              · 
                refine mx_iconst (pc' := 220) (v := nI 1) dL_curtain_219 (by decide) rfl ?_
                refine mx_iadd (pc' := 221) (v := nI (48 + j200 + 1)) dL_curtain_220 (nI_add _ _) rfl ?_
                exact k221 _ (by omega) _ ⟨by omega, by omega⟩ hC
              · 
                refine mx_iconst (pc' := 216) (v := nI 0) dL_curtain_215 (by decide) rfl ?_
                refine mx_goto (pc' := 220) dL_curtain_216 (by decide) ?_
                refine mx_iadd (pc' := 221) (v := nI (48 + j200 + 0)) dL_curtain_220 (nI_add _ _) rfl ?_
                exact k221 _ (by omega) _ ⟨by omega, by omega⟩ hC
        have k85 : ∀ (P : List Nat), P.length ≤ 6 * k + 1 →  ∀ {M1}, CoA M1 (yP Y P) → mx_V cL_curtain RL 7 (some .boolean) 4 85 [some (.ref 0), some (.int (x)), some (.int (nI n)), some (.int (nI 1)), some (.int (nI k)), some (.int (y)), some (.int (nI j))] [] M1 Q := by
          intro P hP  M1 hC
          refine mx_aload_n (pc' := 86) dL_curtain_85 rfl rfl ?_
          refine mx_bipush (pc' := 88) (v := nI 48) dL_curtain_86 (by decide) rfl ?_
          refine mx_iload (pc' := 90) dL_curtain_88 rfl rfl ?_
          refine mx_bipush (pc' := 92) (v := nI 10) dL_curtain_90 (by decide) rfl ?_
          refine mx_callS (pc' := 95) dL_curtain_92 cl_L_34 (t_L_low _ _ _ ⟨by omega, by omega⟩) rfl (by decide) rfl (Nat.le_of_ble_eq_true rfl) rfl (fun v N92 hv => ?_)
          obtain ⟨j92, hj92, rfl, rfl⟩ := hv
          refine mx_iadd (pc' := 96) (v := nI (48 + j92)) dL_curtain_95 (nI_add _ _) rfl ?_
          refine mx_callV (pc' := 99) dL_curtain_96 cl_L_72 (rfl) (t_app _ Y _ hC (by omega) _ ⟨by omega, by omega⟩) rfl (by decide) rfl (Nat.le_of_ble_eq_true rfl) rfl (fun v N96 hv => ?_)
          obtain ⟨P96, hl96, rfl, hC⟩ := hv
          refine mx_if_le (tgt := 270) (pc' := 102) dL_curtain_99 (by decide) rfl (fun c99 => ?_) (fun c99 => ?_)
          · first | exact absurd rfl c99 | exact absurd c99 (by (simp (disch := omega) only [Int32.lt_iff_toInt_lt, Int32.le_iff_toInt_le, ← Int32.toInt_inj, ne_eq, not_true_eq_false, not_false_eq_true, nI_t, z_t, m1_t, m2_t, m3_t, m4_t, m9_t]) <;> omega)
          · refine mx_aload_n (pc' := 103) dL_curtain_102 rfl rfl ?_
            refine mx_iload (pc' := 105) dL_curtain_103 rfl rfl ?_
            refine mx_if_ne (tgt := 113) (pc' := 108) dL_curtain_105 (by decide) rfl (fun c105 => ?_) (fun c105 => ?_)
            · 
              refine mx_iload (pc' := 115) dL_curtain_113 rfl rfl ?_
              refine mx_iconst (pc' := 116) (v := nI 1) dL_curtain_115 (by decide) rfl ?_
              refine mx_icmp_ne (tgt := 124) (pc' := 119) dL_curtain_116 (by decide) rfl (fun c116 => ?_) (fun c116 => ?_)
              · 
                refine mx_iload (pc' := 126) dL_curtain_124 rfl rfl ?_
                refine mx_iconst (pc' := 127) (v := nI 2) dL_curtain_126 (by decide) rfl ?_
                refine mx_icmp_ne (tgt := 135) (pc' := 130) dL_curtain_127 (by decide) rfl (fun c127 => ?_) (fun c127 => ?_)
                · 
                  refine mx_iload (pc' := 137) dL_curtain_135 rfl rfl ?_
                  refine mx_iconst (pc' := 138) (v := nI 3) dL_curtain_137 (by decide) rfl ?_
                  refine mx_icmp_ne (tgt := 146) (pc' := 141) dL_curtain_138 (by decide) rfl (fun c138 => ?_) (fun c138 => ?_)
                  · 
                    refine mx_iload (pc' := 148) dL_curtain_146 rfl rfl ?_
                    refine mx_iconst (pc' := 149) (v := nI 4) dL_curtain_148 (by decide) rfl ?_
                    refine mx_icmp_ne (tgt := 157) (pc' := 152) dL_curtain_149 (by decide) rfl (fun c149 => ?_) (fun c149 => ?_)
                    · 
                      refine mx_iload (pc' := 159) dL_curtain_157 rfl rfl ?_
                      refine mx_iconst (pc' := 160) (v := nI 5) dL_curtain_159 (by decide) rfl ?_
                      refine mx_icmp_ne (tgt := 168) (pc' := 163) dL_curtain_160 (by decide) rfl (fun c160 => ?_) (fun c160 => ?_)
                      · 
                        refine mx_bipush (pc' := 170) (v := nI 115) dL_curtain_168 (by decide) rfl ?_
                        exact k170 _ (by omega) _ (by omega) hC
                      · 
                        refine mx_bipush (pc' := 165) (v := nI 102) dL_curtain_163 (by decide) rfl ?_
                        refine mx_goto (pc' := 170) dL_curtain_165 (by decide) ?_
                        exact k170 _ (by omega) _ (by omega) hC
                    · 
                      refine mx_bipush (pc' := 154) (v := nI 97) dL_curtain_152 (by decide) rfl ?_
                      refine mx_goto (pc' := 170) dL_curtain_154 (by decide) ?_
                      exact k170 _ (by omega) _ (by omega) hC
                  · 
                    refine mx_bipush (pc' := 143) (v := nI 119) dL_curtain_141 (by decide) rfl ?_
                    refine mx_goto (pc' := 170) dL_curtain_143 (by decide) ?_
                    exact k170 _ (by omega) _ (by omega) hC
                · 
                  refine mx_bipush (pc' := 132) (v := nI 114) dL_curtain_130 (by decide) rfl ?_
                  refine mx_goto (pc' := 170) dL_curtain_132 (by decide) ?_
                  exact k170 _ (by omega) _ (by omega) hC
              · 
                refine mx_bipush (pc' := 121) (v := nI 108) dL_curtain_119 (by decide) rfl ?_
                refine mx_goto (pc' := 170) dL_curtain_121 (by decide) ?_
                exact k170 _ (by omega) _ (by omega) hC
            · 
              refine mx_bipush (pc' := 110) (v := nI 100) dL_curtain_108 (by decide) rfl ?_
              refine mx_goto (pc' := 170) dL_curtain_110 (by decide) ?_
              exact k170 _ (by omega) _ (by omega) hC
        refine mx_xistore (pc' := 67) (ls' := [_, _, _, _, _, _, _]) dL_curtain_65 (by decide) rfl rfl rfl ?_
        refine mx_iload_n (pc' := 68) dL_curtain_67 rfl rfl ?_
        refine mx_if_eq (tgt := 270) (pc' := 71) dL_curtain_68 (by decide) rfl (fun c68 => ?_) (fun c68 => ?_)
        · first | exact absurd rfl c68 | exact absurd c68 (by (simp (disch := omega) only [Int32.lt_iff_toInt_lt, Int32.le_iff_toInt_le, ← Int32.toInt_inj, ne_eq, not_true_eq_false, not_false_eq_true, nI_t, z_t, m1_t, m2_t, m3_t, m4_t, m9_t]) <;> omega)
        · refine mx_iload (pc' := 73) dL_curtain_71 rfl rfl ?_
          refine mx_if_eq (tgt := 85) (pc' := 76) dL_curtain_73 (by decide) rfl (fun c73 => ?_) (fun c73 => ?_)
          · 
            exact k85 _ (by omega) hC
          · 
            refine mx_aload_n (pc' := 77) dL_curtain_76 rfl rfl ?_
            refine mx_bipush (pc' := 79) (v := nI 59) dL_curtain_77 (by decide) rfl ?_
            refine mx_callV (pc' := 82) dL_curtain_79 cl_L_72 (rfl) (t_app _ Y _ hC (by omega) _ ⟨by omega, by omega⟩) rfl (by decide) rfl (Nat.le_of_ble_eq_true rfl) rfl (fun v N79 hv => ?_)
            obtain ⟨P79, hl79, rfl, hC⟩ := hv
            refine mx_if_le (tgt := 270) (pc' := 85) dL_curtain_82 (by decide) rfl (fun c82 => ?_) (fun c82 => ?_)
            · first | exact absurd rfl c82 | exact absurd c82 (by (simp (disch := omega) only [Int32.lt_iff_toInt_lt, Int32.le_iff_toInt_le, ← Int32.toInt_inj, ne_eq, not_true_eq_false, not_false_eq_true, nI_t, z_t, m1_t, m2_t, m3_t, m4_t, m9_t]) <;> omega)
            · exact k85 _ (by omega) hC
      refine mx_iload_n (pc' := 30) dL_curtain_29 rfl rfl ?_
      refine mx_iconst (pc' := 31) (v := nI 2) dL_curtain_30 (by decide) rfl ?_
      refine mx_iconst (pc' := 32) (v := nI 4) dL_curtain_31 (by decide) rfl ?_
      refine mx_iload (pc' := 34) dL_curtain_32 rfl rfl ?_
      refine mx_imul (pc' := 35) dL_curtain_34 (rfl) rfl ?_
      refine mx_iadd (pc' := 36) dL_curtain_35 (rfl) rfl ?_
      refine mx_ishr (pc' := 37) dL_curtain_36 (rfl) rfl ?_
      refine mx_xistore (pc' := 39) (ls' := [_, _, _, _, _, _, _]) dL_curtain_37 (by decide) rfl rfl rfl ?_
      refine mx_iload (pc' := 41) dL_curtain_39 rfl rfl ?_
      refine mx_iconst (pc' := 42) (v := nI 3) dL_curtain_41 (by decide) rfl ?_
      refine mx_ishr (pc' := 43) dL_curtain_42 (rfl) rfl ?_
      refine mx_iload_n (pc' := 44) dL_curtain_43 rfl rfl ?_
      refine mx_bipush (pc' := 46) (v := nI 23) dL_curtain_44 (by decide) rfl ?_
      refine mx_ishr (pc' := 47) dL_curtain_46 (rfl) rfl ?_
      refine mx_bipush (pc' := 49) (v := nI 9) dL_curtain_47 (by decide) rfl ?_
      refine mx_callS (pc' := 52) dL_curtain_49 cl_L_34 (t_L_low _ _ _ ⟨by omega, by omega⟩) rfl (by decide) rfl (Nat.le_of_ble_eq_true rfl) rfl (fun v N49 hv => ?_)
      obtain ⟨j49, hj49, rfl, rfl⟩ := hv
      refine mx_if_ne (tgt := 60) (pc' := 55) dL_curtain_52 (by decide) rfl (fun c52 => ?_) (fun c52 => ?_)
      · 
        refine mx_bipush (pc' := 62) (v := nI 6) dL_curtain_60 (by decide) rfl ?_
        refine mx_callS (pc' := 65) dL_curtain_62 cl_L_34 (t_L_low _ _ _ ⟨by omega, by omega⟩) rfl (by decide) rfl (Nat.le_of_ble_eq_true rfl) rfl (fun v N62 hv => ?_)
        obtain ⟨j62, hj62, rfl, rfl⟩ := hv
        exact k65 _ _ _ (by omega) hC
      · 
        refine mx_bipush (pc' := 57) (v := nI 7) dL_curtain_55 (by decide) rfl ?_
        refine mx_goto (pc' := 62) dL_curtain_57 (by decide) ?_
        refine mx_callS (pc' := 65) dL_curtain_62 cl_L_34 (t_L_low _ _ _ ⟨by omega, by omega⟩) rfl (by decide) rfl (Nat.le_of_ble_eq_true rfl) rfl (fun v N62 hv => ?_)
        obtain ⟨j62, hj62, rfl, rfl⟩ := hv
        exact k65 _ _ _ (by omega) hC

set_option maxHeartbeats 2000000 in
set_option maxRecDepth 10000 in
theorem t_L_curtain (M : mx_M) (Y : Sy) (hC : CoA M Y) (x : Int32) : mx_T yL_curtain cL_curtain 7 (some .boolean) 4 [.ref 0, .int x] M (fun v M' => v = some (.int (nI 1)) ∧ ∃ P, CoA M' (yP Y P)) := by
  refine mx_T.of1 (own := RL) (ls := [some (.ref 0), some (.int x), none, none, none, none, none]) (by decide +kernel) rfl (Nat.le_of_ble_eq_true rfl) rfl rfl ?_
  refine mx_iload_n (pc' := 1) dL_curtain_0 rfl rfl ?_
  refine mx_bipush (pc' := 3) (v := nI 6) dL_curtain_1 (by decide) rfl ?_
  refine mx_callS (pc' := 6) dL_curtain_3 cl_L_34 (t_L_low _ _ _ ⟨by omega, by omega⟩) rfl (by decide) rfl (Nat.le_of_ble_eq_true rfl) rfl (fun v N3 hv => ?_)
  obtain ⟨j3, hj3, rfl, rfl⟩ := hv
  refine mx_xistore_n (pc' := 7) (ls' := [_, _, _, _, _, _, _]) dL_curtain_6 (by decide) rfl rfl rfl ?_
  have hp60 : Y.2.2.2.length < 2147483648 := by have := hC.2.2.2.2.2.1; omega
  refine mx_aload_n (pc' := 8) dL_curtain_7 rfl rfl ?_
  refine mx_callV (pc' := 11) dL_curtain_8 cl_L_69 (rfl) (t_clr _ Y hC) rfl (by decide) rfl (Nat.le_of_ble_eq_true rfl) rfl (fun v N8 hv => ?_)
  obtain ⟨rfl, hC⟩ := hv
  refine mx_if_lt (tgt := 18) (pc' := 14) dL_curtain_11 (by decide) rfl (fun c11 => ?_) (fun c11 => ?_)
  · exact absurd c11 (Int32.not_lt.mpr (nI_p0 hp60))
  · refine mx_iconst (pc' := 15) (v := nI 1) dL_curtain_14 (by decide) rfl ?_
    refine mx_goto (pc' := 19) dL_curtain_15 (by decide) ?_
    refine mx_xistore_n (pc' := 20) (ls' := [_, _, _, _, _, _, _]) dL_curtain_19 (by decide) rfl rfl rfl ?_
    refine mx_iconst (pc' := 21) (v := nI 0) dL_curtain_20 (by decide) rfl ?_
    refine mx_xistore (pc' := 23) (ls' := [_, _, _, _, _, _, _]) dL_curtain_21 (by decide) rfl rfl rfl ?_
    exact l_curtain Y _ (fun M1 P h => ⟨rfl, P, h⟩) x _ hj3 6 0 _ _ [] (by omega) (by omega) (by show 0 ≤ 6 * 0; omega) hC

