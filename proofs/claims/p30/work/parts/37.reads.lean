/-! reads: the text that was typed is hung or played -/
theorem t_flt0 (M : mx_M) (Y : Sy) (hC : CoA M Y) {z : Int32} (hz : crF Y.2.2.2 = z) : mx_T yX7_fault cX7_fault 2 (some .int) 6 [.ref 0, .int (nI 0)] M (fun v M' => v = some (.int z) ∧ CoA M' Y ∧ Mo M M') := (t_X7_fault M Y hC (nI 0)).post fun v M' h => ⟨h.1.trans (by unfold oFault; rw [if_pos (show nI 0 = 0 from rfl), hz]), h.2⟩
theorem t_flt1 (M : mx_M) (Y : Sy) (hC : CoA M Y) {z : Int32} (hz : stF Y.2.2.2 = z) : mx_T yX7_fault cX7_fault 2 (some .int) 6 [.ref 0, .int (nI 1)] M (fun v M' => v = some (.int z) ∧ CoA M' Y ∧ Mo M M') := (t_X7_fault M Y hC (nI 1)).post fun v M' h => ⟨h.1.trans (by unfold oFault; rw [if_neg (by decide), if_pos rfl, hz]), h.2⟩
def hangY (Y : Sy) : Sy := ((crE Y.2.2.2, Y.1.2.1, Y.1.2.2.1, Y.1.2.2.2), hPush Y.1 Y.2.1, Y.2.2.1, [])
def playY (Y : Sy) : Sy := ((plR Y.2.2.2 Y.1).2, hPush Y.1 Y.2.1, Y.2.2.1, [])
theorem t_hangA (M : mx_M) (Y : Sy) (hC : CoA M Y) (hz : crF Y.2.2.2 = (-4)) : mx_T yX7_hang cX7_hang 1 (some .int) 6 [.ref 0] M (fun v M' => v = some (.int (nI (crE Y.2.2.2).length)) ∧ CoA M' (hangY Y) ∧ Mo M M') := by
  have e : oHang Y = (nI (crE Y.2.2.2).length, hangY Y) := if_pos hz
  have h := t_X7_hang M Y hC
  rw [e] at h
  exact h
theorem t_hangB (M : mx_M) (Y : Sy) (hC : CoA M Y) (hz : ¬ crF Y.2.2.2 = (-4)) : mx_T yX7_hang cX7_hang 1 (some .int) 6 [.ref 0] M (fun v M' => v = some (.int (-2)) ∧ CoA M' Y ∧ Mo M M') := by
  have e : oHang Y = ((-2), Y) := if_neg hz
  have h := t_X7_hang M Y hC
  rw [e] at h
  exact h
theorem t_playA (M : mx_M) (Y : Sy) (hC : CoA M Y) (ht : Y.1.2.2.1 3 + 100 < 2147483648) (hz : stF Y.2.2.2 = (-4)) : mx_T yX7_play cX7_play 2 (some .int) 7 [.ref 0] M (fun v M' => v = some (.int (nI (plR Y.2.2.2 Y.1).1)) ∧ CoA M' (playY Y) ∧ Mo M M') := by
  have e : oPlay Y = (nI (plR Y.2.2.2 Y.1).1, playY Y) := if_pos hz
  have h := t_X7_play M Y hC ht
  rw [e] at h
  exact h
theorem t_playB (M : mx_M) (Y : Sy) (hC : CoA M Y) (ht : Y.1.2.2.1 3 + 100 < 2147483648) (hz : ¬ stF Y.2.2.2 = (-4)) : mx_T yX7_play cX7_play 2 (some .int) 7 [.ref 0] M (fun v M' => v = some (.int (-2)) ∧ CoA M' Y ∧ Mo M M') := by
  have e : oPlay Y = ((-2), Y) := if_neg hz
  have h := t_X7_play M Y hC ht
  rw [e] at h
  exact h
theorem t_clr0 (M : mx_M) (Y : Sy) (hC : CoA M Y) (he : Y.2.2.2 = []) : mx_T yX7_clear cX7_clear 2 (some .int) 1 [.ref 0] M (fun v M' => v = some (.int (nI 0)) ∧ CoA M' Y) := by
  refine (t_clr M Y hC).post fun v M' h => ?_
  have e : yP Y [] = Y := by
    obtain ⟨a, b, c, d⟩ := Y
    show (a, b, c, []) = (a, b, c, d)
    rw [show d = [] from he]
  rw [he, e] at h
  exact h
theorem hPush_len (F : FS) {H : List FS} (h : H.length ≤ 4) : (hPush F H).length = if H.length < 4 then H.length + 1 else 4 := by
  unfold hPush
  rw [List.length_append, List.length_singleton]
  split
  · rename_i z
    rw [List.length_drop, if_neg (by omega)]
    omega
  · rename_i z
    rw [if_pos (by omega)]
theorem CoA.h4 {M : mx_M} {Y : Sy} (h : CoA M Y) : Y.2.1.length ≤ 4 := by
  obtain ⟨-, -, ⟨P, -, -, h4, -⟩, -⟩ := h
  exact h4
theorem CoA.p60 {M : mx_M} {Y : Sy} (h : CoA M Y) : Y.2.2.2.length ≤ 60 := h.2.2.2.2.2.1
/-- what an act may bring -/
def Tr (Y Y' : Sy) : Prop := Y'.2.2.1 = Y.2.2.1 ∧ ((Y'.1 = Y.1 ∧ Y'.2.1 = Y.2.1) ∨ (FI Y'.1 ∧ Y'.1.2.2.1 3 ≤ Y.1.2.2.1 3 + 60 ∧ Y'.2.1 = hPush Y.1 Y.2.1))
set_option maxHeartbeats 2000000 in
set_option maxRecDepth 10000 in
theorem l_reads1 (Y : Sy) (ht : Y.1.2.2.1 3 ≤ 100000) (hF : FI Y.1) (Q : Option Value → mx_M → Prop) (kq : ∀ M1 Y', CoA M1 Y' → Tr Y Y' → Q (some (.int (nI 1))) M1) (x : Int32) {M1 : mx_M} (hC : CoA M1 Y) : mx_V cL_reads RL 14 (some .boolean) 8 17 [some (.ref 0), some (.int (x)), some (.int (nI 1)), none, none, none, none, none, none, none, none, none, none, none] [] M1 Q := by
  refine mx_iload_n (pc' := 18) dL_reads_17 rfl rfl ?_
  refine mx_if_eq (tgt := 29) (pc' := 21) dL_reads_18 (by decide) rfl (fun c18 => ?_) (fun c18 => ?_)
  · exfalso
    first | exact c18 rfl | (revert c18; decide) | ((simp (disch := omega) only [Int32.lt_iff_toInt_lt, Int32.le_iff_toInt_le, ← Int32.toInt_inj, ne_eq, not_true_eq_false, not_false_eq_true, yP, hangY, playY, nI_t, z_t, m1_t, m2_t, m3_t, m4_t, m9_t] at c18) <;> omega)
  · 
    refine mx_aload_n (pc' := 22) dL_reads_21 rfl rfl ?_
    refine mx_iload_n (pc' := 23) dL_reads_22 rfl rfl ?_
    refine mx_callS (pc' := 26) dL_reads_23 cl_L_75 (t_L_curtain _ Y hC _) rfl (by decide) rfl (Nat.le_of_ble_eq_true rfl) rfl (fun v N23 hv => ?_)
    obtain ⟨rfl, P, hC⟩ := hv
    refine mx_goto (pc' := 34) dL_reads_26 (by decide) ?_
    refine mx_xistore_n (pc' := 35) (ls' := [_, _, _, _, _, _, _, _, _, _, _, _, _, _]) dL_reads_34 (by decide) rfl rfl rfl ?_
    refine mx_aload_n (pc' := 36) dL_reads_35 rfl rfl ?_
    refine mx_callS (pc' := 39) dL_reads_36 cl_L_82 (t_L_look _ (yP Y P) hC (Nat.lt_of_le_of_lt (Nat.add_le_add_right ht 100) (Nat.le_of_ble_eq_true rfl))) rfl (by decide) rfl (Nat.le_of_ble_eq_true rfl) rfl (fun v N36 hv => ?_)
    obtain ⟨rfl, hC⟩ := hv
    refine mx_lstore (pc' := 41) (ls' := [_, _, _, _, _, _, _, _, _, _, _, _, _, _]) dL_reads_39 (by decide) rfl rfl rfl ?_
    refine mx_aload_n (pc' := 42) dL_reads_41 rfl rfl ?_
    refine mx_bipush (pc' := 44) (v := nI 18) dL_reads_42 (by decide) rfl ?_
    refine mx_callV (pc' := 47) dL_reads_44 cl_L_13 (rfl) (t_c18 _ (yP Y P) hC) rfl (by decide) rfl (Nat.le_of_ble_eq_true rfl) rfl (fun v N44 hv => ?_)
    obtain ⟨rfl, hC, -⟩ := hv
    refine mx_xistore (pc' := 49) (ls' := [_, _, _, _, _, _, _, _, _, _, _, _, _, _]) dL_reads_47 (by decide) rfl rfl rfl ?_
    refine mx_aload_n (pc' := 50) dL_reads_49 rfl rfl ?_
    refine mx_iconst (pc' := 51) (v := nI 5) dL_reads_50 (by decide) rfl ?_
    refine mx_callV (pc' := 54) dL_reads_51 cl_L_13 (rfl) (t_c5 _ (yP Y P) hC) rfl (by decide) rfl (Nat.le_of_ble_eq_true rfl) rfl (fun v N51 hv => ?_)
    obtain ⟨rfl, hC, -⟩ := hv
    refine mx_xistore (pc' := 56) (ls' := [_, _, _, _, _, _, _, _, _, _, _, _, _, _]) dL_reads_54 (by decide) rfl rfl rfl ?_
    refine mx_aload_n (pc' := 57) dL_reads_56 rfl rfl ?_
    refine mx_iconst (pc' := 58) (v := nI 4) dL_reads_57 (by decide) rfl ?_
    refine mx_callV (pc' := 61) dL_reads_58 cl_L_13 (rfl) (t_c4 _ (yP Y P) hC) rfl (by decide) rfl (Nat.le_of_ble_eq_true rfl) rfl (fun v N58 hv => ?_)
    obtain ⟨rfl, hC, -⟩ := hv
    refine mx_xistore (pc' := 63) (ls' := [_, _, _, _, _, _, _, _, _, _, _, _, _, _]) dL_reads_61 (by decide) rfl rfl rfl ?_
    refine mx_aload_n (pc' := 64) dL_reads_63 rfl rfl ?_
    refine mx_bipush (pc' := 66) (v := nI 17) dL_reads_64 (by decide) rfl ?_
    refine mx_callV (pc' := 69) dL_reads_66 cl_L_13 (rfl) (t_c17 _ (yP Y P) hC) rfl (by decide) rfl (Nat.le_of_ble_eq_true rfl) rfl (fun v N66 hv => ?_)
    obtain ⟨rfl, hC, -⟩ := hv
    refine mx_xistore (pc' := 71) (ls' := [_, _, _, _, _, _, _, _, _, _, _, _, _, _]) dL_reads_69 (by decide) rfl rfl rfl ?_
    refine mx_aload_n (pc' := 72) dL_reads_71 rfl rfl ?_
    refine mx_iload_n (pc' := 73) dL_reads_72 rfl rfl ?_
    refine mx_if_eq (tgt := 80) (pc' := 76) dL_reads_73 (by decide) rfl (fun c73 => ?_) (fun c73 => ?_)
    · exfalso
      first | exact c73 rfl | (revert c73; decide) | ((simp (disch := omega) only [Int32.lt_iff_toInt_lt, Int32.le_iff_toInt_le, ← Int32.toInt_inj, ne_eq, not_true_eq_false, not_false_eq_true, yP, hangY, playY, nI_t, z_t, m1_t, m2_t, m3_t, m4_t, m9_t] at c73) <;> omega)
    · 
      refine mx_iconst (pc' := 77) (v := nI 0) dL_reads_76 (by decide) rfl ?_
      refine mx_goto (pc' := 81) dL_reads_77 (by decide) ?_
      have hP60 : P.length ≤ 60 := hC.p60
      have hH4 : Y.2.1.length ≤ 4 := hC.h4
      rcases crF_or hP60 with hz | ⟨j, hj, hz⟩
      · refine mx_callV (pc' := 84) dL_reads_81 cl_L_86 (rfl) (t_flt0 _ (yP Y P) hC hz) rfl (by decide) rfl (Nat.le_of_ble_eq_true rfl) rfl (fun v N81 hv => ?_)
        obtain ⟨rfl, hC, -⟩ := hv
        refine mx_xistore (pc' := 86) (ls' := [_, _, _, _, _, _, _, _, _, _, _, _, _, _]) dL_reads_84 (by decide) rfl rfl rfl ?_
        refine mx_iload_n (pc' := 87) dL_reads_86 rfl rfl ?_
        refine mx_if_eq (tgt := 97) (pc' := 90) dL_reads_87 (by decide) rfl (fun c87 => ?_) (fun c87 => ?_)
        · exfalso
          first | exact c87 rfl | (revert c87; decide) | ((simp (disch := omega) only [Int32.lt_iff_toInt_lt, Int32.le_iff_toInt_le, ← Int32.toInt_inj, ne_eq, not_true_eq_false, not_false_eq_true, yP, hangY, playY, nI_t, z_t, m1_t, m2_t, m3_t, m4_t, m9_t] at c87) <;> omega)
        · 
          refine mx_aload_n (pc' := 91) dL_reads_90 rfl rfl ?_
          refine mx_callV (pc' := 94) dL_reads_91 cl_L_89 (rfl) (t_hangA _ (yP Y P) hC hz) rfl (by decide) rfl (Nat.le_of_ble_eq_true rfl) rfl (fun v N91 hv => ?_)
          obtain ⟨rfl, hC, -⟩ := hv
          have hE4 : (crE P).length ≤ 4 := hC.1.1.2.1.1
          have hE1 := crE_ne hP60 hz
          have hEE : EmL (crE P) := hC.1.1.2.1
          refine mx_goto (pc' := 101) dL_reads_94 (by decide) ?_
          refine mx_xistore (pc' := 103) (ls' := [_, _, _, _, _, _, _, _, _, _, _, _, _, _]) dL_reads_101 (by decide) rfl rfl rfl ?_
          refine mx_aload_n (pc' := 104) dL_reads_103 rfl rfl ?_
          refine mx_callV (pc' := 107) dL_reads_104 cl_L_69 (rfl) (t_clr0 _ (hangY (yP Y P)) hC rfl) rfl (by decide) rfl (Nat.le_of_ble_eq_true rfl) rfl (fun v N104 hv => ?_)
          obtain ⟨rfl, hC⟩ := hv
          refine mx_xistore (pc' := 109) (ls' := [_, _, _, _, _, _, _, _, _, _, _, _, _, _]) dL_reads_107 (by decide) rfl rfl rfl ?_
          refine mx_iload_n (pc' := 110) dL_reads_109 rfl rfl ?_
          refine mx_if_eq (tgt := 144) (pc' := 113) dL_reads_110 (by decide) rfl (fun c110 => ?_) (fun c110 => ?_)
          · first | exact absurd rfl c110 | exact absurd c110 (by (simp (disch := omega) only [Int32.lt_iff_toInt_lt, Int32.le_iff_toInt_le, ← Int32.toInt_inj, ne_eq, not_true_eq_false, not_false_eq_true, yP, hangY, playY, nI_t, z_t, m1_t, m2_t, m3_t, m4_t, m9_t]) <;> omega)
          · refine mx_iload (pc' := 115) dL_reads_113 rfl rfl ?_
            refine mx_bipush (pc' := 117) (v := (-2)) dL_reads_115 (by decide) rfl ?_
            refine mx_icmp_ne (tgt := 124) (pc' := 120) dL_reads_117 (by decide) rfl (fun c117 => ?_) (fun c117 => ?_)
            · 
              refine mx_iconst (pc' := 125) (v := nI 0) dL_reads_124 (by decide) rfl ?_
              refine mx_iload (pc' := 127) dL_reads_125 rfl rfl ?_
              refine mx_bipush (pc' := 129) (v := (-4)) dL_reads_127 (by decide) rfl ?_
              refine mx_icmp_eq (tgt := 136) (pc' := 132) dL_reads_129 (by decide) rfl (fun c129 => ?_) (fun c129 => ?_)
              · 
                refine mx_iconst (pc' := 137) (v := nI 0) dL_reads_136 (by decide) rfl ?_
                refine mx_icmp_ne (tgt := 144) (pc' := 140) dL_reads_137 (by decide) rfl (fun c137 => ?_) (fun c137 => ?_)
                · first | exact absurd rfl c137 | exact absurd c137 (by (simp (disch := omega) only [Int32.lt_iff_toInt_lt, Int32.le_iff_toInt_le, ← Int32.toInt_inj, ne_eq, not_true_eq_false, not_false_eq_true, yP, hangY, playY, nI_t, z_t, m1_t, m2_t, m3_t, m4_t, m9_t]) <;> omega)
                · refine mx_iconst (pc' := 141) (v := nI 1) dL_reads_140 (by decide) rfl ?_
                  refine mx_goto (pc' := 145) dL_reads_141 (by decide) ?_
                  refine mx_xistore (pc' := 147) (ls' := [_, _, _, _, _, _, _, _, _, _, _, _, _, _]) dL_reads_145 (by decide) rfl rfl rfl ?_
                  refine mx_iload (pc' := 149) dL_reads_147 rfl rfl ?_
                  refine mx_bipush (pc' := 151) (v := (-4)) dL_reads_149 (by decide) rfl ?_
                  refine mx_icmp_eq (tgt := 205) (pc' := 154) dL_reads_151 (by decide) rfl (fun c151 => ?_) (fun c151 => ?_)
                  · 
                    refine mx_iload (pc' := 207) dL_reads_205 rfl rfl ?_
                    refine mx_if_eq (tgt := 242) (pc' := 210) dL_reads_207 (by decide) rfl (fun c207 => ?_) (fun c207 => ?_)
                    · first | exact absurd rfl c207 | exact absurd c207 (by (simp (disch := omega) only [Int32.lt_iff_toInt_lt, Int32.le_iff_toInt_le, ← Int32.toInt_inj, ne_eq, not_true_eq_false, not_false_eq_true, yP, hangY, playY, nI_t, z_t, m1_t, m2_t, m3_t, m4_t, m9_t]) <;> omega)
                    · refine mx_iload (pc' := 212) dL_reads_210 rfl rfl ?_
                      refine mx_if_ne (tgt := 242) (pc' := 215) dL_reads_212 (by decide) rfl (fun c212 => ?_) (fun c212 => ?_)
                      · first | exact absurd rfl c212 | exact absurd c212 (by (simp (disch := omega) only [Int32.lt_iff_toInt_lt, Int32.le_iff_toInt_le, ← Int32.toInt_inj, ne_eq, not_true_eq_false, not_false_eq_true, yP, hangY, playY, nI_t, z_t, m1_t, m2_t, m3_t, m4_t, m9_t]) <;> omega)
                      · refine mx_aload_n (pc' := 216) dL_reads_215 rfl rfl ?_
                        refine mx_bipush (pc' := 218) (v := nI 18) dL_reads_216 (by decide) rfl ?_
                        refine mx_callV (pc' := 221) dL_reads_218 cl_L_13 (rfl) (t_c18 _ (hangY (yP Y P)) hC) rfl (by decide) rfl (Nat.le_of_ble_eq_true rfl) rfl (fun v N218 hv => ?_)
                        obtain ⟨rfl, hC, -⟩ := hv
                        rw [show (hangY (yP Y P)).2.1.length = if Y.2.1.length < 4 then Y.2.1.length + 1 else 4 from hPush_len Y.1 hH4]
                        refine mx_iload (pc' := 223) dL_reads_221 rfl rfl ?_
                        refine mx_iconst (pc' := 224) (v := nI 4) dL_reads_223 (by decide) rfl ?_
                        refine mx_icmp_ge (tgt := 234) (pc' := 227) dL_reads_224 (by decide) rfl (fun c224 => ?_) (fun c224 => ?_)
                        · try (simp (disch := omega) only [Int32.lt_iff_toInt_lt, Int32.le_iff_toInt_le, ← Int32.toInt_inj, ne_eq, yP, hangY, playY, nI_t, z_t, m1_t, m2_t, m3_t, m4_t, m9_t] at c224)
                          rw [if_neg (show ¬ Y.2.1.length < 4 by omega)]
                          refine mx_iconst (pc' := 235) (v := nI 4) dL_reads_234 (by decide) rfl ?_
                          refine mx_icmp_ne (tgt := 242) (pc' := 238) dL_reads_235 (by decide) rfl (fun c235 => ?_) (fun c235 => ?_)
                          · first | exact absurd rfl c235 | exact absurd c235 (by (simp (disch := omega) only [Int32.lt_iff_toInt_lt, Int32.le_iff_toInt_le, ← Int32.toInt_inj, ne_eq, not_true_eq_false, not_false_eq_true, yP, hangY, playY, nI_t, z_t, m1_t, m2_t, m3_t, m4_t, m9_t]) <;> omega)
                          · refine mx_iconst (pc' := 239) (v := nI 1) dL_reads_238 (by decide) rfl ?_
                            refine mx_goto (pc' := 243) dL_reads_239 (by decide) ?_
                            refine mx_xistore (pc' := 245) (ls' := [_, _, _, _, _, _, _, _, _, _, _, _, _, _]) dL_reads_243 (by decide) rfl rfl rfl ?_
                            refine mx_iload (pc' := 247) dL_reads_245 rfl rfl ?_
                            refine mx_if_eq (tgt := 352) (pc' := 250) dL_reads_247 (by decide) rfl (fun c247 => ?_) (fun c247 => ?_)
                            · first | exact absurd rfl c247 | exact absurd c247 (by (simp (disch := omega) only [Int32.lt_iff_toInt_lt, Int32.le_iff_toInt_le, ← Int32.toInt_inj, ne_eq, not_true_eq_false, not_false_eq_true, yP, hangY, playY, nI_t, z_t, m1_t, m2_t, m3_t, m4_t, m9_t]) <;> omega)
                            · refine mx_iload_n (pc' := 251) dL_reads_250 rfl rfl ?_
                              refine mx_if_eq (tgt := 289) (pc' := 254) dL_reads_251 (by decide) rfl (fun c251 => ?_) (fun c251 => ?_)
                              · exfalso
                                first | exact c251 rfl | (revert c251; decide) | ((simp (disch := omega) only [Int32.lt_iff_toInt_lt, Int32.le_iff_toInt_le, ← Int32.toInt_inj, ne_eq, not_true_eq_false, not_false_eq_true, yP, hangY, playY, nI_t, z_t, m1_t, m2_t, m3_t, m4_t, m9_t] at c251) <;> omega)
                              · 
                                refine mx_iload (pc' := 256) dL_reads_254 rfl rfl ?_
                                refine mx_iconst (pc' := 257) (v := nI 1) dL_reads_256 (by decide) rfl ?_
                                refine mx_icmp_lt (tgt := 352) (pc' := 260) dL_reads_257 (by decide) rfl (fun c257 => ?_) (fun c257 => ?_)
                                · first | exact absurd rfl c257 | exact absurd c257 (by (simp (disch := omega) only [Int32.lt_iff_toInt_lt, Int32.le_iff_toInt_le, ← Int32.toInt_inj, ne_eq, not_true_eq_false, not_false_eq_true, yP, hangY, playY, nI_t, z_t, m1_t, m2_t, m3_t, m4_t, m9_t]) <;> omega)
                                · refine mx_iload (pc' := 262) dL_reads_260 rfl rfl ?_
                                  refine mx_iconst (pc' := 263) (v := nI 4) dL_reads_262 (by decide) rfl ?_
                                  refine mx_icmp_gt (tgt := 352) (pc' := 266) dL_reads_263 (by decide) rfl (fun c263 => ?_) (fun c263 => ?_)
                                  · first | exact absurd rfl c263 | exact absurd c263 (by (simp (disch := omega) only [Int32.lt_iff_toInt_lt, Int32.le_iff_toInt_le, ← Int32.toInt_inj, ne_eq, not_true_eq_false, not_false_eq_true, yP, hangY, playY, nI_t, z_t, m1_t, m2_t, m3_t, m4_t, m9_t]) <;> omega)
                                  · refine mx_aload_n (pc' := 267) dL_reads_266 rfl rfl ?_
                                    refine mx_iconst (pc' := 268) (v := nI 0) dL_reads_267 (by decide) rfl ?_
                                    refine mx_callV (pc' := 271) dL_reads_268 cl_L_13 (rfl) (t_c0 _ (hangY (yP Y P)) hC) rfl (by decide) rfl (Nat.le_of_ble_eq_true rfl) rfl (fun v N268 hv => ?_)
                                    obtain ⟨rfl, hC, -⟩ := hv
                                    refine mx_iload (pc' := 273) dL_reads_271 rfl rfl ?_
                                    refine mx_icmp_ne (tgt := 352) (pc' := 276) dL_reads_273 (by decide) rfl (fun c273 => ?_) (fun c273 => ?_)
                                    · first | exact absurd rfl c273 | exact absurd c273 (by (simp (disch := omega) only [Int32.lt_iff_toInt_lt, Int32.le_iff_toInt_le, ← Int32.toInt_inj, ne_eq, not_true_eq_false, not_false_eq_true, yP, hangY, playY, nI_t, z_t, m1_t, m2_t, m3_t, m4_t, m9_t]) <;> omega)
                                    · refine mx_aload_n (pc' := 277) dL_reads_276 rfl rfl ?_
                                      refine mx_iconst (pc' := 278) (v := nI 5) dL_reads_277 (by decide) rfl ?_
                                      refine mx_callV (pc' := 281) dL_reads_278 cl_L_13 (rfl) (t_c5 _ (hangY (yP Y P)) hC) rfl (by decide) rfl (Nat.le_of_ble_eq_true rfl) rfl (fun v N278 hv => ?_)
                                      obtain ⟨rfl, hC, -⟩ := hv
                                      refine mx_iload (pc' := 283) dL_reads_281 rfl rfl ?_
                                      refine mx_icmp_ne (tgt := 352) (pc' := 286) dL_reads_283 (by decide) rfl (fun c283 => ?_) (fun c283 => ?_)
                                      · first | exact absurd rfl c283 | exact absurd c283 (by (simp (disch := omega) only [Int32.lt_iff_toInt_lt, Int32.le_iff_toInt_le, ← Int32.toInt_inj, ne_eq, not_true_eq_false, not_false_eq_true, yP, hangY, playY, nI_t, z_t, m1_t, m2_t, m3_t, m4_t, m9_t]) <;> omega)
                                      · refine mx_goto (pc' := 348) dL_reads_286 (by decide) ?_
                                        refine mx_iconst (pc' := 349) (v := nI 1) dL_reads_348 (by decide) rfl ?_
                                        refine mx_goto (pc' := 353) dL_reads_349 (by decide) ?_
                                        refine mx_iret dL_reads_353 (Or.inr ⟨rfl, by decide⟩) ?_
                                        exact kq _ _ hC ⟨rfl, Or.inr ⟨hF.em hEE, Nat.le_add_right _ 60, rfl⟩⟩
                        · try (simp (disch := omega) only [Int32.lt_iff_toInt_lt, Int32.le_iff_toInt_le, ← Int32.toInt_inj, ne_eq, yP, hangY, playY, nI_t, z_t, m1_t, m2_t, m3_t, m4_t, m9_t] at c224)
                          rw [if_pos (show Y.2.1.length < 4 by omega)]
                          refine mx_iload (pc' := 229) dL_reads_227 rfl rfl ?_
                          refine mx_iconst (pc' := 230) (v := nI 1) dL_reads_229 (by decide) rfl ?_
                          refine mx_iadd (pc' := 231) (v := nI (Y.2.1.length + 1)) dL_reads_230 (nI_add _ 1) rfl ?_
                          refine mx_goto (pc' := 235) dL_reads_231 (by decide) ?_
                          refine mx_icmp_ne (tgt := 242) (pc' := 238) dL_reads_235 (by decide) rfl (fun c235 => ?_) (fun c235 => ?_)
                          · first | exact absurd rfl c235 | exact absurd c235 (by (simp (disch := omega) only [Int32.lt_iff_toInt_lt, Int32.le_iff_toInt_le, ← Int32.toInt_inj, ne_eq, not_true_eq_false, not_false_eq_true, yP, hangY, playY, nI_t, z_t, m1_t, m2_t, m3_t, m4_t, m9_t]) <;> omega)
                          · refine mx_iconst (pc' := 239) (v := nI 1) dL_reads_238 (by decide) rfl ?_
                            refine mx_goto (pc' := 243) dL_reads_239 (by decide) ?_
                            refine mx_xistore (pc' := 245) (ls' := [_, _, _, _, _, _, _, _, _, _, _, _, _, _]) dL_reads_243 (by decide) rfl rfl rfl ?_
                            refine mx_iload (pc' := 247) dL_reads_245 rfl rfl ?_
                            refine mx_if_eq (tgt := 352) (pc' := 250) dL_reads_247 (by decide) rfl (fun c247 => ?_) (fun c247 => ?_)
                            · first | exact absurd rfl c247 | exact absurd c247 (by (simp (disch := omega) only [Int32.lt_iff_toInt_lt, Int32.le_iff_toInt_le, ← Int32.toInt_inj, ne_eq, not_true_eq_false, not_false_eq_true, yP, hangY, playY, nI_t, z_t, m1_t, m2_t, m3_t, m4_t, m9_t]) <;> omega)
                            · refine mx_iload_n (pc' := 251) dL_reads_250 rfl rfl ?_
                              refine mx_if_eq (tgt := 289) (pc' := 254) dL_reads_251 (by decide) rfl (fun c251 => ?_) (fun c251 => ?_)
                              · exfalso
                                first | exact c251 rfl | (revert c251; decide) | ((simp (disch := omega) only [Int32.lt_iff_toInt_lt, Int32.le_iff_toInt_le, ← Int32.toInt_inj, ne_eq, not_true_eq_false, not_false_eq_true, yP, hangY, playY, nI_t, z_t, m1_t, m2_t, m3_t, m4_t, m9_t] at c251) <;> omega)
                              · 
                                refine mx_iload (pc' := 256) dL_reads_254 rfl rfl ?_
                                refine mx_iconst (pc' := 257) (v := nI 1) dL_reads_256 (by decide) rfl ?_
                                refine mx_icmp_lt (tgt := 352) (pc' := 260) dL_reads_257 (by decide) rfl (fun c257 => ?_) (fun c257 => ?_)
                                · first | exact absurd rfl c257 | exact absurd c257 (by (simp (disch := omega) only [Int32.lt_iff_toInt_lt, Int32.le_iff_toInt_le, ← Int32.toInt_inj, ne_eq, not_true_eq_false, not_false_eq_true, yP, hangY, playY, nI_t, z_t, m1_t, m2_t, m3_t, m4_t, m9_t]) <;> omega)
                                · refine mx_iload (pc' := 262) dL_reads_260 rfl rfl ?_
                                  refine mx_iconst (pc' := 263) (v := nI 4) dL_reads_262 (by decide) rfl ?_
                                  refine mx_icmp_gt (tgt := 352) (pc' := 266) dL_reads_263 (by decide) rfl (fun c263 => ?_) (fun c263 => ?_)
                                  · first | exact absurd rfl c263 | exact absurd c263 (by (simp (disch := omega) only [Int32.lt_iff_toInt_lt, Int32.le_iff_toInt_le, ← Int32.toInt_inj, ne_eq, not_true_eq_false, not_false_eq_true, yP, hangY, playY, nI_t, z_t, m1_t, m2_t, m3_t, m4_t, m9_t]) <;> omega)
                                  · refine mx_aload_n (pc' := 267) dL_reads_266 rfl rfl ?_
                                    refine mx_iconst (pc' := 268) (v := nI 0) dL_reads_267 (by decide) rfl ?_
                                    refine mx_callV (pc' := 271) dL_reads_268 cl_L_13 (rfl) (t_c0 _ (hangY (yP Y P)) hC) rfl (by decide) rfl (Nat.le_of_ble_eq_true rfl) rfl (fun v N268 hv => ?_)
                                    obtain ⟨rfl, hC, -⟩ := hv
                                    refine mx_iload (pc' := 273) dL_reads_271 rfl rfl ?_
                                    refine mx_icmp_ne (tgt := 352) (pc' := 276) dL_reads_273 (by decide) rfl (fun c273 => ?_) (fun c273 => ?_)
                                    · first | exact absurd rfl c273 | exact absurd c273 (by (simp (disch := omega) only [Int32.lt_iff_toInt_lt, Int32.le_iff_toInt_le, ← Int32.toInt_inj, ne_eq, not_true_eq_false, not_false_eq_true, yP, hangY, playY, nI_t, z_t, m1_t, m2_t, m3_t, m4_t, m9_t]) <;> omega)
                                    · refine mx_aload_n (pc' := 277) dL_reads_276 rfl rfl ?_
                                      refine mx_iconst (pc' := 278) (v := nI 5) dL_reads_277 (by decide) rfl ?_
                                      refine mx_callV (pc' := 281) dL_reads_278 cl_L_13 (rfl) (t_c5 _ (hangY (yP Y P)) hC) rfl (by decide) rfl (Nat.le_of_ble_eq_true rfl) rfl (fun v N278 hv => ?_)
                                      obtain ⟨rfl, hC, -⟩ := hv
                                      refine mx_iload (pc' := 283) dL_reads_281 rfl rfl ?_
                                      refine mx_icmp_ne (tgt := 352) (pc' := 286) dL_reads_283 (by decide) rfl (fun c283 => ?_) (fun c283 => ?_)
                                      · first | exact absurd rfl c283 | exact absurd c283 (by (simp (disch := omega) only [Int32.lt_iff_toInt_lt, Int32.le_iff_toInt_le, ← Int32.toInt_inj, ne_eq, not_true_eq_false, not_false_eq_true, yP, hangY, playY, nI_t, z_t, m1_t, m2_t, m3_t, m4_t, m9_t]) <;> omega)
                                      · refine mx_goto (pc' := 348) dL_reads_286 (by decide) ?_
                                        refine mx_iconst (pc' := 349) (v := nI 1) dL_reads_348 (by decide) rfl ?_
                                        refine mx_goto (pc' := 353) dL_reads_349 (by decide) ?_
                                        refine mx_iret dL_reads_353 (Or.inr ⟨rfl, by decide⟩) ?_
                                        exact kq _ _ hC ⟨rfl, Or.inr ⟨hF.em hEE, Nat.le_add_right _ 60, rfl⟩⟩
                  · exfalso
                    first | exact c151 rfl | (revert c151; decide) | ((simp (disch := omega) only [Int32.lt_iff_toInt_lt, Int32.le_iff_toInt_le, ← Int32.toInt_inj, ne_eq, not_true_eq_false, not_false_eq_true, yP, hangY, playY, nI_t, z_t, m1_t, m2_t, m3_t, m4_t, m9_t] at c151) <;> omega)
              · exfalso
                first | exact c129 rfl | (revert c129; decide) | ((simp (disch := omega) only [Int32.lt_iff_toInt_lt, Int32.le_iff_toInt_le, ← Int32.toInt_inj, ne_eq, not_true_eq_false, not_false_eq_true, yP, hangY, playY, nI_t, z_t, m1_t, m2_t, m3_t, m4_t, m9_t] at c129) <;> omega)
            · exfalso
              first | exact c117 rfl | (revert c117; decide) | ((simp (disch := omega) only [Int32.lt_iff_toInt_lt, Int32.le_iff_toInt_le, ← Int32.toInt_inj, ne_eq, not_true_eq_false, not_false_eq_true, yP, hangY, playY, nI_t, z_t, m1_t, m2_t, m3_t, m4_t, m9_t] at c117) <;> omega)
      refine mx_callV (pc' := 84) dL_reads_81 cl_L_86 (rfl) (t_flt0 _ (yP Y P) hC hz) rfl (by decide) rfl (Nat.le_of_ble_eq_true rfl) rfl (fun v N81 hv => ?_)
      obtain ⟨rfl, hC, -⟩ := hv
      refine mx_xistore (pc' := 86) (ls' := [_, _, _, _, _, _, _, _, _, _, _, _, _, _]) dL_reads_84 (by decide) rfl rfl rfl ?_
      refine mx_iload_n (pc' := 87) dL_reads_86 rfl rfl ?_
      refine mx_if_eq (tgt := 97) (pc' := 90) dL_reads_87 (by decide) rfl (fun c87 => ?_) (fun c87 => ?_)
      · exfalso
        first | exact c87 rfl | (revert c87; decide) | ((simp (disch := omega) only [Int32.lt_iff_toInt_lt, Int32.le_iff_toInt_le, ← Int32.toInt_inj, ne_eq, not_true_eq_false, not_false_eq_true, yP, hangY, playY, nI_t, z_t, m1_t, m2_t, m3_t, m4_t, m9_t] at c87) <;> omega)
      · 
        refine mx_aload_n (pc' := 91) dL_reads_90 rfl rfl ?_
        refine mx_callV (pc' := 94) dL_reads_91 cl_L_89 (rfl) (t_hangB _ (yP Y P) hC (fun z => n4_ne j (by omega) (hz.symm.trans z))) rfl (by decide) rfl (Nat.le_of_ble_eq_true rfl) rfl (fun v N91 hv => ?_)
        obtain ⟨rfl, hC, -⟩ := hv
        refine mx_goto (pc' := 101) dL_reads_94 (by decide) ?_
        refine mx_xistore (pc' := 103) (ls' := [_, _, _, _, _, _, _, _, _, _, _, _, _, _]) dL_reads_101 (by decide) rfl rfl rfl ?_
        refine mx_aload_n (pc' := 104) dL_reads_103 rfl rfl ?_
        refine mx_callV (pc' := 107) dL_reads_104 cl_L_69 (rfl) (t_clr _ (yP Y P) hC) rfl (by decide) rfl (Nat.le_of_ble_eq_true rfl) rfl (fun v N104 hv => ?_)
        obtain ⟨rfl, hC⟩ := hv
        refine mx_xistore (pc' := 109) (ls' := [_, _, _, _, _, _, _, _, _, _, _, _, _, _]) dL_reads_107 (by decide) rfl rfl rfl ?_
        refine mx_iload_n (pc' := 110) dL_reads_109 rfl rfl ?_
        refine mx_if_eq (tgt := 144) (pc' := 113) dL_reads_110 (by decide) rfl (fun c110 => ?_) (fun c110 => ?_)
        · first | exact absurd rfl c110 | exact absurd c110 (by (simp (disch := omega) only [Int32.lt_iff_toInt_lt, Int32.le_iff_toInt_le, ← Int32.toInt_inj, ne_eq, not_true_eq_false, not_false_eq_true, yP, hangY, playY, nI_t, z_t, m1_t, m2_t, m3_t, m4_t, m9_t]) <;> omega)
        · refine mx_iload (pc' := 115) dL_reads_113 rfl rfl ?_
          refine mx_bipush (pc' := 117) (v := (-2)) dL_reads_115 (by decide) rfl ?_
          refine mx_icmp_ne (tgt := 124) (pc' := 120) dL_reads_117 (by decide) rfl (fun c117 => ?_) (fun c117 => ?_)
          · exfalso
            first | exact c117 rfl | (revert c117; decide) | ((simp (disch := omega) only [Int32.lt_iff_toInt_lt, Int32.le_iff_toInt_le, ← Int32.toInt_inj, ne_eq, not_true_eq_false, not_false_eq_true, yP, hangY, playY, nI_t, z_t, m1_t, m2_t, m3_t, m4_t, m9_t] at c117) <;> omega)
          · 
            refine mx_iconst (pc' := 121) (v := nI 1) dL_reads_120 (by decide) rfl ?_
            refine mx_goto (pc' := 125) dL_reads_121 (by decide) ?_
            refine mx_iload (pc' := 127) dL_reads_125 rfl rfl ?_
            refine mx_bipush (pc' := 129) (v := (-4)) dL_reads_127 (by decide) rfl ?_
            refine mx_icmp_eq (tgt := 136) (pc' := 132) dL_reads_129 (by decide) rfl (fun c129 => ?_) (fun c129 => ?_)
            · exact absurd c129 (n4_ne j (by omega))
            · 
              refine mx_iconst (pc' := 133) (v := nI 1) dL_reads_132 (by decide) rfl ?_
              refine mx_goto (pc' := 137) dL_reads_133 (by decide) ?_
              refine mx_icmp_ne (tgt := 144) (pc' := 140) dL_reads_137 (by decide) rfl (fun c137 => ?_) (fun c137 => ?_)
              · first | exact absurd rfl c137 | exact absurd c137 (by (simp (disch := omega) only [Int32.lt_iff_toInt_lt, Int32.le_iff_toInt_le, ← Int32.toInt_inj, ne_eq, not_true_eq_false, not_false_eq_true, yP, hangY, playY, nI_t, z_t, m1_t, m2_t, m3_t, m4_t, m9_t]) <;> omega)
              · refine mx_iconst (pc' := 141) (v := nI 1) dL_reads_140 (by decide) rfl ?_
                refine mx_goto (pc' := 145) dL_reads_141 (by decide) ?_
                refine mx_xistore (pc' := 147) (ls' := [_, _, _, _, _, _, _, _, _, _, _, _, _, _]) dL_reads_145 (by decide) rfl rfl rfl ?_
                refine mx_iload (pc' := 149) dL_reads_147 rfl rfl ?_
                refine mx_bipush (pc' := 151) (v := (-4)) dL_reads_149 (by decide) rfl ?_
                refine mx_icmp_eq (tgt := 205) (pc' := 154) dL_reads_151 (by decide) rfl (fun c151 => ?_) (fun c151 => ?_)
                · exact absurd c151 (n4_ne j (by omega))
                · 
                  refine mx_iload (pc' := 156) dL_reads_154 rfl rfl ?_
                  refine mx_if_eq (tgt := 203) (pc' := 159) dL_reads_156 (by decide) rfl (fun c156 => ?_) (fun c156 => ?_)
                  · first | exact absurd rfl c156 | exact absurd c156 (by (simp (disch := omega) only [Int32.lt_iff_toInt_lt, Int32.le_iff_toInt_le, ← Int32.toInt_inj, ne_eq, not_true_eq_false, not_false_eq_true, yP, hangY, playY, nI_t, z_t, m1_t, m2_t, m3_t, m4_t, m9_t]) <;> omega)
                  · refine mx_iload (pc' := 161) dL_reads_159 rfl rfl ?_
                    refine mx_if_lt (tgt := 203) (pc' := 164) dL_reads_161 (by decide) rfl (fun c161 => ?_) (fun c161 => ?_)
                    · first | exact absurd rfl c161 | exact absurd c161 (by (simp (disch := omega) only [Int32.lt_iff_toInt_lt, Int32.le_iff_toInt_le, ← Int32.toInt_inj, ne_eq, not_true_eq_false, not_false_eq_true, yP, hangY, playY, nI_t, z_t, m1_t, m2_t, m3_t, m4_t, m9_t]) <;> omega)
                    · refine mx_iload (pc' := 166) dL_reads_164 rfl rfl ?_
                      refine mx_iload (pc' := 168) dL_reads_166 rfl rfl ?_
                      refine mx_icmp_gt (tgt := 203) (pc' := 171) dL_reads_168 (by decide) rfl (fun c168 => ?_) (fun c168 => ?_)
                      · first | exact absurd rfl c168 | exact absurd c168 (by (simp (disch := omega) only [Int32.lt_iff_toInt_lt, Int32.le_iff_toInt_le, ← Int32.toInt_inj, ne_eq, not_true_eq_false, not_false_eq_true, yP, hangY, playY, nI_t, z_t, m1_t, m2_t, m3_t, m4_t, m9_t]) <;> omega)
                      · refine mx_iload (pc' := 173) dL_reads_171 rfl rfl ?_
                        refine mx_iload (pc' := 175) dL_reads_173 rfl rfl ?_
                        refine mx_icmp_ne (tgt := 203) (pc' := 178) dL_reads_175 (by decide) rfl (fun c175 => ?_) (fun c175 => ?_)
                        · first | exact absurd rfl c175 | exact absurd c175 (by (simp (disch := omega) only [Int32.lt_iff_toInt_lt, Int32.le_iff_toInt_le, ← Int32.toInt_inj, ne_eq, not_true_eq_false, not_false_eq_true, yP, hangY, playY, nI_t, z_t, m1_t, m2_t, m3_t, m4_t, m9_t]) <;> omega)
                        · refine mx_aload_n (pc' := 179) dL_reads_178 rfl rfl ?_
                          refine mx_callS (pc' := 182) dL_reads_179 cl_L_82 (t_L_look _ (yP (yP Y P) []) hC (Nat.lt_of_le_of_lt (Nat.add_le_add_right ht 100) (Nat.le_of_ble_eq_true rfl))) rfl (by decide) rfl (Nat.le_of_ble_eq_true rfl) rfl (fun v N179 hv => ?_)
                          obtain ⟨rfl, hC⟩ := hv
                          refine mx_lload (pc' := 184) dL_reads_182 rfl rfl ?_
                          refine mx_lcmp (pc' := 185) dL_reads_184 rfl ?_
                          refine mx_if_ne (tgt := 203) (pc' := 188) dL_reads_185 (by decide) rfl (fun c185 => ?_) (fun c185 => ?_)
                          · first | exact absurd rfl c185 | exact absurd c185 (by (simp (disch := omega) only [Int32.lt_iff_toInt_lt, Int32.le_iff_toInt_le, ← Int32.toInt_inj, ne_eq, not_true_eq_false, not_false_eq_true, yP, hangY, playY, nI_t, z_t, m1_t, m2_t, m3_t, m4_t, m9_t]) <;> omega)
                          · refine mx_aload_n (pc' := 189) dL_reads_188 rfl rfl ?_
                            refine mx_bipush (pc' := 191) (v := nI 18) dL_reads_189 (by decide) rfl ?_
                            refine mx_callV (pc' := 194) dL_reads_191 cl_L_13 (rfl) (t_c18 _ (yP (yP Y P) []) hC) rfl (by decide) rfl (Nat.le_of_ble_eq_true rfl) rfl (fun v N191 hv => ?_)
                            obtain ⟨rfl, hC, -⟩ := hv
                            refine mx_iload (pc' := 196) dL_reads_194 rfl rfl ?_
                            refine mx_icmp_ne (tgt := 203) (pc' := 199) dL_reads_196 (by decide) rfl (fun c196 => ?_) (fun c196 => ?_)
                            · first | exact absurd rfl c196 | exact absurd c196 (by (simp (disch := omega) only [Int32.lt_iff_toInt_lt, Int32.le_iff_toInt_le, ← Int32.toInt_inj, ne_eq, not_true_eq_false, not_false_eq_true, yP, hangY, playY, nI_t, z_t, m1_t, m2_t, m3_t, m4_t, m9_t]) <;> omega)
                            · refine mx_iconst (pc' := 200) (v := nI 1) dL_reads_199 (by decide) rfl ?_
                              refine mx_goto (pc' := 204) dL_reads_200 (by decide) ?_
                              refine mx_iret dL_reads_204 (Or.inr ⟨rfl, by decide⟩) ?_
                              exact kq _ _ hC ⟨rfl, Or.inl ⟨rfl, rfl⟩⟩

set_option maxHeartbeats 2000000 in
set_option maxRecDepth 10000 in
theorem l_reads0 (Y : Sy) (ht : Y.1.2.2.1 3 ≤ 100000) (hF : FI Y.1) (Q : Option Value → mx_M → Prop) (kq : ∀ M1 Y', CoA M1 Y' → Tr Y Y' → Q (some (.int (nI 1))) M1) (x : Int32) {M1 : mx_M} (hC : CoA M1 Y) : mx_V cL_reads RL 14 (some .boolean) 8 17 [some (.ref 0), some (.int (x)), some (.int (nI 0)), none, none, none, none, none, none, none, none, none, none, none] [] M1 Q := by
  refine mx_iload_n (pc' := 18) dL_reads_17 rfl rfl ?_
  refine mx_if_eq (tgt := 29) (pc' := 21) dL_reads_18 (by decide) rfl (fun c18 => ?_) (fun c18 => ?_)
  · 
    refine mx_aload_n (pc' := 30) dL_reads_29 rfl rfl ?_
    refine mx_iload_n (pc' := 31) dL_reads_30 rfl rfl ?_
    refine mx_callS (pc' := 34) dL_reads_31 cl_L_79 (t_L_steps _ Y hC _) rfl (by decide) rfl (Nat.le_of_ble_eq_true rfl) rfl (fun v N31 hv => ?_)
    obtain ⟨rfl, P, hC⟩ := hv
    refine mx_xistore_n (pc' := 35) (ls' := [_, _, _, _, _, _, _, _, _, _, _, _, _, _]) dL_reads_34 (by decide) rfl rfl rfl ?_
    refine mx_aload_n (pc' := 36) dL_reads_35 rfl rfl ?_
    refine mx_callS (pc' := 39) dL_reads_36 cl_L_82 (t_L_look _ (yP Y P) hC (Nat.lt_of_le_of_lt (Nat.add_le_add_right ht 100) (Nat.le_of_ble_eq_true rfl))) rfl (by decide) rfl (Nat.le_of_ble_eq_true rfl) rfl (fun v N36 hv => ?_)
    obtain ⟨rfl, hC⟩ := hv
    refine mx_lstore (pc' := 41) (ls' := [_, _, _, _, _, _, _, _, _, _, _, _, _, _]) dL_reads_39 (by decide) rfl rfl rfl ?_
    refine mx_aload_n (pc' := 42) dL_reads_41 rfl rfl ?_
    refine mx_bipush (pc' := 44) (v := nI 18) dL_reads_42 (by decide) rfl ?_
    refine mx_callV (pc' := 47) dL_reads_44 cl_L_13 (rfl) (t_c18 _ (yP Y P) hC) rfl (by decide) rfl (Nat.le_of_ble_eq_true rfl) rfl (fun v N44 hv => ?_)
    obtain ⟨rfl, hC, -⟩ := hv
    refine mx_xistore (pc' := 49) (ls' := [_, _, _, _, _, _, _, _, _, _, _, _, _, _]) dL_reads_47 (by decide) rfl rfl rfl ?_
    refine mx_aload_n (pc' := 50) dL_reads_49 rfl rfl ?_
    refine mx_iconst (pc' := 51) (v := nI 5) dL_reads_50 (by decide) rfl ?_
    refine mx_callV (pc' := 54) dL_reads_51 cl_L_13 (rfl) (t_c5 _ (yP Y P) hC) rfl (by decide) rfl (Nat.le_of_ble_eq_true rfl) rfl (fun v N51 hv => ?_)
    obtain ⟨rfl, hC, -⟩ := hv
    refine mx_xistore (pc' := 56) (ls' := [_, _, _, _, _, _, _, _, _, _, _, _, _, _]) dL_reads_54 (by decide) rfl rfl rfl ?_
    refine mx_aload_n (pc' := 57) dL_reads_56 rfl rfl ?_
    refine mx_iconst (pc' := 58) (v := nI 4) dL_reads_57 (by decide) rfl ?_
    refine mx_callV (pc' := 61) dL_reads_58 cl_L_13 (rfl) (t_c4 _ (yP Y P) hC) rfl (by decide) rfl (Nat.le_of_ble_eq_true rfl) rfl (fun v N58 hv => ?_)
    obtain ⟨rfl, hC, -⟩ := hv
    refine mx_xistore (pc' := 63) (ls' := [_, _, _, _, _, _, _, _, _, _, _, _, _, _]) dL_reads_61 (by decide) rfl rfl rfl ?_
    refine mx_aload_n (pc' := 64) dL_reads_63 rfl rfl ?_
    refine mx_bipush (pc' := 66) (v := nI 17) dL_reads_64 (by decide) rfl ?_
    refine mx_callV (pc' := 69) dL_reads_66 cl_L_13 (rfl) (t_c17 _ (yP Y P) hC) rfl (by decide) rfl (Nat.le_of_ble_eq_true rfl) rfl (fun v N66 hv => ?_)
    obtain ⟨rfl, hC, -⟩ := hv
    refine mx_xistore (pc' := 71) (ls' := [_, _, _, _, _, _, _, _, _, _, _, _, _, _]) dL_reads_69 (by decide) rfl rfl rfl ?_
    refine mx_aload_n (pc' := 72) dL_reads_71 rfl rfl ?_
    refine mx_iload_n (pc' := 73) dL_reads_72 rfl rfl ?_
    refine mx_if_eq (tgt := 80) (pc' := 76) dL_reads_73 (by decide) rfl (fun c73 => ?_) (fun c73 => ?_)
    · 
      refine mx_iconst (pc' := 81) (v := nI 1) dL_reads_80 (by decide) rfl ?_
      have hP60 : P.length ≤ 60 := hC.p60
      have hH4 : Y.2.1.length ≤ 4 := hC.h4
      rcases stF_or P with hz | ⟨j, hj, hz⟩
      · refine mx_callV (pc' := 84) dL_reads_81 cl_L_86 (rfl) (t_flt1 _ (yP Y P) hC hz) rfl (by decide) rfl (Nat.le_of_ble_eq_true rfl) rfl (fun v N81 hv => ?_)
        obtain ⟨rfl, hC, -⟩ := hv
        refine mx_xistore (pc' := 86) (ls' := [_, _, _, _, _, _, _, _, _, _, _, _, _, _]) dL_reads_84 (by decide) rfl rfl rfl ?_
        refine mx_iload_n (pc' := 87) dL_reads_86 rfl rfl ?_
        refine mx_if_eq (tgt := 97) (pc' := 90) dL_reads_87 (by decide) rfl (fun c87 => ?_) (fun c87 => ?_)
        · 
          refine mx_aload_n (pc' := 98) dL_reads_97 rfl rfl ?_
          refine mx_callV (pc' := 101) dL_reads_98 cl_L_92 (rfl) (t_playA _ (yP Y P) hC (Nat.lt_of_le_of_lt (Nat.add_le_add_right ht 100) (Nat.le_of_ble_eq_true rfl)) hz) rfl (by decide) rfl (Nat.le_of_ble_eq_true rfl) rfl (fun v N98 hv => ?_)
          obtain ⟨rfl, hC, -⟩ := hv
          obtain ⟨p1, p2, p3, a, b, p4, p5, p6⟩ := plR_sc P hF
          obtain ⟨w0, w1, w2, w4, w5, w6, w7⟩ := id p1.1.1.2.2
          obtain ⟨v0, v1, v2, v4, v5, v6, v7⟩ := id hF.1.1.2.2
          have hp2 : (plR (yP Y P).2.2.2 (yP Y P).1).1 ≤ P.length := p2
          have hp6 : (plR (yP Y P).2.2.2 (yP Y P).1).1 = a + b := p6
          refine mx_xistore (pc' := 103) (ls' := [_, _, _, _, _, _, _, _, _, _, _, _, _, _]) dL_reads_101 (by decide) rfl rfl rfl ?_
          refine mx_aload_n (pc' := 104) dL_reads_103 rfl rfl ?_
          refine mx_callV (pc' := 107) dL_reads_104 cl_L_69 (rfl) (t_clr0 _ (playY (yP Y P)) hC rfl) rfl (by decide) rfl (Nat.le_of_ble_eq_true rfl) rfl (fun v N104 hv => ?_)
          obtain ⟨rfl, hC⟩ := hv
          refine mx_xistore (pc' := 109) (ls' := [_, _, _, _, _, _, _, _, _, _, _, _, _, _]) dL_reads_107 (by decide) rfl rfl rfl ?_
          refine mx_iload_n (pc' := 110) dL_reads_109 rfl rfl ?_
          refine mx_if_eq (tgt := 144) (pc' := 113) dL_reads_110 (by decide) rfl (fun c110 => ?_) (fun c110 => ?_)
          · first | exact absurd rfl c110 | exact absurd c110 (by (simp (disch := omega) only [Int32.lt_iff_toInt_lt, Int32.le_iff_toInt_le, ← Int32.toInt_inj, ne_eq, not_true_eq_false, not_false_eq_true, yP, hangY, playY, nI_t, z_t, m1_t, m2_t, m3_t, m4_t, m9_t]) <;> omega)
          · refine mx_iload (pc' := 115) dL_reads_113 rfl rfl ?_
            refine mx_bipush (pc' := 117) (v := (-2)) dL_reads_115 (by decide) rfl ?_
            refine mx_icmp_ne (tgt := 124) (pc' := 120) dL_reads_117 (by decide) rfl (fun c117 => ?_) (fun c117 => ?_)
            · 
              refine mx_iconst (pc' := 125) (v := nI 0) dL_reads_124 (by decide) rfl ?_
              refine mx_iload (pc' := 127) dL_reads_125 rfl rfl ?_
              refine mx_bipush (pc' := 129) (v := (-4)) dL_reads_127 (by decide) rfl ?_
              refine mx_icmp_eq (tgt := 136) (pc' := 132) dL_reads_129 (by decide) rfl (fun c129 => ?_) (fun c129 => ?_)
              · 
                refine mx_iconst (pc' := 137) (v := nI 0) dL_reads_136 (by decide) rfl ?_
                refine mx_icmp_ne (tgt := 144) (pc' := 140) dL_reads_137 (by decide) rfl (fun c137 => ?_) (fun c137 => ?_)
                · first | exact absurd rfl c137 | exact absurd c137 (by (simp (disch := omega) only [Int32.lt_iff_toInt_lt, Int32.le_iff_toInt_le, ← Int32.toInt_inj, ne_eq, not_true_eq_false, not_false_eq_true, yP, hangY, playY, nI_t, z_t, m1_t, m2_t, m3_t, m4_t, m9_t]) <;> omega)
                · refine mx_iconst (pc' := 141) (v := nI 1) dL_reads_140 (by decide) rfl ?_
                  refine mx_goto (pc' := 145) dL_reads_141 (by decide) ?_
                  refine mx_xistore (pc' := 147) (ls' := [_, _, _, _, _, _, _, _, _, _, _, _, _, _]) dL_reads_145 (by decide) rfl rfl rfl ?_
                  refine mx_iload (pc' := 149) dL_reads_147 rfl rfl ?_
                  refine mx_bipush (pc' := 151) (v := (-4)) dL_reads_149 (by decide) rfl ?_
                  refine mx_icmp_eq (tgt := 205) (pc' := 154) dL_reads_151 (by decide) rfl (fun c151 => ?_) (fun c151 => ?_)
                  · 
                    refine mx_iload (pc' := 207) dL_reads_205 rfl rfl ?_
                    refine mx_if_eq (tgt := 242) (pc' := 210) dL_reads_207 (by decide) rfl (fun c207 => ?_) (fun c207 => ?_)
                    · first | exact absurd rfl c207 | exact absurd c207 (by (simp (disch := omega) only [Int32.lt_iff_toInt_lt, Int32.le_iff_toInt_le, ← Int32.toInt_inj, ne_eq, not_true_eq_false, not_false_eq_true, yP, hangY, playY, nI_t, z_t, m1_t, m2_t, m3_t, m4_t, m9_t]) <;> omega)
                    · refine mx_iload (pc' := 212) dL_reads_210 rfl rfl ?_
                      refine mx_if_ne (tgt := 242) (pc' := 215) dL_reads_212 (by decide) rfl (fun c212 => ?_) (fun c212 => ?_)
                      · first | exact absurd rfl c212 | exact absurd c212 (by (simp (disch := omega) only [Int32.lt_iff_toInt_lt, Int32.le_iff_toInt_le, ← Int32.toInt_inj, ne_eq, not_true_eq_false, not_false_eq_true, yP, hangY, playY, nI_t, z_t, m1_t, m2_t, m3_t, m4_t, m9_t]) <;> omega)
                      · refine mx_aload_n (pc' := 216) dL_reads_215 rfl rfl ?_
                        refine mx_bipush (pc' := 218) (v := nI 18) dL_reads_216 (by decide) rfl ?_
                        refine mx_callV (pc' := 221) dL_reads_218 cl_L_13 (rfl) (t_c18 _ (playY (yP Y P)) hC) rfl (by decide) rfl (Nat.le_of_ble_eq_true rfl) rfl (fun v N218 hv => ?_)
                        obtain ⟨rfl, hC, -⟩ := hv
                        rw [show (playY (yP Y P)).2.1.length = if Y.2.1.length < 4 then Y.2.1.length + 1 else 4 from hPush_len Y.1 hH4]
                        refine mx_iload (pc' := 223) dL_reads_221 rfl rfl ?_
                        refine mx_iconst (pc' := 224) (v := nI 4) dL_reads_223 (by decide) rfl ?_
                        refine mx_icmp_ge (tgt := 234) (pc' := 227) dL_reads_224 (by decide) rfl (fun c224 => ?_) (fun c224 => ?_)
                        · try (simp (disch := omega) only [Int32.lt_iff_toInt_lt, Int32.le_iff_toInt_le, ← Int32.toInt_inj, ne_eq, yP, hangY, playY, nI_t, z_t, m1_t, m2_t, m3_t, m4_t, m9_t] at c224)
                          rw [if_neg (show ¬ Y.2.1.length < 4 by omega)]
                          refine mx_iconst (pc' := 235) (v := nI 4) dL_reads_234 (by decide) rfl ?_
                          refine mx_icmp_ne (tgt := 242) (pc' := 238) dL_reads_235 (by decide) rfl (fun c235 => ?_) (fun c235 => ?_)
                          · first | exact absurd rfl c235 | exact absurd c235 (by (simp (disch := omega) only [Int32.lt_iff_toInt_lt, Int32.le_iff_toInt_le, ← Int32.toInt_inj, ne_eq, not_true_eq_false, not_false_eq_true, yP, hangY, playY, nI_t, z_t, m1_t, m2_t, m3_t, m4_t, m9_t]) <;> omega)
                          · refine mx_iconst (pc' := 239) (v := nI 1) dL_reads_238 (by decide) rfl ?_
                            refine mx_goto (pc' := 243) dL_reads_239 (by decide) ?_
                            refine mx_xistore (pc' := 245) (ls' := [_, _, _, _, _, _, _, _, _, _, _, _, _, _]) dL_reads_243 (by decide) rfl rfl rfl ?_
                            refine mx_iload (pc' := 247) dL_reads_245 rfl rfl ?_
                            refine mx_if_eq (tgt := 352) (pc' := 250) dL_reads_247 (by decide) rfl (fun c247 => ?_) (fun c247 => ?_)
                            · first | exact absurd rfl c247 | exact absurd c247 (by (simp (disch := omega) only [Int32.lt_iff_toInt_lt, Int32.le_iff_toInt_le, ← Int32.toInt_inj, ne_eq, not_true_eq_false, not_false_eq_true, yP, hangY, playY, nI_t, z_t, m1_t, m2_t, m3_t, m4_t, m9_t]) <;> omega)
                            · refine mx_iload_n (pc' := 251) dL_reads_250 rfl rfl ?_
                              refine mx_if_eq (tgt := 289) (pc' := 254) dL_reads_251 (by decide) rfl (fun c251 => ?_) (fun c251 => ?_)
                              · 
                                refine mx_iload (pc' := 291) dL_reads_289 rfl rfl ?_
                                refine mx_if_lt (tgt := 352) (pc' := 294) dL_reads_291 (by decide) rfl (fun c291 => ?_) (fun c291 => ?_)
                                · first | exact absurd rfl c291 | exact absurd c291 (by (simp (disch := omega) only [Int32.lt_iff_toInt_lt, Int32.le_iff_toInt_le, ← Int32.toInt_inj, ne_eq, not_true_eq_false, not_false_eq_true, yP, hangY, playY, nI_t, z_t, m1_t, m2_t, m3_t, m4_t, m9_t]) <;> omega)
                                · refine mx_iload (pc' := 296) dL_reads_294 rfl rfl ?_
                                  refine mx_iload (pc' := 298) dL_reads_296 rfl rfl ?_
                                  refine mx_icmp_gt (tgt := 352) (pc' := 301) dL_reads_298 (by decide) rfl (fun c298 => ?_) (fun c298 => ?_)
                                  · first | exact absurd rfl c298 | exact absurd c298 (by (simp (disch := omega) only [Int32.lt_iff_toInt_lt, Int32.le_iff_toInt_le, ← Int32.toInt_inj, ne_eq, not_true_eq_false, not_false_eq_true, yP, hangY, playY, nI_t, z_t, m1_t, m2_t, m3_t, m4_t, m9_t]) <;> omega)
                                  · refine mx_aload_n (pc' := 302) dL_reads_301 rfl rfl ?_
                                    refine mx_iconst (pc' := 303) (v := nI 5) dL_reads_302 (by decide) rfl ?_
                                    refine mx_callV (pc' := 306) dL_reads_303 cl_L_13 (rfl) (t_c5 _ (playY (yP Y P)) hC) rfl (by decide) rfl (Nat.le_of_ble_eq_true rfl) rfl (fun v N303 hv => ?_)
                                    obtain ⟨rfl, hC, -⟩ := hv
                                    refine mx_iload (pc' := 308) dL_reads_306 rfl rfl ?_
                                    refine mx_isub (pc' := 309) (v := nI a) dL_reads_308 ((pk_sub (by show Y.1.2.2.1 3 ≤ (plR P Y.1).2.2.2.1 3; omega)).trans (congrArg nI (by show (plR P Y.1).2.2.2.1 3 - Y.1.2.2.1 3 = a; omega))) rfl ?_
                                    refine mx_iload (pc' := 311) dL_reads_309 rfl rfl ?_
                                    refine mx_iadd (pc' := 312) (v := nI (a + Y.1.2.2.1 2)) dL_reads_311 (nI_add _ _) rfl ?_
                                    refine mx_aload_n (pc' := 313) dL_reads_312 rfl rfl ?_
                                    refine mx_iconst (pc' := 314) (v := nI 4) dL_reads_313 (by decide) rfl ?_
                                    refine mx_callV (pc' := 317) dL_reads_314 cl_L_13 (rfl) (t_c4 _ (playY (yP Y P)) hC) rfl (by decide) rfl (Nat.le_of_ble_eq_true rfl) rfl (fun v N314 hv => ?_)
                                    obtain ⟨rfl, hC, -⟩ := hv
                                    refine mx_isub (pc' := 318) (v := nI (a + b)) dL_reads_317 ((pk_sub (by show (plR P Y.1).2.2.2.1 2 ≤ _; omega)).trans (congrArg nI (by show a + Y.1.2.2.1 2 - (plR P Y.1).2.2.2.1 2 = _; omega))) rfl ?_
                                    refine mx_iload (pc' := 320) dL_reads_318 rfl rfl ?_
                                    refine mx_icmp_ne (tgt := 352) (pc' := 323) dL_reads_320 (by decide) rfl (fun c320 => ?_) (fun c320 => ?_)
                                    · exact absurd (congrArg nI hp6.symm) c320
                                    · refine mx_iload (pc' := 325) dL_reads_323 rfl rfl ?_
                                      refine mx_iload (pc' := 327) dL_reads_325 rfl rfl ?_
                                      refine mx_icmp_eq (tgt := 348) (pc' := 330) dL_reads_327 (by decide) rfl (fun c327 => ?_) (fun c327 => ?_)
                                      · 
                                        refine mx_iconst (pc' := 349) (v := nI 1) dL_reads_348 (by decide) rfl ?_
                                        refine mx_goto (pc' := 353) dL_reads_349 (by decide) ?_
                                        refine mx_iret dL_reads_353 (Or.inr ⟨rfl, by decide⟩) ?_
                                        exact kq _ _ hC ⟨rfl, Or.inr ⟨p1, by show (plR P Y.1).2.2.2.1 3 ≤ _; omega, rfl⟩⟩
                                      · have c327 : ¬ (plR P Y.1).1 = P.length := fun z => c327 (congrArg nI z)
                                        refine mx_aload_n (pc' := 331) dL_reads_330 rfl rfl ?_
                                        refine mx_bipush (pc' := 333) (v := nI 6) dL_reads_331 (by decide) rfl ?_
                                        refine mx_callV (pc' := 336) dL_reads_333 cl_L_13 (rfl) (t_c6 _ (playY (yP Y P)) hC) rfl (by decide) rfl (Nat.le_of_ble_eq_true rfl) rfl (fun v N333 hv => ?_)
                                        obtain ⟨rfl, hC, -⟩ := hv
                                        refine mx_iconst (pc' := 337) (v := nI 1) dL_reads_336 (by decide) rfl ?_
                                        refine mx_icmp_eq (tgt := 348) (pc' := 340) dL_reads_337 (by decide) rfl (fun c337 => ?_) (fun c337 => ?_)
                                        · 
                                          refine mx_iconst (pc' := 349) (v := nI 1) dL_reads_348 (by decide) rfl ?_
                                          refine mx_goto (pc' := 353) dL_reads_349 (by decide) ?_
                                          refine mx_iret dL_reads_353 (Or.inr ⟨rfl, by decide⟩) ?_
                                          exact kq _ _ hC ⟨rfl, Or.inr ⟨p1, by show (plR P Y.1).2.2.2.1 3 ≤ _; omega, rfl⟩⟩
                                        · have c337 : ¬ (plR P Y.1).2.2.2.1 4 = 1 := fun z => c337 (congrArg nI z)
                                          refine mx_aload_n (pc' := 341) dL_reads_340 rfl rfl ?_
                                          refine mx_iconst (pc' := 342) (v := nI 4) dL_reads_341 (by decide) rfl ?_
                                          refine mx_callV (pc' := 345) dL_reads_342 cl_L_13 (rfl) (t_c4 _ (playY (yP Y P)) hC) rfl (by decide) rfl (Nat.le_of_ble_eq_true rfl) rfl (fun v N342 hv => ?_)
                                          obtain ⟨rfl, hC, -⟩ := hv
                                          refine mx_if_ne (tgt := 352) (pc' := 348) dL_reads_345 (by decide) rfl (fun c345 => ?_) (fun c345 => ?_)
                                          · exact absurd c345 (fun z => z (congrArg nI (show (plR P Y.1).2.2.2.1 2 = 0 by omega)))
                                          · refine mx_iconst (pc' := 349) (v := nI 1) dL_reads_348 (by decide) rfl ?_
                                            refine mx_goto (pc' := 353) dL_reads_349 (by decide) ?_
                                            refine mx_iret dL_reads_353 (Or.inr ⟨rfl, by decide⟩) ?_
                                            exact kq _ _ hC ⟨rfl, Or.inr ⟨p1, by show (plR P Y.1).2.2.2.1 3 ≤ _; omega, rfl⟩⟩
                              · exfalso
                                first | exact c251 rfl | (revert c251; decide) | ((simp (disch := omega) only [Int32.lt_iff_toInt_lt, Int32.le_iff_toInt_le, ← Int32.toInt_inj, ne_eq, not_true_eq_false, not_false_eq_true, yP, hangY, playY, nI_t, z_t, m1_t, m2_t, m3_t, m4_t, m9_t] at c251) <;> omega)
                        · try (simp (disch := omega) only [Int32.lt_iff_toInt_lt, Int32.le_iff_toInt_le, ← Int32.toInt_inj, ne_eq, yP, hangY, playY, nI_t, z_t, m1_t, m2_t, m3_t, m4_t, m9_t] at c224)
                          rw [if_pos (show Y.2.1.length < 4 by omega)]
                          refine mx_iload (pc' := 229) dL_reads_227 rfl rfl ?_
                          refine mx_iconst (pc' := 230) (v := nI 1) dL_reads_229 (by decide) rfl ?_
                          refine mx_iadd (pc' := 231) (v := nI (Y.2.1.length + 1)) dL_reads_230 (nI_add _ 1) rfl ?_
                          refine mx_goto (pc' := 235) dL_reads_231 (by decide) ?_
                          refine mx_icmp_ne (tgt := 242) (pc' := 238) dL_reads_235 (by decide) rfl (fun c235 => ?_) (fun c235 => ?_)
                          · first | exact absurd rfl c235 | exact absurd c235 (by (simp (disch := omega) only [Int32.lt_iff_toInt_lt, Int32.le_iff_toInt_le, ← Int32.toInt_inj, ne_eq, not_true_eq_false, not_false_eq_true, yP, hangY, playY, nI_t, z_t, m1_t, m2_t, m3_t, m4_t, m9_t]) <;> omega)
                          · refine mx_iconst (pc' := 239) (v := nI 1) dL_reads_238 (by decide) rfl ?_
                            refine mx_goto (pc' := 243) dL_reads_239 (by decide) ?_
                            refine mx_xistore (pc' := 245) (ls' := [_, _, _, _, _, _, _, _, _, _, _, _, _, _]) dL_reads_243 (by decide) rfl rfl rfl ?_
                            refine mx_iload (pc' := 247) dL_reads_245 rfl rfl ?_
                            refine mx_if_eq (tgt := 352) (pc' := 250) dL_reads_247 (by decide) rfl (fun c247 => ?_) (fun c247 => ?_)
                            · first | exact absurd rfl c247 | exact absurd c247 (by (simp (disch := omega) only [Int32.lt_iff_toInt_lt, Int32.le_iff_toInt_le, ← Int32.toInt_inj, ne_eq, not_true_eq_false, not_false_eq_true, yP, hangY, playY, nI_t, z_t, m1_t, m2_t, m3_t, m4_t, m9_t]) <;> omega)
                            · refine mx_iload_n (pc' := 251) dL_reads_250 rfl rfl ?_
                              refine mx_if_eq (tgt := 289) (pc' := 254) dL_reads_251 (by decide) rfl (fun c251 => ?_) (fun c251 => ?_)
                              · 
                                refine mx_iload (pc' := 291) dL_reads_289 rfl rfl ?_
                                refine mx_if_lt (tgt := 352) (pc' := 294) dL_reads_291 (by decide) rfl (fun c291 => ?_) (fun c291 => ?_)
                                · first | exact absurd rfl c291 | exact absurd c291 (by (simp (disch := omega) only [Int32.lt_iff_toInt_lt, Int32.le_iff_toInt_le, ← Int32.toInt_inj, ne_eq, not_true_eq_false, not_false_eq_true, yP, hangY, playY, nI_t, z_t, m1_t, m2_t, m3_t, m4_t, m9_t]) <;> omega)
                                · refine mx_iload (pc' := 296) dL_reads_294 rfl rfl ?_
                                  refine mx_iload (pc' := 298) dL_reads_296 rfl rfl ?_
                                  refine mx_icmp_gt (tgt := 352) (pc' := 301) dL_reads_298 (by decide) rfl (fun c298 => ?_) (fun c298 => ?_)
                                  · first | exact absurd rfl c298 | exact absurd c298 (by (simp (disch := omega) only [Int32.lt_iff_toInt_lt, Int32.le_iff_toInt_le, ← Int32.toInt_inj, ne_eq, not_true_eq_false, not_false_eq_true, yP, hangY, playY, nI_t, z_t, m1_t, m2_t, m3_t, m4_t, m9_t]) <;> omega)
                                  · refine mx_aload_n (pc' := 302) dL_reads_301 rfl rfl ?_
                                    refine mx_iconst (pc' := 303) (v := nI 5) dL_reads_302 (by decide) rfl ?_
                                    refine mx_callV (pc' := 306) dL_reads_303 cl_L_13 (rfl) (t_c5 _ (playY (yP Y P)) hC) rfl (by decide) rfl (Nat.le_of_ble_eq_true rfl) rfl (fun v N303 hv => ?_)
                                    obtain ⟨rfl, hC, -⟩ := hv
                                    refine mx_iload (pc' := 308) dL_reads_306 rfl rfl ?_
                                    refine mx_isub (pc' := 309) (v := nI a) dL_reads_308 ((pk_sub (by show Y.1.2.2.1 3 ≤ (plR P Y.1).2.2.2.1 3; omega)).trans (congrArg nI (by show (plR P Y.1).2.2.2.1 3 - Y.1.2.2.1 3 = a; omega))) rfl ?_
                                    refine mx_iload (pc' := 311) dL_reads_309 rfl rfl ?_
                                    refine mx_iadd (pc' := 312) (v := nI (a + Y.1.2.2.1 2)) dL_reads_311 (nI_add _ _) rfl ?_
                                    refine mx_aload_n (pc' := 313) dL_reads_312 rfl rfl ?_
                                    refine mx_iconst (pc' := 314) (v := nI 4) dL_reads_313 (by decide) rfl ?_
                                    refine mx_callV (pc' := 317) dL_reads_314 cl_L_13 (rfl) (t_c4 _ (playY (yP Y P)) hC) rfl (by decide) rfl (Nat.le_of_ble_eq_true rfl) rfl (fun v N314 hv => ?_)
                                    obtain ⟨rfl, hC, -⟩ := hv
                                    refine mx_isub (pc' := 318) (v := nI (a + b)) dL_reads_317 ((pk_sub (by show (plR P Y.1).2.2.2.1 2 ≤ _; omega)).trans (congrArg nI (by show a + Y.1.2.2.1 2 - (plR P Y.1).2.2.2.1 2 = _; omega))) rfl ?_
                                    refine mx_iload (pc' := 320) dL_reads_318 rfl rfl ?_
                                    refine mx_icmp_ne (tgt := 352) (pc' := 323) dL_reads_320 (by decide) rfl (fun c320 => ?_) (fun c320 => ?_)
                                    · exact absurd (congrArg nI hp6.symm) c320
                                    · refine mx_iload (pc' := 325) dL_reads_323 rfl rfl ?_
                                      refine mx_iload (pc' := 327) dL_reads_325 rfl rfl ?_
                                      refine mx_icmp_eq (tgt := 348) (pc' := 330) dL_reads_327 (by decide) rfl (fun c327 => ?_) (fun c327 => ?_)
                                      · 
                                        refine mx_iconst (pc' := 349) (v := nI 1) dL_reads_348 (by decide) rfl ?_
                                        refine mx_goto (pc' := 353) dL_reads_349 (by decide) ?_
                                        refine mx_iret dL_reads_353 (Or.inr ⟨rfl, by decide⟩) ?_
                                        exact kq _ _ hC ⟨rfl, Or.inr ⟨p1, by show (plR P Y.1).2.2.2.1 3 ≤ _; omega, rfl⟩⟩
                                      · have c327 : ¬ (plR P Y.1).1 = P.length := fun z => c327 (congrArg nI z)
                                        refine mx_aload_n (pc' := 331) dL_reads_330 rfl rfl ?_
                                        refine mx_bipush (pc' := 333) (v := nI 6) dL_reads_331 (by decide) rfl ?_
                                        refine mx_callV (pc' := 336) dL_reads_333 cl_L_13 (rfl) (t_c6 _ (playY (yP Y P)) hC) rfl (by decide) rfl (Nat.le_of_ble_eq_true rfl) rfl (fun v N333 hv => ?_)
                                        obtain ⟨rfl, hC, -⟩ := hv
                                        refine mx_iconst (pc' := 337) (v := nI 1) dL_reads_336 (by decide) rfl ?_
                                        refine mx_icmp_eq (tgt := 348) (pc' := 340) dL_reads_337 (by decide) rfl (fun c337 => ?_) (fun c337 => ?_)
                                        · 
                                          refine mx_iconst (pc' := 349) (v := nI 1) dL_reads_348 (by decide) rfl ?_
                                          refine mx_goto (pc' := 353) dL_reads_349 (by decide) ?_
                                          refine mx_iret dL_reads_353 (Or.inr ⟨rfl, by decide⟩) ?_
                                          exact kq _ _ hC ⟨rfl, Or.inr ⟨p1, by show (plR P Y.1).2.2.2.1 3 ≤ _; omega, rfl⟩⟩
                                        · have c337 : ¬ (plR P Y.1).2.2.2.1 4 = 1 := fun z => c337 (congrArg nI z)
                                          refine mx_aload_n (pc' := 341) dL_reads_340 rfl rfl ?_
                                          refine mx_iconst (pc' := 342) (v := nI 4) dL_reads_341 (by decide) rfl ?_
                                          refine mx_callV (pc' := 345) dL_reads_342 cl_L_13 (rfl) (t_c4 _ (playY (yP Y P)) hC) rfl (by decide) rfl (Nat.le_of_ble_eq_true rfl) rfl (fun v N342 hv => ?_)
                                          obtain ⟨rfl, hC, -⟩ := hv
                                          refine mx_if_ne (tgt := 352) (pc' := 348) dL_reads_345 (by decide) rfl (fun c345 => ?_) (fun c345 => ?_)
                                          · exact absurd c345 (fun z => z (congrArg nI (show (plR P Y.1).2.2.2.1 2 = 0 by omega)))
                                          · refine mx_iconst (pc' := 349) (v := nI 1) dL_reads_348 (by decide) rfl ?_
                                            refine mx_goto (pc' := 353) dL_reads_349 (by decide) ?_
                                            refine mx_iret dL_reads_353 (Or.inr ⟨rfl, by decide⟩) ?_
                                            exact kq _ _ hC ⟨rfl, Or.inr ⟨p1, by show (plR P Y.1).2.2.2.1 3 ≤ _; omega, rfl⟩⟩
                              · exfalso
                                first | exact c251 rfl | (revert c251; decide) | ((simp (disch := omega) only [Int32.lt_iff_toInt_lt, Int32.le_iff_toInt_le, ← Int32.toInt_inj, ne_eq, not_true_eq_false, not_false_eq_true, yP, hangY, playY, nI_t, z_t, m1_t, m2_t, m3_t, m4_t, m9_t] at c251) <;> omega)
                  · exfalso
                    first | exact c151 rfl | (revert c151; decide) | ((simp (disch := omega) only [Int32.lt_iff_toInt_lt, Int32.le_iff_toInt_le, ← Int32.toInt_inj, ne_eq, not_true_eq_false, not_false_eq_true, yP, hangY, playY, nI_t, z_t, m1_t, m2_t, m3_t, m4_t, m9_t] at c151) <;> omega)
              · exfalso
                first | exact c129 rfl | (revert c129; decide) | ((simp (disch := omega) only [Int32.lt_iff_toInt_lt, Int32.le_iff_toInt_le, ← Int32.toInt_inj, ne_eq, not_true_eq_false, not_false_eq_true, yP, hangY, playY, nI_t, z_t, m1_t, m2_t, m3_t, m4_t, m9_t] at c129) <;> omega)
            · exfalso
              first | exact c117 rfl | (revert c117; decide) | ((simp (disch := omega) only [Int32.lt_iff_toInt_lt, Int32.le_iff_toInt_le, ← Int32.toInt_inj, ne_eq, not_true_eq_false, not_false_eq_true, yP, hangY, playY, nI_t, z_t, m1_t, m2_t, m3_t, m4_t, m9_t] at c117) <;> omega)
        · exfalso
          first | exact c87 rfl | (revert c87; decide) | ((simp (disch := omega) only [Int32.lt_iff_toInt_lt, Int32.le_iff_toInt_le, ← Int32.toInt_inj, ne_eq, not_true_eq_false, not_false_eq_true, yP, hangY, playY, nI_t, z_t, m1_t, m2_t, m3_t, m4_t, m9_t] at c87) <;> omega)
      refine mx_callV (pc' := 84) dL_reads_81 cl_L_86 (rfl) (t_flt1 _ (yP Y P) hC hz) rfl (by decide) rfl (Nat.le_of_ble_eq_true rfl) rfl (fun v N81 hv => ?_)
      obtain ⟨rfl, hC, -⟩ := hv
      refine mx_xistore (pc' := 86) (ls' := [_, _, _, _, _, _, _, _, _, _, _, _, _, _]) dL_reads_84 (by decide) rfl rfl rfl ?_
      refine mx_iload_n (pc' := 87) dL_reads_86 rfl rfl ?_
      refine mx_if_eq (tgt := 97) (pc' := 90) dL_reads_87 (by decide) rfl (fun c87 => ?_) (fun c87 => ?_)
      · 
        refine mx_aload_n (pc' := 98) dL_reads_97 rfl rfl ?_
        refine mx_callV (pc' := 101) dL_reads_98 cl_L_92 (rfl) (t_playB _ (yP Y P) hC (Nat.lt_of_le_of_lt (Nat.add_le_add_right ht 100) (Nat.le_of_ble_eq_true rfl)) (fun z => n4_ne j (by omega) (hz.symm.trans z))) rfl (by decide) rfl (Nat.le_of_ble_eq_true rfl) rfl (fun v N98 hv => ?_)
        obtain ⟨rfl, hC, -⟩ := hv
        refine mx_xistore (pc' := 103) (ls' := [_, _, _, _, _, _, _, _, _, _, _, _, _, _]) dL_reads_101 (by decide) rfl rfl rfl ?_
        refine mx_aload_n (pc' := 104) dL_reads_103 rfl rfl ?_
        refine mx_callV (pc' := 107) dL_reads_104 cl_L_69 (rfl) (t_clr _ (yP Y P) hC) rfl (by decide) rfl (Nat.le_of_ble_eq_true rfl) rfl (fun v N104 hv => ?_)
        obtain ⟨rfl, hC⟩ := hv
        refine mx_xistore (pc' := 109) (ls' := [_, _, _, _, _, _, _, _, _, _, _, _, _, _]) dL_reads_107 (by decide) rfl rfl rfl ?_
        refine mx_iload_n (pc' := 110) dL_reads_109 rfl rfl ?_
        refine mx_if_eq (tgt := 144) (pc' := 113) dL_reads_110 (by decide) rfl (fun c110 => ?_) (fun c110 => ?_)
        · first | exact absurd rfl c110 | exact absurd c110 (by (simp (disch := omega) only [Int32.lt_iff_toInt_lt, Int32.le_iff_toInt_le, ← Int32.toInt_inj, ne_eq, not_true_eq_false, not_false_eq_true, yP, hangY, playY, nI_t, z_t, m1_t, m2_t, m3_t, m4_t, m9_t]) <;> omega)
        · refine mx_iload (pc' := 115) dL_reads_113 rfl rfl ?_
          refine mx_bipush (pc' := 117) (v := (-2)) dL_reads_115 (by decide) rfl ?_
          refine mx_icmp_ne (tgt := 124) (pc' := 120) dL_reads_117 (by decide) rfl (fun c117 => ?_) (fun c117 => ?_)
          · exfalso
            first | exact c117 rfl | (revert c117; decide) | ((simp (disch := omega) only [Int32.lt_iff_toInt_lt, Int32.le_iff_toInt_le, ← Int32.toInt_inj, ne_eq, not_true_eq_false, not_false_eq_true, yP, hangY, playY, nI_t, z_t, m1_t, m2_t, m3_t, m4_t, m9_t] at c117) <;> omega)
          · 
            refine mx_iconst (pc' := 121) (v := nI 1) dL_reads_120 (by decide) rfl ?_
            refine mx_goto (pc' := 125) dL_reads_121 (by decide) ?_
            refine mx_iload (pc' := 127) dL_reads_125 rfl rfl ?_
            refine mx_bipush (pc' := 129) (v := (-4)) dL_reads_127 (by decide) rfl ?_
            refine mx_icmp_eq (tgt := 136) (pc' := 132) dL_reads_129 (by decide) rfl (fun c129 => ?_) (fun c129 => ?_)
            · exact absurd c129 (n4_ne j (by omega))
            · 
              refine mx_iconst (pc' := 133) (v := nI 1) dL_reads_132 (by decide) rfl ?_
              refine mx_goto (pc' := 137) dL_reads_133 (by decide) ?_
              refine mx_icmp_ne (tgt := 144) (pc' := 140) dL_reads_137 (by decide) rfl (fun c137 => ?_) (fun c137 => ?_)
              · first | exact absurd rfl c137 | exact absurd c137 (by (simp (disch := omega) only [Int32.lt_iff_toInt_lt, Int32.le_iff_toInt_le, ← Int32.toInt_inj, ne_eq, not_true_eq_false, not_false_eq_true, yP, hangY, playY, nI_t, z_t, m1_t, m2_t, m3_t, m4_t, m9_t]) <;> omega)
              · refine mx_iconst (pc' := 141) (v := nI 1) dL_reads_140 (by decide) rfl ?_
                refine mx_goto (pc' := 145) dL_reads_141 (by decide) ?_
                refine mx_xistore (pc' := 147) (ls' := [_, _, _, _, _, _, _, _, _, _, _, _, _, _]) dL_reads_145 (by decide) rfl rfl rfl ?_
                refine mx_iload (pc' := 149) dL_reads_147 rfl rfl ?_
                refine mx_bipush (pc' := 151) (v := (-4)) dL_reads_149 (by decide) rfl ?_
                refine mx_icmp_eq (tgt := 205) (pc' := 154) dL_reads_151 (by decide) rfl (fun c151 => ?_) (fun c151 => ?_)
                · exact absurd c151 (n4_ne j (by omega))
                · 
                  refine mx_iload (pc' := 156) dL_reads_154 rfl rfl ?_
                  refine mx_if_eq (tgt := 203) (pc' := 159) dL_reads_156 (by decide) rfl (fun c156 => ?_) (fun c156 => ?_)
                  · first | exact absurd rfl c156 | exact absurd c156 (by (simp (disch := omega) only [Int32.lt_iff_toInt_lt, Int32.le_iff_toInt_le, ← Int32.toInt_inj, ne_eq, not_true_eq_false, not_false_eq_true, yP, hangY, playY, nI_t, z_t, m1_t, m2_t, m3_t, m4_t, m9_t]) <;> omega)
                  · refine mx_iload (pc' := 161) dL_reads_159 rfl rfl ?_
                    refine mx_if_lt (tgt := 203) (pc' := 164) dL_reads_161 (by decide) rfl (fun c161 => ?_) (fun c161 => ?_)
                    · first | exact absurd rfl c161 | exact absurd c161 (by (simp (disch := omega) only [Int32.lt_iff_toInt_lt, Int32.le_iff_toInt_le, ← Int32.toInt_inj, ne_eq, not_true_eq_false, not_false_eq_true, yP, hangY, playY, nI_t, z_t, m1_t, m2_t, m3_t, m4_t, m9_t]) <;> omega)
                    · refine mx_iload (pc' := 166) dL_reads_164 rfl rfl ?_
                      refine mx_iload (pc' := 168) dL_reads_166 rfl rfl ?_
                      refine mx_icmp_gt (tgt := 203) (pc' := 171) dL_reads_168 (by decide) rfl (fun c168 => ?_) (fun c168 => ?_)
                      · first | exact absurd rfl c168 | exact absurd c168 (by (simp (disch := omega) only [Int32.lt_iff_toInt_lt, Int32.le_iff_toInt_le, ← Int32.toInt_inj, ne_eq, not_true_eq_false, not_false_eq_true, yP, hangY, playY, nI_t, z_t, m1_t, m2_t, m3_t, m4_t, m9_t]) <;> omega)
                      · refine mx_iload (pc' := 173) dL_reads_171 rfl rfl ?_
                        refine mx_iload (pc' := 175) dL_reads_173 rfl rfl ?_
                        refine mx_icmp_ne (tgt := 203) (pc' := 178) dL_reads_175 (by decide) rfl (fun c175 => ?_) (fun c175 => ?_)
                        · first | exact absurd rfl c175 | exact absurd c175 (by (simp (disch := omega) only [Int32.lt_iff_toInt_lt, Int32.le_iff_toInt_le, ← Int32.toInt_inj, ne_eq, not_true_eq_false, not_false_eq_true, yP, hangY, playY, nI_t, z_t, m1_t, m2_t, m3_t, m4_t, m9_t]) <;> omega)
                        · refine mx_aload_n (pc' := 179) dL_reads_178 rfl rfl ?_
                          refine mx_callS (pc' := 182) dL_reads_179 cl_L_82 (t_L_look _ (yP (yP Y P) []) hC (Nat.lt_of_le_of_lt (Nat.add_le_add_right ht 100) (Nat.le_of_ble_eq_true rfl))) rfl (by decide) rfl (Nat.le_of_ble_eq_true rfl) rfl (fun v N179 hv => ?_)
                          obtain ⟨rfl, hC⟩ := hv
                          refine mx_lload (pc' := 184) dL_reads_182 rfl rfl ?_
                          refine mx_lcmp (pc' := 185) dL_reads_184 rfl ?_
                          refine mx_if_ne (tgt := 203) (pc' := 188) dL_reads_185 (by decide) rfl (fun c185 => ?_) (fun c185 => ?_)
                          · first | exact absurd rfl c185 | exact absurd c185 (by (simp (disch := omega) only [Int32.lt_iff_toInt_lt, Int32.le_iff_toInt_le, ← Int32.toInt_inj, ne_eq, not_true_eq_false, not_false_eq_true, yP, hangY, playY, nI_t, z_t, m1_t, m2_t, m3_t, m4_t, m9_t]) <;> omega)
                          · refine mx_aload_n (pc' := 189) dL_reads_188 rfl rfl ?_
                            refine mx_bipush (pc' := 191) (v := nI 18) dL_reads_189 (by decide) rfl ?_
                            refine mx_callV (pc' := 194) dL_reads_191 cl_L_13 (rfl) (t_c18 _ (yP (yP Y P) []) hC) rfl (by decide) rfl (Nat.le_of_ble_eq_true rfl) rfl (fun v N191 hv => ?_)
                            obtain ⟨rfl, hC, -⟩ := hv
                            refine mx_iload (pc' := 196) dL_reads_194 rfl rfl ?_
                            refine mx_icmp_ne (tgt := 203) (pc' := 199) dL_reads_196 (by decide) rfl (fun c196 => ?_) (fun c196 => ?_)
                            · first | exact absurd rfl c196 | exact absurd c196 (by (simp (disch := omega) only [Int32.lt_iff_toInt_lt, Int32.le_iff_toInt_le, ← Int32.toInt_inj, ne_eq, not_true_eq_false, not_false_eq_true, yP, hangY, playY, nI_t, z_t, m1_t, m2_t, m3_t, m4_t, m9_t]) <;> omega)
                            · refine mx_iconst (pc' := 200) (v := nI 1) dL_reads_199 (by decide) rfl ?_
                              refine mx_goto (pc' := 204) dL_reads_200 (by decide) ?_
                              refine mx_iret dL_reads_204 (Or.inr ⟨rfl, by decide⟩) ?_
                              exact kq _ _ hC ⟨rfl, Or.inl ⟨rfl, rfl⟩⟩
      · exfalso
        first | exact c87 rfl | (revert c87; decide) | ((simp (disch := omega) only [Int32.lt_iff_toInt_lt, Int32.le_iff_toInt_le, ← Int32.toInt_inj, ne_eq, not_true_eq_false, not_false_eq_true, yP, hangY, playY, nI_t, z_t, m1_t, m2_t, m3_t, m4_t, m9_t] at c87) <;> omega)
    · exfalso
      first | exact c73 rfl | (revert c73; decide) | ((simp (disch := omega) only [Int32.lt_iff_toInt_lt, Int32.le_iff_toInt_le, ← Int32.toInt_inj, ne_eq, not_true_eq_false, not_false_eq_true, yP, hangY, playY, nI_t, z_t, m1_t, m2_t, m3_t, m4_t, m9_t] at c73) <;> omega)
  · exfalso
    first | exact c18 rfl | (revert c18; decide) | ((simp (disch := omega) only [Int32.lt_iff_toInt_lt, Int32.le_iff_toInt_le, ← Int32.toInt_inj, ne_eq, not_true_eq_false, not_false_eq_true, yP, hangY, playY, nI_t, z_t, m1_t, m2_t, m3_t, m4_t, m9_t] at c18) <;> omega)

set_option maxHeartbeats 2000000 in
set_option maxRecDepth 10000 in
theorem t_L_reads (M : mx_M) (Y : Sy) (hC : CoA M Y) (ht : Y.1.2.2.1 3 ≤ 100000) (hF : FI Y.1) (x : Int32) : mx_T yL_reads cL_reads 14 (some .boolean) 8 [.ref 0, .int x] M (fun v M' => v = some (.int (nI 1)) ∧ ∃ Y', CoA M' Y' ∧ Tr Y Y') := by
  refine mx_T.of1 (own := RL) (ls := [some (.ref 0), some (.int x), none, none, none, none, none, none, none, none, none, none, none, none]) (by decide +kernel) rfl (Nat.le_of_ble_eq_true rfl) rfl rfl ?_
  refine mx_iload_n (pc' := 1) dL_reads_0 rfl rfl ?_
  refine mx_bipush (pc' := 3) (v := nI 19) dL_reads_1 (by decide) rfl ?_
  refine mx_ishr (pc' := 4) dL_reads_3 (rfl) rfl ?_
  refine mx_iconst (pc' := 5) (v := nI 3) dL_reads_4 (by decide) rfl ?_
  refine mx_callS (pc' := 8) dL_reads_5 cl_L_34 (t_L_low _ _ _ ⟨by omega, by omega⟩) rfl (by decide) rfl (Nat.le_of_ble_eq_true rfl) rfl (fun v N5 hv => ?_)
  obtain ⟨j5, hj5, rfl, rfl⟩ := hv
  refine mx_if_ne (tgt := 15) (pc' := 11) dL_reads_8 (by decide) rfl (fun c8 => ?_) (fun c8 => ?_)
  · 
    refine mx_iconst (pc' := 16) (v := nI 0) dL_reads_15 (by decide) rfl ?_
    refine mx_xistore_n (pc' := 17) (ls' := [_, _, _, _, _, _, _, _, _, _, _, _, _, _]) dL_reads_16 (by decide) rfl rfl rfl ?_
    exact l_reads0 Y ht hF _ (fun M1 Y' h1 h2 => ⟨rfl, Y', h1, h2⟩) x hC
  · 
    refine mx_iconst (pc' := 12) (v := nI 1) dL_reads_11 (by decide) rfl ?_
    refine mx_goto (pc' := 16) dL_reads_12 (by decide) ?_
    refine mx_xistore_n (pc' := 17) (ls' := [_, _, _, _, _, _, _, _, _, _, _, _, _, _]) dL_reads_16 (by decide) rfl rfl rfl ?_
    exact l_reads1 Y ht hF _ (fun M1 Y' h1 h2 => ⟨rfl, Y', h1, h2⟩) x hC

