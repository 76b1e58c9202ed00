/-! acts: emitter, takeAway -/
theorem dr_t {k : Nat} (h : k < 1000) : (dr k).toInt = (k : Int) - 1 := pk_sub_toInt (show k < 2 ^ 30 by omega) (show 1 < 2 ^ 30 by omega)
theorem pd_t {c d : Nat} (hc : c < 12) (hd : d < 3) : (nI c + dr d).toInt = (c : Int) + d - 1 := by
  have h : ∀ c, c < 12 → ∀ d, d < 3 → (nI c + dr d).toInt = (c : Int) + d - 1 := by decide +kernel
  exact h c hc d hd
def emY (Y : Sy) (z : Em) : Sy := pushY Y (Y.1.1 ++ [z], Y.1.2.1, Y.1.2.2.1, Y.1.2.2.2)
def taY (Y : Sy) (n : Nat) : Sy := pushY Y (Y.1.1.eraseIdx n, Y.1.2.1, Y.1.2.2.1, Y.1.2.2.2)
theorem t_emit0 (M : mx_M) (Y : Sy) (hC : CoA M Y) {c k p f : Nat} (hs : c < 100 ∧ k < 100 ∧ p < 100 ∧ f < 100) (h : c = 10 ∨ k = 6 ∨ p = 0 ∨ p = 10 ∨ p ≤ f) (hl : p ≤ 10) : mx_T yX7_emitter cX7_emitter 5 (some .int) 5 [.ref 0, .int (nI c), .int (nI k), .int (nI p), .int (nI f)] M (fun v M' => v = some (.int (-1)) ∧ CoA M' Y ∧ Mo M M') := by
  have e : oEmitter (nI c) (nI k) (nI p) (nI f) Y = ((-1), Y) := by
    unfold oEmitter
    rw [if_neg]
    intro ⟨⟨a1, a2⟩, ⟨a3, a4⟩, ⟨a5, a6⟩, a7, a8⟩
    have a2 := (nI_ltI (by omega) (by omega)).mp a2
    have a4 := (nI_leI (by omega) (by omega)).mp a4
    have a5 := (nI_leI (by omega) (by omega)).mp a5
    have a6 := (nI_leI (by omega) (by omega)).mp a6
    have a8 := (nI_ltI (by omega) (by omega)).mp a8
    omega
  have h := t_X7_emitter M Y hC (nI c) (nI k) (nI p) (nI f)
  rw [e] at h
  exact h
theorem em_cond {c k p f : Nat} (hs : c < 10 ∧ k < 6 ∧ 1 ≤ p ∧ p ≤ 9 ∧ f < p) : (0 ≤ nI c ∧ nI c < nI 10) ∧ (0 ≤ nI k ∧ nI k ≤ nI 5) ∧ (nI 1 ≤ nI p ∧ nI p ≤ nI 9) ∧ 0 ≤ nI f ∧ nI f < nI p :=
  ⟨⟨nI_p0 (by omega), (nI_ltI (by omega) (by omega)).mpr (by omega)⟩, ⟨nI_p0 (by omega), (nI_leI (by omega) (by omega)).mpr (by omega)⟩, ⟨(nI_leI (by omega) (by omega)).mpr (by omega), (nI_leI (by omega) (by omega)).mpr (by omega)⟩, nI_p0 (by omega), (nI_ltI (by omega) (by omega)).mpr (by omega)⟩
theorem t_emit3 (M : mx_M) (Y : Sy) (hC : CoA M Y) {c k p f : Nat} (hs : c < 10 ∧ k < 6 ∧ 1 ≤ p ∧ p ≤ 9 ∧ f < p) (h4 : Y.1.1.length = 4) : mx_T yX7_emitter cX7_emitter 5 (some .int) 5 [.ref 0, .int (nI c), .int (nI k), .int (nI p), .int (nI f)] M (fun v M' => v = some (.int (-3)) ∧ CoA M' Y ∧ Mo M M') := by
  have e : oEmitter (nI c) (nI k) (nI p) (nI f) Y = ((-3), Y) := by
    unfold oEmitter
    rw [if_pos (em_cond hs), if_pos h4]
  have h := t_X7_emitter M Y hC (nI c) (nI k) (nI p) (nI f)
  rw [e] at h
  exact h
theorem t_emit1 (M : mx_M) (Y : Sy) (hC : CoA M Y) {c k p f : Nat} (hs : c < 10 ∧ k < 6 ∧ 1 ≤ p ∧ p ≤ 9 ∧ f < p) (h4 : ¬ Y.1.1.length = 4) : mx_T yX7_emitter cX7_emitter 5 (some .int) 5 [.ref 0, .int (nI c), .int (nI k), .int (nI p), .int (nI f)] M (fun v M' => v = some (.int (nI Y.1.1.length)) ∧ CoA M' (emY Y (c, k, p, f)) ∧ Mo M M') := by
  have e : oEmitter (nI c) (nI k) (nI p) (nI f) Y = (nI Y.1.1.length, emY Y (c, k, p, f)) := by
    unfold oEmitter
    rw [if_pos (em_cond hs), if_neg h4, tN_n (by omega), tN_n (by omega), tN_n (by omega), tN_n (by omega)]
    rfl
  have h := t_X7_emitter M Y hC (nI c) (nI k) (nI p) (nI f)
  rw [e] at h
  exact h
theorem t_take0 (M : mx_M) (Y : Sy) (hC : CoA M Y) (hl : Y.1.1.length ≤ 4) : mx_T yX7_takeAway cX7_takeAway 2 (some .int) 5 [.ref 0, .int (nI Y.1.1.length)] M (fun v M' => v = some (.int (-1)) ∧ CoA M' Y ∧ Mo M M') := by
  have e : oTakeAway (nI Y.1.1.length) Y = ((-1), Y) := if_neg (fun z => absurd ((nI_ltI (by omega) (by omega)).mp z.2) (by omega))
  have h := t_X7_takeAway M Y hC (nI Y.1.1.length)
  rw [e] at h
  exact h
theorem t_take1 (M : mx_M) (Y : Sy) (hC : CoA M Y) {n : Nat} (hl : Y.1.1.length ≤ 4) (hn : n < Y.1.1.length) : mx_T yX7_takeAway cX7_takeAway 2 (some .int) 5 [.ref 0, .int (nI n)] M (fun v M' => v = some (.int (nI (Y.1.1.length - 1))) ∧ CoA M' (taY Y n) ∧ Mo M M') := by
  have e : oTakeAway (nI n) Y = (nI (Y.1.1.length - 1), taY Y n) := by
    unfold oTakeAway
    rw [if_pos ⟨nI_p0 (by omega), (nI_ltI (by omega) (by omega)).mpr hn⟩, tN_n (by omega), List.length_eraseIdx, if_pos hn]
    rfl
  have h := t_X7_takeAway M Y hC (nI n)
  rw [e] at h
  exact h
set_option maxHeartbeats 2000000 in
set_option maxRecDepth 10000 in
theorem l_em148 (Y : Sy) (ht : Y.1.2.2.1 3 ≤ 100000) (hF : FI Y.1) (Q : Option Value → mx_M → Prop) (kq : ∀ M1 Y', CoA M1 Y' → Tr Y Y' → Q (some (.int (nI 1))) M1) (x y : Int32) (hw dn : Nat) (hdn : dn = Y.1.2.2.1 4) (pe ph co ki bd : Nat) (hs : pe ≤ 10 ∧ ph < 10 ∧ co < 11 ∧ ki < 7) (hbd : (bd = 1 ∧ (co = 10 ∨ ki = 6 ∨ pe = 0 ∨ pe = 10 ∨ pe ≤ ph)) ∨ (bd = 0 ∧ co ≠ 10 ∧ ki ≠ 6 ∧ pe ≠ 0 ∧ pe ≠ 10 ∧ ph < pe)) {M1 : mx_M} (hC : CoA M1 Y) : mx_V cL_acts RL 15 (some .boolean) 9 148 [some (.ref 0), some (.int (x)), some (.int (y)), some (.int (nI hw)), some (.int (nI Y.1.1.length)), some (.int (nI dn)), some (.int (nI pe)), some (.int (nI ph)), some (.int (nI co)), some (.int (nI ki)), some (.int (nI bd)), none, none, none, none] [] M1 Q := by
  obtain ⟨⟨⟨hE, hB, hV⟩, -⟩, hcl⟩ := id hF
  obtain ⟨v0, v1, v2, v4, v5, v6, v7⟩ := id hV
  have hB60 := hB.1
  have hE4 := hE.1
  
  by_cases hb1 : bd = 1
  · refine mx_aload_n (pc' := 149) dL_acts_148 rfl rfl ?_
    refine mx_iload (pc' := 151) dL_acts_149 rfl rfl ?_
    refine mx_iload (pc' := 153) dL_acts_151 rfl rfl ?_
    refine mx_iload (pc' := 155) dL_acts_153 rfl rfl ?_
    refine mx_iload (pc' := 157) dL_acts_155 rfl rfl ?_
    refine mx_callV (pc' := 160) dL_acts_157 cl_L_95 (rfl) (t_emit0 _ Y hC ⟨by omega, by omega, by omega, by omega⟩ (by omega) (by omega)) rfl (by decide) rfl (Nat.le_of_ble_eq_true rfl) rfl (fun v N157 hv => ?_)
    obtain ⟨rfl, hC, -⟩ := hv
    refine mx_xistore (pc' := 162) (ls' := [_, _, _, _, _, _, _, _, _, _, _, _, _, _, _]) dL_acts_160 (by decide) rfl rfl rfl ?_
    refine mx_iload (pc' := 164) dL_acts_162 rfl rfl ?_
    refine mx_iload (pc' := 166) dL_acts_164 rfl rfl ?_
    refine mx_if_eq (tgt := 173) (pc' := 169) dL_acts_166 (by decide) rfl (fun c166 => ?_) (fun c166 => ?_)
    · exfalso
      first | exact c166 rfl | (revert c166; decide) | ((simp (disch := omega) only [Int32.lt_iff_toInt_lt, Int32.le_iff_toInt_le, ← Int32.toInt_inj, ne_eq, not_true_eq_false, not_false_eq_true, pd_t, dr_t, nI_t, z_t, m1_t, m2_t, m3_t, m4_t, m9_t] at c166) <;> omega)
    · 
      refine mx_iconst (pc' := 170) (v := (-1)) dL_acts_169 (by decide) rfl ?_
      refine mx_goto (pc' := 186) dL_acts_170 (by decide) ?_
      refine mx_icmp_ne (tgt := 267) (pc' := 189) dL_acts_186 (by decide) rfl (fun c186 => ?_) (fun c186 => ?_)
      · first | exact absurd rfl c186 | exact absurd c186 (by (simp (disch := omega) only [Int32.lt_iff_toInt_lt, Int32.le_iff_toInt_le, ← Int32.toInt_inj, ne_eq, not_true_eq_false, not_false_eq_true, pd_t, dr_t, nI_t, z_t, m1_t, m2_t, m3_t, m4_t, m9_t]) <;> omega)
      · refine mx_aload_n (pc' := 190) dL_acts_189 rfl rfl ?_
        refine mx_iconst (pc' := 191) (v := nI 0) dL_acts_190 (by decide) rfl ?_
        refine mx_callV (pc' := 194) dL_acts_191 cl_L_13 (rfl) (t_c0 _ (Y) hC) rfl (by decide) rfl (Nat.le_of_ble_eq_true rfl) rfl (fun v N191 hv => ?_)
        obtain ⟨rfl, hC, -⟩ := hv
        refine mx_iload (pc' := 196) dL_acts_194 rfl rfl ?_
        refine mx_iload (pc' := 198) dL_acts_196 rfl rfl ?_
        refine mx_if_ge (tgt := 205) (pc' := 201) dL_acts_198 (by decide) rfl (fun c198 => ?_) (fun c198 => ?_)
        · exfalso
          first | exact c198 rfl | (revert c198; decide) | ((simp (disch := omega) only [Int32.lt_iff_toInt_lt, Int32.le_iff_toInt_le, ← Int32.toInt_inj, ne_eq, not_true_eq_false, not_false_eq_true, pd_t, dr_t, nI_t, z_t, m1_t, m2_t, m3_t, m4_t, m9_t] at c198) <;> omega)
        · 
          refine mx_iconst (pc' := 202) (v := nI 0) dL_acts_201 (by decide) rfl ?_
          refine mx_goto (pc' := 206) dL_acts_202 (by decide) ?_
          refine mx_iadd (pc' := 207) (v := nI (Y.1.1.length + 0)) dL_acts_206 (nI_add _ 0) rfl ?_
          refine mx_icmp_ne (tgt := 267) (pc' := 210) dL_acts_207 (by decide) rfl (fun c207 => ?_) (fun c207 => ?_)
          · first | exact absurd rfl c207 | exact absurd c207 (by (simp (disch := omega) only [Int32.lt_iff_toInt_lt, Int32.le_iff_toInt_le, ← Int32.toInt_inj, ne_eq, not_true_eq_false, not_false_eq_true, pd_t, dr_t, nI_t, z_t, m1_t, m2_t, m3_t, m4_t, m9_t]) <;> omega)
          · refine mx_iload (pc' := 212) dL_acts_210 rfl rfl ?_
            refine mx_if_lt (tgt := 263) (pc' := 215) dL_acts_212 (by decide) rfl (fun c212 => ?_) (fun c212 => ?_)
            · 
              refine mx_iconst (pc' := 264) (v := nI 1) dL_acts_263 (by decide) rfl ?_
              refine mx_goto (pc' := 268) dL_acts_264 (by decide) ?_
              refine mx_iret dL_acts_268 (Or.inr ⟨rfl, by decide⟩) ?_
              exact kq _ _ hC ⟨rfl, Or.inl ⟨rfl, rfl⟩⟩
            · exfalso
              first | exact c212 rfl | (revert c212; decide) | ((simp (disch := omega) only [Int32.lt_iff_toInt_lt, Int32.le_iff_toInt_le, ← Int32.toInt_inj, ne_eq, not_true_eq_false, not_false_eq_true, pd_t, dr_t, nI_t, z_t, m1_t, m2_t, m3_t, m4_t, m9_t] at c212) <;> omega)
  by_cases h4 : Y.1.1.length = 4
  · refine mx_aload_n (pc' := 149) dL_acts_148 rfl rfl ?_
    refine mx_iload (pc' := 151) dL_acts_149 rfl rfl ?_
    refine mx_iload (pc' := 153) dL_acts_151 rfl rfl ?_
    refine mx_iload (pc' := 155) dL_acts_153 rfl rfl ?_
    refine mx_iload (pc' := 157) dL_acts_155 rfl rfl ?_
    refine mx_callV (pc' := 160) dL_acts_157 cl_L_95 (rfl) (t_emit3 _ Y hC ⟨by omega, by omega, by omega, by omega, by omega⟩ h4) rfl (by decide) rfl (Nat.le_of_ble_eq_true rfl) rfl (fun v N157 hv => ?_)
    obtain ⟨rfl, hC, -⟩ := hv
    refine mx_xistore (pc' := 162) (ls' := [_, _, _, _, _, _, _, _, _, _, _, _, _, _, _]) dL_acts_160 (by decide) rfl rfl rfl ?_
    refine mx_iload (pc' := 164) dL_acts_162 rfl rfl ?_
    refine mx_iload (pc' := 166) dL_acts_164 rfl rfl ?_
    refine mx_if_eq (tgt := 173) (pc' := 169) dL_acts_166 (by decide) rfl (fun c166 => ?_) (fun c166 => ?_)
    · 
      refine mx_iload (pc' := 175) dL_acts_173 rfl rfl ?_
      refine mx_iconst (pc' := 176) (v := nI 4) dL_acts_175 (by decide) rfl ?_
      refine mx_icmp_ne (tgt := 184) (pc' := 179) dL_acts_176 (by decide) rfl (fun c176 => ?_) (fun c176 => ?_)
      · exfalso
        first | exact c176 rfl | (revert c176; decide) | ((simp (disch := omega) only [Int32.lt_iff_toInt_lt, Int32.le_iff_toInt_le, ← Int32.toInt_inj, ne_eq, not_true_eq_false, not_false_eq_true, pd_t, dr_t, nI_t, z_t, m1_t, m2_t, m3_t, m4_t, m9_t] at c176) <;> omega)
      · 
        refine mx_bipush (pc' := 181) (v := (-3)) dL_acts_179 (by decide) rfl ?_
        refine mx_goto (pc' := 186) dL_acts_181 (by decide) ?_
        refine mx_icmp_ne (tgt := 267) (pc' := 189) dL_acts_186 (by decide) rfl (fun c186 => ?_) (fun c186 => ?_)
        · first | exact absurd rfl c186 | exact absurd c186 (by (simp (disch := omega) only [Int32.lt_iff_toInt_lt, Int32.le_iff_toInt_le, ← Int32.toInt_inj, ne_eq, not_true_eq_false, not_false_eq_true, pd_t, dr_t, nI_t, z_t, m1_t, m2_t, m3_t, m4_t, m9_t]) <;> omega)
        · refine mx_aload_n (pc' := 190) dL_acts_189 rfl rfl ?_
          refine mx_iconst (pc' := 191) (v := nI 0) dL_acts_190 (by decide) rfl ?_
          refine mx_callV (pc' := 194) dL_acts_191 cl_L_13 (rfl) (t_c0 _ (Y) hC) rfl (by decide) rfl (Nat.le_of_ble_eq_true rfl) rfl (fun v N191 hv => ?_)
          obtain ⟨rfl, hC, -⟩ := hv
          refine mx_iload (pc' := 196) dL_acts_194 rfl rfl ?_
          refine mx_iload (pc' := 198) dL_acts_196 rfl rfl ?_
          refine mx_if_ge (tgt := 205) (pc' := 201) dL_acts_198 (by decide) rfl (fun c198 => ?_) (fun c198 => ?_)
          · exfalso
            first | exact c198 rfl | (revert c198; decide) | ((simp (disch := omega) only [Int32.lt_iff_toInt_lt, Int32.le_iff_toInt_le, ← Int32.toInt_inj, ne_eq, not_true_eq_false, not_false_eq_true, pd_t, dr_t, nI_t, z_t, m1_t, m2_t, m3_t, m4_t, m9_t] at c198) <;> omega)
          · 
            refine mx_iconst (pc' := 202) (v := nI 0) dL_acts_201 (by decide) rfl ?_
            refine mx_goto (pc' := 206) dL_acts_202 (by decide) ?_
            refine mx_iadd (pc' := 207) (v := nI (Y.1.1.length + 0)) dL_acts_206 (nI_add _ 0) rfl ?_
            refine mx_icmp_ne (tgt := 267) (pc' := 210) dL_acts_207 (by decide) rfl (fun c207 => ?_) (fun c207 => ?_)
            · first | exact absurd rfl c207 | exact absurd c207 (by (simp (disch := omega) only [Int32.lt_iff_toInt_lt, Int32.le_iff_toInt_le, ← Int32.toInt_inj, ne_eq, not_true_eq_false, not_false_eq_true, pd_t, dr_t, nI_t, z_t, m1_t, m2_t, m3_t, m4_t, m9_t]) <;> omega)
            · refine mx_iload (pc' := 212) dL_acts_210 rfl rfl ?_
              refine mx_if_lt (tgt := 263) (pc' := 215) dL_acts_212 (by decide) rfl (fun c212 => ?_) (fun c212 => ?_)
              · 
                refine mx_iconst (pc' := 264) (v := nI 1) dL_acts_263 (by decide) rfl ?_
                refine mx_goto (pc' := 268) dL_acts_264 (by decide) ?_
                refine mx_iret dL_acts_268 (Or.inr ⟨rfl, by decide⟩) ?_
                exact kq _ _ hC ⟨rfl, Or.inl ⟨rfl, rfl⟩⟩
              · exfalso
                first | exact c212 rfl | (revert c212; decide) | ((simp (disch := omega) only [Int32.lt_iff_toInt_lt, Int32.le_iff_toInt_le, ← Int32.toInt_inj, ne_eq, not_true_eq_false, not_false_eq_true, pd_t, dr_t, nI_t, z_t, m1_t, m2_t, m3_t, m4_t, m9_t] at c212) <;> omega)
    · exfalso
      first | exact c166 rfl | (revert c166; decide) | ((simp (disch := omega) only [Int32.lt_iff_toInt_lt, Int32.le_iff_toInt_le, ← Int32.toInt_inj, ne_eq, not_true_eq_false, not_false_eq_true, pd_t, dr_t, nI_t, z_t, m1_t, m2_t, m3_t, m4_t, m9_t] at c166) <;> omega)
  refine mx_aload_n (pc' := 149) dL_acts_148 rfl rfl ?_
  refine mx_iload (pc' := 151) dL_acts_149 rfl rfl ?_
  refine mx_iload (pc' := 153) dL_acts_151 rfl rfl ?_
  refine mx_iload (pc' := 155) dL_acts_153 rfl rfl ?_
  refine mx_iload (pc' := 157) dL_acts_155 rfl rfl ?_
  refine mx_callV (pc' := 160) dL_acts_157 cl_L_95 (rfl) (t_emit1 _ Y hC ⟨by omega, by omega, by omega, by omega, by omega⟩ h4) rfl (by decide) rfl (Nat.le_of_ble_eq_true rfl) rfl (fun v N157 hv => ?_)
  obtain ⟨rfl, hC, -⟩ := hv
  have hl1 : (emY Y (co, ki, pe, ph)).1.1.length = Y.1.1.length + 1 := List.length_append
  have hl5 : (emY Y (co, ki, pe, ph)).1.1.length ≤ 4 := by omega
  have hx5 : (emY Y (co, ki, pe, ph)).1.1[Y.1.1.length]? = some (co, ki, pe, ph) := by
    show (Y.1.1 ++ [(co, ki, pe, ph)])[Y.1.1.length]? = _
    rw [List.getElem?_append_right (Nat.le_refl _), Nat.sub_self]; rfl
  refine mx_xistore (pc' := 162) (ls' := [_, _, _, _, _, _, _, _, _, _, _, _, _, _, _]) dL_acts_160 (by decide) rfl rfl rfl ?_
  refine mx_iload (pc' := 164) dL_acts_162 rfl rfl ?_
  refine mx_iload (pc' := 166) dL_acts_164 rfl rfl ?_
  refine mx_if_eq (tgt := 173) (pc' := 169) dL_acts_166 (by decide) rfl (fun c166 => ?_) (fun c166 => ?_)
  · 
    refine mx_iload (pc' := 175) dL_acts_173 rfl rfl ?_
    refine mx_iconst (pc' := 176) (v := nI 4) dL_acts_175 (by decide) rfl ?_
    refine mx_icmp_ne (tgt := 184) (pc' := 179) dL_acts_176 (by decide) rfl (fun c176 => ?_) (fun c176 => ?_)
    · 
      refine mx_iload (pc' := 186) dL_acts_184 rfl rfl ?_
      refine mx_icmp_ne (tgt := 267) (pc' := 189) dL_acts_186 (by decide) rfl (fun c186 => ?_) (fun c186 => ?_)
      · first | exact absurd rfl c186 | exact absurd c186 (by (simp (disch := omega) only [Int32.lt_iff_toInt_lt, Int32.le_iff_toInt_le, ← Int32.toInt_inj, ne_eq, not_true_eq_false, not_false_eq_true, pd_t, dr_t, nI_t, z_t, m1_t, m2_t, m3_t, m4_t, m9_t]) <;> omega)
      · refine mx_aload_n (pc' := 190) dL_acts_189 rfl rfl ?_
        refine mx_iconst (pc' := 191) (v := nI 0) dL_acts_190 (by decide) rfl ?_
        refine mx_callV (pc' := 194) dL_acts_191 cl_L_13 (rfl) (t_c0 _ (emY Y (co, ki, pe, ph)) hC) rfl (by decide) rfl (Nat.le_of_ble_eq_true rfl) rfl (fun v N191 hv => ?_)
        obtain ⟨rfl, hC, -⟩ := hv
        refine mx_iload (pc' := 196) dL_acts_194 rfl rfl ?_
        refine mx_iload (pc' := 198) dL_acts_196 rfl rfl ?_
        refine mx_if_ge (tgt := 205) (pc' := 201) dL_acts_198 (by decide) rfl (fun c198 => ?_) (fun c198 => ?_)
        · 
          refine mx_iconst (pc' := 206) (v := nI 1) dL_acts_205 (by decide) rfl ?_
          refine mx_iadd (pc' := 207) (v := nI (Y.1.1.length + 1)) dL_acts_206 (nI_add _ 1) rfl ?_
          refine mx_icmp_ne (tgt := 267) (pc' := 210) dL_acts_207 (by decide) rfl (fun c207 => ?_) (fun c207 => ?_)
          · first | exact absurd rfl c207 | exact absurd c207 (by (simp (disch := omega) only [Int32.lt_iff_toInt_lt, Int32.le_iff_toInt_le, ← Int32.toInt_inj, ne_eq, not_true_eq_false, not_false_eq_true, pd_t, dr_t, nI_t, z_t, m1_t, m2_t, m3_t, m4_t, m9_t]) <;> omega)
          · refine mx_iload (pc' := 212) dL_acts_210 rfl rfl ?_
            refine mx_if_lt (tgt := 263) (pc' := 215) dL_acts_212 (by decide) rfl (fun c212 => ?_) (fun c212 => ?_)
            · exfalso
              first | exact c212 rfl | (revert c212; decide) | ((simp (disch := omega) only [Int32.lt_iff_toInt_lt, Int32.le_iff_toInt_le, ← Int32.toInt_inj, ne_eq, not_true_eq_false, not_false_eq_true, pd_t, dr_t, nI_t, z_t, m1_t, m2_t, m3_t, m4_t, m9_t] at c212) <;> omega)
            · 
              refine mx_aload_n (pc' := 216) dL_acts_215 rfl rfl ?_
              refine mx_iload (pc' := 218) dL_acts_216 rfl rfl ?_
              refine mx_iconst (pc' := 219) (v := nI 0) dL_acts_218 (by decide) rfl ?_
              refine mx_callV (pc' := 222) dL_acts_219 cl_L_19 (rfl) (t_em0 _ (emY Y (co, ki, pe, ph)) hC (Nat.lt_of_le_of_lt (Nat.add_le_add_right ht 100) (Nat.le_of_ble_eq_true rfl)) hl5 hx5) rfl (by decide) rfl (Nat.le_of_ble_eq_true rfl) rfl (fun v N219 hv => ?_)
              obtain ⟨rfl, hC, -⟩ := hv
              refine mx_iload (pc' := 224) dL_acts_222 rfl rfl ?_
              refine mx_icmp_ne (tgt := 267) (pc' := 227) dL_acts_224 (by decide) rfl (fun c224 => ?_) (fun c224 => ?_)
              · first | exact absurd rfl c224 | exact absurd c224 (by (simp (disch := omega) only [Int32.lt_iff_toInt_lt, Int32.le_iff_toInt_le, ← Int32.toInt_inj, ne_eq, not_true_eq_false, not_false_eq_true, pd_t, dr_t, nI_t, z_t, m1_t, m2_t, m3_t, m4_t, m9_t]) <;> omega)
              · refine mx_aload_n (pc' := 228) dL_acts_227 rfl rfl ?_
                refine mx_iload (pc' := 230) dL_acts_228 rfl rfl ?_
                refine mx_iconst (pc' := 231) (v := nI 1) dL_acts_230 (by decide) rfl ?_
                refine mx_callV (pc' := 234) dL_acts_231 cl_L_19 (rfl) (t_em1 _ (emY Y (co, ki, pe, ph)) hC (Nat.lt_of_le_of_lt (Nat.add_le_add_right ht 100) (Nat.le_of_ble_eq_true rfl)) hl5 hx5) rfl (by decide) rfl (Nat.le_of_ble_eq_true rfl) rfl (fun v N231 hv => ?_)
                obtain ⟨rfl, hC, -⟩ := hv
                refine mx_iload (pc' := 236) dL_acts_234 rfl rfl ?_
                refine mx_icmp_ne (tgt := 267) (pc' := 239) dL_acts_236 (by decide) rfl (fun c236 => ?_) (fun c236 => ?_)
                · first | exact absurd rfl c236 | exact absurd c236 (by (simp (disch := omega) only [Int32.lt_iff_toInt_lt, Int32.le_iff_toInt_le, ← Int32.toInt_inj, ne_eq, not_true_eq_false, not_false_eq_true, pd_t, dr_t, nI_t, z_t, m1_t, m2_t, m3_t, m4_t, m9_t]) <;> omega)
                · refine mx_aload_n (pc' := 240) dL_acts_239 rfl rfl ?_
                  refine mx_iload (pc' := 242) dL_acts_240 rfl rfl ?_
                  refine mx_iconst (pc' := 243) (v := nI 2) dL_acts_242 (by decide) rfl ?_
                  refine mx_callV (pc' := 246) dL_acts_243 cl_L_19 (rfl) (t_em2 _ (emY Y (co, ki, pe, ph)) hC (Nat.lt_of_le_of_lt (Nat.add_le_add_right ht 100) (Nat.le_of_ble_eq_true rfl)) hl5 hx5) rfl (by decide) rfl (Nat.le_of_ble_eq_true rfl) rfl (fun v N243 hv => ?_)
                  obtain ⟨rfl, hC, -⟩ := hv
                  refine mx_iload (pc' := 248) dL_acts_246 rfl rfl ?_
                  refine mx_icmp_ne (tgt := 267) (pc' := 251) dL_acts_248 (by decide) rfl (fun c248 => ?_) (fun c248 => ?_)
                  · first | exact absurd rfl c248 | exact absurd c248 (by (simp (disch := omega) only [Int32.lt_iff_toInt_lt, Int32.le_iff_toInt_le, ← Int32.toInt_inj, ne_eq, not_true_eq_false, not_false_eq_true, pd_t, dr_t, nI_t, z_t, m1_t, m2_t, m3_t, m4_t, m9_t]) <;> omega)
                  · refine mx_aload_n (pc' := 252) dL_acts_251 rfl rfl ?_
                    refine mx_iload (pc' := 254) dL_acts_252 rfl rfl ?_
                    refine mx_iconst (pc' := 255) (v := nI 3) dL_acts_254 (by decide) rfl ?_
                    refine mx_callV (pc' := 258) dL_acts_255 cl_L_19 (rfl) (t_em3 _ (emY Y (co, ki, pe, ph)) hC (Nat.lt_of_le_of_lt (Nat.add_le_add_right ht 100) (Nat.le_of_ble_eq_true rfl)) hl5 hx5) rfl (by decide) rfl (Nat.le_of_ble_eq_true rfl) rfl (fun v N255 hv => ?_)
                    obtain ⟨rfl, hC, -⟩ := hv
                    refine mx_iload (pc' := 260) dL_acts_258 rfl rfl ?_
                    refine mx_icmp_ne (tgt := 267) (pc' := 263) dL_acts_260 (by decide) rfl (fun c260 => ?_) (fun c260 => ?_)
                    · first | exact absurd rfl c260 | exact absurd c260 (by (simp (disch := omega) only [Int32.lt_iff_toInt_lt, Int32.le_iff_toInt_le, ← Int32.toInt_inj, ne_eq, not_true_eq_false, not_false_eq_true, pd_t, dr_t, nI_t, z_t, m1_t, m2_t, m3_t, m4_t, m9_t]) <;> omega)
                    · refine mx_iconst (pc' := 264) (v := nI 1) dL_acts_263 (by decide) rfl ?_
                      refine mx_goto (pc' := 268) dL_acts_264 (by decide) ?_
                      refine mx_iret dL_acts_268 (Or.inr ⟨rfl, by decide⟩) ?_
                      exact kq _ _ hC ⟨rfl, Or.inr ⟨hF.em hC.1.1.2.1, Nat.le_add_right _ 60, rfl⟩⟩
        · exfalso
          first | exact c198 rfl | (revert c198; decide) | ((simp (disch := omega) only [Int32.lt_iff_toInt_lt, Int32.le_iff_toInt_le, ← Int32.toInt_inj, ne_eq, not_true_eq_false, not_false_eq_true, pd_t, dr_t, nI_t, z_t, m1_t, m2_t, m3_t, m4_t, m9_t] at c198) <;> omega)
    · exfalso
      first | exact c176 rfl | (revert c176; decide) | ((simp (disch := omega) only [Int32.lt_iff_toInt_lt, Int32.le_iff_toInt_le, ← Int32.toInt_inj, ne_eq, not_true_eq_false, not_false_eq_true, pd_t, dr_t, nI_t, z_t, m1_t, m2_t, m3_t, m4_t, m9_t] at c176) <;> omega)
  · exfalso
    first | exact c166 rfl | (revert c166; decide) | ((simp (disch := omega) only [Int32.lt_iff_toInt_lt, Int32.le_iff_toInt_le, ← Int32.toInt_inj, ne_eq, not_true_eq_false, not_false_eq_true, pd_t, dr_t, nI_t, z_t, m1_t, m2_t, m3_t, m4_t, m9_t] at c166) <;> omega)

set_option maxHeartbeats 2000000 in
set_option maxRecDepth 10000 in
theorem l_em (Y : Sy) (ht : Y.1.2.2.1 3 ≤ 100000) (hF : FI Y.1) (Q : Option Value → mx_M → Prop) (kq : ∀ M1 Y', CoA M1 Y' → Tr Y Y' → Q (some (.int (nI 1))) M1) (x y : Int32) (hw dn : Nat) (hdn : dn = Y.1.2.2.1 4) {M1 : mx_M} (hC : CoA M1 Y) : mx_V cL_acts RL 15 (some .boolean) 9 36 [some (.ref 0), some (.int (x)), some (.int (y)), some (.int (nI hw)), some (.int (nI Y.1.1.length)), some (.int (nI dn)), none, none, none, none, none, none, none, none, none] [] M1 Q := by
  refine mx_iload_n (pc' := 37) dL_acts_36 rfl rfl ?_
  refine mx_bipush (pc' := 39) (v := nI 11) dL_acts_37 (by decide) rfl ?_
  refine mx_callS (pc' := 42) dL_acts_39 cl_L_34 (t_L_low _ _ _ ⟨by omega, by omega⟩) rfl (by decide) rfl (Nat.le_of_ble_eq_true rfl) rfl (fun v N39 hv => ?_)
  obtain ⟨j39, hj39, rfl, rfl⟩ := hv
  refine mx_xistore (pc' := 44) (ls' := [_, _, _, _, _, _, _, _, _, _, _, _, _, _, _]) dL_acts_42 (by decide) rfl rfl rfl ?_
  refine mx_iload_n (pc' := 45) dL_acts_44 rfl rfl ?_
  refine mx_iconst (pc' := 46) (v := nI 4) dL_acts_45 (by decide) rfl ?_
  refine mx_ishr (pc' := 47) dL_acts_46 (rfl) rfl ?_
  refine mx_bipush (pc' := 49) (v := nI 10) dL_acts_47 (by decide) rfl ?_
  refine mx_callS (pc' := 52) dL_acts_49 cl_L_34 (t_L_low _ _ _ ⟨by omega, by omega⟩) rfl (by decide) rfl (Nat.le_of_ble_eq_true rfl) rfl (fun v N49 hv => ?_)
  obtain ⟨j49, hj49, rfl, rfl⟩ := hv
  refine mx_xistore (pc' := 54) (ls' := [_, _, _, _, _, _, _, _, _, _, _, _, _, _, _]) dL_acts_52 (by decide) rfl rfl rfl ?_
  have k79 : ∀ (co : Nat), co < 11 → ∀ {M1}, CoA M1 Y → mx_V cL_acts RL 15 (some .boolean) 9 79 [some (.ref 0), some (.int (x)), some (.int (y)), some (.int (nI hw)), some (.int (nI Y.1.1.length)), some (.int (nI dn)), some (.int (nI j39)), some (.int (nI j49)), none, none, none, none, none, none, none] [.int (nI co)] M1 Q := by
    intro co hco M1 hC
    have k106 : ∀ (ki : Nat), ki < 7 → ∀ {M1}, CoA M1 Y → mx_V cL_acts RL 15 (some .boolean) 9 106 [some (.ref 0), some (.int (x)), some (.int (y)), some (.int (nI hw)), some (.int (nI Y.1.1.length)), some (.int (nI dn)), some (.int (nI j39)), some (.int (nI j49)), some (.int (nI co)), none, none, none, none, none, none] [.int (nI ki)] M1 Q := by
      intro ki hki M1 hC
      refine mx_xistore (pc' := 108) (ls' := [_, _, _, _, _, _, _, _, _, _, _, _, _, _, _]) dL_acts_106 (by decide) rfl rfl rfl ?_
      refine mx_iload (pc' := 110) dL_acts_108 rfl rfl ?_
      refine mx_bipush (pc' := 112) (v := nI 10) dL_acts_110 (by decide) rfl ?_
      refine mx_icmp_eq (tgt := 141) (pc' := 115) dL_acts_112 (by decide) rfl (fun c112 => ?_) (fun c112 => ?_)
      · try (simp (disch := omega) only [Int32.lt_iff_toInt_lt, Int32.le_iff_toInt_le, ← Int32.toInt_inj, ne_eq, pd_t, dr_t, nI_t, z_t, m1_t, m2_t, m3_t, m4_t, m9_t] at c112)
        refine mx_iconst (pc' := 142) (v := nI 1) dL_acts_141 (by decide) rfl ?_
        refine mx_goto (pc' := 146) dL_acts_142 (by decide) ?_
        refine mx_xistore (pc' := 148) (ls' := [_, _, _, _, _, _, _, _, _, _, _, _, _, _, _]) dL_acts_146 (by decide) rfl rfl rfl ?_
        exact l_em148 Y ht hF Q kq x y hw dn hdn _ _ _ _ 1 ⟨by omega, by omega, by omega, by omega⟩ (by omega) hC
      · try (simp (disch := omega) only [Int32.lt_iff_toInt_lt, Int32.le_iff_toInt_le, ← Int32.toInt_inj, ne_eq, pd_t, dr_t, nI_t, z_t, m1_t, m2_t, m3_t, m4_t, m9_t] at c112)
        refine mx_iload (pc' := 117) dL_acts_115 rfl rfl ?_
        refine mx_bipush (pc' := 119) (v := nI 6) dL_acts_117 (by decide) rfl ?_
        refine mx_icmp_eq (tgt := 141) (pc' := 122) dL_acts_119 (by decide) rfl (fun c119 => ?_) (fun c119 => ?_)
        · try (simp (disch := omega) only [Int32.lt_iff_toInt_lt, Int32.le_iff_toInt_le, ← Int32.toInt_inj, ne_eq, pd_t, dr_t, nI_t, z_t, m1_t, m2_t, m3_t, m4_t, m9_t] at c119)
          refine mx_iconst (pc' := 142) (v := nI 1) dL_acts_141 (by decide) rfl ?_
          refine mx_goto (pc' := 146) dL_acts_142 (by decide) ?_
          refine mx_xistore (pc' := 148) (ls' := [_, _, _, _, _, _, _, _, _, _, _, _, _, _, _]) dL_acts_146 (by decide) rfl rfl rfl ?_
          exact l_em148 Y ht hF Q kq x y hw dn hdn _ _ _ _ 1 ⟨by omega, by omega, by omega, by omega⟩ (by omega) hC
        · try (simp (disch := omega) only [Int32.lt_iff_toInt_lt, Int32.le_iff_toInt_le, ← Int32.toInt_inj, ne_eq, pd_t, dr_t, nI_t, z_t, m1_t, m2_t, m3_t, m4_t, m9_t] at c119)
          refine mx_iload (pc' := 124) dL_acts_122 rfl rfl ?_
          refine mx_if_eq (tgt := 141) (pc' := 127) dL_acts_124 (by decide) rfl (fun c124 => ?_) (fun c124 => ?_)
          · try (simp (disch := omega) only [Int32.lt_iff_toInt_lt, Int32.le_iff_toInt_le, ← Int32.toInt_inj, ne_eq, pd_t, dr_t, nI_t, z_t, m1_t, m2_t, m3_t, m4_t, m9_t] at c124)
            refine mx_iconst (pc' := 142) (v := nI 1) dL_acts_141 (by decide) rfl ?_
            refine mx_goto (pc' := 146) dL_acts_142 (by decide) ?_
            refine mx_xistore (pc' := 148) (ls' := [_, _, _, _, _, _, _, _, _, _, _, _, _, _, _]) dL_acts_146 (by decide) rfl rfl rfl ?_
            exact l_em148 Y ht hF Q kq x y hw dn hdn _ _ _ _ 1 ⟨by omega, by omega, by omega, by omega⟩ (by omega) hC
          · try (simp (disch := omega) only [Int32.lt_iff_toInt_lt, Int32.le_iff_toInt_le, ← Int32.toInt_inj, ne_eq, pd_t, dr_t, nI_t, z_t, m1_t, m2_t, m3_t, m4_t, m9_t] at c124)
            refine mx_iload (pc' := 129) dL_acts_127 rfl rfl ?_
            refine mx_bipush (pc' := 131) (v := nI 10) dL_acts_129 (by decide) rfl ?_
            refine mx_icmp_eq (tgt := 141) (pc' := 134) dL_acts_131 (by decide) rfl (fun c131 => ?_) (fun c131 => ?_)
            · try (simp (disch := omega) only [Int32.lt_iff_toInt_lt, Int32.le_iff_toInt_le, ← Int32.toInt_inj, ne_eq, pd_t, dr_t, nI_t, z_t, m1_t, m2_t, m3_t, m4_t, m9_t] at c131)
              refine mx_iconst (pc' := 142) (v := nI 1) dL_acts_141 (by decide) rfl ?_
              refine mx_goto (pc' := 146) dL_acts_142 (by decide) ?_
              refine mx_xistore (pc' := 148) (ls' := [_, _, _, _, _, _, _, _, _, _, _, _, _, _, _]) dL_acts_146 (by decide) rfl rfl rfl ?_
              exact l_em148 Y ht hF Q kq x y hw dn hdn _ _ _ _ 1 ⟨by omega, by omega, by omega, by omega⟩ (by omega) hC
            · try (simp (disch := omega) only [Int32.lt_iff_toInt_lt, Int32.le_iff_toInt_le, ← Int32.toInt_inj, ne_eq, pd_t, dr_t, nI_t, z_t, m1_t, m2_t, m3_t, m4_t, m9_t] at c131)
              refine mx_iload (pc' := 136) dL_acts_134 rfl rfl ?_
              refine mx_iload (pc' := 138) dL_acts_136 rfl rfl ?_
              refine mx_icmp_lt (tgt := 145) (pc' := 141) dL_acts_138 (by decide) rfl (fun c138 => ?_) (fun c138 => ?_)
              · try (simp (disch := omega) only [Int32.lt_iff_toInt_lt, Int32.le_iff_toInt_le, ← Int32.toInt_inj, ne_eq, pd_t, dr_t, nI_t, z_t, m1_t, m2_t, m3_t, m4_t, m9_t] at c138)
                refine mx_iconst (pc' := 146) (v := nI 0) dL_acts_145 (by decide) rfl ?_
                refine mx_xistore (pc' := 148) (ls' := [_, _, _, _, _, _, _, _, _, _, _, _, _, _, _]) dL_acts_146 (by decide) rfl rfl rfl ?_
                exact l_em148 Y ht hF Q kq x y hw dn hdn _ _ _ _ 0 ⟨by omega, by omega, by omega, by omega⟩ (by omega) hC
              · try (simp (disch := omega) only [Int32.lt_iff_toInt_lt, Int32.le_iff_toInt_le, ← Int32.toInt_inj, ne_eq, pd_t, dr_t, nI_t, z_t, m1_t, m2_t, m3_t, m4_t, m9_t] at c138)
                refine mx_iconst (pc' := 142) (v := nI 1) dL_acts_141 (by decide) rfl ?_
                refine mx_goto (pc' := 146) dL_acts_142 (by decide) ?_
                refine mx_xistore (pc' := 148) (ls' := [_, _, _, _, _, _, _, _, _, _, _, _, _, _, _]) dL_acts_146 (by decide) rfl rfl rfl ?_
                exact l_em148 Y ht hF Q kq x y hw dn hdn _ _ _ _ 1 ⟨by omega, by omega, by omega, by omega⟩ (by omega) hC
    refine mx_xistore (pc' := 81) (ls' := [_, _, _, _, _, _, _, _, _, _, _, _, _, _, _]) dL_acts_79 (by decide) rfl rfl rfl ?_
    refine mx_iload_n (pc' := 82) dL_acts_81 rfl rfl ?_
    refine mx_bipush (pc' := 84) (v := nI 12) dL_acts_82 (by decide) rfl ?_
    refine mx_ishr (pc' := 85) dL_acts_84 (rfl) rfl ?_
    refine mx_iload_n (pc' := 86) dL_acts_85 rfl rfl ?_
    refine mx_bipush (pc' := 88) (v := nI 21) dL_acts_86 (by decide) rfl ?_
    refine mx_ishr (pc' := 89) dL_acts_88 (rfl) rfl ?_
    refine mx_iconst (pc' := 90) (v := nI 5) dL_acts_89 (by decide) rfl ?_
    refine mx_callS (pc' := 93) dL_acts_90 cl_L_34 (t_L_low _ _ _ ⟨by omega, by omega⟩) rfl (by decide) rfl (Nat.le_of_ble_eq_true rfl) rfl (fun v N90 hv => ?_)
    obtain ⟨j90, hj90, rfl, rfl⟩ := hv
    refine mx_if_ne (tgt := 101) (pc' := 96) dL_acts_93 (by decide) rfl (fun c93 => ?_) (fun c93 => ?_)
    · 
      refine mx_bipush (pc' := 103) (v := nI 6) dL_acts_101 (by decide) rfl ?_
      refine mx_callS (pc' := 106) dL_acts_103 cl_L_34 (t_L_low _ _ _ ⟨by omega, by omega⟩) rfl (by decide) rfl (Nat.le_of_ble_eq_true rfl) rfl (fun v N103 hv => ?_)
      obtain ⟨j103, hj103, rfl, rfl⟩ := hv
      exact k106 _ (by omega) hC
    · 
      refine mx_bipush (pc' := 98) (v := nI 7) dL_acts_96 (by decide) rfl ?_
      refine mx_goto (pc' := 103) dL_acts_98 (by decide) ?_
      refine mx_callS (pc' := 106) dL_acts_103 cl_L_34 (t_L_low _ _ _ ⟨by omega, by omega⟩) rfl (by decide) rfl (Nat.le_of_ble_eq_true rfl) rfl (fun v N103 hv => ?_)
      obtain ⟨j103, hj103, rfl, rfl⟩ := hv
      exact k106 _ (by omega) hC
  refine mx_iload_n (pc' := 55) dL_acts_54 rfl rfl ?_
  refine mx_bipush (pc' := 57) (v := nI 8) dL_acts_55 (by decide) rfl ?_
  refine mx_ishr (pc' := 58) dL_acts_57 (rfl) rfl ?_
  refine mx_iload_n (pc' := 59) dL_acts_58 rfl rfl ?_
  refine mx_bipush (pc' := 61) (v := nI 20) dL_acts_59 (by decide) rfl ?_
  refine mx_ishr (pc' := 62) dL_acts_61 (rfl) rfl ?_
  refine mx_iconst (pc' := 63) (v := nI 5) dL_acts_62 (by decide) rfl ?_
  refine mx_callS (pc' := 66) dL_acts_63 cl_L_34 (t_L_low _ _ _ ⟨by omega, by omega⟩) rfl (by decide) rfl (Nat.le_of_ble_eq_true rfl) rfl (fun v N63 hv => ?_)
  obtain ⟨j63, hj63, rfl, rfl⟩ := hv
  refine mx_if_ne (tgt := 74) (pc' := 69) dL_acts_66 (by decide) rfl (fun c66 => ?_) (fun c66 => ?_)
  · 
    refine mx_bipush (pc' := 76) (v := nI 10) dL_acts_74 (by decide) rfl ?_
    refine mx_callS (pc' := 79) dL_acts_76 cl_L_34 (t_L_low _ _ _ ⟨by omega, by omega⟩) rfl (by decide) rfl (Nat.le_of_ble_eq_true rfl) rfl (fun v N76 hv => ?_)
    obtain ⟨j76, hj76, rfl, rfl⟩ := hv
    exact k79 _ (by omega) hC
  · 
    refine mx_bipush (pc' := 71) (v := nI 11) dL_acts_69 (by decide) rfl ?_
    refine mx_goto (pc' := 76) dL_acts_71 (by decide) ?_
    refine mx_callS (pc' := 79) dL_acts_76 cl_L_34 (t_L_low _ _ _ ⟨by omega, by omega⟩) rfl (by decide) rfl (Nat.le_of_ble_eq_true rfl) rfl (fun v N76 hv => ?_)
    obtain ⟨j76, hj76, rfl, rfl⟩ := hv
    exact k79 _ (by omega) hC

set_option maxHeartbeats 2000000 in
set_option maxRecDepth 10000 in
theorem l_ta (Y : Sy) (ht : Y.1.2.2.1 3 ≤ 100000) (hF : FI Y.1) (Q : Option Value → mx_M → Prop) (kq : ∀ M1 Y', CoA M1 Y' → Tr Y Y' → Q (some (.int (nI 1))) M1) (x y : Int32) (hw dn : Nat) (hdn : dn = Y.1.2.2.1 4) {M1 : mx_M} (hC : CoA M1 Y) : mx_V cL_acts RL 15 (some .boolean) 9 274 [some (.ref 0), some (.int (x)), some (.int (y)), some (.int (nI hw)), some (.int (nI Y.1.1.length)), some (.int (nI dn)), none, none, none, none, none, none, none, none, none] [] M1 Q := by
  obtain ⟨⟨⟨hE, hB, hV⟩, -⟩, hcl⟩ := id hF
  obtain ⟨v0, v1, v2, v4, v5, v6, v7⟩ := id hV
  have hB60 := hB.1
  have hE4 := hE.1
  
  refine mx_iload_n (pc' := 275) dL_acts_274 rfl rfl ?_
  refine mx_iload (pc' := 277) dL_acts_275 rfl rfl ?_
  refine mx_iconst (pc' := 278) (v := nI 1) dL_acts_277 (by decide) rfl ?_
  refine mx_iadd (pc' := 279) (v := nI (Y.1.1.length + 1)) dL_acts_278 (nI_add _ 1) rfl ?_
  refine mx_callS (pc' := 282) dL_acts_279 cl_L_34 (t_L_low _ _ _ ⟨by omega, by omega⟩) rfl (by decide) rfl (Nat.le_of_ble_eq_true rfl) rfl (fun v N279 hv => ?_)
  obtain ⟨j279, hj279, rfl, rfl⟩ := hv
  refine mx_xistore (pc' := 284) (ls' := [_, _, _, _, _, _, _, _, _, _, _, _, _, _, _]) dL_acts_282 (by decide) rfl rfl rfl ?_
  refine mx_aload_n (pc' := 285) dL_acts_284 rfl rfl ?_
  refine mx_iconst (pc' := 286) (v := nI 1) dL_acts_285 (by decide) rfl ?_
  refine mx_callV (pc' := 289) dL_acts_286 cl_L_13 (rfl) (t_c1 _ (Y) hC) rfl (by decide) rfl (Nat.le_of_ble_eq_true rfl) rfl (fun v N286 hv => ?_)
  obtain ⟨rfl, hC, -⟩ := hv
  refine mx_xistore (pc' := 291) (ls' := [_, _, _, _, _, _, _, _, _, _, _, _, _, _, _]) dL_acts_289 (by decide) rfl rfl rfl ?_
  generalize j279 = n at hj279 ⊢
  by_cases hn : n < Y.1.1.length
  · refine mx_aload_n (pc' := 292) dL_acts_291 rfl rfl ?_
    refine mx_iload (pc' := 294) dL_acts_292 rfl rfl ?_
    refine mx_callV (pc' := 297) dL_acts_294 cl_L_99 (rfl) (t_take1 _ Y hC hE4 hn) rfl (by decide) rfl (Nat.le_of_ble_eq_true rfl) rfl (fun v N294 hv => ?_)
    obtain ⟨rfl, hC, -⟩ := hv
    have hl1 : (taY Y n).1.1.length = Y.1.1.length - 1 := by
      show (Y.1.1.eraseIdx n).length = _
      rw [List.length_eraseIdx, if_pos hn]
    have hl2 : (taY Y n).1.2.1.length = Y.1.2.1.length := rfl
    refine mx_iload (pc' := 299) dL_acts_297 rfl rfl ?_
    refine mx_iload (pc' := 301) dL_acts_299 rfl rfl ?_
    refine mx_icmp_ne (tgt := 308) (pc' := 304) dL_acts_301 (by decide) rfl (fun c301 => ?_) (fun c301 => ?_)
    · 
      refine mx_iload (pc' := 310) dL_acts_308 rfl rfl ?_
      refine mx_iconst (pc' := 311) (v := nI 1) dL_acts_310 (by decide) rfl ?_
      refine mx_isub (pc' := 312) (v := nI (Y.1.1.length - 1)) dL_acts_311 (pk_sub (by omega)) rfl ?_
      refine mx_icmp_ne (tgt := 353) (pc' := 315) dL_acts_312 (by decide) rfl (fun c312 => ?_) (fun c312 => ?_)
      · first | exact absurd rfl c312 | exact absurd c312 (by (simp (disch := omega) only [Int32.lt_iff_toInt_lt, Int32.le_iff_toInt_le, ← Int32.toInt_inj, ne_eq, not_true_eq_false, not_false_eq_true, pd_t, dr_t, nI_t, z_t, m1_t, m2_t, m3_t, m4_t, m9_t]) <;> omega)
      · refine mx_aload_n (pc' := 316) dL_acts_315 rfl rfl ?_
        refine mx_iconst (pc' := 317) (v := nI 0) dL_acts_316 (by decide) rfl ?_
        refine mx_callV (pc' := 320) dL_acts_317 cl_L_13 (rfl) (t_c0 _ (taY Y n) hC) rfl (by decide) rfl (Nat.le_of_ble_eq_true rfl) rfl (fun v N317 hv => ?_)
        obtain ⟨rfl, hC, -⟩ := hv
        refine mx_iload (pc' := 322) dL_acts_320 rfl rfl ?_
        refine mx_iload (pc' := 324) dL_acts_322 rfl rfl ?_
        refine mx_icmp_ne (tgt := 332) (pc' := 327) dL_acts_324 (by decide) rfl (fun c324 => ?_) (fun c324 => ?_)
        · 
          refine mx_iload (pc' := 334) dL_acts_332 rfl rfl ?_
          refine mx_iconst (pc' := 335) (v := nI 1) dL_acts_334 (by decide) rfl ?_
          refine mx_isub (pc' := 336) (v := nI (Y.1.1.length - 1)) dL_acts_335 (pk_sub (by omega)) rfl ?_
          refine mx_icmp_ne (tgt := 353) (pc' := 339) dL_acts_336 (by decide) rfl (fun c336 => ?_) (fun c336 => ?_)
          · first | exact absurd rfl c336 | exact absurd c336 (by (simp (disch := omega) only [Int32.lt_iff_toInt_lt, Int32.le_iff_toInt_le, ← Int32.toInt_inj, ne_eq, not_true_eq_false, not_false_eq_true, pd_t, dr_t, nI_t, z_t, m1_t, m2_t, m3_t, m4_t, m9_t]) <;> omega)
          · refine mx_aload_n (pc' := 340) dL_acts_339 rfl rfl ?_
            refine mx_iconst (pc' := 341) (v := nI 1) dL_acts_340 (by decide) rfl ?_
            refine mx_callV (pc' := 344) dL_acts_341 cl_L_13 (rfl) (t_c1 _ (taY Y n) hC) rfl (by decide) rfl (Nat.le_of_ble_eq_true rfl) rfl (fun v N341 hv => ?_)
            obtain ⟨rfl, hC, -⟩ := hv
            refine mx_iload (pc' := 346) dL_acts_344 rfl rfl ?_
            refine mx_icmp_ne (tgt := 353) (pc' := 349) dL_acts_346 (by decide) rfl (fun c346 => ?_) (fun c346 => ?_)
            · first | exact absurd rfl c346 | exact absurd c346 (by (simp (disch := omega) only [Int32.lt_iff_toInt_lt, Int32.le_iff_toInt_le, ← Int32.toInt_inj, ne_eq, not_true_eq_false, not_false_eq_true, pd_t, dr_t, nI_t, z_t, m1_t, m2_t, m3_t, m4_t, m9_t]) <;> omega)
            · refine mx_iconst (pc' := 350) (v := nI 1) dL_acts_349 (by decide) rfl ?_
              refine mx_goto (pc' := 354) dL_acts_350 (by decide) ?_
              refine mx_iret dL_acts_354 (Or.inr ⟨rfl, by decide⟩) ?_
              exact kq _ _ hC ⟨rfl, Or.inr ⟨hF.em hC.1.1.2.1, Nat.le_add_right _ 60, rfl⟩⟩
        · exfalso
          first | exact c324 rfl | (revert c324; decide) | ((simp (disch := omega) only [Int32.lt_iff_toInt_lt, Int32.le_iff_toInt_le, ← Int32.toInt_inj, ne_eq, not_true_eq_false, not_false_eq_true, pd_t, dr_t, nI_t, z_t, m1_t, m2_t, m3_t, m4_t, m9_t] at c324) <;> omega)
    · exfalso
      first | exact c301 rfl | (revert c301; decide) | ((simp (disch := omega) only [Int32.lt_iff_toInt_lt, Int32.le_iff_toInt_le, ← Int32.toInt_inj, ne_eq, not_true_eq_false, not_false_eq_true, pd_t, dr_t, nI_t, z_t, m1_t, m2_t, m3_t, m4_t, m9_t] at c301) <;> omega)
  have hn0 : n = Y.1.1.length := by omega
  subst hn0
  refine mx_aload_n (pc' := 292) dL_acts_291 rfl rfl ?_
  refine mx_iload (pc' := 294) dL_acts_292 rfl rfl ?_
  refine mx_callV (pc' := 297) dL_acts_294 cl_L_99 (rfl) (t_take0 _ Y hC hE4) rfl (by decide) rfl (Nat.le_of_ble_eq_true rfl) rfl (fun v N294 hv => ?_)
  obtain ⟨rfl, hC, -⟩ := hv
  refine mx_iload (pc' := 299) dL_acts_297 rfl rfl ?_
  refine mx_iload (pc' := 301) dL_acts_299 rfl rfl ?_
  refine mx_icmp_ne (tgt := 308) (pc' := 304) dL_acts_301 (by decide) rfl (fun c301 => ?_) (fun c301 => ?_)
  · exfalso
    first | exact c301 rfl | (revert c301; decide) | ((simp (disch := omega) only [Int32.lt_iff_toInt_lt, Int32.le_iff_toInt_le, ← Int32.toInt_inj, ne_eq, not_true_eq_false, not_false_eq_true, pd_t, dr_t, nI_t, z_t, m1_t, m2_t, m3_t, m4_t, m9_t] at c301) <;> omega)
  · 
    refine mx_iconst (pc' := 305) (v := (-1)) dL_acts_304 (by decide) rfl ?_
    refine mx_goto (pc' := 312) dL_acts_305 (by decide) ?_
    refine mx_icmp_ne (tgt := 353) (pc' := 315) dL_acts_312 (by decide) rfl (fun c312 => ?_) (fun c312 => ?_)
    · first | exact absurd rfl c312 | exact absurd c312 (by (simp (disch := omega) only [Int32.lt_iff_toInt_lt, Int32.le_iff_toInt_le, ← Int32.toInt_inj, ne_eq, not_true_eq_false, not_false_eq_true, pd_t, dr_t, nI_t, z_t, m1_t, m2_t, m3_t, m4_t, m9_t]) <;> omega)
    · refine mx_aload_n (pc' := 316) dL_acts_315 rfl rfl ?_
      refine mx_iconst (pc' := 317) (v := nI 0) dL_acts_316 (by decide) rfl ?_
      refine mx_callV (pc' := 320) dL_acts_317 cl_L_13 (rfl) (t_c0 _ (Y) hC) rfl (by decide) rfl (Nat.le_of_ble_eq_true rfl) rfl (fun v N317 hv => ?_)
      obtain ⟨rfl, hC, -⟩ := hv
      refine mx_iload (pc' := 322) dL_acts_320 rfl rfl ?_
      refine mx_iload (pc' := 324) dL_acts_322 rfl rfl ?_
      refine mx_icmp_ne (tgt := 332) (pc' := 327) dL_acts_324 (by decide) rfl (fun c324 => ?_) (fun c324 => ?_)
      · exfalso
        first | exact c324 rfl | (revert c324; decide) | ((simp (disch := omega) only [Int32.lt_iff_toInt_lt, Int32.le_iff_toInt_le, ← Int32.toInt_inj, ne_eq, not_true_eq_false, not_false_eq_true, pd_t, dr_t, nI_t, z_t, m1_t, m2_t, m3_t, m4_t, m9_t] at c324) <;> omega)
      · 
        refine mx_iload (pc' := 329) dL_acts_327 rfl rfl ?_
        refine mx_goto (pc' := 336) dL_acts_329 (by decide) ?_
        refine mx_icmp_ne (tgt := 353) (pc' := 339) dL_acts_336 (by decide) rfl (fun c336 => ?_) (fun c336 => ?_)
        · first | exact absurd rfl c336 | exact absurd c336 (by (simp (disch := omega) only [Int32.lt_iff_toInt_lt, Int32.le_iff_toInt_le, ← Int32.toInt_inj, ne_eq, not_true_eq_false, not_false_eq_true, pd_t, dr_t, nI_t, z_t, m1_t, m2_t, m3_t, m4_t, m9_t]) <;> omega)
        · refine mx_aload_n (pc' := 340) dL_acts_339 rfl rfl ?_
          refine mx_iconst (pc' := 341) (v := nI 1) dL_acts_340 (by decide) rfl ?_
          refine mx_callV (pc' := 344) dL_acts_341 cl_L_13 (rfl) (t_c1 _ (Y) hC) rfl (by decide) rfl (Nat.le_of_ble_eq_true rfl) rfl (fun v N341 hv => ?_)
          obtain ⟨rfl, hC, -⟩ := hv
          refine mx_iload (pc' := 346) dL_acts_344 rfl rfl ?_
          refine mx_icmp_ne (tgt := 353) (pc' := 349) dL_acts_346 (by decide) rfl (fun c346 => ?_) (fun c346 => ?_)
          · first | exact absurd rfl c346 | exact absurd c346 (by (simp (disch := omega) only [Int32.lt_iff_toInt_lt, Int32.le_iff_toInt_le, ← Int32.toInt_inj, ne_eq, not_true_eq_false, not_false_eq_true, pd_t, dr_t, nI_t, z_t, m1_t, m2_t, m3_t, m4_t, m9_t]) <;> omega)
          · refine mx_iconst (pc' := 350) (v := nI 1) dL_acts_349 (by decide) rfl ?_
            refine mx_goto (pc' := 354) dL_acts_350 (by decide) ?_
            refine mx_iret dL_acts_354 (Or.inr ⟨rfl, by decide⟩) ?_
            exact kq _ _ hC ⟨rfl, Or.inl ⟨rfl, rfl⟩⟩

