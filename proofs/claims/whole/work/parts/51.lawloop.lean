/-! THE LAW'S LOOP -/
theorem lw_le {L i : Nat} (hL : L ≤ 2560) (hi : i ≤ 2600) (h : ¬ nI L - nI 5 < nI i) : i + 5 ≤ L := by
  by_cases h5 : 5 ≤ L
  · have e : nI L - nI 5 = nI (L - 5) := by
      rw [show L = (L - 5) + 5 by omega, ← nI_add, Int32.add_sub_cancel, show L - 5 + 5 - 5 = L - 5 by omega]
    rw [e] at h
    have : ¬ L - 5 < i := fun z => h ((nI_ltI (by omega) (by omega)).mpr z)
    omega
  · refine absurd ?_ h
    rw [Int32.lt_iff_toInt_lt, nI_t i (by omega)]
    have hL : L = 0 ∨ L = 1 ∨ L = 2 ∨ L = 3 ∨ L = 4 := by omega
    rcases hL with rfl | rfl | rfl | rfl | rfl
    · have : (nI 0 - nI 5).toInt = -5 := by decide
      omega
    · have : (nI 1 - nI 5).toInt = -4 := by decide
      omega
    · have : (nI 2 - nI 5).toInt = -3 := by decide
      omega
    · have : (nI 3 - nI 5).toInt = -2 := by decide
      omega
    · have : (nI 4 - nI 5).toInt = -1 := by decide
      omega
section LX
variable {p : Program} {l : Launch} {e : Env} {s : State} {m : MethodId} {below : List Frame} {meth : Method} {c : Code} {b L : Nat} {xs : Nat → Int32} {D : va_G} {ad : Nat → Nat} {cy : Nat → ClassId} {Z : State → Prop} {M : mx_M} {pc : Nat} {ls : List (Nat × Value)} {st : List Value}
theorem lx_sub (hC : lx_C p s m c b L xs D ad cy) {ls' : List (Nat × Value)} (ks : List Nat) (hl : lv_pick ls ks = ls') (kk : lx_V p l e s m below meth c b D ad cy Z M pc ls' st) : lx_V p l e s m below meth c b D ad cy Z M pc ls st := by
  intro H locs lsA hP hSS hL
  exact kk H locs lsA hP hSS (lv_sub hL ks hl)
theorem lx_dstore (hC : lx_C p s m c b L xs D ad cy) {i : Nat} {x : UInt64} {ls' : List (Nat × Value)} (hd : decode code pc = .ok (.dstore i, 2)) (hi : i + 1 < 8) (hl : (i, Value.double x) :: ls.filter (fun q => !(q.1 == i) && (!(q.1 == i + 1) && !(q.1 + 1 == i && q.2.category == 2))) = ls') (kk : lx_V p l e s m below meth c b D ad cy Z M (pc + 2) ls' st) : lx_V p l e s m below meth c b D ad cy Z M pc ls (.double x :: st) := by
  intro H locs lsA hP hSS hL
  exact lv_dstore hC.1 hC.2.1 hd hL hi hl (fun lsB hB => kk H locs lsB hP hSS hB)
theorem lx_dload (hC : lx_C p s m c b L xs D ad cy) {i : Nat} (j : Nat) {x : UInt64} (hd : decode code pc = .ok (.dload i, 2)) (hl : ls[j]? = some (i, .double x)) (kk : lx_V p l e s m below meth c b D ad cy Z M (pc + 2) ls (.double x :: st)) : lx_V p l e s m below meth c b D ad cy Z M pc ls st := by
  intro H locs lsA hP hSS hL
  exact lv_dload hC.1 hC.2.1 hd (lv_at hL j hl) (kk H locs lsA hP hSS hL)
theorem lx_dcmp (hC : lx_C p s m c b L xs D ad cy) {x y : UInt64} {op : CmpOp} (hd : decode code pc = .ok (.dcmp op, 1)) (kk : lx_V p l e s m below meth c b D ad cy Z M (pc + 1) ls (.int (Op.cmpValue (FP.dcmp x y) op) :: st)) : lx_V p l e s m below meth c b D ad cy Z M pc ls (.double y :: .double x :: st) := by
  intro H locs lsA hP hSS hL
  exact lv_dcmp hC.1 hC.2.1 hd (kk H locs lsA hP hSS hL)
theorem lx_ifeq (hC : lx_C p s m c b L xs D ad cy) {x : Int32} {off : Int} {tgt : Nat} (hd : decode code pc = .ok (.ifCond .eq off, 3)) (ht : (pc : Int) + off = (tgt : Int)) (kt : x = 0 → lx_V p l e s m below meth c b D ad cy Z M tgt ls st) (kf : ¬ x = 0 → lx_V p l e s m below meth c b D ad cy Z M (pc + 3) ls st) : lx_V p l e s m below meth c b D ad cy Z M pc ls (.int x :: st) := by
  intro H locs lsA hP hSS hL
  exact lv_if_eq hC.1 hC.2.1 hd ht (fun h => kt h H locs lsA hP hSS hL) (fun h => kf h H locs lsA hP hSS hL)
theorem lx_ifne (hC : lx_C p s m c b L xs D ad cy) {x : Int32} {off : Int} {tgt : Nat} (hd : decode code pc = .ok (.ifCond .ne off, 3)) (ht : (pc : Int) + off = (tgt : Int)) (kt : ¬ x = 0 → lx_V p l e s m below meth c b D ad cy Z M tgt ls st) (kf : x = 0 → lx_V p l e s m below meth c b D ad cy Z M (pc + 3) ls st) : lx_V p l e s m below meth c b D ad cy Z M pc ls (.int x :: st) := by
  intro H locs lsA hP hSS hL
  exact lv_if_ne hC.1 hC.2.1 hd ht (fun h => kt h H locs lsA hP hSS hL) (fun h => kf h H locs lsA hP hSS hL)
/-- the model's argument, with the class's answer stored -/
theorem lx_argD (hC : lx_C p s m c b L xs D ad cy) {i : Nat} (j : Nat) {r : UInt64} {n : Int} (hi : i + 5 ≤ L) (hL : L ≤ 2560) (hj : j < 5) (hn : Int32.ofInt n = nI j) (h0 : decode code pc = .ok (.aload_n 0, 1)) (h1 : decode code (pc + 1) = .ok (.iload_n 3, 1)) (h2 : decode code (pc + 2) = .ok (.iconst n, 1)) (h3 : decode code (pc + 3) = .ok (.iadd, 1)) (h4 : decode code (pc + 4) = .ok (.iaload, 1))
    (kk : lx_V p l e s m below meth c b D ad cy Z M (pc + 5) ((4, .double r) :: lx_l b ad (nI i)) (.int (xs (i + j)) :: st)) : lx_V p l e s m below meth c b D ad cy Z M pc ((4, .double r) :: lx_l b ad (nI i)) st := by
  intro H locs lsA hP hSS hl
  obtain ⟨hx, hb, hml, hown, hts, hS, hX, hbl, hD⟩ := hC
  refine lv_aload_n hx hb h0 rfl (lv_at hl 1 rfl) ?_
  refine lv_iload_n hx hb h1 rfl (lv_at hl 4 rfl) ?_
  refine lv_iconst hx hb h2 hn ?_
  refine lv_iadd hx hb h3 ?_
  rw [nI_add]
  refine va_sld hx hb hX hbl (Nat.not_le.mpr hbl) hSS (vp_in_nI (by omega) (by omega)) h4 ?_
  rw [nI_clamp (show i + j < 2147483648 by omega)]
  exact kk H locs lsA hP hSS hl
theorem lx_head (hC : lx_C p s m c b L xs D ad cy) {i : Nat} (hL : L ≤ 2560) (hi : i ≤ 2600) (kt : lx_V p l e s m below meth c b D ad cy Z M 841 (lx_l b ad (nI i)) []) (kf : i + 5 ≤ L → lx_V p l e s m below meth c b D ad cy Z M 26 (lx_l b ad (nI i)) []) : lx_V p l e s m below meth c b D ad cy Z M 18 (lx_l b ad (nI i)) [] := by
  intro H locs lsA hP hSS hl
  obtain ⟨hx, hb, hml, hown, hts, hS, hX, hbl, hD⟩ := id hC
  refine lv_iload_n hx hb dL_law_18 rfl (lv_at hl 3 rfl) ?_
  refine lv_aload_n hx hb dL_law_19 rfl (lv_at hl 0 rfl) ?_
  refine va_slen hx hb hX hbl (Nat.not_le.mpr hbl) hSS dL_law_20 ?_
  refine lv_iconst (v := nI 5) hx hb dL_law_21 (by decide) ?_
  refine lv_isub hx hb dL_law_22 ?_
  refine lv_icmp_gt (tgt := 841) hx hb dL_law_23 (by decide) (fun _ => kt H locs lsA hP hSS hl) (fun h => kf (lw_le hL hi h) H locs lsA hP hSS hl)
theorem lx_next (hC : lx_C p s m c b L xs D ad cy) {i : Nat} (kk : lx_V p l e s m below meth c b D ad cy Z M 18 (lx_l b ad (nI (i + 5))) []) : lx_V p l e s m below meth c b D ad cy Z M 835 (lx_l b ad (nI i)) [] := by
  intro H locs lsA hP hSS hl
  obtain ⟨hx, hb, hml, hown, hts, hS, hX, hbl, hD⟩ := id hC
  refine lv_iinc (k := 3) (v := nI (i + 5)) (lv' := [(3, .int (nI (i + 5))), (0, .ref b), (1, .ref (ad 0)), (2, .ref (ad 143))]) hx hb dL_law_835 hl rfl (nI_add i 5) (by decide) rfl (fun lsB hB => ?_)
  refine lv_goto (tgt := 18) hx hb dL_law_838 (by decide) ?_
  exact kk H locs lsB hP hSS (lv_sub hB [1, 2, 3, 0] rfl)
theorem lc_openness {i : Nat} {Y : Sy} (hC : lx_C p s m c b L xs D ad cy) (hi : i + 5 ≤ L) (hL : L ≤ 2560) (hA : CoA M Y) (hB : MoA M Y) (ht : Y.1.2.2.1 3 + 100 < 2147483648) (kk : ∀ M2 : mx_M, CoA M2 Y → MoA M2 Y → lx_V p l e s m below meth c b D ad cy Z M2 835 (lx_l b ad (nI i)) []) : lx_V p l e s m below meth c b D ad cy Z M 745 (lx_l b ad (nI i)) [] := by
  refine lx_aload hC 1 dL_law_745 rfl ?_
  refine lx_arg hC 1 hi hL (by decide) (by decide) dL_law_746 dL_law_747 dL_law_748 dL_law_749 dL_law_750 ?_
  refine lx_call hC dL_law_751 cl_L_110 rfl (t_X7_openness M Y hA ht (xs (i + 1))) rfl (by decide) rfl (Nat.le_of_ble_eq_true rfl) (fun v M1 hv => ?_)
  obtain ⟨rfl, hA1, hM1⟩ := hv
  have hB1 := hB.mo hM1
  generalize hr : oOpenness (xs (i + 1)) Y = r
  refine lx_dstore (ls' := (4, .double r) :: lx_l b ad (nI i)) hC dL_law_754 (by decide) rfl ?_
  refine lx_aload hC 3 dL_law_756 rfl ?_
  refine lx_argD hC 1 hi hL (by decide) (by decide) dL_law_757 dL_law_758 dL_law_759 dL_law_760 dL_law_761 ?_
  refine lx_call hC dL_law_762 cl_L_114 rfl (t_X8_openness M1 Y hB1 ht (xs (i + 1))) rfl (by decide) rfl (Nat.le_of_ble_eq_true rfl) (fun v M2 hv => ?_)
  obtain ⟨rfl, hB2, hM2⟩ := hv
  rw [hr]
  refine lx_dstore (ls' := (6, .double r) :: (4, .double r) :: lx_l b ad (nI i)) hC dL_law_765 (by decide) rfl ?_
  have fin : lx_V p l e s m below meth c b D ad cy Z M2 793 ((6, .double r) :: (4, .double r) :: lx_l b ad (nI i)) [] := by
    refine lx_goto (tgt := 835) hC dL_law_793 (by decide) ?_
    exact lx_sub hC [2, 3, 4, 5] rfl (kk M2 (hA1.cl hM2) hB2)
  refine lx_dload hC 1 dL_law_767 rfl ?_
  refine lx_dload hC 0 dL_law_769 rfl ?_
  refine lx_dcmp hC dL_law_771 ?_
  generalize hz : Op.cmpValue (FP.dcmp r r) .l = z
  refine lx_ifeq (tgt := 793) hC dL_law_772 (by decide) (fun _ => fin) (fun h => ?_)
  refine lx_dload hC 1 dL_law_775 rfl ?_
  refine lx_dload hC 1 dL_law_777 rfl ?_
  refine lx_dcmp hC dL_law_779 ?_
  rw [hz]
  refine lx_ifeq (tgt := 791) hC dL_law_780 (by decide) (fun h2 => absurd h2 h) (fun _ => ?_)
  refine lx_dload hC 0 dL_law_783 rfl ?_
  refine lx_dload hC 0 dL_law_785 rfl ?_
  refine lx_dcmp hC dL_law_787 ?_
  rw [hz]
  exact lx_ifne (tgt := 793) hC dL_law_788 (by decide) (fun _ => fin) (fun h2 => absurd h2 h)
theorem lw_sw (x : Int32) : x = nI 0 ∨ x = nI 1 ∨ x = nI 2 ∨ x = nI 3 ∨ x = nI 4 ∨ x = nI 5 ∨ x = nI 6 ∨ x = nI 7 ∨ x = nI 8 ∨ x = nI 9 ∨ x = nI 10 ∨ x = nI 11 ∨ x = nI 12 ∨ x = nI 13 ∨ x = nI 14 ∨ x = nI 15 ∨ x = nI 16 ∨ x = nI 17 ∨ x = nI 18 ∨ x = nI 19 ∨ x = nI 20 ∨ x = nI 21 ∨ x = nI 22 ∨ x = nI 23 ∨ x = nI 24 ∨ x = nI 25 ∨ x = nI 26 ∨ (x.toInt < 0 ∨ 26 < x.toInt) := by
  by_cases h : 0 ≤ x.toInt ∧ x.toInt ≤ 26
  · obtain ⟨j, hj, rfl⟩ := nI_of (x := x) (fun z => by rw [Int32.lt_iff_toInt_lt] at z; have : (0 : Int32).toInt = 0 := rfl; omega)
    rw [nI_t j hj] at h
    have : j = 0 ∨ j = 1 ∨ j = 2 ∨ j = 3 ∨ j = 4 ∨ j = 5 ∨ j = 6 ∨ j = 7 ∨ j = 8 ∨ j = 9 ∨ j = 10 ∨ j = 11 ∨ j = 12 ∨ j = 13 ∨ j = 14 ∨ j = 15 ∨ j = 16 ∨ j = 17 ∨ j = 18 ∨ j = 19 ∨ j = 20 ∨ j = 21 ∨ j = 22 ∨ j = 23 ∨ j = 24 ∨ j = 25 ∨ j = 26 := by omega
    rcases this with rfl | rfl | rfl | rfl | rfl | rfl | rfl | rfl | rfl | rfl | rfl | rfl | rfl | rfl | rfl | rfl | rfl | rfl | rfl | rfl | rfl | rfl | rfl | rfl | rfl | rfl | rfl <;> simp
  · have : x.toInt < 0 ∨ 26 < x.toInt := by omega
    simp [this]
set_option maxHeartbeats 1000000 in
theorem lx_body (hC : lx_C p s m c b L xs D ad cy) {i n : Nat} {Y : Sy} (hL : L ≤ 2560) (hi5 : i + 5 ≤ L) (hA : CoA M Y) (hB : MoA M Y) (hn : n ≤ 40000) (hT : TB n Y) (kk : ∀ (M2 : mx_M) (Y2 : Sy), CoA M2 Y2 → MoA M2 Y2 → TB (n + 61) Y2 → lx_V p l e s m below meth c b D ad cy Z M2 18 (lx_l b ad (nI (i + 5))) []) : lx_V p l e s m below meth c b D ad cy Z M 26 (lx_l b ad (nI i)) [] := by
  have ht : Y.1.2.2.1 3 + 100 < 2147483648 := by have := hT.1; omega
  refine lx_arg0 hC hi5 hL dL_law_26 dL_law_27 dL_law_28 ?_
  intro H locs lsA hP hSS hl
  obtain ⟨hx, hb, -⟩ := id hC
  refine lv_bipush (v := nI 31) hx hb dL_law_29 (by decide) ?_
  refine lv_iand hx hb dL_law_31 ?_
  generalize xs i &&& nI 31 = x
  rcases lw_sw x with rfl | rfl | rfl | rfl | rfl | rfl | rfl | rfl | rfl | rfl | rfl | rfl | rfl | rfl | rfl | rfl | rfl | rfl | rfl | rfl | rfl | rfl | rfl | rfl | rfl | rfl | rfl | h
  · refine lv_tableIn (tgt := 156) hx hb dL_law_32 (by decide) (by decide) rfl (by decide) ?_
    exact lc_emitter hC hi5 hL hA hB ht (fun M2 hA2 hB2 => lx_next hC (kk M2 (oEmitter (xs (i + 1)) (xs (i + 2)) (xs (i + 3)) (xs (i + 4)) Y).2 hA2 hB2 (tb_emitter hT (xs (i + 1)) (xs (i + 2)) (xs (i + 3)) (xs (i + 4))))) H locs lsA hP hSS hl
  · refine lv_tableIn (tgt := 209) hx hb dL_law_32 (by decide) (by decide) rfl (by decide) ?_
    exact lc_takeAway hC hi5 hL hA hB ht (fun M2 hA2 hB2 => lx_next hC (kk M2 (oTakeAway (xs (i + 1)) Y).2 hA2 hB2 (tb_takeAway hT (xs (i + 1))))) H locs lsA hP hSS hl
  · refine lv_tableIn (tgt := 232) hx hb dL_law_32 (by decide) (by decide) rfl (by decide) ?_
    exact lc_tick hC hi5 hL hA hB ht (fun M2 hA2 hB2 => lx_next hC (kk M2 (oTick (xs (i + 1)) Y).2 hA2 hB2 (tb_tick hT (xs (i + 1))))) H locs lsA hP hSS hl
  · refine lv_tableIn (tgt := 255) hx hb dL_law_32 (by decide) (by decide) rfl (by decide) ?_
    exact lc_bomb hC hi5 hL hA hB ht (fun M2 hA2 hB2 => lx_next hC (kk M2 (oBomb Y).2 hA2 hB2 (tb_bomb hT))) H locs lsA hP hSS hl
  · refine lv_tableIn (tgt := 268) hx hb dL_law_32 (by decide) (by decide) rfl (by decide) ?_
    exact lc_clearField hC hi5 hL hA hB ht (fun M2 hA2 hB2 => lx_next hC (kk M2 (oClearField Y).2 hA2 hB2 (tb_clearField hT))) H locs lsA hP hSS hl
  · refine lv_tableIn (tgt := 281) hx hb dL_law_32 (by decide) (by decide) rfl (by decide) ?_
    exact lc_set hC hi5 hL hA hB ht (fun M2 hA2 hB2 => lx_next hC (kk M2 (oSet (xs (i + 1)) (xs (i + 2)) Y).2 hA2 hB2 (tb_set hT (xs (i + 1)) (xs (i + 2))))) H locs lsA hP hSS hl
  · refine lv_tableIn (tgt := 314) hx hb dL_law_32 (by decide) (by decide) rfl (by decide) ?_
    exact lc_append hC hi5 hL hA hB ht (fun M2 hA2 hB2 => lx_next hC (kk M2 (oAppend (xs (i + 1)) Y).2 hA2 hB2 (tb_append hT (xs (i + 1))))) H locs lsA hP hSS hl
  · refine lv_tableIn (tgt := 337) hx hb dL_law_32 (by decide) (by decide) rfl (by decide) ?_
    exact lc_clear hC hi5 hL hA hB ht (fun M2 hA2 hB2 => lx_next hC (kk M2 (oClear Y).2 hA2 hB2 (tb_clear hT))) H locs lsA hP hSS hl
  · refine lv_tableIn (tgt := 350) hx hb dL_law_32 (by decide) (by decide) rfl (by decide) ?_
    exact lc_fault hC hi5 hL hA hB ht (fun M2 hA2 hB2 => lx_next hC (kk M2 Y hA2 hB2 (hT.mono (by omega)))) H locs lsA hP hSS hl
  · refine lv_tableIn (tgt := 373) hx hb dL_law_32 (by decide) (by decide) rfl (by decide) ?_
    exact lc_hang hC hi5 hL hA hB ht (fun M2 hA2 hB2 => lx_next hC (kk M2 (oHang Y).2 hA2 hB2 (tb_hang hT))) H locs lsA hP hSS hl
  · refine lv_tableIn (tgt := 386) hx hb dL_law_32 (by decide) (by decide) rfl (by decide) ?_
    exact lc_play hC hi5 hL hA hB ht (fun M2 hA2 hB2 => lx_next hC (kk M2 (oPlay Y).2 hA2 hB2 (tb_play hT hA.2.2.2.2.2.1))) H locs lsA hP hSS hl
  · refine lv_tableIn (tgt := 399) hx hb dL_law_32 (by decide) (by decide) rfl (by decide) ?_
    exact lc_emitterOf hC hi5 hL hA hB ht (fun M2 hA2 hB2 => lx_next hC (kk M2 Y hA2 hB2 (hT.mono (by omega)))) H locs lsA hP hSS hl
  · refine lv_tableIn (tgt := 432) hx hb dL_law_32 (by decide) (by decide) rfl (by decide) ?_
    exact lc_bullet hC hi5 hL hA hB ht (fun M2 hA2 hB2 => lx_next hC (kk M2 Y hA2 hB2 (hT.mono (by omega)))) H locs lsA hP hSS hl
  · refine lv_tableIn (tgt := 465) hx hb dL_law_32 (by decide) (by decide) rfl (by decide) ?_
    exact lc_at hC hi5 hL hA hB ht (fun M2 hA2 hB2 => lx_next hC (kk M2 Y hA2 hB2 (hT.mono (by omega)))) H locs lsA hP hSS hl
  · refine lv_tableIn (tgt := 498) hx hb dL_law_32 (by decide) (by decide) rfl (by decide) ?_
    exact lc_count hC hi5 hL hA hB ht (fun M2 hA2 hB2 => lx_next hC (kk M2 Y hA2 hB2 (hT.mono (by omega)))) H locs lsA hP hSS hl
  · refine lv_tableIn (tgt := 521) hx hb dL_law_32 (by decide) (by decide) rfl (by decide) ?_
    exact lc_free hC hi5 hL hA hB ht (fun M2 hA2 hB2 => lx_next hC (kk M2 Y hA2 hB2 (hT.mono (by omega)))) H locs lsA hP hSS hl
  · refine lv_tableIn (tgt := 544) hx hb dL_law_32 (by decide) (by decide) rfl (by decide) ?_
    exact lc_lane hC hi5 hL hA hB ht (fun M2 hA2 hB2 => lx_next hC (kk M2 Y hA2 hB2 (hT.mono (by omega)))) H locs lsA hP hSS hl
  · refine lv_tableIn (tgt := 577) hx hb dL_law_32 (by decide) (by decide) rfl (by decide) ?_
    exact lc_ends hC hi5 hL hA hB ht (fun M2 hA2 hB2 => lx_next hC (kk M2 Y hA2 hB2 (hT.mono (by omega)))) H locs lsA hP hSS hl
  · refine lv_tableIn (tgt := 610) hx hb dL_law_32 (by decide) (by decide) rfl (by decide) ?_
    exact lc_way hC hi5 hL hA hB ht (fun M2 hA2 hB2 => lx_next hC (kk M2 Y hA2 hB2 (hT.mono (by omega)))) H locs lsA hP hSS hl
  · refine lv_tableIn (tgt := 643) hx hb dL_law_32 (by decide) (by decide) rfl (by decide) ?_
    exact lc_asides hC hi5 hL hA hB ht (fun M2 hA2 hB2 => lx_next hC (kk M2 Y hA2 hB2 (hT.mono (by omega)))) H locs lsA hP hSS hl
  · refine lv_tableIn (tgt := 666) hx hb dL_law_32 (by decide) (by decide) rfl (by decide) ?_
    exact lc_fair hC hi5 hL hA hB ht (fun M2 hA2 hB2 => lx_next hC (kk M2 Y hA2 hB2 (hT.mono (by omega)))) H locs lsA hP hSS hl
  · refine lv_tableIn (tgt := 679) hx hb dL_law_32 (by decide) (by decide) rfl (by decide) ?_
    exact lc_shuts hC hi5 hL hA hB ht (fun M2 hA2 hB2 => lx_next hC (kk M2 Y hA2 hB2 (hT.mono (by omega)))) H locs lsA hP hSS hl
  · refine lv_tableIn (tgt := 702) hx hb dL_law_32 (by decide) (by decide) rfl (by decide) ?_
    exact lc_ifStepped hC hi5 hL hA hB ht (fun M2 hA2 hB2 => lx_next hC (kk M2 Y hA2 hB2 (hT.mono (by omega)))) H locs lsA hP hSS hl
  · refine lv_tableIn (tgt := 745) hx hb dL_law_32 (by decide) (by decide) rfl (by decide) ?_
    exact lc_openness hC hi5 hL hA hB ht (fun M2 hA2 hB2 => lx_next hC (kk M2 Y hA2 hB2 (hT.mono (by omega)))) H locs lsA hP hSS hl
  · refine lv_tableIn (tgt := 796) hx hb dL_law_32 (by decide) (by decide) rfl (by decide) ?_
    exact lc_undo hC hi5 hL hA hB ht (fun M2 hA2 hB2 => lx_next hC (kk M2 (oUndo Y).2 hA2 hB2 (tb_undo hT))) H locs lsA hP hSS hl
  · refine lv_tableIn (tgt := 809) hx hb dL_law_32 (by decide) (by decide) rfl (by decide) ?_
    exact lc_save hC hi5 hL hA hB ht (fun M2 hA2 hB2 => lx_next hC (kk M2 (oSave Y).2 hA2 hB2 (tb_save hT))) H locs lsA hP hSS hl
  · refine lv_tableIn (tgt := 822) hx hb dL_law_32 (by decide) (by decide) rfl (by decide) ?_
    exact lc_restore hC hi5 hL hA hB ht (fun M2 hA2 hB2 => lx_next hC (kk M2 (oRestore Y).2 hA2 hB2 (tb_restore hT))) H locs lsA hP hSS hl
  · refine lv_tableOut (tgt := 835) hx hb dL_law_32 h (by decide) ?_
    exact lx_next hC (kk M Y hA hB (hT.mono (by omega))) H locs lsA hP hSS hl
theorem lx_loop (hC : lx_C p s m c b L xs D ad cy) (hL : L ≤ 2560) (fin : ∀ (M : mx_M) (i : Nat), lx_V p l e s m below meth c b D ad cy Z M 841 (lx_l b ad (nI i)) []) : ∀ (k i n : Nat) (M : mx_M) (Y : Sy), L < i + k → i = 5 * n → i ≤ 2600 → CoA M Y → MoA M Y → TB (61 * n) Y → lx_V p l e s m below meth c b D ad cy Z M 18 (lx_l b ad (nI i)) [] := by
  intro k
  induction k with
  | zero =>
    intro i n M Y hk hn hi hA hB hT
    exact lx_head hC hL hi (fin M i) (fun h => absurd h (by omega))
  | succ k ih =>
    intro i n M Y hk hn hi hA hB hT
    refine lx_head hC hL hi (fin M i) (fun h => ?_)
    exact lx_body hC hL h hA hB (by omega) hT (fun M2 Y2 hA2 hB2 hT2 => ih (i + 5) (n + 1) M2 Y2 (by omega) (by omega) (by omega) hA2 hB2 (by rw [show 61 * (n + 1) = 61 * n + 61 by omega]; exact hT2))
end LX
