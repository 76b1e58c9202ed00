/-! what would asks of the looks -/
theorem i32_le {x y : Int32} : x ≤ y ↔ x.toInt ≤ y.toInt := Int32.le_iff_toInt_le
theorem i32_lt {x y : Int32} : x < y ↔ x.toInt < y.toInt := Int32.lt_iff_toInt_lt
/-- a span -/
theorem span_y {T : Nat} (h1 : 1 ≤ T) (h2 : T ≤ 30) : nI 1 ≤ nI T ∧ nI T ≤ nI 30 := ⟨(nI_leI (by omega) (by omega)).mpr h1, (nI_leI (by omega) (by omega)).mpr h2⟩
theorem span_n {T : Nat} (h : T = 0 ∨ T = 31) : ¬ (nI 1 ≤ nI T ∧ nI T ≤ nI 30) := by
  rcases h with rfl | rfl <;> decide
theorem wf_free {Y : Sy} {T : Nat} (hT : T < 31) : oFree (nI T) Y = nI (fFr Y.1 T) ∧ oLane (nI T) (nI 1) Y = nI (wdN (fFr Y.1 T) 10) := by
  have e : tN (nI T) = T := tN_n (by omega)
  have c : (0 : Int32) ≤ nI T ∧ nI T ≤ nI 30 := ⟨nI_p0 (by omega), (nI_leI (by omega) (by omega)).mpr (by omega)⟩
  unfold oFree oLane
  rw [if_pos c, if_pos ⟨c, by decide, by decide⟩, if_neg (by decide), if_pos rfl, e]
  exact ⟨rfl, rfl⟩
theorem wf_free31 {Y : Sy} : oFree (nI 31) Y = (-1) ∧ oLane (nI 31) (nI 1) Y = (-1) := by
  unfold oFree oLane
  rw [if_neg (by decide), if_neg (by decide)]
  exact ⟨rfl, rfl⟩
theorem wf_bad {Y : Sy} {T : Nat} (h : T = 0 ∨ T = 31) : oEnds (nI T) (nI 0) Y = (-1) ∧ oAsides (nI T) Y = (-1) ∧ oShuts (nI T) Y = (-1) ∧ oOpenness (nI T) Y = 13830554455654793216 := by
  have c := span_n h
  unfold oEnds oAsides oShuts oOpenness
  rw [if_neg (fun z => c z.1), if_neg c, if_neg c, if_neg c]
  exact ⟨rfl, rfl, rfl, rfl⟩
theorem wf_good {Y : Sy} (hF : FI Y.1) {T : Nat} (h1 : 1 ≤ T) (h2 : T ≤ 30) : ∃ e fa, oEnds (nI T) (nI 0) Y = nI e ∧ oEnds (nI T) (nI 1) Y = nI e ∧ e ≤ pop10 (fFr Y.1 T) ∧
    ((oAsides (nI T) Y = (-4) ∧ e = 0) ∨ ∃ a, a ≤ T ∧ oAsides (nI T) Y = nI a) ∧ ((Y.1.1.length = 0 ∧ oShuts (nI T) Y = (-2)) ∨ ∃ s, s < Y.1.1.length ∧ oShuts (nI T) Y = nI s) ∧
    Op.cmpValue (FP.dcmp (oOpenness (nI T) Y) FP.dconst0) .l ≥ 0 ∧ Op.cmpValue (FP.dcmp (oOpenness (nI T) Y) FP.dconst1) .g ≤ 0 ∧ oFair Y = nI fa ∧ (0 < e ↔ T ≤ fa) ∧ fa ≤ 30 := by
  have c := span_y h1 h2
  have hp : Y.1.2.2.1 0 < 10 := hF.1.1.2.2.1
  have hg := fFr_lt Y.1
  have e : tN (nI T) = T := tN_n (by omega)
  have eE : ∀ k, k < 2 → oEnds (nI T) (nI k) Y = nI (pop10 (rch (fFr Y.1) (Y.1.2.2.1 0) T)) := by
    intro k hk
    unfold oEnds
    rw [if_pos ⟨c, nI_p0 (by omega), (nI_leI (by omega) (by omega)).mpr (by omega)⟩, e]
  refine ⟨pop10 (rch (fFr Y.1) (Y.1.2.2.1 0) T), lwR (fFr Y.1) (Y.1.2.2.1 0) 30 1, eE 0 (by omega), eE 1 (by omega), rch_pop _ _ _ h1, ?_, ?_, ?_, ?_, rfl, fair_iff hp hg h2, lwR_le _ _ 30 1 (by omega) (by omega)⟩
  · unfold oAsides calmI
    rw [if_pos c, e]
    by_cases z : faF (crow (fFr Y.1) T 1) (Y.1.2.2.1 0) < 1000
    · rw [if_pos z]
      exact Or.inr ⟨_, calm_le h1 z, rfl⟩
    · rw [if_neg z]
      refine Or.inl ⟨rfl, ?_⟩
      have hz : rch (fFr Y.1) (Y.1.2.2.1 0) T = 0 := Classical.byContradiction fun hn => z (calm_yes hp hg h1 h2 hn)
      exact (pop_0 _ (rch_lt hp hg T)).mpr hz
  · unfold oShuts
    rw [if_pos c, e]
    by_cases z : Y.1.1.length = 0
    · rw [if_pos z]
      exact Or.inl ⟨z, rfl⟩
    · rw [if_neg z]
      refine Or.inr ⟨_, shS_lt _ _ _ _ (show 0 < Y.1.1.length by omega) (fun m hm => ?_), rfl⟩
      rw [List.mem_range'_1] at hm
      omega
  · unfold oOpenness
    rw [if_pos c, e]
    have hs := sumG_le (fFr Y.1) T
    exact (opn_1 _ (by omega) T (by omega) h1 hs).1
  · unfold oOpenness
    rw [if_pos c, e]
    have hs := sumG_le (fFr Y.1) T
    exact (opn_1 _ (by omega) T (by omega) h1 hs).2
theorem wf_fair {Y : Sy} : ∃ fa, fa ≤ 30 ∧ oFair Y = nI fa := ⟨_, lwR_le _ _ 30 1 (by omega) (by omega), rfl⟩
theorem i32_ge0 {x : Int32} (h : 0 ≤ x.toInt) : ∃ n : Nat, n < 2147483648 ∧ x = nI n ∧ (n : Int) = x.toInt := by
  have hlt := Int32.toInt_lt x
  refine ⟨x.toInt.toNat, by omega, ?_, by omega⟩
  apply Int32.toInt_inj.mp
  rw [nI_t _ (by omega)]
  omega
theorem wf_way1 {Y : Sy} {T : Nat} (hT : T < 32) {tk : Int32} (h : T = 0 ∨ T = 31 ∨ tk.toInt < 0 ∨ (T : Int) < tk.toInt) : oWay (nI T) tk Y = (-1) := by
  unfold oWay
  rw [if_neg]
  intro ⟨h1, h2, h3⟩
  rcases h with h | h | h | h
  · exact span_n (Or.inl h) h1
  · exact span_n (Or.inr h) h1
  · have := i32_le.mp h2
    rw [z_t] at this
    omega
  · have := i32_le.mp h3
    rw [nI_t _ (by omega)] at this
    omega
theorem wf_way2 {Y : Sy} (hF : FI Y.1) {T t : Nat} (h1 : 1 ≤ T) (h2 : T ≤ 30) (h3 : t ≤ T) : (oAsides (nI T) Y = (-4) → oWay (nI T) (nI t) Y = (-4)) ∧ (oAsides (nI T) Y ≠ (-4) → ∃ w, w < 10 ∧ oWay (nI T) (nI t) Y = nI w ∧ (t = 0 → w = Y.1.2.2.1 0) ∧ (1 ≤ t → (fFr Y.1 t).testBit w = true)) := by
  have c := span_y h1 h2
  have hp : Y.1.2.2.1 0 < 10 := hF.1.1.2.2.1
  have e : tN (nI T) = T := tN_n (by omega)
  have e2 : tN (nI t) = t := tN_n (by omega)
  have eA : oAsides (nI T) Y = calmI (fFr Y.1) (Y.1.2.2.1 0) T := by
    unfold oAsides
    rw [if_pos c, e]
  have eW : oWay (nI T) (nI t) Y = if calmI (fFr Y.1) (Y.1.2.2.1 0) T = (-4) then (-4) else nI (cway (fFr Y.1) (Y.1.2.2.1 0) T t) := by
    unfold oWay
    rw [if_pos ⟨c, nI_p0 (by omega), (nI_leI (by omega) (by omega)).mpr h3⟩, e, e2]
  rw [eA, eW]
  refine ⟨fun z => if_pos z, fun z => ⟨_, cway_lt hp t, if_neg z, fun h0 => by rw [h0]; rfl, fun h0 => ?_⟩⟩
  have hf : faF (crow (fFr Y.1) T 1) (Y.1.2.2.1 0) < 1000 := by
    refine Classical.byContradiction fun hn => z ?_
    unfold calmI
    rw [if_neg hn]
  have := (calm_way h1 hf (t - 1) (by omega)).2
  rw [show t - 1 + 1 = t by omega] at this
  exact this
theorem tN_st {x : Int32} (h1 : -1 ≤ x.toInt) (h2 : x.toInt ≤ 1) : x = (-1) ∨ x = nI 0 ∨ x = nI 1 := by
  have : x.toInt = -1 ∨ x.toInt = 0 ∨ x.toInt = 1 := by omega
  rcases this with h | h | h
  · exact Or.inl (Int32.toInt_inj.mp (h.trans m1_t.symm))
  · exact Or.inr (Or.inl (Int32.toInt_inj.mp (h.trans (nI_t 0 (by omega)).symm)))
  · exact Or.inr (Or.inr (Int32.toInt_inj.mp (h.trans (nI_t 1 (by omega)).symm)))
theorem wf_told1 {Y : Sy} {T : Nat} {st wh : Int32} (h : (T = 0 ∨ T = 31) ∨ st.toInt < -1 ∨ 1 < st.toInt ∨ wh.toInt < 0 ∨ 2 < wh.toInt) : oIfStepped st (nI T) wh Y = (-1) := by
  unfold oIfStepped
  rw [if_neg]
  intro ⟨⟨a1, a2⟩, a3, a4, a5⟩
  have a1 := i32_le.mp a1
  have a2 := i32_le.mp a2
  have a4 := i32_le.mp a4
  have a5 := i32_le.mp a5
  rw [m1_t] at a1
  rw [nI_t 1 (by omega)] at a2
  rw [z_t] at a4
  rw [nI_t 2 (by omega)] at a5
  rcases h with h | h
  · exact span_n h a3
  · omega
theorem wf_told2 {Y : Sy} (hF : FI Y.1) {T : Nat} {st wh : Int32} (h1 : 1 ≤ T) (h2 : T ≤ 30) (s1 : -1 ≤ st.toInt) (s2 : st.toInt ≤ 1) (w1 : 0 ≤ wh.toInt) (w2 : wh.toInt ≤ 2) :
    (Y.1.2.2.1 4 ≠ 0 → oIfStepped st (nI T) wh Y = (-2)) ∧ (Y.1.2.2.1 4 = 0 → (wh.toInt = 2 → oIfStepped st (nI T) wh Y = (-4) ∨ ∃ m, Y.1.2.2.1 1 < m ∧ m ≤ T ∧ oIfStepped st (nI T) wh Y = nI m) ∧ (wh.toInt ≠ 2 → ∃ m, m ≤ 1800 ∧ oIfStepped st (nI T) wh Y = nI m)) := by
  have c := span_y h1 h2
  have e : tN (nI T) = T := tN_n (by omega)
  have hd : (((-1 : Int32) ≤ st ∧ st ≤ nI 1) ∧ (nI 1 ≤ nI T ∧ nI T ≤ nI 30) ∧ (0 : Int32) ≤ wh ∧ wh ≤ nI 2) := by
    refine ⟨⟨i32_le.mpr (by rw [m1_t]; exact s1), i32_le.mpr (by rw [nI_t 1 (by omega)]; exact s2)⟩, c, i32_le.mpr (by rw [z_t]; exact w1), i32_le.mpr (by rw [nI_t 2 (by omega)]; exact w2)⟩
  unfold oIfStepped
  rw [if_pos hd, e]
  refine ⟨fun z => if_neg z, fun z => ?_⟩
  rw [if_pos z]
  obtain ⟨i1, i2, ⟨m7, h7, e7⟩, m6, h6, e6⟩ := isR_sc (tN (st + nI 1)) T hF z
  have hw : wh.toInt = 0 ∨ wh.toInt = 1 ∨ wh.toInt = 2 := by omega
  rcases hw with hw | hw | hw
  · have hw0 : wh = 0 := Int32.toInt_inj.mp (hw.trans z_t.symm)
    refine ⟨fun z => by omega, fun _ => ⟨m7, by omega, ?_⟩⟩
    rw [if_pos hw0, e7, i32_as]
  · have hw0 : wh = nI 1 := Int32.toInt_inj.mp (hw.trans (nI_t 1 (by omega)).symm)
    refine ⟨fun z => by omega, fun _ => ⟨m6, by omega, ?_⟩⟩
    rw [if_neg (by rw [hw0]; decide), if_pos hw0, e6, i32_as]
  · have hw0 : wh = nI 2 := Int32.toInt_inj.mp (hw.trans (nI_t 2 (by omega)).symm)
    refine ⟨fun _ => ?_, fun z => by omega⟩
    rw [if_neg (by rw [hw0]; decide), if_neg (by rw [hw0]; decide)]
    by_cases zd : (isR (tN (st + nI 1)) T Y.1).2.2.2.1 4 = 0
    · rw [if_pos zd]; exact Or.inl rfl
    · rw [if_neg zd]; exact Or.inr ⟨_, i2 zd, i1, rfl⟩
