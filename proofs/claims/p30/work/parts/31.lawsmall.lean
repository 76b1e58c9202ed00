/-! the law's small methods; count, bullet and emitterOf by the number of what is asked -/
theorem m2_t : (-2 : Int32).toInt = -2 := rfl
theorem m3_t : (-3 : Int32).toInt = -3 := rfl
theorem m4_t : (-4 : Int32).toInt = -4 := rfl
theorem m9_t : (-9 : Int32).toInt = -9 := rfl
theorem nI_p0 {n : Nat} (h : n < 2147483648) : (0 : Int32) ≤ nI n := (show nI 0 ≤ nI n from (nI_leI (by omega) h).mpr (Nat.zero_le _))
theorem nI_nez {n : Nat} (h0 : 0 < n) (h : n < 2147483648) : ¬ nI n = 0 := fun z => absurd ((nI_eq (a := n) (b := 0) h (by omega)).mp z) (by omega)
theorem oCount_n {k : Nat} (hk : k < 19) (Y : Sy) : oCount (nI k) Y = cntV Y k := by
  unfold oCount
  rw [if_pos ⟨nI_p0 (by omega), (nI_leI (by omega) (by omega)).mpr (by omega)⟩, tN_n (by omega)]
theorem t_c0 (M : mx_M) (Y : Sy) (hC : CoA M Y) : mx_T yX7_count cX7_count 2 (some .int) 1 [.ref 0, .int (nI 0)] M (fun v M' => v = some (.int (nI Y.1.1.length)) ∧ CoA M' Y ∧ Mo M M') := (t_X7_count M Y hC (nI 0)).post fun v M' h => ⟨h.1.trans (congrArg (fun z => some (Value.int z)) (oCount_n (by decide) Y)), h.2⟩
theorem t_c1 (M : mx_M) (Y : Sy) (hC : CoA M Y) : mx_T yX7_count cX7_count 2 (some .int) 1 [.ref 0, .int (nI 1)] M (fun v M' => v = some (.int (nI Y.1.2.1.length)) ∧ CoA M' Y ∧ Mo M M') := (t_X7_count M Y hC (nI 1)).post fun v M' h => ⟨h.1.trans (congrArg (fun z => some (Value.int z)) (oCount_n (by decide) Y)), h.2⟩
theorem t_c2 (M : mx_M) (Y : Sy) (hC : CoA M Y) : mx_T yX7_count cX7_count 2 (some .int) 1 [.ref 0, .int (nI 2)] M (fun v M' => v = some (.int (nI (Y.1.2.2.1 0))) ∧ CoA M' Y ∧ Mo M M') := (t_X7_count M Y hC (nI 2)).post fun v M' h => ⟨h.1.trans (congrArg (fun z => some (Value.int z)) (oCount_n (by decide) Y)), h.2⟩
theorem t_c3 (M : mx_M) (Y : Sy) (hC : CoA M Y) : mx_T yX7_count cX7_count 2 (some .int) 1 [.ref 0, .int (nI 3)] M (fun v M' => v = some (.int (nI (Y.1.2.2.1 1))) ∧ CoA M' Y ∧ Mo M M') := (t_X7_count M Y hC (nI 3)).post fun v M' h => ⟨h.1.trans (congrArg (fun z => some (Value.int z)) (oCount_n (by decide) Y)), h.2⟩
theorem t_c4 (M : mx_M) (Y : Sy) (hC : CoA M Y) : mx_T yX7_count cX7_count 2 (some .int) 1 [.ref 0, .int (nI 4)] M (fun v M' => v = some (.int (nI (Y.1.2.2.1 2))) ∧ CoA M' Y ∧ Mo M M') := (t_X7_count M Y hC (nI 4)).post fun v M' h => ⟨h.1.trans (congrArg (fun z => some (Value.int z)) (oCount_n (by decide) Y)), h.2⟩
theorem t_c5 (M : mx_M) (Y : Sy) (hC : CoA M Y) : mx_T yX7_count cX7_count 2 (some .int) 1 [.ref 0, .int (nI 5)] M (fun v M' => v = some (.int (nI (Y.1.2.2.1 3))) ∧ CoA M' Y ∧ Mo M M') := (t_X7_count M Y hC (nI 5)).post fun v M' h => ⟨h.1.trans (congrArg (fun z => some (Value.int z)) (oCount_n (by decide) Y)), h.2⟩
theorem t_c6 (M : mx_M) (Y : Sy) (hC : CoA M Y) : mx_T yX7_count cX7_count 2 (some .int) 1 [.ref 0, .int (nI 6)] M (fun v M' => v = some (.int (nI (Y.1.2.2.1 4))) ∧ CoA M' Y ∧ Mo M M') := (t_X7_count M Y hC (nI 6)).post fun v M' h => ⟨h.1.trans (congrArg (fun z => some (Value.int z)) (oCount_n (by decide) Y)), h.2⟩
theorem t_c7 (M : mx_M) (Y : Sy) (hC : CoA M Y) : mx_T yX7_count cX7_count 2 (some .int) 1 [.ref 0, .int (nI 7)] M (fun v M' => v = some (.int (Y.1.2.2.2 0)) ∧ CoA M' Y ∧ Mo M M') := (t_X7_count M Y hC (nI 7)).post fun v M' h => ⟨h.1.trans (congrArg (fun z => some (Value.int z)) (oCount_n (by decide) Y)), h.2⟩
theorem t_c8 (M : mx_M) (Y : Sy) (hC : CoA M Y) : mx_T yX7_count cX7_count 2 (some .int) 1 [.ref 0, .int (nI 8)] M (fun v M' => v = some (.int (Y.1.2.2.2 1)) ∧ CoA M' Y ∧ Mo M M') := (t_X7_count M Y hC (nI 8)).post fun v M' h => ⟨h.1.trans (congrArg (fun z => some (Value.int z)) (oCount_n (by decide) Y)), h.2⟩
theorem t_c9 (M : mx_M) (Y : Sy) (hC : CoA M Y) : mx_T yX7_count cX7_count 2 (some .int) 1 [.ref 0, .int (nI 9)] M (fun v M' => v = some (.int (Y.1.2.2.2 2)) ∧ CoA M' Y ∧ Mo M M') := (t_X7_count M Y hC (nI 9)).post fun v M' h => ⟨h.1.trans (congrArg (fun z => some (Value.int z)) (oCount_n (by decide) Y)), h.2⟩
theorem t_c10 (M : mx_M) (Y : Sy) (hC : CoA M Y) : mx_T yX7_count cX7_count 2 (some .int) 1 [.ref 0, .int (nI 10)] M (fun v M' => v = some (.int (Y.1.2.2.2 3)) ∧ CoA M' Y ∧ Mo M M') := (t_X7_count M Y hC (nI 10)).post fun v M' h => ⟨h.1.trans (congrArg (fun z => some (Value.int z)) (oCount_n (by decide) Y)), h.2⟩
theorem t_c11 (M : mx_M) (Y : Sy) (hC : CoA M Y) : mx_T yX7_count cX7_count 2 (some .int) 1 [.ref 0, .int (nI 11)] M (fun v M' => v = some (.int (Y.1.2.2.2 4)) ∧ CoA M' Y ∧ Mo M M') := (t_X7_count M Y hC (nI 11)).post fun v M' h => ⟨h.1.trans (congrArg (fun z => some (Value.int z)) (oCount_n (by decide) Y)), h.2⟩
theorem t_c12 (M : mx_M) (Y : Sy) (hC : CoA M Y) : mx_T yX7_count cX7_count 2 (some .int) 1 [.ref 0, .int (nI 12)] M (fun v M' => v = some (.int (Y.1.2.2.2 5)) ∧ CoA M' Y ∧ Mo M M') := (t_X7_count M Y hC (nI 12)).post fun v M' h => ⟨h.1.trans (congrArg (fun z => some (Value.int z)) (oCount_n (by decide) Y)), h.2⟩
theorem t_c13 (M : mx_M) (Y : Sy) (hC : CoA M Y) : mx_T yX7_count cX7_count 2 (some .int) 1 [.ref 0, .int (nI 13)] M (fun v M' => v = some (.int (Y.1.2.2.2 6)) ∧ CoA M' Y ∧ Mo M M') := (t_X7_count M Y hC (nI 13)).post fun v M' h => ⟨h.1.trans (congrArg (fun z => some (Value.int z)) (oCount_n (by decide) Y)), h.2⟩
theorem t_c14 (M : mx_M) (Y : Sy) (hC : CoA M Y) : mx_T yX7_count cX7_count 2 (some .int) 1 [.ref 0, .int (nI 14)] M (fun v M' => v = some (.int (Y.1.2.2.2 7)) ∧ CoA M' Y ∧ Mo M M') := (t_X7_count M Y hC (nI 14)).post fun v M' h => ⟨h.1.trans (congrArg (fun z => some (Value.int z)) (oCount_n (by decide) Y)), h.2⟩
theorem t_c15 (M : mx_M) (Y : Sy) (hC : CoA M Y) : mx_T yX7_count cX7_count 2 (some .int) 1 [.ref 0, .int (nI 15)] M (fun v M' => v = some (.int (nI (Y.1.2.2.1 5))) ∧ CoA M' Y ∧ Mo M M') := (t_X7_count M Y hC (nI 15)).post fun v M' h => ⟨h.1.trans (congrArg (fun z => some (Value.int z)) (oCount_n (by decide) Y)), h.2⟩
theorem t_c16 (M : mx_M) (Y : Sy) (hC : CoA M Y) : mx_T yX7_count cX7_count 2 (some .int) 1 [.ref 0, .int (nI 16)] M (fun v M' => v = some (.int (nI (Y.1.2.2.1 6))) ∧ CoA M' Y ∧ Mo M M') := (t_X7_count M Y hC (nI 16)).post fun v M' h => ⟨h.1.trans (congrArg (fun z => some (Value.int z)) (oCount_n (by decide) Y)), h.2⟩
theorem t_c17 (M : mx_M) (Y : Sy) (hC : CoA M Y) : mx_T yX7_count cX7_count 2 (some .int) 1 [.ref 0, .int (nI 17)] M (fun v M' => v = some (.int (nI Y.2.2.2.length)) ∧ CoA M' Y ∧ Mo M M') := (t_X7_count M Y hC (nI 17)).post fun v M' h => ⟨h.1.trans (congrArg (fun z => some (Value.int z)) (oCount_n (by decide) Y)), h.2⟩
theorem t_c18 (M : mx_M) (Y : Sy) (hC : CoA M Y) : mx_T yX7_count cX7_count 2 (some .int) 1 [.ref 0, .int (nI 18)] M (fun v M' => v = some (.int (nI Y.2.1.length)) ∧ CoA M' Y ∧ Mo M M') := (t_X7_count M Y hC (nI 18)).post fun v M' h => ⟨h.1.trans (congrArg (fun z => some (Value.int z)) (oCount_n (by decide) Y)), h.2⟩
theorem oBullet_0 {Y : Sy} {n : Nat} {x : Bu} (hl : Y.1.2.1.length ≤ 60) (hx : Y.1.2.1[n]? = some x) : oBullet (nI n) (nI 0) Y = nI x.1 := by
  have hn := (List.getElem?_eq_some_iff.mp hx).1
  unfold oBullet
  rw [if_pos ⟨nI_p0 (by omega), (nI_ltI (by omega) (by omega)).mpr hn⟩, tN_n (by omega), List.getD_eq_getElem?_getD, hx]
  rfl
theorem t_bu0 (M : mx_M) (Y : Sy) (hC : CoA M Y) {n : Nat} {x : Bu} (hl : Y.1.2.1.length ≤ 60) (hx : Y.1.2.1[n]? = some x) : mx_T yX7_bullet cX7_bullet 3 (some .int) 2 [.ref 0, .int (nI n), .int (nI 0)] M (fun v M' => v = some (.int (nI x.1)) ∧ CoA M' Y ∧ Mo M M') := (t_X7_bullet M Y hC (nI n) (nI 0)).post fun v M' h => ⟨h.1.trans (congrArg (fun z => some (Value.int z)) (oBullet_0 hl hx)), h.2⟩
theorem oBullet_1 {Y : Sy} {n : Nat} {x : Bu} (hl : Y.1.2.1.length ≤ 60) (hx : Y.1.2.1[n]? = some x) : oBullet (nI n) (nI 1) Y = nI x.2.1 := by
  have hn := (List.getElem?_eq_some_iff.mp hx).1
  unfold oBullet
  rw [if_pos ⟨nI_p0 (by omega), (nI_ltI (by omega) (by omega)).mpr hn⟩, tN_n (by omega), List.getD_eq_getElem?_getD, hx]
  rfl
theorem t_bu1 (M : mx_M) (Y : Sy) (hC : CoA M Y) {n : Nat} {x : Bu} (hl : Y.1.2.1.length ≤ 60) (hx : Y.1.2.1[n]? = some x) : mx_T yX7_bullet cX7_bullet 3 (some .int) 2 [.ref 0, .int (nI n), .int (nI 1)] M (fun v M' => v = some (.int (nI x.2.1)) ∧ CoA M' Y ∧ Mo M M') := (t_X7_bullet M Y hC (nI n) (nI 1)).post fun v M' h => ⟨h.1.trans (congrArg (fun z => some (Value.int z)) (oBullet_1 hl hx)), h.2⟩
theorem oBullet_2 {Y : Sy} {n : Nat} {x : Bu} (hl : Y.1.2.1.length ≤ 60) (hx : Y.1.2.1[n]? = some x) : oBullet (nI n) (nI 2) Y = nI x.2.2.1 := by
  have hn := (List.getElem?_eq_some_iff.mp hx).1
  unfold oBullet
  rw [if_pos ⟨nI_p0 (by omega), (nI_ltI (by omega) (by omega)).mpr hn⟩, tN_n (by omega), List.getD_eq_getElem?_getD, hx]
  rfl
theorem t_bu2 (M : mx_M) (Y : Sy) (hC : CoA M Y) {n : Nat} {x : Bu} (hl : Y.1.2.1.length ≤ 60) (hx : Y.1.2.1[n]? = some x) : mx_T yX7_bullet cX7_bullet 3 (some .int) 2 [.ref 0, .int (nI n), .int (nI 2)] M (fun v M' => v = some (.int (nI x.2.2.1)) ∧ CoA M' Y ∧ Mo M M') := (t_X7_bullet M Y hC (nI n) (nI 2)).post fun v M' h => ⟨h.1.trans (congrArg (fun z => some (Value.int z)) (oBullet_2 hl hx)), h.2⟩
theorem oBullet_3 {Y : Sy} {n : Nat} {x : Bu} (hl : Y.1.2.1.length ≤ 60) (hx : Y.1.2.1[n]? = some x) : oBullet (nI n) (nI 3) Y = nI x.2.2.2.1 := by
  have hn := (List.getElem?_eq_some_iff.mp hx).1
  unfold oBullet
  rw [if_pos ⟨nI_p0 (by omega), (nI_ltI (by omega) (by omega)).mpr hn⟩, tN_n (by omega), List.getD_eq_getElem?_getD, hx]
  rfl
theorem t_bu3 (M : mx_M) (Y : Sy) (hC : CoA M Y) {n : Nat} {x : Bu} (hl : Y.1.2.1.length ≤ 60) (hx : Y.1.2.1[n]? = some x) : mx_T yX7_bullet cX7_bullet 3 (some .int) 2 [.ref 0, .int (nI n), .int (nI 3)] M (fun v M' => v = some (.int (nI x.2.2.2.1)) ∧ CoA M' Y ∧ Mo M M') := (t_X7_bullet M Y hC (nI n) (nI 3)).post fun v M' h => ⟨h.1.trans (congrArg (fun z => some (Value.int z)) (oBullet_3 hl hx)), h.2⟩
theorem oBullet_4 {Y : Sy} {n : Nat} {x : Bu} (hl : Y.1.2.1.length ≤ 60) (hx : Y.1.2.1[n]? = some x) : oBullet (nI n) (nI 4) Y = nI x.2.2.2.2 := by
  have hn := (List.getElem?_eq_some_iff.mp hx).1
  unfold oBullet
  rw [if_pos ⟨nI_p0 (by omega), (nI_ltI (by omega) (by omega)).mpr hn⟩, tN_n (by omega), List.getD_eq_getElem?_getD, hx]
  rfl
theorem t_bu4 (M : mx_M) (Y : Sy) (hC : CoA M Y) {n : Nat} {x : Bu} (hl : Y.1.2.1.length ≤ 60) (hx : Y.1.2.1[n]? = some x) : mx_T yX7_bullet cX7_bullet 3 (some .int) 2 [.ref 0, .int (nI n), .int (nI 4)] M (fun v M' => v = some (.int (nI x.2.2.2.2)) ∧ CoA M' Y ∧ Mo M M') := (t_X7_bullet M Y hC (nI n) (nI 4)).post fun v M' h => ⟨h.1.trans (congrArg (fun z => some (Value.int z)) (oBullet_4 hl hx)), h.2⟩
theorem oBullet_end {Y : Sy} (hl : Y.1.2.1.length ≤ 60) (y : Int32) : oBullet (nI Y.1.2.1.length) y Y = (-1) := by
  unfold oBullet
  rw [if_neg (fun z => absurd ((nI_ltI (by omega) (by omega)).mp z.2) (by omega))]
theorem oEmitterOf_0 {Y : Sy} {n : Nat} {x : Em} (hl : Y.1.1.length ≤ 4) (hx : Y.1.1[n]? = some x) : oEmitterOf (nI n) (nI 0) Y = nI x.1 := by
  have hn := (List.getElem?_eq_some_iff.mp hx).1
  unfold oEmitterOf
  rw [if_pos ⟨nI_p0 (by omega), (nI_ltI (by omega) (by omega)).mpr hn⟩, tN_n (by omega), List.getD_eq_getElem?_getD, hx]
  rfl
theorem t_em0 (M : mx_M) (Y : Sy) (hC : CoA M Y) (ht : Y.1.2.2.1 3 + 100 < 2147483648) {n : Nat} {x : Em} (hl : Y.1.1.length ≤ 4) (hx : Y.1.1[n]? = some x) : mx_T yX7_emitterOf cX7_emitterOf 3 (some .int) 3 [.ref 0, .int (nI n), .int (nI 0)] M (fun v M' => v = some (.int (nI x.1)) ∧ CoA M' Y ∧ Mo M M') := (t_X7_emitterOf M Y hC ht (nI n) (nI 0)).post fun v M' h => ⟨h.1.trans (congrArg (fun z => some (Value.int z)) (oEmitterOf_0 hl hx)), h.2⟩
theorem oEmitterOf_1 {Y : Sy} {n : Nat} {x : Em} (hl : Y.1.1.length ≤ 4) (hx : Y.1.1[n]? = some x) : oEmitterOf (nI n) (nI 1) Y = nI x.2.1 := by
  have hn := (List.getElem?_eq_some_iff.mp hx).1
  unfold oEmitterOf
  rw [if_pos ⟨nI_p0 (by omega), (nI_ltI (by omega) (by omega)).mpr hn⟩, tN_n (by omega), List.getD_eq_getElem?_getD, hx]
  rfl
theorem t_em1 (M : mx_M) (Y : Sy) (hC : CoA M Y) (ht : Y.1.2.2.1 3 + 100 < 2147483648) {n : Nat} {x : Em} (hl : Y.1.1.length ≤ 4) (hx : Y.1.1[n]? = some x) : mx_T yX7_emitterOf cX7_emitterOf 3 (some .int) 3 [.ref 0, .int (nI n), .int (nI 1)] M (fun v M' => v = some (.int (nI x.2.1)) ∧ CoA M' Y ∧ Mo M M') := (t_X7_emitterOf M Y hC ht (nI n) (nI 1)).post fun v M' h => ⟨h.1.trans (congrArg (fun z => some (Value.int z)) (oEmitterOf_1 hl hx)), h.2⟩
theorem oEmitterOf_2 {Y : Sy} {n : Nat} {x : Em} (hl : Y.1.1.length ≤ 4) (hx : Y.1.1[n]? = some x) : oEmitterOf (nI n) (nI 2) Y = nI x.2.2.1 := by
  have hn := (List.getElem?_eq_some_iff.mp hx).1
  unfold oEmitterOf
  rw [if_pos ⟨nI_p0 (by omega), (nI_ltI (by omega) (by omega)).mpr hn⟩, tN_n (by omega), List.getD_eq_getElem?_getD, hx]
  rfl
theorem t_em2 (M : mx_M) (Y : Sy) (hC : CoA M Y) (ht : Y.1.2.2.1 3 + 100 < 2147483648) {n : Nat} {x : Em} (hl : Y.1.1.length ≤ 4) (hx : Y.1.1[n]? = some x) : mx_T yX7_emitterOf cX7_emitterOf 3 (some .int) 3 [.ref 0, .int (nI n), .int (nI 2)] M (fun v M' => v = some (.int (nI x.2.2.1)) ∧ CoA M' Y ∧ Mo M M') := (t_X7_emitterOf M Y hC ht (nI n) (nI 2)).post fun v M' h => ⟨h.1.trans (congrArg (fun z => some (Value.int z)) (oEmitterOf_2 hl hx)), h.2⟩
theorem oEmitterOf_3 {Y : Sy} {n : Nat} {x : Em} (hl : Y.1.1.length ≤ 4) (hx : Y.1.1[n]? = some x) : oEmitterOf (nI n) (nI 3) Y = nI x.2.2.2 := by
  have hn := (List.getElem?_eq_some_iff.mp hx).1
  unfold oEmitterOf
  rw [if_pos ⟨nI_p0 (by omega), (nI_ltI (by omega) (by omega)).mpr hn⟩, tN_n (by omega), List.getD_eq_getElem?_getD, hx]
  rfl
theorem t_em3 (M : mx_M) (Y : Sy) (hC : CoA M Y) (ht : Y.1.2.2.1 3 + 100 < 2147483648) {n : Nat} {x : Em} (hl : Y.1.1.length ≤ 4) (hx : Y.1.1[n]? = some x) : mx_T yX7_emitterOf cX7_emitterOf 3 (some .int) 3 [.ref 0, .int (nI n), .int (nI 3)] M (fun v M' => v = some (.int (nI x.2.2.2)) ∧ CoA M' Y ∧ Mo M M') := (t_X7_emitterOf M Y hC ht (nI n) (nI 3)).post fun v M' h => ⟨h.1.trans (congrArg (fun z => some (Value.int z)) (oEmitterOf_3 hl hx)), h.2⟩
theorem oEmitterOf_4 {Y : Sy} {n : Nat} {x : Em} (hl : Y.1.1.length ≤ 4) (hx : Y.1.1[n]? = some x) : oEmitterOf (nI n) (nI 4) Y = nI (wtF x.2.2.1 x.2.2.2 (Y.1.2.2.1 3)) := by
  have hn := (List.getElem?_eq_some_iff.mp hx).1
  unfold oEmitterOf
  rw [if_pos ⟨nI_p0 (by omega), (nI_ltI (by omega) (by omega)).mpr hn⟩, tN_n (by omega), List.getD_eq_getElem?_getD, hx]
  rfl
theorem t_em4 (M : mx_M) (Y : Sy) (hC : CoA M Y) (ht : Y.1.2.2.1 3 + 100 < 2147483648) {n : Nat} {x : Em} (hl : Y.1.1.length ≤ 4) (hx : Y.1.1[n]? = some x) : mx_T yX7_emitterOf cX7_emitterOf 3 (some .int) 3 [.ref 0, .int (nI n), .int (nI 4)] M (fun v M' => v = some (.int (nI (wtF x.2.2.1 x.2.2.2 (Y.1.2.2.1 3)))) ∧ CoA M' Y ∧ Mo M M') := (t_X7_emitterOf M Y hC ht (nI n) (nI 4)).post fun v M' h => ⟨h.1.trans (congrArg (fun z => some (Value.int z)) (oEmitterOf_4 hl hx)), h.2⟩
theorem oEmitterOf_end {Y : Sy} (hl : Y.1.1.length ≤ 4) (y : Int32) : oEmitterOf (nI Y.1.1.length) y Y = (-1) := by
  unfold oEmitterOf
  rw [if_neg (fun z => absurd ((nI_ltI (by omega) (by omega)).mp z.2) (by omega))]
set_option maxHeartbeats 1000000 in
set_option maxRecDepth 10000 in
theorem t_L_low (M : mx_M) (x : Int32) (n : Nat) (hn : 0 < n ∧ n < 2147483648) : mx_T yL_low cL_low 2 (some .int) 1 [.int x, .int (nI n)] M (fun v M' => ∃ j, j < n ∧ v = some (.int (nI j)) ∧ M' = M) := by
  refine mx_T.of1 (own := RL) (ls := [some (.int x), some (.int (nI n))]) (by decide +kernel) rfl (Nat.le_of_ble_eq_true rfl) rfl rfl ?_
  refine mx_iload_n (pc' := 1) dL_low_0 rfl rfl ?_
  refine mx_ldc (pc' := 3) dL_low_1 cl_k8 rfl ?_
  obtain ⟨j, hj, ej⟩ := pk_andE x (m := 2147483647) 31 rfl
  refine mx_iand (pc' := 4) (v := nI j) dL_low_3 (ej) rfl ?_
  refine mx_iload_n (pc' := 5) dL_low_4 rfl rfl ?_
  refine mx_irem (pc' := 6) (v := nI (j % n)) dL_low_5 (nI_nez hn.1 hn.2) (pk_rem hj hn.1 hn.2) rfl ?_
  refine mx_iret dL_low_6 (Or.inl rfl) ?_
  exact ⟨j % n, Nat.mod_lt _ hn.1, rfl, rfl⟩

theorem tb_2 {f c : Nat} (hf : f < 1024) (hc : c < 10) : (nI f >>> (nI c &&& 31)) &&& nI 1 = nI (f.testBit c).toNat := tb_1 f (by omega) c hc
set_option maxHeartbeats 1000000 in
set_option maxRecDepth 10000 in
theorem l_L_ones (M : mx_M) (f : Nat) (hf : f < 1024) : ∀ (k : Nat) (i : Nat), 10 < i + k → i ≤ 10 → True → mx_V cL_ones RL 3 (some .int) 1 4 [some (.int (nI f)), some (.int (nI (popN f i))), some (.int (nI i))] [] M (fun v M' => v = some (.int (nI (pop10 f))) ∧ M' = M) := by
  intro k
  induction k with
  | zero =>
    intro i hk hi hu
    exact absurd hk (by omega)
  | succ k ih =>
    intro i hk hi hu
    refine mx_iload_n (pc' := 5) dL_ones_4 rfl rfl ?_
    refine mx_bipush (pc' := 7) (v := nI 10) dL_ones_5 (by decide) rfl ?_
    have hp := popN_le f i
    refine mx_icmp_ge (tgt := 24) (pc' := 10) dL_ones_7 (by decide) rfl (fun c7 => ?_) (fun c7 => ?_)
    · have c7 := (nI_leI (by omega) (by omega)).mp c7
      have hi10 : i = 10 := by omega
      subst hi10
      refine mx_iload_n (pc' := 25) dL_ones_24 rfl rfl ?_
      refine mx_iret dL_ones_25 (Or.inl rfl) ?_
      exact ⟨rfl, rfl⟩
    · have c7 := Nat.not_le.mp (fun z => c7 ((nI_leI (by omega) (by omega)).mpr z))
      refine mx_iload_n (pc' := 11) dL_ones_10 rfl rfl ?_
      refine mx_iload_n (pc' := 12) dL_ones_11 rfl rfl ?_
      refine mx_iload_n (pc' := 13) dL_ones_12 rfl rfl ?_
      refine mx_ishr (pc' := 14) dL_ones_13 (rfl) rfl ?_
      refine mx_iconst (pc' := 15) (v := nI 1) dL_ones_14 (by decide) rfl ?_
      refine mx_iand (pc' := 16) (v := nI (f.testBit i).toNat) dL_ones_15 (tb_2 hf (by omega)) rfl ?_
      refine mx_iadd (pc' := 17) (v := nI (popN f (i + 1))) dL_ones_16 (by rw [popN_s, nI_add]) rfl ?_
      refine mx_xistore_n (pc' := 18) (ls' := [_, _, _]) dL_ones_17 (by decide) rfl rfl rfl ?_
      refine mx_xiinc (pc' := 21) (ls' := [_, _, _]) (v := nI (i + 1)) dL_ones_18 rfl (nI_add i 1) (by decide) (rfl) rfl rfl ?_
      refine mx_goto (pc' := 4) dL_ones_21 (by decide) ?_
      exact ih (i + 1) (by omega) (by omega) hu

set_option maxHeartbeats 1000000 in
set_option maxRecDepth 10000 in
theorem t_L_ones (M : mx_M) (f : Nat) (hf : f < 1024) : mx_T yL_ones cL_ones 3 (some .int) 1 [.int (nI f)] M (fun v M' => v = some (.int (nI (pop10 f))) ∧ M' = M) := by
  refine mx_T.of1 (own := RL) (ls := [some (.int (nI f)), none, none]) (by decide +kernel) rfl (Nat.le_of_ble_eq_true rfl) rfl rfl ?_
  refine mx_iconst (pc' := 1) (v := nI 0) dL_ones_0 (by decide) rfl ?_
  refine mx_xistore_n (pc' := 2) (ls' := [_, _, _]) dL_ones_1 (by decide) rfl rfl rfl ?_
  refine mx_iconst (pc' := 3) (v := nI 0) dL_ones_2 (by decide) rfl ?_
  refine mx_xistore_n (pc' := 4) (ls' := [_, _, _]) dL_ones_3 (by decide) rfl rfl rfl ?_
  exact l_L_ones M f hf 11 0 (by omega) (by omega) trivial

