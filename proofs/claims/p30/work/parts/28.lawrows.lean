/-! ROWS FOR THE LAW'S METHODS: stores beside locals of two slots, longs, doubles -/
def mx_cs (i : Nat) (ls : List (Option Value)) : Bool := match i with
  | 0 => true
  | k + 1 => match ls[k]? with
    | some (some v) => v.category == 1
    | _ => true
theorem mx_cs_at {i j : Nat} {ls : List (Option Value)} (h : mx_cs i ls = true) (hj : j + 1 = i) {v : Value} (hv : ls[j]? = some (some v)) : v.category = 1 := by
  subst hj
  simp only [mx_cs, hv, beq_iff_eq] at h
  exact h
theorem mx_L.store1 {ad : Nat → Nat} {ls : List (Option Value)} {a a' : Array Slot} {nL i : Nat} {v : Value} (h : mx_L ad ls a nL) (hc : mx_cs i ls = true) (h' : lv_has a' nL ((i, mx_r ad v) :: (mx_as ad ls).filter (fun q => !(q.1 == i) && !(q.1 + 1 == i && q.2.category == 2)))) : mx_L ad (ls.set i (some v)) a' nL := by
  refine ⟨h'.1, h'.2.1, by rw [List.length_set]; exact h.2.2.1, fun j w hj => ?_⟩
  by_cases hji : j = i
  · subst hji
    have hl : j < ls.length := by
      have := (List.getElem?_eq_some_iff.mp hj).1
      simpa using this
    rw [List.getElem?_set_self hl] at hj
    cases hj
    exact h'.2.2 (j, mx_r ad v) List.mem_cons_self
  · rw [List.getElem?_set_ne (Ne.symm hji)] at hj
    refine h'.2.2 (j, mx_r ad w) (List.mem_cons_of_mem _ (List.mem_filter.mpr ⟨mx_as_mem hj, ?_⟩))
    by_cases hj1 : j + 1 = i
    · have hcw : (mx_r ad w).category = 1 := by rw [mx_r_cat]; exact mx_cs_at hc hj1 hj
      simp [hji, hcw]
    · simp [hji, hj1]
theorem mx_L.store2 {ad : Nat → Nat} {ls : List (Option Value)} {a a' : Array Slot} {nL i : Nat} {v : Value} (h : mx_L ad ls a nL) (hc : mx_cs i ls = true) (h' : lv_has a' nL ((i, mx_r ad v) :: (mx_as ad ls).filter (fun q => !(q.1 == i) && (!(q.1 == i + 1) && !(q.1 + 1 == i && q.2.category == 2))))) : mx_L ad ((ls.set i (some v)).set (i + 1) none) a' nL := by
  refine ⟨h'.1, h'.2.1, by rw [List.length_set, List.length_set]; exact h.2.2.1, fun j w hj => ?_⟩
  by_cases hj2 : j = i + 1
  · subst hj2
    rw [List.getElem?_set] at hj
    split at hj
    · split at hj <;> cases hj
    · omega
  rw [List.getElem?_set_ne (Ne.symm hj2)] at hj
  by_cases hji : j = i
  · subst hji
    have hl : j < ls.length := by
      have := (List.getElem?_eq_some_iff.mp hj).1
      simpa using this
    rw [List.getElem?_set_self hl] at hj
    cases hj
    exact h'.2.2 (j, mx_r ad v) List.mem_cons_self
  · rw [List.getElem?_set_ne (Ne.symm hji)] at hj
    refine h'.2.2 (j, mx_r ad w) (List.mem_cons_of_mem _ (List.mem_filter.mpr ⟨mx_as_mem hj, ?_⟩))
    by_cases hj1 : j + 1 = i
    · have hcw : (mx_r ad w).category = 1 := by rw [mx_r_cat]; exact mx_cs_at hc hj1 hj
      simp [hji, hj2, hcw]
    · simp [hji, hj2, hj1]
theorem mx_xistore {cc : ByteArray} {own : String} {nL : Nat} {ret : Option FieldType} {d pc pc' : Nat} {ls : List (Option Value)} {st : List Value} {M : mx_M} {Q : Option Value → mx_M → Prop} {i : Nat} {x : Int32} {ls' : List (Option Value)} (hd : decode cc pc = .ok (.istore i, 2)) (hi : i < nL) (hc : mx_cs i ls = true) (hls : ls.set i (some (.int x)) = ls') (hp : pc + 2 = pc') (k : mx_V cc own nL ret d pc' ls' st M Q) : mx_V cc own nL ret d pc ls (.int x :: st) M Q := by
  intro p l e R s m args below meth c D ad cy A H0 cells slots Z hx hb hml hown hts hS hR hD hE H locs lsA hP hSS hL
  subst hp
  subst hls
  exact lv_istore hx hb hd hL.has hi rfl (fun a' h' => k p l e R s m args below meth c D ad cy A H0 cells slots Z hx hb hml hown hts hS hR hD hE H locs a' hP hSS (hL.store1 hc h'))

theorem mx_xistore_n {cc : ByteArray} {own : String} {nL : Nat} {ret : Option FieldType} {d pc pc' : Nat} {ls : List (Option Value)} {st : List Value} {M : mx_M} {Q : Option Value → mx_M → Prop} {i : Fin 4} {x : Int32} {ls' : List (Option Value)} (hd : decode cc pc = .ok (.istore_n i, 1)) (hi : i.val < nL) (hc : mx_cs i.val ls = true) (hls : ls.set i.val (some (.int x)) = ls') (hp : pc + 1 = pc') (k : mx_V cc own nL ret d pc' ls' st M Q) : mx_V cc own nL ret d pc ls (.int x :: st) M Q := by
  intro p l e R s m args below meth c D ad cy A H0 cells slots Z hx hb hml hown hts hS hR hD hE H locs lsA hP hSS hL
  subst hp
  subst hls
  exact lv_istore_n hx hb hd rfl hL.has hi rfl (fun a' h' => k p l e R s m args below meth c D ad cy A H0 cells slots Z hx hb hml hown hts hS hR hD hE H locs a' hP hSS (hL.store1 hc h'))

theorem mx_xiinc {cc : ByteArray} {own : String} {nL : Nat} {ret : Option FieldType} {d pc pc' : Nat} {ls : List (Option Value)} {st : List Value} {M : mx_M} {Q : Option Value → mx_M → Prop} {i : Nat} {n : Int} {x v : Int32} {ls' : List (Option Value)} (hd : decode cc pc = .ok (.iinc i n, 3)) (hl : ls[i]? = some (some (.int x))) (hv : x + Int32.ofInt n = v) (hi : i < nL) (hc : mx_cs i ls = true) (hls : ls.set i (some (.int v)) = ls') (hp : pc + 3 = pc') (k : mx_V cc own nL ret d pc' ls' st M Q) : mx_V cc own nL ret d pc ls st M Q := by
  intro p l e R s m args below meth c D ad cy A H0 cells slots Z hx hb hml hown hts hS hR hD hE H locs lsA hP hSS hL
  subst hp
  subst hls
  obtain ⟨j, hj⟩ := List.getElem?_of_mem (mx_as_mem (ad := ad) hl)
  exact lv_iinc (k := j) hx hb hd hL.has hj hv hi rfl (fun a' h' => k p l e R s m args below meth c D ad cy A H0 cells slots Z hx hb hml hown hts hS hR hD hE H locs a' hP hSS (hL.store1 hc h'))

theorem mx_lstore {cc : ByteArray} {own : String} {nL : Nat} {ret : Option FieldType} {d pc pc' : Nat} {ls : List (Option Value)} {st : List Value} {M : mx_M} {Q : Option Value → mx_M → Prop} {i : Nat} {x : Int64} {ls' : List (Option Value)} (hd : decode cc pc = .ok (.lstore i, 2)) (hi : i + 1 < nL) (hc : mx_cs i ls = true) (hls : (ls.set i (some (.long x))).set (i + 1) none = ls') (hp : pc + 2 = pc') (k : mx_V cc own nL ret d pc' ls' st M Q) : mx_V cc own nL ret d pc ls (.long x :: st) M Q := by
  intro p l e R s m args below meth c D ad cy A H0 cells slots Z hx hb hml hown hts hS hR hD hE H locs lsA hP hSS hL
  subst hp
  subst hls
  exact lv_lstore hx hb hd hL.has hi rfl (fun a' h' => k p l e R s m args below meth c D ad cy A H0 cells slots Z hx hb hml hown hts hS hR hD hE H locs a' hP hSS (hL.store2 (v := .long x) hc h'))

theorem mx_lstore_n {cc : ByteArray} {own : String} {nL : Nat} {ret : Option FieldType} {d pc pc' : Nat} {ls : List (Option Value)} {st : List Value} {M : mx_M} {Q : Option Value → mx_M → Prop} {i : Fin 4} {x : Int64} {ls' : List (Option Value)} (hd : decode cc pc = .ok (.lstore_n i, 1)) (hi : i.val + 1 < nL) (hc : mx_cs i.val ls = true) (hls : (ls.set i.val (some (.long x))).set (i.val + 1) none = ls') (hp : pc + 1 = pc') (k : mx_V cc own nL ret d pc' ls' st M Q) : mx_V cc own nL ret d pc ls (.long x :: st) M Q := by
  intro p l e R s m args below meth c D ad cy A H0 cells slots Z hx hb hml hown hts hS hR hD hE H locs lsA hP hSS hL
  subst hp
  subst hls
  exact lv_lstore_n hx hb hd rfl hL.has hi rfl (fun a' h' => k p l e R s m args below meth c D ad cy A H0 cells slots Z hx hb hml hown hts hS hR hD hE H locs a' hP hSS (hL.store2 (v := .long x) hc h'))

theorem mx_lload {cc : ByteArray} {own : String} {nL : Nat} {ret : Option FieldType} {d pc pc' : Nat} {ls : List (Option Value)} {st : List Value} {M : mx_M} {Q : Option Value → mx_M → Prop} {i : Nat} {x : Int64} (hd : decode cc pc = .ok (.lload i, 2)) (hl : ls[i]? = some (some (.long x))) (hp : pc + 2 = pc') (k : mx_V cc own nL ret d pc' ls (.long x :: st) M Q) : mx_V cc own nL ret d pc ls st M Q := by
  intro p l e R s m args below meth c D ad cy A H0 cells slots Z hx hb hml hown hts hS hR hD hE H locs lsA hP hSS hL
  subst hp
  exact lv_lload hx hb hd (hL.2.2.2 i _ hl) (k p l e R s m args below meth c D ad cy A H0 cells slots Z hx hb hml hown hts hS hR hD hE H locs lsA hP hSS hL)

theorem mx_lload_n {cc : ByteArray} {own : String} {nL : Nat} {ret : Option FieldType} {d pc pc' : Nat} {ls : List (Option Value)} {st : List Value} {M : mx_M} {Q : Option Value → mx_M → Prop} {i : Fin 4} {x : Int64} (hd : decode cc pc = .ok (.lload_n i, 1)) (hl : ls[i.val]? = some (some (.long x))) (hp : pc + 1 = pc') (k : mx_V cc own nL ret d pc' ls (.long x :: st) M Q) : mx_V cc own nL ret d pc ls st M Q := by
  intro p l e R s m args below meth c D ad cy A H0 cells slots Z hx hb hml hown hts hS hR hD hE H locs lsA hP hSS hL
  subst hp
  exact lv_lload_n hx hb hd rfl (hL.2.2.2 i.val _ hl) (k p l e R s m args below meth c D ad cy A H0 cells slots Z hx hb hml hown hts hS hR hD hE H locs lsA hP hSS hL)

theorem mx_dstore {cc : ByteArray} {own : String} {nL : Nat} {ret : Option FieldType} {d pc pc' : Nat} {ls : List (Option Value)} {st : List Value} {M : mx_M} {Q : Option Value → mx_M → Prop} {i : Nat} {x : UInt64} {ls' : List (Option Value)} (hd : decode cc pc = .ok (.dstore i, 2)) (hi : i + 1 < nL) (hc : mx_cs i ls = true) (hls : (ls.set i (some (.double x))).set (i + 1) none = ls') (hp : pc + 2 = pc') (k : mx_V cc own nL ret d pc' ls' st M Q) : mx_V cc own nL ret d pc ls (.double x :: st) M Q := by
  intro p l e R s m args below meth c D ad cy A H0 cells slots Z hx hb hml hown hts hS hR hD hE H locs lsA hP hSS hL
  subst hp
  subst hls
  exact lv_dstore hx hb hd hL.has hi rfl (fun a' h' => k p l e R s m args below meth c D ad cy A H0 cells slots Z hx hb hml hown hts hS hR hD hE H locs a' hP hSS (hL.store2 (v := .double x) hc h'))

theorem mx_dstore_n {cc : ByteArray} {own : String} {nL : Nat} {ret : Option FieldType} {d pc pc' : Nat} {ls : List (Option Value)} {st : List Value} {M : mx_M} {Q : Option Value → mx_M → Prop} {i : Fin 4} {x : UInt64} {ls' : List (Option Value)} (hd : decode cc pc = .ok (.dstore_n i, 1)) (hi : i.val + 1 < nL) (hc : mx_cs i.val ls = true) (hls : (ls.set i.val (some (.double x))).set (i.val + 1) none = ls') (hp : pc + 1 = pc') (k : mx_V cc own nL ret d pc' ls' st M Q) : mx_V cc own nL ret d pc ls (.double x :: st) M Q := by
  intro p l e R s m args below meth c D ad cy A H0 cells slots Z hx hb hml hown hts hS hR hD hE H locs lsA hP hSS hL
  subst hp
  subst hls
  exact lv_dstore_n hx hb hd rfl hL.has hi rfl (fun a' h' => k p l e R s m args below meth c D ad cy A H0 cells slots Z hx hb hml hown hts hS hR hD hE H locs a' hP hSS (hL.store2 (v := .double x) hc h'))

theorem mx_dload {cc : ByteArray} {own : String} {nL : Nat} {ret : Option FieldType} {d pc pc' : Nat} {ls : List (Option Value)} {st : List Value} {M : mx_M} {Q : Option Value → mx_M → Prop} {i : Nat} {x : UInt64} (hd : decode cc pc = .ok (.dload i, 2)) (hl : ls[i]? = some (some (.double x))) (hp : pc + 2 = pc') (k : mx_V cc own nL ret d pc' ls (.double x :: st) M Q) : mx_V cc own nL ret d pc ls st M Q := by
  intro p l e R s m args below meth c D ad cy A H0 cells slots Z hx hb hml hown hts hS hR hD hE H locs lsA hP hSS hL
  subst hp
  exact lv_dload hx hb hd (hL.2.2.2 i _ hl) (k p l e R s m args below meth c D ad cy A H0 cells slots Z hx hb hml hown hts hS hR hD hE H locs lsA hP hSS hL)

theorem mx_dload_n {cc : ByteArray} {own : String} {nL : Nat} {ret : Option FieldType} {d pc pc' : Nat} {ls : List (Option Value)} {st : List Value} {M : mx_M} {Q : Option Value → mx_M → Prop} {i : Fin 4} {x : UInt64} (hd : decode cc pc = .ok (.dload_n i, 1)) (hl : ls[i.val]? = some (some (.double x))) (hp : pc + 1 = pc') (k : mx_V cc own nL ret d pc' ls (.double x :: st) M Q) : mx_V cc own nL ret d pc ls st M Q := by
  intro p l e R s m args below meth c D ad cy A H0 cells slots Z hx hb hml hown hts hS hR hD hE H locs lsA hP hSS hL
  subst hp
  exact lv_dload_n hx hb hd rfl (hL.2.2.2 i.val _ hl) (k p l e R s m args below meth c D ad cy A H0 cells slots Z hx hb hml hown hts hS hR hD hE H locs lsA hP hSS hL)

theorem mx_ladd {cc : ByteArray} {own : String} {nL : Nat} {ret : Option FieldType} {d pc pc' : Nat} {ls : List (Option Value)} {st : List Value} {M : mx_M} {Q : Option Value → mx_M → Prop} {x y : Int64} (hd : decode cc pc = .ok (.ladd, 1)) (hp : pc + 1 = pc') (k : mx_V cc own nL ret d pc' ls (.long (x + y) :: st) M Q) : mx_V cc own nL ret d pc ls (.long y :: .long x :: st) M Q := by
  intro p l e R s m args below meth c D ad cy A H0 cells slots Z hx hb hml hown hts hS hR hD hE H locs lsA hP hSS hL
  subst hp
  exact lv_ladd hx hb hd (k p l e R s m args below meth c D ad cy A H0 cells slots Z hx hb hml hown hts hS hR hD hE H locs lsA hP hSS hL)

theorem mx_lmul {cc : ByteArray} {own : String} {nL : Nat} {ret : Option FieldType} {d pc pc' : Nat} {ls : List (Option Value)} {st : List Value} {M : mx_M} {Q : Option Value → mx_M → Prop} {x y : Int64} (hd : decode cc pc = .ok (.lmul, 1)) (hp : pc + 1 = pc') (k : mx_V cc own nL ret d pc' ls (.long (x * y) :: st) M Q) : mx_V cc own nL ret d pc ls (.long y :: .long x :: st) M Q := by
  intro p l e R s m args below meth c D ad cy A H0 cells slots Z hx hb hml hown hts hS hR hD hE H locs lsA hP hSS hL
  subst hp
  exact lv_lmul hx hb hd (k p l e R s m args below meth c D ad cy A H0 cells slots Z hx hb hml hown hts hS hR hD hE H locs lsA hP hSS hL)

theorem mx_i2l {cc : ByteArray} {own : String} {nL : Nat} {ret : Option FieldType} {d pc pc' : Nat} {ls : List (Option Value)} {st : List Value} {M : mx_M} {Q : Option Value → mx_M → Prop} {x : Int32} (hd : decode cc pc = .ok (.i2l, 1)) (hp : pc + 1 = pc') (k : mx_V cc own nL ret d pc' ls (.long x.toInt64 :: st) M Q) : mx_V cc own nL ret d pc ls (.int x :: st) M Q := by
  intro p l e R s m args below meth c D ad cy A H0 cells slots Z hx hb hml hown hts hS hR hD hE H locs lsA hP hSS hL
  subst hp
  exact lv_i2l hx hb hd rfl (k p l e R s m args below meth c D ad cy A H0 cells slots Z hx hb hml hown hts hS hR hD hE H locs lsA hP hSS hL)

theorem lg_cmp_rf (x : Int64) : lg_cmp x x = 0 := by simp [lg_cmp]
theorem mx_lcmp {cc : ByteArray} {own : String} {nL : Nat} {ret : Option FieldType} {d pc pc' : Nat} {ls : List (Option Value)} {st : List Value} {M : mx_M} {Q : Option Value → mx_M → Prop} {x : Int64} (hd : decode cc pc = .ok (.lcmp, 1)) (hp : pc + 1 = pc') (k : mx_V cc own nL ret d pc' ls (.int 0 :: st) M Q) : mx_V cc own nL ret d pc ls (.long x :: .long x :: st) M Q := by
  intro p l e R s m args below meth c D ad cy A H0 cells slots Z hx hb hml hown hts hS hR hD hE H locs lsA hP hSS hL
  subst hp
  refine W.lcmp hx hb hd ?_
  rw [lg_cmp_rf]
  exact (k p l e R s m args below meth c D ad cy A H0 cells slots Z hx hb hml hown hts hS hR hD hE H locs lsA hP hSS hL)

theorem mx_ldc {cc : ByteArray} {own : String} {nL : Nat} {ret : Option FieldType} {d pc pc' : Nat} {ls : List (Option Value)} {st : List Value} {M : mx_M} {Q : Option Value → mx_M → Prop} {idx : Nat} {v : Int32} (hd : decode cc pc = .ok (.ldc idx, 2)) (hc : Cond.constant own idx v ∈ mx_TW) (hp : pc + 2 = pc') (k : mx_V cc own nL ret d pc' ls (.int v :: st) M Q) : mx_V cc own nL ret d pc ls st M Q := by
  intro p l e R s m args below meth c D ad cy A H0 cells slots Z hx hb hml hown hts hS hR hD hE H locs lsA hP hSS hL
  subst hp
  exact lv_ldc hx hb hown (hts _ hc) hd (k p l e R s m args below meth c D ad cy A H0 cells slots Z hx hb hml hown hts hS hR hD hE H locs lsA hP hSS hL)

theorem mx_ldc2l {cc : ByteArray} {own : String} {nL : Nat} {ret : Option FieldType} {d pc pc' : Nat} {ls : List (Option Value)} {st : List Value} {M : mx_M} {Q : Option Value → mx_M → Prop} {idx : Nat} {v : Int64} (hd : decode cc pc = .ok (.ldc2_w idx, 3)) (hc : Cond.constantLong own idx v ∈ mx_TW) (hp : pc + 3 = pc') (k : mx_V cc own nL ret d pc' ls (.long v :: st) M Q) : mx_V cc own nL ret d pc ls st M Q := by
  intro p l e R s m args below meth c D ad cy A H0 cells slots Z hx hb hml hown hts hS hR hD hE H locs lsA hP hSS hL
  subst hp
  exact lv_ldc2 hx hb hown (hts _ hc) hd (k p l e R s m args below meth c D ad cy A H0 cells slots Z hx hb hml hown hts hS hR hD hE H locs lsA hP hSS hL)

theorem mx_dconst0 {cc : ByteArray} {own : String} {nL : Nat} {ret : Option FieldType} {d pc pc' : Nat} {ls : List (Option Value)} {st : List Value} {M : mx_M} {Q : Option Value → mx_M → Prop}  (hd : decode cc pc = .ok (.dconst 0, 1)) (hp : pc + 1 = pc') (k : mx_V cc own nL ret d pc' ls (.double FP.dconst0 :: st) M Q) : mx_V cc own nL ret d pc ls st M Q := by
  intro p l e R s m args below meth c D ad cy A H0 cells slots Z hx hb hml hown hts hS hR hD hE H locs lsA hP hSS hL
  subst hp
  exact lv_dconst0 hx hb hd (k p l e R s m args below meth c D ad cy A H0 cells slots Z hx hb hml hown hts hS hR hD hE H locs lsA hP hSS hL)

theorem mx_dconst1 {cc : ByteArray} {own : String} {nL : Nat} {ret : Option FieldType} {d pc pc' : Nat} {ls : List (Option Value)} {st : List Value} {M : mx_M} {Q : Option Value → mx_M → Prop}  (hd : decode cc pc = .ok (.dconst 1, 1)) (hp : pc + 1 = pc') (k : mx_V cc own nL ret d pc' ls (.double FP.dconst1 :: st) M Q) : mx_V cc own nL ret d pc ls st M Q := by
  intro p l e R s m args below meth c D ad cy A H0 cells slots Z hx hb hml hown hts hS hR hD hE H locs lsA hP hSS hL
  subst hp
  exact lv_dconst1 hx hb hd (k p l e R s m args below meth c D ad cy A H0 cells slots Z hx hb hml hown hts hS hR hD hE H locs lsA hP hSS hL)

theorem mx_dcmp {cc : ByteArray} {own : String} {nL : Nat} {ret : Option FieldType} {d pc pc' : Nat} {ls : List (Option Value)} {st : List Value} {M : mx_M} {Q : Option Value → mx_M → Prop} {x y : UInt64} {op : CmpOp} {v : Int32} (hd : decode cc pc = .ok (.dcmp op, 1)) (hv : Op.cmpValue (FP.dcmp x y) op = v) (hp : pc + 1 = pc') (k : mx_V cc own nL ret d pc' ls (.int v :: st) M Q) : mx_V cc own nL ret d pc ls (.double y :: .double x :: st) M Q := by
  intro p l e R s m args below meth c D ad cy A H0 cells slots Z hx hb hml hown hts hS hR hD hE H locs lsA hP hSS hL
  subst hp
  subst hv
  exact lv_dcmp hx hb hd (k p l e R s m args below meth c D ad cy A H0 cells slots Z hx hb hml hown hts hS hR hD hE H locs lsA hP hSS hL)

theorem mx_idiv {cc : ByteArray} {own : String} {nL : Nat} {ret : Option FieldType} {d pc pc' : Nat} {ls : List (Option Value)} {st : List Value} {M : mx_M} {Q : Option Value → mx_M → Prop} {x y v : Int32} (hd : decode cc pc = .ok (.idiv, 1)) (hy : ¬ y = 0) (hv : x / y = v) (hp : pc + 1 = pc') (k : mx_V cc own nL ret d pc' ls (.int v :: st) M Q) : mx_V cc own nL ret d pc ls (.int y :: .int x :: st) M Q := by
  intro p l e R s m args below meth c D ad cy A H0 cells slots Z hx hb hml hown hts hS hR hD hE H locs lsA hP hSS hL
  subst hp
  subst hv
  exact lv_idiv hx hb hd hy (k p l e R s m args below meth c D ad cy A H0 cells slots Z hx hb hml hown hts hS hR hD hE H locs lsA hP hSS hL)

theorem mx_lret {cc : ByteArray} {own : String} {nL : Nat} {ret : Option FieldType} {d pc : Nat} {ls : List (Option Value)} {M : mx_M} {Q : Option Value → mx_M → Prop} {x : Int64} (hd : decode cc pc = .ok (.lreturn, 1)) (hn : ret = some .long) (hq : Q (some (.long x)) M) : mx_V cc own nL ret d pc ls [.long x] M Q := by
  intro p l e R s m args below meth c D ad cy A H0 cells slots Z hx hb hml hown hts hS hR hD hE H locs lsA hP hSS hL
  exact hE (some (.long x)) M H locs lsA pc hq hn hP hSS hd

theorem cl_k7 : Cond.constant RL 7 (-1109334675) ∈ mx_TW := mx_in 304 (by decide +kernel) (by decide +kernel)
theorem cl_k8 : Cond.constant RL 8 2147483647 ∈ mx_TW := mx_in 308 (by decide +kernel) (by decide +kernel)
theorem cl_l9 : Cond.constantLong RL 9 389 ∈ mx_TW := mx_in 312 (by decide +kernel) (by decide +kernel)
theorem cl_l11 : Cond.constantLong RL 11 31 ∈ mx_TW := mx_in 313 (by decide +kernel) (by decide +kernel)
theorem cl_d67 : Cond.constantDouble RL 67 13830554455654793216 ∈ mx_TW := mx_in 554 (by decide +kernel) (by decide +kernel)
