/-! THE BUILDING MACHINE: constructors, each over what stands before its object; the object at place P.length, what it makes behind it -/
theorem ct_at0 {P : List cx_E} {h : cx_E} {Y : List cx_E} : (P ++ (h :: Y))[P.length]? = some h := by simp
theorem ct_at {P : List cx_E} {h : cx_E} {Y : List cx_E} {i : Nat} {x : cx_E} (hx : Y[i]? = some x) : (P ++ (h :: Y))[P.length + (i + 1)]? = some x := by
  rw [List.getElem?_append_right (by omega), show P.length + (i + 1) - P.length = i + 1 by omega, List.getElem?_cons_succ]
  exact hx
theorem ct_set0 (P : List cx_E) (h x : cx_E) (Y : List cx_E) : (P ++ (h :: Y)).set P.length x = P ++ (x :: Y) := by
  rw [List.set_append_right _ _ (Nat.le_refl _), Nat.sub_self]
  rfl
theorem ct_set (P : List cx_E) (h x : cx_E) (Y : List cx_E) (i : Nat) : (P ++ (h :: Y)).set (P.length + (i + 1)) x = P ++ (h :: Y.set i x) := by
  rw [List.set_append_right _ _ (by omega), show P.length + (i + 1) - P.length = i + 1 by omega]
  rfl
theorem ct_len {P : List cx_E} {h : cx_E} {Y : List cx_E} {ce : Nat} (hY : Y.length = ce) : (P ++ (h :: Y)).length = P.length + 1 + ce := by
  rw [List.length_append, List.length_cons, hY]
  omega
theorem ct_len2 {P : List cx_E} {h : cx_E} {Y : List cx_E} {ce a : Nat} (hY : Y.length = ce) (ha : ce + 1 = a) : (P ++ (h :: Y)).length = P.length + a := by
  rw [ct_len hY, ← ha]
  omega
theorem ct_push (P : List cx_E) (h : cx_E) (Y Z : List cx_E) : (P ++ (h :: Y)) ++ Z = P ++ (h :: (Y ++ Z)) := by
  rw [List.append_assoc]
  rfl
theorem ct_put {K L : Nat} {P : List cx_E} {cc : ByteArray} {own : String} {nL d pc pc' : Nat} {ls : List (Option Value)} {st : List Value} {ci : Nat} {fs : List Value} {Y : List cx_E} {ce sl : Nat} {b : cx_C} {idx k0 : Nat} {ty : FieldType} {v : Value} {fs' : List Value} (hd : decode cc pc = .ok (.putfield idx, 3)) (hf : mx_F own idx ci k0 ty false) (hlt : k0 < fs.length) (hfs : fs.set k0 v = fs') (hn : ∀ h : Nat, narrow ty (mx_r (cx_ad h) v) = mx_r (cx_ad h) v ∧ fits ty (mx_r (cx_ad h) v) = true) (hp : pc + 3 = pc') (k : cx_V K L (P.length + 1) cc own nL d (pc', ls, st, P ++ (.inr (ci, fs') :: Y), ce, sl) b) : cx_V K L (P.length + 1) cc own nL d (pc, ls, v :: .ref P.length :: st, P ++ (.inr (ci, fs) :: Y), ce, sl) b := by
  refine cx_put hd hf ct_at0 hlt hn hp ?_
  rw [ct_set0, hfs]
  exact k
theorem ct_putF {K L : Nat} {P : List cx_E} {cc : ByteArray} {own : String} {nL d pc pc' : Nat} {ls : List (Option Value)} {st : List Value} {ci : Nat} {fs : List Value} {Y : List cx_E} {ce sl : Nat} {b : cx_C} {idx k0 : Nat} {ty : FieldType} {v : Value} {fs' : List Value} (hd : decode cc pc = .ok (.putfield idx, 3)) (hf : mx_F own idx ci k0 ty true) (hlt : k0 < fs.length) (hfs : fs.set k0 v = fs') (hn : ∀ h : Nat, narrow ty (mx_r (cx_ad h) v) = mx_r (cx_ad h) v ∧ fits ty (mx_r (cx_ad h) v) = true) (hdc : ∀ (C : String) (T : u_T) (N : Nat), vwCl[ci]? = some (C, T, N) → (T k0).1 = own) (hp : pc + 3 = pc') (k : cx_V K L (P.length + 1) cc own nL d (pc', ls, st, P ++ (.inr (ci, fs') :: Y), ce, sl) b) : cx_V K L (P.length + 1) cc own nL d (pc, ls, v :: .ref P.length :: st, P ++ (.inr (ci, fs) :: Y), ce, sl) b := by
  refine cx_putF hd hf ct_at0 hlt hn hdc hp ?_
  rw [ct_set0, hfs]
  exact k
theorem ct_getr {K L : Nat} {P : List cx_E} {cc : ByteArray} {own : String} {nL d pc pc' : Nat} {ls : List (Option Value)} {st : List Value} {ci : Nat} {fs : List Value} {Y : List cx_E} {ce sl : Nat} {b : cx_C} {idx k0 b1 : Nat} {ty : FieldType} {fin : Bool} (hd : decode cc pc = .ok (.getfield idx, 3)) (hf : mx_F own idx ci k0 ty fin) (ht : fs[k0]? = some (.ref b1)) (hp : pc + 3 = pc') (k : cx_V K L (P.length + 1) cc own nL d (pc', ls, .ref b1 :: st, P ++ (.inr (ci, fs) :: Y), ce, sl) b) : cx_V K L (P.length + 1) cc own nL d (pc, ls, .ref P.length :: st, P ++ (.inr (ci, fs) :: Y), ce, sl) b := by
  exact cx_getr hd hf ct_at0 ht hp k
theorem ct_newi {K L : Nat} {P : List cx_E} {cc : ByteArray} {own : String} {nL d pc pc' : Nat} {ls : List (Option Value)} {st : List Value} {ci : Nat} {fs : List Value} {Y : List cx_E} {ce sl : Nat} {b : cx_C} {N a : Nat} {x : Int32} {Y' : List cx_E} (hd : decode cc pc = .ok (.newarray .int, 2)) (hw : Cond.arrayClass .int ∈ mx_TW) (hxN : x = nI N) (hN : N < 100000) (hle : ce + 1 ≤ K) (hls : sl + N ≤ L) (hY : Y.length = ce) (ha : ce + 1 = a) (hY' : Y ++ [.inl (0, N, fun _ => 0, fun _ => none)] = Y') (hp : pc + 2 = pc') (k : cx_V K L (P.length + 1) cc own nL d (pc', ls, .ref (P.length + a) :: st, P ++ (.inr (ci, fs) :: Y'), ce + 1, sl + N) b) : cx_V K L (P.length + 1) cc own nL d (pc, ls, .int x :: st, P ++ (.inr (ci, fs) :: Y), ce, sl) b := by
  refine cx_newi hd hw hxN hN hle hls (ct_len hY) hp ?_
  rw [ct_len2 hY ha, ct_push, hY']
  exact k
theorem ct_newz {K L : Nat} {P : List cx_E} {cc : ByteArray} {own : String} {nL d pc pc' : Nat} {ls : List (Option Value)} {st : List Value} {ci : Nat} {fs : List Value} {Y : List cx_E} {ce sl : Nat} {b : cx_C} {N a : Nat} {x : Int32} {Y' : List cx_E} (hd : decode cc pc = .ok (.newarray .boolean, 2)) (hw : Cond.arrayClass .boolean ∈ mx_TW) (hxN : x = nI N) (hN : N < 100000) (hle : ce + 1 ≤ K) (hls : sl + N ≤ L) (hY : Y.length = ce) (ha : ce + 1 = a) (hY' : Y ++ [.inl (1, N, fun _ => 0, fun _ => none)] = Y') (hp : pc + 2 = pc') (k : cx_V K L (P.length + 1) cc own nL d (pc', ls, .ref (P.length + a) :: st, P ++ (.inr (ci, fs) :: Y'), ce + 1, sl + N) b) : cx_V K L (P.length + 1) cc own nL d (pc, ls, .int x :: st, P ++ (.inr (ci, fs) :: Y), ce, sl) b := by
  refine cx_newz hd hw hxN hN hle hls (ct_len hY) hp ?_
  rw [ct_len2 hY ha, ct_push, hY']
  exact k
theorem ct_newq {K L : Nat} {P : List cx_E} {cc : ByteArray} {own : String} {nL d pc pc' : Nat} {ls : List (Option Value)} {st : List Value} {ci : Nat} {fs : List Value} {Y : List cx_E} {ce sl : Nat} {b : cx_C} {idx N a : Nat} {x : Int32} {Y' : List cx_E} (hd : decode cc pc = .ok (.anewarray idx, 3)) (hw : Cond.classLink own idx RX3 ∈ mx_TW) (hxN : x = nI N) (hN : N < 100000) (hle : ce + 1 ≤ K) (hls : sl + N ≤ L) (hY : Y.length = ce) (ha : ce + 1 = a) (hY' : Y ++ [.inl (2, N, fun _ => 0, fun _ => none)] = Y') (hp : pc + 3 = pc') (k : cx_V K L (P.length + 1) cc own nL d (pc', ls, .ref (P.length + a) :: st, P ++ (.inr (ci, fs) :: Y'), ce + 1, sl + N) b) : cx_V K L (P.length + 1) cc own nL d (pc, ls, .int x :: st, P ++ (.inr (ci, fs) :: Y), ce, sl) b := by
  refine cx_newq hd hw hxN hN hle hls (ct_len hY) hp ?_
  rw [ct_len2 hY ha, ct_push, hY']
  exact k
theorem ct_newm {K L : Nat} {P : List cx_E} {cc : ByteArray} {own : String} {nL d pc pc' : Nat} {ls : List (Option Value)} {st : List Value} {ci : Nat} {fs : List Value} {Y : List cx_E} {ce sl : Nat} {b : cx_C} {idx n k1 a : Nat} {C : String} {x y : Int32} {Y' : List cx_E} (hd : decode cc pc = .ok (.multianewarray idx 2, 4)) (hw : Cond.classLink own idx C ∈ mx_TW) (hC : C = "[" ++ (FieldType.array .int).toString) (hxn : x = nI n) (hyk : y = nI k1) (hn : n < 10000) (hk : k1 < 10000) (hle : ce + (1 + n) ≤ K) (hls : sl + (n + n * k1) ≤ L) (hY : Y.length = ce) (ha : ce + 1 = a) (hY' : Y ++ (.inl (3, n, fun _ => 0, fun j => some (P.length + a + 1 + j)) :: List.replicate n (.inl (0, k1, fun _ => 0, fun _ => none))) = Y') (hp : pc + 4 = pc') (k : cx_V K L (P.length + 1) cc own nL d (pc', ls, .ref (P.length + a) :: st, P ++ (.inr (ci, fs) :: Y'), ce + 1 + n, sl + n + n * k1) b) : cx_V K L (P.length + 1) cc own nL d (pc, ls, .int y :: .int x :: st, P ++ (.inr (ci, fs) :: Y), ce, sl) b := by
  refine cx_newm hd hw hC hxn hyk hn hk hle hls (ct_len hY) hp ?_
  rw [ct_len2 hY ha, ct_push, hY']
  exact k
theorem ct_new {K L : Nat} {P : List cx_E} {cc : ByteArray} {own : String} {nL d pc pc' : Nat} {ls : List (Option Value)} {st : List Value} {ci : Nat} {fs : List Value} {Y : List cx_E} {ce sl : Nat} {b : cx_C} {idx ci2 a : Nat} {fs2 : List Value} (hd : decode cc pc = .ok (.new idx, 3)) (hw : cx_N own idx ci2 fs2) (hle : ce + 1 ≤ K) (hls : sl + fs2.length ≤ L) (hY : Y.length = ce) (ha : ce + 1 = a) (hp : pc + 3 = pc') (k : cx_V K L (P.length + 1) cc own nL d (pc', ls, .ref (P.length + a) :: st, P ++ (.inr (ci, fs) :: (Y ++ [.inr (ci2, fs2)])), ce + 1, sl + fs2.length) b) : cx_V K L (P.length + 1) cc own nL d (pc, ls, st, P ++ (.inr (ci, fs) :: Y), ce, sl) b := by
  refine cx_new hd hw hle hls (ct_len hY) hp ?_
  rw [ct_len2 hY ha, ct_push]
  exact k
theorem ct_call {K L : Nat} {P : List cx_E} {cc : ByteArray} {own : String} {nL d pc pc' : Nat} {ls : List (Option Value)} {st : List Value} {ci : Nat} {fs : List Value} {Y : List cx_E} {ce sl : Nat} {b : cx_C} {idx nL2 a d2 K2 L2 ci2 : Nat} {y : MethodName} {cc2 : ByteArray} {fs2 : List Value} {ef : Nat → List cx_E} {Y' : List cx_E} (hd : decode cc pc = .ok (.invokespecial idx, 3)) (hc : cx_cI own idx y cc2 nL2) (hT : ∀ P : List cx_E, cx_T y cc2 nL2 d2 P.length (P ++ [.inr (ci2, fs2)]) (P ++ ef P.length) K2 L2) (hcat : (st.map fun v => v.category).sum ≤ 8) (hd2 : d2 + 1 ≤ d) (hle : ce + K2 ≤ K) (hls : sl + L2 ≤ L) (hY : Y.length + 1 = ce) (ha : ce = a) (hY' : Y ++ ef (P.length + a) = Y') (hp : pc + 3 = pc') (k : cx_V K L (P.length + 1) cc own nL d (pc', ls, st, P ++ (.inr (ci, fs) :: Y'), ce + K2, sl + L2) b) : cx_V K L (P.length + 1) cc own nL d (pc, ls, .ref (P.length + a) :: st, P ++ (.inr (ci, fs) :: (Y ++ [.inr (ci2, fs2)])), ce, sl) b := by
  have hlen : (P ++ (.inr (ci, fs) :: Y)).length = P.length + a := ct_len2 rfl (hY.trans ha)
  have h := hT (P ++ (.inr (ci, fs) :: Y))
  rw [hlen, ct_push, ct_push, hY'] at h
  exact cx_call hd hc h hcat hd2 hle hls (ct_len (by rw [List.length_append]; exact hY)) hp k
theorem ct_iast {K L : Nat} {P : List cx_E} {cc : ByteArray} {own : String} {nL d pc pc' : Nat} {ls : List (Option Value)} {st : List Value} {ci : Nat} {fs : List Value} {Y : List cx_E} {ce sl : Nat} {b : cx_C} {n j i : Nat} {x y : Int32} {f : Nat → Int32} {g : Nat → Option Nat} {Y' : List cx_E} (hd : decode cc pc = .ok (.iastore, 1)) (hs : Y[i]? = some (.inl (0, n, f, g))) (hxj : x = nI j) (hj : j < n) (hn : n < 100000) (hY' : Y.set i (.inl (0, n, upd f j y, g)) = Y') (hp : pc + 1 = pc') (k : cx_V K L (P.length + 1) cc own nL d (pc', ls, st, P ++ (.inr (ci, fs) :: Y'), ce, sl) b) : cx_V K L (P.length + 1) cc own nL d (pc, ls, .int y :: .int x :: .ref (P.length + (i + 1)) :: st, P ++ (.inr (ci, fs) :: Y), ce, sl) b := by
  refine cx_iast hd (ct_at hs) hxj hj hn hp ?_
  rw [ct_set, hY']
  exact k
theorem ct_aast {K L : Nat} {P : List cx_E} {cc : ByteArray} {own : String} {nL d pc pc' : Nat} {ls : List (Option Value)} {st : List Value} {ci : Nat} {fs : List Value} {Y : List cx_E} {ce sl : Nat} {b : cx_C} {n j i i1 : Nat} {x : Int32} {f : Nat → Int32} {g : Nat → Option Nat} {fs1 : List Value} {Y' : List cx_E} (hd : decode cc pc = .ok (.aastore, 1)) (hs : Y[i]? = some (.inl (2, n, f, g))) (hxj : x = nI j) (hj : j < n) (hn : n < 100000) (hb1 : Y[i1]? = some (.inr (3, fs1))) (hY' : Y.set i (.inl (2, n, f, va_up g j (some (P.length + (i1 + 1))))) = Y') (hp : pc + 1 = pc') (k : cx_V K L (P.length + 1) cc own nL d (pc', ls, st, P ++ (.inr (ci, fs) :: Y'), ce, sl) b) : cx_V K L (P.length + 1) cc own nL d (pc, ls, .ref (P.length + (i1 + 1)) :: .int x :: .ref (P.length + (i + 1)) :: st, P ++ (.inr (ci, fs) :: Y), ce, sl) b := by
  refine cx_aast hd (ct_at hs) hxj hj hn (ct_at hb1) hp ?_
  rw [ct_set, hY']
  exact k
def cx_i (n : Nat) : cx_E := .inl (0, n, fun _ => 0, fun _ => none)
def cx_z (n : Nat) : cx_E := .inl (1, n, fun _ => 0, fun _ => none)
theorem cw_i : Cond.arrayClass .int ∈ mx_TW := mx_in 81 (by decide +kernel) (by decide +kernel)
theorem cw_z : Cond.arrayClass .boolean ∈ mx_TW := mx_in 113 (by decide +kernel) (by decide +kernel)
theorem cn_L_14 : cx_N RL 14 7 [.null, .null, .null, .int 0, .null, .null, .null, .null] := ⟨RX7, TX7, 8, tyX7, rfl, rfl, mx_in 34 (by decide +kernel) (by decide +kernel), mx_in 35 (by decide +kernel) (by decide +kernel), mx_in 23 (by decide +kernel) (by decide +kernel), mw_X7, tyX7_ok, fun j hj => by
  have h : j = 0 ∨ j = 1 ∨ j = 2 ∨ j = 3 ∨ j = 4 ∨ j = 5 ∨ j = 6 ∨ j = 7 := by omega
  rcases h with rfl | rfl | rfl | rfl | rfl | rfl | rfl | rfl <;> rfl, fun _ => rfl⟩
theorem cn_X7_7 : cx_N RX7 7 3 [.null, .null, .null, .null, .int 0, .int 0, .int 0, .int 0, .int 0] := ⟨RX3, TX3, 9, tyX3, rfl, rfl, mx_in 42 (by decide +kernel) (by decide +kernel), mx_in 43 (by decide +kernel) (by decide +kernel), mx_in 24 (by decide +kernel) (by decide +kernel), mw_X3, tyX3_ok, fun j hj => by
  have h : j = 0 ∨ j = 1 ∨ j = 2 ∨ j = 3 ∨ j = 4 ∨ j = 5 ∨ j = 6 ∨ j = 7 ∨ j = 8 := by omega
  rcases h with rfl | rfl | rfl | rfl | rfl | rfl | rfl | rfl | rfl <;> rfl, fun _ => rfl⟩
theorem cn_X3_9 : cx_N RX3 9 2 [.null, .null, .null, .null, .int 0] := ⟨RX2, TX2, 5, tyX2, rfl, rfl, mx_in 48 (by decide +kernel) (by decide +kernel), mx_in 49 (by decide +kernel) (by decide +kernel), mx_in 25 (by decide +kernel) (by decide +kernel), mw_X2, tyX2_ok, fun j hj => by
  have h : j = 0 ∨ j = 1 ∨ j = 2 ∨ j = 3 ∨ j = 4 := by omega
  rcases h with rfl | rfl | rfl | rfl | rfl <;> rfl, fun _ => rfl⟩
theorem cn_X3_18 : cx_N RX3 18 0 [.null, .null, .null, .null, .null, .int 0] := ⟨RX0, TX0, 6, tyX0, rfl, rfl, mx_in 82 (by decide +kernel) (by decide +kernel), mx_in 83 (by decide +kernel) (by decide +kernel), mx_in 26 (by decide +kernel) (by decide +kernel), mw_X0, tyX0_ok, fun j hj => by
  have h : j = 0 ∨ j = 1 ∨ j = 2 ∨ j = 3 ∨ j = 4 ∨ j = 5 := by omega
  rcases h with rfl | rfl | rfl | rfl | rfl | rfl <;> rfl, fun _ => rfl⟩
theorem cn_X7_26 : cx_N RX7 26 4 [.null, .int 0] := ⟨RX4, TX4, 2, tyX4, rfl, rfl, mx_in 152 (by decide +kernel) (by decide +kernel), mx_in 153 (by decide +kernel) (by decide +kernel), mx_in 27 (by decide +kernel) (by decide +kernel), mw_X4, tyX4_ok, fun j hj => by
  have h : j = 0 ∨ j = 1 := by omega
  rcases h with rfl | rfl <;> rfl, fun _ => rfl⟩
theorem cn_X4_9 : cx_N RX4 9 3 [.null, .null, .null, .null, .int 0, .int 0, .int 0, .int 0, .int 0] := ⟨RX3, TX3, 9, tyX3, rfl, rfl, mx_in 158 (by decide +kernel) (by decide +kernel), mx_in 43 (by decide +kernel) (by decide +kernel), mx_in 24 (by decide +kernel) (by decide +kernel), mw_X3, tyX3_ok, fun j hj => by
  have h : j = 0 ∨ j = 1 ∨ j = 2 ∨ j = 3 ∨ j = 4 ∨ j = 5 ∨ j = 6 ∨ j = 7 ∨ j = 8 := by omega
  rcases h with rfl | rfl | rfl | rfl | rfl | rfl | rfl | rfl | rfl <;> rfl, fun _ => rfl⟩
theorem cn_X7_33 : cx_N RX7 33 6 [.null, .int 0] := ⟨RX6, TX6, 2, tyX6, rfl, rfl, mx_in 169 (by decide +kernel) (by decide +kernel), mx_in 170 (by decide +kernel) (by decide +kernel), mx_in 28 (by decide +kernel) (by decide +kernel), mw_X6, tyX6_ok, fun j hj => by
  have h : j = 0 ∨ j = 1 := by omega
  rcases h with rfl | rfl <;> rfl, fun _ => rfl⟩
theorem cn_X7_40 : cx_N RX7 40 1 [.null, .int 0, .int 0, .int 0] := ⟨RX1, TX1, 4, tyX1, rfl, rfl, mx_in 186 (by decide +kernel) (by decide +kernel), mx_in 187 (by decide +kernel) (by decide +kernel), mx_in 29 (by decide +kernel) (by decide +kernel), mw_X1, tyX1_ok, fun j hj => by
  have h : j = 0 ∨ j = 1 ∨ j = 2 ∨ j = 3 := by omega
  rcases h with rfl | rfl | rfl | rfl <;> rfl, fun _ => rfl⟩
theorem cn_X1_9 : cx_N RX1 9 2 [.null, .null, .null, .null, .int 0] := ⟨RX2, TX2, 5, tyX2, rfl, rfl, mx_in 192 (by decide +kernel) (by decide +kernel), mx_in 49 (by decide +kernel) (by decide +kernel), mx_in 25 (by decide +kernel) (by decide +kernel), mw_X2, tyX2_ok, fun j hj => by
  have h : j = 0 ∨ j = 1 ∨ j = 2 ∨ j = 3 ∨ j = 4 := by omega
  rcases h with rfl | rfl | rfl | rfl | rfl <;> rfl, fun _ => rfl⟩
theorem cn_X7_47 : cx_N RX7 47 5 [.null, .null] := ⟨RX5, TX5, 2, tyX5, rfl, rfl, mx_in 208 (by decide +kernel) (by decide +kernel), mx_in 209 (by decide +kernel) (by decide +kernel), mx_in 30 (by decide +kernel) (by decide +kernel), mw_X5, tyX5_ok, fun j hj => by
  have h : j = 0 ∨ j = 1 := by omega
  rcases h with rfl | rfl <;> rfl, fun _ => rfl⟩
theorem my_X7_init : mx_y yX7_init cX7_init 1 none 0 := ⟨mx_in 38 (by decide +kernel) (by decide +kernel), mx_in 23 (by decide +kernel) (by decide +kernel), by decide +kernel, by decide⟩
theorem ci_L_117 : cx_cI RL 117 yX7_init cX7_init 1 := ⟨Or.inl (mx_in 36 (by decide +kernel) (by decide +kernel)), my_X7_init, mx_in 37 (by decide +kernel) (by decide +kernel), rfl⟩
theorem my_X3_init : mx_y yX3_init cX3_init 1 none 0 := ⟨mx_in 46 (by decide +kernel) (by decide +kernel), mx_in 24 (by decide +kernel) (by decide +kernel), by decide +kernel, by decide⟩
theorem ci_X7_9 : cx_cI RX7 9 yX3_init cX3_init 1 := ⟨Or.inl (mx_in 44 (by decide +kernel) (by decide +kernel)), my_X3_init, mx_in 45 (by decide +kernel) (by decide +kernel), rfl⟩
theorem my_X2_init : mx_y yX2_init cX2_init 1 none 0 := ⟨mx_in 52 (by decide +kernel) (by decide +kernel), mx_in 25 (by decide +kernel) (by decide +kernel), by decide +kernel, by decide⟩
theorem ci_X3_11 : cx_cI RX3 11 yX2_init cX2_init 1 := ⟨Or.inr ⟨RX7, List.mem_filter.mpr ⟨List.mem_of_getElem? (i := 28) (by decide +kernel), rfl⟩⟩, my_X2_init, mx_in 51 (by decide +kernel) (by decide +kernel), rfl⟩
theorem my_X0_init : mx_y yX0_init cX0_init 1 none 0 := ⟨mx_in 86 (by decide +kernel) (by decide +kernel), mx_in 26 (by decide +kernel) (by decide +kernel), by decide +kernel, by decide⟩
theorem ci_X3_20 : cx_cI RX3 20 yX0_init cX0_init 1 := ⟨Or.inr ⟨RX7, List.mem_filter.mpr ⟨List.mem_of_getElem? (i := 62) (by decide +kernel), rfl⟩⟩, my_X0_init, mx_in 85 (by decide +kernel) (by decide +kernel), rfl⟩
theorem my_X4_init : mx_y yX4_init cX4_init 2 none 0 := ⟨mx_in 156 (by decide +kernel) (by decide +kernel), mx_in 27 (by decide +kernel) (by decide +kernel), by decide +kernel, by decide⟩
theorem ci_X7_28 : cx_cI RX7 28 yX4_init cX4_init 2 := ⟨Or.inl (mx_in 154 (by decide +kernel) (by decide +kernel)), my_X4_init, mx_in 155 (by decide +kernel) (by decide +kernel), rfl⟩
theorem ci_X4_21 : cx_cI RX4 21 yX3_init cX3_init 1 := ⟨Or.inl (mx_in 160 (by decide +kernel) (by decide +kernel)), my_X3_init, mx_in 45 (by decide +kernel) (by decide +kernel), rfl⟩
theorem my_X6_init : mx_y yX6_init cX6_init 1 none 0 := ⟨mx_in 173 (by decide +kernel) (by decide +kernel), mx_in 28 (by decide +kernel) (by decide +kernel), by decide +kernel, by decide⟩
theorem ci_X7_35 : cx_cI RX7 35 yX6_init cX6_init 1 := ⟨Or.inr ⟨RX7, List.mem_filter.mpr ⟨List.mem_of_getElem? (i := 149) (by decide +kernel), rfl⟩⟩, my_X6_init, mx_in 172 (by decide +kernel) (by decide +kernel), rfl⟩
theorem my_X1_init : mx_y yX1_init cX1_init 1 none 0 := ⟨mx_in 190 (by decide +kernel) (by decide +kernel), mx_in 29 (by decide +kernel) (by decide +kernel), by decide +kernel, by decide⟩
theorem ci_X7_42 : cx_cI RX7 42 yX1_init cX1_init 1 := ⟨Or.inr ⟨RX7, List.mem_filter.mpr ⟨List.mem_of_getElem? (i := 166) (by decide +kernel), rfl⟩⟩, my_X1_init, mx_in 189 (by decide +kernel) (by decide +kernel), rfl⟩
theorem ci_X1_11 : cx_cI RX1 11 yX2_init cX2_init 1 := ⟨Or.inr ⟨RX7, List.mem_filter.mpr ⟨List.mem_of_getElem? (i := 171) (by decide +kernel), rfl⟩⟩, my_X2_init, mx_in 51 (by decide +kernel) (by decide +kernel), rfl⟩
theorem my_X5_init : mx_y yX5_init cX5_init 1 none 0 := ⟨mx_in 212 (by decide +kernel) (by decide +kernel), mx_in 30 (by decide +kernel) (by decide +kernel), by decide +kernel, by decide⟩
theorem ci_X7_49 : cx_cI RX7 49 yX5_init cX5_init 1 := ⟨Or.inr ⟨RX7, List.mem_filter.mpr ⟨List.mem_of_getElem? (i := 188) (by decide +kernel), rfl⟩⟩, my_X5_init, mx_in 211 (by decide +kernel) (by decide +kernel), rfl⟩
def eEm (a : Nat) : List cx_E := .inr (2, [.ref (a + 1), .ref (a + 2), .ref (a + 3), .ref (a + 4), .int (nI 0)]) :: ([cx_i 4, cx_i 4, cx_i 4, cx_i 4])
set_option maxRecDepth 100000 in
set_option maxHeartbeats 4000000 in
theorem c_X2_init (P : List cx_E) : cx_T yX2_init cX2_init 1 1 P.length (P ++ [.inr (2, [.null, .null, .null, .null, .int 0])]) (P ++ eEm P.length) 4 16 := by
  refine cx_T.of (pcE := 37) (lsE := [some (.ref P.length)]) (by decide) rfl (by decide) dX2_init_37 ?_
  rw [show (P ++ [.inr (2, [.null, .null, .null, .null, .int 0])] : List cx_E).length = P.length + 1 by rw [List.length_append]; rfl]
  refine cx_aload_n (pc' := 1) dX2_init_0 rfl rfl ?_
  refine cx_obj (pc' := 4) (st := []) dX2_init_1 (mx_in 53 (by decide +kernel) (by decide +kernel)) (by decide) rfl ?_
  refine cx_aload_n (pc' := 5) dX2_init_4 rfl rfl ?_
  refine cx_iconst (pc' := 6) (v := nI 4) dX2_init_5 (by decide) rfl ?_
  refine ct_newi (pc' := 8) (N := 4) (a := 1) (Y' := [cx_i 4]) dX2_init_6 cw_i rfl (by decide) (by decide) (by decide) rfl rfl rfl rfl ?_
  refine ct_putF (pc' := 11) (fs' := [.ref (P.length + 1), .null, .null, .null, .int 0]) dX2_init_8 fl_X2_9 (Nat.le_of_ble_eq_true rfl) rfl (fun _ => ⟨rfl, rfl⟩) (fun C T N h => by cases h; rfl) rfl ?_
  refine cx_aload_n (pc' := 12) dX2_init_11 rfl rfl ?_
  refine cx_iconst (pc' := 13) (v := nI 4) dX2_init_12 (by decide) rfl ?_
  refine ct_newi (pc' := 15) (N := 4) (a := 2) (Y' := [cx_i 4, cx_i 4]) dX2_init_13 cw_i rfl (by decide) (by decide) (by decide) rfl rfl rfl rfl ?_
  refine ct_putF (pc' := 18) (fs' := [.ref (P.length + 1), .ref (P.length + 2), .null, .null, .int 0]) dX2_init_15 fl_X2_15 (Nat.le_of_ble_eq_true rfl) rfl (fun _ => ⟨rfl, rfl⟩) (fun C T N h => by cases h; rfl) rfl ?_
  refine cx_aload_n (pc' := 19) dX2_init_18 rfl rfl ?_
  refine cx_iconst (pc' := 20) (v := nI 4) dX2_init_19 (by decide) rfl ?_
  refine ct_newi (pc' := 22) (N := 4) (a := 3) (Y' := [cx_i 4, cx_i 4, cx_i 4]) dX2_init_20 cw_i rfl (by decide) (by decide) (by decide) rfl rfl rfl rfl ?_
  refine ct_putF (pc' := 25) (fs' := [.ref (P.length + 1), .ref (P.length + 2), .ref (P.length + 3), .null, .int 0]) dX2_init_22 fl_X2_18 (Nat.le_of_ble_eq_true rfl) rfl (fun _ => ⟨rfl, rfl⟩) (fun C T N h => by cases h; rfl) rfl ?_
  refine cx_aload_n (pc' := 26) dX2_init_25 rfl rfl ?_
  refine cx_iconst (pc' := 27) (v := nI 4) dX2_init_26 (by decide) rfl ?_
  refine ct_newi (pc' := 29) (N := 4) (a := 4) (Y' := [cx_i 4, cx_i 4, cx_i 4, cx_i 4]) dX2_init_27 cw_i rfl (by decide) (by decide) (by decide) rfl rfl rfl rfl ?_
  refine ct_putF (pc' := 32) (fs' := [.ref (P.length + 1), .ref (P.length + 2), .ref (P.length + 3), .ref (P.length + 4), .int 0]) dX2_init_29 fl_X2_21 (Nat.le_of_ble_eq_true rfl) rfl (fun _ => ⟨rfl, rfl⟩) (fun C T N h => by cases h; rfl) rfl ?_
  refine cx_aload_n (pc' := 33) dX2_init_32 rfl rfl ?_
  refine cx_iconst (pc' := 34) (v := nI 0) dX2_init_33 (by decide) rfl ?_
  refine ct_put (pc' := 37) (fs' := [.ref (P.length + 1), .ref (P.length + 2), .ref (P.length + 3), .ref (P.length + 4), .int (nI 0)]) dX2_init_34 fl_X2_24 (Nat.le_of_ble_eq_true rfl) rfl (fun _ => ⟨rfl, rfl⟩) rfl ?_
  exact cx_end
def eBu (a : Nat) : List cx_E := .inr (0, [.ref (a + 1), .ref (a + 2), .ref (a + 3), .ref (a + 4), .ref (a + 5), .int (nI 0)]) :: ([cx_i 60, cx_i 60, cx_i 60, cx_z 60, cx_z 60])
set_option maxRecDepth 100000 in
set_option maxHeartbeats 4000000 in
theorem c_X0_init (P : List cx_E) : cx_T yX0_init cX0_init 1 1 P.length (P ++ [.inr (0, [.null, .null, .null, .null, .null, .int 0])]) (P ++ eBu P.length) 5 300 := by
  refine cx_T.of (pcE := 49) (lsE := [some (.ref P.length)]) (by decide) rfl (by decide) dX0_init_49 ?_
  rw [show (P ++ [.inr (0, [.null, .null, .null, .null, .null, .int 0])] : List cx_E).length = P.length + 1 by rw [List.length_append]; rfl]
  refine cx_aload_n (pc' := 1) dX0_init_0 rfl rfl ?_
  refine cx_obj (pc' := 4) (st := []) dX0_init_1 (mx_in 87 (by decide +kernel) (by decide +kernel)) (by decide) rfl ?_
  refine cx_aload_n (pc' := 5) dX0_init_4 rfl rfl ?_
  refine cx_bipush (pc' := 7) (v := nI 60) dX0_init_5 (by decide) rfl ?_
  refine ct_newi (pc' := 9) (N := 60) (a := 1) (Y' := [cx_i 60]) dX0_init_7 cw_i rfl (by decide) (by decide) (by decide) rfl rfl rfl rfl ?_
  refine ct_putF (pc' := 12) (fs' := [.ref (P.length + 1), .null, .null, .null, .null, .int 0]) dX0_init_9 fl_X0_9 (Nat.le_of_ble_eq_true rfl) rfl (fun _ => ⟨rfl, rfl⟩) (fun C T N h => by cases h; rfl) rfl ?_
  refine cx_aload_n (pc' := 13) dX0_init_12 rfl rfl ?_
  refine cx_bipush (pc' := 15) (v := nI 60) dX0_init_13 (by decide) rfl ?_
  refine ct_newi (pc' := 17) (N := 60) (a := 2) (Y' := [cx_i 60, cx_i 60]) dX0_init_15 cw_i rfl (by decide) (by decide) (by decide) rfl rfl rfl rfl ?_
  refine ct_putF (pc' := 20) (fs' := [.ref (P.length + 1), .ref (P.length + 2), .null, .null, .null, .int 0]) dX0_init_17 fl_X0_15 (Nat.le_of_ble_eq_true rfl) rfl (fun _ => ⟨rfl, rfl⟩) (fun C T N h => by cases h; rfl) rfl ?_
  refine cx_aload_n (pc' := 21) dX0_init_20 rfl rfl ?_
  refine cx_bipush (pc' := 23) (v := nI 60) dX0_init_21 (by decide) rfl ?_
  refine ct_newi (pc' := 25) (N := 60) (a := 3) (Y' := [cx_i 60, cx_i 60, cx_i 60]) dX0_init_23 cw_i rfl (by decide) (by decide) (by decide) rfl rfl rfl rfl ?_
  refine ct_putF (pc' := 28) (fs' := [.ref (P.length + 1), .ref (P.length + 2), .ref (P.length + 3), .null, .null, .int 0]) dX0_init_25 fl_X0_18 (Nat.le_of_ble_eq_true rfl) rfl (fun _ => ⟨rfl, rfl⟩) (fun C T N h => by cases h; rfl) rfl ?_
  refine cx_aload_n (pc' := 29) dX0_init_28 rfl rfl ?_
  refine cx_bipush (pc' := 31) (v := nI 60) dX0_init_29 (by decide) rfl ?_
  refine ct_newz (pc' := 33) (N := 60) (a := 4) (Y' := [cx_i 60, cx_i 60, cx_i 60, cx_z 60]) dX0_init_31 cw_z rfl (by decide) (by decide) (by decide) rfl rfl rfl rfl ?_
  refine ct_putF (pc' := 36) (fs' := [.ref (P.length + 1), .ref (P.length + 2), .ref (P.length + 3), .ref (P.length + 4), .null, .int 0]) dX0_init_33 fl_X0_21 (Nat.le_of_ble_eq_true rfl) rfl (fun _ => ⟨rfl, rfl⟩) (fun C T N h => by cases h; rfl) rfl ?_
  refine cx_aload_n (pc' := 37) dX0_init_36 rfl rfl ?_
  refine cx_bipush (pc' := 39) (v := nI 60) dX0_init_37 (by decide) rfl ?_
  refine ct_newz (pc' := 41) (N := 60) (a := 5) (Y' := [cx_i 60, cx_i 60, cx_i 60, cx_z 60, cx_z 60]) dX0_init_39 cw_z rfl (by decide) (by decide) (by decide) rfl rfl rfl rfl ?_
  refine ct_putF (pc' := 44) (fs' := [.ref (P.length + 1), .ref (P.length + 2), .ref (P.length + 3), .ref (P.length + 4), .ref (P.length + 5), .int 0]) dX0_init_41 fl_X0_25 (Nat.le_of_ble_eq_true rfl) rfl (fun _ => ⟨rfl, rfl⟩) (fun C T N h => by cases h; rfl) rfl ?_
  refine cx_aload_n (pc' := 45) dX0_init_44 rfl rfl ?_
  refine cx_iconst (pc' := 46) (v := nI 0) dX0_init_45 (by decide) rfl ?_
  refine ct_put (pc' := 49) (fs' := [.ref (P.length + 1), .ref (P.length + 2), .ref (P.length + 3), .ref (P.length + 4), .ref (P.length + 5), .int (nI 0)]) dX0_init_46 fl_X0_28 (Nat.le_of_ble_eq_true rfl) rfl (fun _ => ⟨rfl, rfl⟩) rfl ?_
  exact cx_end
def eFi (a : Nat) : List cx_E := .inr (3, [.ref (a + 1), .ref (a + 6), .ref (a + 12), .ref (a + 13), .int (nI 5), .int (nI 3), .int (nI 2), .int (nI 0), .int (nI 0)]) :: (eEm (a + 1) ++ (eBu (a + 6) ++ ([.inl (0, 2, upd (fun _ => 0) 1 (nI 2), fun _ => none), cx_i 8])))
set_option maxRecDepth 100000 in
set_option maxHeartbeats 4000000 in
theorem c_X3_init (P : List cx_E) : cx_T yX3_init cX3_init 1 2 P.length (P ++ [.inr (3, [.null, .null, .null, .null, .int 0, .int 0, .int 0, .int 0, .int 0])]) (P ++ eFi P.length) 13 337 := by
  refine cx_T.of (pcE := 73) (lsE := [some (.ref P.length)]) (by decide) rfl (by decide) dX3_init_73 ?_
  rw [show (P ++ [.inr (3, [.null, .null, .null, .null, .int 0, .int 0, .int 0, .int 0, .int 0])] : List cx_E).length = P.length + 1 by rw [List.length_append]; rfl]
  refine cx_aload_n (pc' := 1) dX3_init_0 rfl rfl ?_
  refine cx_obj (pc' := 4) (st := []) dX3_init_1 (mx_in 47 (by decide +kernel) (by decide +kernel)) (by decide) rfl ?_
  refine cx_aload_n (pc' := 5) dX3_init_4 rfl rfl ?_
  refine ct_new (pc' := 8) (a := 1) dX3_init_5 cn_X3_9 (by decide) (by decide) rfl rfl rfl ?_
  refine cx_dup (pc' := 9) dX3_init_8 rfl rfl ?_
  refine ct_call (pc' := 12) (ef := eEm) (Y' := eEm (P.length + 1)) dX3_init_9 ci_X3_11 c_X2_init (Nat.le_of_ble_eq_true rfl) (by decide) (by decide) (by decide) rfl rfl rfl rfl ?_
  refine ct_putF (pc' := 15) (fs' := [.ref (P.length + 1), .null, .null, .null, .int 0, .int 0, .int 0, .int 0, .int 0]) dX3_init_12 fl_X3_12 (Nat.le_of_ble_eq_true rfl) rfl (fun _ => ⟨rfl, rfl⟩) (fun C T N h => by cases h; rfl) rfl ?_
  refine cx_aload_n (pc' := 16) dX3_init_15 rfl rfl ?_
  refine ct_new (pc' := 19) (a := 6) dX3_init_16 cn_X3_18 (by decide) (by decide) rfl rfl rfl ?_
  refine cx_dup (pc' := 20) dX3_init_19 rfl rfl ?_
  refine ct_call (pc' := 23) (ef := eBu) (Y' := eEm (P.length + 1) ++ (eBu (P.length + 6))) dX3_init_20 ci_X3_20 c_X0_init (Nat.le_of_ble_eq_true rfl) (by decide) (by decide) (by decide) rfl rfl rfl rfl ?_
  refine ct_putF (pc' := 26) (fs' := [.ref (P.length + 1), .ref (P.length + 6), .null, .null, .int 0, .int 0, .int 0, .int 0, .int 0]) dX3_init_23 fl_X3_21 (Nat.le_of_ble_eq_true rfl) rfl (fun _ => ⟨rfl, rfl⟩) (fun C T N h => by cases h; rfl) rfl ?_
  refine cx_aload_n (pc' := 27) dX3_init_26 rfl rfl ?_
  refine cx_iconst (pc' := 28) (v := nI 2) dX3_init_27 (by decide) rfl ?_
  refine ct_newi (pc' := 30) (N := 2) (a := 12) (Y' := eEm (P.length + 1) ++ (eBu (P.length + 6) ++ ([cx_i 2]))) dX3_init_28 cw_i rfl (by decide) (by decide) (by decide) rfl rfl rfl rfl ?_
  refine ct_putF (pc' := 33) (fs' := [.ref (P.length + 1), .ref (P.length + 6), .ref (P.length + 12), .null, .int 0, .int 0, .int 0, .int 0, .int 0]) dX3_init_30 fl_X3_25 (Nat.le_of_ble_eq_true rfl) rfl (fun _ => ⟨rfl, rfl⟩) (fun C T N h => by cases h; rfl) rfl ?_
  refine cx_aload_n (pc' := 34) dX3_init_33 rfl rfl ?_
  refine cx_bipush (pc' := 36) (v := nI 8) dX3_init_34 (by decide) rfl ?_
  refine ct_newi (pc' := 38) (N := 8) (a := 13) (Y' := eEm (P.length + 1) ++ (eBu (P.length + 6) ++ ([cx_i 2, cx_i 8]))) dX3_init_36 cw_i rfl (by decide) (by decide) (by decide) rfl rfl rfl rfl ?_
  refine ct_putF (pc' := 41) (fs' := [.ref (P.length + 1), .ref (P.length + 6), .ref (P.length + 12), .ref (P.length + 13), .int 0, .int 0, .int 0, .int 0, .int 0]) dX3_init_38 fl_X3_29 (Nat.le_of_ble_eq_true rfl) rfl (fun _ => ⟨rfl, rfl⟩) (fun C T N h => by cases h; rfl) rfl ?_
  refine cx_aload_n (pc' := 42) dX3_init_41 rfl rfl ?_
  refine cx_iconst (pc' := 43) (v := nI 5) dX3_init_42 (by decide) rfl ?_
  refine ct_put (pc' := 46) (fs' := [.ref (P.length + 1), .ref (P.length + 6), .ref (P.length + 12), .ref (P.length + 13), .int (nI 5), .int 0, .int 0, .int 0, .int 0]) dX3_init_43 fl_X3_32 (Nat.le_of_ble_eq_true rfl) rfl (fun _ => ⟨rfl, rfl⟩) rfl ?_
  refine cx_aload_n (pc' := 47) dX3_init_46 rfl rfl ?_
  refine cx_iconst (pc' := 48) (v := nI 3) dX3_init_47 (by decide) rfl ?_
  refine ct_put (pc' := 51) (fs' := [.ref (P.length + 1), .ref (P.length + 6), .ref (P.length + 12), .ref (P.length + 13), .int (nI 5), .int (nI 3), .int 0, .int 0, .int 0]) dX3_init_48 fl_X3_36 (Nat.le_of_ble_eq_true rfl) rfl (fun _ => ⟨rfl, rfl⟩) rfl ?_
  refine cx_aload_n (pc' := 52) dX3_init_51 rfl rfl ?_
  refine cx_iconst (pc' := 53) (v := nI 2) dX3_init_52 (by decide) rfl ?_
  refine ct_put (pc' := 56) (fs' := [.ref (P.length + 1), .ref (P.length + 6), .ref (P.length + 12), .ref (P.length + 13), .int (nI 5), .int (nI 3), .int (nI 2), .int 0, .int 0]) dX3_init_53 fl_X3_39 (Nat.le_of_ble_eq_true rfl) rfl (fun _ => ⟨rfl, rfl⟩) rfl ?_
  refine cx_aload_n (pc' := 57) dX3_init_56 rfl rfl ?_
  refine cx_iconst (pc' := 58) (v := nI 0) dX3_init_57 (by decide) rfl ?_
  refine ct_put (pc' := 61) (fs' := [.ref (P.length + 1), .ref (P.length + 6), .ref (P.length + 12), .ref (P.length + 13), .int (nI 5), .int (nI 3), .int (nI 2), .int (nI 0), .int 0]) dX3_init_58 fl_X3_42 (Nat.le_of_ble_eq_true rfl) rfl (fun _ => ⟨rfl, rfl⟩) rfl ?_
  refine cx_aload_n (pc' := 62) dX3_init_61 rfl rfl ?_
  refine cx_iconst (pc' := 63) (v := nI 0) dX3_init_62 (by decide) rfl ?_
  refine ct_put (pc' := 66) (fs' := [.ref (P.length + 1), .ref (P.length + 6), .ref (P.length + 12), .ref (P.length + 13), .int (nI 5), .int (nI 3), .int (nI 2), .int (nI 0), .int (nI 0)]) dX3_init_63 fl_X3_45 (Nat.le_of_ble_eq_true rfl) rfl (fun _ => ⟨rfl, rfl⟩) rfl ?_
  refine cx_aload_n (pc' := 67) dX3_init_66 rfl rfl ?_
  refine ct_getr (pc' := 70) (b1 := P.length + 12) dX3_init_67 fl_X3_25 rfl rfl ?_
  refine cx_iconst (pc' := 71) (v := nI 1) dX3_init_70 (by decide) rfl ?_
  refine cx_iconst (pc' := 72) (v := nI 2) dX3_init_71 (by decide) rfl ?_
  refine ct_iast (pc' := 73) (i := 11) (n := 2) (j := 1) (Y' := eEm (P.length + 1) ++ (eBu (P.length + 6) ++ ([.inl (0, 2, upd (fun _ => 0) 1 (nI 2), fun _ => none), cx_i 8]))) dX3_init_72 rfl rfl (by decide) (by decide) rfl rfl ?_
  exact cx_end
def eHi (a : Nat) : List cx_E := .inr (4, [.ref (a + 1), .int (nI 0)]) :: ([.inl (2, 4, fun _ => 0, va_up (va_up (va_up (va_up (fun _ => none) 0 (some (a + 2))) 1 (some (a + 16))) 2 (some (a + 30))) 3 (some (a + 44)))] ++ (eFi (a + 2) ++ (eFi (a + 16) ++ (eFi (a + 30) ++ (eFi (a + 44))))))
set_option maxRecDepth 100000 in
set_option maxHeartbeats 4000000 in
theorem c_X4_init (P : List cx_E) : cx_T yX4_init cX4_init 2 3 P.length (P ++ [.inr (4, [.null, .int 0])]) (P ++ eHi P.length) 57 1388 := by
  refine cx_T.of (pcE := 43) (lsE := [some (.ref P.length), some (.int (nI 4))]) (by decide) rfl (by decide) dX4_init_43 ?_
  rw [show (P ++ [.inr (4, [.null, .int 0])] : List cx_E).length = P.length + 1 by rw [List.length_append]; rfl]
  refine cx_aload_n (pc' := 1) dX4_init_0 rfl rfl ?_
  refine cx_obj (pc' := 4) (st := []) dX4_init_1 (mx_in 157 (by decide +kernel) (by decide +kernel)) (by decide) rfl ?_
  refine cx_aload_n (pc' := 5) dX4_init_4 rfl rfl ?_
  refine cx_iconst (pc' := 6) (v := nI 4) dX4_init_5 (by decide) rfl ?_
  refine ct_newq (pc' := 9) (N := 4) (a := 1) (Y' := [.inl (2, 4, fun _ => 0, fun _ => none)]) dX4_init_6 (mx_in 158 (by decide +kernel) (by decide +kernel)) rfl (by decide) (by decide) (by decide) rfl rfl rfl rfl ?_
  refine ct_putF (pc' := 12) (fs' := [.ref (P.length + 1), .int 0]) dX4_init_9 fl_X4_11 (Nat.le_of_ble_eq_true rfl) rfl (fun _ => ⟨rfl, rfl⟩) (fun C T N h => by cases h; rfl) rfl ?_
  refine cx_aload_n (pc' := 13) dX4_init_12 rfl rfl ?_
  refine cx_iconst (pc' := 14) (v := nI 0) dX4_init_13 (by decide) rfl ?_
  refine ct_put (pc' := 17) (fs' := [.ref (P.length + 1), .int (nI 0)]) dX4_init_14 fl_X4_17 (Nat.le_of_ble_eq_true rfl) rfl (fun _ => ⟨rfl, rfl⟩) rfl ?_
  refine cx_iconst (pc' := 18) (v := nI 0) dX4_init_17 (by decide) rfl ?_
  refine cx_istore_n (pc' := 19) (ls' := [_, _]) dX4_init_18 (by decide) rfl rfl rfl ?_
  refine cx_iload_n (pc' := 20) dX4_init_19 rfl rfl ?_
  refine cx_iconst (pc' := 21) (v := nI 4) dX4_init_20 (by decide) rfl ?_
  refine cx_ge_f (pc' := 24) (tgt := 43) dX4_init_21 (by decide) (by decide) rfl ?_
  refine cx_aload_n (pc' := 25) dX4_init_24 rfl rfl ?_
  refine ct_getr (pc' := 28) (b1 := P.length + 1) dX4_init_25 fl_X4_11 rfl rfl ?_
  refine cx_iload_n (pc' := 29) dX4_init_28 rfl rfl ?_
  refine ct_new (pc' := 32) (a := 2) dX4_init_29 cn_X4_9 (by decide) (by decide) rfl rfl rfl ?_
  refine cx_dup (pc' := 33) dX4_init_32 rfl rfl ?_
  refine ct_call (pc' := 36) (ef := eFi) (Y' := [.inl (2, 4, fun _ => 0, fun _ => none)] ++ (eFi (P.length + 2))) dX4_init_33 ci_X4_21 c_X3_init (Nat.le_of_ble_eq_true rfl) (by decide) (by decide) (by decide) rfl rfl rfl rfl ?_
  refine ct_aast (pc' := 37) (i := 0) (i1 := 1) (n := 4) (j := 0) (Y' := [.inl (2, 4, fun _ => 0, va_up (fun _ => none) 0 (some (P.length + 2)))] ++ (eFi (P.length + 2))) dX4_init_36 rfl rfl (by decide) (by decide) rfl rfl rfl ?_
  refine cx_iinc (pc' := 40) (ls' := [_, _]) (v := nI 1) dX4_init_37 rfl (by decide) (by decide) rfl rfl rfl ?_
  refine cx_goto (pc' := 19) dX4_init_40 (by decide) ?_
  refine cx_iload_n (pc' := 20) dX4_init_19 rfl rfl ?_
  refine cx_iconst (pc' := 21) (v := nI 4) dX4_init_20 (by decide) rfl ?_
  refine cx_ge_f (pc' := 24) (tgt := 43) dX4_init_21 (by decide) (by decide) rfl ?_
  refine cx_aload_n (pc' := 25) dX4_init_24 rfl rfl ?_
  refine ct_getr (pc' := 28) (b1 := P.length + 1) dX4_init_25 fl_X4_11 rfl rfl ?_
  refine cx_iload_n (pc' := 29) dX4_init_28 rfl rfl ?_
  refine ct_new (pc' := 32) (a := 16) dX4_init_29 cn_X4_9 (by decide) (by decide) rfl rfl rfl ?_
  refine cx_dup (pc' := 33) dX4_init_32 rfl rfl ?_
  refine ct_call (pc' := 36) (ef := eFi) (Y' := [.inl (2, 4, fun _ => 0, va_up (fun _ => none) 0 (some (P.length + 2)))] ++ (eFi (P.length + 2) ++ (eFi (P.length + 16)))) dX4_init_33 ci_X4_21 c_X3_init (Nat.le_of_ble_eq_true rfl) (by decide) (by decide) (by decide) rfl rfl rfl rfl ?_
  refine ct_aast (pc' := 37) (i := 0) (i1 := 15) (n := 4) (j := 1) (Y' := [.inl (2, 4, fun _ => 0, va_up (va_up (fun _ => none) 0 (some (P.length + 2))) 1 (some (P.length + 16)))] ++ (eFi (P.length + 2) ++ (eFi (P.length + 16)))) dX4_init_36 rfl rfl (by decide) (by decide) rfl rfl rfl ?_
  refine cx_iinc (pc' := 40) (ls' := [_, _]) (v := nI 2) dX4_init_37 rfl (by decide) (by decide) rfl rfl rfl ?_
  refine cx_goto (pc' := 19) dX4_init_40 (by decide) ?_
  refine cx_iload_n (pc' := 20) dX4_init_19 rfl rfl ?_
  refine cx_iconst (pc' := 21) (v := nI 4) dX4_init_20 (by decide) rfl ?_
  refine cx_ge_f (pc' := 24) (tgt := 43) dX4_init_21 (by decide) (by decide) rfl ?_
  refine cx_aload_n (pc' := 25) dX4_init_24 rfl rfl ?_
  refine ct_getr (pc' := 28) (b1 := P.length + 1) dX4_init_25 fl_X4_11 rfl rfl ?_
  refine cx_iload_n (pc' := 29) dX4_init_28 rfl rfl ?_
  refine ct_new (pc' := 32) (a := 30) dX4_init_29 cn_X4_9 (by decide) (by decide) rfl rfl rfl ?_
  refine cx_dup (pc' := 33) dX4_init_32 rfl rfl ?_
  refine ct_call (pc' := 36) (ef := eFi) (Y' := [.inl (2, 4, fun _ => 0, va_up (va_up (fun _ => none) 0 (some (P.length + 2))) 1 (some (P.length + 16)))] ++ (eFi (P.length + 2) ++ (eFi (P.length + 16) ++ (eFi (P.length + 30))))) dX4_init_33 ci_X4_21 c_X3_init (Nat.le_of_ble_eq_true rfl) (by decide) (by decide) (by decide) rfl rfl rfl rfl ?_
  refine ct_aast (pc' := 37) (i := 0) (i1 := 29) (n := 4) (j := 2) (Y' := [.inl (2, 4, fun _ => 0, va_up (va_up (va_up (fun _ => none) 0 (some (P.length + 2))) 1 (some (P.length + 16))) 2 (some (P.length + 30)))] ++ (eFi (P.length + 2) ++ (eFi (P.length + 16) ++ (eFi (P.length + 30))))) dX4_init_36 rfl rfl (by decide) (by decide) rfl rfl rfl ?_
  refine cx_iinc (pc' := 40) (ls' := [_, _]) (v := nI 3) dX4_init_37 rfl (by decide) (by decide) rfl rfl rfl ?_
  refine cx_goto (pc' := 19) dX4_init_40 (by decide) ?_
  refine cx_iload_n (pc' := 20) dX4_init_19 rfl rfl ?_
  refine cx_iconst (pc' := 21) (v := nI 4) dX4_init_20 (by decide) rfl ?_
  refine cx_ge_f (pc' := 24) (tgt := 43) dX4_init_21 (by decide) (by decide) rfl ?_
  refine cx_aload_n (pc' := 25) dX4_init_24 rfl rfl ?_
  refine ct_getr (pc' := 28) (b1 := P.length + 1) dX4_init_25 fl_X4_11 rfl rfl ?_
  refine cx_iload_n (pc' := 29) dX4_init_28 rfl rfl ?_
  refine ct_new (pc' := 32) (a := 44) dX4_init_29 cn_X4_9 (by decide) (by decide) rfl rfl rfl ?_
  refine cx_dup (pc' := 33) dX4_init_32 rfl rfl ?_
  refine ct_call (pc' := 36) (ef := eFi) (Y' := [.inl (2, 4, fun _ => 0, va_up (va_up (va_up (fun _ => none) 0 (some (P.length + 2))) 1 (some (P.length + 16))) 2 (some (P.length + 30)))] ++ (eFi (P.length + 2) ++ (eFi (P.length + 16) ++ (eFi (P.length + 30) ++ (eFi (P.length + 44)))))) dX4_init_33 ci_X4_21 c_X3_init (Nat.le_of_ble_eq_true rfl) (by decide) (by decide) (by decide) rfl rfl rfl rfl ?_
  refine ct_aast (pc' := 37) (i := 0) (i1 := 43) (n := 4) (j := 3) (Y' := [.inl (2, 4, fun _ => 0, va_up (va_up (va_up (va_up (fun _ => none) 0 (some (P.length + 2))) 1 (some (P.length + 16))) 2 (some (P.length + 30))) 3 (some (P.length + 44)))] ++ (eFi (P.length + 2) ++ (eFi (P.length + 16) ++ (eFi (P.length + 30) ++ (eFi (P.length + 44)))))) dX4_init_36 rfl rfl (by decide) (by decide) rfl rfl rfl ?_
  refine cx_iinc (pc' := 40) (ls' := [_, _]) (v := nI 4) dX4_init_37 rfl (by decide) (by decide) rfl rfl rfl ?_
  refine cx_goto (pc' := 19) dX4_init_40 (by decide) ?_
  refine cx_iload_n (pc' := 20) dX4_init_19 rfl rfl ?_
  refine cx_iconst (pc' := 21) (v := nI 4) dX4_init_20 (by decide) rfl ?_
  refine cx_ge_t (pc' := 43) dX4_init_21 (by decide) (by decide) ?_
  exact cx_end
def ePa (a : Nat) : List cx_E := .inr (6, [.ref (a + 1), .int (nI 0)]) :: ([cx_i 60])
set_option maxRecDepth 100000 in
set_option maxHeartbeats 4000000 in
theorem c_X6_init (P : List cx_E) : cx_T yX6_init cX6_init 1 1 P.length (P ++ [.inr (6, [.null, .int 0])]) (P ++ ePa P.length) 1 60 := by
  refine cx_T.of (pcE := 17) (lsE := [some (.ref P.length)]) (by decide) rfl (by decide) dX6_init_17 ?_
  rw [show (P ++ [.inr (6, [.null, .int 0])] : List cx_E).length = P.length + 1 by rw [List.length_append]; rfl]
  refine cx_aload_n (pc' := 1) dX6_init_0 rfl rfl ?_
  refine cx_obj (pc' := 4) (st := []) dX6_init_1 (mx_in 174 (by decide +kernel) (by decide +kernel)) (by decide) rfl ?_
  refine cx_aload_n (pc' := 5) dX6_init_4 rfl rfl ?_
  refine cx_bipush (pc' := 7) (v := nI 60) dX6_init_5 (by decide) rfl ?_
  refine ct_newi (pc' := 9) (N := 60) (a := 1) (Y' := [cx_i 60]) dX6_init_7 cw_i rfl (by decide) (by decide) (by decide) rfl rfl rfl rfl ?_
  refine ct_putF (pc' := 12) (fs' := [.ref (P.length + 1), .int 0]) dX6_init_9 fl_X6_9 (Nat.le_of_ble_eq_true rfl) rfl (fun _ => ⟨rfl, rfl⟩) (fun C T N h => by cases h; rfl) rfl ?_
  refine cx_aload_n (pc' := 13) dX6_init_12 rfl rfl ?_
  refine cx_iconst (pc' := 14) (v := nI 0) dX6_init_13 (by decide) rfl ?_
  refine ct_put (pc' := 17) (fs' := [.ref (P.length + 1), .int (nI 0)]) dX6_init_14 fl_X6_15 (Nat.le_of_ble_eq_true rfl) rfl (fun _ => ⟨rfl, rfl⟩) rfl ?_
  exact cx_end
def eRe (a : Nat) : List cx_E := .inr (1, [.ref (a + 1), .int (nI 0), .int (nI 0), .int (nI 0)]) :: (eEm (a + 1))
set_option maxRecDepth 100000 in
set_option maxHeartbeats 4000000 in
theorem c_X1_init (P : List cx_E) : cx_T yX1_init cX1_init 1 2 P.length (P ++ [.inr (1, [.null, .int 0, .int 0, .int 0])]) (P ++ eRe P.length) 5 21 := by
  refine cx_T.of (pcE := 30) (lsE := [some (.ref P.length)]) (by decide) rfl (by decide) dX1_init_30 ?_
  rw [show (P ++ [.inr (1, [.null, .int 0, .int 0, .int 0])] : List cx_E).length = P.length + 1 by rw [List.length_append]; rfl]
  refine cx_aload_n (pc' := 1) dX1_init_0 rfl rfl ?_
  refine cx_obj (pc' := 4) (st := []) dX1_init_1 (mx_in 191 (by decide +kernel) (by decide +kernel)) (by decide) rfl ?_
  refine cx_aload_n (pc' := 5) dX1_init_4 rfl rfl ?_
  refine ct_new (pc' := 8) (a := 1) dX1_init_5 cn_X1_9 (by decide) (by decide) rfl rfl rfl ?_
  refine cx_dup (pc' := 9) dX1_init_8 rfl rfl ?_
  refine ct_call (pc' := 12) (ef := eEm) (Y' := eEm (P.length + 1)) dX1_init_9 ci_X1_11 c_X2_init (Nat.le_of_ble_eq_true rfl) (by decide) (by decide) (by decide) rfl rfl rfl rfl ?_
  refine ct_putF (pc' := 15) (fs' := [.ref (P.length + 1), .int 0, .int 0, .int 0]) dX1_init_12 fl_X1_12 (Nat.le_of_ble_eq_true rfl) rfl (fun _ => ⟨rfl, rfl⟩) (fun C T N h => by cases h; rfl) rfl ?_
  refine cx_aload_n (pc' := 16) dX1_init_15 rfl rfl ?_
  refine cx_iconst (pc' := 17) (v := nI 0) dX1_init_16 (by decide) rfl ?_
  refine ct_put (pc' := 20) (fs' := [.ref (P.length + 1), .int (nI 0), .int 0, .int 0]) dX1_init_17 fl_X1_18 (Nat.le_of_ble_eq_true rfl) rfl (fun _ => ⟨rfl, rfl⟩) rfl ?_
  refine cx_aload_n (pc' := 21) dX1_init_20 rfl rfl ?_
  refine cx_iconst (pc' := 22) (v := nI 0) dX1_init_21 (by decide) rfl ?_
  refine ct_put (pc' := 25) (fs' := [.ref (P.length + 1), .int (nI 0), .int (nI 0), .int 0]) dX1_init_22 fl_X1_22 (Nat.le_of_ble_eq_true rfl) rfl (fun _ => ⟨rfl, rfl⟩) rfl ?_
  refine cx_aload_n (pc' := 26) dX1_init_25 rfl rfl ?_
  refine cx_iconst (pc' := 27) (v := nI 0) dX1_init_26 (by decide) rfl ?_
  refine ct_put (pc' := 30) (fs' := [.ref (P.length + 1), .int (nI 0), .int (nI 0), .int (nI 0)]) dX1_init_27 fl_X1_25 (Nat.le_of_ble_eq_true rfl) rfl (fun _ => ⟨rfl, rfl⟩) rfl ?_
  exact cx_end
def eLa (a : Nat) : List cx_E := .inr (5, [.ref (a + 1), .ref (a + 2)]) :: ([cx_i 31] ++ ((.inl (3, 31, fun _ => 0, fun j => some (a + 2 + 1 + j)) :: List.replicate 31 (cx_i 10))))
set_option maxRecDepth 100000 in
set_option maxHeartbeats 4000000 in
theorem c_X5_init (P : List cx_E) : cx_T yX5_init cX5_init 1 1 P.length (P ++ [.inr (5, [.null, .null])]) (P ++ eLa P.length) 33 372 := by
  refine cx_T.of (pcE := 24) (lsE := [some (.ref P.length)]) (by decide) rfl (by decide) dX5_init_24 ?_
  rw [show (P ++ [.inr (5, [.null, .null])] : List cx_E).length = P.length + 1 by rw [List.length_append]; rfl]
  refine cx_aload_n (pc' := 1) dX5_init_0 rfl rfl ?_
  refine cx_obj (pc' := 4) (st := []) dX5_init_1 (mx_in 213 (by decide +kernel) (by decide +kernel)) (by decide) rfl ?_
  refine cx_aload_n (pc' := 5) dX5_init_4 rfl rfl ?_
  refine cx_bipush (pc' := 7) (v := nI 31) dX5_init_5 (by decide) rfl ?_
  refine ct_newi (pc' := 9) (N := 31) (a := 1) (Y' := [cx_i 31]) dX5_init_7 cw_i rfl (by decide) (by decide) (by decide) rfl rfl rfl rfl ?_
  refine ct_putF (pc' := 12) (fs' := [.ref (P.length + 1), .null]) dX5_init_9 fl_X5_9 (Nat.le_of_ble_eq_true rfl) rfl (fun _ => ⟨rfl, rfl⟩) (fun C T N h => by cases h; rfl) rfl ?_
  refine cx_aload_n (pc' := 13) dX5_init_12 rfl rfl ?_
  refine cx_bipush (pc' := 15) (v := nI 31) dX5_init_13 (by decide) rfl ?_
  refine cx_bipush (pc' := 17) (v := nI 10) dX5_init_15 (by decide) rfl ?_
  refine ct_newm (pc' := 21) (C := "[[I") (n := 31) (k1 := 10) (a := 2) (Y' := [cx_i 31] ++ ((.inl (3, 31, fun _ => 0, fun j => some (P.length + 2 + 1 + j)) :: List.replicate 31 (cx_i 10)))) dX5_init_17 (mx_in 214 (by decide +kernel) (by decide +kernel)) (by decide +kernel) rfl rfl (by decide) (by decide) (by decide) (by decide) rfl rfl rfl rfl ?_
  refine ct_putF (pc' := 24) (fs' := [.ref (P.length + 1), .ref (P.length + 2)]) dX5_init_21 fl_X5_17 (Nat.le_of_ble_eq_true rfl) rfl (fun _ => ⟨rfl, rfl⟩) (fun C T N h => by cases h; rfl) rfl ?_
  exact cx_end
def eCo (a : Nat) : List cx_E := .inr (7, [.ref (a + 1), .ref (a + 15), .ref (a + 29), .int (nI 0), .ref (a + 43), .ref (a + 101), .ref (a + 103), .ref (a + 109)]) :: (eFi (a + 1) ++ (eFi (a + 15) ++ (eFi (a + 29) ++ (eHi (a + 43) ++ (ePa (a + 101) ++ (eRe (a + 103) ++ (eLa (a + 109))))))))
set_option maxRecDepth 100000 in
set_option maxHeartbeats 4000000 in
theorem c_X7_init (P : List cx_E) : cx_T yX7_init cX7_init 1 4 P.length (P ++ [.inr (7, [.null, .null, .null, .int 0, .null, .null, .null, .null])]) (P ++ eCo P.length) 142 2889 := by
  refine cx_T.of (pcE := 86) (lsE := [some (.ref P.length)]) (by decide) rfl (by decide) dX7_init_86 ?_
  rw [show (P ++ [.inr (7, [.null, .null, .null, .int 0, .null, .null, .null, .null])] : List cx_E).length = P.length + 1 by rw [List.length_append]; rfl]
  refine cx_aload_n (pc' := 1) dX7_init_0 rfl rfl ?_
  refine cx_obj (pc' := 4) (st := []) dX7_init_1 (mx_in 39 (by decide +kernel) (by decide +kernel)) (by decide) rfl ?_
  refine cx_aload_n (pc' := 5) dX7_init_4 rfl rfl ?_
  refine ct_new (pc' := 8) (a := 1) dX7_init_5 cn_X7_7 (by decide) (by decide) rfl rfl rfl ?_
  refine cx_dup (pc' := 9) dX7_init_8 rfl rfl ?_
  refine ct_call (pc' := 12) (ef := eFi) (Y' := eFi (P.length + 1)) dX7_init_9 ci_X7_9 c_X3_init (Nat.le_of_ble_eq_true rfl) (by decide) (by decide) (by decide) rfl rfl rfl rfl ?_
  refine ct_putF (pc' := 15) (fs' := [.ref (P.length + 1), .null, .null, .int 0, .null, .null, .null, .null]) dX7_init_12 fl_X7_10 (Nat.le_of_ble_eq_true rfl) rfl (fun _ => ⟨rfl, rfl⟩) (fun C T N h => by cases h; rfl) rfl ?_
  refine cx_aload_n (pc' := 16) dX7_init_15 rfl rfl ?_
  refine ct_new (pc' := 19) (a := 15) dX7_init_16 cn_X7_7 (by decide) (by decide) rfl rfl rfl ?_
  refine cx_dup (pc' := 20) dX7_init_19 rfl rfl ?_
  refine ct_call (pc' := 23) (ef := eFi) (Y' := eFi (P.length + 1) ++ (eFi (P.length + 15))) dX7_init_20 ci_X7_9 c_X3_init (Nat.le_of_ble_eq_true rfl) (by decide) (by decide) (by decide) rfl rfl rfl rfl ?_
  refine ct_putF (pc' := 26) (fs' := [.ref (P.length + 1), .ref (P.length + 15), .null, .int 0, .null, .null, .null, .null]) dX7_init_23 fl_X7_16 (Nat.le_of_ble_eq_true rfl) rfl (fun _ => ⟨rfl, rfl⟩) (fun C T N h => by cases h; rfl) rfl ?_
  refine cx_aload_n (pc' := 27) dX7_init_26 rfl rfl ?_
  refine ct_new (pc' := 30) (a := 29) dX7_init_27 cn_X7_7 (by decide) (by decide) rfl rfl rfl ?_
  refine cx_dup (pc' := 31) dX7_init_30 rfl rfl ?_
  refine ct_call (pc' := 34) (ef := eFi) (Y' := eFi (P.length + 1) ++ (eFi (P.length + 15) ++ (eFi (P.length + 29)))) dX7_init_31 ci_X7_9 c_X3_init (Nat.le_of_ble_eq_true rfl) (by decide) (by decide) (by decide) rfl rfl rfl rfl ?_
  refine ct_putF (pc' := 37) (fs' := [.ref (P.length + 1), .ref (P.length + 15), .ref (P.length + 29), .int 0, .null, .null, .null, .null]) dX7_init_34 fl_X7_19 (Nat.le_of_ble_eq_true rfl) rfl (fun _ => ⟨rfl, rfl⟩) (fun C T N h => by cases h; rfl) rfl ?_
  refine cx_aload_n (pc' := 38) dX7_init_37 rfl rfl ?_
  refine cx_iconst (pc' := 39) (v := nI 0) dX7_init_38 (by decide) rfl ?_
  refine ct_put (pc' := 42) (fs' := [.ref (P.length + 1), .ref (P.length + 15), .ref (P.length + 29), .int (nI 0), .null, .null, .null, .null]) dX7_init_39 fl_X7_22 (Nat.le_of_ble_eq_true rfl) rfl (fun _ => ⟨rfl, rfl⟩) rfl ?_
  refine cx_aload_n (pc' := 43) dX7_init_42 rfl rfl ?_
  refine ct_new (pc' := 46) (a := 43) dX7_init_43 cn_X7_26 (by decide) (by decide) rfl rfl rfl ?_
  refine cx_dup (pc' := 47) dX7_init_46 rfl rfl ?_
  refine ct_call (pc' := 50) (ef := eHi) (Y' := eFi (P.length + 1) ++ (eFi (P.length + 15) ++ (eFi (P.length + 29) ++ (eHi (P.length + 43))))) dX7_init_47 ci_X7_28 c_X4_init (Nat.le_of_ble_eq_true rfl) (by decide) (by decide) (by decide) rfl rfl rfl rfl ?_
  refine ct_putF (pc' := 53) (fs' := [.ref (P.length + 1), .ref (P.length + 15), .ref (P.length + 29), .int (nI 0), .ref (P.length + 43), .null, .null, .null]) dX7_init_50 fl_X7_29 (Nat.le_of_ble_eq_true rfl) rfl (fun _ => ⟨rfl, rfl⟩) (fun C T N h => by cases h; rfl) rfl ?_
  refine cx_aload_n (pc' := 54) dX7_init_53 rfl rfl ?_
  refine ct_new (pc' := 57) (a := 101) dX7_init_54 cn_X7_33 (by decide) (by decide) rfl rfl rfl ?_
  refine cx_dup (pc' := 58) dX7_init_57 rfl rfl ?_
  refine ct_call (pc' := 61) (ef := ePa) (Y' := eFi (P.length + 1) ++ (eFi (P.length + 15) ++ (eFi (P.length + 29) ++ (eHi (P.length + 43) ++ (ePa (P.length + 101)))))) dX7_init_58 ci_X7_35 c_X6_init (Nat.le_of_ble_eq_true rfl) (by decide) (by decide) (by decide) rfl rfl rfl rfl ?_
  refine ct_putF (pc' := 64) (fs' := [.ref (P.length + 1), .ref (P.length + 15), .ref (P.length + 29), .int (nI 0), .ref (P.length + 43), .ref (P.length + 101), .null, .null]) dX7_init_61 fl_X7_36 (Nat.le_of_ble_eq_true rfl) rfl (fun _ => ⟨rfl, rfl⟩) (fun C T N h => by cases h; rfl) rfl ?_
  refine cx_aload_n (pc' := 65) dX7_init_64 rfl rfl ?_
  refine ct_new (pc' := 68) (a := 103) dX7_init_65 cn_X7_40 (by decide) (by decide) rfl rfl rfl ?_
  refine cx_dup (pc' := 69) dX7_init_68 rfl rfl ?_
  refine ct_call (pc' := 72) (ef := eRe) (Y' := eFi (P.length + 1) ++ (eFi (P.length + 15) ++ (eFi (P.length + 29) ++ (eHi (P.length + 43) ++ (ePa (P.length + 101) ++ (eRe (P.length + 103))))))) dX7_init_69 ci_X7_42 c_X1_init (Nat.le_of_ble_eq_true rfl) (by decide) (by decide) (by decide) rfl rfl rfl rfl ?_
  refine ct_putF (pc' := 75) (fs' := [.ref (P.length + 1), .ref (P.length + 15), .ref (P.length + 29), .int (nI 0), .ref (P.length + 43), .ref (P.length + 101), .ref (P.length + 103), .null]) dX7_init_72 fl_X7_43 (Nat.le_of_ble_eq_true rfl) rfl (fun _ => ⟨rfl, rfl⟩) (fun C T N h => by cases h; rfl) rfl ?_
  refine cx_aload_n (pc' := 76) dX7_init_75 rfl rfl ?_
  refine ct_new (pc' := 79) (a := 109) dX7_init_76 cn_X7_47 (by decide) (by decide) rfl rfl rfl ?_
  refine cx_dup (pc' := 80) dX7_init_79 rfl rfl ?_
  refine ct_call (pc' := 83) (ef := eLa) (Y' := eFi (P.length + 1) ++ (eFi (P.length + 15) ++ (eFi (P.length + 29) ++ (eHi (P.length + 43) ++ (ePa (P.length + 101) ++ (eRe (P.length + 103) ++ (eLa (P.length + 109)))))))) dX7_init_80 ci_X7_49 c_X5_init (Nat.le_of_ble_eq_true rfl) (by decide) (by decide) (by decide) rfl rfl rfl rfl ?_
  refine ct_putF (pc' := 86) (fs' := [.ref (P.length + 1), .ref (P.length + 15), .ref (P.length + 29), .int (nI 0), .ref (P.length + 43), .ref (P.length + 101), .ref (P.length + 103), .ref (P.length + 109)]) dX7_init_83 fl_X7_50 (Nat.le_of_ble_eq_true rfl) rfl (fun _ => ⟨rfl, rfl⟩) (fun C T N h => by cases h; rfl) rfl ?_
  exact cx_end
