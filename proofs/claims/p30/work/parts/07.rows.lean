theorem mx_up_eq (M : mx_M) (p i : Nat) (v : Int32) : mx_up M p i v p i = v := by simp [mx_up]
theorem mx_up_ne {M : mx_M} {p i : Nat} {v : Int32} {q : Nat} (h : q ≠ p) : mx_up M p i v q = M q := by
  funext j
  simp [mx_up, h]
/-- k words of row a over those of row b -/
def mx_cp (M : mx_M) (a b k : Nat) : mx_M := fun q j => if q = b then (if j < k then M a j else M b j) else M q j
theorem mx_cp_ne {M : mx_M} {a b k q : Nat} (h : q ≠ b) : mx_cp M a b k q = M q := by
  funext j
  simp [mx_cp, h]
theorem mx_sh_ge {p : Nat} (h : ¬ p < 143) : mx_sh p = .inl (9, 0) := by
  unfold mx_sh
  repeat (first | rw [if_neg (by omega)])
theorem mx_sh_lt {p : Nat} (h : (∃ o, mx_sh p = .inr o) ∨ ∃ k n, k < 4 ∧ mx_sh p = .inl (k, n)) : p < 143 := by
  by_cases hp : p < 143
  · exact hp
  · rw [mx_sh_ge hp] at h
    rcases h with ⟨o, h⟩ | ⟨k, n, hk, h⟩
    · cases h
    · cases h
      omega
def mx_len (s : mx_Sh) : Nat := match s with
  | .inl a => a.2
  | .inr _ => 0
theorem mx_sh_lens : ∀ p, p < 143 → mx_len (mx_sh p) ≤ 1332 := by decide +kernel
theorem mx_sh_len {p k n : Nat} (h : mx_sh p = .inl (k, n)) : n ≤ 1332 := by
  by_cases hp : p < 143
  · have := mx_sh_lens p hp
    rw [h] at this
    exact this
  · rw [mx_sh_ge hp] at h
    cases h
    omega
theorem mx_c_obj (ad : Nat → Nat) (cy : Nat → ClassId) {a ci : Nat} {t : List (Option Nat)} {f : Nat → Int32} (h : mx_sh a = .inr (ci, t)) : mx_c ad cy (mx_sh a) f = .inr (ci, t.mapIdx (mx_fv ad f)) := by rw [h]; rfl
theorem mx_c_arr (ad : Nat → Nat) (cy : Nat → ClassId) {a k n : Nat} {f : Nat → Int32} (hk : k < 2) (h : mx_sh a = .inl (k, n)) : mx_c ad cy (mx_sh a) f = .inl (cy k, n, .inl f) := by rw [h]; simp [mx_c, hk]
theorem mx_c_rarr (ad : Nat → Nat) (cy : Nat → ClassId) {a k n : Nat} {f : Nat → Int32} (hk : ¬ k < 2) (h : mx_sh a = .inl (k, n)) : mx_c ad cy (mx_sh a) f = .inl (cy k, n, .inr (.inr (.inr (.inr (fun i => some (ad (mx_rf k f i))))))) := by rw [h]; simp [mx_c, hk]
theorem mx_c_put (ad : Nat → Nat) (cy : Nat → ClassId) {a ci k : Nat} {t : List (Option Nat)} {M : mx_M} {x : Int32} (h : mx_sh a = .inr (ci, t)) (ht : t[k]? = some none) : (.inr (ci, (t.mapIdx (mx_fv ad (M a))).set k (.int x)) : va_E) = mx_c ad cy (mx_sh a) (mx_up M a k x a) := by
  rw [mx_c_obj ad cy h]
  congr 2
  apply List.ext_getElem?
  intro j
  by_cases hj : j = k
  · subst hj
    rw [List.getElem?_set_self (by rw [List.length_mapIdx]; exact (List.getElem?_eq_some_iff.mp ht).1), List.getElem?_mapIdx, ht]
    simp [mx_fv, mx_up]
  · rw [List.getElem?_set_ne (Ne.symm hj), List.getElem?_mapIdx, List.getElem?_mapIdx]
    cases t[j]? with
    | none => rfl
    | some o => cases o <;> simp [mx_fv, mx_up, hj]
theorem mx_c_ast (ad : Nat → Nat) (cy : Nat → ClassId) {a k n j : Nat} {M : mx_M} {y : Int32} (hk : k < 2) (h : mx_sh a = .inl (k, n)) : (.inl (cy k, n, .inl (upd (M a) j y)) : va_E) = mx_c ad cy (mx_sh a) (mx_up M a j y a) := by
  rw [mx_c_arr ad cy hk h]
  congr 4
  funext i
  simp [upd, mx_up]
theorem mx_c_aast (ad : Nat → Nat) (cy : Nat → ClassId) {a n j b : Nat} {M : mx_M} (h : mx_sh a = .inl (2, n)) (hb : b < 143) : (.inl (cy 2, n, .inr (.inr (.inr (.inr (va_up (fun i => some (ad (mx_rf 2 (M a) i))) j (some (ad b))))))) : va_E) = mx_c ad cy (mx_sh a) (mx_up M a j (nI b) a) := by
  rw [mx_c_rarr ad cy (by decide) h]
  congr 7
  funext i
  by_cases hi : i = j
  · subst hi
    simp [va_up, mx_rf, mx_up, nI_clamp (show b < 2 ^ 31 by omega)]
  · simp [va_up, mx_rf, mx_up, hi]
theorem mx_c_cp (ad : Nat → Nat) (cy : Nat → ClassId) {a b n k : Nat} {M : mx_M} (h : mx_sh b = .inl (0, n)) : (.inl (cy 0, n, .inl (va_cpy (M a) (M b) 0 0 k)) : va_E) = mx_c ad cy (mx_sh b) (mx_cp M a b k b) := by
  rw [mx_c_arr ad cy (by decide) h]
  congr 4
  funext i
  by_cases hi : i < k <;> simp [va_cpy, mx_cp, hi]
theorem mx_in {w : Cond} (i : Nat) (h : lw_tbl[i]? = some w) (hg : goodWord w = true) : w ∈ mx_TW := List.mem_filter.mpr ⟨List.mem_of_getElem? h, hg⟩
/-- a field: the link number idx of the class own is the field k of the class number ci -/
def mx_F (own : String) (idx ci k : Nat) (ty : FieldType) (fin : Bool) : Prop := ∃ (C : String) (T : u_T) (N : Nat) (t0 : Nat → FieldType), vwCl[ci]? = some (C, T, N) ∧ k < N ∧ Cond.fieldLink own idx (T k).1 (T k).2.1 (T k).2.2.1 ∈ mx_TW ∧ (∀ w ∈ u_ws C T N, w ∈ mx_TW) ∧ (∀ j, j < N → parseFieldDescriptor (T j).2.2.1 = some (t0 j)) ∧ (∀ a, a < N → ∀ b, b < N → a ≠ b → (T a).2.1 ≠ (T b).2.1) ∧ t0 k = ty ∧ (T k).2.2.2 = fin
section MXA
variable {p : Program} {l : Launch} {e : Env} {R : Room} {s : State} {m : MethodId} {args : Array Value} {below : List Frame} {meth : Method} {c : Code} {H : Heap} {locs : List Loc} {cells slots : Nat} {Q : State → Prop}
variable {cc : ByteArray} {pc : Nat} {ls : Array Slot} {rest : List Value} {D : va_G} {cl : List vw_C} {a : Nat} {tys : List (ClassId × FieldType)} {ws : va_W}
theorem mx_aalda (hexec : p.tables.exec = Jvm.exec) (hb : c.code = cc) (hK : va_K D cl tys s) (hP : va_P D cl ws H) (q0 t0 : Nat) {cA : ClassId} {ty : FieldType} {n : Nat} {f : Nat → Option Nat} (ha : ws[q0]? = some (a, .inl (cA, n, .inr (.inr (.inr (.inr f)))))) (ht : tys[t0]? = some (cA, .array ty)) {i : Int32} (hin : vp_in i n) (hdg : decode cc pc = .ok (.aaload, 1))
    (kk : W p l e R s m args below meth c H locs cells slots Q (F0 m (pc + 1) ls (va_rf (f i.toNatClampNeg) :: rest))) : W p l e R s m args below meth c H locs cells slots Q (F0 m pc ls (.int i :: .ref a :: rest)) := by
  have hlt : i.toNatClampNeg < n := Nat.not_le.mp fun q => hin (Or.inr q)
  exact W.aald (v := va_rf (f i.toNatClampNeg)) (ty := .array ty) hexec hb (hP q0 _ ha) ((hK.2 t0 _ ht).1 n (fun j => va_rf (f j))) rfl (fun q => by cases q) (by show ¬ (i < 0 ∨ (arrV _ _ _).slots.size ≤ _); rw [arrV_size]; exact hin) (by show (arrV _ _ _).slots[_]? = _; rw [arrV_read _ _ hlt]) rfl rfl hdg kk
end MXA
theorem mx_w_nat : Cond.native arraycopyName ∈ mx_TW := mx_in 283 (by decide +kernel) (by decide +kernel)
theorem mx_w_acs : Cond.static arraycopyName ∈ mx_TW := mx_in 282 (by decide +kernel) (by decide +kernel)
theorem mx_w_sys : Cond.initialized "java/lang/System" ∈ mx_TW := mx_in 31 (by decide +kernel) (by decide +kernel)
theorem mx_iload {cc : ByteArray} {own : String} {nL : Nat} {ret : Option FieldType} {d pc pc' : Nat} {ls : List (Option Value)} {st : List Value} {M : mx_M} {Q : Option Value → mx_M → Prop} {i : Nat} {x : Int32} (hd : decode cc pc = .ok (.iload i, 2)) (hl : ls[i]? = some (some (.int x))) (hp : pc + 2 = pc') (k : mx_V cc own nL ret d pc' ls (.int x :: st) M Q) : mx_V cc own nL ret d pc ls st M Q := by
  intro p l e R s m args below meth c D ad cy A H0 cells slots Z hx hb hml hown hts hS hR hD hE H locs lsA hP hSS hL
  subst hp
  exact lv_iload hx hb hd (hL.2.2.2 i _ hl) (k p l e R s m args below meth c D ad cy A H0 cells slots Z hx hb hml hown hts hS hR hD hE H locs lsA hP hSS hL)
theorem mx_iload_n {cc : ByteArray} {own : String} {nL : Nat} {ret : Option FieldType} {d pc pc' : Nat} {ls : List (Option Value)} {st : List Value} {M : mx_M} {Q : Option Value → mx_M → Prop} {i : Fin 4} {x : Int32} (hd : decode cc pc = .ok (.iload_n i, 1)) (hl : ls[i.val]? = some (some (.int x))) (hp : pc + 1 = pc') (k : mx_V cc own nL ret d pc' ls (.int x :: st) M Q) : mx_V cc own nL ret d pc ls st M Q := by
  intro p l e R s m args below meth c D ad cy A H0 cells slots Z hx hb hml hown hts hS hR hD hE H locs lsA hP hSS hL
  subst hp
  exact lv_iload_n hx hb hd rfl (hL.2.2.2 i.val _ hl) (k p l e R s m args below meth c D ad cy A H0 cells slots Z hx hb hml hown hts hS hR hD hE H locs lsA hP hSS hL)
theorem mx_aload {cc : ByteArray} {own : String} {nL : Nat} {ret : Option FieldType} {d pc pc' : Nat} {ls : List (Option Value)} {st : List Value} {M : mx_M} {Q : Option Value → mx_M → Prop} {i : Nat} {x : Nat} (hd : decode cc pc = .ok (.aload i, 2)) (hl : ls[i]? = some (some (.ref x))) (hp : pc + 2 = pc') (k : mx_V cc own nL ret d pc' ls (.ref x :: st) M Q) : mx_V cc own nL ret d pc ls st M Q := by
  intro p l e R s m args below meth c D ad cy A H0 cells slots Z hx hb hml hown hts hS hR hD hE H locs lsA hP hSS hL
  subst hp
  exact lv_aload hx hb hd (hL.2.2.2 i _ hl) (k p l e R s m args below meth c D ad cy A H0 cells slots Z hx hb hml hown hts hS hR hD hE H locs lsA hP hSS hL)
theorem mx_aload_n {cc : ByteArray} {own : String} {nL : Nat} {ret : Option FieldType} {d pc pc' : Nat} {ls : List (Option Value)} {st : List Value} {M : mx_M} {Q : Option Value → mx_M → Prop} {i : Fin 4} {x : Nat} (hd : decode cc pc = .ok (.aload_n i, 1)) (hl : ls[i.val]? = some (some (.ref x))) (hp : pc + 1 = pc') (k : mx_V cc own nL ret d pc' ls (.ref x :: st) M Q) : mx_V cc own nL ret d pc ls st M Q := by
  intro p l e R s m args below meth c D ad cy A H0 cells slots Z hx hb hml hown hts hS hR hD hE H locs lsA hP hSS hL
  subst hp
  exact lv_aload_n hx hb hd rfl (hL.2.2.2 i.val _ hl) (k p l e R s m args below meth c D ad cy A H0 cells slots Z hx hb hml hown hts hS hR hD hE H locs lsA hP hSS hL)
theorem mx_iconst {cc : ByteArray} {own : String} {nL : Nat} {ret : Option FieldType} {d pc pc' : Nat} {ls : List (Option Value)} {st : List Value} {M : mx_M} {Q : Option Value → mx_M → Prop} {n : Int} {v : Int32} (hd : decode cc pc = .ok (.iconst n, 1)) (hv : Int32.ofInt n = v) (hp : pc + 1 = pc') (k : mx_V cc own nL ret d pc' ls (.int v :: st) M Q) : mx_V cc own nL ret d pc ls st M Q := by
  intro p l e R s m args below meth c D ad cy A H0 cells slots Z hx hb hml hown hts hS hR hD hE H locs lsA hP hSS hL
  subst hp
  exact lv_iconst hx hb hd hv (k p l e R s m args below meth c D ad cy A H0 cells slots Z hx hb hml hown hts hS hR hD hE H locs lsA hP hSS hL)
theorem mx_bipush {cc : ByteArray} {own : String} {nL : Nat} {ret : Option FieldType} {d pc pc' : Nat} {ls : List (Option Value)} {st : List Value} {M : mx_M} {Q : Option Value → mx_M → Prop} {n : Int} {v : Int32} (hd : decode cc pc = .ok (.bipush n, 2)) (hv : (Int8.ofInt n).toInt32 = v) (hp : pc + 2 = pc') (k : mx_V cc own nL ret d pc' ls (.int v :: st) M Q) : mx_V cc own nL ret d pc ls st M Q := by
  intro p l e R s m args below meth c D ad cy A H0 cells slots Z hx hb hml hown hts hS hR hD hE H locs lsA hP hSS hL
  subst hp
  exact lv_bipush hx hb hd hv (k p l e R s m args below meth c D ad cy A H0 cells slots Z hx hb hml hown hts hS hR hD hE H locs lsA hP hSS hL)
theorem mx_sipush {cc : ByteArray} {own : String} {nL : Nat} {ret : Option FieldType} {d pc pc' : Nat} {ls : List (Option Value)} {st : List Value} {M : mx_M} {Q : Option Value → mx_M → Prop} {n : Int} {v : Int32} (hd : decode cc pc = .ok (.sipush n, 3)) (hv : (Int16.ofInt n).toInt32 = v) (hp : pc + 3 = pc') (k : mx_V cc own nL ret d pc' ls (.int v :: st) M Q) : mx_V cc own nL ret d pc ls st M Q := by
  intro p l e R s m args below meth c D ad cy A H0 cells slots Z hx hb hml hown hts hS hR hD hE H locs lsA hP hSS hL
  subst hp
  exact lv_sipush hx hb hd hv (k p l e R s m args below meth c D ad cy A H0 cells slots Z hx hb hml hown hts hS hR hD hE H locs lsA hP hSS hL)
theorem mx_istore {cc : ByteArray} {own : String} {nL : Nat} {ret : Option FieldType} {d pc pc' : Nat} {ls : List (Option Value)} {st : List Value} {M : mx_M} {Q : Option Value → mx_M → Prop} {i : Nat} {x : Int32} {ls' : List (Option Value)} (hd : decode cc pc = .ok (.istore i, 2)) (hi : i < nL) (hc : mx_c1 ls = true) (hls : ls.set i (some (.int x)) = ls') (hp : pc + 2 = pc') (k : mx_V cc own nL ret d pc' ls' st M Q) : mx_V cc own nL ret d pc ls (.int x :: st) M Q := by
  intro p l e R s m args below meth c D ad cy A H0 cells slots Z hx hb hml hown hts hS hR hD hE H locs lsA hP hSS hL
  subst hp
  subst hls
  exact lv_istore hx hb hd hL.has hi rfl (fun a' h' => k p l e R s m args below meth c D ad cy A H0 cells slots Z hx hb hml hown hts hS hR hD hE H locs a' hP hSS (hL.store hc h'))
theorem mx_istore_n {cc : ByteArray} {own : String} {nL : Nat} {ret : Option FieldType} {d pc pc' : Nat} {ls : List (Option Value)} {st : List Value} {M : mx_M} {Q : Option Value → mx_M → Prop} {i : Fin 4} {x : Int32} {ls' : List (Option Value)} (hd : decode cc pc = .ok (.istore_n i, 1)) (hi : i.val < nL) (hc : mx_c1 ls = true) (hls : ls.set i.val (some (.int x)) = ls') (hp : pc + 1 = pc') (k : mx_V cc own nL ret d pc' ls' st M Q) : mx_V cc own nL ret d pc ls (.int x :: st) M Q := by
  intro p l e R s m args below meth c D ad cy A H0 cells slots Z hx hb hml hown hts hS hR hD hE H locs lsA hP hSS hL
  subst hp
  subst hls
  exact lv_istore_n hx hb hd rfl hL.has hi rfl (fun a' h' => k p l e R s m args below meth c D ad cy A H0 cells slots Z hx hb hml hown hts hS hR hD hE H locs a' hP hSS (hL.store hc h'))
theorem mx_astore {cc : ByteArray} {own : String} {nL : Nat} {ret : Option FieldType} {d pc pc' : Nat} {ls : List (Option Value)} {st : List Value} {M : mx_M} {Q : Option Value → mx_M → Prop} {i : Nat} {x : Nat} {ls' : List (Option Value)} (hd : decode cc pc = .ok (.astore i, 2)) (hi : i < nL) (hc : mx_c1 ls = true) (hls : ls.set i (some (.ref x)) = ls') (hp : pc + 2 = pc') (k : mx_V cc own nL ret d pc' ls' st M Q) : mx_V cc own nL ret d pc ls (.ref x :: st) M Q := by
  intro p l e R s m args below meth c D ad cy A H0 cells slots Z hx hb hml hown hts hS hR hD hE H locs lsA hP hSS hL
  subst hp
  subst hls
  exact lv_astore hx hb hd hL.has hi rfl (fun a' h' => k p l e R s m args below meth c D ad cy A H0 cells slots Z hx hb hml hown hts hS hR hD hE H locs a' hP hSS (hL.store (v := .ref x) hc h'))
theorem mx_astore_n {cc : ByteArray} {own : String} {nL : Nat} {ret : Option FieldType} {d pc pc' : Nat} {ls : List (Option Value)} {st : List Value} {M : mx_M} {Q : Option Value → mx_M → Prop} {i : Fin 4} {x : Nat} {ls' : List (Option Value)} (hd : decode cc pc = .ok (.astore_n i, 1)) (hi : i.val < nL) (hc : mx_c1 ls = true) (hls : ls.set i.val (some (.ref x)) = ls') (hp : pc + 1 = pc') (k : mx_V cc own nL ret d pc' ls' st M Q) : mx_V cc own nL ret d pc ls (.ref x :: st) M Q := by
  intro p l e R s m args below meth c D ad cy A H0 cells slots Z hx hb hml hown hts hS hR hD hE H locs lsA hP hSS hL
  subst hp
  subst hls
  exact lv_astore_n hx hb hd rfl hL.has hi rfl (fun a' h' => k p l e R s m args below meth c D ad cy A H0 cells slots Z hx hb hml hown hts hS hR hD hE H locs a' hP hSS (hL.store (v := .ref x) hc h'))
theorem mx_iinc {cc : ByteArray} {own : String} {nL : Nat} {ret : Option FieldType} {d pc pc' : Nat} {ls : List (Option Value)} {st : List Value} {M : mx_M} {Q : Option Value → mx_M → Prop} {i : Nat} {n : Int} {x v : Int32} {ls' : List (Option Value)} (hd : decode cc pc = .ok (.iinc i n, 3)) (hl : ls[i]? = some (some (.int x))) (hv : x + Int32.ofInt n = v) (hi : i < nL) (hc : mx_c1 ls = true) (hls : ls.set i (some (.int v)) = ls') (hp : pc + 3 = pc') (k : mx_V cc own nL ret d pc' ls' st M Q) : mx_V cc own nL ret d pc ls st M Q := by
  intro p l e R s m args below meth c D ad cy A H0 cells slots Z hx hb hml hown hts hS hR hD hE H locs lsA hP hSS hL
  subst hp
  subst hls
  obtain ⟨j, hj⟩ := List.getElem?_of_mem (mx_as_mem (ad := ad) hl)
  exact lv_iinc (k := j) hx hb hd hL.has hj hv hi rfl (fun a' h' => k p l e R s m args below meth c D ad cy A H0 cells slots Z hx hb hml hown hts hS hR hD hE H locs a' hP hSS (hL.store hc h'))
theorem mx_iadd {cc : ByteArray} {own : String} {nL : Nat} {ret : Option FieldType} {d pc pc' : Nat} {ls : List (Option Value)} {st : List Value} {M : mx_M} {Q : Option Value → mx_M → Prop} {x y v : Int32} (hd : decode cc pc = .ok (.iadd, 1)) (hv : x + y = v) (hp : pc + 1 = pc') (k : mx_V cc own nL ret d pc' ls (.int v :: st) M Q) : mx_V cc own nL ret d pc ls (.int y :: .int x :: st) M Q := by
  intro p l e R s m args below meth c D ad cy A H0 cells slots Z hx hb hml hown hts hS hR hD hE H locs lsA hP hSS hL
  subst hp
  subst hv
  exact lv_iadd hx hb hd (k p l e R s m args below meth c D ad cy A H0 cells slots Z hx hb hml hown hts hS hR hD hE H locs lsA hP hSS hL)
theorem mx_isub {cc : ByteArray} {own : String} {nL : Nat} {ret : Option FieldType} {d pc pc' : Nat} {ls : List (Option Value)} {st : List Value} {M : mx_M} {Q : Option Value → mx_M → Prop} {x y v : Int32} (hd : decode cc pc = .ok (.isub, 1)) (hv : x - y = v) (hp : pc + 1 = pc') (k : mx_V cc own nL ret d pc' ls (.int v :: st) M Q) : mx_V cc own nL ret d pc ls (.int y :: .int x :: st) M Q := by
  intro p l e R s m args below meth c D ad cy A H0 cells slots Z hx hb hml hown hts hS hR hD hE H locs lsA hP hSS hL
  subst hp
  subst hv
  exact lv_isub hx hb hd (k p l e R s m args below meth c D ad cy A H0 cells slots Z hx hb hml hown hts hS hR hD hE H locs lsA hP hSS hL)
theorem mx_imul {cc : ByteArray} {own : String} {nL : Nat} {ret : Option FieldType} {d pc pc' : Nat} {ls : List (Option Value)} {st : List Value} {M : mx_M} {Q : Option Value → mx_M → Prop} {x y v : Int32} (hd : decode cc pc = .ok (.imul, 1)) (hv : x * y = v) (hp : pc + 1 = pc') (k : mx_V cc own nL ret d pc' ls (.int v :: st) M Q) : mx_V cc own nL ret d pc ls (.int y :: .int x :: st) M Q := by
  intro p l e R s m args below meth c D ad cy A H0 cells slots Z hx hb hml hown hts hS hR hD hE H locs lsA hP hSS hL
  subst hp
  subst hv
  exact lv_imul hx hb hd (k p l e R s m args below meth c D ad cy A H0 cells slots Z hx hb hml hown hts hS hR hD hE H locs lsA hP hSS hL)
theorem mx_iand {cc : ByteArray} {own : String} {nL : Nat} {ret : Option FieldType} {d pc pc' : Nat} {ls : List (Option Value)} {st : List Value} {M : mx_M} {Q : Option Value → mx_M → Prop} {x y v : Int32} (hd : decode cc pc = .ok (.iand, 1)) (hv : x &&& y = v) (hp : pc + 1 = pc') (k : mx_V cc own nL ret d pc' ls (.int v :: st) M Q) : mx_V cc own nL ret d pc ls (.int y :: .int x :: st) M Q := by
  intro p l e R s m args below meth c D ad cy A H0 cells slots Z hx hb hml hown hts hS hR hD hE H locs lsA hP hSS hL
  subst hp
  subst hv
  exact lv_iand hx hb hd (k p l e R s m args below meth c D ad cy A H0 cells slots Z hx hb hml hown hts hS hR hD hE H locs lsA hP hSS hL)
theorem mx_ior {cc : ByteArray} {own : String} {nL : Nat} {ret : Option FieldType} {d pc pc' : Nat} {ls : List (Option Value)} {st : List Value} {M : mx_M} {Q : Option Value → mx_M → Prop} {x y v : Int32} (hd : decode cc pc = .ok (.ior, 1)) (hv : x ||| y = v) (hp : pc + 1 = pc') (k : mx_V cc own nL ret d pc' ls (.int v :: st) M Q) : mx_V cc own nL ret d pc ls (.int y :: .int x :: st) M Q := by
  intro p l e R s m args below meth c D ad cy A H0 cells slots Z hx hb hml hown hts hS hR hD hE H locs lsA hP hSS hL
  subst hp
  subst hv
  exact lv_ior hx hb hd (k p l e R s m args below meth c D ad cy A H0 cells slots Z hx hb hml hown hts hS hR hD hE H locs lsA hP hSS hL)
theorem mx_ixor {cc : ByteArray} {own : String} {nL : Nat} {ret : Option FieldType} {d pc pc' : Nat} {ls : List (Option Value)} {st : List Value} {M : mx_M} {Q : Option Value → mx_M → Prop} {x y v : Int32} (hd : decode cc pc = .ok (.ixor, 1)) (hv : x ^^^ y = v) (hp : pc + 1 = pc') (k : mx_V cc own nL ret d pc' ls (.int v :: st) M Q) : mx_V cc own nL ret d pc ls (.int y :: .int x :: st) M Q := by
  intro p l e R s m args below meth c D ad cy A H0 cells slots Z hx hb hml hown hts hS hR hD hE H locs lsA hP hSS hL
  subst hp
  subst hv
  exact lv_ixor hx hb hd (k p l e R s m args below meth c D ad cy A H0 cells slots Z hx hb hml hown hts hS hR hD hE H locs lsA hP hSS hL)
theorem mx_ishl {cc : ByteArray} {own : String} {nL : Nat} {ret : Option FieldType} {d pc pc' : Nat} {ls : List (Option Value)} {st : List Value} {M : mx_M} {Q : Option Value → mx_M → Prop} {x y v : Int32} (hd : decode cc pc = .ok (.ishl, 1)) (hv : x <<< (y &&& 31) = v) (hp : pc + 1 = pc') (k : mx_V cc own nL ret d pc' ls (.int v :: st) M Q) : mx_V cc own nL ret d pc ls (.int y :: .int x :: st) M Q := by
  intro p l e R s m args below meth c D ad cy A H0 cells slots Z hx hb hml hown hts hS hR hD hE H locs lsA hP hSS hL
  subst hp
  subst hv
  exact lv_ishl hx hb hd (k p l e R s m args below meth c D ad cy A H0 cells slots Z hx hb hml hown hts hS hR hD hE H locs lsA hP hSS hL)
theorem mx_ishr {cc : ByteArray} {own : String} {nL : Nat} {ret : Option FieldType} {d pc pc' : Nat} {ls : List (Option Value)} {st : List Value} {M : mx_M} {Q : Option Value → mx_M → Prop} {x y v : Int32} (hd : decode cc pc = .ok (.ishr, 1)) (hv : x >>> (y &&& 31) = v) (hp : pc + 1 = pc') (k : mx_V cc own nL ret d pc' ls (.int v :: st) M Q) : mx_V cc own nL ret d pc ls (.int y :: .int x :: st) M Q := by
  intro p l e R s m args below meth c D ad cy A H0 cells slots Z hx hb hml hown hts hS hR hD hE H locs lsA hP hSS hL
  subst hp
  subst hv
  exact lv_ishr hx hb hd (k p l e R s m args below meth c D ad cy A H0 cells slots Z hx hb hml hown hts hS hR hD hE H locs lsA hP hSS hL)
theorem mx_iushr {cc : ByteArray} {own : String} {nL : Nat} {ret : Option FieldType} {d pc pc' : Nat} {ls : List (Option Value)} {st : List Value} {M : mx_M} {Q : Option Value → mx_M → Prop} {x y v : Int32} (hd : decode cc pc = .ok (.iushr, 1)) (hv : (x.toUInt32 >>> (y.toUInt32 &&& Int32.toUInt32 31)).toInt32 = v) (hp : pc + 1 = pc') (k : mx_V cc own nL ret d pc' ls (.int v :: st) M Q) : mx_V cc own nL ret d pc ls (.int y :: .int x :: st) M Q := by
  intro p l e R s m args below meth c D ad cy A H0 cells slots Z hx hb hml hown hts hS hR hD hE H locs lsA hP hSS hL
  subst hp
  exact lv_iushr hx hb hd hv (k p l e R s m args below meth c D ad cy A H0 cells slots Z hx hb hml hown hts hS hR hD hE H locs lsA hP hSS hL)
theorem mx_irem {cc : ByteArray} {own : String} {nL : Nat} {ret : Option FieldType} {d pc pc' : Nat} {ls : List (Option Value)} {st : List Value} {M : mx_M} {Q : Option Value → mx_M → Prop} {x y v : Int32} (hd : decode cc pc = .ok (.irem, 1)) (hy : ¬ y = 0) (hv : x - x / y * y = v) (hp : pc + 1 = pc') (k : mx_V cc own nL ret d pc' ls (.int v :: st) M Q) : mx_V cc own nL ret d pc ls (.int y :: .int x :: st) M Q := by
  intro p l e R s m args below meth c D ad cy A H0 cells slots Z hx hb hml hown hts hS hR hD hE H locs lsA hP hSS hL
  subst hp
  subst hv
  exact lv_irem hx hb hd hy (k p l e R s m args below meth c D ad cy A H0 cells slots Z hx hb hml hown hts hS hR hD hE H locs lsA hP hSS hL)
theorem mx_ineg {cc : ByteArray} {own : String} {nL : Nat} {ret : Option FieldType} {d pc pc' : Nat} {ls : List (Option Value)} {st : List Value} {M : mx_M} {Q : Option Value → mx_M → Prop} {x v : Int32} (hd : decode cc pc = .ok (.ineg, 1)) (hv : -x = v) (hp : pc + 1 = pc') (k : mx_V cc own nL ret d pc' ls (.int v :: st) M Q) : mx_V cc own nL ret d pc ls (.int x :: st) M Q := by
  intro p l e R s m args below meth c D ad cy A H0 cells slots Z hx hb hml hown hts hS hR hD hE H locs lsA hP hSS hL
  subst hp
  subst hv
  exact lv_ineg hx hb hd (k p l e R s m args below meth c D ad cy A H0 cells slots Z hx hb hml hown hts hS hR hD hE H locs lsA hP hSS hL)
theorem mx_i2d {cc : ByteArray} {own : String} {nL : Nat} {ret : Option FieldType} {d pc pc' : Nat} {ls : List (Option Value)} {st : List Value} {M : mx_M} {Q : Option Value → mx_M → Prop} {x : Int32} (hd : decode cc pc = .ok (.i2d, 1)) (hp : pc + 1 = pc') (k : mx_V cc own nL ret d pc' ls (.double (FP.i2d x) :: st) M Q) : mx_V cc own nL ret d pc ls (.int x :: st) M Q := by
  intro p l e R s m args below meth c D ad cy A H0 cells slots Z hx hb hml hown hts hS hR hD hE H locs lsA hP hSS hL
  subst hp
  exact lv_i2d hx hb hd (k p l e R s m args below meth c D ad cy A H0 cells slots Z hx hb hml hown hts hS hR hD hE H locs lsA hP hSS hL)
theorem mx_ddiv {cc : ByteArray} {own : String} {nL : Nat} {ret : Option FieldType} {d pc pc' : Nat} {ls : List (Option Value)} {st : List Value} {M : mx_M} {Q : Option Value → mx_M → Prop} {x y : UInt64} (hd : decode cc pc = .ok (.ddiv, 1)) (hne : vf_n64 (FP.ddiv x y)) (hp : pc + 1 = pc') (k : mx_V cc own nL ret d pc' ls (.double (FP.ddiv x y) :: st) M Q) : mx_V cc own nL ret d pc ls (.double y :: .double x :: st) M Q := by
  intro p l e R s m args below meth c D ad cy A H0 cells slots Z hx hb hml hown hts hS hR hD hE H locs lsA hP hSS hL
  subst hp
  exact lv_ddiv hx hb hd hne (k p l e R s m args below meth c D ad cy A H0 cells slots Z hx hb hml hown hts hS hR hD hE H locs lsA hP hSS hL)
theorem mx_ldc2d {cc : ByteArray} {own : String} {nL : Nat} {ret : Option FieldType} {d pc pc' : Nat} {ls : List (Option Value)} {st : List Value} {M : mx_M} {Q : Option Value → mx_M → Prop} {idx : Nat} {v : UInt64} (hd : decode cc pc = .ok (.ldc2_w idx, 3)) (hc : Cond.constantDouble own idx v ∈ mx_TW) (hp : pc + 3 = pc') (k : mx_V cc own nL ret d pc' ls (.double v :: st) M Q) : mx_V cc own nL ret d pc ls st M Q := by
  intro p l e R s m args below meth c D ad cy A H0 cells slots Z hx hb hml hown hts hS hR hD hE H locs lsA hP hSS hL
  subst hp
  exact lv_ldc2d hx hb hown (hts _ hc) hd (k p l e R s m args below meth c D ad cy A H0 cells slots Z hx hb hml hown hts hS hR hD hE H locs lsA hP hSS hL)
theorem mx_ldcw {cc : ByteArray} {own : String} {nL : Nat} {ret : Option FieldType} {d pc pc' : Nat} {ls : List (Option Value)} {st : List Value} {M : mx_M} {Q : Option Value → mx_M → Prop} {idx : Nat} {v : Int32} (hd : decode cc pc = .ok (.ldc_w idx, 3)) (hc : Cond.constant own idx v ∈ mx_TW) (hp : pc + 3 = pc') (k : mx_V cc own nL ret d pc' ls (.int v :: st) M Q) : mx_V cc own nL ret d pc ls st M Q := by
  intro p l e R s m args below meth c D ad cy A H0 cells slots Z hx hb hml hown hts hS hR hD hE H locs lsA hP hSS hL
  subst hp
  exact lv_ldcw hx hb hown (hts _ hc) hd (k p l e R s m args below meth c D ad cy A H0 cells slots Z hx hb hml hown hts hS hR hD hE H locs lsA hP hSS hL)
theorem mx_dup {cc : ByteArray} {own : String} {nL : Nat} {ret : Option FieldType} {d pc pc' : Nat} {ls : List (Option Value)} {st : List Value} {M : mx_M} {Q : Option Value → mx_M → Prop} {v : Value} (hd : decode cc pc = .ok (.dup, 1)) (hv : v.category = 1) (hp : pc + 1 = pc') (k : mx_V cc own nL ret d pc' ls (v :: v :: st) M Q) : mx_V cc own nL ret d pc ls (v :: st) M Q := by
  intro p l e R s m args below meth c D ad cy A H0 cells slots Z hx hb hml hown hts hS hR hD hE H locs lsA hP hSS hL
  subst hp
  exact lv_dup hx hb hd ((mx_r_cat ad v).trans hv) (k p l e R s m args below meth c D ad cy A H0 cells slots Z hx hb hml hown hts hS hR hD hE H locs lsA hP hSS hL)
theorem mx_dup2 {cc : ByteArray} {own : String} {nL : Nat} {ret : Option FieldType} {d pc pc' : Nat} {ls : List (Option Value)} {st : List Value} {M : mx_M} {Q : Option Value → mx_M → Prop} {v w : Value} (hd : decode cc pc = .ok (.dup2, 1)) (hv : v.category = 1) (hw : w.category = 1) (hp : pc + 1 = pc') (k : mx_V cc own nL ret d pc' ls (v :: w :: v :: w :: st) M Q) : mx_V cc own nL ret d pc ls (v :: w :: st) M Q := by
  intro p l e R s m args below meth c D ad cy A H0 cells slots Z hx hb hml hown hts hS hR hD hE H locs lsA hP hSS hL
  subst hp
  exact lv_dup2_11 hx hb hd ((mx_r_cat ad v).trans hv) ((mx_r_cat ad w).trans hw) (k p l e R s m args below meth c D ad cy A H0 cells slots Z hx hb hml hown hts hS hR hD hE H locs lsA hP hSS hL)
theorem mx_pop {cc : ByteArray} {own : String} {nL : Nat} {ret : Option FieldType} {d pc pc' : Nat} {ls : List (Option Value)} {st : List Value} {M : mx_M} {Q : Option Value → mx_M → Prop} {v : Value} (hd : decode cc pc = .ok (.pop, 1)) (hv : v.category = 1) (hp : pc + 1 = pc') (k : mx_V cc own nL ret d pc' ls st M Q) : mx_V cc own nL ret d pc ls (v :: st) M Q := by
  intro p l e R s m args below meth c D ad cy A H0 cells slots Z hx hb hml hown hts hS hR hD hE H locs lsA hP hSS hL
  subst hp
  exact lv_pop hx hb hd ((mx_r_cat ad v).trans hv) (k p l e R s m args below meth c D ad cy A H0 cells slots Z hx hb hml hown hts hS hR hD hE H locs lsA hP hSS hL)
theorem mx_if_eq {cc : ByteArray} {own : String} {nL : Nat} {ret : Option FieldType} {d pc pc' : Nat} {ls : List (Option Value)} {st : List Value} {M : mx_M} {Q : Option Value → mx_M → Prop} {x : Int32} {off : Int} {tgt : Nat} (hd : decode cc pc = .ok (.ifCond .eq off, 3)) (ht : (pc : Int) + off = (tgt : Int)) (hp : pc + 3 = pc') (kt : x = 0 → mx_V cc own nL ret d tgt ls st M Q) (kf : ¬ x = 0 → mx_V cc own nL ret d pc' ls st M Q) : mx_V cc own nL ret d pc ls (.int x :: st) M Q := by
  intro p l e R s m args below meth c D ad cy A H0 cells slots Z hx hb hml hown hts hS hR hD hE H locs lsA hP hSS hL
  subst hp
  exact lv_if_eq hx hb hd ht (fun q => kt q p l e R s m args below meth c D ad cy A H0 cells slots Z hx hb hml hown hts hS hR hD hE H locs lsA hP hSS hL) (fun q => kf q p l e R s m args below meth c D ad cy A H0 cells slots Z hx hb hml hown hts hS hR hD hE H locs lsA hP hSS hL)
theorem mx_if_ne {cc : ByteArray} {own : String} {nL : Nat} {ret : Option FieldType} {d pc pc' : Nat} {ls : List (Option Value)} {st : List Value} {M : mx_M} {Q : Option Value → mx_M → Prop} {x : Int32} {off : Int} {tgt : Nat} (hd : decode cc pc = .ok (.ifCond .ne off, 3)) (ht : (pc : Int) + off = (tgt : Int)) (hp : pc + 3 = pc') (kt : x ≠ 0 → mx_V cc own nL ret d tgt ls st M Q) (kf : x = 0 → mx_V cc own nL ret d pc' ls st M Q) : mx_V cc own nL ret d pc ls (.int x :: st) M Q := by
  intro p l e R s m args below meth c D ad cy A H0 cells slots Z hx hb hml hown hts hS hR hD hE H locs lsA hP hSS hL
  subst hp
  exact lv_if_ne hx hb hd ht (fun q => kt q p l e R s m args below meth c D ad cy A H0 cells slots Z hx hb hml hown hts hS hR hD hE H locs lsA hP hSS hL) (fun q => kf q p l e R s m args below meth c D ad cy A H0 cells slots Z hx hb hml hown hts hS hR hD hE H locs lsA hP hSS hL)
theorem mx_if_lt {cc : ByteArray} {own : String} {nL : Nat} {ret : Option FieldType} {d pc pc' : Nat} {ls : List (Option Value)} {st : List Value} {M : mx_M} {Q : Option Value → mx_M → Prop} {x : Int32} {off : Int} {tgt : Nat} (hd : decode cc pc = .ok (.ifCond .lt off, 3)) (ht : (pc : Int) + off = (tgt : Int)) (hp : pc + 3 = pc') (kt : x < 0 → mx_V cc own nL ret d tgt ls st M Q) (kf : ¬ x < 0 → mx_V cc own nL ret d pc' ls st M Q) : mx_V cc own nL ret d pc ls (.int x :: st) M Q := by
  intro p l e R s m args below meth c D ad cy A H0 cells slots Z hx hb hml hown hts hS hR hD hE H locs lsA hP hSS hL
  subst hp
  exact lv_if_lt hx hb hd ht (fun q => kt q p l e R s m args below meth c D ad cy A H0 cells slots Z hx hb hml hown hts hS hR hD hE H locs lsA hP hSS hL) (fun q => kf q p l e R s m args below meth c D ad cy A H0 cells slots Z hx hb hml hown hts hS hR hD hE H locs lsA hP hSS hL)
theorem mx_if_ge {cc : ByteArray} {own : String} {nL : Nat} {ret : Option FieldType} {d pc pc' : Nat} {ls : List (Option Value)} {st : List Value} {M : mx_M} {Q : Option Value → mx_M → Prop} {x : Int32} {off : Int} {tgt : Nat} (hd : decode cc pc = .ok (.ifCond .ge off, 3)) (ht : (pc : Int) + off = (tgt : Int)) (hp : pc + 3 = pc') (kt : 0 ≤ x → mx_V cc own nL ret d tgt ls st M Q) (kf : ¬ 0 ≤ x → mx_V cc own nL ret d pc' ls st M Q) : mx_V cc own nL ret d pc ls (.int x :: st) M Q := by
  intro p l e R s m args below meth c D ad cy A H0 cells slots Z hx hb hml hown hts hS hR hD hE H locs lsA hP hSS hL
  subst hp
  exact lv_if_ge hx hb hd ht (fun q => kt q p l e R s m args below meth c D ad cy A H0 cells slots Z hx hb hml hown hts hS hR hD hE H locs lsA hP hSS hL) (fun q => kf q p l e R s m args below meth c D ad cy A H0 cells slots Z hx hb hml hown hts hS hR hD hE H locs lsA hP hSS hL)
theorem mx_if_gt {cc : ByteArray} {own : String} {nL : Nat} {ret : Option FieldType} {d pc pc' : Nat} {ls : List (Option Value)} {st : List Value} {M : mx_M} {Q : Option Value → mx_M → Prop} {x : Int32} {off : Int} {tgt : Nat} (hd : decode cc pc = .ok (.ifCond .gt off, 3)) (ht : (pc : Int) + off = (tgt : Int)) (hp : pc + 3 = pc') (kt : 0 < x → mx_V cc own nL ret d tgt ls st M Q) (kf : ¬ 0 < x → mx_V cc own nL ret d pc' ls st M Q) : mx_V cc own nL ret d pc ls (.int x :: st) M Q := by
  intro p l e R s m args below meth c D ad cy A H0 cells slots Z hx hb hml hown hts hS hR hD hE H locs lsA hP hSS hL
  subst hp
  exact lv_if_gt hx hb hd ht (fun q => kt q p l e R s m args below meth c D ad cy A H0 cells slots Z hx hb hml hown hts hS hR hD hE H locs lsA hP hSS hL) (fun q => kf q p l e R s m args below meth c D ad cy A H0 cells slots Z hx hb hml hown hts hS hR hD hE H locs lsA hP hSS hL)
theorem mx_if_le {cc : ByteArray} {own : String} {nL : Nat} {ret : Option FieldType} {d pc pc' : Nat} {ls : List (Option Value)} {st : List Value} {M : mx_M} {Q : Option Value → mx_M → Prop} {x : Int32} {off : Int} {tgt : Nat} (hd : decode cc pc = .ok (.ifCond .le off, 3)) (ht : (pc : Int) + off = (tgt : Int)) (hp : pc + 3 = pc') (kt : x ≤ 0 → mx_V cc own nL ret d tgt ls st M Q) (kf : ¬ x ≤ 0 → mx_V cc own nL ret d pc' ls st M Q) : mx_V cc own nL ret d pc ls (.int x :: st) M Q := by
  intro p l e R s m args below meth c D ad cy A H0 cells slots Z hx hb hml hown hts hS hR hD hE H locs lsA hP hSS hL
  subst hp
  exact lv_if_le hx hb hd ht (fun q => kt q p l e R s m args below meth c D ad cy A H0 cells slots Z hx hb hml hown hts hS hR hD hE H locs lsA hP hSS hL) (fun q => kf q p l e R s m args below meth c D ad cy A H0 cells slots Z hx hb hml hown hts hS hR hD hE H locs lsA hP hSS hL)
theorem mx_icmp_eq {cc : ByteArray} {own : String} {nL : Nat} {ret : Option FieldType} {d pc pc' : Nat} {ls : List (Option Value)} {st : List Value} {M : mx_M} {Q : Option Value → mx_M → Prop} {x y : Int32} {off : Int} {tgt : Nat} (hd : decode cc pc = .ok (.if_icmp .eq off, 3)) (ht : (pc : Int) + off = (tgt : Int)) (hp : pc + 3 = pc') (kt : x = y → mx_V cc own nL ret d tgt ls st M Q) (kf : ¬ x = y → mx_V cc own nL ret d pc' ls st M Q) : mx_V cc own nL ret d pc ls (.int y :: .int x :: st) M Q := by
  intro p l e R s m args below meth c D ad cy A H0 cells slots Z hx hb hml hown hts hS hR hD hE H locs lsA hP hSS hL
  subst hp
  exact lv_icmp_eq hx hb hd ht (fun q => kt q p l e R s m args below meth c D ad cy A H0 cells slots Z hx hb hml hown hts hS hR hD hE H locs lsA hP hSS hL) (fun q => kf q p l e R s m args below meth c D ad cy A H0 cells slots Z hx hb hml hown hts hS hR hD hE H locs lsA hP hSS hL)
theorem mx_icmp_ne {cc : ByteArray} {own : String} {nL : Nat} {ret : Option FieldType} {d pc pc' : Nat} {ls : List (Option Value)} {st : List Value} {M : mx_M} {Q : Option Value → mx_M → Prop} {x y : Int32} {off : Int} {tgt : Nat} (hd : decode cc pc = .ok (.if_icmp .ne off, 3)) (ht : (pc : Int) + off = (tgt : Int)) (hp : pc + 3 = pc') (kt : x ≠ y → mx_V cc own nL ret d tgt ls st M Q) (kf : x = y → mx_V cc own nL ret d pc' ls st M Q) : mx_V cc own nL ret d pc ls (.int y :: .int x :: st) M Q := by
  intro p l e R s m args below meth c D ad cy A H0 cells slots Z hx hb hml hown hts hS hR hD hE H locs lsA hP hSS hL
  subst hp
  exact lv_icmp_ne hx hb hd ht (fun q => kt q p l e R s m args below meth c D ad cy A H0 cells slots Z hx hb hml hown hts hS hR hD hE H locs lsA hP hSS hL) (fun q => kf q p l e R s m args below meth c D ad cy A H0 cells slots Z hx hb hml hown hts hS hR hD hE H locs lsA hP hSS hL)
theorem mx_icmp_lt {cc : ByteArray} {own : String} {nL : Nat} {ret : Option FieldType} {d pc pc' : Nat} {ls : List (Option Value)} {st : List Value} {M : mx_M} {Q : Option Value → mx_M → Prop} {x y : Int32} {off : Int} {tgt : Nat} (hd : decode cc pc = .ok (.if_icmp .lt off, 3)) (ht : (pc : Int) + off = (tgt : Int)) (hp : pc + 3 = pc') (kt : x < y → mx_V cc own nL ret d tgt ls st M Q) (kf : ¬ x < y → mx_V cc own nL ret d pc' ls st M Q) : mx_V cc own nL ret d pc ls (.int y :: .int x :: st) M Q := by
  intro p l e R s m args below meth c D ad cy A H0 cells slots Z hx hb hml hown hts hS hR hD hE H locs lsA hP hSS hL
  subst hp
  exact lv_icmp_lt hx hb hd ht (fun q => kt q p l e R s m args below meth c D ad cy A H0 cells slots Z hx hb hml hown hts hS hR hD hE H locs lsA hP hSS hL) (fun q => kf q p l e R s m args below meth c D ad cy A H0 cells slots Z hx hb hml hown hts hS hR hD hE H locs lsA hP hSS hL)
theorem mx_icmp_ge {cc : ByteArray} {own : String} {nL : Nat} {ret : Option FieldType} {d pc pc' : Nat} {ls : List (Option Value)} {st : List Value} {M : mx_M} {Q : Option Value → mx_M → Prop} {x y : Int32} {off : Int} {tgt : Nat} (hd : decode cc pc = .ok (.if_icmp .ge off, 3)) (ht : (pc : Int) + off = (tgt : Int)) (hp : pc + 3 = pc') (kt : y ≤ x → mx_V cc own nL ret d tgt ls st M Q) (kf : ¬ y ≤ x → mx_V cc own nL ret d pc' ls st M Q) : mx_V cc own nL ret d pc ls (.int y :: .int x :: st) M Q := by
  intro p l e R s m args below meth c D ad cy A H0 cells slots Z hx hb hml hown hts hS hR hD hE H locs lsA hP hSS hL
  subst hp
  exact lv_icmp_ge hx hb hd ht (fun q => kt q p l e R s m args below meth c D ad cy A H0 cells slots Z hx hb hml hown hts hS hR hD hE H locs lsA hP hSS hL) (fun q => kf q p l e R s m args below meth c D ad cy A H0 cells slots Z hx hb hml hown hts hS hR hD hE H locs lsA hP hSS hL)
theorem mx_icmp_gt {cc : ByteArray} {own : String} {nL : Nat} {ret : Option FieldType} {d pc pc' : Nat} {ls : List (Option Value)} {st : List Value} {M : mx_M} {Q : Option Value → mx_M → Prop} {x y : Int32} {off : Int} {tgt : Nat} (hd : decode cc pc = .ok (.if_icmp .gt off, 3)) (ht : (pc : Int) + off = (tgt : Int)) (hp : pc + 3 = pc') (kt : y < x → mx_V cc own nL ret d tgt ls st M Q) (kf : ¬ y < x → mx_V cc own nL ret d pc' ls st M Q) : mx_V cc own nL ret d pc ls (.int y :: .int x :: st) M Q := by
  intro p l e R s m args below meth c D ad cy A H0 cells slots Z hx hb hml hown hts hS hR hD hE H locs lsA hP hSS hL
  subst hp
  exact lv_icmp_gt hx hb hd ht (fun q => kt q p l e R s m args below meth c D ad cy A H0 cells slots Z hx hb hml hown hts hS hR hD hE H locs lsA hP hSS hL) (fun q => kf q p l e R s m args below meth c D ad cy A H0 cells slots Z hx hb hml hown hts hS hR hD hE H locs lsA hP hSS hL)
theorem mx_icmp_le {cc : ByteArray} {own : String} {nL : Nat} {ret : Option FieldType} {d pc pc' : Nat} {ls : List (Option Value)} {st : List Value} {M : mx_M} {Q : Option Value → mx_M → Prop} {x y : Int32} {off : Int} {tgt : Nat} (hd : decode cc pc = .ok (.if_icmp .le off, 3)) (ht : (pc : Int) + off = (tgt : Int)) (hp : pc + 3 = pc') (kt : x ≤ y → mx_V cc own nL ret d tgt ls st M Q) (kf : ¬ x ≤ y → mx_V cc own nL ret d pc' ls st M Q) : mx_V cc own nL ret d pc ls (.int y :: .int x :: st) M Q := by
  intro p l e R s m args below meth c D ad cy A H0 cells slots Z hx hb hml hown hts hS hR hD hE H locs lsA hP hSS hL
  subst hp
  exact lv_icmp_le hx hb hd ht (fun q => kt q p l e R s m args below meth c D ad cy A H0 cells slots Z hx hb hml hown hts hS hR hD hE H locs lsA hP hSS hL) (fun q => kf q p l e R s m args below meth c D ad cy A H0 cells slots Z hx hb hml hown hts hS hR hD hE H locs lsA hP hSS hL)
theorem mx_goto {cc : ByteArray} {own : String} {nL : Nat} {ret : Option FieldType} {d pc pc' : Nat} {ls : List (Option Value)} {st : List Value} {M : mx_M} {Q : Option Value → mx_M → Prop} {off : Int} (hd : decode cc pc = .ok (.goto off, 3)) (ht : (pc : Int) + off = (pc' : Int))  (k : mx_V cc own nL ret d pc' ls st M Q) : mx_V cc own nL ret d pc ls st M Q := by
  intro p l e R s m args below meth c D ad cy A H0 cells slots Z hx hb hml hown hts hS hR hD hE H locs lsA hP hSS hL
  exact lv_goto hx hb hd ht (k p l e R s m args below meth c D ad cy A H0 cells slots Z hx hb hml hown hts hS hR hD hE H locs lsA hP hSS hL)
theorem mx_tableIn {cc : ByteArray} {own : String} {nL : Nat} {ret : Option FieldType} {d pc pc' : Nat} {ls : List (Option Value)} {st : List Value} {M : mx_M} {Q : Option Value → mx_M → Prop} {dflt lo hi : Int} {offs : Array Int} {len : Nat} {x : Int32} {off : Int} (hd : decode cc pc = .ok (.tableswitch dflt lo hi offs, len)) (h1 : ¬ x.toInt < lo) (h2 : ¬ hi < x.toInt) (ho : offs[(x.toInt - lo).toNat]? = some off) (ht : (pc : Int) + off = (pc' : Int))  (k : mx_V cc own nL ret d pc' ls st M Q) : mx_V cc own nL ret d pc ls (.int x :: st) M Q := by
  intro p l e R s m args below meth c D ad cy A H0 cells slots Z hx hb hml hown hts hS hR hD hE H locs lsA hP hSS hL
  exact lv_tableIn hx hb hd h1 h2 ho ht (k p l e R s m args below meth c D ad cy A H0 cells slots Z hx hb hml hown hts hS hR hD hE H locs lsA hP hSS hL)
theorem mx_tableOut {cc : ByteArray} {own : String} {nL : Nat} {ret : Option FieldType} {d pc pc' : Nat} {ls : List (Option Value)} {st : List Value} {M : mx_M} {Q : Option Value → mx_M → Prop} {dflt lo hi : Int} {offs : Array Int} {len : Nat} {x : Int32} (hd : decode cc pc = .ok (.tableswitch dflt lo hi offs, len)) (h : x.toInt < lo ∨ hi < x.toInt) (ht : (pc : Int) + dflt = (pc' : Int))  (k : mx_V cc own nL ret d pc' ls st M Q) : mx_V cc own nL ret d pc ls (.int x :: st) M Q := by
  intro p l e R s m args below meth c D ad cy A H0 cells slots Z hx hb hml hown hts hS hR hD hE H locs lsA hP hSS hL
  exact lv_tableOut hx hb hd h ht (k p l e R s m args below meth c D ad cy A H0 cells slots Z hx hb hml hown hts hS hR hD hE H locs lsA hP hSS hL)
theorem mx_lookup {cc : ByteArray} {own : String} {nL : Nat} {ret : Option FieldType} {d pc pc' : Nat} {ls : List (Option Value)} {st : List Value} {M : mx_M} {Q : Option Value → mx_M → Prop} {dflt : Int} {ps : Array (Int × Int)} {len : Nat} {x : Int32} {off : Int} (hd : decode cc pc = .ok (.lookupswitch dflt ps, len)) (h : (ps.toList.zip (ps.toList.drop 1)).all (fun (a, next) => a.1 < next.1) = true) (ho : Op.lookupswitch.offset ps.toList dflt x.toInt = off) (ht : (pc : Int) + off = (pc' : Int))  (k : mx_V cc own nL ret d pc' ls st M Q) : mx_V cc own nL ret d pc ls (.int x :: st) M Q := by
  intro p l e R s m args below meth c D ad cy A H0 cells slots Z hx hb hml hown hts hS hR hD hE H locs lsA hP hSS hL
  exact lv_lookup hx hb hd h ho ht (k p l e R s m args below meth c D ad cy A H0 cells slots Z hx hb hml hown hts hS hR hD hE H locs lsA hP hSS hL)
theorem mx_getf {cc : ByteArray} {own : String} {nL : Nat} {ret : Option FieldType} {d pc pc' : Nat} {ls : List (Option Value)} {st : List Value} {M : mx_M} {Q : Option Value → mx_M → Prop} {idx ci k0 a : Nat} {ty : FieldType} {fin : Bool} {t : List (Option Nat)} {v : Int32} (hd : decode cc pc = .ok (.getfield idx, 3)) (hf : mx_F own idx ci k0 ty fin) (hs : mx_sh a = .inr (ci, t)) (ht : t[k0]? = some none) (hv : M a k0 = v) (hp : pc + 3 = pc') (k : mx_V cc own nL ret d pc' ls (.int v :: st) M Q) : mx_V cc own nL ret d pc ls (.ref a :: st) M Q := by
  intro p l e R s m args below meth c D ad cy A H0 cells slots Z hx hb hml hown hts hS hR hD hE H locs lsA hP hSS hL
  subst hp
  subst hv
  obtain ⟨C, T, N, t0, h1, h2, h3, h4, h5, h6, h7, h8⟩ := hf
  exact va_get (Ts := mx_TW) (v := .int (M a k0)) hx hb hts h4 hown hS.1 hP a ((mx_w_get ad cy M (mx_sh_lt (Or.inl ⟨_, hs⟩))).trans (congrArg (fun e => some (ad a, e)) (mx_c_obj ad cy hs))) h1 k0 h2 (hts _ h3) (fun _ h => h) (by rw [List.getElem?_mapIdx, ht]; rfl) hd (k p l e R s m args below meth c D ad cy A H0 cells slots Z hx hb hml hown hts hS hR hD hE H locs lsA hP hSS hL)
theorem mx_getr {cc : ByteArray} {own : String} {nL : Nat} {ret : Option FieldType} {d pc pc' : Nat} {ls : List (Option Value)} {st : List Value} {M : mx_M} {Q : Option Value → mx_M → Prop} {idx ci k0 a b : Nat} {ty : FieldType} {fin : Bool} {t : List (Option Nat)} (hd : decode cc pc = .ok (.getfield idx, 3)) (hf : mx_F own idx ci k0 ty fin) (hs : mx_sh a = .inr (ci, t)) (ht : t[k0]? = some (some b)) (hp : pc + 3 = pc') (k : mx_V cc own nL ret d pc' ls (.ref b :: st) M Q) : mx_V cc own nL ret d pc ls (.ref a :: st) M Q := by
  intro p l e R s m args below meth c D ad cy A H0 cells slots Z hx hb hml hown hts hS hR hD hE H locs lsA hP hSS hL
  subst hp
  obtain ⟨C, T, N, t0, h1, h2, h3, h4, h5, h6, h7, h8⟩ := hf
  exact va_get (Ts := mx_TW) (v := .ref (ad b)) hx hb hts h4 hown hS.1 hP a ((mx_w_get ad cy M (mx_sh_lt (Or.inl ⟨_, hs⟩))).trans (congrArg (fun e => some (ad a, e)) (mx_c_obj ad cy hs))) h1 k0 h2 (hts _ h3) (fun _ h => h) (by rw [List.getElem?_mapIdx, ht]; rfl) hd (k p l e R s m args below meth c D ad cy A H0 cells slots Z hx hb hml hown hts hS hR hD hE H locs lsA hP hSS hL)
theorem mx_putf {cc : ByteArray} {own : String} {nL : Nat} {ret : Option FieldType} {d pc pc' : Nat} {ls : List (Option Value)} {st : List Value} {M : mx_M} {Q : Option Value → mx_M → Prop} {idx ci k0 a : Nat} {ty : FieldType} {t : List (Option Nat)} {x : Int32} (hd : decode cc pc = .ok (.putfield idx, 3)) (hf : mx_F own idx ci k0 ty false) (hs : mx_sh a = .inr (ci, t)) (ht : t[k0]? = some none) (hn : narrow ty (.int x) = .int x ∧ fits ty (.int x) = true) (hp : pc + 3 = pc') (k : mx_V cc own nL ret d pc' ls st (mx_up M a k0 x) Q) : mx_V cc own nL ret d pc ls (.int x :: .ref a :: st) M Q := by
  intro p l e R s m args below meth c D ad cy A H0 cells slots Z hx hb hml hown hts hS hR hD hE H locs lsA hP hSS hL
  subst hp
  obtain ⟨C, T, N, t0, h1, h2, h3, h4, h5, h6, h7, h8⟩ := hf
  have ha := mx_sh_lt (Or.inl ⟨_, hs⟩)
  refine va_put (Ts := mx_TW) (v := .int x) (ty := ty) hx hb hts h4 t0 h5 h6 hown hS.1 hP (hD.va cy M) hSS a ((mx_w_get ad cy M ha).trans (congrArg (fun e => some (ad a, e)) (mx_c_obj ad cy hs))) h1 k0 h2 (hts _ h3) (fun _ h => h) h8 ((h5 k0 h2).trans (congrArg some h7)) hn.1 hn.2 (by rw [List.length_mapIdx]; exact (List.getElem?_eq_some_iff.mp ht).1) hd (fun H1 locs1 hP1 _ hS1 => ?_)
  rw [mx_w_set ad cy M (N := mx_up M a k0 x) ha (mx_c_put ad cy hs ht) (fun q hq => mx_up_ne hq)] at hP1
  exact (k p l e R s m args below meth c D ad cy A H0 cells slots Z hx hb hml hown hts hS hR hD hE H1 locs1 lsA hP1 hS1 hL)
theorem mx_iald {cc : ByteArray} {own : String} {nL : Nat} {ret : Option FieldType} {d pc pc' : Nat} {ls : List (Option Value)} {st : List Value} {M : mx_M} {Q : Option Value → mx_M → Prop} {a n j : Nat} {x v : Int32} (hd : decode cc pc = .ok (.iaload, 1)) (hs : mx_sh a = .inl (0, n)) (hxj : x = nI j) (hj : j < n) (hv : M a j = v) (hp : pc + 1 = pc') (k : mx_V cc own nL ret d pc' ls (.int v :: st) M Q) : mx_V cc own nL ret d pc ls (.int x :: .ref a :: st) M Q := by
  intro p l e R s m args below meth c D ad cy A H0 cells slots Z hx hb hml hown hts hS hR hD hE H locs lsA hP hSS hL
  subst hp
  subst hxj; subst hv
  have hl := mx_sh_len hs
  have hc : (nI j).toNatClampNeg = j := nI_clamp (by omega)
  refine va_iald hx hb hS.1 hP a 0 ((mx_w_get ad cy M (mx_sh_lt (Or.inr ⟨0, n, by decide, hs⟩))).trans (congrArg (fun e => some (ad a, e)) (mx_c_arr ad cy (by decide) hs))) rfl (vp_in_nI hj (by omega)) hd ?_
  rw [hc]
  exact (k p l e R s m args below meth c D ad cy A H0 cells slots Z hx hb hml hown hts hS hR hD hE H locs lsA hP hSS hL)
theorem mx_iast {cc : ByteArray} {own : String} {nL : Nat} {ret : Option FieldType} {d pc pc' : Nat} {ls : List (Option Value)} {st : List Value} {M : mx_M} {Q : Option Value → mx_M → Prop} {a n j : Nat} {x y : Int32} (hd : decode cc pc = .ok (.iastore, 1)) (hs : mx_sh a = .inl (0, n)) (hxj : x = nI j) (hj : j < n) (hp : pc + 1 = pc') (k : mx_V cc own nL ret d pc' ls st (mx_up M a j y) Q) : mx_V cc own nL ret d pc ls (.int y :: .int x :: .ref a :: st) M Q := by
  intro p l e R s m args below meth c D ad cy A H0 cells slots Z hx hb hml hown hts hS hR hD hE H locs lsA hP hSS hL
  subst hp
  subst hxj
  have hl := mx_sh_len hs
  have ha := mx_sh_lt (Or.inr ⟨0, n, by decide, hs⟩)
  have hc : (nI j).toNatClampNeg = j := nI_clamp (by omega)
  refine va_iast hx hb hS.1 hP (hD.va cy M) hSS a 0 ((mx_w_get ad cy M ha).trans (congrArg (fun e => some (ad a, e)) (mx_c_arr ad cy (by decide) hs))) rfl (vp_in_nI hj (by omega)) hd (fun H1 locs1 hP1 _ hS1 => ?_)
  rw [hc, mx_w_set ad cy M (N := mx_up M a j y) ha (mx_c_ast ad cy (by decide) hs) (fun q hq => mx_up_ne hq)] at hP1
  exact (k p l e R s m args below meth c D ad cy A H0 cells slots Z hx hb hml hown hts hS hR hD hE H1 locs1 lsA hP1 hS1 hL)
theorem mx_bald {cc : ByteArray} {own : String} {nL : Nat} {ret : Option FieldType} {d pc pc' : Nat} {ls : List (Option Value)} {st : List Value} {M : mx_M} {Q : Option Value → mx_M → Prop} {a n j : Nat} {x v : Int32} (hd : decode cc pc = .ok (.baload, 1)) (hs : mx_sh a = .inl (1, n)) (hxj : x = nI j) (hj : j < n) (hv : M a j = v) (hp : pc + 1 = pc') (k : mx_V cc own nL ret d pc' ls (.int v :: st) M Q) : mx_V cc own nL ret d pc ls (.int x :: .ref a :: st) M Q := by
  intro p l e R s m args below meth c D ad cy A H0 cells slots Z hx hb hml hown hts hS hR hD hE H locs lsA hP hSS hL
  subst hp
  subst hxj; subst hv
  have hl := mx_sh_len hs
  have hc : (nI j).toNatClampNeg = j := nI_clamp (by omega)
  refine va_zald hx hb hS.1 hP a 1 ((mx_w_get ad cy M (mx_sh_lt (Or.inr ⟨1, n, by decide, hs⟩))).trans (congrArg (fun e => some (ad a, e)) (mx_c_arr ad cy (by decide) hs))) rfl (vp_in_nI hj (by omega)) hd ?_
  rw [hc]
  exact (k p l e R s m args below meth c D ad cy A H0 cells slots Z hx hb hml hown hts hS hR hD hE H locs lsA hP hSS hL)
theorem mx_bast {cc : ByteArray} {own : String} {nL : Nat} {ret : Option FieldType} {d pc pc' : Nat} {ls : List (Option Value)} {st : List Value} {M : mx_M} {Q : Option Value → mx_M → Prop} {a n j : Nat} {x y : Int32} (hd : decode cc pc = .ok (.bastore, 1)) (hs : mx_sh a = .inl (1, n)) (hxj : x = nI j) (hj : j < n) (hy : vp_nar .boolean y = y) (hp : pc + 1 = pc') (k : mx_V cc own nL ret d pc' ls st (mx_up M a j y) Q) : mx_V cc own nL ret d pc ls (.int y :: .int x :: .ref a :: st) M Q := by
  intro p l e R s m args below meth c D ad cy A H0 cells slots Z hx hb hml hown hts hS hR hD hE H locs lsA hP hSS hL
  subst hp
  subst hxj
  have hl := mx_sh_len hs
  have ha := mx_sh_lt (Or.inr ⟨1, n, by decide, hs⟩)
  have hc : (nI j).toNatClampNeg = j := nI_clamp (by omega)
  refine va_zast hx hb hS.1 hP (hD.va cy M) hSS a 1 ((mx_w_get ad cy M ha).trans (congrArg (fun e => some (ad a, e)) (mx_c_arr ad cy (by decide) hs))) rfl (vp_in_nI hj (by omega)) hd (fun H1 locs1 hP1 _ hS1 => ?_)
  rw [hc, hy, mx_w_set ad cy M (N := mx_up M a j y) ha (mx_c_ast ad cy (by decide) hs) (fun q hq => mx_up_ne hq)] at hP1
  exact (k p l e R s m args below meth c D ad cy A H0 cells slots Z hx hb hml hown hts hS hR hD hE H1 locs1 lsA hP1 hS1 hL)
theorem mx_aald2 {cc : ByteArray} {own : String} {nL : Nat} {ret : Option FieldType} {d pc pc' : Nat} {ls : List (Option Value)} {st : List Value} {M : mx_M} {Q : Option Value → mx_M → Prop} {a n j b : Nat} {x : Int32} (hd : decode cc pc = .ok (.aaload, 1)) (hs : mx_sh a = .inl (2, n)) (hxj : x = nI j) (hj : j < n) (hv : (M a j).toNatClampNeg = b) (hp : pc + 1 = pc') (k : mx_V cc own nL ret d pc' ls (.ref b :: st) M Q) : mx_V cc own nL ret d pc ls (.int x :: .ref a :: st) M Q := by
  intro p l e R s m args below meth c D ad cy A H0 cells slots Z hx hb hml hown hts hS hR hD hE H locs lsA hP hSS hL
  subst hp
  subst hxj; subst hv
  have hl := mx_sh_len hs
  have hc : (nI j).toNatClampNeg = j := nI_clamp (by omega)
  refine va_aldq (C := RX3) hx hb hS.1 hP a 2 ((mx_w_get ad cy M (mx_sh_lt (Or.inr ⟨2, n, by decide, hs⟩))).trans (congrArg (fun e => some (ad a, e)) (mx_c_rarr ad cy (by decide) hs))) rfl (vp_in_nI hj (by omega)) hd ?_
  rw [hc]
  exact (k p l e R s m args below meth c D ad cy A H0 cells slots Z hx hb hml hown hts hS hR hD hE H locs lsA hP hSS hL)
theorem mx_aald3 {cc : ByteArray} {own : String} {nL : Nat} {ret : Option FieldType} {d pc pc' : Nat} {ls : List (Option Value)} {st : List Value} {M : mx_M} {Q : Option Value → mx_M → Prop} {a n j : Nat} {x : Int32} (hd : decode cc pc = .ok (.aaload, 1)) (hs : mx_sh a = .inl (3, n)) (hxj : x = nI j) (hj : j < n) (hp : pc + 1 = pc') (k : mx_V cc own nL ret d pc' ls (.ref (112 + j) :: st) M Q) : mx_V cc own nL ret d pc ls (.int x :: .ref a :: st) M Q := by
  intro p l e R s m args below meth c D ad cy A H0 cells slots Z hx hb hml hown hts hS hR hD hE H locs lsA hP hSS hL
  subst hp
  subst hxj
  have hl := mx_sh_len hs
  have hc : (nI j).toNatClampNeg = j := nI_clamp (by omega)
  refine mx_aalda hx hb hS.1 hP a 3 ((mx_w_get ad cy M (mx_sh_lt (Or.inr ⟨3, n, by decide, hs⟩))).trans (congrArg (fun e => some (ad a, e)) (mx_c_rarr ad cy (by decide) hs))) rfl (vp_in_nI hj (by omega)) hd ?_
  rw [hc]
  exact (k p l e R s m args below meth c D ad cy A H0 cells slots Z hx hb hml hown hts hS hR hD hE H locs lsA hP hSS hL)
theorem mx_aast {cc : ByteArray} {own : String} {nL : Nat} {ret : Option FieldType} {d pc pc' : Nat} {ls : List (Option Value)} {st : List Value} {M : mx_M} {Q : Option Value → mx_M → Prop} {a n j b : Nat} {x : Int32} {t : List (Option Nat)} (hd : decode cc pc = .ok (.aastore, 1)) (hs : mx_sh a = .inl (2, n)) (hxj : x = nI j) (hj : j < n) (hb0 : mx_sh b = .inr (3, t)) (hp : pc + 1 = pc') (k : mx_V cc own nL ret d pc' ls st (mx_up M a j (nI b)) Q) : mx_V cc own nL ret d pc ls (.ref b :: .int x :: .ref a :: st) M Q := by
  intro p l e R s m args below meth c D ad cy A H0 cells slots Z hx hb hml hown hts hS hR hD hE H locs lsA hP hSS hL
  subst hp
  subst hxj
  have hl := mx_sh_len hs
  have ha := mx_sh_lt (Or.inr ⟨2, n, by decide, hs⟩)
  have hb1 := mx_sh_lt (Or.inl ⟨_, hb0⟩)
  have hc : (nI j).toNatClampNeg = j := nI_clamp (by omega)
  refine va_astq (r := (RX3, TX3, 9)) hx hb hS.1 hP (hD.va cy M) hSS a 2 b 3 ((mx_w_get ad cy M ha).trans (congrArg (fun e => some (ad a, e)) (mx_c_rarr ad cy (by decide) hs))) rfl ((mx_w_get ad cy M hb1).trans (congrArg (fun e => some (ad b, e)) (mx_c_obj ad cy hb0))) rfl (vp_in_nI hj (by omega)) hd (fun H1 locs1 hP1 _ hS1 => ?_)
  rw [hc, mx_w_set ad cy M (N := mx_up M a j (nI b)) ha (mx_c_aast ad cy hs hb1) (fun q hq => mx_up_ne hq)] at hP1
  exact (k p l e R s m args below meth c D ad cy A H0 cells slots Z hx hb hml hown hts hS hR hD hE H1 locs1 lsA hP1 hS1 hL)
theorem mx_acopy {cc : ByteArray} {own : String} {nL : Nat} {ret : Option FieldType} {d pc pc' : Nat} {ls : List (Option Value)} {st : List Value} {M : mx_M} {Q : Option Value → mx_M → Prop} {a b n n' k1 idx : Nat} {xs ys zs : Int32} (hd : decode cc pc = .ok (.invokestatic idx, 3)) (h1 : Cond.methodLink own idx arraycopyName ∈ mx_TW) (hs : mx_sh a = .inl (0, n)) (hs' : mx_sh b = .inl (0, n')) (hxs : xs = 0) (hys : ys = 0) (hzs : zs = nI k1) (hk : k1 ≤ n) (hk' : k1 ≤ n') (hr : (st.map fun v => v.category).sum ≤ 8) (hd1 : 1 ≤ d) (hp : pc + 3 = pc') (k : mx_V cc own nL ret d pc' ls st (mx_cp M a b k1) Q) : mx_V cc own nL ret d pc ls (.int zs :: .int ys :: .ref b :: .int xs :: .ref a :: st) M Q := by
  intro p l e R s m args below meth c D ad cy A H0 cells slots Z hx hb hml hown hts hS hR hD hE H locs lsA hP hSS hL
  subst hp
  subst hxs; subst hys; subst hzs
  have hl := mx_sh_len hs
  have hl' := mx_sh_len hs'
  have ha := mx_sh_lt (Or.inr ⟨0, n, by decide, hs⟩)
  have hb1 := mx_sh_lt (Or.inr ⟨0, n', by decide, hs'⟩)
  have hc : (nI k1).toNatClampNeg = k1 := nI_clamp (by omega)
  have h0 : (0 : Int32).toNatClampNeg = 0 := by decide
  have hst : ((st.map (mx_r ad)).map fun v => v.category).sum ≤ 8 := by
    rw [List.map_map, show ((fun v : Value => v.category) ∘ mx_r ad) = (fun v => v.category) from funext (mx_r_cat ad)]; exact hr
  refine va_copyi (ty := .int) hx hb (hml.trans hL.1.symm) hown (hts _ h1) (hts _ mx_w_nat) (hts _ mx_w_acs) (hts _ mx_w_sys) hS.1 hP (hD.va cy M) hSS a b 0 0 ((mx_w_get ad cy M ha).trans (congrArg (fun e => some (ad a, e)) (mx_c_arr ad cy (by decide) hs))) ((mx_w_get ad cy M hb1).trans (congrArg (fun e => some (ad b, e)) (mx_c_arr ad cy (by decide) hs'))) rfl rfl rfl (by decide) (by decide) (nI_pos (by omega)) (by rw [hc, h0]; omega) (by rw [hc, h0]; omega) (fun _ _ => rfl) (by omega) (Nat.le_trans (Nat.add_le_add_right hst _) (Nat.le_trans (by decide) (Nat.le_trans (Nat.mul_le_mul_left 38 hd1) hR.2.1))) hd (fun H1 locs1 hP1 _ hS1 => ?_)
  rw [hc, h0, mx_w_set ad cy M (N := mx_cp M a b k1) hb1 (mx_c_cp ad cy hs') (fun q hq => mx_cp_ne hq)] at hP1
  exact (k p l e R s m args below meth c D ad cy A H0 cells slots Z hx hb hml hown hts hS hR hD hE H1 locs1 lsA hP1 hS1 hL)
theorem mx_iret {cc : ByteArray} {own : String} {nL : Nat} {ret : Option FieldType} {d pc : Nat} {ls : List (Option Value)} {M : mx_M} {Q : Option Value → mx_M → Prop} {x : Int32} (hd : decode cc pc = .ok (.ireturn, 1)) (hn : mx_n ret (some (.int x))) (hq : Q (some (.int x)) M) : mx_V cc own nL ret d pc ls [.int x] M Q := by
  intro p l e R s m args below meth c D ad cy A H0 cells slots Z hx hb hml hown hts hS hR hD hE H locs lsA hP hSS hL
  exact hE (some (.int x)) M H locs lsA pc hq hn hP hSS hd
theorem mx_dret {cc : ByteArray} {own : String} {nL : Nat} {ret : Option FieldType} {d pc : Nat} {ls : List (Option Value)} {M : mx_M} {Q : Option Value → mx_M → Prop} {x : UInt64} (hd : decode cc pc = .ok (.dreturn, 1)) (hn : mx_n ret (some (.double x))) (hq : Q (some (.double x)) M) : mx_V cc own nL ret d pc ls [.double x] M Q := by
  intro p l e R s m args below meth c D ad cy A H0 cells slots Z hx hb hml hown hts hS hR hD hE H locs lsA hP hSS hL
  exact hE (some (.double x)) M H locs lsA pc hq hn hP hSS hd
theorem mx_vret {cc : ByteArray} {own : String} {nL : Nat} {ret : Option FieldType} {d pc : Nat} {ls : List (Option Value)} {M : mx_M} {Q : Option Value → mx_M → Prop}  (hd : decode cc pc = .ok (.return_, 1)) (hn : mx_n ret none) (hq : Q none M) : mx_V cc own nL ret d pc ls [] M Q := by
  intro p l e R s m args below meth c D ad cy A H0 cells slots Z hx hb hml hown hts hS hR hD hE H locs lsA hP hSS hL
  exact hE none M H locs lsA pc hq hn hP hSS hd
theorem mx_GI {y : MethodName} {cc : ByteArray} {nL : Nat} {ret : Option FieldType} (h : Cond.code y cc nL ret ∈ mx_TW) : GoodIn mx_TW (Cond.code y cc nL ret :: mx_TW) := by
  intro w hw
  have hm : w ∈ mx_TW := by
    rcases List.mem_cons.mp hw with rfl | hw
    · exact h
    · exact hw
  exact ⟨hm, good_of_word (List.mem_filter.mp hm).2⟩
theorem mx_nest_is {w : Cond} (h : w ∈ mx_nest) : ∃ a i x b, w = .methodLinkNest a i x b := by
  have := (List.mem_filter.mp h).2
  cases w <;> simp at this
  exact ⟨_, _, _, _, rfl⟩
theorem mx_S.warm {D : va_G} {cy : Nat → ClassId} {s U : State} (hW : s.WarmedH U.vm) (h : mx_S D cy s) : mx_S D cy U := by
  refine ⟨va_K.moved hW.alike h.1, fun w hw => ?_⟩
  obtain ⟨a, i, x, b, rfl⟩ := mx_nest_is hw
  exact va_Nw.warmM hW (h.2 _ hw)
theorem mx_S.same {D : va_G} {cy : Nat → ClassId} {s U : State} (hv : s.vm = U.vm) (h : mx_S D cy s) : mx_S D cy U := by
  refine ⟨va_K.moved (by rw [hv]; exact Vm.Alike.refl _) h.1, fun w hw => ?_⟩
  have h1 := h.2 w hw
  obtain ⟨a, i, x, b, rfl⟩ := mx_nest_is hw
  exact va_Nw.same rfl hv h1
theorem mx_blind (av : List Value) (M : mx_M) (D : va_G) (ad : Nat → Nat) (cy : Nat → ClassId) : FrameBlind (mx_Pm av M D ad cy) := fun a U g mk q => ⟨q.1, q.2.1, mx_S.same (s := U) (U := U.calling g mk a) rfl q.2.2.1, q.2.2.2⟩
theorem mx_run {p : Program} {l : Launch} {e : Env} {R : Room} {s : State} {m : MethodId} {args : Array Value} {below : List Frame} {meth : Method} {c : Code} {H H0 : Heap} {locs : List Loc} {cells slots : Nat} {Z : State → Prop} {pc : Nat} {ls : Array Slot} {rest st0 : List Value} {a : Array Value} {D : va_G} {ad : Nat → Nat} {cy : Nat → ClassId} {A : Nat → Prop} {Q2 : Option Value → mx_M → Prop}
    (hr : va_Run p l e R s m args below meth c H locs cells slots 0 0 (F0 m pc ls st0) rest (mx_Qm Q2 D ad cy a) (mx_A ad)) (hS : va_S A H0 H locs) (hA : ∀ q, mx_A ad q → A q)
    (kk : ∀ (v : Option Value) (M' : mx_M) (H1 : Heap) (locs1 : List Loc), Q2 v M' → va_P D vwCl (mx_w ad cy M') H1 → va_S A H0 H1 locs1 → W p l e R s m args below meth c H1 locs1 cells slots Z (F0 m (pc + 3) ls ((v.map (mx_r ad)).toList ++ rest))) : W p l e R s m args below meth c H locs cells slots Z (F0 m pc ls st0) := by
  intro T hT X
  obtain ⟨v, st₀, t, T', L, h0, X', hL, e1, e2, ⟨⟨u, M', hv, hq, hp⟩, hz, hk⟩, st⟩ := hr T hT X
  cases hv
  rw [h0] at hz hk
  rw [← e1] at hp hz hk
  obtain ⟨t2, a1, b1⟩ := kk u M' T'.heap (locs ++ L) hq hp
    ⟨Nat.le_trans hS.1 hz, fun q h1 h2 => by rw [hk q (Nat.lt_of_lt_of_le h1 hS.1) (fun z => h2 (hA q z))]; exact hS.2.1 q h1 h2, fun q hq => by
      rcases List.mem_append.mp hq with h | h
      · exact hS.2.2 q h
      · exact hA _ (hL q h)⟩ T' rfl X'
  exact ⟨t2, st t2 a1, b1⟩
/-- what the tables say of a method -/
def mx_y (y : MethodName) (cc : ByteArray) (nL : Nat) (ret : Option FieldType) (n : Nat) : Prop := Cond.code y cc nL ret ∈ mx_TW ∧ Cond.initialized y.cls ∈ mx_TW ∧ (y.cls ≠ "java/lang/invoke/MethodHandle" ∧ y.cls ≠ "java/lang/invoke/VarHandle" ∧ (parseMethodDescriptor y.desc).map (fun d => d.parameters.length) = some n) ∧ nL ≤ 19
def mx_cV (own : String) (idx : Nat) (y : MethodName) (cc : ByteArray) (nL : Nat) (ret : Option FieldType) (n ci : Nat) : Prop := Cond.methodLink own idx y ∈ mx_TW ∧ mx_y y cc nL ret n ∧ Cond.instanceMethod y ∈ mx_TW ∧ Cond.selects y.cls y y ∈ mx_TW ∧ ∃ T N, vwCl[ci]? = some (y.cls, T, N)
def mx_cS (own : String) (idx : Nat) (y : MethodName) (cc : ByteArray) (nL : Nat) (ret : Option FieldType) (n : Nat) : Prop := Cond.methodLink own idx y ∈ mx_TW ∧ mx_y y cc nL ret n ∧ Cond.static y ∈ mx_TW
def mx_cN (own : String) (idx : Nat) (y : MethodName) (cc : ByteArray) (nL : Nat) (ret : Option FieldType) (n : Nat) : Prop := (∃ host, Cond.methodLinkNest own idx y host ∈ mx_nest) ∧ mx_y y cc nL ret n ∧ Cond.static y ∈ mx_TW
theorem mx_cats (ad : Nat → Nat) {st : List Value} (h : (st.map fun v => v.category).sum ≤ 8) : ((st.map (mx_r ad)).map fun v => v.category).sum ≤ 8 := by
  rw [List.map_map, show ((fun v : Value => v.category) ∘ mx_r ad) = (fun v => v.category) from funext (mx_r_cat ad)]; exact h
theorem mx_callV {cc : ByteArray} {own : String} {nL : Nat} {ret : Option FieldType} {d pc pc' : Nat} {ls : List (Option Value)} {st st0 : List Value} {M : mx_M} {Q : Option Value → mx_M → Prop}
    {idx b ci n nL2 d2 : Nat} {y : MethodName} {cc2 : ByteArray} {ret2 : Option FieldType} {As : List Value} {t : List (Option Nat)} {Q2 : Option Value → mx_M → Prop}
    (hd : decode cc pc = .ok (.invokevirtual idx, 3)) (hc : mx_cV own idx y cc2 nL2 ret2 n ci) (hs : mx_sh b = .inr (ci, t)) (hT : mx_T y cc2 nL2 ret2 d2 (.ref b :: As) M Q2) (hn : As.length = n) (hd2 : d2 + 1 ≤ d) (hst : st0 = As.reverse ++ .ref b :: st) (hr : (st.map fun v => v.category).sum ≤ 8) (hp : pc + 3 = pc')
    (k : ∀ (v : Option Value) (M' : mx_M), Q2 v M' → mx_V cc own nL ret d pc' ls (v.toList ++ st) M' Q) : mx_V cc own nL ret d pc ls st0 M Q := by
  intro p l e R s m args below meth c D ad cy A H0 cells slots Z hx hb hml hown hts hS hR hD hE H locs lsA hP hSS hL
  subst hp; subst hst
  obtain ⟨c1, ⟨c2, c3, c4, c7⟩, c5, c6, T0, N0, c8⟩ := hc
  have cb : CallB R s args own idx y cc2 nL2 ret2 (Cond.code y cc2 nL2 ret2 :: mx_TW) (mx_rm d2) 0 0 n := callB_of n hts (mx_GI c2) rfl rfl rfl (hts _ c3) (hts _ c1) c4 ⟨by show d2 + 1 ≤ _; omega, by show 8 + (nL2 + 11) + 38 * d2 ≤ _; omega⟩
  have hrun := va_runV (As := As.map (mx_r ad)) (rest := st.map (mx_r ad)) (cells := cells) (slots := slots) (locs := locs) (below := below) (meth := meth) (e := e) (H := H) (g := F0 m pc lsA ((As.reverse ++ .ref b :: st).map (mx_r ad))) (⟨hx, hb, hml, hown, hts⟩ : CallFix p m c cc nL s args mx_TW own) (hT l D ad cy) ⟨cb, hts _ c5, hts _ c6⟩
    ⟨mx_blind _ _ _ _ _, va_recv hS.1 hP c8 ((mx_w_get ad cy M (mx_sh_lt (Or.inl ⟨_, hs⟩))).trans (congrArg (fun e => some (ad b, e)) (mx_c_obj ad cy hs))), fun U hU hW => ⟨rfl, by rw [hU]; exact hP, mx_S.warm hW hS, hD.1⟩⟩ rfl (by rw [List.length_map]; exact hn) hL.1 (by simp [mx_r]) (lv_room (mx_cats ad hr)) hd ⟨hR.2.2.1, hR.2.2.2⟩
  refine mx_run hrun hSS (fun q hq => by obtain ⟨i, hi, rfl⟩ := hq; exact hD.2 i hi) (fun v M' H1 locs1 hq hP1 hS1 => ?_)
  have h := k v M' hq p l e R s m args below meth c D ad cy A H0 cells slots Z hx hb hml hown hts hS hR hD hE H1 locs1 lsA hP1 hS1 hL
  cases v <;> exact h
theorem mx_callS {cc : ByteArray} {own : String} {nL : Nat} {ret : Option FieldType} {d pc pc' : Nat} {ls : List (Option Value)} {st st0 : List Value} {M : mx_M} {Q : Option Value → mx_M → Prop}
    {idx n nL2 d2 : Nat} {y : MethodName} {cc2 : ByteArray} {ret2 : Option FieldType} {As : List Value} {Q2 : Option Value → mx_M → Prop}
    (hd : decode cc pc = .ok (.invokestatic idx, 3)) (hc : mx_cS own idx y cc2 nL2 ret2 n) (hT : mx_T y cc2 nL2 ret2 d2 As M Q2) (hn : As.length = n) (hd2 : d2 + 1 ≤ d) (hst : st0 = As.reverse ++ st) (hr : (st.map fun v => v.category).sum ≤ 8) (hp : pc + 3 = pc')
    (k : ∀ (v : Option Value) (M' : mx_M), Q2 v M' → mx_V cc own nL ret d pc' ls (v.toList ++ st) M' Q) : mx_V cc own nL ret d pc ls st0 M Q := by
  intro p l e R s m args below meth c D ad cy A H0 cells slots Z hx hb hml hown hts hS hR hD hE H locs lsA hP hSS hL
  subst hp; subst hst
  obtain ⟨c1, ⟨c2, c3, c4, c7⟩, c5⟩ := hc
  have cb : CallB R s args own idx y cc2 nL2 ret2 (Cond.code y cc2 nL2 ret2 :: mx_TW) (mx_rm d2) 0 0 n := callB_of n hts (mx_GI c2) rfl rfl rfl (hts _ c3) (hts _ c1) c4 ⟨by show d2 + 1 ≤ _; omega, by show 8 + (nL2 + 11) + 38 * d2 ≤ _; omega⟩
  have hrun := va_runS (As := As.map (mx_r ad)) (rest := st.map (mx_r ad)) (cells := cells) (slots := slots) (locs := locs) (below := below) (meth := meth) (e := e) (H := H) (g := F0 m pc lsA ((As.reverse ++ st).map (mx_r ad))) (⟨hx, hb, hml, hown, hts⟩ : CallFix p m c cc nL s args mx_TW own) (hT l D ad cy) ⟨cb, hts _ c5⟩
    ⟨mx_blind _ _ _ _ _, fun U hU hW => ⟨rfl, by rw [hU]; exact hP, mx_S.warm hW hS, hD.1⟩⟩ rfl (by rw [List.length_map]; exact hn) hL.1 (by simp) (lv_room (mx_cats ad hr)) hd ⟨hR.2.2.1, hR.2.2.2⟩
  refine mx_run hrun hSS (fun q hq => by obtain ⟨i, hi, rfl⟩ := hq; exact hD.2 i hi) (fun v M' H1 locs1 hq hP1 hS1 => ?_)
  have h := k v M' hq p l e R s m args below meth c D ad cy A H0 cells slots Z hx hb hml hown hts hS hR hD hE H1 locs1 lsA hP1 hS1 hL
  cases v <;> exact h
theorem mx_callN {cc : ByteArray} {own : String} {nL : Nat} {ret : Option FieldType} {d pc pc' : Nat} {ls : List (Option Value)} {st st0 : List Value} {M : mx_M} {Q : Option Value → mx_M → Prop}
    {idx n nL2 d2 : Nat} {y : MethodName} {cc2 : ByteArray} {ret2 : Option FieldType} {As : List Value} {Q2 : Option Value → mx_M → Prop}
    (hd : decode cc pc = .ok (.invokestatic idx, 3)) (hc : mx_cN own idx y cc2 nL2 ret2 n) (hT : mx_T y cc2 nL2 ret2 d2 As M Q2) (hn : As.length = n) (hd2 : d2 + 1 ≤ d) (hst : st0 = As.reverse ++ st) (hr : (st.map fun v => v.category).sum ≤ 8) (hp : pc + 3 = pc')
    (k : ∀ (v : Option Value) (M' : mx_M), Q2 v M' → mx_V cc own nL ret d pc' ls (v.toList ++ st) M' Q) : mx_V cc own nL ret d pc ls st0 M Q := by
  intro p l e R s m args below meth c D ad cy A H0 cells slots Z hx hb hml hown hts hS hR hD hE H locs lsA hP hSS hL
  subst hp; subst hst
  obtain ⟨⟨host, c1⟩, ⟨c2, c3, c4, c7⟩, c5⟩ := hc
  have cb : va_CN R s args own idx y host cc2 nL2 ret2 (Cond.code y cc2 nL2 ret2 :: mx_TW) (mx_rm d2) 0 0 n := va_cnB n hts (mx_GI c2) rfl rfl rfl (hS.2 _ c1) (hts _ c3) c4 ⟨by show d2 + 1 ≤ _; omega, by show 8 + (nL2 + 11) + 38 * d2 ≤ _; omega⟩
  have hrun := va_runSN (As := As.map (mx_r ad)) (rest := st.map (mx_r ad)) (cells := cells) (slots := slots) (locs := locs) (below := below) (meth := meth) (e := e) (H := H) (g := F0 m pc lsA ((As.reverse ++ st).map (mx_r ad))) (⟨hx, hb, hml, hown, hts⟩ : CallFix p m c cc nL s args mx_TW own) (hT l D ad cy) ⟨cb, hts _ c5, trivial⟩
    ⟨mx_blind _ _ _ _ _, fun U hU hW => ⟨rfl, by rw [hU]; exact hP, mx_S.warm hW hS, hD.1⟩⟩ rfl (by rw [List.length_map]; exact hn) hL.1 (by simp) (lv_room (mx_cats ad hr)) hd ⟨hR.2.2.1, hR.2.2.2⟩
  refine mx_run hrun hSS (fun q hq => by obtain ⟨i, hi, rfl⟩ := hq; exact hD.2 i hi) (fun v M' H1 locs1 hq hP1 hS1 => ?_)
  have h := k v M' hq p l e R s m args below meth c D ad cy A H0 cells slots Z hx hb hml hown hts hS hR hD hE H1 locs1 lsA hP1 hS1 hL
  cases v <;> exact h
