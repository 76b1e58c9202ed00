theorem mx_T.of1 {y : MethodName} {cc : ByteArray} {own : String} {nL : Nat} {ret : Option FieldType} {d : Nat} {av : List Value} {ls : List (Option Value)} {M : mx_M} {Q : Option Value → mx_M → Prop} (hy : plainName y.cls = true) (ho : y.cls = own) (hn : av.length ≤ nL) (hc : av.all (fun v => v.category == 1) = true)
    (hls : av.map some ++ List.replicate (nL - av.length) none = ls) (h : mx_V cc own nL ret d 0 ls [] M Q) : mx_T y cc nL ret d av M Q := by
  subst ho; subst hls
  exact mx_T.of hy hn hc h
/-- more room, a weaker end -/
theorem mx_V.post {cc : ByteArray} {own : String} {nL : Nat} {ret : Option FieldType} {d pc : Nat} {ls : List (Option Value)} {st : List Value} {M : mx_M} {Q Q2 : Option Value → mx_M → Prop} (h : mx_V cc own nL ret d pc ls st M Q2) (hq : ∀ v M', Q2 v M' → Q v M') : mx_V cc own nL ret d pc ls st M Q := by
  intro p l e R s m args below meth c D ad cy A H0 cells slots Z hx hb hml hown hts hS hR hD hE H locs lsA hP hSS hL
  exact h p l e R s m args below meth c D ad cy A H0 cells slots Z hx hb hml hown hts hS hR hD (fun v M' H locs ls' pc' h1 h2 h3 h4 h5 => hE v M' H locs ls' pc' (hq v M' h1) h2 h3 h4 h5) H locs lsA hP hSS hL
theorem mx_T.post {y : MethodName} {cc : ByteArray} {nL : Nat} {ret : Option FieldType} {d : Nat} {av : List Value} {M : mx_M} {Q Q2 : Option Value → mx_M → Prop} (h : mx_T y cc nL ret d av M Q2) (hq : ∀ v M', Q2 v M' → Q v M') : mx_T y cc nL ret d av M Q := by
  intro l D ad cy p e ha hc hk s m args below hf happ hP hK
  obtain ⟨k, o, h1, h2, h3, ⟨⟨v, M', e1, e2, e3⟩, e4⟩, e5⟩ := h l D ad cy p e ha hc hk s m args below hf happ hP hK
  exact ⟨k, o, h1, h2, h3, ⟨⟨v, M', e1, hq v M' e2, e3⟩, e4⟩, e5⟩
/-! shapes of the class's own parts -/
def EmS (e : Nat) : Prop := mx_sh e = .inr (2, [some (e + 1), some (e + 2), some (e + 3), some (e + 4), none]) ∧ mx_sh (e + 1) = .inl (0, 4) ∧ mx_sh (e + 2) = .inl (0, 4) ∧ mx_sh (e + 3) = .inl (0, 4) ∧ mx_sh (e + 4) = .inl (0, 4)
def BuS (b : Nat) : Prop := mx_sh b = .inr (0, [some (b + 1), some (b + 2), some (b + 3), some (b + 4), some (b + 5), none]) ∧ mx_sh (b + 1) = .inl (0, 60) ∧ mx_sh (b + 2) = .inl (0, 60) ∧ mx_sh (b + 3) = .inl (0, 60) ∧ mx_sh (b + 4) = .inl (1, 60) ∧ mx_sh (b + 5) = .inl (1, 60)
def FiS (a : Nat) : Prop := mx_sh a = .inr (3, [some (a + 1), some (a + 6), some (a + 12), some (a + 13), none, none, none, none, none]) ∧ EmS (a + 1) ∧ BuS (a + 6) ∧ mx_sh (a + 12) = .inl (0, 2) ∧ mx_sh (a + 13) = .inl (0, 8)
/-- the Fields' places -/
def FB (a : Nat) : Prop := a = 1 ∨ a = 15 ∨ a = 29 ∨ a = 45 ∨ a = 59 ∨ a = 73 ∨ a = 87
theorem FB.s {a : Nat} (h : FB a) : FiS a := by
  rcases h with rfl | rfl | rfl | rfl | rfl | rfl | rfl <;> exact ⟨rfl, ⟨rfl, rfl, rfl, rfl, rfl⟩, ⟨rfl, rfl, rfl, rfl, rfl, rfl⟩, rfl, rfl⟩
theorem EmS104 : EmS 104 := ⟨rfl, rfl, rfl, rfl, rfl⟩
theorem FB.apart {a b : Nat} (ha : FB a) (hb : FB b) (h : a ≠ b) : a + 14 ≤ b ∨ b + 14 ≤ a := by
  unfold FB at ha hb
  omega
theorem mx_b0 : vp_nar .boolean 0 = 0 := by decide
theorem mx_b1 : vp_nar .boolean 1 = 1 := by decide
theorem mx_w_absS : Cond.static Lib.Math.abs.name ∈ mx_TW := mx_in 541 (by decide +kernel) (by decide +kernel)
theorem mx_w_absC : Cond.code Lib.Math.abs.name Lib.Math.abs.code 1 (some .int) ∈ mx_TW := mx_in 542 (by decide +kernel) (by decide +kernel)
theorem mx_w_maxS : Cond.static Lib.Math.max.name ∈ mx_TW := mx_in 454 (by decide +kernel) (by decide +kernel)
theorem mx_w_maxC : Cond.code Lib.Math.max.name Lib.Math.max.code 2 (some .int) ∈ mx_TW := mx_in 455 (by decide +kernel) (by decide +kernel)
theorem mx_w_minS : Cond.static Lib.Math.min.name ∈ mx_TW := mx_in 457 (by decide +kernel) (by decide +kernel)
theorem mx_w_minC : Cond.code Lib.Math.min.name Lib.Math.min.code 2 (some .int) ∈ mx_TW := mx_in 458 (by decide +kernel) (by decide +kernel)
theorem mx_w_math : Cond.initialized "java/lang/Math" ∈ mx_TW := mx_in 33 (by decide +kernel) (by decide +kernel)
theorem cl_m_abs : Cond.methodLink RX0 44 Lib.Math.abs.name ∈ mx_TW := mx_in 540 (by decide +kernel) (by decide +kernel)
theorem cl_m_max : Cond.methodLink RX5 53 Lib.Math.max.name ∈ mx_TW := mx_in 453 (by decide +kernel) (by decide +kernel)
theorem cl_m_min : Cond.methodLink RX5 85 Lib.Math.min.name ∈ mx_TW := mx_in 456 (by decide +kernel) (by decide +kernel)
theorem mx_mabs {cc : ByteArray} {own : String} {nL : Nat} {ret : Option FieldType} {d pc pc' : Nat} {ls : List (Option Value)} {st : List Value} {M : mx_M} {Q : Option Value → mx_M → Prop} {x v : Int32} {idx : Nat} (hd : decode cc pc = .ok (.invokestatic idx, 3)) (h1 : Cond.methodLink own idx Lib.Math.abs.name ∈ mx_TW) (hd1 : 1 ≤ d) (hr : (st.map fun v => v.category).sum ≤ 8) (hv : (if 0 ≤ x then x else 0 - x) = v) (hp : pc + 3 = pc') (k : mx_V cc own nL ret d pc' ls (.int v :: st) M Q) : mx_V cc own nL ret d pc ls (.int x :: st) M Q := by
  intro p l e R s m args below meth c D ad cy A H0 cells slots Z hx hb hml hown hts hS hR hD hE H locs lsA hP hSS hL
  subst hp; subst hv
  have hst := mx_cats ad hr
  exact va_mabs hx hb (hml.trans hL.1.symm) hown (hts _ h1) (hts _ mx_w_absS) (hts _ mx_w_math) (hts _ mx_w_absC) (by omega) (by omega) hR.2.2.1 hR.2.2.2 hd (k p l e R s m args below meth c D ad cy A H0 cells slots Z hx hb hml hown hts hS hR hD hE H locs lsA hP hSS hL)
theorem mx_mmax {cc : ByteArray} {own : String} {nL : Nat} {ret : Option FieldType} {d pc pc' : Nat} {ls : List (Option Value)} {st : List Value} {M : mx_M} {Q : Option Value → mx_M → Prop} {x y v : Int32} {idx : Nat} (hd : decode cc pc = .ok (.invokestatic idx, 3)) (h1 : Cond.methodLink own idx Lib.Math.max.name ∈ mx_TW) (hd1 : 1 ≤ d) (hr : (st.map fun v => v.category).sum ≤ 8) (hv : (if x < y then y else x) = v) (hp : pc + 3 = pc') (k : mx_V cc own nL ret d pc' ls (.int v :: st) M Q) : mx_V cc own nL ret d pc ls (.int y :: .int x :: st) M Q := by
  intro p l e R s m args below meth c D ad cy A H0 cells slots Z hx hb hml hown hts hS hR hD hE H locs lsA hP hSS hL
  subst hp; subst hv
  have hst := mx_cats ad hr
  exact va_mmax hx hb (hml.trans hL.1.symm) hown (hts _ h1) (hts _ mx_w_maxS) (hts _ mx_w_math) (hts _ mx_w_maxC) (by omega) (by omega) hR.2.2.1 hR.2.2.2 hd (k p l e R s m args below meth c D ad cy A H0 cells slots Z hx hb hml hown hts hS hR hD hE H locs lsA hP hSS hL)
theorem mx_mmin {cc : ByteArray} {own : String} {nL : Nat} {ret : Option FieldType} {d pc pc' : Nat} {ls : List (Option Value)} {st : List Value} {M : mx_M} {Q : Option Value → mx_M → Prop} {x y v : Int32} {idx : Nat} (hd : decode cc pc = .ok (.invokestatic idx, 3)) (h1 : Cond.methodLink own idx Lib.Math.min.name ∈ mx_TW) (hd1 : 1 ≤ d) (hr : (st.map fun v => v.category).sum ≤ 8) (hv : (if y < x then y else x) = v) (hp : pc + 3 = pc') (k : mx_V cc own nL ret d pc' ls (.int v :: st) M Q) : mx_V cc own nL ret d pc ls (.int y :: .int x :: st) M Q := by
  intro p l e R s m args below meth c D ad cy A H0 cells slots Z hx hb hml hown hts hS hR hD hE H locs lsA hP hSS hL
  subst hp; subst hv
  have hst := mx_cats ad hr
  exact va_mmin hx hb (hml.trans hL.1.symm) hown (hts _ h1) (hts _ mx_w_minS) (hts _ mx_w_math) (hts _ mx_w_minC) (by omega) (by omega) hR.2.2.1 hR.2.2.2 hd (k p l e R s m args below meth c D ad cy A H0 cells slots Z hx hb hml hown hts hS hR hD hE H locs lsA hP hSS hL)
