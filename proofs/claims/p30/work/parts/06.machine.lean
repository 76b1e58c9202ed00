/-! THE MINI MACHINE: a memory of words M : place -> offset -> Int32 over 143 fixed places; V is the kit's W over it, T is Met -/
abbrev mx_M : Type := Nat → Nat → Int32
abbrev mx_Sh : Type := (Nat × Nat) ⊕ (Nat × List (Option Nat))
def mx_up (M : mx_M) (p i : Nat) (v : Int32) : mx_M := fun q j => if q = p then (if j = i then v else M q j) else M q j
/-- the shape of slot j of the Field at place a -/
def mx_fsh (a : Nat) : Nat → mx_Sh
  | 0 => .inr (3, [some (a + 1), some (a + 6), some (a + 12), some (a + 13), none, none, none, none, none])
  | 1 => .inr (2, [some (a + 2), some (a + 3), some (a + 4), some (a + 5), none])
  | 2 => .inl (0, 4)
  | 3 => .inl (0, 4)
  | 4 => .inl (0, 4)
  | 5 => .inl (0, 4)
  | 6 => .inr (0, [some (a + 7), some (a + 8), some (a + 9), some (a + 10), some (a + 11), none])
  | 7 => .inl (0, 60)
  | 8 => .inl (0, 60)
  | 9 => .inl (0, 60)
  | 10 => .inl (1, 60)
  | 11 => .inl (1, 60)
  | 12 => .inl (0, 2)
  | _ => .inl (0, 8)
/-- the shapes: 0 the class's object; Fields at 1, 15, 29 (field, trial, snapshot); the history 43 and its row 44, its Fields at 45, 59, 73, 87; the pad 101; the reader 103 with Emitters at 104; the lanes 109; the model 143 -/
def mx_sh (p : Nat) : mx_Sh :=
  if p = 0 then .inr (7, [some 1, some 15, some 29, none, some 43, some 101, some 103, some 109])
  else if p < 43 then mx_fsh ((p - 1) / 14 * 14 + 1) ((p - 1) % 14)
  else if p = 43 then .inr (4, [some 44, none])
  else if p = 44 then .inl (2, 4)
  else if p < 101 then mx_fsh ((p - 45) / 14 * 14 + 45) ((p - 45) % 14)
  else if p = 101 then .inr (6, [some 102, none])
  else if p = 102 then .inl (0, 60)
  else if p = 103 then .inr (1, [some 104, none, none, none])
  else if p = 104 then .inr (2, [some 105, some 106, some 107, some 108, none])
  else if p < 109 then .inl (0, 4)
  else if p = 109 then .inr (5, [some 110, some 111])
  else if p = 110 then .inl (0, 31)
  else if p = 111 then .inl (3, 31)
  else if p < 143 then .inl (0, 10)
  else .inl (9, 0)
def mx_r (ad : Nat → Nat) : Value → Value
  | .ref k => .ref (ad k)
  | v => v
/-- which place a row of references holds: the history's row by its word, the outer row of asidesFrom by its place -/
def mx_rf (k : Nat) (f : Nat → Int32) (i : Nat) : Nat := if k = 2 then (f i).toNatClampNeg else 112 + i
def mx_fv (ad : Nat → Nat) (f : Nat → Int32) (j : Nat) (o : Option Nat) : Value := match o with
  | some p => .ref (ad p)
  | none => .int (f j)
def mx_c (ad : Nat → Nat) (cy : Nat → ClassId) (sh : mx_Sh) (f : Nat → Int32) : va_E := match sh with
  | .inl a => if a.1 < 2 then .inl (cy a.1, a.2, .inl f) else .inl (cy a.1, a.2, .inr (.inr (.inr (.inr (fun i => some (ad (mx_rf a.1 f i)))))))
  | .inr o => .inr (o.1, o.2.mapIdx (mx_fv ad f))
def mx_w (ad : Nat → Nat) (cy : Nat → ClassId) (M : mx_M) : va_W := (List.range 143).map (fun p => (ad p, mx_c ad cy (mx_sh p) (M p)))
def mx_ty (cy : Nat → ClassId) : List (ClassId × FieldType) := [(cy 0, .int), (cy 1, .boolean), (cy 2, .object RX3), (cy 3, .array .int)]
def mx_D (ad : Nat → Nat) (A : Nat → Prop) : Prop := (∀ i j, i < 143 → j < 143 → ad i = ad j → i = j) ∧ ∀ i, i < 143 → A (ad i)
def mx_A (ad : Nat → Nat) : Nat → Prop := fun q => ∃ i, i < 143 ∧ q = ad i
theorem mx_w_get (ad : Nat → Nat) (cy : Nat → ClassId) (M : mx_M) {p : Nat} (h : p < 143) : (mx_w ad cy M)[p]? = some (ad p, mx_c ad cy (mx_sh p) (M p)) := by
  simp [mx_w, h]
theorem mx_w_set (ad : Nat → Nat) (cy : Nat → ClassId) (M : mx_M) {p : Nat} {e : va_E} {N : mx_M} (h : p < 143) (he : e = mx_c ad cy (mx_sh p) (N p)) (hN : ∀ q, q ≠ p → N q = M q) : (mx_w ad cy M).set p (ad p, e) = mx_w ad cy N := by
  subst he
  apply List.ext_getElem?
  intro i
  by_cases hi : i < 143
  · rw [mx_w_get ad cy N hi]
    by_cases hip : i = p
    · subst hip
      rw [List.getElem?_set_self (by simp [mx_w, hi])]
    · rw [List.getElem?_set_ne (Ne.symm hip), mx_w_get ad cy M hi, hN i hip]
  · rw [List.getElem?_eq_none (by simp [mx_w]; omega), List.getElem?_eq_none (by simp [mx_w]; omega)]
theorem mx_D.va {ad : Nat → Nat} {A : Nat → Prop} (h : mx_D ad A) (cy : Nat → ClassId) (M : mx_M) : va_D A (mx_w ad cy M) := by
  have key : ∀ (k : Nat) (q : Nat × va_E), (mx_w ad cy M)[k]? = some q → k < 143 ∧ q.1 = ad k := by
    intro k q hk
    have hl : k < 143 := by
      have := (List.getElem?_eq_some_iff.mp hk).1
      simpa [mx_w] using this
    rw [mx_w_get ad cy M hl] at hk
    cases hk
    exact ⟨hl, rfl⟩
  refine ⟨fun i j x y hi hj hxy => ?_, fun k q hk => ?_⟩
  · obtain ⟨a1, a2⟩ := key i x hi
    obtain ⟨b1, b2⟩ := key j y hj
    exact h.1 i j a1 b1 (a2.symm.trans (hxy.trans b2))
  · obtain ⟨a1, a2⟩ := key k q hk
    rw [a2]
    exact h.2 k a1
theorem mx_D.self {ad : Nat → Nat} (h : ∀ i j, i < 143 → j < 143 → ad i = ad j → i = j) : mx_D ad (mx_A ad) := ⟨h, fun i hi => ⟨i, hi, rfl⟩⟩
/-- the words of every method: all of the tables -/
def mx_TW : List Cond := lw_tbl.filter goodWord
def mx_nest : List Cond := tables_1.filter (fun w => match w with | .methodLinkNest .. => true | _ => false)
def mx_S (D : va_G) (cy : Nat → ClassId) (U : State) : Prop := va_K D vwCl (mx_ty cy) U ∧ ∀ w ∈ mx_nest, va_Nw w U
/-- the locals -/
def mx_L (ad : Nat → Nat) (ls : List (Option Value)) (a : Array Slot) (nL : Nat) : Prop := a.size = nL ∧ lv_wf a ∧ ls.length = nL ∧ ∀ (i : Nat) (v : Value), ls[i]? = some (some v) → a[i]? = some (.val (mx_r ad v))
def mx_c1 (ls : List (Option Value)) : Bool := ls.all (fun o => match o with | some v => v.category == 1 | none => true)
theorem mx_r_cat (ad : Nat → Nat) (v : Value) : (mx_r ad v).category = v.category := by cases v <;> rfl
/-- as the kit has the locals -/
def mx_as (ad : Nat → Nat) (ls : List (Option Value)) : List (Nat × Value) := (List.range ls.length).filterMap (fun i => match ls[i]? with | some (some v) => some (i, mx_r ad v) | _ => none)
theorem mx_L.has {ad : Nat → Nat} {ls : List (Option Value)} {a : Array Slot} {nL : Nat} (h : mx_L ad ls a nL) : lv_has a nL (mx_as ad ls) := by
  refine ⟨h.1, h.2.1, fun q hq => ?_⟩
  obtain ⟨i, -, hi⟩ := List.mem_filterMap.mp hq
  split at hi
  · rename_i v hv
    cases hi
    exact h.2.2.2 i v hv
  · cases hi
theorem mx_as_mem {ad : Nat → Nat} {ls : List (Option Value)} {i : Nat} {v : Value} (h : ls[i]? = some (some v)) : (i, mx_r ad v) ∈ mx_as ad ls := by
  refine List.mem_filterMap.mpr ⟨i, List.mem_range.mpr (List.getElem?_eq_some_iff.mp h).1, ?_⟩
  rw [h]
theorem mx_c1_at {ls : List (Option Value)} (h : mx_c1 ls = true) {i : Nat} {v : Value} (hv : ls[i]? = some (some v)) : v.category = 1 := by
  have := List.all_eq_true.mp h _ (List.mem_of_getElem? hv)
  simpa using this
theorem mx_L.store {ad : Nat → Nat} {ls : List (Option Value)} {a a' : Array Slot} {nL i : Nat} {v : Value} (h : mx_L ad ls a nL) (hc : mx_c1 ls = true) (h' : lv_has a' nL ((i, mx_r ad v) :: (mx_as ad ls).filter (fun q => !(q.1 == i) && !(q.1 + 1 == i && q.2.category == 2)))) : mx_L ad (ls.set i (some v)) a' nL := by
  refine ⟨h'.1, h'.2.1, by rw [List.length_set]; exact h.2.2.1, fun j w hj => ?_⟩
  by_cases hji : j = i
  · subst hji
    have hl : j < ls.length := by
      have := (List.getElem?_eq_some_iff.mp hj).1
      simpa using this
    rw [List.getElem?_set_self hl] at hj
    cases hj
    exact h'.2.2 (j, mx_r ad v) List.mem_cons_self
  · rw [List.getElem?_set_ne (Ne.symm hji)] at hj
    refine h'.2.2 (j, mx_r ad w) (List.mem_cons_of_mem _ (List.mem_filter.mpr ⟨mx_as_mem hj, ?_⟩))
    have hcw : (mx_r ad w).category = 1 := by rw [mx_r_cat]; exact mx_c1_at hc hj
    simp [hji, hcw]
/-- what may be returned by a method that returns ret -/
def mx_n (ret : Option FieldType) (v : Option Value) : Prop := match v with
  | none => ret = none
  | some (.int x) => ret = some .int ∨ (ret = some .boolean ∧ narrow .boolean (.int x) = .int x)
  | some (.double _) => ret = some .double
  | some (.long _) => ret = some .long
  | _ => False
def mx_ri (v : Option Value) : Instr := match v with
  | none => .return_
  | some (.double _) => .dreturn
  | some (.long _) => .lreturn
  | _ => .ireturn
def mx_rm (d : Nat) : Room := { frames := d, cells := 0, slots := 0, locals := 38 * d }
def mx_V (cc : ByteArray) (own : String) (nL : Nat) (ret : Option FieldType) (d pc : Nat) (ls : List (Option Value)) (st : List Value) (M : mx_M) (Q : Option Value → mx_M → Prop) : Prop :=
  ∀ (p : Program) (l : Launch) (e : Env) (R : Room) (s : State) (m : MethodId) (args : Array Value) (below : List Frame) (meth : Method) (c : Code) (D : va_G) (ad : Nat → Nat) (cy : Nat → ClassId) (A : Nat → Prop) (H0 : Heap) (cells slots : Nat) (Z : State → Prop),
    p.tables.exec = Jvm.exec → c.code = cc → c.maxLocals = nL → s.vm.findClass own = some m.cls → (∀ w ∈ mx_TW, w.before args s = true) → mx_S D cy s → (d ≤ R.frames ∧ 38 * d ≤ R.locals ∧ cells ≤ R.cells ∧ slots ≤ R.slots) → mx_D ad A →
    (∀ (v : Option Value) (M' : mx_M) (H : Heap) (locs : List Loc) (ls' : Array Slot) (pc' : Nat), Q v M' → mx_n ret v → va_P D vwCl (mx_w ad cy M') H → va_S A H0 H locs → decode cc pc' = .ok (mx_ri v, 1) → W p l e R s m args below meth c H locs cells slots Z (F0 m pc' ls' ((v.map (mx_r ad)).toList))) →
    ∀ (H : Heap) (locs : List Loc) (lsA : Array Slot), va_P D vwCl (mx_w ad cy M) H → va_S A H0 H locs → mx_L ad ls lsA nL → W p l e R s m args below meth c H locs cells slots Z (F0 m pc lsA (st.map (mx_r ad)))
def mx_Qm (Q : Option Value → mx_M → Prop) (D : va_G) (ad : Nat → Nat) (cy : Nat → ClassId) : Array Value → State → Outcome → State → Prop := fun _ st o t => (∃ (v : Option Value) (M' : mx_M), o = .returned (v.map (mx_r ad)) ∧ Q v M' ∧ va_P D vwCl (mx_w ad cy M') t.heap) ∧ va_F (mx_A ad) st t
def mx_Pm (av : List Value) (M : mx_M) (D : va_G) (ad : Nat → Nat) (cy : Nat → ClassId) : Array Value → State → Prop := fun v U => v = (av.map (mx_r ad)).toArray ∧ va_P D vwCl (mx_w ad cy M) U.heap ∧ mx_S D cy U ∧ ∀ i j, i < 143 → j < 143 → ad i = ad j → i = j
/-- A METHOD'S TRIPLE -/
def mx_T (y : MethodName) (cc : ByteArray) (nL : Nat) (ret : Option FieldType) (d : Nat) (av : List Value) (M : mx_M) (Q : Option Value → mx_M → Prop) : Prop :=
  ∀ (l : Launch) (D : va_G) (ad : Nat → Nat) (cy : Nat → ClassId), Met l y (Cond.code y cc nL ret :: mx_TW) (mx_rm d) (mx_Pm av M D ad cy) (mx_Qm Q D ad cy) 0 0 (mx_A ad)
theorem mx_lg (vs : List Value) (h : vs.all (fun v => v.category == 1) = true) : lg_sl vs = vs.map Slot.val := by
  induction vs with
  | nil => rfl
  | cons v vs ih =>
    simp only [List.all_cons, Bool.and_eq_true, beq_iff_eq] at h
    have := ih h.2
    simp only [lg_sl, List.flatMap_cons] at this ⊢
    rw [this, if_neg (by omega)]
    rfl
theorem mx_L.entry (ad : Nat → Nat) (av : List Value) (nL : Nat) (hn : av.length ≤ nL) (h : av.all (fun v => v.category == 1) = true) : mx_L ad (av.map some ++ List.replicate (nL - av.length) none) ((lg_sl (av.map (mx_r ad)) ++ List.replicate (nL - (lg_sl (av.map (mx_r ad))).length) Slot.unset).toArray) nL := by
  have hc : (av.map (mx_r ad)).all (fun v => v.category == 1) = true := by
    rw [List.all_map]
    refine List.all_eq_true.mpr fun v hv => ?_
    have := List.all_eq_true.mp h v hv
    simpa [mx_r_cat] using this
  have hl := lv_entry (av.map (mx_r ad)) (n := nL) (by rw [mx_lg _ hc]; simpa using hn)
  refine ⟨hl.1, hl.2.1, by simp; omega, fun i v hv => ?_⟩
  rw [mx_lg _ hc]
  by_cases hi : i < av.length
  · rw [List.getElem?_append_left (by simpa using hi)] at hv
    rw [List.getElem?_toArray, List.getElem?_append_left (by simpa using hi)]
    simp only [List.getElem?_map, Option.map_eq_some_iff] at hv ⊢
    obtain ⟨w, hw, he⟩ := hv
    cases he
    exact ⟨_, ⟨_, hw, rfl⟩, rfl⟩
  · rw [List.getElem?_append_right (by simpa using hi)] at hv
    rw [List.getElem?_replicate] at hv
    split at hv
    · cases hv
    · cases hv
theorem mx_T.of {y : MethodName} {cc : ByteArray} {nL : Nat} {ret : Option FieldType} {d : Nat} {av : List Value} {M : mx_M} {Q : Option Value → mx_M → Prop} (hy : plainName y.cls = true) (hn : av.length ≤ nL) (hc : av.all (fun v => v.category == 1) = true)
    (h : mx_V cc y.cls nL ret d 0 (av.map some ++ List.replicate (nL - av.length) none) [] M Q) : mx_T y cc nL ret d av M Q := by
  intro l D ad cy
  refine Met.ofW (cc := cc) (maxL := nL) (ret := ret) hy rfl ?_
  intro p e s m args below meth c s₁ B hml hv
  obtain ⟨rfl, hP, hS, hi⟩ := hv
  have hts : ∀ w ∈ mx_TW, w.before (av.map (mx_r ad)).toArray s = true := fun w hw => atoms_spec (ws := Cond.code y cc nL ret :: mx_TW) B.pre w (List.mem_cons_of_mem _ hw)
  rw [lg_entry_eq]
  have hlocks := B.notSynchronized
  have hr := B.returns
  refine h p l e _ s m _ below meth c D ad cy (mx_A ad) s.heap 0 0 _ B.exec B.bytes hml (findClass_of_methodNamed B.named) hts hS ⟨Nat.le_refl d, Nat.le_refl (38 * d), Nat.le_refl 0, Nat.le_refl 0⟩ (mx_D.self hi) ?_ s.heap [] _ hP va_S.rf (mx_L.entry ad av nL hn hc)
  intro v M' H locs ls' pc' hQ hn' hP' hS' hdg
  have fin : ∀ t : State, t.heap = H → mx_Qm Q D ad cy (av.map (mx_r ad)).toArray s (.returned (v.map (mx_r ad))) t := fun t ht => ⟨⟨v, M', rfl, hQ, by rw [ht]; exact hP'⟩, hS'.F ht⟩
  match v, hn', hdg, fin with
  | none, hn', hdg, fin =>
    exact W.vret B.exec B.bytes (hr.trans hn') (fun t ht _ => fin t ht) hS'.2.2 hdg
  | some (.int x), hn', hdg, fin =>
    rcases hn' with hn' | ⟨hn', hnar⟩
    · exact W.iret B.exec B.bytes (hr.trans hn') (fun t ht _ => fin t ht) hS'.2.2 hdg
    · exact W.zret B.exec B.bytes (hr.trans hn') hnar (fun t ht _ => fin t ht) hS'.2.2 hdg
  | some (.double x), hn', hdg, fin =>
    exact W.dret B.exec B.bytes (hr.trans hn') (fun t ht _ => fin t ht) hS'.2.2 hdg
  | some (.long x), hn', hdg, fin =>
    exact W.lret B.exec B.bytes (hr.trans hn') (fun t ht _ => fin t ht) hS'.2.2 hdg
