/-! THE BUILDING MACHINE: places in the order of allocation, place i at address h0 + i -/
abbrev cx_E : Type := (Nat × Nat × (Nat → Int32) × (Nat → Option Nat)) ⊕ (Nat × List Value)
def cx_ad (h0 : Nat) (i : Nat) : Nat := h0 + i
def cx_c (h0 : Nat) (cy : Nat → ClassId) (e : cx_E) : va_E := match e with
  | .inl a => if a.1 < 2 then .inl (cy a.1, a.2.1, .inl a.2.2.1) else .inl (cy a.1, a.2.1, .inr (.inr (.inr (.inr (fun i => (a.2.2.2 i).map (cx_ad h0))))))
  | .inr o => .inr (o.1, o.2.map (mx_r (cx_ad h0)))
def cx_w (h0 : Nat) (cy : Nat → ClassId) (E : List cx_E) : va_W := E.mapIdx (fun i e => (cx_ad h0 i, cx_c h0 cy e))
theorem cx_w_get {h0 : Nat} {cy : Nat → ClassId} {E : List cx_E} {p : Nat} {e : cx_E} (h : E[p]? = some e) : (cx_w h0 cy E)[p]? = some (cx_ad h0 p, cx_c h0 cy e) := by
  unfold cx_w; rw [List.getElem?_mapIdx, h]; rfl
theorem cx_w_at {h0 : Nat} {cy : Nat → ClassId} {E : List cx_E} {p : Nat} {q : Nat × va_E} (h : (cx_w h0 cy E)[p]? = some q) : q.1 = h0 + p := by
  unfold cx_w at h
  rw [List.getElem?_mapIdx] at h
  obtain ⟨e, -, rfl⟩ := Option.map_eq_some_iff.mp h
  rfl
theorem cx_w_push (h0 : Nat) (cy : Nat → ClassId) (E : List cx_E) (e : cx_E) : cx_w h0 cy (E ++ [e]) = cx_w h0 cy E ++ [(h0 + E.length, cx_c h0 cy e)] := by
  unfold cx_w; rw [List.mapIdx_append]; simp [cx_ad]
theorem cx_w_set (h0 : Nat) (cy : Nat → ClassId) (E : List cx_E) (p : Nat) (e : cx_E) : (cx_w h0 cy E).set p (cx_ad h0 p, cx_c h0 cy e) = cx_w h0 cy (E.set p e) := by
  apply List.ext_getElem?
  intro i
  unfold cx_w
  rw [List.getElem?_set, List.getElem?_mapIdx, List.getElem?_mapIdx, List.getElem?_set, List.length_mapIdx]
  by_cases h : p = i
  · subst h
    rw [if_pos rfl, if_pos rfl]
    split <;> rfl
  · rw [if_neg h, if_neg h]
theorem cx_w_D (h0 : Nat) (cy : Nat → ClassId) (E : List cx_E) : va_D (fun q => h0 ≤ q) (cx_w h0 cy E) :=
  ⟨fun i j p q hp hq h => by have := cx_w_at hp; have := cx_w_at hq; omega, fun k q hq => by show h0 ≤ q.1; have := cx_w_at hq; omega⟩
/-- what the tables say of the rows of rows and of references -/
def cx_O (cy : Nat → ClassId) (U : State) : Prop := va_AO RX3 U ∧ (∃ k, U.vm.classes[cy 3]? = some k ∧ k.kind = .array (cy 0) (.array .int)) ∧ ∃ k cX, U.vm.classes[cy 0]? = some k ∧ k.kind = .array cX .int
theorem cx_O.moved {cy : Nat → ClassId} {u U : State} (hvm : u.vm.Alike U.vm) (h : cx_O cy u) : cx_O cy U := by
  obtain ⟨h1, ⟨k, h2, h3⟩, k2, cX, h4, h5⟩ := h
  obtain ⟨k', hk', he⟩ := hvm.2.2 _ _ h2
  obtain ⟨k2', hk2', he2⟩ := hvm.2.2 _ _ h4
  exact ⟨h1.moved hvm, ⟨k', hk', by rw [he]; exact h3⟩, k2', cX, hk2', by rw [he2]; exact h5⟩
/-- a configuration: pc, locals, stack, entries, cells, slots -/
abbrev cx_C : Type := Nat × List (Option Value) × List Value × List cx_E × Nat × Nat
def cx_V (K L n0 : Nat) (cc : ByteArray) (own : String) (nL d : Nat) (a b : cx_C) : Prop :=
  ∀ (p : Program) (l : Launch) (e : Env) (R : Room) (s : State) (m : MethodId) (args : Array Value) (below : List Frame) (meth : Method) (c : Code) (D : va_G) (h0 : Nat) (cy : Nat → ClassId) (H0 : Heap) (Z : State → Prop),
    p.tables.exec = Jvm.exec → c.code = cc → c.maxLocals = nL → meth.name = "<init>" → s.vm.findClass own = some m.cls → (∀ w ∈ mx_TW, w.before args s = true) → mx_S D cy s → cx_O cy s → (d ≤ R.frames ∧ 38 * d ≤ R.locals ∧ K ≤ R.cells ∧ L ≤ R.slots) → h0 ≤ H0.size → s.heap.size = h0 + n0 →
    (∀ (H : Heap) (locs : List Loc) (lsA : Array Slot), va_P D vwCl (cx_w h0 cy b.2.2.2.1) H → va_S (fun q => h0 ≤ q) H0 H locs → mx_L (cx_ad h0) b.2.1 lsA nL → W p l e R s m args below meth c H locs b.2.2.2.2.1 b.2.2.2.2.2 Z (F0 m b.1 lsA (b.2.2.1.map (mx_r (cx_ad h0))))) →
    ∀ (H : Heap) (locs : List Loc) (lsA : Array Slot), va_P D vwCl (cx_w h0 cy a.2.2.2.1) H → va_S (fun q => h0 ≤ q) H0 H locs → mx_L (cx_ad h0) a.2.1 lsA nL → W p l e R s m args below meth c H locs a.2.2.2.2.1 a.2.2.2.2.2 Z (F0 m a.1 lsA (a.2.2.1.map (mx_r (cx_ad h0))))
theorem cx_end {K L n0 : Nat} {cc : ByteArray} {own : String} {nL d : Nat} {a : cx_C} : cx_V K L n0 cc own nL d a a := by
  intro p l e R s m args below meth c D h0 cy H0 Z hx hb hml hnm hown hts hS hO hR hH hn0 hE
  exact hE
/-- a new entry at the end -/
theorem cx_push {D : va_G} {h0 : Nat} {cy : Nat → ClassId} {E : List cx_E} {H H1 H0 : Heap} {locs : List Loc} {e : cx_E} (hP : va_P D vwCl (cx_w h0 cy E) H) (hS : va_S (fun q => h0 ≤ q) H0 H locs) (z1 : H1.size = H.size + 1) (o1 : ∀ q, q < H.size → H1[q]? = H[q]?) (hat : va_at D vwCl (h0 + E.length, cx_c h0 cy e) H1) :
    va_P D vwCl (cx_w h0 cy (E ++ [e])) H1 ∧ va_S (fun q => h0 ≤ q) H0 H1 locs := by
  refine ⟨?_, ⟨Nat.le_trans hS.1 (by omega), fun x h1 h2 => (o1 x (Nat.lt_of_lt_of_le h1 hS.1)).trans (hS.2.1 x h1 h2), hS.2.2⟩⟩
  rw [cx_w_push]
  refine (hP.kept fun k x hx => o1 x.1 (hP k x hx).lt).app (fun k x hx => ?_)
  have hk : k < 1 := (List.getElem?_eq_some_iff.mp hx).1
  rw [show k = 0 by omega] at hx
  cases hx
  exact hat
/-- the heap's size is known: what stands there fills what may have been made -/
theorem cx_known {p : Program} {l : Launch} {e : Env} {R : Room} {s : State} {m : MethodId} {args : Array Value} {below : List Frame} {meth : Method} {c : Code} {D : va_G} {h0 n0 : Nat} {cy : Nat → ClassId} {E : List cx_E} {H H0 : Heap} {locs : List Loc} {ce sl : Nat} {Z : State → Prop} {g : JFrame}
    (hP : va_P D vwCl (cx_w h0 cy E) H) (hSS : va_S (fun q => h0 ≤ q) H0 H locs) (hH : h0 ≤ H0.size) (hn0 : s.heap.size = h0 + n0) (hl : E.length = n0 + ce) (k : H.size = h0 + E.length → W p l e R s m args below meth c H locs ce sl Z g) : W p l e R s m args below meth c H locs ce sl Z g := by
  intro T hT X
  refine k ?_ T hT X
  have h1 := X.heapSize
  rw [hT] at h1
  have h4 := hSS.1
  by_cases h0' : E.length = 0
  · omega
  · obtain ⟨y, hy⟩ := get_lt (show E.length - 1 < E.length by omega)
    have h2 := (hP _ _ (cx_w_get hy)).lt
    have h3 : h0 + (E.length - 1) < H.size := h2
    omega
theorem cx_aload_n {K L n0 : Nat} {cc : ByteArray} {own : String} {nL d pc pc' : Nat} {ls : List (Option Value)} {st : List Value} {E : List cx_E} {ce sl : Nat} {b : cx_C} {i : Fin 4} {x : Nat} (hd : decode cc pc = .ok (.aload_n i, 1)) (hl : ls[i.val]? = some (some (.ref x))) (hp : pc + 1 = pc') (k : cx_V K L n0 cc own nL d (pc', ls, .ref x :: st, E, ce, sl) b) : cx_V K L n0 cc own nL d (pc, ls, st, E, ce, sl) b := by
  intro p l e R s m args below meth c D h0 cy H0 Z hx hb hml hnm hown hts hS hO hR hH hn0 hE H locs lsA hP hSS hL
  subst hp
  exact lv_aload_n hx hb hd rfl (hL.2.2.2 i.val _ hl) (k p l e R s m args below meth c D h0 cy H0 Z hx hb hml hnm hown hts hS hO hR hH hn0 hE H locs lsA hP hSS hL)
theorem cx_iload_n {K L n0 : Nat} {cc : ByteArray} {own : String} {nL d pc pc' : Nat} {ls : List (Option Value)} {st : List Value} {E : List cx_E} {ce sl : Nat} {b : cx_C} {i : Fin 4} {x : Int32} (hd : decode cc pc = .ok (.iload_n i, 1)) (hl : ls[i.val]? = some (some (.int x))) (hp : pc + 1 = pc') (k : cx_V K L n0 cc own nL d (pc', ls, .int x :: st, E, ce, sl) b) : cx_V K L n0 cc own nL d (pc, ls, st, E, ce, sl) b := by
  intro p l e R s m args below meth c D h0 cy H0 Z hx hb hml hnm hown hts hS hO hR hH hn0 hE H locs lsA hP hSS hL
  subst hp
  exact lv_iload_n hx hb hd rfl (hL.2.2.2 i.val _ hl) (k p l e R s m args below meth c D h0 cy H0 Z hx hb hml hnm hown hts hS hO hR hH hn0 hE H locs lsA hP hSS hL)
theorem cx_iconst {K L n0 : Nat} {cc : ByteArray} {own : String} {nL d pc pc' : Nat} {ls : List (Option Value)} {st : List Value} {E : List cx_E} {ce sl : Nat} {b : cx_C} {n : Int} {v : Int32} (hd : decode cc pc = .ok (.iconst n, 1)) (hv : Int32.ofInt n = v) (hp : pc + 1 = pc') (k : cx_V K L n0 cc own nL d (pc', ls, .int v :: st, E, ce, sl) b) : cx_V K L n0 cc own nL d (pc, ls, st, E, ce, sl) b := by
  intro p l e R s m args below meth c D h0 cy H0 Z hx hb hml hnm hown hts hS hO hR hH hn0 hE H locs lsA hP hSS hL
  subst hp
  exact lv_iconst hx hb hd hv (k p l e R s m args below meth c D h0 cy H0 Z hx hb hml hnm hown hts hS hO hR hH hn0 hE H locs lsA hP hSS hL)
theorem cx_bipush {K L n0 : Nat} {cc : ByteArray} {own : String} {nL d pc pc' : Nat} {ls : List (Option Value)} {st : List Value} {E : List cx_E} {ce sl : Nat} {b : cx_C} {n : Int} {v : Int32} (hd : decode cc pc = .ok (.bipush n, 2)) (hv : (Int8.ofInt n).toInt32 = v) (hp : pc + 2 = pc') (k : cx_V K L n0 cc own nL d (pc', ls, .int v :: st, E, ce, sl) b) : cx_V K L n0 cc own nL d (pc, ls, st, E, ce, sl) b := by
  intro p l e R s m args below meth c D h0 cy H0 Z hx hb hml hnm hown hts hS hO hR hH hn0 hE H locs lsA hP hSS hL
  subst hp
  exact lv_bipush hx hb hd hv (k p l e R s m args below meth c D h0 cy H0 Z hx hb hml hnm hown hts hS hO hR hH hn0 hE H locs lsA hP hSS hL)
theorem cx_sipush {K L n0 : Nat} {cc : ByteArray} {own : String} {nL d pc pc' : Nat} {ls : List (Option Value)} {st : List Value} {E : List cx_E} {ce sl : Nat} {b : cx_C} {n : Int} {v : Int32} (hd : decode cc pc = .ok (.sipush n, 3)) (hv : (Int16.ofInt n).toInt32 = v) (hp : pc + 3 = pc') (k : cx_V K L n0 cc own nL d (pc', ls, .int v :: st, E, ce, sl) b) : cx_V K L n0 cc own nL d (pc, ls, st, E, ce, sl) b := by
  intro p l e R s m args below meth c D h0 cy H0 Z hx hb hml hnm hown hts hS hO hR hH hn0 hE H locs lsA hP hSS hL
  subst hp
  exact lv_sipush hx hb hd hv (k p l e R s m args below meth c D h0 cy H0 Z hx hb hml hnm hown hts hS hO hR hH hn0 hE H locs lsA hP hSS hL)
theorem cx_dup {K L n0 : Nat} {cc : ByteArray} {own : String} {nL d pc pc' : Nat} {ls : List (Option Value)} {st : List Value} {E : List cx_E} {ce sl : Nat} {b : cx_C} {v : Value} (hd : decode cc pc = .ok (.dup, 1)) (hv : v.category = 1) (hp : pc + 1 = pc') (k : cx_V K L n0 cc own nL d (pc', ls, v :: v :: st, E, ce, sl) b) : cx_V K L n0 cc own nL d (pc, ls, v :: st, E, ce, sl) b := by
  intro p l e R s m args below meth c D h0 cy H0 Z hx hb hml hnm hown hts hS hO hR hH hn0 hE H locs lsA hP hSS hL
  subst hp
  exact lv_dup hx hb hd ((mx_r_cat _ v).trans hv) (k p l e R s m args below meth c D h0 cy H0 Z hx hb hml hnm hown hts hS hO hR hH hn0 hE H locs lsA hP hSS hL)
theorem cx_istore_n {K L n0 : Nat} {cc : ByteArray} {own : String} {nL d pc pc' : Nat} {ls : List (Option Value)} {st : List Value} {E : List cx_E} {ce sl : Nat} {b : cx_C} {i : Fin 4} {x : Int32} {ls' : List (Option Value)} (hd : decode cc pc = .ok (.istore_n i, 1)) (hi : i.val < nL) (hc : mx_c1 ls = true) (hls : ls.set i.val (some (.int x)) = ls') (hp : pc + 1 = pc') (k : cx_V K L n0 cc own nL d (pc', ls', st, E, ce, sl) b) : cx_V K L n0 cc own nL d (pc, ls, .int x :: st, E, ce, sl) b := by
  intro p l e R s m args below meth c D h0 cy H0 Z hx hb hml hnm hown hts hS hO hR hH hn0 hE H locs lsA hP hSS hL
  subst hp
  subst hls
  exact lv_istore_n hx hb hd rfl hL.has hi rfl (fun a' h' => k p l e R s m args below meth c D h0 cy H0 Z hx hb hml hnm hown hts hS hO hR hH hn0 hE H locs a' hP hSS (hL.store hc h'))
theorem cx_iinc {K L n0 : Nat} {cc : ByteArray} {own : String} {nL d pc pc' : Nat} {ls : List (Option Value)} {st : List Value} {E : List cx_E} {ce sl : Nat} {b : cx_C} {i : Nat} {n : Int} {x v : Int32} {ls' : List (Option Value)} (hd : decode cc pc = .ok (.iinc i n, 3)) (hl : ls[i]? = some (some (.int x))) (hv : x + Int32.ofInt n = v) (hi : i < nL) (hc : mx_c1 ls = true) (hls : ls.set i (some (.int v)) = ls') (hp : pc + 3 = pc') (k : cx_V K L n0 cc own nL d (pc', ls', st, E, ce, sl) b) : cx_V K L n0 cc own nL d (pc, ls, st, E, ce, sl) b := by
  intro p l e R s m args below meth c D h0 cy H0 Z hx hb hml hnm hown hts hS hO hR hH hn0 hE H locs lsA hP hSS hL
  subst hp
  subst hls
  obtain ⟨j, hj⟩ := List.getElem?_of_mem (mx_as_mem (ad := cx_ad h0) hl)
  exact lv_iinc (k := j) hx hb hd hL.has hj hv hi rfl (fun a' h' => k p l e R s m args below meth c D h0 cy H0 Z hx hb hml hnm hown hts hS hO hR hH hn0 hE H locs a' hP hSS (hL.store hc h'))
theorem cx_goto {K L n0 : Nat} {cc : ByteArray} {own : String} {nL d pc pc' : Nat} {ls : List (Option Value)} {st : List Value} {E : List cx_E} {ce sl : Nat} {b : cx_C} {off : Int} (hd : decode cc pc = .ok (.goto off, 3)) (ht : (pc : Int) + off = (pc' : Int))  (k : cx_V K L n0 cc own nL d (pc', ls, st, E, ce, sl) b) : cx_V K L n0 cc own nL d (pc, ls, st, E, ce, sl) b := by
  intro p l e R s m args below meth c D h0 cy H0 Z hx hb hml hnm hown hts hS hO hR hH hn0 hE H locs lsA hP hSS hL
  exact lv_goto hx hb hd ht (k p l e R s m args below meth c D h0 cy H0 Z hx hb hml hnm hown hts hS hO hR hH hn0 hE H locs lsA hP hSS hL)
theorem cx_ge_t {K L n0 : Nat} {cc : ByteArray} {own : String} {nL d pc pc' : Nat} {ls : List (Option Value)} {st : List Value} {E : List cx_E} {ce sl : Nat} {b : cx_C} {x y : Int32} {off : Int} (hd : decode cc pc = .ok (.if_icmp .ge off, 3)) (ht : (pc : Int) + off = (pc' : Int)) (h : y ≤ x)  (k : cx_V K L n0 cc own nL d (pc', ls, st, E, ce, sl) b) : cx_V K L n0 cc own nL d (pc, ls, .int y :: .int x :: st, E, ce, sl) b := by
  intro p l e R s m args below meth c D h0 cy H0 Z hx hb hml hnm hown hts hS hO hR hH hn0 hE H locs lsA hP hSS hL
  exact lv_icmp_ge hx hb hd ht (fun _ => (k p l e R s m args below meth c D h0 cy H0 Z hx hb hml hnm hown hts hS hO hR hH hn0 hE H locs lsA hP hSS hL)) (fun q => absurd h q)
theorem cx_ge_f {K L n0 : Nat} {cc : ByteArray} {own : String} {nL d pc pc' : Nat} {ls : List (Option Value)} {st : List Value} {E : List cx_E} {ce sl : Nat} {b : cx_C} {x y : Int32} {off : Int} {tgt : Nat} (hd : decode cc pc = .ok (.if_icmp .ge off, 3)) (ht : (pc : Int) + off = (tgt : Int)) (h : ¬ y ≤ x) (hp : pc + 3 = pc') (k : cx_V K L n0 cc own nL d (pc', ls, st, E, ce, sl) b) : cx_V K L n0 cc own nL d (pc, ls, .int y :: .int x :: st, E, ce, sl) b := by
  intro p l e R s m args below meth c D h0 cy H0 Z hx hb hml hnm hown hts hS hO hR hH hn0 hE H locs lsA hP hSS hL
  subst hp
  exact lv_icmp_ge hx hb hd ht (fun q => absurd q h) (fun _ => (k p l e R s m args below meth c D h0 cy H0 Z hx hb hml hnm hown hts hS hO hR hH hn0 hE H locs lsA hP hSS hL))
theorem cx_getr {K L n0 : Nat} {cc : ByteArray} {own : String} {nL d pc pc' : Nat} {ls : List (Option Value)} {st : List Value} {E : List cx_E} {ce sl : Nat} {b : cx_C} {idx ci k0 a b1 : Nat} {ty : FieldType} {fin : Bool} {fs : List Value} (hd : decode cc pc = .ok (.getfield idx, 3)) (hf : mx_F own idx ci k0 ty fin) (hs : E[a]? = some (.inr (ci, fs))) (ht : fs[k0]? = some (.ref b1)) (hp : pc + 3 = pc') (k : cx_V K L n0 cc own nL d (pc', ls, .ref b1 :: st, E, ce, sl) b) : cx_V K L n0 cc own nL d (pc, ls, .ref a :: st, E, ce, sl) b := by
  intro p l e R s m args below meth c D h0 cy H0 Z hx hb hml hnm hown hts hS hO hR hH hn0 hE H locs lsA hP hSS hL
  subst hp
  obtain ⟨C, T, N, t0, h1, h2, h3, h4, h5, h6, h7, h8⟩ := hf
  exact va_get (Ts := mx_TW) (v := .ref (cx_ad h0 b1)) hx hb hts h4 hown hS.1 hP a (cx_w_get hs) h1 k0 h2 (hts _ h3) (fun _ h => h) (by rw [List.getElem?_map, ht]; rfl) hd (k p l e R s m args below meth c D h0 cy H0 Z hx hb hml hnm hown hts hS hO hR hH hn0 hE H locs lsA hP hSS hL)
theorem cx_put {K L n0 : Nat} {cc : ByteArray} {own : String} {nL d pc pc' : Nat} {ls : List (Option Value)} {st : List Value} {E : List cx_E} {ce sl : Nat} {b : cx_C} {idx ci k0 a : Nat} {ty : FieldType} {fs : List Value} {v : Value} (hd : decode cc pc = .ok (.putfield idx, 3)) (hf : mx_F own idx ci k0 ty false) (hs : E[a]? = some (.inr (ci, fs))) (hlt : k0 < fs.length) (hn : ∀ h : Nat, narrow ty (mx_r (cx_ad h) v) = mx_r (cx_ad h) v ∧ fits ty (mx_r (cx_ad h) v) = true) (hp : pc + 3 = pc') (k : cx_V K L n0 cc own nL d (pc', ls, st, E.set a (.inr (ci, fs.set k0 v)), ce, sl) b) : cx_V K L n0 cc own nL d (pc, ls, v :: .ref a :: st, E, ce, sl) b := by
  intro p l e R s m args below meth c D h0 cy H0 Z hx hb hml hnm hown hts hS hO hR hH hn0 hE H locs lsA hP hSS hL
  subst hp
  obtain ⟨C, T, N, t0, h1, h2, h3, h4, h5, h6, h7, h8⟩ := hf
  refine va_put (Ts := mx_TW) (v := mx_r (cx_ad h0) v) (ty := ty) hx hb hts h4 t0 h5 h6 hown hS.1 hP (cx_w_D h0 cy E) hSS a (cx_w_get hs) h1 k0 h2 (hts _ h3) (fun _ h => h) h8 ((h5 k0 h2).trans (congrArg some h7)) (hn h0).1 (hn h0).2 (by rw [List.length_map]; exact hlt) hd (fun H1 locs1 hP1 _ hS1 => ?_)
  have eS := cx_w_set h0 cy E a (.inr (ci, fs.set k0 v))
  rw [show cx_c h0 cy (.inr (ci, fs.set k0 v)) = .inr (ci, (fs.map (mx_r (cx_ad h0))).set k0 (mx_r (cx_ad h0) v)) by show Sum.inr _ = _; rw [List.map_set]] at eS
  rw [show (cx_w h0 cy E).set a (cx_ad h0 a, .inr (ci, (fs.map (mx_r (cx_ad h0))).set k0 (mx_r (cx_ad h0) v))) = _ from eS] at hP1
  exact (k p l e R s m args below meth c D h0 cy H0 Z hx hb hml hnm hown hts hS hO hR hH hn0 hE H1 locs1 lsA hP1 hS1 hL)
theorem cx_putF {K L n0 : Nat} {cc : ByteArray} {own : String} {nL d pc pc' : Nat} {ls : List (Option Value)} {st : List Value} {E : List cx_E} {ce sl : Nat} {b : cx_C} {idx ci k0 a : Nat} {ty : FieldType} {fs : List Value} {v : Value} (hd : decode cc pc = .ok (.putfield idx, 3)) (hf : mx_F own idx ci k0 ty true) (hs : E[a]? = some (.inr (ci, fs))) (hlt : k0 < fs.length) (hn : ∀ h : Nat, narrow ty (mx_r (cx_ad h) v) = mx_r (cx_ad h) v ∧ fits ty (mx_r (cx_ad h) v) = true) (hdc0 : ∀ (C : String) (T : u_T) (N : Nat), vwCl[ci]? = some (C, T, N) → (T k0).1 = own) (hp : pc + 3 = pc') (k : cx_V K L n0 cc own nL d (pc', ls, st, E.set a (.inr (ci, fs.set k0 v)), ce, sl) b) : cx_V K L n0 cc own nL d (pc, ls, v :: .ref a :: st, E, ce, sl) b := by
  intro p l e R s m args below meth c D h0 cy H0 Z hx hb hml hnm hown hts hS hO hR hH hn0 hE H locs lsA hP hSS hL
  subst hp
  obtain ⟨C, T, N, t0, h1, h2, h3, h4, h5, h6, h7, h8⟩ := hf
  have hdc := hdc0 C T N h1
  refine va_putF (Ts := mx_TW) (v := mx_r (cx_ad h0) v) (ty := ty) hx hb hts h4 t0 h5 h6 hown hS.1 hP (cx_w_D h0 cy E) hSS a (cx_w_get hs) h1 k0 h2 (hts _ h3) (fun _ h => h) h8 hnm hdc ((h5 k0 h2).trans (congrArg some h7)) (hn h0).1 (hn h0).2 (by rw [List.length_map]; exact hlt) hd (fun H1 locs1 hP1 _ hS1 => ?_)
  have eS := cx_w_set h0 cy E a (.inr (ci, fs.set k0 v))
  rw [show cx_c h0 cy (.inr (ci, fs.set k0 v)) = .inr (ci, (fs.map (mx_r (cx_ad h0))).set k0 (mx_r (cx_ad h0) v)) by show Sum.inr _ = _; rw [List.map_set]] at eS
  rw [show (cx_w h0 cy E).set a (cx_ad h0 a, .inr (ci, (fs.map (mx_r (cx_ad h0))).set k0 (mx_r (cx_ad h0) v))) = _ from eS] at hP1
  exact (k p l e R s m args below meth c D h0 cy H0 Z hx hb hml hnm hown hts hS hO hR hH hn0 hE H1 locs1 lsA hP1 hS1 hL)
theorem cx_iast {K L n0 : Nat} {cc : ByteArray} {own : String} {nL d pc pc' : Nat} {ls : List (Option Value)} {st : List Value} {E : List cx_E} {ce sl : Nat} {b : cx_C} {a n j : Nat} {x y : Int32} {f : Nat → Int32} {g : Nat → Option Nat} (hd : decode cc pc = .ok (.iastore, 1)) (hs : E[a]? = some (.inl (0, n, f, g))) (hxj : x = nI j) (hj : j < n) (hn : n < 100000) (hp : pc + 1 = pc') (k : cx_V K L n0 cc own nL d (pc', ls, st, E.set a (.inl (0, n, upd f j y, g)), ce, sl) b) : cx_V K L n0 cc own nL d (pc, ls, .int y :: .int x :: .ref a :: st, E, ce, sl) b := by
  intro p l e R s m args below meth c D h0 cy H0 Z hx hb hml hnm hown hts hS hO hR hH hn0 hE H locs lsA hP hSS hL
  subst hp
  subst hxj
  have hc : (nI j).toNatClampNeg = j := nI_clamp (by omega)
  refine va_iast hx hb hS.1 hP (cx_w_D h0 cy E) hSS a 0 (cx_w_get hs) rfl (vp_in_nI hj (Nat.lt_trans hn (by decide))) hd (fun H1 locs1 hP1 _ hS1 => ?_)
  rw [hc] at hP1
  rw [show (cx_w h0 cy E).set a (cx_ad h0 a, .inl (cy 0, n, .inl (upd f j y))) = _ from cx_w_set h0 cy E a (.inl (0, n, upd f j y, g))] at hP1
  exact (k p l e R s m args below meth c D h0 cy H0 Z hx hb hml hnm hown hts hS hO hR hH hn0 hE H1 locs1 lsA hP1 hS1 hL)
theorem cx_aast {K L n0 : Nat} {cc : ByteArray} {own : String} {nL d pc pc' : Nat} {ls : List (Option Value)} {st : List Value} {E : List cx_E} {ce sl : Nat} {b : cx_C} {a n j b1 : Nat} {x : Int32} {f : Nat → Int32} {g : Nat → Option Nat} {fs : List Value} (hd : decode cc pc = .ok (.aastore, 1)) (hs : E[a]? = some (.inl (2, n, f, g))) (hxj : x = nI j) (hj : j < n) (hn : n < 100000) (hb1 : E[b1]? = some (.inr (3, fs))) (hp : pc + 1 = pc') (k : cx_V K L n0 cc own nL d (pc', ls, st, E.set a (.inl (2, n, f, va_up g j (some b1))), ce, sl) b) : cx_V K L n0 cc own nL d (pc, ls, .ref b1 :: .int x :: .ref a :: st, E, ce, sl) b := by
  intro p l e R s m args below meth c D h0 cy H0 Z hx hb hml hnm hown hts hS hO hR hH hn0 hE H locs lsA hP hSS hL
  subst hp
  subst hxj
  have hc : (nI j).toNatClampNeg = j := nI_clamp (by omega)
  refine va_astq (r := (RX3, TX3, 9)) hx hb hS.1 hP (cx_w_D h0 cy E) hSS a 2 b1 3 (cx_w_get hs) rfl (cx_w_get hb1) rfl (vp_in_nI hj (Nat.lt_trans hn (by decide))) hd (fun H1 locs1 hP1 _ hS1 => ?_)
  rw [hc] at hP1
  have eg : (fun i => ((va_up g j (some b1)) i).map (cx_ad h0)) = va_up (fun i => (g i).map (cx_ad h0)) j (some (cx_ad h0 b1)) := by
    funext i
    unfold va_up
    by_cases hi : i = j <;> simp [hi]
  have ec : cx_c h0 cy (.inl (2, n, f, va_up g j (some b1))) = .inl (cy 2, n, .inr (.inr (.inr (.inr (va_up (fun i => (g i).map (cx_ad h0)) j (some (cx_ad h0 b1))))))) := by
    rw [← eg]
    rfl
  have eS := cx_w_set h0 cy E a (.inl (2, n, f, va_up g j (some b1)))
  rw [ec] at eS
  rw [show (cx_w h0 cy E).set a (cx_ad h0 a, .inl (cy 2, n, .inr (.inr (.inr (.inr (va_up (fun i => (g i).map (cx_ad h0)) j (some (cx_ad h0 b1)))))))) = _ from eS] at hP1
  exact (k p l e R s m args below meth c D h0 cy H0 Z hx hb hml hnm hown hts hS hO hR hH hn0 hE H1 locs1 lsA hP1 hS1 hL)
theorem cx_newi {K L n0 : Nat} {cc : ByteArray} {own : String} {nL d pc pc' : Nat} {ls : List (Option Value)} {st : List Value} {E : List cx_E} {ce sl : Nat} {b : cx_C} {N : Nat} {x : Int32} (hd : decode cc pc = .ok (.newarray .int, 2)) (hw : Cond.arrayClass .int ∈ mx_TW) (hxN : x = nI N) (hN : N < 100000) (hle : ce + 1 ≤ K) (hls : sl + N ≤ L) (hlen : E.length = n0 + ce) (hp : pc + 2 = pc') (k : cx_V K L n0 cc own nL d (pc', ls, .ref E.length :: st, E ++ [.inl (0, N, fun _ => 0, fun _ => none)], ce + 1, sl + N) b) : cx_V K L n0 cc own nL d (pc, ls, .int x :: st, E, ce, sl) b := by
  intro p l e R s m args below meth c D h0 cy H0 Z hx hb hml hnm hown hts hS hO hR hH hn0 hE H locs lsA hP hSS hL
  subst hp
  subst hxN
  refine cx_known hP hSS hH hn0 hlen fun hsz => ?_
  have hby : N * componentBytes (newarray.typeOf .int) ≤ 536870912 := Nat.le_trans (Nat.mul_le_mul_left N (show componentBytes (newarray.typeOf .int) ≤ 4 by decide)) (by omega)
  refine va_newaK (atype := .int) hx hb (hts _ hw) rfl hd rfl (nI_pos (by omega)) (nI_clamp (by omega)) hby (Nat.le_trans hle hR.2.2.1) (Nat.le_trans hls hR.2.2.2) hsz fun H1 cA e1 z1 o1 hAr hNm => ?_
  have hcA : cA = cy 0 := Option.some.inj (hNm.symm.trans (hS.1.2 0 _ rfl).2)
  subst hcA
  obtain ⟨hP1, hS1⟩ := cx_push (e := .inl (0, N, fun _ => 0, fun _ => none)) hP hSS (by rw [z1, hsz]) (fun q hq => o1 q (by omega)) (show H1[h0 + E.length]? = _ from e1)
  exact (k p l e R s m args below meth c D h0 cy H0 Z hx hb hml hnm hown hts hS hO hR hH hn0 hE H1 locs lsA hP1 hS1 hL)
theorem cx_newz {K L n0 : Nat} {cc : ByteArray} {own : String} {nL d pc pc' : Nat} {ls : List (Option Value)} {st : List Value} {E : List cx_E} {ce sl : Nat} {b : cx_C} {N : Nat} {x : Int32} (hd : decode cc pc = .ok (.newarray .boolean, 2)) (hw : Cond.arrayClass .boolean ∈ mx_TW) (hxN : x = nI N) (hN : N < 100000) (hle : ce + 1 ≤ K) (hls : sl + N ≤ L) (hlen : E.length = n0 + ce) (hp : pc + 2 = pc') (k : cx_V K L n0 cc own nL d (pc', ls, .ref E.length :: st, E ++ [.inl (1, N, fun _ => 0, fun _ => none)], ce + 1, sl + N) b) : cx_V K L n0 cc own nL d (pc, ls, .int x :: st, E, ce, sl) b := by
  intro p l e R s m args below meth c D h0 cy H0 Z hx hb hml hnm hown hts hS hO hR hH hn0 hE H locs lsA hP hSS hL
  subst hp
  subst hxN
  refine cx_known hP hSS hH hn0 hlen fun hsz => ?_
  have hby : N * componentBytes (newarray.typeOf .boolean) ≤ 536870912 := Nat.le_trans (Nat.mul_le_mul_left N (show componentBytes (newarray.typeOf .boolean) ≤ 4 by decide)) (by omega)
  refine va_newaK (atype := .boolean) hx hb (hts _ hw) rfl hd rfl (nI_pos (by omega)) (nI_clamp (by omega)) hby (Nat.le_trans hle hR.2.2.1) (Nat.le_trans hls hR.2.2.2) hsz fun H1 cA e1 z1 o1 hAr hNm => ?_
  have hcA : cA = cy 1 := Option.some.inj (hNm.symm.trans (hS.1.2 1 _ rfl).2)
  subst hcA
  obtain ⟨hP1, hS1⟩ := cx_push (e := .inl (1, N, fun _ => 0, fun _ => none)) hP hSS (by rw [z1, hsz]) (fun q hq => o1 q (by omega)) (show H1[h0 + E.length]? = _ from e1)
  exact (k p l e R s m args below meth c D h0 cy H0 Z hx hb hml hnm hown hts hS hO hR hH hn0 hE H1 locs lsA hP1 hS1 hL)
