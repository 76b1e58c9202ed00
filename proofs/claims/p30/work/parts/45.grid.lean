/-! A GRID IS MADE: an outer row of n references, and behind it n rows of k ints; the places are the next ones of the heap -/
def gr_o (cO : ClassId) (n h i : Nat) : Cell := arrV cO n (fun j => if j < i then .ref (h + 1 + j) else .null)
def gr_i (cI : ClassId) (k : Nat) : Cell := arrV cI k (fun _ => .int 0)
def gr_S (T : State) (cO cI : ClassId) (n k : Nat) : Nat → State
  | 0 => T.pushCell (gr_o cO n T.heap.size 0)
  | i + 1 => ((gr_S T cO cI n k i).pushCell (gr_i cI k)).setCell T.heap.size (gr_o cO n T.heap.size (i + 1))
theorem gr_next (cO : ClassId) (n h i : Nat) : (gr_o cO n h i).setSlot i (.ref (h + 1 + i)) = gr_o cO n h (i + 1) := by
  unfold gr_o
  rw [arrV_store]
  congr 1
  funext j
  unfold updV
  by_cases hj : j = i
  · rw [if_pos hj, if_pos (by omega), hj]
  · rw [if_neg hj]
    show (if j < i then Value.ref (h + 1 + j) else Value.null) = _
    by_cases h1 : j < i
    · rw [if_pos h1, if_pos (by omega)]
    · rw [if_neg h1, if_neg (by omega)]
theorem gr_top (T : State) (f : JFrame) (cO cI : ClassId) (n k : Nat) : ∀ i, gr_S (T.setTop f) cO cI n k i = (gr_S T cO cI n k i).setTop f
  | 0 => rfl
  | i + 1 => by
    show ((gr_S (T.setTop f) cO cI n k i).pushCell (gr_i cI k)).setCell T.heap.size _ = _
    rw [gr_top T f cO cI n k i]
    rfl
theorem gr_H (T : State) (cO cI : ClassId) (n k : Nat) : ∀ i, (gr_S T cO cI n k i).heap.size = T.heap.size + 1 + i ∧ (gr_S T cO cI n k i).vm = T.vm ∧ (gr_S T cO cI n k i).slotsUsed = T.slotsUsed + n + i * k ∧ (gr_S T cO cI n k i).heap[T.heap.size]? = some (gr_o cO n T.heap.size i) ∧
    (∀ q, q < T.heap.size → (gr_S T cO cI n k i).heap[q]? = T.heap[q]?) ∧ ∀ j, j < i → (gr_S T cO cI n k i).heap[T.heap.size + 1 + j]? = some (gr_i cI k)
  | 0 => ⟨by simp [gr_S], rfl, by simp [gr_S, gr_o, arrV_size], by simp [gr_S], fun q hq => by simp only [gr_S, State.heap_pushCell]; rw [Array.getElem?_push, if_neg (Nat.ne_of_lt hq)], fun j h => absurd h (Nat.not_lt_zero j)⟩
  | i + 1 => by
    obtain ⟨a1, a2, a3, a4, a5, a6⟩ := gr_H T cO cI n k i
    have eH : (gr_S T cO cI n k (i + 1)).heap = ((gr_S T cO cI n k i).heap.push (gr_i cI k)).setIfInBounds T.heap.size (gr_o cO n T.heap.size (i + 1)) := rfl
    refine ⟨by rw [eH, Array.size_setIfInBounds, Array.size_push, a1]; omega, a2, ?_, ?_, fun q hq => ?_, fun j hj => ?_⟩
    · show (gr_S T cO cI n k i).slotsUsed + (gr_i cI k).slots.size = _
      rw [a3, gr_i, arrV_size, Nat.succ_mul]
      omega
    · rw [eH, Array.getElem?_setIfInBounds, if_pos rfl, if_pos (by rw [Array.size_push, a1]; omega)]
    · rw [eH, Array.getElem?_setIfInBounds, if_neg (by omega), Array.getElem?_push, if_neg (by rw [a1]; omega)]
      exact a5 q hq
    · rw [eH, Array.getElem?_setIfInBounds, if_neg (by omega), Array.getElem?_push]
      by_cases h : j = i
      · rw [if_pos (by rw [a1, h])]
      · rw [if_neg (by rw [a1]; omega)]
        exact a6 j (by omega)
section
variable {p : Program} {l : Launch} {e : Env} {R : Room} {s : State} {m : MethodId} {args : Array Value} {below : List Frame} {meth : Method} {c : Code} {T : State} {locs : List Loc} {cells slots : Nat}
theorem gr_X (X : Stand p l e R s m args below meth c T locs cells slots) (cO cI : ClassId) (n k : Nat) : ∀ i, Stand p l e R s m args below meth c (gr_S T cO cI n k i) locs (cells + 1 + i) (slots + n + i * k)
  | 0 => by
    have h := X.pushed (gr_o cO n T.heap.size 0)
    have e : (gr_o cO n T.heap.size 0).slots.size = n := arrV_size _ _ _
    rw [e] at h
    rw [Nat.zero_mul]
    exact h
  | i + 1 => by
    obtain ⟨a1, a2, a3, a4, a5, a6⟩ := gr_H T cO cI n k i
    have h := ((gr_X X cO cI n k i).pushed (gr_i cI k)).stored (a := T.heap.size) (cell := gr_o cO n T.heap.size i) (by
      show ((gr_S T cO cI n k i).heap.push _)[_]? = _
      rw [Array.getElem?_push, if_neg (by rw [a1]; omega)]
      exact a4) i (.ref (T.heap.size + 1 + i))
    rw [gr_next, gr_i, arrV_size] at h
    have h2 := h.dropFresh (fun x hx => by
      rw [List.mem_singleton.mp hx]
      exact X.heapGrown)
    have e3 : slots + n + (i + 1) * k = slots + n + i * k + k := by rw [Nat.succ_mul]; omega
    rw [e3]
    exact h2
end
section
variable {E : CtlPost} {e : Env} {d : Bool} {acts : List Action} {s : State}
theorem gr_row {cA comp : ClassId} {kA : Class} {ty : FieldType} {len : Nat} {x : Value} (hk : s.vm.classes[cA]? = some kA) (hkind : kA.kind = .array comp ty) (hfit : fits ty x = true) (hdef : x.isDefault = true)
    (hl : ¬ len > e.platform.arrayLengthLimit) (hh : ¬ len * componentBytes ty > e.platform.maxHeapBytes) (h1 : s.heap.size < e.platform.maxCells) (h2 : s.slotsUsed + len ≤ e.platform.maxSlots) {Q : Addr → Pre}
    (hq : Q s.heap.size d acts (s.pushCell (arrV cA len (fun _ => x)))) : wp (Jvm.newArray cA len x) Q E e d acts s := by
  rw [← arrV_new] at hq
  have hf : ∀ i v, (Array.replicate len x)[i]? = some v → s.fitsSlot cA .none i v = true := by
    intro i v hv
    rw [Array.getElem?_replicate] at hv
    by_cases hi : i < len
    · rw [if_pos hi] at hv
      cases hv
      simp [State.fitsSlot, State.slotType?, hk, hkind, hfit]
    · rw [if_neg hi] at hv
      cases hv
  have ha : allocActs (Array.replicate len x) s.heap.size acts = acts := by
    unfold allocActs
    rw [if_pos (by rw [Array.all_replicate]; split <;> simp [hdef])]
  simp only [Jvm.newArray, Jvm.arrayFits, wp_bind', W.ask, W.ite, hl, if_false, wp_pure', W.theClass, hk, hkind, hh, W.alloc, W.stop, Option.some.injEq, exists_eq_left', Array.size_replicate, ha]
  rw [if_neg (by omega)]
  exact ⟨h1, h2, hf, hq⟩
/-- the making itself -/
theorem gr_make {cO cI cX : ClassId} {kO kI : Class} {x y : Int32} {n k : Nat} (hkO : s.vm.classes[cO]? = some kO) (hO : kO.kind = .array cI (.array .int)) (hkI : s.vm.classes[cI]? = some kI) (hI : kI.kind = .array cX .int)
    (hx : ¬ x < 0) (hy : ¬ y < 0) (hxn : x.toNatClampNeg = n) (hyk : y.toNatClampNeg = k)
    (hl1 : ¬ n > e.platform.arrayLengthLimit) (hh1 : ¬ n * 4 > e.platform.maxHeapBytes) (hl2 : ¬ k > e.platform.arrayLengthLimit) (hh2 : ¬ k * 4 > e.platform.maxHeapBytes)
    (hc : s.heap.size + 1 + n ≤ e.platform.maxCells) (hs : s.slotsUsed + n + n * k ≤ e.platform.maxSlots) {Q : Addr → Pre} (hq : ∀ d' acts', Q s.heap.size d' acts' (gr_S s cO cI n k n)) :
    wp (multianewarray.make cO [x, y]) Q E e d acts s := by
  have hfind : ([y].find? (· < 0)) = none := by simp [hy]
  rw [multianewarray.make]
  simp only [wp_bind', W.ite, hx, if_false, wp_pure', W.theClass, hkO, hO, Option.some.injEq, exists_eq_left']
  rw [hxn]
  refine gr_row hkO hO rfl rfl hl1 hh1 (by omega) (by have := Nat.zero_le (n * k); omega) ?_
  simp only [hfind]
  rw [ite_self, wp_bind', Std.Legacy.Range.forIn_eq_forIn_range']
  have hsz : ([:n] : Std.Legacy.Range).size = n := by simp [Std.Legacy.Range.size]
  rw [hsz]
  have e0 : s.pushCell (arrV cO n (fun _ => .null)) = gr_S s cO cI n k 0 := by
    show _ = s.pushCell (gr_o cO n s.heap.size 0)
    unfold gr_o
    simp
  rw [e0]
  show wp (forIn (List.range' 0 n 1) PUnit.unit _) _ E e d acts _
  refine wp_forIn_inv (fun rest s' => ∃ i, i ≤ n ∧ rest = List.range' i (n - i) ∧ s' = gr_S s cO cI n k i) _ _ ⟨0, Nat.zero_le n, rfl, rfl⟩ ?_ ?_
  · rintro z rest s' d' acts' Q' ⟨i, hi, hr, rfl⟩ go
    have hlt : i < n := by
      rcases Nat.lt_or_ge i n with h | h
      · exact h
      · rw [show n - i = 0 by omega] at hr
        cases hr
    rw [show n - i = (n - (i + 1)) + 1 by omega, List.range'_succ] at hr
    obtain ⟨rfl, rfl⟩ := List.cons.inj hr
    obtain ⟨a1, a2, a3, a4, a5, a6⟩ := gr_H s cO cI n k z
    have hm : z * k + k ≤ n * k := by
      have := Nat.mul_le_mul_right k (show z + 1 ≤ n from hlt)
      rwa [Nat.succ_mul] at this
    simp only [wp_bind']
    rw [multianewarray.make]
    simp only [wp_bind', W.ite, hy, if_false, wp_pure', W.theClass, a2, hkI, hI, Option.some.injEq, exists_eq_left']
    rw [hyk]
    refine gr_row (kA := kI) (by rw [a2]; exact hkI) hI rfl rfl hl2 hh2 (by rw [a1]; omega) (by rw [a3]; omega) ?_
    simp only [wp_bind', W.writeLoc, wp_pure']
    refine ⟨gr_o cO n s.heap.size z, ?_, by unfold gr_o arrV; simp, by rw [gr_o, arrV_size]; exact hlt, ?_, go _ _ _ ⟨z + 1, hlt, rfl, ?_⟩⟩
    · show ((gr_S s cO cI n k z).heap.push _)[_]? = _
      rw [Array.getElem?_push, if_neg (by rw [a1]; omega)]
      exact a4
    · simp [State.fitsSlot, State.slotType?, a2, gr_o, arrV, hkO, hO, fits]
    · rw [a1, gr_next]
      rfl
  · rintro s' d' acts' ⟨i, hi, hr, rfl⟩
    have : i = n := by
      rcases Nat.lt_or_ge i n with h | h
      · rw [show n - i = (n - (i + 1)) + 1 by omega, List.range'_succ] at hr
        cases hr
      · omega
    subst this
    simp only [wp_pure']
    exact hq _ _
end
section
variable {p : Program} {l : Launch} {e : Env} {R : Room} {s : State} {m : MethodId} {args : Array Value} {below : List Frame} {meth : Method} {c : Code} {H : Heap} {locs : List Loc} {cells slots : Nat} {Q : State → Prop}
theorem gr_full (cO : ClassId) (n h : Nat) : gr_o cO n h n = arrV cO n (fun j => .ref (h + 1 + j)) := by
  unfold gr_o arrV
  congr 2
  funext j
  simp [j.isLt]
/-- the row of the instruction -/
theorem gr_W {cc : ByteArray} (hexec : p.tables.exec = Jvm.exec) (hb : c.code = cc) {own C : String} {index : Nat} (hown : s.vm.findClass own = some m.cls) (hclink : (Cond.classLink own index C).before args s = true)
    {cO cI cX : ClassId} {kO kI : Class} (hC : s.vm.findClass C = some cO) (hkO : s.vm.classes[cO]? = some kO) (hO : kO.kind = .array cI (.array .int)) (hkI : s.vm.classes[cI]? = some kI) (hI : kI.kind = .array cX .int)
    {g : JFrame} (hg : g.method = m) (hdg : decode cc g.pc = .ok (.multianewarray index 2, 4)) {x y : Int32} {n k : Nat} {rest : List Value} (hstack : g.stack = .int y :: .int x :: rest)
    (hx : ¬ x < 0) (hy : ¬ y < 0) (hxn : x.toNatClampNeg = n) (hyk : y.toNatClampNeg = k) (hn : n ≤ 100000) (hk : k ≤ 100000) (hcells : cells + (1 + n) ≤ R.cells) (hslots : slots + (n + n * k) ≤ R.slots)
    (kk : ∀ H1 : Heap, H1.size = H.size + 1 + n → (∀ q, q < H.size → H1[q]? = H[q]?) → H1[H.size]? = some (arrV cO n (fun j => .ref (H.size + 1 + j))) → (∀ j, j < n → H1[H.size + 1 + j]? = some (arrV cI k (fun _ => .int 0))) →
      W p l e R s m args below meth c H1 locs (cells + 1 + n) (slots + n + n * k) Q { g with pc := g.pc + 4, stack := .ref H.size :: rest }) : W p l e R s m args below meth c H locs cells slots Q g := by
  intro T hT X
  subst hT; subst hb; subst hg
  have hpl : e.platform.magicAccessors = ({} : Platform).magicAccessors := by rw [X.admits.platform]
  obtain ⟨c0, hfc0, hcl⟩ := Cond.classLink_spec hown hclink e.platform hpl
  cases hC.symm.trans hfc0
  obtain ⟨hg₁, hwarm₁, hready₁⟩ := State.classEntry (e := e) X.warmed hcl
  generalize T.vm.noted g.method.cls index (.cls cO) = vm₁ at hg₁ hwarm₁ hready₁
  have hal : s.vm.Alike vm₁ := hwarm₁.alike
  obtain ⟨kO₁, hkO₁, heO⟩ := hal.2.2 _ _ hkO
  obtain ⟨kI₁, hkI₁, heI⟩ := hal.2.2 _ _ hkI
  have hO₁ : kO₁.kind = .array cI (.array .int) := by rw [heO]; exact hO
  have hI₁ : kI₁.kind = .array cX .int := by rw [heI]; exact hI
  have X₁ := X.noted hwarm₁
  obtain ⟨hr1, hr2⟩ := X.roomAbove hcells hslots
  have XF := gr_X X₁ cO cI n k n
  obtain ⟨a1, a2, a3, a4, a5, a6⟩ := gr_H (T.setVm vm₁) cO cI n k n
  obtain ⟨t, st, hq⟩ := kk (gr_S (T.setVm vm₁) cO cI n k n).heap a1 a5 (by rw [gr_full] at a4; exact a4) a6 (gr_S (T.setVm vm₁) cO cI n k n) rfl XF
  refine ⟨t, ?_, hq⟩
  have hl1 : ¬ n > e.platform.arrayLengthLimit := by rw [Launch.admits_arrayLengthLimit X.admits]; omega
  have hh1 : ¬ n * 4 > e.platform.maxHeapBytes := by rw [Launch.admits_maxHeapBytes X.admits]; omega
  have hl2 : ¬ k > e.platform.arrayLengthLimit := by rw [Launch.admits_arrayLengthLimit X.admits]; omega
  have hh2 : ¬ k * 4 > e.platform.maxHeapBytes := by rw [Launch.admits_maxHeapBytes X.admits]; omega
  jvm_step X.here [hexec, hdg]
  simp only [multianewarray.sem, wp_bind', W.resolveClassAt_links (State.method?_setTop g X.here.top) hg₁]
  rw [W.popN, if_neg (by decide)]
  refine ⟨g, State.topJava?_setTop' (s := T.setVm vm₁) g X.here.top, [.int x, .int y], rest, rfl, hstack, ?_⟩
  simp only [List.mapM_cons, List.mapM_nil, wp_bind', wp_pure']
  refine gr_make (n := n) (k := k) (cI := cI) (kO := kO₁) (kI := kI₁) (cX := cX) hkO₁ hO₁ hkI₁ hI₁ hx hy hxn hyk hl1 hh1 hl2 hh2 (by show T.heap.size + 1 + n ≤ _; omega) (by show T.slotsUsed + n + n * k ≤ _; omega) (fun d' acts' => ?_)
  have eS : ((T.setTop g).setVm vm₁).setTop { g with stack := rest } = (T.setVm vm₁).setTop { g with stack := rest } := by
    show ((T.setVm vm₁).setTop g).setTop _ = _
    rw [State.setTop_setTop]
  rw [eS, gr_top]
  simp only [wp_bind', W.mark, W.pushRef, State.topJava?_setTop' _ XF.here.top, Option.some.injEq, exists_eq_left', State.setTop_setTop, State.heap_setTop]
  intro acts
  simp [jvm, XF.here.top]
  exact st
end
