/-! THE LAW'S OWN MACHINE: its script at b (place 143 of ad), the object in the mini machine's memory, 143 cells made -/
def lx_C (p : Program) (s : State) (m : MethodId) (c : Code) (b L : Nat) (xs : Nat → Int32) (D : va_G) (ad : Nat → Nat) (cy : Nat → ClassId) : Prop :=
  p.tables.exec = Jvm.exec ∧ c.code = code ∧ c.maxLocals = 13 ∧ s.vm.findClass RL = some m.cls ∧ (∀ w ∈ mx_TW, w.before #[Value.ref b] s = true) ∧ mx_S D cy s ∧ va_X b L xs s s.heap ∧ b < s.heap.size ∧ mx_D ad (fun q => s.heap.size ≤ q) ∧ ad 143 = b
def lx_V (p : Program) (l : Launch) (e : Env) (s : State) (m : MethodId) (below : List Frame) (meth : Method) (c : Code) (b : Nat) (D : va_G) (ad : Nat → Nat) (cy : Nat → ClassId) (Z : State → Prop) (M : mx_M) (pc : Nat) (ls : List (Option Value)) (st : List Value) : Prop :=
  ∀ (H : Heap) (locs : List Loc) (lsA : Array Slot), va_P D vwCl (mx_w ad cy M) H → va_S (fun q => s.heap.size ≤ q) s.heap H locs → mx_L ad ls lsA 13 → W p l e room_1 s m #[Value.ref b] below meth c H locs 143 2897 Z (F0 m pc lsA (st.map (mx_r ad)))
section LX
variable {p : Program} {l : Launch} {e : Env} {s : State} {m : MethodId} {below : List Frame} {meth : Method} {c : Code} {b L : Nat} {xs : Nat → Int32} {D : va_G} {ad : Nat → Nat} {cy : Nat → ClassId} {Z : State → Prop}
theorem lx_iload (hC : lx_C p s m c b L xs D ad cy) {pc pc' : Nat} {ls : List (Option Value)} {st : List Value} {M : mx_M} {i : Nat} {x : Int32} (hd : decode code pc = .ok (.iload i, 2)) (hl : ls[i]? = some (some (.int x))) (hp : pc + 2 = pc') (k : lx_V p l e s m below meth c b D ad cy Z M pc' ls (.int x :: st)) : lx_V p l e s m below meth c b D ad cy Z M pc ls st := by
  intro H locs lsA hP hSS hL
  obtain ⟨hx, hb, hml, hown, hts, hS, hX, hbl, hD, had⟩ := hC
  subst hp
  exact lv_iload hx hb hd (hL.2.2.2 i _ hl) (k H locs lsA hP hSS hL)
theorem lx_iload_n (hC : lx_C p s m c b L xs D ad cy) {pc pc' : Nat} {ls : List (Option Value)} {st : List Value} {M : mx_M} {i : Fin 4} {x : Int32} (hd : decode code pc = .ok (.iload_n i, 1)) (hl : ls[i.val]? = some (some (.int x))) (hp : pc + 1 = pc') (k : lx_V p l e s m below meth c b D ad cy Z M pc' ls (.int x :: st)) : lx_V p l e s m below meth c b D ad cy Z M pc ls st := by
  intro H locs lsA hP hSS hL
  obtain ⟨hx, hb, hml, hown, hts, hS, hX, hbl, hD, had⟩ := hC
  subst hp
  exact lv_iload_n hx hb hd rfl (hL.2.2.2 i.val _ hl) (k H locs lsA hP hSS hL)
theorem lx_aload (hC : lx_C p s m c b L xs D ad cy) {pc pc' : Nat} {ls : List (Option Value)} {st : List Value} {M : mx_M} {i : Nat} {x : Nat} (hd : decode code pc = .ok (.aload i, 2)) (hl : ls[i]? = some (some (.ref x))) (hp : pc + 2 = pc') (k : lx_V p l e s m below meth c b D ad cy Z M pc' ls (.ref x :: st)) : lx_V p l e s m below meth c b D ad cy Z M pc ls st := by
  intro H locs lsA hP hSS hL
  obtain ⟨hx, hb, hml, hown, hts, hS, hX, hbl, hD, had⟩ := hC
  subst hp
  exact lv_aload hx hb hd (hL.2.2.2 i _ hl) (k H locs lsA hP hSS hL)
theorem lx_aload_n (hC : lx_C p s m c b L xs D ad cy) {pc pc' : Nat} {ls : List (Option Value)} {st : List Value} {M : mx_M} {i : Fin 4} {x : Nat} (hd : decode code pc = .ok (.aload_n i, 1)) (hl : ls[i.val]? = some (some (.ref x))) (hp : pc + 1 = pc') (k : lx_V p l e s m below meth c b D ad cy Z M pc' ls (.ref x :: st)) : lx_V p l e s m below meth c b D ad cy Z M pc ls st := by
  intro H locs lsA hP hSS hL
  obtain ⟨hx, hb, hml, hown, hts, hS, hX, hbl, hD, had⟩ := hC
  subst hp
  exact lv_aload_n hx hb hd rfl (hL.2.2.2 i.val _ hl) (k H locs lsA hP hSS hL)
theorem lx_iconst (hC : lx_C p s m c b L xs D ad cy) {pc pc' : Nat} {ls : List (Option Value)} {st : List Value} {M : mx_M} {n : Int} {v : Int32} (hd : decode code pc = .ok (.iconst n, 1)) (hv : Int32.ofInt n = v) (hp : pc + 1 = pc') (k : lx_V p l e s m below meth c b D ad cy Z M pc' ls (.int v :: st)) : lx_V p l e s m below meth c b D ad cy Z M pc ls st := by
  intro H locs lsA hP hSS hL
  obtain ⟨hx, hb, hml, hown, hts, hS, hX, hbl, hD, had⟩ := hC
  subst hp
  exact lv_iconst hx hb hd hv (k H locs lsA hP hSS hL)
theorem lx_bipush (hC : lx_C p s m c b L xs D ad cy) {pc pc' : Nat} {ls : List (Option Value)} {st : List Value} {M : mx_M} {n : Int} {v : Int32} (hd : decode code pc = .ok (.bipush n, 2)) (hv : (Int8.ofInt n).toInt32 = v) (hp : pc + 2 = pc') (k : lx_V p l e s m below meth c b D ad cy Z M pc' ls (.int v :: st)) : lx_V p l e s m below meth c b D ad cy Z M pc ls st := by
  intro H locs lsA hP hSS hL
  obtain ⟨hx, hb, hml, hown, hts, hS, hX, hbl, hD, had⟩ := hC
  subst hp
  exact lv_bipush hx hb hd hv (k H locs lsA hP hSS hL)
theorem lx_sipush (hC : lx_C p s m c b L xs D ad cy) {pc pc' : Nat} {ls : List (Option Value)} {st : List Value} {M : mx_M} {n : Int} {v : Int32} (hd : decode code pc = .ok (.sipush n, 3)) (hv : (Int16.ofInt n).toInt32 = v) (hp : pc + 3 = pc') (k : lx_V p l e s m below meth c b D ad cy Z M pc' ls (.int v :: st)) : lx_V p l e s m below meth c b D ad cy Z M pc ls st := by
  intro H locs lsA hP hSS hL
  obtain ⟨hx, hb, hml, hown, hts, hS, hX, hbl, hD, had⟩ := hC
  subst hp
  exact lv_sipush hx hb hd hv (k H locs lsA hP hSS hL)
theorem lx_iadd (hC : lx_C p s m c b L xs D ad cy) {pc pc' : Nat} {ls : List (Option Value)} {st : List Value} {M : mx_M} {x y v : Int32} (hd : decode code pc = .ok (.iadd, 1)) (hv : x + y = v) (hp : pc + 1 = pc') (k : lx_V p l e s m below meth c b D ad cy Z M pc' ls (.int v :: st)) : lx_V p l e s m below meth c b D ad cy Z M pc ls (.int y :: .int x :: st) := by
  intro H locs lsA hP hSS hL
  obtain ⟨hx, hb, hml, hown, hts, hS, hX, hbl, hD, had⟩ := hC
  subst hp
  subst hv
  exact lv_iadd hx hb hd (k H locs lsA hP hSS hL)
theorem lx_isub (hC : lx_C p s m c b L xs D ad cy) {pc pc' : Nat} {ls : List (Option Value)} {st : List Value} {M : mx_M} {x y v : Int32} (hd : decode code pc = .ok (.isub, 1)) (hv : x - y = v) (hp : pc + 1 = pc') (k : lx_V p l e s m below meth c b D ad cy Z M pc' ls (.int v :: st)) : lx_V p l e s m below meth c b D ad cy Z M pc ls (.int y :: .int x :: st) := by
  intro H locs lsA hP hSS hL
  obtain ⟨hx, hb, hml, hown, hts, hS, hX, hbl, hD, had⟩ := hC
  subst hp
  subst hv
  exact lv_isub hx hb hd (k H locs lsA hP hSS hL)
theorem lx_imul (hC : lx_C p s m c b L xs D ad cy) {pc pc' : Nat} {ls : List (Option Value)} {st : List Value} {M : mx_M} {x y v : Int32} (hd : decode code pc = .ok (.imul, 1)) (hv : x * y = v) (hp : pc + 1 = pc') (k : lx_V p l e s m below meth c b D ad cy Z M pc' ls (.int v :: st)) : lx_V p l e s m below meth c b D ad cy Z M pc ls (.int y :: .int x :: st) := by
  intro H locs lsA hP hSS hL
  obtain ⟨hx, hb, hml, hown, hts, hS, hX, hbl, hD, had⟩ := hC
  subst hp
  subst hv
  exact lv_imul hx hb hd (k H locs lsA hP hSS hL)
theorem lx_iand (hC : lx_C p s m c b L xs D ad cy) {pc pc' : Nat} {ls : List (Option Value)} {st : List Value} {M : mx_M} {x y v : Int32} (hd : decode code pc = .ok (.iand, 1)) (hv : x &&& y = v) (hp : pc + 1 = pc') (k : lx_V p l e s m below meth c b D ad cy Z M pc' ls (.int v :: st)) : lx_V p l e s m below meth c b D ad cy Z M pc ls (.int y :: .int x :: st) := by
  intro H locs lsA hP hSS hL
  obtain ⟨hx, hb, hml, hown, hts, hS, hX, hbl, hD, had⟩ := hC
  subst hp
  subst hv
  exact lv_iand hx hb hd (k H locs lsA hP hSS hL)
theorem lx_ishr (hC : lx_C p s m c b L xs D ad cy) {pc pc' : Nat} {ls : List (Option Value)} {st : List Value} {M : mx_M} {x y v : Int32} (hd : decode code pc = .ok (.ishr, 1)) (hv : x >>> (y &&& 31) = v) (hp : pc + 1 = pc') (k : lx_V p l e s m below meth c b D ad cy Z M pc' ls (.int v :: st)) : lx_V p l e s m below meth c b D ad cy Z M pc ls (.int y :: .int x :: st) := by
  intro H locs lsA hP hSS hL
  obtain ⟨hx, hb, hml, hown, hts, hS, hX, hbl, hD, had⟩ := hC
  subst hp
  subst hv
  exact lv_ishr hx hb hd (k H locs lsA hP hSS hL)
theorem lx_irem (hC : lx_C p s m c b L xs D ad cy) {pc pc' : Nat} {ls : List (Option Value)} {st : List Value} {M : mx_M} {x y v : Int32} (hd : decode code pc = .ok (.irem, 1)) (hy : ¬ y = 0) (hv : x - x / y * y = v) (hp : pc + 1 = pc') (k : lx_V p l e s m below meth c b D ad cy Z M pc' ls (.int v :: st)) : lx_V p l e s m below meth c b D ad cy Z M pc ls (.int y :: .int x :: st) := by
  intro H locs lsA hP hSS hL
  obtain ⟨hx, hb, hml, hown, hts, hS, hX, hbl, hD, had⟩ := hC
  subst hp
  subst hv
  exact lv_irem hx hb hd hy (k H locs lsA hP hSS hL)
theorem lx_if_eq (hC : lx_C p s m c b L xs D ad cy) {pc pc' : Nat} {ls : List (Option Value)} {st : List Value} {M : mx_M} {x : Int32} {off : Int} {tgt : Nat} (hd : decode code pc = .ok (.ifCond .eq off, 3)) (ht : (pc : Int) + off = (tgt : Int)) (hp : pc + 3 = pc') (kt : x = 0 → lx_V p l e s m below meth c b D ad cy Z M tgt ls st) (kf : ¬ x = 0 → lx_V p l e s m below meth c b D ad cy Z M pc' ls st) : lx_V p l e s m below meth c b D ad cy Z M pc ls (.int x :: st) := by
  intro H locs lsA hP hSS hL
  obtain ⟨hx, hb, hml, hown, hts, hS, hX, hbl, hD, had⟩ := hC
  subst hp
  exact lv_if_eq hx hb hd ht (fun q => kt q  H locs lsA hP hSS hL) (fun q => kf q  H locs lsA hP hSS hL)
theorem lx_if_ne (hC : lx_C p s m c b L xs D ad cy) {pc pc' : Nat} {ls : List (Option Value)} {st : List Value} {M : mx_M} {x : Int32} {off : Int} {tgt : Nat} (hd : decode code pc = .ok (.ifCond .ne off, 3)) (ht : (pc : Int) + off = (tgt : Int)) (hp : pc + 3 = pc') (kt : x ≠ 0 → lx_V p l e s m below meth c b D ad cy Z M tgt ls st) (kf : x = 0 → lx_V p l e s m below meth c b D ad cy Z M pc' ls st) : lx_V p l e s m below meth c b D ad cy Z M pc ls (.int x :: st) := by
  intro H locs lsA hP hSS hL
  obtain ⟨hx, hb, hml, hown, hts, hS, hX, hbl, hD, had⟩ := hC
  subst hp
  exact lv_if_ne hx hb hd ht (fun q => kt q  H locs lsA hP hSS hL) (fun q => kf q  H locs lsA hP hSS hL)
theorem lx_if_lt (hC : lx_C p s m c b L xs D ad cy) {pc pc' : Nat} {ls : List (Option Value)} {st : List Value} {M : mx_M} {x : Int32} {off : Int} {tgt : Nat} (hd : decode code pc = .ok (.ifCond .lt off, 3)) (ht : (pc : Int) + off = (tgt : Int)) (hp : pc + 3 = pc') (kt : x < 0 → lx_V p l e s m below meth c b D ad cy Z M tgt ls st) (kf : ¬ x < 0 → lx_V p l e s m below meth c b D ad cy Z M pc' ls st) : lx_V p l e s m below meth c b D ad cy Z M pc ls (.int x :: st) := by
  intro H locs lsA hP hSS hL
  obtain ⟨hx, hb, hml, hown, hts, hS, hX, hbl, hD, had⟩ := hC
  subst hp
  exact lv_if_lt hx hb hd ht (fun q => kt q  H locs lsA hP hSS hL) (fun q => kf q  H locs lsA hP hSS hL)
theorem lx_if_ge (hC : lx_C p s m c b L xs D ad cy) {pc pc' : Nat} {ls : List (Option Value)} {st : List Value} {M : mx_M} {x : Int32} {off : Int} {tgt : Nat} (hd : decode code pc = .ok (.ifCond .ge off, 3)) (ht : (pc : Int) + off = (tgt : Int)) (hp : pc + 3 = pc') (kt : 0 ≤ x → lx_V p l e s m below meth c b D ad cy Z M tgt ls st) (kf : ¬ 0 ≤ x → lx_V p l e s m below meth c b D ad cy Z M pc' ls st) : lx_V p l e s m below meth c b D ad cy Z M pc ls (.int x :: st) := by
  intro H locs lsA hP hSS hL
  obtain ⟨hx, hb, hml, hown, hts, hS, hX, hbl, hD, had⟩ := hC
  subst hp
  exact lv_if_ge hx hb hd ht (fun q => kt q  H locs lsA hP hSS hL) (fun q => kf q  H locs lsA hP hSS hL)
theorem lx_if_gt (hC : lx_C p s m c b L xs D ad cy) {pc pc' : Nat} {ls : List (Option Value)} {st : List Value} {M : mx_M} {x : Int32} {off : Int} {tgt : Nat} (hd : decode code pc = .ok (.ifCond .gt off, 3)) (ht : (pc : Int) + off = (tgt : Int)) (hp : pc + 3 = pc') (kt : 0 < x → lx_V p l e s m below meth c b D ad cy Z M tgt ls st) (kf : ¬ 0 < x → lx_V p l e s m below meth c b D ad cy Z M pc' ls st) : lx_V p l e s m below meth c b D ad cy Z M pc ls (.int x :: st) := by
  intro H locs lsA hP hSS hL
  obtain ⟨hx, hb, hml, hown, hts, hS, hX, hbl, hD, had⟩ := hC
  subst hp
  exact lv_if_gt hx hb hd ht (fun q => kt q  H locs lsA hP hSS hL) (fun q => kf q  H locs lsA hP hSS hL)
theorem lx_if_le (hC : lx_C p s m c b L xs D ad cy) {pc pc' : Nat} {ls : List (Option Value)} {st : List Value} {M : mx_M} {x : Int32} {off : Int} {tgt : Nat} (hd : decode code pc = .ok (.ifCond .le off, 3)) (ht : (pc : Int) + off = (tgt : Int)) (hp : pc + 3 = pc') (kt : x ≤ 0 → lx_V p l e s m below meth c b D ad cy Z M tgt ls st) (kf : ¬ x ≤ 0 → lx_V p l e s m below meth c b D ad cy Z M pc' ls st) : lx_V p l e s m below meth c b D ad cy Z M pc ls (.int x :: st) := by
  intro H locs lsA hP hSS hL
  obtain ⟨hx, hb, hml, hown, hts, hS, hX, hbl, hD, had⟩ := hC
  subst hp
  exact lv_if_le hx hb hd ht (fun q => kt q  H locs lsA hP hSS hL) (fun q => kf q  H locs lsA hP hSS hL)
theorem lx_icmp_eq (hC : lx_C p s m c b L xs D ad cy) {pc pc' : Nat} {ls : List (Option Value)} {st : List Value} {M : mx_M} {x y : Int32} {off : Int} {tgt : Nat} (hd : decode code pc = .ok (.if_icmp .eq off, 3)) (ht : (pc : Int) + off = (tgt : Int)) (hp : pc + 3 = pc') (kt : x = y → lx_V p l e s m below meth c b D ad cy Z M tgt ls st) (kf : ¬ x = y → lx_V p l e s m below meth c b D ad cy Z M pc' ls st) : lx_V p l e s m below meth c b D ad cy Z M pc ls (.int y :: .int x :: st) := by
  intro H locs lsA hP hSS hL
  obtain ⟨hx, hb, hml, hown, hts, hS, hX, hbl, hD, had⟩ := hC
  subst hp
  exact lv_icmp_eq hx hb hd ht (fun q => kt q  H locs lsA hP hSS hL) (fun q => kf q  H locs lsA hP hSS hL)
theorem lx_icmp_ne (hC : lx_C p s m c b L xs D ad cy) {pc pc' : Nat} {ls : List (Option Value)} {st : List Value} {M : mx_M} {x y : Int32} {off : Int} {tgt : Nat} (hd : decode code pc = .ok (.if_icmp .ne off, 3)) (ht : (pc : Int) + off = (tgt : Int)) (hp : pc + 3 = pc') (kt : x ≠ y → lx_V p l e s m below meth c b D ad cy Z M tgt ls st) (kf : x = y → lx_V p l e s m below meth c b D ad cy Z M pc' ls st) : lx_V p l e s m below meth c b D ad cy Z M pc ls (.int y :: .int x :: st) := by
  intro H locs lsA hP hSS hL
  obtain ⟨hx, hb, hml, hown, hts, hS, hX, hbl, hD, had⟩ := hC
  subst hp
  exact lv_icmp_ne hx hb hd ht (fun q => kt q  H locs lsA hP hSS hL) (fun q => kf q  H locs lsA hP hSS hL)
theorem lx_icmp_lt (hC : lx_C p s m c b L xs D ad cy) {pc pc' : Nat} {ls : List (Option Value)} {st : List Value} {M : mx_M} {x y : Int32} {off : Int} {tgt : Nat} (hd : decode code pc = .ok (.if_icmp .lt off, 3)) (ht : (pc : Int) + off = (tgt : Int)) (hp : pc + 3 = pc') (kt : x < y → lx_V p l e s m below meth c b D ad cy Z M tgt ls st) (kf : ¬ x < y → lx_V p l e s m below meth c b D ad cy Z M pc' ls st) : lx_V p l e s m below meth c b D ad cy Z M pc ls (.int y :: .int x :: st) := by
  intro H locs lsA hP hSS hL
  obtain ⟨hx, hb, hml, hown, hts, hS, hX, hbl, hD, had⟩ := hC
  subst hp
  exact lv_icmp_lt hx hb hd ht (fun q => kt q  H locs lsA hP hSS hL) (fun q => kf q  H locs lsA hP hSS hL)
theorem lx_icmp_ge (hC : lx_C p s m c b L xs D ad cy) {pc pc' : Nat} {ls : List (Option Value)} {st : List Value} {M : mx_M} {x y : Int32} {off : Int} {tgt : Nat} (hd : decode code pc = .ok (.if_icmp .ge off, 3)) (ht : (pc : Int) + off = (tgt : Int)) (hp : pc + 3 = pc') (kt : y ≤ x → lx_V p l e s m below meth c b D ad cy Z M tgt ls st) (kf : ¬ y ≤ x → lx_V p l e s m below meth c b D ad cy Z M pc' ls st) : lx_V p l e s m below meth c b D ad cy Z M pc ls (.int y :: .int x :: st) := by
  intro H locs lsA hP hSS hL
  obtain ⟨hx, hb, hml, hown, hts, hS, hX, hbl, hD, had⟩ := hC
  subst hp
  exact lv_icmp_ge hx hb hd ht (fun q => kt q  H locs lsA hP hSS hL) (fun q => kf q  H locs lsA hP hSS hL)
theorem lx_icmp_gt (hC : lx_C p s m c b L xs D ad cy) {pc pc' : Nat} {ls : List (Option Value)} {st : List Value} {M : mx_M} {x y : Int32} {off : Int} {tgt : Nat} (hd : decode code pc = .ok (.if_icmp .gt off, 3)) (ht : (pc : Int) + off = (tgt : Int)) (hp : pc + 3 = pc') (kt : y < x → lx_V p l e s m below meth c b D ad cy Z M tgt ls st) (kf : ¬ y < x → lx_V p l e s m below meth c b D ad cy Z M pc' ls st) : lx_V p l e s m below meth c b D ad cy Z M pc ls (.int y :: .int x :: st) := by
  intro H locs lsA hP hSS hL
  obtain ⟨hx, hb, hml, hown, hts, hS, hX, hbl, hD, had⟩ := hC
  subst hp
  exact lv_icmp_gt hx hb hd ht (fun q => kt q  H locs lsA hP hSS hL) (fun q => kf q  H locs lsA hP hSS hL)
theorem lx_icmp_le (hC : lx_C p s m c b L xs D ad cy) {pc pc' : Nat} {ls : List (Option Value)} {st : List Value} {M : mx_M} {x y : Int32} {off : Int} {tgt : Nat} (hd : decode code pc = .ok (.if_icmp .le off, 3)) (ht : (pc : Int) + off = (tgt : Int)) (hp : pc + 3 = pc') (kt : x ≤ y → lx_V p l e s m below meth c b D ad cy Z M tgt ls st) (kf : ¬ x ≤ y → lx_V p l e s m below meth c b D ad cy Z M pc' ls st) : lx_V p l e s m below meth c b D ad cy Z M pc ls (.int y :: .int x :: st) := by
  intro H locs lsA hP hSS hL
  obtain ⟨hx, hb, hml, hown, hts, hS, hX, hbl, hD, had⟩ := hC
  subst hp
  exact lv_icmp_le hx hb hd ht (fun q => kt q  H locs lsA hP hSS hL) (fun q => kf q  H locs lsA hP hSS hL)
theorem lx_goto (hC : lx_C p s m c b L xs D ad cy) {pc pc' : Nat} {ls : List (Option Value)} {st : List Value} {M : mx_M} {off : Int} (hd : decode code pc = .ok (.goto off, 3)) (ht : (pc : Int) + off = (pc' : Int))  (k : lx_V p l e s m below meth c b D ad cy Z M pc' ls st) : lx_V p l e s m below meth c b D ad cy Z M pc ls st := by
  intro H locs lsA hP hSS hL
  obtain ⟨hx, hb, hml, hown, hts, hS, hX, hbl, hD, had⟩ := hC
  exact lv_goto hx hb hd ht (k H locs lsA hP hSS hL)
theorem lx_xistore (hC : lx_C p s m c b L xs D ad cy) {pc pc' : Nat} {ls : List (Option Value)} {st : List Value} {M : mx_M} {i : Nat} {x : Int32} {ls' : List (Option Value)} (hd : decode code pc = .ok (.istore i, 2)) (hi : i < 13) (hc : mx_cs i ls = true) (hls : ls.set i (some (.int x)) = ls') (hp : pc + 2 = pc') (k : lx_V p l e s m below meth c b D ad cy Z M pc' ls' st) : lx_V p l e s m below meth c b D ad cy Z M pc ls (.int x :: st) := by
  intro H locs lsA hP hSS hL
  obtain ⟨hx, hb, hml, hown, hts, hS, hX, hbl, hD, had⟩ := hC
  subst hp
  subst hls
  exact lv_istore hx hb hd hL.has hi rfl (fun a' h' => k  H locs a' hP hSS (hL.store1 hc h'))
theorem lx_xistore_n (hC : lx_C p s m c b L xs D ad cy) {pc pc' : Nat} {ls : List (Option Value)} {st : List Value} {M : mx_M} {i : Fin 4} {x : Int32} {ls' : List (Option Value)} (hd : decode code pc = .ok (.istore_n i, 1)) (hi : i.val < 13) (hc : mx_cs i.val ls = true) (hls : ls.set i.val (some (.int x)) = ls') (hp : pc + 1 = pc') (k : lx_V p l e s m below meth c b D ad cy Z M pc' ls' st) : lx_V p l e s m below meth c b D ad cy Z M pc ls (.int x :: st) := by
  intro H locs lsA hP hSS hL
  obtain ⟨hx, hb, hml, hown, hts, hS, hX, hbl, hD, had⟩ := hC
  subst hp
  subst hls
  exact lv_istore_n hx hb hd rfl hL.has hi rfl (fun a' h' => k  H locs a' hP hSS (hL.store1 hc h'))
theorem lx_xiinc (hC : lx_C p s m c b L xs D ad cy) {pc pc' : Nat} {ls : List (Option Value)} {st : List Value} {M : mx_M} {i : Nat} {n : Int} {x v : Int32} {ls' : List (Option Value)} (hd : decode code pc = .ok (.iinc i n, 3)) (hl : ls[i]? = some (some (.int x))) (hv : x + Int32.ofInt n = v) (hi : i < 13) (hc : mx_cs i ls = true) (hls : ls.set i (some (.int v)) = ls') (hp : pc + 3 = pc') (k : lx_V p l e s m below meth c b D ad cy Z M pc' ls' st) : lx_V p l e s m below meth c b D ad cy Z M pc ls st := by
  intro H locs lsA hP hSS hL
  obtain ⟨hx, hb, hml, hown, hts, hS, hX, hbl, hD, had⟩ := hC
  subst hp
  subst hls
  obtain ⟨j, hj⟩ := List.getElem?_of_mem (mx_as_mem (ad := ad) hl)
  exact lv_iinc (k := j) hx hb hd hL.has hj hv hi rfl (fun a' h' => k  H locs a' hP hSS (hL.store1 hc h'))
theorem lx_lstore (hC : lx_C p s m c b L xs D ad cy) {pc pc' : Nat} {ls : List (Option Value)} {st : List Value} {M : mx_M} {i : Nat} {x : Int64} {ls' : List (Option Value)} (hd : decode code pc = .ok (.lstore i, 2)) (hi : i + 1 < 13) (hc : mx_cs i ls = true) (hls : (ls.set i (some (.long x))).set (i + 1) none = ls') (hp : pc + 2 = pc') (k : lx_V p l e s m below meth c b D ad cy Z M pc' ls' st) : lx_V p l e s m below meth c b D ad cy Z M pc ls (.long x :: st) := by
  intro H locs lsA hP hSS hL
  obtain ⟨hx, hb, hml, hown, hts, hS, hX, hbl, hD, had⟩ := hC
  subst hp
  subst hls
  exact lv_lstore hx hb hd hL.has hi rfl (fun a' h' => k  H locs a' hP hSS (hL.store2 (v := .long x) hc h'))
theorem lx_lstore_n (hC : lx_C p s m c b L xs D ad cy) {pc pc' : Nat} {ls : List (Option Value)} {st : List Value} {M : mx_M} {i : Fin 4} {x : Int64} {ls' : List (Option Value)} (hd : decode code pc = .ok (.lstore_n i, 1)) (hi : i.val + 1 < 13) (hc : mx_cs i.val ls = true) (hls : (ls.set i.val (some (.long x))).set (i.val + 1) none = ls') (hp : pc + 1 = pc') (k : lx_V p l e s m below meth c b D ad cy Z M pc' ls' st) : lx_V p l e s m below meth c b D ad cy Z M pc ls (.long x :: st) := by
  intro H locs lsA hP hSS hL
  obtain ⟨hx, hb, hml, hown, hts, hS, hX, hbl, hD, had⟩ := hC
  subst hp
  subst hls
  exact lv_lstore_n hx hb hd rfl hL.has hi rfl (fun a' h' => k  H locs a' hP hSS (hL.store2 (v := .long x) hc h'))
theorem lx_lload (hC : lx_C p s m c b L xs D ad cy) {pc pc' : Nat} {ls : List (Option Value)} {st : List Value} {M : mx_M} {i : Nat} {x : Int64} (hd : decode code pc = .ok (.lload i, 2)) (hl : ls[i]? = some (some (.long x))) (hp : pc + 2 = pc') (k : lx_V p l e s m below meth c b D ad cy Z M pc' ls (.long x :: st)) : lx_V p l e s m below meth c b D ad cy Z M pc ls st := by
  intro H locs lsA hP hSS hL
  obtain ⟨hx, hb, hml, hown, hts, hS, hX, hbl, hD, had⟩ := hC
  subst hp
  exact lv_lload hx hb hd (hL.2.2.2 i _ hl) (k H locs lsA hP hSS hL)
theorem lx_lload_n (hC : lx_C p s m c b L xs D ad cy) {pc pc' : Nat} {ls : List (Option Value)} {st : List Value} {M : mx_M} {i : Fin 4} {x : Int64} (hd : decode code pc = .ok (.lload_n i, 1)) (hl : ls[i.val]? = some (some (.long x))) (hp : pc + 1 = pc') (k : lx_V p l e s m below meth c b D ad cy Z M pc' ls (.long x :: st)) : lx_V p l e s m below meth c b D ad cy Z M pc ls st := by
  intro H locs lsA hP hSS hL
  obtain ⟨hx, hb, hml, hown, hts, hS, hX, hbl, hD, had⟩ := hC
  subst hp
  exact lv_lload_n hx hb hd rfl (hL.2.2.2 i.val _ hl) (k H locs lsA hP hSS hL)
theorem lx_lcmp (hC : lx_C p s m c b L xs D ad cy) {pc pc' : Nat} {ls : List (Option Value)} {st : List Value} {M : mx_M} {x : Int64} (hd : decode code pc = .ok (.lcmp, 1)) (hp : pc + 1 = pc') (k : lx_V p l e s m below meth c b D ad cy Z M pc' ls (.int 0 :: st)) : lx_V p l e s m below meth c b D ad cy Z M pc ls (.long x :: .long x :: st) := by
  intro H locs lsA hP hSS hL
  obtain ⟨hx, hb, hml, hown, hts, hS, hX, hbl, hD, had⟩ := hC
  subst hp
  refine W.lcmp hx hb hd ?_
  rw [lg_cmp_rf]
  exact (k H locs lsA hP hSS hL)
theorem lx_callV (hC : lx_C p s m c b L xs D ad cy) {pc pc' : Nat} {ls : List (Option Value)} {st st0 : List Value} {M : mx_M} {idx q ci n nL2 d2 : Nat} {y : MethodName} {cc2 : ByteArray} {ret2 : Option FieldType} {As : List Value} {t : List (Option Nat)} {Q2 : Option Value → mx_M → Prop}
    (hd : decode code pc = .ok (.invokevirtual idx, 3)) (hc : mx_cV RL idx y cc2 nL2 ret2 n ci) (hs : mx_sh q = .inr (ci, t)) (hT : mx_T y cc2 nL2 ret2 d2 (.ref q :: As) M Q2) (hn : As.length = n) (hd2 : d2 ≤ 9) (hst : st0 = As.reverse ++ .ref q :: st) (hr : (st.map fun v => v.category).sum ≤ 8) (hp : pc + 3 = pc')
    (k : ∀ (v : Option Value) (M' : mx_M), Q2 v M' → lx_V p l e s m below meth c b D ad cy Z M' pc' ls (v.toList ++ st)) : lx_V p l e s m below meth c b D ad cy Z M pc ls st0 := by
  intro H locs lsA hP hSS hL
  obtain ⟨hx, hb, hml, hown, hts, hS, hX, hbl, hD, had⟩ := hC
  subst hp; subst hst
  obtain ⟨c1, ⟨c2, c3, c4, c7⟩, c5, c6, T0, N0, c8⟩ := hc
  have cb : CallB room_1 s #[Value.ref b] RL idx y cc2 nL2 ret2 (Cond.code y cc2 nL2 ret2 :: mx_TW) (mx_rm d2) 0 0 n := callB_of n hts (mx_GI c2) rfl rfl rfl (hts _ c3) (hts _ c1) c4 ⟨by show d2 + 1 ≤ 11; omega, by show 8 + (nL2 + 11) + 38 * d2 ≤ 442; omega⟩
  have hrun := va_runV (As := As.map (mx_r ad)) (rest := st.map (mx_r ad)) (cells := 143) (slots := 2897) (locs := locs) (below := below) (meth := meth) (e := e) (H := H) (g := F0 m pc lsA ((As.reverse ++ .ref q :: st).map (mx_r ad))) (⟨hx, hb, hml, hown, hts⟩ : CallFix p m c code 13 s #[Value.ref b] mx_TW RL) (hT l D ad cy) ⟨cb, hts _ c5, hts _ c6⟩
    ⟨mx_blind _ _ _ _ _, va_recv hS.1 hP c8 ((mx_w_get ad cy M (mx_sh_lt (Or.inl ⟨_, hs⟩))).trans (congrArg (fun e => some (ad q, e)) (mx_c_obj ad cy hs))), fun U hU hW => ⟨rfl, by rw [hU]; exact hP, mx_S.warm hW hS, hD.1⟩⟩ rfl (by rw [List.length_map]; exact hn) hL.1 (by simp [mx_r]) (lv_room (mx_cats ad hr)) hd ⟨Nat.le_of_ble_eq_true rfl, Nat.le_of_ble_eq_true rfl⟩
  refine mx_run hrun hSS (fun z hz => by obtain ⟨i, hi, rfl⟩ := hz; exact hD.2 i hi) (fun v M' H1 locs1 hq hP1 hS1 => ?_)
  have h := k v M' hq H1 locs1 lsA hP1 hS1 hL
  cases v <;> exact h
theorem lx_callS (hC : lx_C p s m c b L xs D ad cy) {pc pc' : Nat} {ls : List (Option Value)} {st st0 : List Value} {M : mx_M} {idx n nL2 d2 : Nat} {y : MethodName} {cc2 : ByteArray} {ret2 : Option FieldType} {As : List Value} {Q2 : Option Value → mx_M → Prop}
    (hd : decode code pc = .ok (.invokestatic idx, 3)) (hc : mx_cS RL idx y cc2 nL2 ret2 n) (hT : mx_T y cc2 nL2 ret2 d2 As M Q2) (hn : As.length = n) (hd2 : d2 ≤ 9) (hst : st0 = As.reverse ++ st) (hr : (st.map fun v => v.category).sum ≤ 8) (hp : pc + 3 = pc')
    (k : ∀ (v : Option Value) (M' : mx_M), Q2 v M' → lx_V p l e s m below meth c b D ad cy Z M' pc' ls (v.toList ++ st)) : lx_V p l e s m below meth c b D ad cy Z M pc ls st0 := by
  intro H locs lsA hP hSS hL
  obtain ⟨hx, hb, hml, hown, hts, hS, hX, hbl, hD, had⟩ := hC
  subst hp; subst hst
  obtain ⟨c1, ⟨c2, c3, c4, c7⟩, c5⟩ := hc
  have cb : CallB room_1 s #[Value.ref b] RL idx y cc2 nL2 ret2 (Cond.code y cc2 nL2 ret2 :: mx_TW) (mx_rm d2) 0 0 n := callB_of n hts (mx_GI c2) rfl rfl rfl (hts _ c3) (hts _ c1) c4 ⟨by show d2 + 1 ≤ 11; omega, by show 8 + (nL2 + 11) + 38 * d2 ≤ 442; omega⟩
  have hrun := va_runS (As := As.map (mx_r ad)) (rest := st.map (mx_r ad)) (cells := 143) (slots := 2897) (locs := locs) (below := below) (meth := meth) (e := e) (H := H) (g := F0 m pc lsA ((As.reverse ++ st).map (mx_r ad))) (⟨hx, hb, hml, hown, hts⟩ : CallFix p m c code 13 s #[Value.ref b] mx_TW RL) (hT l D ad cy) ⟨cb, hts _ c5⟩
    ⟨mx_blind _ _ _ _ _, fun U hU hW => ⟨rfl, by rw [hU]; exact hP, mx_S.warm hW hS, hD.1⟩⟩ rfl (by rw [List.length_map]; exact hn) hL.1 (by simp) (lv_room (mx_cats ad hr)) hd ⟨Nat.le_of_ble_eq_true rfl, Nat.le_of_ble_eq_true rfl⟩
  refine mx_run hrun hSS (fun z hz => by obtain ⟨i, hi, rfl⟩ := hz; exact hD.2 i hi) (fun v M' H1 locs1 hq hP1 hS1 => ?_)
  have h := k v M' hq H1 locs1 lsA hP1 hS1 hL
  cases v <;> exact h
/-- lot: a word of the script, or one made of its place; nothing is written -/
def lt_P (b L : Nat) (xs : Nat → Int32) (k : Int32) (M : mx_M) (D : va_G) (ad : Nat → Nat) (cy : Nat → ClassId) : Array Value → State → Prop := fun v U => v = ([.ref b, .int k] : List Value).toArray ∧ va_X b L xs U U.heap ∧ b < U.heap.size ∧ va_P D vwCl (mx_w ad cy M) U.heap
theorem lt_met (b L : Nat) (xs : Nat → Int32) (hL : L ≤ 260) (k : Nat) (hk : k < 1000) (M : mx_M) (l : Launch) (D : va_G) (ad : Nat → Nat) (cy : Nat → ClassId) : Met l yL_lot (Cond.code yL_lot cL_lot 2 (some .int) :: mx_TW) (mx_rm 1) (lt_P b L xs (nI k) M D ad cy) (mx_Qm (fun v M' => (∃ z, v = some (.int z)) ∧ M' = M) D ad cy) 0 0 (mx_A ad) := by
  refine Met.ofW (cc := cL_lot) (maxL := 2) (ret := some .int) (by decide +kernel) rfl ?_
  intro p e s m args below meth c s₁ B hml hv
  obtain ⟨rfl, hX, hbl, hP⟩ := hv
  have hts : ∀ w ∈ mx_TW, w.before ([.ref b, .int (nI k)] : List Value).toArray s = true := fun w hw => atoms_spec (ws := Cond.code yL_lot cL_lot 2 (some .int) :: mx_TW) B.pre w (List.mem_cons_of_mem _ hw)
  have hx := B.exec
  have hb := B.bytes
  have hlocks := B.notSynchronized
  have hr := B.returns
  have hown : s.vm.findClass RL = some m.cls := findClass_of_methodNamed B.named
  have hSS : va_S (fun _ => False) s.heap s.heap [] := va_S.rf
  have hl := lv_entry ([.ref b, .int (nI k)]) (n := 2) (Nat.le_of_ble_eq_true rfl)
  rw [lg_entry_eq]
  generalize (lg_sl ([.ref b, .int (nI k)]) ++ List.replicate (2 - (lg_sl ([.ref b, .int (nI k)])).length) Slot.unset).toArray = ls at hl ⊢
  have hl : lv_has ls 2 [(0, .ref b), (1, .int (nI k))] := hl
  have fin : ∀ (z : Int32) (t : State), t.heap = s.heap → mx_Qm (fun v M' => (∃ z, v = some (.int z)) ∧ M' = M) D ad cy ([.ref b, .int (nI k)] : List Value).toArray s (.returned (some (.int z))) t := fun z t ht => ⟨⟨some (.int z), M, rfl, ⟨⟨z, rfl⟩, rfl⟩, by rw [ht]; exact hP⟩, (va_S.rf (A := mx_A ad)).F ht⟩
  refine lv_iload_n hx hb dL_lot_0 rfl (lv_at hl 1 rfl) ?_
  refine lv_aload_n hx hb dL_lot_1 rfl (lv_at hl 0 rfl) ?_
  refine va_slen hx hb hX hbl (fun z => z) hSS dL_lot_2 ?_
  refine lv_icmp_ge (tgt := 12) hx hb dL_lot_3 (by decide) (fun _ => ?_) (fun q => ?_)
  · refine lv_ldc hx hb hown (hts _ cl_k7) dL_lot_12 ?_
    refine lv_iload_n hx hb dL_lot_14 rfl (lv_at hl 1 rfl) ?_
    refine lv_sipush hx hb dL_lot_15 rfl ?_
    refine lv_iadd hx hb dL_lot_18 ?_
    refine lv_imul hx hb dL_lot_19 ?_
    refine lv_sipush hx hb dL_lot_20 rfl ?_
    refine lv_iadd hx hb dL_lot_23 ?_
    exact W.iret hx hb hr (fun t ht _ => fin _ t ht) (fun q hq => by cases hq) dL_lot_24
  · refine lv_aload_n hx hb dL_lot_6 rfl (lv_at hl 0 rfl) ?_
    refine lv_iload_n hx hb dL_lot_7 rfl (lv_at hl 1 rfl) ?_
    have hkL : k < L := by
      refine Nat.not_le.mp fun z => q ?_
      exact (nI_leI (by omega) (by omega)).mpr z
    refine va_sld hx hb hX hbl (fun z => z) hSS (vp_in_nI hkL (by omega)) dL_lot_8 ?_
    refine lv_goto (tgt := 24) hx hb dL_lot_9 (by decide) ?_
    exact W.iret hx hb hr (fun t ht _ => fin _ t ht) (fun q hq => by cases hq) dL_lot_24
theorem lx_lot (hC : lx_C p s m c b L xs D ad cy) (hL260 : L ≤ 260) {pc pc' idx k : Nat} {ls : List (Option Value)} {st : List Value} {M : mx_M} (hk : k < 1000)
    (hd : decode code pc = .ok (.invokestatic idx, 3)) (hc : mx_cS RL idx yL_lot cL_lot 2 (some .int) 2) (hr : (st.map fun v => v.category).sum ≤ 8) (hp : pc + 3 = pc')
    (kk : ∀ (z : Int32), lx_V p l e s m below meth c b D ad cy Z M pc' ls (.int z :: st)) : lx_V p l e s m below meth c b D ad cy Z M pc ls (.int (nI k) :: .ref 143 :: st) := by
  intro H locs lsA hP hSS hL
  obtain ⟨hx, hb, hml, hown, hts, hS, hX, hbl, hD, had⟩ := hC
  subst hp
  obtain ⟨c1, ⟨c2, c3, c4, c7⟩, c5⟩ := hc
  have cb : CallB room_1 s #[Value.ref b] RL idx yL_lot cL_lot 2 (some .int) (Cond.code yL_lot cL_lot 2 (some .int) :: mx_TW) (mx_rm 1) 0 0 2 := callB_of 2 hts (mx_GI c2) rfl rfl rfl (hts _ c3) (hts _ c1) c4 ⟨by show 1 + 1 ≤ 11; omega, by show 8 + (2 + 11) + 38 * 1 ≤ 442; omega⟩
  have hHb : H[b]? = s.heap[b]? := hSS.2.1 b hbl (fun z => absurd (show s.heap.size ≤ b from z) (by omega))
  have hrun := va_runS (As := [.ref b, .int (nI k)]) (rest := st.map (mx_r ad)) (cells := 143) (slots := 2897) (locs := locs) (below := below) (meth := meth) (e := e) (H := H) (g := F0 m pc lsA ((.int (nI k) :: .ref 143 :: st).map (mx_r ad))) (⟨hx, hb, hml, hown, hts⟩ : CallFix p m c code 13 s #[Value.ref b] mx_TW RL) (lt_met b L xs hL260 k hk M l D ad cy) ⟨cb, hts _ c5⟩
    ⟨fun a U g mk q => q, fun U hU hW => ⟨rfl, by rw [hU]; exact (hX.kept hHb).moved hW.alike, by rw [hU]; exact Nat.lt_of_lt_of_le hbl hSS.1, by rw [hU]; exact hP⟩⟩ rfl rfl hL.1 (by simp [mx_r, had]) (lv_room (mx_cats ad hr)) hd ⟨Nat.le_of_ble_eq_true rfl, Nat.le_of_ble_eq_true rfl⟩
  refine mx_run hrun hSS (fun z hz => by obtain ⟨i, hi, rfl⟩ := hz; exact hD.2 i hi) (fun v M' H1 locs1 hq hP1 hS1 => ?_)
  obtain ⟨⟨z, rfl⟩, rfl⟩ := hq
  exact kk z H1 locs1 lsA hP1 hS1 hL
end LX
