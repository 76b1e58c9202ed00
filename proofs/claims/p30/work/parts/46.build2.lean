/-! THE BUILDING MACHINE: what is made, and constructors called -/
def cx_N (own : String) (idx ci : Nat) (fs : List Value) : Prop := ∃ (C : String) (T : u_T) (N : Nat) (ty : Nat → FieldType), vwCl[ci]? = some (C, T, N) ∧ N = fs.length ∧ Cond.classLink own idx C ∈ mx_TW ∧ Cond.instantiable C N ∈ mx_TW ∧ Cond.initialized C ∈ mx_TW ∧ (∀ w ∈ u_ws C T N, w ∈ mx_TW) ∧ (∀ j, j < N → parseFieldDescriptor (T j).2.2.1 = some (ty j)) ∧ (∀ j, j < N → defaultValue (ty j) = vp_V fs j) ∧ ∀ ad : Nat → Nat, fs.map (mx_r ad) = fs
theorem cx_newW {p : Program} {l : Launch} {e : Env} {R : Room} {s : State} {m : MethodId} {args : Array Value} {below : List Frame} {meth : Method} {c : Code} {D : va_G} {h0 : Nat} {cy : Nat → ClassId} {E : List cx_E} {H H0 : Heap} {locs : List Loc} {ce sl : Nat} {Z : State → Prop} {pc : Nat} {lsA : Array Slot} {st : List Value} {cc : ByteArray} {own : String} {idx ci : Nat} {fs : List Value} (hx : p.tables.exec = Jvm.exec) (hb : c.code = cc) (hown : s.vm.findClass own = some m.cls) (hts : ∀ w ∈ mx_TW, w.before args s = true) (hS : mx_S D cy s) (hP : va_P D vwCl (cx_w h0 cy E) H) (hSS : va_S (fun q => h0 ≤ q) H0 H locs) (hd : decode cc pc = .ok (.new idx, 3)) (hw : cx_N own idx ci fs) (hce : ce + 1 ≤ R.cells) (hsl : sl + fs.length ≤ R.slots) (hsz : H.size = h0 + E.length)
    (k : ∀ H1 : Heap, va_P D vwCl (cx_w h0 cy (E ++ [.inr (ci, fs)])) H1 → va_S (fun q => h0 ≤ q) H0 H1 locs → W p l e R s m args below meth c H1 locs (ce + 1) (sl + fs.length) Z (F0 m (pc + 3) lsA (.ref (h0 + E.length) :: st))) : W p l e R s m args below meth c H locs ce sl Z (F0 m pc lsA st) := by
  obtain ⟨C, T, N, ty, h1, h2, h3, h4, h5, h6, h7, h8, h9⟩ := hw
  subst h2
  have hKn := hS.1.1 ci _ h1
  refine W.newcK hx hb hown (hts _ h3) (hts _ h4) (hts _ h5) rfl hd hce hsl hKn.2.1 rfl fun H1 kC hkC e1 z1 o1 => ?_
  have hat : va_at D vwCl (h0 + E.length, cx_c h0 cy (.inr (ci, fs))) H1 := by
    refine ⟨_, h1, ?_⟩
    show t_OB (h0 + E.length) _ _ _ H1 (vp_V (fs.map (mx_r (cx_ad h0))))
    rw [h9, ← hsz]
    exact (u_born ty hts h6 hKn hkC e1 h7).to h8
  obtain ⟨hP1, hS1⟩ := cx_push hP hSS z1 o1 hat
  have kk := k H1 hP1 hS1
  rw [← hsz] at kk
  exact kk
def cx_rm (d K L : Nat) : Room := { frames := d, cells := K, slots := L, locals := 38 * d }
def cx_Pm (a : Nat) (E : List cx_E) (D : va_G) (h0 : Nat) (cy : Nat → ClassId) : Array Value → State → Prop := fun v U => v = ([.ref (h0 + a)] : List Value).toArray ∧ va_P D vwCl (cx_w h0 cy E) U.heap ∧ mx_S D cy U ∧ cx_O cy U ∧ U.heap.size = h0 + E.length
def cx_Qm (E : List cx_E) (D : va_G) (h0 : Nat) (cy : Nat → ClassId) : Array Value → State → Outcome → State → Prop := fun _ st o t => (o = .returned none ∧ va_P D vwCl (cx_w h0 cy E) t.heap) ∧ va_F (fun q => h0 ≤ q) st t
/-- A CONSTRUCTOR: from the entries E, with its object at place a, to the entries E2 -/
def cx_T (y : MethodName) (cc : ByteArray) (nL d a : Nat) (E E2 : List cx_E) (K L : Nat) : Prop := ∀ (l : Launch) (D : va_G) (h0 : Nat) (cy : Nat → ClassId), Met l y (Cond.code y cc nL none :: mx_TW) (cx_rm d K L) (cx_Pm a E D h0 cy) (cx_Qm E2 D h0 cy) K L (fun q => h0 ≤ q)
theorem cx_T.of {y : MethodName} {cc : ByteArray} {nL d a pcE K L : Nat} {E E2 : List cx_E} {lsE : List (Option Value)} (hy : plainName y.cls = true) (hyn : y.name = "<init>") (hn : 1 ≤ nL) (hret : decode cc pcE = .ok (.return_, 1))
    (h : cx_V K L E.length cc y.cls nL d (0, some (.ref a) :: List.replicate (nL - 1) none, [], E, 0, 0) (pcE, lsE, [], E2, K, L)) : cx_T y cc nL d a E E2 K L := by
  intro l D h0 cy
  refine Met.ofW (cc := cc) (maxL := nL) (ret := none) hy rfl ?_
  intro p e s m args below meth c s₁ B hml hv
  obtain ⟨rfl, hP, hS, hO, hz⟩ := hv
  have hts : ∀ w ∈ mx_TW, w.before ([.ref (h0 + a)] : List Value).toArray s = true := fun w hw => atoms_spec (ws := Cond.code y cc nL none :: mx_TW) B.pre w (List.mem_cons_of_mem _ hw)
  rw [lg_entry_eq]
  have hlocks := B.notSynchronized
  have hr := B.returns
  have hnm : meth.name = "<init>" := by
    exact (name_of_methodNamed B.named B.method).1.trans hyn
  refine h p l e _ s m _ below meth c D h0 cy s.heap _ B.exec B.bytes hml hnm (findClass_of_methodNamed B.named) hts hS hO ⟨Nat.le_refl d, Nat.le_refl (38 * d), Nat.le_refl K, Nat.le_refl L⟩ (by rw [hz]; exact Nat.le_add_right _ _) hz ?_ s.heap [] _ hP va_S.rf (mx_L.entry (cx_ad h0) [.ref a] nL hn rfl)
  intro H locs lsA hP' hS' _
  exact W.vret B.exec B.bytes hr (fun t ht _ => ⟨⟨rfl, by rw [ht]; exact hP'⟩, hS'.F ht⟩) hS'.2.2 hret
def cx_cI (own : String) (idx : Nat) (y : MethodName) (cc : ByteArray) (nL : Nat) : Prop := (Cond.methodLink own idx y ∈ mx_TW ∨ ∃ host, Cond.methodLinkNest own idx y host ∈ mx_nest) ∧ mx_y y cc nL none 0 ∧ Cond.instanceMethod y ∈ mx_TW ∧ y.name = "<init>"
theorem cx_blind (a : Nat) (E : List cx_E) (D : va_G) (h0 : Nat) (cy : Nat → ClassId) : FrameBlind (cx_Pm a E D h0 cy) := fun x U g mk q => ⟨q.1, q.2.1, mx_S.same (s := U) (U := U.calling g mk x) rfl q.2.2.1, cx_O.moved (u := U) (U := U.calling g mk x) (Vm.Alike.refl U.vm) q.2.2.2.1, q.2.2.2.2⟩
theorem cx_run {p : Program} {l : Launch} {e : Env} {R : Room} {s : State} {m : MethodId} {args : Array Value} {below : List Frame} {meth : Method} {c : Code} {D : va_G} {h0 : Nat} {cy : Nat → ClassId} {H H0 : Heap} {locs : List Loc} {ce sl : Nat} {Z : State → Prop} {pc : Nat} {lsA : Array Slot} {st : List Value} {E2 : List cx_E} {K2 L2 : Nat} {st0 : List Value} {a : Array Value} (hr : va_Run p l e R s m args below meth c H locs ce sl K2 L2 (F0 m pc lsA st0) st (cx_Qm E2 D h0 cy a) (fun q => h0 ≤ q)) (hS : va_S (fun q => h0 ≤ q) H0 H locs)
    (kk : ∀ (H1 : Heap) (locs1 : List Loc), va_P D vwCl (cx_w h0 cy E2) H1 → va_S (fun q => h0 ≤ q) H0 H1 locs1 → W p l e R s m args below meth c H1 locs1 (ce + K2) (sl + L2) Z (F0 m (pc + 3) lsA st)) : W p l e R s m args below meth c H locs ce sl Z (F0 m pc lsA st0) := by
  intro T hT X
  obtain ⟨v, st₀, t, T', L, h0', X', hL, e1, e2, ⟨⟨hv, hp⟩, hz, hk⟩, st⟩ := hr T hT X
  cases hv
  rw [h0'] at hz hk
  rw [← e1] at hp hz hk
  obtain ⟨t2, a1, b1⟩ := kk T'.heap (locs ++ L) hp
    ⟨Nat.le_trans hS.1 hz, fun q h1 h2 => by rw [hk q (Nat.lt_of_lt_of_le h1 hS.1) h2]; exact hS.2.1 q h1 h2, fun q hq => by
      rcases List.mem_append.mp hq with h | h
      · exact hS.2.2 q h
      · exact hL q h⟩ T' rfl X'
  exact ⟨t2, st t2 a1, b1⟩
theorem cx_callW {p : Program} {l : Launch} {e : Env} {R : Room} {s : State} {m : MethodId} {args : Array Value} {below : List Frame} {meth : Method} {c : Code} {D : va_G} {h0 : Nat} {cy : Nat → ClassId} {E : List cx_E} {H H0 : Heap} {locs : List Loc} {ce sl : Nat} {Z : State → Prop} {pc : Nat} {lsA : Array Slot} {st : List Value} {cc : ByteArray} {own : String} {idx nL nL2 a d2 K2 L2 : Nat} {y : MethodName} {cc2 : ByteArray} {E2 : List cx_E} (hx : p.tables.exec = Jvm.exec) (hb : c.code = cc) (hml : c.maxLocals = nL) (hown : s.vm.findClass own = some m.cls) (hts : ∀ w ∈ mx_TW, w.before args s = true) (hS : mx_S D cy s) (hO : cx_O cy s) (hP : va_P D vwCl (cx_w h0 cy E) H) (hSS : va_S (fun q => h0 ≤ q) H0 H locs) (hd : decode cc pc = .ok (.invokespecial idx, 3)) (hc : cx_cI own idx y cc2 nL2) (hT : cx_T y cc2 nL2 d2 a E E2 K2 L2) (hl : lsA.size = nL) (hcat : (st.map fun v => v.category).sum ≤ 8) (hR : d2 + 1 ≤ R.frames ∧ 38 * (d2 + 1) ≤ R.locals) (hce : ce + K2 ≤ R.cells) (hsl : sl + L2 ≤ R.slots) (hsz : H.size = h0 + E.length)
    (k : ∀ (H1 : Heap) (locs1 : List Loc), va_P D vwCl (cx_w h0 cy E2) H1 → va_S (fun q => h0 ≤ q) H0 H1 locs1 → W p l e R s m args below meth c H1 locs1 (ce + K2) (sl + L2) Z (F0 m (pc + 3) lsA st)) : W p l e R s m args below meth c H locs ce sl Z (F0 m pc lsA (.ref (h0 + a) :: st)) := by
  obtain ⟨c1, ⟨c2, c3, c4, c7⟩, c5, c6⟩ := hc
  have hR1 : (cx_rm d2 K2 L2).frames + 1 ≤ R.frames ∧ 8 + (nL2 + 11) + (cx_rm d2 K2 L2).locals ≤ R.locals := ⟨hR.1, by show 8 + (nL2 + 11) + 38 * d2 ≤ _; have := hR.2; omega⟩
  have hpre : PreS s H (cx_Pm a E D h0 cy) (.ref (h0 + a) :: []) := ⟨cx_blind a E D h0 cy, fun U hU hW => ⟨rfl, by rw [hU]; exact hP, mx_S.warm hW hS, hO.moved hW.alike, by rw [hU]; exact hsz⟩⟩
  rcases c1 with c1 | ⟨host, c1⟩
  · have cb : CallB R s args own idx y cc2 nL2 none (Cond.code y cc2 nL2 none :: mx_TW) (cx_rm d2 K2 L2) K2 L2 0 := callB_of 0 hts (mx_GI c2) rfl rfl rfl (hts _ c3) (hts _ c1) c4 hR1
    have hrun := va_runI (As := []) (rest := st) (cells := ce) (slots := sl) (locs := locs) (below := below) (meth := meth) (e := e) (H := H) (g := F0 m pc lsA (.ref (h0 + a) :: st)) (⟨hx, hb, hml, hown, hts⟩ : CallFix p m c cc nL s args mx_TW own) (hT l D h0 cy) ⟨cb, c6, hts _ c5⟩ hpre rfl rfl hl rfl (lv_room hcat) hd ⟨hce, hsl⟩
    exact cx_run hrun hSS k
  · have cb : va_CN R s args own idx y host cc2 nL2 none (Cond.code y cc2 nL2 none :: mx_TW) (cx_rm d2 K2 L2) K2 L2 0 := va_cnB 0 hts (mx_GI c2) rfl rfl rfl (hS.2 _ c1) (hts _ c3) c4 hR1
    have hrun := va_runIN (As := []) (rest := st) (cells := ce) (slots := sl) (locs := locs) (below := below) (meth := meth) (e := e) (H := H) (g := F0 m pc lsA (.ref (h0 + a) :: st)) (⟨hx, hb, hml, hown, hts⟩ : CallFix p m c cc nL s args mx_TW own) (hT l D h0 cy) ⟨cb, c6, hts _ c5⟩ hpre rfl rfl hl rfl (lv_room hcat) hd ⟨hce, hsl⟩
    exact cx_run hrun hSS k
theorem cx_w_oi : Cond.instanceMethod Lib.objectInit ∈ mx_TW := mx_in 40 (by decide +kernel) (by decide +kernel)
theorem cx_w_oc : Cond.code Lib.objectInit ⟨#[0xb1]⟩ 1 none ∈ mx_TW := mx_in 41 (by decide +kernel) (by decide +kernel)
theorem cx_obj {K L n0 : Nat} {cc : ByteArray} {own : String} {nL d pc pc' : Nat} {ls : List (Option Value)} {st : List Value} {E : List cx_E} {ce sl : Nat} {b : cx_C} {idx a : Nat} (hd : decode cc pc = .ok (.invokespecial idx, 3)) (hw : Cond.methodLink own idx Lib.objectInit ∈ mx_TW) (hd1 : 1 ≤ d) (hp : pc + 3 = pc') (k : cx_V K L n0 cc own nL d (pc', ls, [], E, ce, sl) b) : cx_V K L n0 cc own nL d (pc, ls, [.ref a], E, ce, sl) b := by
  intro p l e R s m args below meth c D h0 cy H0 Z hx hb hml hnm hown hts hS hO hR hH hn0 hE H locs lsA hP hSS hL
  subst hp
  refine W.objInit hx hb hown (hts _ hw) (hts _ cx_w_oi) (hts _ cx_w_oc) rfl (by rw [hml]; exact hL.1) rfl hd (Nat.le_trans hd1 hR.1) (Nat.le_trans (show 12 ≤ 38 * d by omega) hR.2.1) ?_
  exact (k p l e R s m args below meth c D h0 cy H0 Z hx hb hml hnm hown hts hS hO hR hH hn0 hE H locs lsA hP hSS hL)
theorem cx_new {K L n0 : Nat} {cc : ByteArray} {own : String} {nL d pc pc' : Nat} {ls : List (Option Value)} {st : List Value} {E : List cx_E} {ce sl : Nat} {b : cx_C} {idx ci : Nat} {fs : List Value} (hd : decode cc pc = .ok (.new idx, 3)) (hw : cx_N own idx ci fs) (hle : ce + 1 ≤ K) (hls : sl + fs.length ≤ L) (hlen : E.length = n0 + ce) (hp : pc + 3 = pc') (k : cx_V K L n0 cc own nL d (pc', ls, .ref E.length :: st, E ++ [.inr (ci, fs)], ce + 1, sl + fs.length) b) : cx_V K L n0 cc own nL d (pc, ls, st, E, ce, sl) b := by
  intro p l e R s m args below meth c D h0 cy H0 Z hx hb hml hnm hown hts hS hO hR hH hn0 hE H locs lsA hP hSS hL
  subst hp
  refine cx_known hP hSS hH hn0 hlen fun hsz => ?_
  refine cx_newW hx hb hown hts hS hP hSS hd hw (Nat.le_trans hle hR.2.2.1) (Nat.le_trans hls hR.2.2.2) hsz fun H1 hP1 hS1 => ?_
  exact (k p l e R s m args below meth c D h0 cy H0 Z hx hb hml hnm hown hts hS hO hR hH hn0 hE H1 locs lsA hP1 hS1 hL)
theorem cx_call {K L n0 : Nat} {cc : ByteArray} {own : String} {nL d pc pc' : Nat} {ls : List (Option Value)} {st : List Value} {E : List cx_E} {ce sl : Nat} {b : cx_C} {idx nL2 a d2 K2 L2 : Nat} {y : MethodName} {cc2 : ByteArray} {E2 : List cx_E} (hd : decode cc pc = .ok (.invokespecial idx, 3)) (hc : cx_cI own idx y cc2 nL2) (hT : cx_T y cc2 nL2 d2 a E E2 K2 L2) (hcat : (st.map fun v => v.category).sum ≤ 8) (hd2 : d2 + 1 ≤ d) (hle : ce + K2 ≤ K) (hls : sl + L2 ≤ L) (hlen : E.length = n0 + ce) (hp : pc + 3 = pc') (k : cx_V K L n0 cc own nL d (pc', ls, st, E2, ce + K2, sl + L2) b) : cx_V K L n0 cc own nL d (pc, ls, .ref a :: st, E, ce, sl) b := by
  intro p l e R s m args below meth c D h0 cy H0 Z hx hb hml hnm hown hts hS hO hR hH hn0 hE H locs lsA hP hSS hL
  subst hp
  refine cx_known hP hSS hH hn0 hlen fun hsz => ?_
  refine cx_callW hx hb hml hown hts hS hO hP hSS hd hc hT hL.1 (mx_cats _ hcat) ⟨Nat.le_trans hd2 hR.1, Nat.le_trans (Nat.mul_le_mul_left 38 hd2) hR.2.1⟩ (Nat.le_trans hle hR.2.2.1) (Nat.le_trans hls hR.2.2.2) hsz fun H1 locs1 hP1 hS1 => ?_
  exact (k p l e R s m args below meth c D h0 cy H0 Z hx hb hml hnm hown hts hS hO hR hH hn0 hE H1 locs1 lsA hP1 hS1 hL)
theorem cx_newq {K L n0 : Nat} {cc : ByteArray} {own : String} {nL d pc pc' : Nat} {ls : List (Option Value)} {st : List Value} {E : List cx_E} {ce sl : Nat} {b : cx_C} {idx N : Nat} {x : Int32} (hd : decode cc pc = .ok (.anewarray idx, 3)) (hw : Cond.classLink own idx RX3 ∈ mx_TW) (hxN : x = nI N) (hN : N < 100000) (hle : ce + 1 ≤ K) (hls : sl + N ≤ L) (hlen : E.length = n0 + ce) (hp : pc + 3 = pc') (k : cx_V K L n0 cc own nL d (pc', ls, .ref E.length :: st, E ++ [.inl (2, N, fun _ => 0, fun _ => none)], ce + 1, sl + N) b) : cx_V K L n0 cc own nL d (pc, ls, .int x :: st, E, ce, sl) b := by
  intro p l e R s m args below meth c D h0 cy H0 Z hx hb hml hnm hown hts hS hO hR hH hn0 hE H locs lsA hP hSS hL
  subst hp
  subst hxN
  have hNc : (nI N).toNatClampNeg = N := nI_clamp (by omega)
  refine cx_known hP hSS hH hn0 hlen fun hsz => ?_
  refine W.anew hx hb hown (hts _ hw) (va_AO.use hO.1) rfl hd rfl (nI_pos (by omega)) (by rw [hNc]; omega) (Nat.le_trans hle hR.2.2.1) (by rw [hNc]; exact Nat.le_trans hls hR.2.2.2) fun cA kA comp f1 f2 f3 f4 => ?_
  rw [hNc]
  obtain ⟨kA', comp', g1, g2, g3, g4⟩ := (hS.1.2 2 _ rfl).2
  have hcA : cA = cy 2 := Option.some.inj (f1.symm.trans g4)
  subst hcA
  generalize hH1 : H.push ({ cls := cy 2, slots := Array.replicate N .null, vm := .none } : Cell) = H1
  obtain ⟨hP1, hS1⟩ := cx_push (H1 := H1) (e := .inl (2, N, fun _ => 0, fun _ => none)) hP hSS (by rw [← hH1, Array.size_push]) (fun q hq => by rw [← hH1, Array.getElem?_push, if_neg (Nat.ne_of_lt hq)]) (by
    show H1[h0 + E.length]? = some (arrV (cy 2) N (fun _ => .null))
    rw [← hsz, ← hH1, Array.getElem?_push_size, ← arrV_new])
  rw [hsz]
  exact (k p l e R s m args below meth c D h0 cy H0 Z hx hb hml hnm hown hts hS hO hR hH hn0 hE H1 locs lsA hP1 hS1 hL)
theorem cx_newm {K L n0 : Nat} {cc : ByteArray} {own : String} {nL d pc pc' : Nat} {ls : List (Option Value)} {st : List Value} {E : List cx_E} {ce sl : Nat} {b : cx_C} {idx n k1 : Nat} {C : String} {x y : Int32} (hd : decode cc pc = .ok (.multianewarray idx 2, 4)) (hw : Cond.classLink own idx C ∈ mx_TW) (hC : C = "[" ++ (FieldType.array .int).toString) (hxn : x = nI n) (hyk : y = nI k1) (hn : n < 10000) (hk : k1 < 10000) (hle : ce + (1 + n) ≤ K) (hls : sl + (n + n * k1) ≤ L) (hlen : E.length = n0 + ce) (hp : pc + 4 = pc') (k : cx_V K L n0 cc own nL d (pc', ls, .ref E.length :: st, E ++ (.inl (3, n, fun _ => 0, fun j => some (E.length + 1 + j)) :: List.replicate n (.inl (0, k1, fun _ => 0, fun _ => none))), ce + 1 + n, sl + n + n * k1) b) : cx_V K L n0 cc own nL d (pc, ls, .int y :: .int x :: st, E, ce, sl) b := by
  intro p l e R s m args below meth c D h0 cy H0 Z hx hb hml hnm hown hts hS hO hR hH hn0 hE H locs lsA hP hSS hL
  subst hp
  subst hxn; subst hyk
  obtain ⟨-, ⟨kO, h2, h3⟩, kI, cX, h4, h5⟩ := id hO
  have hf : s.vm.findClass C = some (cy 3) := by rw [hC]; exact (hS.1.2 3 _ rfl).2
  refine cx_known hP hSS hH hn0 hlen fun hsz => ?_
  refine gr_W hx hb hown (hts _ hw) hf h2 h3 h4 h5 rfl hd rfl (nI_pos (by omega)) (nI_pos (by omega)) (nI_clamp (by omega)) (nI_clamp (by omega)) (by omega) (by omega) (Nat.le_trans hle hR.2.2.1) (Nat.le_trans hls hR.2.2.2) fun H1 z1 o1 e1 i1 => ?_
  have hP1 : va_P D vwCl (cx_w h0 cy (E ++ (.inl (3, n, fun _ => 0, fun j => some (E.length + 1 + j)) :: List.replicate n (.inl (0, k1, fun _ => 0, fun _ => none))))) H1 := by
    intro i q hq
    have hi : i < E.length + (1 + n) := by
      have := (List.getElem?_eq_some_iff.mp hq).1
      simp [cx_w] at this
      omega
    by_cases h : i < E.length
    · obtain ⟨x, hx'⟩ := get_lt h
      have hg : (cx_w h0 cy (E ++ (.inl (3, n, fun _ => 0, fun j => some (E.length + 1 + j)) :: List.replicate n (.inl (0, k1, fun _ => 0, fun _ => none)))))[i]? = some (cx_ad h0 i, cx_c h0 cy x) := cx_w_get (by rw [List.getElem?_append_left h]; exact hx')
      cases hg.symm.trans hq
      have ho := hP i _ (cx_w_get hx')
      exact ho.kept (o1 _ (by have h9 := ho.lt; exact h9))
    · by_cases h' : i = E.length
      · subst h'
        cases (cx_w_get (h0 := h0) (cy := cy) (show (E ++ (.inl (3, n, fun _ => 0, fun j => some (E.length + 1 + j)) :: List.replicate n (.inl (0, k1, fun _ => 0, fun _ => none))))[E.length]? = some (.inl (3, n, fun _ => 0, fun j => some (E.length + 1 + j)) : cx_E) by simp)).symm.trans hq
        show H1[h0 + E.length]? = some (arrV (cy 3) n (fun j => .ref (h0 + (E.length + 1 + j))))
        rw [hsz] at e1
        rw [e1]
        simp only [Nat.add_assoc]
      · cases (cx_w_get (h0 := h0) (cy := cy) (show (E ++ (.inl (3, n, fun _ => 0, fun j => some (E.length + 1 + j)) :: List.replicate n (.inl (0, k1, fun _ => 0, fun _ => none))))[i]? = some (.inl (0, k1, fun _ => 0, fun _ => none) : cx_E) by
          rw [List.getElem?_append_right (by omega), show i - E.length = (i - E.length - 1) + 1 by omega, List.getElem?_cons_succ, List.getElem?_replicate, if_pos (by omega)])).symm.trans hq
        have := i1 (i - E.length - 1) (by omega)
        rw [hsz, show h0 + E.length + 1 + (i - E.length - 1) = h0 + i by omega] at this
        exact this
  have hS1 : va_S (fun q => h0 ≤ q) H0 H1 locs := ⟨by have := hSS.1; omega, fun q h1 h2 => (o1 q (Nat.lt_of_lt_of_le h1 hSS.1)).trans (hSS.2.1 q h1 h2), hSS.2.2⟩
  rw [hsz]
  exact (k p l e R s m args below meth c D h0 cy H0 Z hx hb hml hnm hown hts hS hO hR hH hn0 hE H1 locs lsA hP1 hS1 hL)
