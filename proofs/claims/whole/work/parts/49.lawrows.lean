/-! THE LAW'S OWN MACHINE: its script at b, both objects in the mini machine's memory, 154 cells made -/
def lx_C (p : Program) (s : State) (m : MethodId) (c : Code) (b L : Nat) (xs : Nat → Int32) (D : va_G) (ad : Nat → Nat) (cy : Nat → ClassId) : Prop :=
  p.tables.exec = Jvm.exec ∧ c.code = code ∧ c.maxLocals = 8 ∧ s.vm.findClass RL = some m.cls ∧ (∀ w ∈ mx_TW, w.before #[Value.ref b] s = true) ∧ mx_S D cy s ∧ va_X b L xs s s.heap ∧ b < s.heap.size ∧ mx_D ad (fun q => s.heap.size ≤ q)
def lx_V (p : Program) (l : Launch) (e : Env) (s : State) (m : MethodId) (below : List Frame) (meth : Method) (c : Code) (b : Nat) (D : va_G) (ad : Nat → Nat) (cy : Nat → ClassId) (Z : State → Prop) (M : mx_M) (pc : Nat) (ls : List (Nat × Value)) (st : List Value) : Prop :=
  ∀ (H : Heap) (locs : List Loc) (lsA : Array Slot), va_P D vwCl (mx_w ad cy M) H → va_S (fun q => s.heap.size ≤ q) s.heap H locs → lv_has lsA 8 ls → W p l e room_1 s m #[Value.ref b] below meth c H locs 154 5752 Z (F0 m pc lsA st)
def lx_l (b : Nat) (ad : Nat → Nat) (x : Int32) : List (Nat × Value) := [(0, .ref b), (1, .ref (ad 0)), (2, .ref (ad 143)), (3, .int x)]
section LX
variable {p : Program} {l : Launch} {e : Env} {s : State} {m : MethodId} {below : List Frame} {meth : Method} {c : Code} {b L : Nat} {xs : Nat → Int32} {D : va_G} {ad : Nat → Nat} {cy : Nat → ClassId} {Z : State → Prop} {M : mx_M} {pc : Nat} {ls : List (Nat × Value)} {st : List Value}
theorem lx_aload (hC : lx_C p s m c b L xs D ad cy) {k : Fin 4} (j : Nat) {a : Nat} (hd : decode code pc = .ok (.aload_n k, 1)) (hl : ls[j]? = some (k.val, .ref a)) (kk : lx_V p l e s m below meth c b D ad cy Z M (pc + 1) ls (.ref a :: st)) : lx_V p l e s m below meth c b D ad cy Z M pc ls st := by
  intro H locs lsA hP hSS hL
  exact lv_aload_n hC.1 hC.2.1 hd rfl (lv_at hL j hl) (kk H locs lsA hP hSS hL)
theorem lx_iload (hC : lx_C p s m c b L xs D ad cy) {k : Fin 4} (j : Nat) {x : Int32} (hd : decode code pc = .ok (.iload_n k, 1)) (hl : ls[j]? = some (k.val, .int x)) (kk : lx_V p l e s m below meth c b D ad cy Z M (pc + 1) ls (.int x :: st)) : lx_V p l e s m below meth c b D ad cy Z M pc ls st := by
  intro H locs lsA hP hSS hL
  exact lv_iload_n hC.1 hC.2.1 hd rfl (lv_at hL j hl) (kk H locs lsA hP hSS hL)
/-- an argument: the script's cell i + j -/
theorem lx_arg (hC : lx_C p s m c b L xs D ad cy) {i : Nat} (j : Nat) {n : Int} (hi : i + 5 ≤ L) (hL : L ≤ 2560) (hj : j < 5) (hn : Int32.ofInt n = nI j) (h0 : decode code pc = .ok (.aload_n 0, 1)) (h1 : decode code (pc + 1) = .ok (.iload_n 3, 1)) (h2 : decode code (pc + 2) = .ok (.iconst n, 1)) (h3 : decode code (pc + 3) = .ok (.iadd, 1)) (h4 : decode code (pc + 4) = .ok (.iaload, 1))
    (kk : lx_V p l e s m below meth c b D ad cy Z M (pc + 5) (lx_l b ad (nI i)) (.int (xs (i + j)) :: st)) : lx_V p l e s m below meth c b D ad cy Z M pc (lx_l b ad (nI i)) st := by
  intro H locs lsA hP hSS hl
  obtain ⟨hx, hb, hml, hown, hts, hS, hX, hbl, hD⟩ := hC
  refine lv_aload_n hx hb h0 rfl (lv_at hl 0 rfl) ?_
  refine lv_iload_n hx hb h1 rfl (lv_at hl 3 rfl) ?_
  refine lv_iconst hx hb h2 hn ?_
  refine lv_iadd hx hb h3 ?_
  rw [nI_add]
  refine va_sld hx hb hX hbl (Nat.not_le.mpr hbl) hSS (vp_in_nI (by omega) (by omega)) h4 ?_
  rw [nI_clamp (show i + j < 2147483648 by omega)]
  exact kk H locs lsA hP hSS hl
/-- the first cell of a call -/
theorem lx_arg0 (hC : lx_C p s m c b L xs D ad cy) {i : Nat} (hi : i + 5 ≤ L) (hL : L ≤ 2560) (h0 : decode code pc = .ok (.aload_n 0, 1)) (h1 : decode code (pc + 1) = .ok (.iload_n 3, 1)) (h4 : decode code (pc + 2) = .ok (.iaload, 1))
    (kk : lx_V p l e s m below meth c b D ad cy Z M (pc + 3) (lx_l b ad (nI i)) (.int (xs i) :: st)) : lx_V p l e s m below meth c b D ad cy Z M pc (lx_l b ad (nI i)) st := by
  intro H locs lsA hP hSS hl
  obtain ⟨hx, hb, hml, hown, hts, hS, hX, hbl, hD⟩ := hC
  refine lv_aload_n hx hb h0 rfl (lv_at hl 0 rfl) ?_
  refine lv_iload_n hx hb h1 rfl (lv_at hl 3 rfl) ?_
  refine va_sld hx hb hX hbl (Nat.not_le.mpr hbl) hSS (vp_in_nI (by omega) (by omega)) h4 ?_
  rw [nI_clamp (show i < 2147483648 by omega)]
  exact kk H locs lsA hP hSS hl
theorem lx_call (hC : lx_C p s m c b L xs D ad cy) {idx q ci n nL2 d2 : Nat} {y : MethodName} {cc2 : ByteArray} {ret2 : Option FieldType} {As st0 : List Value} {t : List (Option Nat)} {Q2 : Option Value → mx_M → Prop}
    (hd : decode code pc = .ok (.invokevirtual idx, 3)) (hc : mx_cV RL idx y cc2 nL2 ret2 n ci) (hs : mx_sh q = .inr (ci, t)) (hT : mx_T y cc2 nL2 ret2 d2 (.ref q :: As) M Q2) (hn : As.length = n) (hd2 : d2 ≤ 8) (hst : st0 = (As.map (mx_r ad)).reverse ++ .ref (ad q) :: st) (hr : (st.map fun v => v.category).sum ≤ 8)
    (k : ∀ (v : Option Value) (M' : mx_M), Q2 v M' → lx_V p l e s m below meth c b D ad cy Z M' (pc + 3) ls ((v.map (mx_r ad)).toList ++ st)) : lx_V p l e s m below meth c b D ad cy Z M pc ls st0 := by
  intro H locs lsA hP hSS hl
  obtain ⟨hx, hb, hml, hown, hts, hS, hX, hbl, hD⟩ := hC
  subst hst
  obtain ⟨c1, ⟨c2, c3, c4, c7⟩, c5, c6, T0, N0, c8⟩ := hc
  have cb : CallB room_1 s #[Value.ref b] RL idx y cc2 nL2 ret2 (Cond.code y cc2 nL2 ret2 :: mx_TW) (mx_rm d2) 0 0 n := callB_of n hts (mx_GI c2) rfl rfl rfl (hts _ c3) (hts _ c1) c4 ⟨by show d2 + 1 ≤ 9; omega, by show 8 + (nL2 + 11) + 36 * d2 ≤ 330; omega⟩
  have hrun := va_runV (As := As.map (mx_r ad)) (rest := st) (cells := 154) (slots := 5752) (locs := locs) (below := below) (meth := meth) (e := e) (H := H) (g := F0 m pc lsA ((As.map (mx_r ad)).reverse ++ .ref (ad q) :: st)) (⟨hx, hb, hml, hown, hts⟩ : CallFix p m c code 8 s #[Value.ref b] mx_TW RL) (hT l D ad cy) ⟨cb, hts _ c5, hts _ c6⟩
    ⟨mx_blind _ _ _ _ _, va_recv hS.1 hP c8 ((mx_w_get ad cy M (mx_sh_lt (Or.inl ⟨_, hs⟩))).trans (congrArg (fun e => some (ad q, e)) (mx_c_obj ad cy hs))), fun U hU hW => ⟨rfl, by rw [hU]; exact hP, mx_S.warm hW hS, hD.1⟩⟩ rfl (by rw [List.length_map]; exact hn) hl.1 rfl (lv_room hr) hd ⟨Nat.le_of_ble_eq_true rfl, Nat.le_of_ble_eq_true rfl⟩
  refine mx_run hrun hSS (fun z hz => by obtain ⟨i, hi, rfl⟩ := hz; exact hD.2 i hi) (fun v M' H1 locs1 hq hP1 hS1 => ?_)
  exact k v M' hq H1 locs1 lsA hP1 hS1 hl
/-- the two answers are one -/
theorem lx_same (hC : lx_C p s m c b L xs D ad cy) {x : Int32} {off : Int} {tgt : Nat} (hd : decode code pc = .ok (.if_icmp .eq off, 3)) (ht : (pc : Int) + off = (tgt : Int)) (kk : lx_V p l e s m below meth c b D ad cy Z M tgt ls st) : lx_V p l e s m below meth c b D ad cy Z M pc ls (.int x :: .int x :: st) := by
  intro H locs lsA hP hSS hl
  exact lv_icmp_eq hC.1 hC.2.1 hd ht (fun _ => kk H locs lsA hP hSS hl) (fun z => absurd rfl z)
theorem lx_goto (hC : lx_C p s m c b L xs D ad cy) {off : Int} {tgt : Nat} (hd : decode code pc = .ok (.goto off, 3)) (ht : (pc : Int) + off = (tgt : Int)) (kk : lx_V p l e s m below meth c b D ad cy Z M tgt ls st) : lx_V p l e s m below meth c b D ad cy Z M pc ls st := by
  intro H locs lsA hP hSS hl
  exact lv_goto hC.1 hC.2.1 hd ht (kk H locs lsA hP hSS hl)
end LX
theorem MoA.mo {M M' : mx_M} {Y : Sy} (h : MoA M Y) (hm : Mo M M') : MoA M' Y :=
  h.fr (hm 144 (by decide)) (congrFun (hm 143 (by decide)) 3) (congrFun (hm 143 (by decide)) 5) (congrFun (hm 143 (by decide)) 7) (hm 146 (by decide)) (hm 147 (by decide)) (hm 148 (by decide))
theorem CoA.cl {M M' : mx_M} {Y : Sy} (h : CoA M Y) (hm : Cl M M') : CoA M' Y := h.fr fun q hq => hm q (by omega)
