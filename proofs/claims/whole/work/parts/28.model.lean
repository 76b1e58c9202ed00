/-! THE MODEL: 143, its rows s 144, aside 145, past 146, kept 147, pad 148, goes 149, read 150, freeAt 151, fewest 152, way 153 -/
def EmR (f : Nat → Int32) (p : Nat) (e : Em) : Prop := f p = nI e.1 ∧ f (p + 1) = nI e.2.1 ∧ f (p + 2) = nI e.2.2.1 ∧ f (p + 3) = nI e.2.2.2
def BuR (f : Nat → Int32) (p : Nat) (x : Bu) : Prop := f p = nI x.1 ∧ f (p + 1) = nI x.2.1 ∧ f (p + 2) = nI x.2.2.1 ∧ f (p + 3) = nI x.2.2.2.1 ∧ f (p + 4) = nI x.2.2.2.2
/-- a field in a row of words, from o on -/
def EncF (f : Nat → Int32) (o : Nat) (F : FS) : Prop :=
  f o = nI F.1.length ∧ f (o + 1) = nI F.2.1.length ∧ (∀ j, j < 5 → f (o + 2 + j) = nI (F.2.2.1 j)) ∧ (∀ j, j < 8 → f (o + 7 + j) = F.2.2.2 j) ∧ (∀ j, j < 2 → f (o + 15 + j) = nI (F.2.2.1 (5 + j))) ∧
  EmL F.1 ∧ BuL F.2.1 ∧ (∀ (i : Nat) (e : Em), F.1[i]? = some e → EmR f (o + 17 + 4 * i) e) ∧ (∀ (i : Nat) (x : Bu), F.2.1[i]? = some x → BuR f (o + 33 + 5 * i) x)
theorem EmR.fr {f f' : Nat → Int32} {p p' : Nat} {e : Em} (h : EmR f p e) (hf : ∀ j, j < 4 → f' (p' + j) = f (p + j)) : EmR f' p' e :=
  ⟨(hf 0 (by decide)).trans h.1, (hf 1 (by decide)).trans h.2.1, (hf 2 (by decide)).trans h.2.2.1, (hf 3 (by decide)).trans h.2.2.2⟩
theorem BuR.fr {f f' : Nat → Int32} {p p' : Nat} {x : Bu} (h : BuR f p x) (hf : ∀ j, j < 5 → f' (p' + j) = f (p + j)) : BuR f' p' x :=
  ⟨(hf 0 (by decide)).trans h.1, (hf 1 (by decide)).trans h.2.1, (hf 2 (by decide)).trans h.2.2.1, (hf 3 (by decide)).trans h.2.2.2.1, (hf 4 (by decide)).trans h.2.2.2.2⟩
theorem EncF.fr {f f' : Nat → Int32} {o o' : Nat} {F : FS} (h : EncF f o F) (hf : ∀ j, j < 333 → f' (o' + j) = f (o + j)) : EncF f' o' F := by
  obtain ⟨h0, h1, h2, h3, h4, h5, h6, h7, h8⟩ := h
  refine ⟨(hf 0 (by decide)).trans h0, (hf 1 (by decide)).trans h1, fun j hj => ?_, fun j hj => ?_, fun j hj => ?_, h5, h6, fun i e he => (h7 i e he).fr fun j hj => ?_, fun i x hx => (h8 i x hx).fr fun j hj => ?_⟩
  · rw [Nat.add_assoc, hf (2 + j) (by omega), ← Nat.add_assoc]; exact h2 j hj
  · rw [Nat.add_assoc, hf (7 + j) (by omega), ← Nat.add_assoc]; exact h3 j hj
  · rw [Nat.add_assoc, hf (15 + j) (by omega), ← Nat.add_assoc]; exact h4 j hj
  · have := len_lt he
    have := h5.1
    rw [show o' + 17 + 4 * i + j = o' + (17 + 4 * i + j) by omega, hf _ (by omega), show o + 17 + 4 * i + j = o + (17 + 4 * i + j) by omega]
  · have := len_lt hx
    have := h6.1
    rw [show o' + 33 + 5 * i + j = o' + (33 + 5 * i + j) by omega, hf _ (by omega), show o + 33 + 5 * i + j = o + (33 + 5 * i + j) by omega]
theorem upd_eq (f : Nat → Int32) (k : Nat) (v : Int32) : upd f k v k = v := by simp [upd]
theorem upd_ne (f : Nat → Int32) {k j : Nat} (v : Int32) (h : j ≠ k) : upd f k v j = f j := by simp [upd, h]
theorem mx_up_fn (M : mx_M) (p i : Nat) (v : Int32) : mx_up M p i v p = upd (M p) i v := by
  funext j; simp [mx_up, upd]
/-- the model's field -/
def MF (M : mx_M) (F : FS) : Prop := EncF (M 144) 0 F
theorem MF.fr {M M' : mx_M} {F : FS} (h : MF M F) (hf : M' 144 = M 144) : MF M' F := by unfold MF; rw [hf]; exact h
theorem MF.E {M : mx_M} {F : FS} (h : MF M F) : M 144 0 = nI F.1.length := h.1
theorem MF.B {M : mx_M} {F : FS} (h : MF M F) : M 144 1 = nI F.2.1.length := h.2.1
theorem MF.sc {M : mx_M} {F : FS} (h : MF M F) (j : Nat) (hj : j < 5) : M 144 (2 + j) = nI (F.2.2.1 j) := by
  have := h.2.2.1 j hj
  rwa [Nat.zero_add] at this
theorem MF.ac {M : mx_M} {F : FS} (h : MF M F) (j : Nat) (hj : j < 8) : M 144 (7 + j) = F.2.2.2 j := by
  have := h.2.2.2.1 j hj
  rwa [Nat.zero_add] at this
theorem MF.st {M : mx_M} {F : FS} (h : MF M F) (j : Nat) (hj : j < 2) : M 144 (15 + j) = nI (F.2.2.1 (5 + j)) := by
  have := h.2.2.2.2.1 j hj
  rwa [Nat.zero_add] at this
theorem MF.eL {M : mx_M} {F : FS} (h : MF M F) : EmL F.1 := h.2.2.2.2.2.1
theorem MF.bL {M : mx_M} {F : FS} (h : MF M F) : BuL F.2.1 := h.2.2.2.2.2.2.1
theorem MF.em {M : mx_M} {F : FS} (h : MF M F) {i : Nat} {e : Em} (he : F.1[i]? = some e) : EmR (M 144) (17 + 4 * i) e := by
  have := h.2.2.2.2.2.2.2.1 i e he
  rwa [Nat.zero_add] at this
theorem MF.bu {M : mx_M} {F : FS} (h : MF M F) {i : Nat} {x : Bu} (hx : F.2.1[i]? = some x) : BuR (M 144) (33 + 5 * i) x := by
  have := h.2.2.2.2.2.2.2.2 i x hx
  rwa [Nat.zero_add] at this
theorem MF.mk {M : mx_M} {F : FS} (h0 : M 144 0 = nI F.1.length) (h1 : M 144 1 = nI F.2.1.length) (h2 : ∀ j, j < 5 → M 144 (2 + j) = nI (F.2.2.1 j)) (h3 : ∀ j, j < 8 → M 144 (7 + j) = F.2.2.2 j) (h4 : ∀ j, j < 2 → M 144 (15 + j) = nI (F.2.2.1 (5 + j))) (h5 : EmL F.1) (h6 : BuL F.2.1)
    (h7 : ∀ (i : Nat) (e : Em), F.1[i]? = some e → EmR (M 144) (17 + 4 * i) e) (h8 : ∀ (i : Nat) (x : Bu), F.2.1[i]? = some x → BuR (M 144) (33 + 5 * i) x) : MF M F :=
  ⟨h0, h1, fun j hj => by rw [Nat.zero_add]; exact h2 j hj, fun j hj => by rw [Nat.zero_add]; exact h3 j hj, fun j hj => by rw [Nat.zero_add]; exact h4 j hj, h5, h6, fun i e he => by rw [Nat.zero_add]; exact h7 i e he, fun i x hx => by rw [Nat.zero_add]; exact h8 i x hx⟩
/-- words below 17 alone have changed -/
theorem MF.head {M M' : mx_M} {F : FS} {sc : Nat → Nat} {ac : Nat → Int32} (h : MF M F) (hf : ∀ j, 17 ≤ j → M' 144 j = M 144 j) (h0 : M' 144 0 = M 144 0) (h1 : M' 144 1 = M 144 1) (h2 : ∀ j, j < 5 → M' 144 (2 + j) = nI (sc j)) (h3 : ∀ j, j < 8 → M' 144 (7 + j) = ac j) (h4 : ∀ j, j < 2 → M' 144 (15 + j) = nI (sc (5 + j))) : MF M' (F.1, F.2.1, sc, ac) :=
  MF.mk (h0.trans h.E) (h1.trans h.B) h2 h3 h4 h.eL h.bL (fun i e he => (h.em he).fr fun j hj => hf _ (by omega)) (fun i x hx => (h.bu hx).fr fun j hj => hf _ (by omega))
theorem MF.usc {M : mx_M} {F : FS} (h : MF M F) (k : Nat) (hk : k < 5) (n : Nat) : MF (mx_up M 144 (2 + k) (nI n)) (F.1, F.2.1, va_up F.2.2.1 k n, F.2.2.2) := by
  refine h.head (fun j hj => ?_) ?_ ?_ (fun j hj => ?_) (fun j hj => ?_) (fun j hj => ?_)
  · rw [mx_up_fn, upd_ne _ _ (by omega)]
  · rw [mx_up_fn, upd_ne _ _ (by omega)]
  · rw [mx_up_fn, upd_ne _ _ (by omega)]
  · rw [mx_up_fn]
    have := h.sc j hj
    by_cases e : j = k
    · subst e; simp [upd, va_up]
    · rw [upd_ne _ _ (by omega)]; simp [va_up, e, this]
  · rw [mx_up_fn, upd_ne _ _ (by omega)]; exact h.ac j hj
  · rw [mx_up_fn, upd_ne _ _ (by omega), h.st j hj]
    simp [va_up, show ¬ 5 + j = k by omega]
theorem MF.uac {M : mx_M} {F : FS} (h : MF M F) (k : Nat) (hk : k < 8) (x : Int32) : MF (mx_up M 144 (7 + k) x) (F.1, F.2.1, F.2.2.1, upd F.2.2.2 k x) := by
  refine h.head (fun j hj => ?_) ?_ ?_ (fun j hj => ?_) (fun j hj => ?_) (fun j hj => ?_)
  · rw [mx_up_fn, upd_ne _ _ (by omega)]
  · rw [mx_up_fn, upd_ne _ _ (by omega)]
  · rw [mx_up_fn, upd_ne _ _ (by omega)]
  · rw [mx_up_fn, upd_ne _ _ (by omega)]; exact h.sc j hj
  · rw [mx_up_fn]
    have := h.ac j hj
    by_cases e : j = k
    · subst e; simp [upd]
    · rw [upd_ne _ _ (by omega)]; simp [upd, e, this]
  · rw [mx_up_fn, upd_ne _ _ (by omega)]; exact h.st j hj
theorem MF.ust {M : mx_M} {F : FS} (h : MF M F) (k : Nat) (hk : k < 2) (n : Nat) : MF (mx_up M 144 (15 + k) (nI n)) (F.1, F.2.1, va_up F.2.2.1 (5 + k) n, F.2.2.2) := by
  refine h.head (fun j hj => ?_) ?_ ?_ (fun j hj => ?_) (fun j hj => ?_) (fun j hj => ?_)
  · rw [mx_up_fn, upd_ne _ _ (by omega)]
  · rw [mx_up_fn, upd_ne _ _ (by omega)]
  · rw [mx_up_fn, upd_ne _ _ (by omega)]
  · rw [mx_up_fn, upd_ne _ _ (by omega), h.sc j hj]
    simp [va_up, show ¬ j = 5 + k by omega]
  · rw [mx_up_fn, upd_ne _ _ (by omega)]; exact h.ac j hj
  · rw [mx_up_fn]
    have := h.st j hj
    by_cases e : j = k
    · subst e; simp [upd, va_up]
    · rw [upd_ne _ _ (by omega)]; simp [va_up, e, this]
/-- all but s and goes stays -/
def MoS (M M' : mx_M) : Prop := ∀ q, q ≠ 144 → q ≠ 149 → M' q = M q
theorem MoS.rf {M : mx_M} : MoS M M := fun _ _ _ => rfl
theorem MoS.tr {M M1 M2 : mx_M} (h1 : MoS M M1) (h2 : MoS M1 M2) : MoS M M2 := fun q a b => (h2 q a b).trans (h1 q a b)
theorem MoS.up {M M' : mx_M} {p i : Nat} {v : Int32} (h : MoS M M') (hp : p = 144 ∨ p = 149) : MoS M (mx_up M' p i v) := fun q a b => (mx_up_ne (by omega)).trans (h q a b)
theorem mx_up_145 (M : mx_M) (i : Nat) (v : Int32) : mx_up M 149 i v 144 = M 144 := mx_up_ne (by decide)
theorem le_pred {x : Int32} {n : Nat} (hn : n < 100000) : x ≤ nI n - nI 1 ↔ x < nI n := by
  rw [Int32.le_iff_toInt_le, Int32.lt_iff_toInt_lt, pk_sub_toInt (a := n) (b := 1) (by omega) (by omega), nI_t n (by omega)]
  omega
set_option maxHeartbeats 1000000 in
set_option maxRecDepth 10000 in
theorem t_X8_in (M : mx_M) (x y z : Int32) : mx_T yX8_in cX8_in 3 (some .boolean) 1 [.int x, .int y, .int z] M (fun v M' => v = some (.int (bI (y ≤ x ∧ x ≤ z))) ∧ M' = M) := by
  refine mx_T.of1 (own := RX8) (ls := [some (.int x), some (.int y), some (.int z)]) (by decide +kernel) rfl (Nat.le_of_ble_eq_true rfl) rfl rfl ?_
  refine mx_iload_n (pc' := 1) dX8_in_0 rfl rfl ?_
  refine mx_iload_n (pc' := 2) dX8_in_1 rfl rfl ?_
  refine mx_icmp_lt (tgt := 14) (pc' := 5) dX8_in_2 (by decide) rfl (fun c2 => ?_) (fun c2 => ?_)
  · refine mx_iconst (pc' := 15) (v := nI 0) dX8_in_14 (by decide) rfl ?_
    refine mx_iret dX8_in_15 (Or.inr ⟨rfl, by decide⟩) ?_
    first | exact ⟨bI_rt ⟨Int32.not_lt.mp c2, Int32.not_lt.mp c7⟩, rfl⟩ | exact ⟨bI_rf (fun w => Int32.not_lt.mpr w.2 c7), rfl⟩ | exact ⟨bI_rf (fun w => Int32.not_lt.mpr w.1 c2), rfl⟩
  · refine mx_iload_n (pc' := 6) dX8_in_5 rfl rfl ?_
    refine mx_iload_n (pc' := 7) dX8_in_6 rfl rfl ?_
    refine mx_icmp_gt (tgt := 14) (pc' := 10) dX8_in_7 (by decide) rfl (fun c7 => ?_) (fun c7 => ?_)
    · refine mx_iconst (pc' := 15) (v := nI 0) dX8_in_14 (by decide) rfl ?_
      refine mx_iret dX8_in_15 (Or.inr ⟨rfl, by decide⟩) ?_
      first | exact ⟨bI_rt ⟨Int32.not_lt.mp c2, Int32.not_lt.mp c7⟩, rfl⟩ | exact ⟨bI_rf (fun w => Int32.not_lt.mpr w.2 c7), rfl⟩ | exact ⟨bI_rf (fun w => Int32.not_lt.mpr w.1 c2), rfl⟩
    · refine mx_iconst (pc' := 11) (v := nI 1) dX8_in_10 (by decide) rfl ?_
      refine mx_goto (pc' := 15) dX8_in_11 (by decide) ?_
      refine mx_iret dX8_in_15 (Or.inr ⟨rfl, by decide⟩) ?_
      first | exact ⟨bI_rt ⟨Int32.not_lt.mp c2, Int32.not_lt.mp c7⟩, rfl⟩ | exact ⟨bI_rf (fun w => Int32.not_lt.mpr w.2 c7), rfl⟩ | exact ⟨bI_rf (fun w => Int32.not_lt.mpr w.1 c2), rfl⟩

set_option maxHeartbeats 1000000 in
set_option maxRecDepth 10000 in
theorem l_X8_copies (M : mx_M) (a b p q na nb : Nat) (ha : mx_sh a = .inl (0, na)) (hb : mx_sh b = .inl (0, nb)) (hpa : p + 333 ≤ na) (hqb : q + 333 ≤ nb) (hab : a ≠ b) : ∀ (k : Nat) (i : Nat) (M1 : mx_M), 333 < i + k → i ≤ 333 → Out M M1 b (b + 1) → (∀ j, M1 b j = if q ≤ j ∧ j < q + i then M a (p + (j - q)) else M b j) → mx_V cX8_copies RX8 5 none 1 3 [some (.ref a), some (.int (nI p)), some (.ref b), some (.int (nI q)), some (.int (nI i))] [] M1 (fun v M' => v = none ∧ Out M M' b (b + 1) ∧ (∀ j, M' b j = if q ≤ j ∧ j < q + 333 then M a (p + (j - q)) else M b j)) := by
  have hla := mx_sh_len ha
  have hlb := mx_sh_len hb
  intro k
  induction k with
  | zero =>
    intro i M1 hk hi hO hj
    exact absurd hk (by omega)
  | succ k ih =>
    intro i M1 hk hi hO hj
    refine mx_iload (pc' := 5) dX8_copies_3 rfl rfl ?_
    refine mx_sipush (pc' := 8) (v := nI 333) dX8_copies_5 (by decide) rfl ?_
    refine mx_icmp_ge (tgt := 29) (pc' := 11) dX8_copies_8 (by decide) rfl (fun c8 => ?_) (fun c8 => ?_)
    · have c8 := (nI_leI (by omega) (by omega)).mp c8
      obtain rfl : i = 333 := by omega
      refine mx_vret dX8_copies_29 rfl ?_
      exact ⟨rfl, hO, hj⟩
    · have c8 := Nat.not_le.mp (fun z => c8 ((nI_leI (by omega) (by omega)).mpr z))
      refine mx_aload_n (pc' := 12) dX8_copies_11 rfl rfl ?_
      refine mx_iload_n (pc' := 13) dX8_copies_12 rfl rfl ?_
      refine mx_iload (pc' := 15) dX8_copies_13 rfl rfl ?_
      refine mx_iadd (pc' := 16) (v := nI (q + i)) dX8_copies_15 (nI_add q i) rfl ?_
      refine mx_aload_n (pc' := 17) dX8_copies_16 rfl rfl ?_
      refine mx_iload_n (pc' := 18) dX8_copies_17 rfl rfl ?_
      refine mx_iload (pc' := 20) dX8_copies_18 rfl rfl ?_
      refine mx_iadd (pc' := 21) (v := nI (p + i)) dX8_copies_20 (nI_add p i) rfl ?_
      refine mx_iald (pc' := 22) (v := M a (p + i)) dX8_copies_21 (ha) (rfl) (by omega) (by rw [hO a (by omega)]) rfl ?_
      refine mx_iast (pc' := 23) dX8_copies_22 (hb) (rfl) (by omega) rfl ?_
      refine mx_iinc (pc' := 26) (ls' := [_, _, _, _, _]) (v := nI (i + 1)) dX8_copies_23 rfl (nI_add i 1) (by decide) rfl rfl rfl ?_
      refine mx_goto (pc' := 3) dX8_copies_26 (by decide) ?_
      refine ih (i + 1) _ (by omega) (by omega) (hO.up (by omega) (by omega)) (fun j => ?_)
      rw [mx_up_fn]
      by_cases e : j = q + i
      · subst e
        rw [upd_eq, if_pos (by omega), show q + i - q = i by omega]
      · rw [upd_ne _ _ e, hj j]
        by_cases h : q ≤ j ∧ j < q + i
        · rw [if_pos h, if_pos (by omega)]
        · rw [if_neg h, if_neg (by omega)]

set_option maxHeartbeats 1000000 in
set_option maxRecDepth 10000 in
theorem t_X8_copies (M : mx_M) (a b p q na nb : Nat) (ha : mx_sh a = .inl (0, na)) (hb : mx_sh b = .inl (0, nb)) (hpa : p + 333 ≤ na) (hqb : q + 333 ≤ nb) (hab : a ≠ b) : mx_T yX8_copies cX8_copies 5 none 1 [.ref a, .int (nI p), .ref b, .int (nI q)] M (fun v M' => v = none ∧ Out M M' b (b + 1) ∧ (∀ j, M' b j = if q ≤ j ∧ j < q + 333 then M a (p + (j - q)) else M b j)) := by
  refine mx_T.of1 (own := RX8) (ls := [some (.ref a), some (.int (nI p)), some (.ref b), some (.int (nI q)), none]) (by decide +kernel) rfl (Nat.le_of_ble_eq_true rfl) rfl rfl ?_
  refine mx_iconst (pc' := 1) (v := nI 0) dX8_copies_0 (by decide) rfl ?_
  refine mx_istore (pc' := 3) (ls' := [_, _, _, _, _]) dX8_copies_1 (by decide) (rfl) rfl rfl ?_
  exact l_X8_copies M a b p q na nb ha hb hpa hqb hab 334 0 M (by omega) (by omega) Out.rf (fun j => by rw [if_neg (by omega)])

set_option maxHeartbeats 1000000 in
set_option maxRecDepth 10000 in
theorem t_X8_isEmitter (M : mx_M) (n : Nat) (hn : M 144 0 = nI n) (hn4 : n ≤ 4) (x : Int32) : mx_T yX8_isEmitter cX8_isEmitter 2 (some .boolean) 2 [.ref 143, .int x] M (fun v M' => v = some (.int (bI (0 ≤ x ∧ x < nI n))) ∧ M' = M) := by
  refine mx_T.of1 (own := RX8) (ls := [some (.ref 143), some (.int x)]) (by decide +kernel) rfl (Nat.le_of_ble_eq_true rfl) rfl rfl ?_
  refine mx_iload_n (pc' := 1) dX8_isEmitter_0 rfl rfl ?_
  refine mx_iconst (pc' := 2) (v := nI 0) dX8_isEmitter_1 (by decide) rfl ?_
  refine mx_aload_n (pc' := 3) dX8_isEmitter_2 rfl rfl ?_
  refine mx_getr (pc' := 6) dX8_isEmitter_3 fl_X8_7 (rfl) (by rfl) rfl ?_
  refine mx_iconst (pc' := 7) (v := nI 0) dX8_isEmitter_6 (by decide) rfl ?_
  refine mx_iald (pc' := 8) (v := nI n) dX8_isEmitter_7 (rfl) (rfl) (by decide) (hn) rfl ?_
  refine mx_iconst (pc' := 9) (v := nI 1) dX8_isEmitter_8 (by decide) rfl ?_
  refine mx_isub (pc' := 10) dX8_isEmitter_9 (rfl) rfl ?_
  refine mx_callS (pc' := 13) dX8_isEmitter_10 cl_X8_49 (t_X8_in M x 0 (nI n - nI 1)) rfl (by decide) rfl (Nat.le_of_ble_eq_true rfl) rfl (fun v N10 hv => ?_)
  obtain ⟨rfl, hv⟩ := hv
  rw [hv]
  refine mx_iret dX8_isEmitter_13 (Or.inr ⟨rfl, bI_nb _⟩) ?_
  exact ⟨congrArg (fun z => some (Value.int z)) (bI_c (by rw [le_pred (by omega)])), rfl⟩

set_option maxHeartbeats 1000000 in
set_option maxRecDepth 10000 in
theorem t_X8_ofEmitter (M : mx_M) (e w : Nat) (he : e < 4) (hw : w < 4) : mx_T yX8_ofEmitter cX8_ofEmitter 3 (some .int) 1 [.ref 143, .int (nI e), .int (nI w)] M (fun v M' => v = some (.int (M 144 (17 + 4 * e + w))) ∧ M' = M) := by
  refine mx_T.of1 (own := RX8) (ls := [some (.ref 143), some (.int (nI e)), some (.int (nI w))]) (by decide +kernel) rfl (Nat.le_of_ble_eq_true rfl) rfl rfl ?_
  refine mx_aload_n (pc' := 1) dX8_ofEmitter_0 rfl rfl ?_
  refine mx_getr (pc' := 4) dX8_ofEmitter_1 fl_X8_7 (rfl) (by rfl) rfl ?_
  refine mx_bipush (pc' := 6) (v := nI 17) dX8_ofEmitter_4 (by decide) rfl ?_
  refine mx_iconst (pc' := 7) (v := nI 4) dX8_ofEmitter_6 (by decide) rfl ?_
  refine mx_iload_n (pc' := 8) dX8_ofEmitter_7 rfl rfl ?_
  refine mx_imul (pc' := 9) (v := nI (4 * e)) dX8_ofEmitter_8 (pk_mul 4 e) rfl ?_
  refine mx_iadd (pc' := 10) (v := nI (17 + 4 * e)) dX8_ofEmitter_9 (nI_add 17 _) rfl ?_
  refine mx_iload_n (pc' := 11) dX8_ofEmitter_10 rfl rfl ?_
  refine mx_iadd (pc' := 12) (v := nI (17 + 4 * e + w)) dX8_ofEmitter_11 (nI_add _ w) rfl ?_
  refine mx_iald (pc' := 13) dX8_ofEmitter_12 (rfl) (rfl) (by omega) (rfl) rfl ?_
  refine mx_iret dX8_ofEmitter_13 (Or.inl rfl) ?_
  exact ⟨rfl, rfl⟩

set_option maxHeartbeats 1000000 in
set_option maxRecDepth 10000 in
theorem t_X8_of (M : mx_M) (b w : Nat) (hb : b < 60) (hw : w < 5) : mx_T yX8_of cX8_of 3 (some .int) 1 [.ref 143, .int (nI b), .int (nI w)] M (fun v M' => v = some (.int (M 144 (33 + 5 * b + w))) ∧ M' = M) := by
  refine mx_T.of1 (own := RX8) (ls := [some (.ref 143), some (.int (nI b)), some (.int (nI w))]) (by decide +kernel) rfl (Nat.le_of_ble_eq_true rfl) rfl rfl ?_
  refine mx_aload_n (pc' := 1) dX8_of_0 rfl rfl ?_
  refine mx_getr (pc' := 4) dX8_of_1 fl_X8_7 (rfl) (by rfl) rfl ?_
  refine mx_bipush (pc' := 6) (v := nI 33) dX8_of_4 (by decide) rfl ?_
  refine mx_iconst (pc' := 7) (v := nI 5) dX8_of_6 (by decide) rfl ?_
  refine mx_iload_n (pc' := 8) dX8_of_7 rfl rfl ?_
  refine mx_imul (pc' := 9) (v := nI (5 * b)) dX8_of_8 (pk_mul 5 b) rfl ?_
  refine mx_iadd (pc' := 10) (v := nI (33 + 5 * b)) dX8_of_9 (nI_add 33 _) rfl ?_
  refine mx_iload_n (pc' := 11) dX8_of_10 rfl rfl ?_
  refine mx_iadd (pc' := 12) (v := nI (33 + 5 * b + w)) dX8_of_11 (nI_add _ w) rfl ?_
  refine mx_iald (pc' := 13) dX8_of_12 (rfl) (rfl) (by omega) (rfl) rfl ?_
  refine mx_iret dX8_of_13 (Or.inl rfl) ?_
  exact ⟨rfl, rfl⟩

set_option maxHeartbeats 1000000 in
set_option maxRecDepth 10000 in
theorem t_X8_lays (M : mx_M) (b w : Nat) (hb : b < 60) (hw : w < 5) (x : Int32) : mx_T yX8_lays cX8_lays 4 none 1 [.ref 143, .int (nI b), .int (nI w), .int x] M (fun v M' => v = none ∧ M' = mx_up M 144 (33 + 5 * b + w) x) := by
  refine mx_T.of1 (own := RX8) (ls := [some (.ref 143), some (.int (nI b)), some (.int (nI w)), some (.int x)]) (by decide +kernel) rfl (Nat.le_of_ble_eq_true rfl) rfl rfl ?_
  refine mx_aload_n (pc' := 1) dX8_lays_0 rfl rfl ?_
  refine mx_getr (pc' := 4) dX8_lays_1 fl_X8_7 (rfl) (by rfl) rfl ?_
  refine mx_bipush (pc' := 6) (v := nI 33) dX8_lays_4 (by decide) rfl ?_
  refine mx_iconst (pc' := 7) (v := nI 5) dX8_lays_6 (by decide) rfl ?_
  refine mx_iload_n (pc' := 8) dX8_lays_7 rfl rfl ?_
  refine mx_imul (pc' := 9) (v := nI (5 * b)) dX8_lays_8 (pk_mul 5 b) rfl ?_
  refine mx_iadd (pc' := 10) (v := nI (33 + 5 * b)) dX8_lays_9 (nI_add 33 _) rfl ?_
  refine mx_iload_n (pc' := 11) dX8_lays_10 rfl rfl ?_
  refine mx_iadd (pc' := 12) (v := nI (33 + 5 * b + w)) dX8_lays_11 (nI_add _ w) rfl ?_
  refine mx_iload_n (pc' := 13) dX8_lays_12 rfl rfl ?_
  refine mx_iast (pc' := 14) dX8_lays_13 (rfl) (rfl) (by omega) rfl ?_
  refine mx_vret dX8_lays_14 rfl ?_
  exact ⟨rfl, rfl⟩

set_option maxHeartbeats 1000000 in
set_option maxRecDepth 10000 in
theorem t_X8_addsEmitter (M : mx_M) (F : FS) (hF : MF M F) (h4 : F.1.length < 4) (x : Em) (hV : EmV x) : mx_T yX8_addsEmitter cX8_addsEmitter 6 none 1 [.ref 143, .int (nI x.1), .int (nI x.2.1), .int (nI x.2.2.1), .int (nI x.2.2.2)] M (fun v M' => v = none ∧ MF M' (F.1 ++ [x], F.2.1, F.2.2.1, F.2.2.2) ∧ MoS M M') := by
  refine mx_T.of1 (own := RX8) (ls := [some (.ref 143), some (.int (nI x.1)), some (.int (nI x.2.1)), some (.int (nI x.2.2.1)), some (.int (nI x.2.2.2)), none]) (by decide +kernel) rfl (Nat.le_of_ble_eq_true rfl) rfl rfl ?_
  refine mx_bipush (pc' := 2) (v := nI 17) dX8_addsEmitter_0 (by decide) rfl ?_
  refine mx_iconst (pc' := 3) (v := nI 4) dX8_addsEmitter_2 (by decide) rfl ?_
  refine mx_aload_n (pc' := 4) dX8_addsEmitter_3 rfl rfl ?_
  refine mx_getr (pc' := 7) dX8_addsEmitter_4 fl_X8_7 (rfl) (by rfl) rfl ?_
  refine mx_iconst (pc' := 8) (v := nI 0) dX8_addsEmitter_7 (by decide) rfl ?_
  refine mx_iald (pc' := 9) (v := nI F.1.length) dX8_addsEmitter_8 (rfl) (rfl) (by decide) (hF.E) rfl ?_
  refine mx_imul (pc' := 10) (v := nI (4 * F.1.length)) dX8_addsEmitter_9 (pk_mul 4 _) rfl ?_
  refine mx_iadd (pc' := 11) (v := nI (17 + 4 * F.1.length)) dX8_addsEmitter_10 (nI_add 17 _) rfl ?_
  refine mx_istore (pc' := 13) (ls' := [_, _, _, _, _, _]) dX8_addsEmitter_11 (by decide) (rfl) rfl rfl ?_
  refine mx_aload_n (pc' := 14) dX8_addsEmitter_13 rfl rfl ?_
  refine mx_getr (pc' := 17) dX8_addsEmitter_14 fl_X8_7 (rfl) (by rfl) rfl ?_
  refine mx_iload (pc' := 19) dX8_addsEmitter_17 rfl rfl ?_
  refine mx_iconst (pc' := 20) (v := nI 0) dX8_addsEmitter_19 (by decide) rfl ?_
  refine mx_iadd (pc' := 21) (v := nI (17 + 4 * F.1.length + 0)) dX8_addsEmitter_20 (nI_add _ 0) rfl ?_
  refine mx_iload_n (pc' := 22) dX8_addsEmitter_21 rfl rfl ?_
  refine mx_iast (pc' := 23) dX8_addsEmitter_22 (rfl) (rfl) (by omega) rfl ?_
  refine mx_aload_n (pc' := 24) dX8_addsEmitter_23 rfl rfl ?_
  refine mx_getr (pc' := 27) dX8_addsEmitter_24 fl_X8_7 (rfl) (by rfl) rfl ?_
  refine mx_iload (pc' := 29) dX8_addsEmitter_27 rfl rfl ?_
  refine mx_iconst (pc' := 30) (v := nI 1) dX8_addsEmitter_29 (by decide) rfl ?_
  refine mx_iadd (pc' := 31) (v := nI (17 + 4 * F.1.length + 1)) dX8_addsEmitter_30 (nI_add _ 1) rfl ?_
  refine mx_iload_n (pc' := 32) dX8_addsEmitter_31 rfl rfl ?_
  refine mx_iast (pc' := 33) dX8_addsEmitter_32 (rfl) (rfl) (by omega) rfl ?_
  refine mx_aload_n (pc' := 34) dX8_addsEmitter_33 rfl rfl ?_
  refine mx_getr (pc' := 37) dX8_addsEmitter_34 fl_X8_7 (rfl) (by rfl) rfl ?_
  refine mx_iload (pc' := 39) dX8_addsEmitter_37 rfl rfl ?_
  refine mx_iconst (pc' := 40) (v := nI 2) dX8_addsEmitter_39 (by decide) rfl ?_
  refine mx_iadd (pc' := 41) (v := nI (17 + 4 * F.1.length + 2)) dX8_addsEmitter_40 (nI_add _ 2) rfl ?_
  refine mx_iload_n (pc' := 42) dX8_addsEmitter_41 rfl rfl ?_
  refine mx_iast (pc' := 43) dX8_addsEmitter_42 (rfl) (rfl) (by omega) rfl ?_
  refine mx_aload_n (pc' := 44) dX8_addsEmitter_43 rfl rfl ?_
  refine mx_getr (pc' := 47) dX8_addsEmitter_44 fl_X8_7 (rfl) (by rfl) rfl ?_
  refine mx_iload (pc' := 49) dX8_addsEmitter_47 rfl rfl ?_
  refine mx_iconst (pc' := 50) (v := nI 3) dX8_addsEmitter_49 (by decide) rfl ?_
  refine mx_iadd (pc' := 51) (v := nI (17 + 4 * F.1.length + 3)) dX8_addsEmitter_50 (nI_add _ 3) rfl ?_
  refine mx_iload (pc' := 53) dX8_addsEmitter_51 rfl rfl ?_
  refine mx_iast (pc' := 54) dX8_addsEmitter_53 (rfl) (rfl) (by omega) rfl ?_
  refine mx_aload_n (pc' := 55) dX8_addsEmitter_54 rfl rfl ?_
  refine mx_getr (pc' := 58) dX8_addsEmitter_55 fl_X8_7 (rfl) (by rfl) rfl ?_
  refine mx_iconst (pc' := 59) (v := nI 0) dX8_addsEmitter_58 (by decide) rfl ?_
  refine mx_dup2 (pc' := 60) dX8_addsEmitter_59 rfl rfl rfl ?_
  refine mx_iald (pc' := 61) (v := nI F.1.length) dX8_addsEmitter_60 (rfl) (rfl) (by decide) (((by simp only [mx_up, if_true]; repeat rw [if_neg (by omega)]) : _ = M 144 0).trans hF.E) rfl ?_
  refine mx_iconst (pc' := 62) (v := nI 1) dX8_addsEmitter_61 (by decide) rfl ?_
  refine mx_iadd (pc' := 63) (v := nI (F.1.length + 1)) dX8_addsEmitter_62 (nI_add _ 1) rfl ?_
  refine mx_iast (pc' := 64) dX8_addsEmitter_63 (rfl) (rfl) (by decide) rfl ?_
  refine mx_vret dX8_addsEmitter_64 rfl ?_
  have hz : ∀ j, j ≠ 0 → (j < 17 + 4 * F.1.length ∨ 17 + 4 * F.1.length + 4 ≤ j) → mx_up (mx_up (mx_up (mx_up (mx_up M 144 (17 + 4 * F.1.length + 0) (nI x.1)) 144 (17 + 4 * F.1.length + 1) (nI x.2.1)) 144 (17 + 4 * F.1.length + 2) (nI x.2.2.1)) 144 (17 + 4 * F.1.length + 3) (nI x.2.2.2)) 144 0 (nI (F.1.length + 1)) 144 j = M 144 j := by
    intro j h0 h
    simp only [mx_up, if_true]
    repeat rw [if_neg (by omega)]
  refine ⟨rfl, MF.mk (F := (F.1 ++ [x], F.2.1, F.2.2.1, F.2.2.2)) (by simp [mx_up]) ((hz 1 (by decide) (by omega)).trans hF.B) (fun j hj => (hz _ (by omega) (by omega)).trans (hF.sc j hj)) (fun j hj => (hz _ (by omega) (by omega)).trans (hF.ac j hj)) (fun j hj => (hz _ (by omega) (by omega)).trans (hF.st j hj)) ⟨by simp; omega, fun y hy => ?_⟩ hF.bL (fun i e he => ?_) (fun i y hy => (hF.bu hy).fr fun j hj => hz _ (by omega) (by omega)), by repeat (first | exact MoS.rf | refine MoS.up ?_ (Or.inl rfl))⟩
  · rcases List.mem_append.mp hy with hy | hy
    · exact hF.eL.2 y hy
    · rw [List.mem_singleton.mp hy]; exact hV
  · have hl := len_lt he
    rw [List.length_append, List.length_singleton] at hl
    by_cases hi : i < F.1.length
    · rw [List.getElem?_append_left hi] at he
      exact (hF.em he).fr fun j hj => hz _ (by omega) (by omega)
    · obtain rfl : i = F.1.length := by omega
      rw [List.getElem?_append_right (Nat.le_refl _), Nat.sub_self] at he
      cases he
      exact ⟨by simp [mx_up], by simp [mx_up], by simp [mx_up], by simp [mx_up]⟩

set_option maxHeartbeats 1000000 in
set_option maxRecDepth 10000 in
theorem l_X8_dropsEmitter (M : mx_M) (F : FS) (hF : MF M F) (r : Nat) (hr : r < F.1.length) : ∀ (k : Nat) (i : Nat) (M1 : mx_M), 33 < i + k → i ≤ 33 → 17 + 4 * r ≤ i → MoS M M1 → (∀ j, M1 144 j = if j = 0 then nI (F.1.length - 1) else if 17 + 4 * r ≤ j ∧ j < i then (if j + 4 < 33 then M 144 (j + 4) else 0) else M 144 j) → mx_V cX8_dropsEmitter RX8 3 none 1 17 [some (.ref 143), some (.int (nI r)), some (.int (nI i))] [] M1 (fun v M' => v = none ∧ MF M' (F.1.eraseIdx r, F.2.1, F.2.2.1, F.2.2.2) ∧ MoS M M') := by
  have h4 := hF.eL.1
  intro k
  induction k with
  | zero =>
    intro i M1 hk hi hi2 hO hj
    exact absurd hk (by omega)
  | succ k ih =>
    intro i M1 hk hi hi2 hO hj
    refine mx_iload_n (pc' := 18) dX8_dropsEmitter_17 rfl rfl ?_
    refine mx_bipush (pc' := 20) (v := nI 33) dX8_dropsEmitter_18 (by decide) rfl ?_
    refine mx_icmp_ge (tgt := 55) (pc' := 23) dX8_dropsEmitter_20 (by decide) rfl (fun c20 => ?_) (fun c20 => ?_)
    · have c20 := (nI_leI (by omega) (by omega)).mp c20
      obtain rfl : i = 33 := by omega
      refine mx_vret dX8_dropsEmitter_55 rfl ?_
      have hl : (F.1.eraseIdx r).length = F.1.length - 1 := List.length_eraseIdx_of_lt hr
      have hz : ∀ j, j ≠ 0 → (j < 17 + 4 * r ∨ 33 ≤ j) → M1 144 j = M 144 j := fun j h0 h => by rw [hj j, if_neg h0, if_neg (by omega)]
      refine ⟨rfl, MF.mk (F := (F.1.eraseIdx r, F.2.1, F.2.2.1, F.2.2.2)) (by rw [hj 0, if_pos rfl]; exact congrArg nI hl.symm) ((hz 1 (by decide) (by omega)).trans hF.B) (fun j h => (hz _ (by omega) (by omega)).trans (hF.sc j h)) (fun j h => (hz _ (by omega) (by omega)).trans (hF.ac j h)) (fun j h => (hz _ (by omega) (by omega)).trans (hF.st j h)) ⟨by show (F.1.eraseIdx r).length ≤ 4; omega, fun y hy => hF.eL.2 y (List.mem_of_mem_eraseIdx hy)⟩ hF.bL (fun i e he => ?_) (fun i y hy => (hF.bu hy).fr fun j h => hz _ (by omega) (by omega)), hO⟩
      have hi := len_lt he
      have hi : i < F.1.length - 1 := hl ▸ hi
      have he : (F.1.eraseIdx r)[i]? = some e := he
      rw [List.getElem?_eraseIdx] at he
      by_cases h : i < r
      · rw [if_pos h] at he
        exact (hF.em he).fr fun j h => hz _ (by omega) (by omega)
      · rw [if_neg h] at he
        refine (hF.em he).fr fun j hj4 => ?_
        rw [hj (17 + 4 * i + j), if_neg (by omega), if_pos (by omega), if_pos (by omega), show 17 + 4 * i + j + 4 = 17 + 4 * (i + 1) + j by omega]
    · have c20 := Nat.not_le.mp (fun z => c20 ((nI_leI (by omega) (by omega)).mpr z))
      refine mx_aload_n (pc' := 24) dX8_dropsEmitter_23 rfl rfl ?_
      refine mx_getr (pc' := 27) dX8_dropsEmitter_24 fl_X8_7 (rfl) (by rfl) rfl ?_
      refine mx_iload_n (pc' := 28) dX8_dropsEmitter_27 rfl rfl ?_
      refine mx_iload_n (pc' := 29) dX8_dropsEmitter_28 rfl rfl ?_
      refine mx_iconst (pc' := 30) (v := nI 4) dX8_dropsEmitter_29 (by decide) rfl ?_
      refine mx_iadd (pc' := 31) (v := nI (i + 4)) dX8_dropsEmitter_30 (nI_add i 4) rfl ?_
      refine mx_bipush (pc' := 33) (v := nI 33) dX8_dropsEmitter_31 (by decide) rfl ?_
      refine mx_icmp_ge (tgt := 47) (pc' := 36) dX8_dropsEmitter_33 (by decide) rfl (fun c33 => ?_) (fun c33 => ?_)
      · have c33 := (nI_leI (by omega) (by omega)).mp c33
        refine mx_iconst (pc' := 48) (v := 0) dX8_dropsEmitter_47 (by decide) rfl ?_
        refine mx_iast (pc' := 49) dX8_dropsEmitter_48 (rfl) (rfl) (by omega) rfl ?_
        refine mx_iinc (pc' := 52) (ls' := [_, _, _]) (v := nI (i + 1)) dX8_dropsEmitter_49 rfl (nI_add i 1) (by decide) rfl rfl rfl ?_
        refine mx_goto (pc' := 17) dX8_dropsEmitter_52 (by decide) ?_
        refine ih (i + 1) _ (by omega) (by omega) (by omega) (hO.up (Or.inl rfl)) (fun j => ?_)
        rw [mx_up_fn]
        by_cases e : j = i
        · subst e
          rw [upd_eq, if_neg (by omega), if_pos (by omega), if_neg (by omega)]
        · rw [upd_ne _ _ e, hj j]
          by_cases h0 : j = 0
          · rw [if_pos h0, if_pos h0]
          · rw [if_neg h0, if_neg h0]
            by_cases h : 17 + 4 * r ≤ j ∧ j < i
            · rw [if_pos h, if_pos (show 17 + 4 * r ≤ j ∧ j < i + 1 by omega)]
            · rw [if_neg h, if_neg (show ¬ (17 + 4 * r ≤ j ∧ j < i + 1) by omega)]
      · have c33 := Nat.not_le.mp (fun z => c33 ((nI_leI (by omega) (by omega)).mpr z))
        refine mx_aload_n (pc' := 37) dX8_dropsEmitter_36 rfl rfl ?_
        refine mx_getr (pc' := 40) dX8_dropsEmitter_37 fl_X8_7 (rfl) (by rfl) rfl ?_
        refine mx_iload_n (pc' := 41) dX8_dropsEmitter_40 rfl rfl ?_
        refine mx_iconst (pc' := 42) (v := nI 4) dX8_dropsEmitter_41 (by decide) rfl ?_
        refine mx_iadd (pc' := 43) (v := nI (i + 4)) dX8_dropsEmitter_42 (nI_add i 4) rfl ?_
        refine mx_iald (pc' := 44) (v := M 144 (i + 4)) dX8_dropsEmitter_43 (rfl) (rfl) (by omega) (by rw [hj (i + 4), if_neg (by omega), if_neg (by omega)]) rfl ?_
        refine mx_goto (pc' := 48) dX8_dropsEmitter_44 (by decide) ?_
        refine mx_iast (pc' := 49) dX8_dropsEmitter_48 (rfl) (rfl) (by omega) rfl ?_
        refine mx_iinc (pc' := 52) (ls' := [_, _, _]) (v := nI (i + 1)) dX8_dropsEmitter_49 rfl (nI_add i 1) (by decide) rfl rfl rfl ?_
        refine mx_goto (pc' := 17) dX8_dropsEmitter_52 (by decide) ?_
        refine ih (i + 1) _ (by omega) (by omega) (by omega) (hO.up (Or.inl rfl)) (fun j => ?_)
        rw [mx_up_fn]
        by_cases e : j = i
        · subst e
          rw [upd_eq, if_neg (by omega), if_pos (by omega), if_pos (by omega)]
        · rw [upd_ne _ _ e, hj j]
          by_cases h0 : j = 0
          · rw [if_pos h0, if_pos h0]
          · rw [if_neg h0, if_neg h0]
            by_cases h : 17 + 4 * r ≤ j ∧ j < i
            · rw [if_pos h, if_pos (show 17 + 4 * r ≤ j ∧ j < i + 1 by omega)]
            · rw [if_neg h, if_neg (show ¬ (17 + 4 * r ≤ j ∧ j < i + 1) by omega)]

set_option maxHeartbeats 1000000 in
set_option maxRecDepth 10000 in
theorem t_X8_dropsEmitter (M : mx_M) (F : FS) (hF : MF M F) (r : Nat) (hr : r < F.1.length) : mx_T yX8_dropsEmitter cX8_dropsEmitter 3 none 1 [.ref 143, .int (nI r)] M (fun v M' => v = none ∧ MF M' (F.1.eraseIdx r, F.2.1, F.2.2.1, F.2.2.2) ∧ MoS M M') := by
  have h4 := hF.eL.1
  refine mx_T.of1 (own := RX8) (ls := [some (.ref 143), some (.int (nI r)), none]) (by decide +kernel) rfl (Nat.le_of_ble_eq_true rfl) rfl rfl ?_
  refine mx_aload_n (pc' := 1) dX8_dropsEmitter_0 rfl rfl ?_
  refine mx_getr (pc' := 4) dX8_dropsEmitter_1 fl_X8_7 (rfl) (by rfl) rfl ?_
  refine mx_iconst (pc' := 5) (v := nI 0) dX8_dropsEmitter_4 (by decide) rfl ?_
  refine mx_dup2 (pc' := 6) dX8_dropsEmitter_5 rfl rfl rfl ?_
  refine mx_iald (pc' := 7) (v := nI F.1.length) dX8_dropsEmitter_6 (rfl) (rfl) (by decide) (hF.E) rfl ?_
  refine mx_iconst (pc' := 8) (v := nI 1) dX8_dropsEmitter_7 (by decide) rfl ?_
  refine mx_isub (pc' := 9) (v := nI (F.1.length - 1)) dX8_dropsEmitter_8 (pk_sub (b := 1) (by omega)) rfl ?_
  refine mx_iast (pc' := 10) dX8_dropsEmitter_9 (rfl) (rfl) (by decide) rfl ?_
  refine mx_bipush (pc' := 12) (v := nI 17) dX8_dropsEmitter_10 (by decide) rfl ?_
  refine mx_iconst (pc' := 13) (v := nI 4) dX8_dropsEmitter_12 (by decide) rfl ?_
  refine mx_iload_n (pc' := 14) dX8_dropsEmitter_13 rfl rfl ?_
  refine mx_imul (pc' := 15) (v := nI (4 * r)) dX8_dropsEmitter_14 (pk_mul 4 r) rfl ?_
  refine mx_iadd (pc' := 16) (v := nI (17 + 4 * r)) dX8_dropsEmitter_15 (nI_add 17 _) rfl ?_
  refine mx_istore_n (pc' := 17) (ls' := [_, _, _]) dX8_dropsEmitter_16 (by decide) (rfl) rfl rfl ?_
  refine l_X8_dropsEmitter M F hF r hr 34 (17 + 4 * r) _ (by omega) (by omega) (Nat.le_refl _) (MoS.rf.up (Or.inl rfl)) (fun j => ?_)
  rw [mx_up_fn]
  by_cases h0 : j = 0
  · subst h0; rw [upd_eq, if_pos rfl]
  · rw [upd_ne _ _ h0, if_neg h0, if_neg (by omega)]

