/-! emitters: column, pattern, period, phase -/
abbrev Em : Type := Nat × Nat × Nat × Nat
def EmV (x : Em) : Prop := x.1 < 10 ∧ x.2.1 < 6 ∧ 1 ≤ x.2.2.1 ∧ x.2.2.1 ≤ 9 ∧ x.2.2.2 < x.2.2.1
def EmW (M : mx_M) (e j : Nat) (x : Em) : Prop := M (e + 1) j = nI x.1 ∧ M (e + 2) j = nI x.2.1 ∧ M (e + 3) j = nI x.2.2.1 ∧ M (e + 4) j = nI x.2.2.2
def EmP (M : mx_M) (e o : Nat) (L : List Em) : Prop := ∀ (j : Nat) (x : Em), L[j]? = some x → EmW M e (o + j) x
def EmL (L : List Em) : Prop := L.length ≤ 4 ∧ ∀ x ∈ L, EmV x
def EmA (M : mx_M) (e : Nat) (L : List Em) : Prop := M e 4 = nI L.length ∧ EmL L ∧ EmP M e 0 L
theorem EmW.fr {M M' : mx_M} {e j : Nat} {x : Em} (h : EmW M e j x) (hf : ∀ q, e < q → q ≤ e + 4 → M' q j = M q j) : EmW M' e j x := by
  obtain ⟨h1, h2, h3, h4⟩ := h
  exact ⟨(hf _ (by omega) (by omega)).trans h1, (hf _ (by omega) (by omega)).trans h2, (hf _ (by omega) (by omega)).trans h3, (hf _ (by omega) (by omega)).trans h4⟩
theorem EmP.fr {M M' : mx_M} {e o : Nat} {L : List Em} (h : EmP M e o L) (hf : ∀ q j, e < q → q ≤ e + 4 → o ≤ j → j < o + L.length → M' q j = M q j) : EmP M' e o L := by
  intro j x hj
  have hl := (List.getElem?_eq_some_iff.mp hj).1
  exact (h j x hj).fr (fun q h1 h2 => hf q _ h1 h2 (by omega) (by omega))
theorem EmP.nil {M : mx_M} {e o : Nat} : EmP M e o [] := fun j x h => by simp at h
theorem EmP.cons {M : mx_M} {e o : Nat} {x : Em} {L : List Em} : EmP M e o (x :: L) ↔ EmW M e o x ∧ EmP M e (o + 1) L := by
  constructor
  · intro h
    refine ⟨h 0 x rfl, fun j y hj => ?_⟩
    have := h (j + 1) y (by simpa using hj)
    rwa [show o + (j + 1) = o + 1 + j by omega] at this
  · rintro ⟨h1, h2⟩ j y hj
    cases j with
    | zero => cases hj; exact h1
    | succ j =>
      have := h2 j y (by simpa using hj)
      rwa [show o + 1 + j = o + (j + 1) by omega] at this
theorem EmP.app {M : mx_M} {e : Nat} {L L' : List Em} : ∀ {o : Nat}, EmP M e o (L ++ L') ↔ EmP M e o L ∧ EmP M e (o + L.length) L' := by
  induction L with
  | nil => intro o; simp [EmP.nil]
  | cons x L ih =>
    intro o
    rw [List.cons_append, EmP.cons, EmP.cons, ih, and_assoc, List.length_cons, show o + 1 + L.length = o + (L.length + 1) by omega]
theorem EmP.snoc {M : mx_M} {e o : Nat} {L : List Em} {x : Em} (h1 : EmP M e o L) (h2 : EmW M e (o + L.length) x) : EmP M e o (L ++ [x]) := EmP.app.mpr ⟨h1, EmP.cons.mpr ⟨h2, EmP.nil⟩⟩
theorem EmP.at {M : mx_M} {e : Nat} {L : List Em} (h : EmP M e 0 L) {i : Nat} {x : Em} (hx : L[i]? = some x) : EmW M e i x := by
  have := h i x hx
  rwa [Nat.zero_add] at this
/-- how many ticks until it fires next -/
def wtF (q f t : Nat) : Nat := (f + q - (t + 1) % q) % q + 1
theorem wtF_1 : ∀ q, q < 10 → ∀ f, f < q → ∀ r, r < q → (r + ((f + q - (r + 1) % q) % q + 1)) % q = f := by decide +kernel
theorem wtF_2 : ∀ q, q < 10 → ∀ f, f < q → ∀ r, r < q → (f + q - (r + 1) % q) % q + 1 ≤ q := by decide +kernel
theorem wtF_3 : ∀ q, q < 10 → ∀ f, f < q → ∀ r, r < q → ∀ m, m < (f + q - (r + 1) % q) % q → (r + (m + 1)) % q ≠ f := by decide +kernel
theorem wtF_ok {q f t : Nat} (h1 : 1 ≤ q) (h9 : q ≤ 9) (hf : f < q) : (t + wtF q f t) % q = f ∧ wtF q f t ≤ q ∧ ∀ m, m < wtF q f t → 1 ≤ m → (t + m) % q ≠ f := by
  have hr : t % q < q := Nat.mod_lt _ (by omega)
  have e : (t % q + 1) % q = (t + 1) % q := by rw [Nat.mod_add_mod]
  have h1 := wtF_1 q (by omega) f hf (t % q) hr
  have h2 := wtF_2 q (by omega) f hf (t % q) hr
  have h3 := wtF_3 q (by omega) f hf (t % q) hr
  rw [e] at h1 h2 h3
  refine ⟨?_, h2, fun m h4 h5 h6 => ?_⟩
  · rw [Nat.mod_add_mod] at h1
    exact h1
  · obtain ⟨m, rfl⟩ : ∃ j, m = j + 1 := ⟨m - 1, by omega⟩
    refine h3 m (by unfold wtF at h4; omega) ?_
    rw [Nat.mod_add_mod]; exact h6
set_option maxHeartbeats 1000000 in
set_option maxRecDepth 10000 in
theorem t_X2_has (M : mx_M) (e n : Nat) (hs : EmS e) (hn : M e 4 = nI n) (h60 : n ≤ 4) (x : Int32) : mx_T yX2_has cX2_has 2 (some .boolean) 1 [.ref e, .int x] M (fun v M' => v = some (.int (bI (0 ≤ x ∧ x < nI n))) ∧ M' = M) := by
  obtain ⟨s0, s1, s2, s3, s4⟩ := hs
  refine mx_T.of1 (own := RX2) (ls := [some (.ref e), some (.int x)]) (by decide +kernel) rfl (Nat.le_of_ble_eq_true rfl) rfl rfl ?_
  refine mx_iload_n (pc' := 1) dX2_has_0 rfl rfl ?_
  refine mx_if_lt (tgt := 16) (pc' := 4) dX2_has_1 (by decide) rfl (fun c1 => ?_) (fun c1 => ?_)
  · refine mx_iconst (pc' := 17) (v := nI 0) dX2_has_16 (by decide) rfl ?_
    refine mx_iret dX2_has_17 (Or.inr ⟨rfl, by decide⟩) ?_
    first | exact ⟨bI_rt (by (simp (disch := omega) only [Int32.lt_iff_toInt_lt, Int32.le_iff_toInt_le, ← Int32.toInt_inj, ne_eq, nI_t, z_t, m1_t] at * <;> omega)), rfl⟩ | exact ⟨bI_rf (by (simp (disch := omega) only [Int32.lt_iff_toInt_lt, Int32.le_iff_toInt_le, ← Int32.toInt_inj, ne_eq, nI_t, z_t, m1_t] at * <;> omega)), rfl⟩
  · refine mx_iload_n (pc' := 5) dX2_has_4 rfl rfl ?_
    refine mx_aload_n (pc' := 6) dX2_has_5 rfl rfl ?_
    refine mx_getf (pc' := 9) (v := nI n) dX2_has_6 fl_X2_24 (by assumption) (by rfl) (hn) rfl ?_
    refine mx_icmp_ge (tgt := 16) (pc' := 12) dX2_has_9 (by decide) rfl (fun c9 => ?_) (fun c9 => ?_)
    · refine mx_iconst (pc' := 17) (v := nI 0) dX2_has_16 (by decide) rfl ?_
      refine mx_iret dX2_has_17 (Or.inr ⟨rfl, by decide⟩) ?_
      first | exact ⟨bI_rt (by (simp (disch := omega) only [Int32.lt_iff_toInt_lt, Int32.le_iff_toInt_le, ← Int32.toInt_inj, ne_eq, nI_t, z_t, m1_t] at * <;> omega)), rfl⟩ | exact ⟨bI_rf (by (simp (disch := omega) only [Int32.lt_iff_toInt_lt, Int32.le_iff_toInt_le, ← Int32.toInt_inj, ne_eq, nI_t, z_t, m1_t] at * <;> omega)), rfl⟩
    · refine mx_iconst (pc' := 13) (v := nI 1) dX2_has_12 (by decide) rfl ?_
      refine mx_goto (pc' := 17) dX2_has_13 (by decide) ?_
      refine mx_iret dX2_has_17 (Or.inr ⟨rfl, by decide⟩) ?_
      first | exact ⟨bI_rt (by (simp (disch := omega) only [Int32.lt_iff_toInt_lt, Int32.le_iff_toInt_le, ← Int32.toInt_inj, ne_eq, nI_t, z_t, m1_t] at * <;> omega)), rfl⟩ | exact ⟨bI_rf (by (simp (disch := omega) only [Int32.lt_iff_toInt_lt, Int32.le_iff_toInt_le, ← Int32.toInt_inj, ne_eq, nI_t, z_t, m1_t] at * <;> omega)), rfl⟩

set_option maxHeartbeats 1000000 in
set_option maxRecDepth 10000 in
theorem t_X2_isFull (M : mx_M) (e n : Nat) (hs : EmS e) (hn : M e 4 = nI n) (h60 : n ≤ 4) : mx_T yX2_isFull cX2_isFull 1 (some .boolean) 1 [.ref e] M (fun v M' => v = some (.int (bI (n = 4))) ∧ M' = M) := by
  obtain ⟨s0, s1, s2, s3, s4⟩ := hs
  refine mx_T.of1 (own := RX2) (ls := [some (.ref e)]) (by decide +kernel) rfl (Nat.le_of_ble_eq_true rfl) rfl rfl ?_
  refine mx_aload_n (pc' := 1) dX2_isFull_0 rfl rfl ?_
  refine mx_getf (pc' := 4) (v := nI n) dX2_isFull_1 fl_X2_24 (by assumption) (by rfl) (hn) rfl ?_
  refine mx_iconst (pc' := 5) (v := nI 4) dX2_isFull_4 (by decide) rfl ?_
  refine mx_icmp_lt (tgt := 12) (pc' := 8) dX2_isFull_5 (by decide) rfl (fun c5 => ?_) (fun c5 => ?_)
  · refine mx_iconst (pc' := 13) (v := nI 0) dX2_isFull_12 (by decide) rfl ?_
    refine mx_iret dX2_isFull_13 (Or.inr ⟨rfl, by decide⟩) ?_
    first | exact ⟨bI_rt (by (simp (disch := omega) only [Int32.lt_iff_toInt_lt, Int32.le_iff_toInt_le, ← Int32.toInt_inj, ne_eq, nI_t, z_t, m1_t] at * <;> omega)), rfl⟩ | exact ⟨bI_rf (by (simp (disch := omega) only [Int32.lt_iff_toInt_lt, Int32.le_iff_toInt_le, ← Int32.toInt_inj, ne_eq, nI_t, z_t, m1_t] at * <;> omega)), rfl⟩
  · refine mx_iconst (pc' := 9) (v := nI 1) dX2_isFull_8 (by decide) rfl ?_
    refine mx_goto (pc' := 13) dX2_isFull_9 (by decide) ?_
    refine mx_iret dX2_isFull_13 (Or.inr ⟨rfl, by decide⟩) ?_
    first | exact ⟨bI_rt (by (simp (disch := omega) only [Int32.lt_iff_toInt_lt, Int32.le_iff_toInt_le, ← Int32.toInt_inj, ne_eq, nI_t, z_t, m1_t] at * <;> omega)), rfl⟩ | exact ⟨bI_rf (by (simp (disch := omega) only [Int32.lt_iff_toInt_lt, Int32.le_iff_toInt_le, ← Int32.toInt_inj, ne_eq, nI_t, z_t, m1_t] at * <;> omega)), rfl⟩

set_option maxHeartbeats 1000000 in
set_option maxRecDepth 10000 in
theorem t_X2_add (M : mx_M) (e : Nat) (hs : EmS e) (L : List Em) (hA : EmA M e L) (hlt : L.length < 4) (x : Em) (hV : EmV x) : mx_T yX2_add cX2_add 5 none 2 [.ref e, .int (nI x.1), .int (nI x.2.1), .int (nI x.2.2.1), .int (nI x.2.2.2)] M (fun v M' => v = none ∧ EmA M' e (L ++ [x]) ∧ Out M M' e (e + 5)) := by
  obtain ⟨s0, s1, s2, s3, s4⟩ := hs
  obtain ⟨hn, hL, hP⟩ := hA
  refine mx_T.of1 (own := RX2) (ls := [some (.ref e), some (.int (nI x.1)), some (.int (nI x.2.1)), some (.int (nI x.2.2.1)), some (.int (nI x.2.2.2))]) (by decide +kernel) rfl (Nat.le_of_ble_eq_true rfl) rfl rfl ?_
  refine mx_aload_n (pc' := 1) dX2_add_0 rfl rfl ?_
  refine mx_callV (pc' := 4) dX2_add_1 cl_X2_28 (s0) (t_X2_isFull M e L.length ⟨s0, s1, s2, s3, s4⟩ hn hL.1) rfl (by decide) rfl (Nat.le_of_ble_eq_true rfl) rfl (fun v N1 hv => ?_)
  obtain ⟨rfl, hv⟩ := hv
  rw [hv]
  refine mx_if_eq (tgt := 8) (pc' := 7) dX2_add_4 (by decide) rfl (fun c4 => ?_) (fun c4 => ?_)
  · have c4 : ¬ L.length = 4 := bI_0.mp c4
    have h4 := hL.1
    refine mx_aload_n (pc' := 9) dX2_add_8 rfl rfl ?_
    refine mx_getr (pc' := 12) dX2_add_9 fl_X2_9 (by assumption) (by rfl) rfl ?_
    refine mx_aload_n (pc' := 13) dX2_add_12 rfl rfl ?_
    refine mx_getf (pc' := 16) (v := nI L.length) dX2_add_13 fl_X2_24 (by assumption) (by rfl) (hn) rfl ?_
    refine mx_iload_n (pc' := 17) dX2_add_16 rfl rfl ?_
    refine mx_iast (pc' := 18) dX2_add_17 (by assumption) (rfl) (by omega) rfl ?_
    refine mx_aload_n (pc' := 19) dX2_add_18 rfl rfl ?_
    refine mx_getr (pc' := 22) dX2_add_19 fl_X2_15 (by assumption) (by rfl) rfl ?_
    refine mx_aload_n (pc' := 23) dX2_add_22 rfl rfl ?_
    refine mx_getf (pc' := 26) (v := nI L.length) dX2_add_23 fl_X2_24 (by assumption) (by rfl) (((by simp only [mx_up]; repeat rw [if_neg (by omega)]) : _ = M e 4).trans hn) rfl ?_
    refine mx_iload_n (pc' := 27) dX2_add_26 rfl rfl ?_
    refine mx_iast (pc' := 28) dX2_add_27 (by assumption) (rfl) (by omega) rfl ?_
    refine mx_aload_n (pc' := 29) dX2_add_28 rfl rfl ?_
    refine mx_getr (pc' := 32) dX2_add_29 fl_X2_18 (by assumption) (by rfl) rfl ?_
    refine mx_aload_n (pc' := 33) dX2_add_32 rfl rfl ?_
    refine mx_getf (pc' := 36) (v := nI L.length) dX2_add_33 fl_X2_24 (by assumption) (by rfl) (((by simp only [mx_up]; repeat rw [if_neg (by omega)]) : _ = M e 4).trans hn) rfl ?_
    refine mx_iload_n (pc' := 37) dX2_add_36 rfl rfl ?_
    refine mx_iast (pc' := 38) dX2_add_37 (by assumption) (rfl) (by omega) rfl ?_
    refine mx_aload_n (pc' := 39) dX2_add_38 rfl rfl ?_
    refine mx_getr (pc' := 42) dX2_add_39 fl_X2_21 (by assumption) (by rfl) rfl ?_
    refine mx_aload_n (pc' := 43) dX2_add_42 rfl rfl ?_
    refine mx_getf (pc' := 46) (v := nI L.length) dX2_add_43 fl_X2_24 (by assumption) (by rfl) (((by simp only [mx_up]; repeat rw [if_neg (by omega)]) : _ = M e 4).trans hn) rfl ?_
    refine mx_iload (pc' := 48) dX2_add_46 rfl rfl ?_
    refine mx_iast (pc' := 49) dX2_add_48 (by assumption) (rfl) (by omega) rfl ?_
    refine mx_aload_n (pc' := 50) dX2_add_49 rfl rfl ?_
    refine mx_dup (pc' := 51) dX2_add_50 rfl rfl ?_
    refine mx_getf (pc' := 54) (v := nI L.length) dX2_add_51 fl_X2_24 (by assumption) (by rfl) (((by simp only [mx_up]; repeat rw [if_neg (by omega)]) : _ = M e 4).trans hn) rfl ?_
    refine mx_iconst (pc' := 55) (v := nI 1) dX2_add_54 (by decide) rfl ?_
    refine mx_iadd (pc' := 56) (v := nI (L.length + 1)) dX2_add_55 (nI_add _ 1) rfl ?_
    refine mx_putf (pc' := 59) dX2_add_56 fl_X2_24 (by assumption) (by rfl) (⟨rfl, rfl⟩) rfl ?_
    refine mx_vret dX2_add_59 rfl ?_
    refine ⟨rfl, ⟨by simp [mx_up], ⟨by simp; omega, fun y hy => ?_⟩, EmP.snoc (hP.fr fun q j h1 h2 h3 h4 => ?_) ⟨by simp [mx_up], by simp [mx_up], by simp [mx_up], by simp [mx_up]⟩⟩, (by repeat (first | exact Out.rf | assumption | refine Out.up ?_ (by omega) (by omega)))⟩
    · rcases List.mem_append.mp hy with hy | hy
      · exact hL.2 y hy
      · rw [List.mem_singleton.mp hy]; exact hV
    · simp [mx_up, show j ≠ L.length by omega, show q ≠ e by omega]
  · have c4 : L.length = 4 := bI_n.mp c4
    refine mx_vret dX2_add_7 rfl ?_
    exact absurd c4 (by omega)

set_option maxHeartbeats 1000000 in
set_option maxRecDepth 10000 in
theorem t_X2_put (M : mx_M) (e e' : Nat) (hs : EmS e) (hs' : EmS e') (hb : e' = e ∨ e + 5 ≤ e' ∨ e' + 5 ≤ e) (t f : Nat) (ht : t < 4) (hf : f < 4) : mx_T yX2_put cX2_put 4 none 1 [.ref e, .int (nI t), .ref e', .int (nI f)] M (fun v M' => v = none ∧ (∀ q j, (q < e + 1 ∨ e + 4 < q ∨ j ≠ t) → M' q j = M q j) ∧ M' (e + 1) t = M (e' + 1) f ∧ M' (e + 2) t = M (e' + 2) f ∧ M' (e + 3) t = M (e' + 3) f ∧ M' (e + 4) t = M (e' + 4) f) := by
  obtain ⟨s0, s1, s2, s3, s4⟩ := hs
  obtain ⟨u0, u1, u2, u3, u4⟩ := hs'
  refine mx_T.of1 (own := RX2) (ls := [some (.ref e), some (.int (nI t)), some (.ref e'), some (.int (nI f))]) (by decide +kernel) rfl (Nat.le_of_ble_eq_true rfl) rfl rfl ?_
  refine mx_aload_n (pc' := 1) dX2_put_0 rfl rfl ?_
  refine mx_getr (pc' := 4) dX2_put_1 fl_X2_9 (by assumption) (by rfl) rfl ?_
  refine mx_iload_n (pc' := 5) dX2_put_4 rfl rfl ?_
  refine mx_aload_n (pc' := 6) dX2_put_5 rfl rfl ?_
  refine mx_getr (pc' := 9) dX2_put_6 fl_X2_9 (by assumption) (by rfl) rfl ?_
  refine mx_iload_n (pc' := 10) dX2_put_9 rfl rfl ?_
  refine mx_iald (pc' := 11) (v := M (e' + 1) f) dX2_put_10 (by assumption) (rfl) (by omega) (by simp only [mx_up]; repeat rw [if_neg (by omega)]) rfl ?_
  refine mx_iast (pc' := 12) dX2_put_11 (by assumption) (rfl) (by omega) rfl ?_
  refine mx_aload_n (pc' := 13) dX2_put_12 rfl rfl ?_
  refine mx_getr (pc' := 16) dX2_put_13 fl_X2_15 (by assumption) (by rfl) rfl ?_
  refine mx_iload_n (pc' := 17) dX2_put_16 rfl rfl ?_
  refine mx_aload_n (pc' := 18) dX2_put_17 rfl rfl ?_
  refine mx_getr (pc' := 21) dX2_put_18 fl_X2_15 (by assumption) (by rfl) rfl ?_
  refine mx_iload_n (pc' := 22) dX2_put_21 rfl rfl ?_
  refine mx_iald (pc' := 23) (v := M (e' + 2) f) dX2_put_22 (by assumption) (rfl) (by omega) (by simp only [mx_up]; repeat rw [if_neg (by omega)]) rfl ?_
  refine mx_iast (pc' := 24) dX2_put_23 (by assumption) (rfl) (by omega) rfl ?_
  refine mx_aload_n (pc' := 25) dX2_put_24 rfl rfl ?_
  refine mx_getr (pc' := 28) dX2_put_25 fl_X2_18 (by assumption) (by rfl) rfl ?_
  refine mx_iload_n (pc' := 29) dX2_put_28 rfl rfl ?_
  refine mx_aload_n (pc' := 30) dX2_put_29 rfl rfl ?_
  refine mx_getr (pc' := 33) dX2_put_30 fl_X2_18 (by assumption) (by rfl) rfl ?_
  refine mx_iload_n (pc' := 34) dX2_put_33 rfl rfl ?_
  refine mx_iald (pc' := 35) (v := M (e' + 3) f) dX2_put_34 (by assumption) (rfl) (by omega) (by simp only [mx_up]; repeat rw [if_neg (by omega)]) rfl ?_
  refine mx_iast (pc' := 36) dX2_put_35 (by assumption) (rfl) (by omega) rfl ?_
  refine mx_aload_n (pc' := 37) dX2_put_36 rfl rfl ?_
  refine mx_getr (pc' := 40) dX2_put_37 fl_X2_21 (by assumption) (by rfl) rfl ?_
  refine mx_iload_n (pc' := 41) dX2_put_40 rfl rfl ?_
  refine mx_aload_n (pc' := 42) dX2_put_41 rfl rfl ?_
  refine mx_getr (pc' := 45) dX2_put_42 fl_X2_21 (by assumption) (by rfl) rfl ?_
  refine mx_iload_n (pc' := 46) dX2_put_45 rfl rfl ?_
  refine mx_iald (pc' := 47) (v := M (e' + 4) f) dX2_put_46 (by assumption) (rfl) (by omega) (by simp only [mx_up]; repeat rw [if_neg (by omega)]) rfl ?_
  refine mx_iast (pc' := 48) dX2_put_47 (by assumption) (rfl) (by omega) rfl ?_
  refine mx_vret dX2_put_48 rfl ?_
  refine ⟨rfl, fun q j hq => ?_, ?_, ?_, ?_, ?_⟩
  · simp only [mx_up]
    by_cases hj : j = t
    · subst hj
      repeat rw [if_neg (by omega)]
    · simp [hj]
  all_goals (simp [mx_up])

theorem t_X2_putW (M : mx_M) (e e' : Nat) (hs : EmS e) (hs' : EmS e') (hb : e' = e ∨ e + 5 ≤ e' ∨ e' + 5 ≤ e) (t f : Nat) (ht : t < 4) (hf : f < 4) (x : Em) (hx : EmW M e' f x) : mx_T yX2_put cX2_put 4 none 1 [.ref e, .int (nI t), .ref e', .int (nI f)] M (fun v M' => v = none ∧ (∀ q j, (q < e + 1 ∨ e + 4 < q ∨ j ≠ t) → M' q j = M q j) ∧ EmW M' e t x) := by
  obtain ⟨x1, x2, x3, x4⟩ := hx
  refine (t_X2_put M e e' hs hs' hb t f ht hf).post ?_
  rintro v M' ⟨e1, h, h1, h2, h3, h4⟩
  exact ⟨e1, h, h1.trans x1, h2.trans x2, h3.trans x3, h4.trans x4⟩
set_option maxHeartbeats 1000000 in
set_option maxRecDepth 10000 in
theorem l_X2_copyFrom (M : mx_M) (e e' : Nat) (hs : EmS e) (hs' : EmS e') (hb : e + 5 ≤ e' ∨ e' + 5 ≤ e) (L : List Em) (hL : EmL L) (hP : EmP M e' 0 L) : ∀ (k : Nat) (i : Nat) (M1 : mx_M), L.length < i + k → i ≤ L.length → M1 e 4 = nI L.length → EmP M1 e 0 (L.take i) → Out M M1 e (e + 5) → mx_V cX2_copyFrom RX2 3 none 2 10 [some (.ref e), some (.ref e'), some (.int (nI i))] [] M1 (fun v M' => v = none ∧ EmA M' e L ∧ Out M M' e (e + 5)) := by
  obtain ⟨s0, s1, s2, s3, s4⟩ := hs
  have h60 := hL.1
  intro k
  induction k with
  | zero =>
    intro i M1 hk hi hn hP1 hO
    exact absurd hk (by omega)
  | succ k ih =>
    intro i M1 hk hi hn hP1 hO
    refine mx_iload_n (pc' := 11) dX2_copyFrom_10 rfl rfl ?_
    refine mx_aload_n (pc' := 12) dX2_copyFrom_11 rfl rfl ?_
    refine mx_getf (pc' := 15) (v := nI L.length) dX2_copyFrom_12 fl_X2_24 (by assumption) (by rfl) (hn) rfl ?_
    refine mx_icmp_ge (tgt := 31) (pc' := 18) dX2_copyFrom_15 (by decide) rfl (fun c15 => ?_) (fun c15 => ?_)
    · have c15 := (nI_leI (by omega) (by omega)).mp c15
      refine mx_vret dX2_copyFrom_31 rfl ?_
      exact ⟨rfl, ⟨hn, hL, by rw [← take_len c15]; exact hP1⟩, hO⟩
    · have c15 := Nat.not_le.mp (fun z => c15 ((nI_leI (by omega) (by omega)).mpr z))
      obtain ⟨x, hx⟩ := get_lt c15
      refine mx_aload_n (pc' := 19) dX2_copyFrom_18 rfl rfl ?_
      refine mx_iload_n (pc' := 20) dX2_copyFrom_19 rfl rfl ?_
      refine mx_aload_n (pc' := 21) dX2_copyFrom_20 rfl rfl ?_
      refine mx_iload_n (pc' := 22) dX2_copyFrom_21 rfl rfl ?_
      refine mx_callV (pc' := 25) dX2_copyFrom_22 cl_X2_36 (s0) (t_X2_putW M1 e e' ⟨s0, s1, s2, s3, s4⟩ hs' (by omega) i i (by omega) (by omega) x ((hP.at hx).fr fun q z1 z2 => by rw [hO q (by omega)])) rfl (by decide) rfl (Nat.le_of_ble_eq_true rfl) rfl (fun v N22 hv => ?_)
      obtain ⟨rfl, h1, h2⟩ := hv
      refine mx_iinc (pc' := 28) (ls' := [_, _, _]) (v := nI (i + 1)) dX2_copyFrom_25 rfl (nI_add i 1) (by decide) (rfl) rfl rfl ?_
      refine mx_goto (pc' := 10) dX2_copyFrom_28 (by decide) ?_
      exact ih (i + 1) N22 (by omega) (by omega) (by rw [h1 e 4 (by omega)]; exact hn) (by rw [take_snoc hx]; exact EmP.snoc (hP1.fr fun q j z1 z2 z3 z4 => h1 q j (by rw [List.length_take] at z4; omega)) (by rw [List.length_take, Nat.min_eq_left hi, Nat.zero_add]; exact h2)) (hO.tr (fun q hq => funext fun j => h1 q j (by omega)))

set_option maxHeartbeats 1000000 in
set_option maxRecDepth 10000 in
theorem t_X2_copyFrom (M : mx_M) (e e' : Nat) (hs : EmS e) (hs' : EmS e') (hb : e + 5 ≤ e' ∨ e' + 5 ≤ e) (L : List Em) (hA : EmA M e' L) : mx_T yX2_copyFrom cX2_copyFrom 3 none 2 [.ref e, .ref e'] M (fun v M' => v = none ∧ EmA M' e L ∧ Out M M' e (e + 5)) := by
  obtain ⟨s0, s1, s2, s3, s4⟩ := hs
  obtain ⟨u0, u1, u2, u3, u4⟩ := hs'
  refine mx_T.of1 (own := RX2) (ls := [some (.ref e), some (.ref e'), none]) (by decide +kernel) rfl (Nat.le_of_ble_eq_true rfl) rfl rfl ?_
  refine mx_aload_n (pc' := 1) dX2_copyFrom_0 rfl rfl ?_
  refine mx_aload_n (pc' := 2) dX2_copyFrom_1 rfl rfl ?_
  refine mx_getf (pc' := 5) (v := nI L.length) dX2_copyFrom_2 fl_X2_24 (by assumption) (by rfl) (hA.1) rfl ?_
  refine mx_putf (pc' := 8) dX2_copyFrom_5 fl_X2_24 (by assumption) (by rfl) (⟨rfl, rfl⟩) rfl ?_
  refine mx_iconst (pc' := 9) (v := nI 0) dX2_copyFrom_8 (by decide) rfl ?_
  refine mx_istore_n (pc' := 10) (ls' := [_, _, _]) dX2_copyFrom_9 (by decide) (rfl) rfl rfl ?_
  exact l_X2_copyFrom M e e' ⟨s0, s1, s2, s3, s4⟩ ⟨u0, u1, u2, u3, u4⟩ hb L hA.2.1 hA.2.2 (L.length + 1) 0 _ (by omega) (by omega) (mx_up_eq _ _ _ _) EmP.nil (by repeat (first | exact Out.rf | assumption | refine Out.up ?_ (by omega) (by omega)))

set_option maxHeartbeats 1000000 in
set_option maxRecDepth 10000 in
theorem l_X2_remove (M : mx_M) (e r : Nat) (hs : EmS e) (L : List Em) (hL : EmL L) (hr : r < L.length) : ∀ (k : Nat) (i : Nat) (M1 : mx_M), L.length < i + 1 + k → i < L.length → r ≤ i → M1 e 4 = nI L.length → EmP M1 e 0 ((L.eraseIdx r).take i) → EmP M1 e (i + 1) (L.drop (i + 1)) → Out M M1 e (e + 5) → mx_V cX2_remove RX2 3 none 2 13 [some (.ref e), some (.int (nI r)), some (.int (nI (i + 1)))] [] M1 (fun v M' => v = none ∧ EmA M' e (L.eraseIdx r) ∧ Out M M' e (e + 5)) := by
  obtain ⟨s0, s1, s2, s3, s4⟩ := hs
  have h60 := hL.1
  intro k
  induction k with
  | zero =>
    intro i M1 hk hi hri hn hP1 hP2 hO
    exact absurd hk (by omega)
  | succ k ih =>
    intro i M1 hk hi hri hn hP1 hP2 hO
    refine mx_iload_n (pc' := 14) dX2_remove_13 rfl rfl ?_
    refine mx_aload_n (pc' := 15) dX2_remove_14 rfl rfl ?_
    refine mx_getf (pc' := 18) (v := nI L.length) dX2_remove_15 fl_X2_24 (by assumption) (by rfl) (hn) rfl ?_
    refine mx_icmp_ge (tgt := 36) (pc' := 21) dX2_remove_18 (by decide) rfl (fun c18 => ?_) (fun c18 => ?_)
    · have c18 := (nI_leI (by omega) (by omega)).mp c18
      refine mx_aload_n (pc' := 37) dX2_remove_36 rfl rfl ?_
      refine mx_dup (pc' := 38) dX2_remove_37 rfl rfl ?_
      refine mx_getf (pc' := 41) (v := nI L.length) dX2_remove_38 fl_X2_24 (by assumption) (by rfl) (hn) rfl ?_
      refine mx_iconst (pc' := 42) (v := nI 1) dX2_remove_41 (by decide) rfl ?_
      refine mx_isub (pc' := 43) (v := nI (L.length - 1)) dX2_remove_42 (pk_sub (b := 1) (by omega)) rfl ?_
      refine mx_putf (pc' := 46) dX2_remove_43 fl_X2_24 (by assumption) (by rfl) (⟨rfl, rfl⟩) rfl ?_
      refine mx_vret dX2_remove_46 rfl ?_
      have hl : (L.eraseIdx r).length = L.length - 1 := List.length_eraseIdx_of_lt hr
      rw [take_len (by omega)] at hP1
      exact ⟨rfl, ⟨by rw [hl]; exact mx_up_eq _ _ _ _, ⟨by omega, fun y hy => hL.2 y (List.mem_of_mem_eraseIdx hy)⟩, hP1.fr fun q j z1 z2 z3 z4 => by rw [mx_up_ne (by omega)]⟩, (by repeat (first | exact Out.rf | assumption | refine Out.up ?_ (by omega) (by omega)))⟩
    · have c18 := Nat.not_le.mp (fun z => c18 ((nI_leI (by omega) (by omega)).mpr z))
      obtain ⟨x, hx⟩ := get_lt c18
      refine mx_aload_n (pc' := 22) dX2_remove_21 rfl rfl ?_
      refine mx_iload_n (pc' := 23) dX2_remove_22 rfl rfl ?_
      refine mx_iconst (pc' := 24) (v := nI 1) dX2_remove_23 (by decide) rfl ?_
      refine mx_isub (pc' := 25) (v := nI i) dX2_remove_24 (pk_sub (b := 1) (by omega)) rfl ?_
      refine mx_aload_n (pc' := 26) dX2_remove_25 rfl rfl ?_
      refine mx_iload_n (pc' := 27) dX2_remove_26 rfl rfl ?_
      refine mx_callV (pc' := 30) dX2_remove_27 cl_X2_36 (s0) (t_X2_putW M1 e e ⟨s0, s1, s2, s3, s4⟩ ⟨s0, s1, s2, s3, s4⟩ (Or.inl rfl) i (i + 1) (by omega) (by omega) x (by have := hP2; rw [drop_cons hx, EmP.cons] at this; exact this.1)) rfl (by decide) rfl (Nat.le_of_ble_eq_true rfl) rfl (fun v N27 hv => ?_)
      obtain ⟨rfl, h1, h2⟩ := hv
      refine mx_iinc (pc' := 33) (ls' := [_, _, _]) (v := nI (i + 1 + 1)) dX2_remove_30 rfl (nI_add (i + 1) 1) (by decide) (rfl) rfl rfl ?_
      refine mx_goto (pc' := 13) dX2_remove_33 (by decide) ?_
      have he : (L.eraseIdx r)[i]? = some x := by
        rw [List.getElem?_eraseIdx, if_neg (by omega)]; exact hx
      rw [drop_cons hx, EmP.cons] at hP2
      refine ih (i + 1) N27 (by omega) (by omega) (by omega) (by rw [h1 e 4 (by omega)]; exact hn) ?_ (hP2.2.fr fun q j z1 z2 z3 z4 => h1 q j (by omega)) (hO.tr (fun q hq => funext fun j => h1 q j (by omega)))
      rw [take_snoc he]
      refine EmP.snoc (hP1.fr fun q j z1 z2 z3 z4 => h1 q j (by rw [List.length_take] at z4; omega)) ?_
      rw [List.length_take, Nat.min_eq_left (by have := len_lt he; omega), Nat.zero_add]; exact h2

set_option maxHeartbeats 1000000 in
set_option maxRecDepth 10000 in
theorem t_X2_remove (M : mx_M) (e r : Nat) (hs : EmS e) (L : List Em) (hA : EmA M e L) (hr : r < L.length) : mx_T yX2_remove cX2_remove 3 none 2 [.ref e, .int (nI r)] M (fun v M' => v = none ∧ EmA M' e (L.eraseIdx r) ∧ Out M M' e (e + 5)) := by
  obtain ⟨s0, s1, s2, s3, s4⟩ := hs
  refine mx_T.of1 (own := RX2) (ls := [some (.ref e), some (.int (nI r)), none]) (by decide +kernel) rfl (Nat.le_of_ble_eq_true rfl) rfl rfl ?_
  refine mx_aload_n (pc' := 1) dX2_remove_0 rfl rfl ?_
  refine mx_iload_n (pc' := 2) dX2_remove_1 rfl rfl ?_
  refine mx_callV (pc' := 5) dX2_remove_2 cl_X2_32 (s0) (t_X2_has M e L.length ⟨s0, s1, s2, s3, s4⟩ hA.1 hA.2.1.1 _) rfl (by decide) rfl (Nat.le_of_ble_eq_true rfl) rfl (fun v N2 hv => ?_)
  obtain ⟨rfl, hv⟩ := hv
  rw [hv]
  refine mx_if_ne (tgt := 9) (pc' := 8) dX2_remove_5 (by decide) rfl (fun c5 => ?_) (fun c5 => ?_)
  · have h4 := hA.2.1.1
    refine mx_iload_n (pc' := 10) dX2_remove_9 rfl rfl ?_
    refine mx_iconst (pc' := 11) (v := nI 1) dX2_remove_10 (by decide) rfl ?_
    refine mx_iadd (pc' := 12) (v := nI (r + 1)) dX2_remove_11 (nI_add r 1) rfl ?_
    refine mx_istore_n (pc' := 13) (ls' := [_, _, _]) dX2_remove_12 (by decide) (rfl) rfl rfl ?_
    refine l_X2_remove M e r ⟨s0, s1, s2, s3, s4⟩ L hA.2.1 hr (L.length + 1) r _ (by omega) (by omega) (Nat.le_refl r) hA.1 ?_ ?_ Out.rf
    · intro j x hj
      have hl : j < r := by
        have := len_lt hj
        rw [List.length_take] at this; omega
      rw [List.getElem?_take, if_pos hl, List.getElem?_eraseIdx, if_pos hl] at hj
      exact hA.2.2 j x hj
    · intro j x hj
      rw [List.getElem?_drop] at hj
      have := hA.2.2 (r + 1 + j) x hj
      rwa [Nat.zero_add] at this
  · have h4 := hA.2.1.1
    exact absurd c5 (bI_n.mpr ⟨nI_pos' (by omega), nI_lt hr (by omega)⟩)

set_option maxHeartbeats 1000000 in
set_option maxRecDepth 10000 in
theorem t_X2_firesAt (M : mx_M) (e i t : Nat) (hs : EmS e) (hi : i < 4) (x : Em) (hx : EmW M e i x) (hV : EmV x) (ht : t < 2147483648) : mx_T yX2_firesAt cX2_firesAt 4 (some .boolean) 1 [.ref e, .int (nI i), .int (nI t)] M (fun v M' => v = some (.int (bI (t % x.2.2.1 = x.2.2.2))) ∧ M' = M) := by
  obtain ⟨s0, s1, s2, s3, s4⟩ := hs
  obtain ⟨c, p, q, f⟩ := x
  obtain ⟨w1, w2, w3, w4⟩ := hx
  obtain ⟨v1, v2, v3, v4, v5⟩ := hV
  dsimp only at w1 w2 w3 w4 v1 v2 v3 v4 v5
  refine mx_T.of1 (own := RX2) (ls := [some (.ref e), some (.int (nI i)), some (.int (nI t)), none]) (by decide +kernel) rfl (Nat.le_of_ble_eq_true rfl) rfl rfl ?_
  refine mx_aload_n (pc' := 1) dX2_firesAt_0 rfl rfl ?_
  refine mx_getr (pc' := 4) dX2_firesAt_1 fl_X2_18 (by assumption) (by rfl) rfl ?_
  refine mx_iload_n (pc' := 5) dX2_firesAt_4 rfl rfl ?_
  refine mx_iald (pc' := 6) (v := nI q) dX2_firesAt_5 (by assumption) (rfl) (by omega) (w3) rfl ?_
  refine mx_istore_n (pc' := 7) (ls' := [_, _, _, _]) dX2_firesAt_6 (by decide) (rfl) rfl rfl ?_
  refine mx_iload_n (pc' := 8) dX2_firesAt_7 rfl rfl ?_
  refine mx_if_le (tgt := 27) (pc' := 11) dX2_firesAt_8 (by decide) rfl (fun c8 => ?_) (fun c8 => ?_)
  · exact absurd c8 (nI_nle (by omega) (by omega))
  · refine mx_iload_n (pc' := 12) dX2_firesAt_11 rfl rfl ?_
    refine mx_iload_n (pc' := 13) dX2_firesAt_12 rfl rfl ?_
    refine mx_irem (pc' := 14) (v := nI (t % q)) dX2_firesAt_13 (nI_ne0 (by omega) (by omega)) (pk_rem (by omega) (by omega) (by omega)) rfl ?_
    refine mx_aload_n (pc' := 15) dX2_firesAt_14 rfl rfl ?_
    refine mx_getr (pc' := 18) dX2_firesAt_15 fl_X2_21 (by assumption) (by rfl) rfl ?_
    refine mx_iload_n (pc' := 19) dX2_firesAt_18 rfl rfl ?_
    refine mx_iald (pc' := 20) (v := nI f) dX2_firesAt_19 (by assumption) (rfl) (by omega) (w4) rfl ?_
    refine mx_icmp_ne (tgt := 27) (pc' := 23) dX2_firesAt_20 (by decide) rfl (fun c20 => ?_) (fun c20 => ?_)
    · have hm : t % q < q := Nat.mod_lt _ (by omega)
      have c20 : ¬ _ := fun z => c20 ((nI_eq (by omega) (by omega)).mpr z)
      refine mx_iconst (pc' := 28) (v := nI 0) dX2_firesAt_27 (by decide) rfl ?_
      refine mx_iret dX2_firesAt_28 (Or.inr ⟨rfl, by decide⟩) ?_
      first | exact ⟨bI_rt c20, rfl⟩ | exact ⟨bI_rf c20, rfl⟩
    · have hm : t % q < q := Nat.mod_lt _ (by omega)
      have c20 := (nI_eq (by omega) (by omega)).mp c20
      refine mx_iconst (pc' := 24) (v := nI 1) dX2_firesAt_23 (by decide) rfl ?_
      refine mx_goto (pc' := 28) dX2_firesAt_24 (by decide) ?_
      refine mx_iret dX2_firesAt_28 (Or.inr ⟨rfl, by decide⟩) ?_
      first | exact ⟨bI_rt c20, rfl⟩ | exact ⟨bI_rf c20, rfl⟩

set_option maxHeartbeats 1000000 in
set_option maxRecDepth 10000 in
theorem l_X2_ticksToFire (M : mx_M) (e i t : Nat) (hs : EmS e) (hi : i < 4) (x : Em) (hx : EmW M e i x) (hV : EmV x) (ht : t + 10 < 2147483648) : ∀ (k : Nat) (n : Nat), x.2.2.1 < n + k → n ≤ x.2.2.1 → 1 ≤ n → (∀ m, m < n → 1 ≤ m → (t + m) % x.2.2.1 ≠ x.2.2.2) → mx_V cX2_ticksToFire RX2 4 (some .int) 2 2 [some (.ref e), some (.int (nI i)), some (.int (nI t)), some (.int (nI n))] [] M (fun v M' => v = some (.int (nI (wtF x.2.2.1 x.2.2.2 t))) ∧ M' = M) := by
  obtain ⟨s0, s1, s2, s3, s4⟩ := hs
  obtain ⟨v1, v2, v3, v4, v5⟩ := id hV
  intro k
  induction k with
  | zero =>
    intro n hk hi2 h1 hm
    exact absurd hk (by omega)
  | succ k ih =>
    intro n hk hi2 h1 hm
    refine mx_iload_n (pc' := 3) dX2_ticksToFire_2 rfl rfl ?_
    refine mx_aload_n (pc' := 4) dX2_ticksToFire_3 rfl rfl ?_
    refine mx_getr (pc' := 7) dX2_ticksToFire_4 fl_X2_18 (by assumption) (by rfl) rfl ?_
    refine mx_iload_n (pc' := 8) dX2_ticksToFire_7 rfl rfl ?_
    refine mx_iald (pc' := 9) (v := nI x.2.2.1) dX2_ticksToFire_8 (by assumption) (rfl) (by omega) (hx.2.2.1) rfl ?_
    refine mx_icmp_ge (tgt := 29) (pc' := 12) dX2_ticksToFire_9 (by decide) rfl (fun c9 => ?_) (fun c9 => ?_)
    · have c9 := (nI_leI (by omega) (by omega)).mp c9
      refine mx_iload_n (pc' := 30) dX2_ticksToFire_29 rfl rfl ?_
      refine mx_iret dX2_ticksToFire_30 (Or.inl rfl) ?_
      refine ⟨?_, rfl⟩
      have h := wtF_ok (t := t) v3 v4 v5
      rw [show n = wtF x.2.2.1 x.2.2.2 t from ?_]
      rcases Nat.lt_trichotomy n (wtF x.2.2.1 x.2.2.2 t) with z | z | z
      · omega
      · exact z
      · exact absurd h.1 (hm _ z (Nat.le_add_left 1 _))
    · have c9 := Nat.not_le.mp (fun z => c9 ((nI_leI (by omega) (by omega)).mpr z))
      refine mx_aload_n (pc' := 13) dX2_ticksToFire_12 rfl rfl ?_
      refine mx_iload_n (pc' := 14) dX2_ticksToFire_13 rfl rfl ?_
      refine mx_iload_n (pc' := 15) dX2_ticksToFire_14 rfl rfl ?_
      refine mx_iload_n (pc' := 16) dX2_ticksToFire_15 rfl rfl ?_
      refine mx_iadd (pc' := 17) (v := nI (t + n)) dX2_ticksToFire_16 (nI_add t n) rfl ?_
      refine mx_callV (pc' := 20) dX2_ticksToFire_17 cl_X2_40 (s0) (t_X2_firesAt M e i (t + n) ⟨s0, s1, s2, s3, s4⟩ hi x hx hV (by omega)) rfl (by decide) rfl (Nat.le_of_ble_eq_true rfl) rfl (fun v N17 hv => ?_)
      obtain ⟨rfl, hv⟩ := hv
      rw [hv]
      refine mx_if_ne (tgt := 29) (pc' := 23) dX2_ticksToFire_20 (by decide) rfl (fun c20 => ?_) (fun c20 => ?_)
      · have c20 := bI_n.mp c20
        refine mx_iload_n (pc' := 30) dX2_ticksToFire_29 rfl rfl ?_
        refine mx_iret dX2_ticksToFire_30 (Or.inl rfl) ?_
        refine ⟨?_, rfl⟩
        have h := wtF_ok (t := t) v3 v4 v5
        rw [show n = wtF x.2.2.1 x.2.2.2 t from ?_]
        rcases Nat.lt_trichotomy n (wtF x.2.2.1 x.2.2.2 t) with z | z | z
        · exact absurd c20 (h.2.2 n z h1)
        · exact z
        · exact absurd h.1 (hm _ z (Nat.le_add_left 1 _))
      · have c20 : ¬ (t + n) % x.2.2.1 = x.2.2.2 := bI_0.mp c20
        refine mx_iinc (pc' := 26) (ls' := [_, _, _, _]) (v := nI (n + 1)) dX2_ticksToFire_23 rfl (nI_add n 1) (by decide) (rfl) rfl rfl ?_
        refine mx_goto (pc' := 2) dX2_ticksToFire_26 (by decide) ?_
        refine ih (n + 1) (by omega) (by omega) (by omega) ?_
        intro m z1 z2
        by_cases z : m = n
        · rw [z]; exact c20
        · exact hm m (by omega) z2

set_option maxHeartbeats 1000000 in
set_option maxRecDepth 10000 in
theorem t_X2_ticksToFire (M : mx_M) (e i t : Nat) (hs : EmS e) (hi : i < 4) (x : Em) (hx : EmW M e i x) (hV : EmV x) (ht : t + 10 < 2147483648) : mx_T yX2_ticksToFire cX2_ticksToFire 4 (some .int) 2 [.ref e, .int (nI i), .int (nI t)] M (fun v M' => v = some (.int (nI (wtF x.2.2.1 x.2.2.2 t))) ∧ M' = M) := by
  refine mx_T.of1 (own := RX2) (ls := [some (.ref e), some (.int (nI i)), some (.int (nI t)), none]) (by decide +kernel) rfl (Nat.le_of_ble_eq_true rfl) rfl rfl ?_
  refine mx_iconst (pc' := 1) (v := nI 1) dX2_ticksToFire_0 (by decide) rfl ?_
  refine mx_istore_n (pc' := 2) (ls' := [_, _, _, _]) dX2_ticksToFire_1 (by decide) (rfl) rfl rfl ?_
  exact l_X2_ticksToFire M e i t hs hi x hx hV ht (x.2.2.1 + 1) 1 (by omega) hV.2.2.1 (Nat.le_refl 1) (fun m z1 z2 => by omega)

