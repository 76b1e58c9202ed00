/-! the model's reader of the pad -/
def b1 (P : Prop) [Decidable P] : Nat := if P then 1 else 0
theorem b1_t {P : Prop} [Decidable P] (h : P) : b1 P = 1 := if_pos h
theorem b1_f {P : Prop} [Decidable P] (h : ¬ P) : b1 P = 0 := if_neg h
theorem b1_c {P Q : Prop} [Decidable P] [Decidable Q] (h : P ↔ Q) : b1 P = b1 Q := by
  by_cases hq : Q
  · rw [b1_t hq, b1_t (h.mpr hq)]
  · rw [b1_f hq, b1_f (fun z => hq (h.mp z))]
theorem b1_le (P : Prop) [Decidable P] : b1 P ≤ 1 := by unfold b1; split <;> decide
def TK (M : mx_M) (A : Prop) [Decidable A] (sp : Nat) : mx_M := mx_up (mx_up M 143 10 (bI A)) 143 9 (nI (sp + b1 A))
theorem TK_c {M : mx_M} {A B : Prop} [Decidable A] [Decidable B] {sp : Nat} (h : A ↔ B) : TK M A sp = TK M B sp := by unfold TK; rw [bI_c h, b1_c h]
theorem TK_9 (M : mx_M) (A : Prop) [Decidable A] (sp : Nat) : TK M A sp 143 9 = nI (sp + b1 A) := mx_up_eq _ _ _ _
theorem TK_10 (M : mx_M) (A : Prop) [Decidable A] (sp : Nat) : TK M A sp 143 10 = bI A := by unfold TK; rw [mx_up_fn, upd_ne _ _ (by decide)]; exact mx_up_eq _ _ _ _
theorem TK_o (M : mx_M) (A : Prop) [Decidable A] (sp : Nat) {j : Nat} (h : j ≠ 9) (h' : j ≠ 10) : TK M A sp 143 j = M 143 j := by unfold TK; rw [mx_up_fn, upd_ne _ _ h, mx_up_fn, upd_ne _ _ h']
theorem TK_ne (M : mx_M) (A : Prop) [Decidable A] (sp : Nat) {q : Nat} (h : q ≠ 143) : TK M A sp q = M q := by unfold TK; rw [mx_up_ne h, mx_up_ne h]
def hereN (L : List Nat) (sp : Nat) : Nat := (L[sp]?).getD 0
theorem hereN_s {L : List Nat} {sp c : Nat} (h : L[sp]? = some c) : hereN L sp = c := by unfold hereN; rw [h]; rfl
theorem hereN_0 {L : List Nat} {sp : Nat} (h : L.length ≤ sp) : hereN L sp = 0 := by unfold hereN; rw [List.getElem?_eq_none h]; rfl
theorem hereN_lt {L : List Nat} (h : ∀ c ∈ L, c < 127) (sp : Nat) : hereN L sp < 127 := by
  by_cases hs : sp < L.length
  · obtain ⟨c, hc⟩ := get_lt hs
    rw [hereN_s hc]; exact h c (List.mem_of_getElem? hc)
  · rw [hereN_0 (by omega)]; decide
/-- what reading may change -/
def Rd (M M' : mx_M) : Prop := (∀ q, q ≠ 143 → q ≠ 150 → M' q = M q) ∧ ∀ j, j < 9 → M' 143 j = M 143 j
theorem Rd.rf {M : mx_M} : Rd M M := ⟨fun _ _ _ => rfl, fun _ _ => rfl⟩
theorem Rd.tr {M M1 M2 : mx_M} (h1 : Rd M M1) (h2 : Rd M1 M2) : Rd M M2 := ⟨fun q a b => (h2.1 q a b).trans (h1.1 q a b), fun j hj => (h2.2 j hj).trans (h1.2 j hj)⟩
theorem Rd.tk {M N : mx_M} (h : Rd M N) (A : Prop) [Decidable A] (sp : Nat) : Rd M (TK N A sp) := h.tr ⟨fun q a _ => TK_ne _ _ _ a, fun j hj => TK_o _ _ _ (by omega) (by omega)⟩
theorem Rd.e {M N : mx_M} (h : Rd M N) (i : Nat) (x : Int32) : Rd M (mx_up N 150 i x) := h.tr ⟨fun q _ b => mx_up_ne b, fun j hj => by rw [mx_up_ne (by decide)]⟩
theorem Rd.o {M N : mx_M} (h : Rd M N) (i : Nat) (x : Int32) (hi : 9 ≤ i) : Rd M (mx_up N 143 i x) := h.tr ⟨fun q a _ => mx_up_ne a, fun j hj => by rw [mx_up_fn, upd_ne _ _ (by omega)]⟩
theorem MpA.rd {M M' : mx_M} {L : List Nat} (h : MpA M L) (hr : Rd M M') : MpA M' L := h.fr (hr.2 7 (by decide)) (hr.1 148 (by decide) (by decide))
theorem MoA.rd {M M' : mx_M} {Y : Sy} (h : MoA M Y) (hr : Rd M M') : MoA M' Y := h.fr (hr.1 144 (by decide) (by decide)) (hr.2 3 (by decide)) (hr.2 5 (by decide)) (hr.2 7 (by decide)) (hr.1 146 (by decide) (by decide)) (hr.1 147 (by decide) (by decide)) (hr.1 148 (by decide) (by decide))
theorem Rd.cl {M M' : mx_M} (h : Rd M M') : Cl M M' := fun q hq => h.1 q (by omega) (by omega)
def PS (M : mx_M) (L : List Nat) (n : Nat) (N : mx_M) (A : Prop) [Decidable A] (sp : Nat) : Prop := MpA N L ∧ N 143 9 = nI sp ∧ N 143 10 = bI A ∧ N 143 12 = nI n ∧ Rd M N
theorem PS.tk {M : mx_M} {L : List Nat} {n : Nat} {N : mx_M} {A : Prop} [Decidable A] {sp : Nat} (h : PS M L n N A sp) (B : Prop) [Decidable B] : PS M L n (TK N B sp) B (sp + b1 B) :=
  ⟨h.1.rd (Rd.rf.tk B sp), TK_9 _ _ _, TK_10 _ _ _, (TK_o _ _ _ (by decide) (by decide)).trans h.2.2.2.1, h.2.2.2.2.tk B sp⟩
theorem PS.e {M : mx_M} {L : List Nat} {n : Nat} {N : mx_M} {A : Prop} [Decidable A] {sp : Nat} (h : PS M L n N A sp) (i : Nat) (x : Int32) : PS M L n (mx_up N 150 i x) A sp :=
  ⟨h.1.rd (Rd.rf.e i x), by rw [mx_up_ne (by decide)]; exact h.2.1, by rw [mx_up_ne (by decide)]; exact h.2.2.1, by rw [mx_up_ne (by decide)]; exact h.2.2.2.1, h.2.2.2.2.e i x⟩
theorem dg_a : ∀ c, c < 127 → ((nI 0 ≤ nI c - nI 48 ∧ nI c - nI 48 ≤ nI 9) ↔ (48 ≤ c ∧ c ≤ 57)) := by decide +kernel
theorem dg_4 : ∀ c, c < 127 → ∀ p, p < 10 → 1 ≤ p → ((nI 0 ≤ nI c - nI 48 ∧ nI c - nI 48 ≤ nI p - nI 1) ↔ (48 ≤ c ∧ c - 48 < p)) := by decide +kernel
theorem pat_2 : ∀ c, c < 127 → (patI c < 0 ↔ ¬ (patN c).isSome = true) := by decide +kernel
theorem crS_0 (s : Cr) : crS s 0 = none := by
  unfold crS
  split
  · rfl
  · split
    · rfl
    · split
      · rfl
      · split
        · split
          · rfl
          · rfl
        · rfl
def At (L : List Nat) (s : Cr) (sp : Nat) : Prop := sp ≤ L.length ∧ (crR cr0 L).1 = sp + (crR s (L.drop sp)).1 ∧ (crR cr0 L).2 = (crR s (L.drop sp)).2
theorem At.z (L : List Nat) : At L cr0 0 := ⟨Nat.zero_le _, by rw [Nat.zero_add]; rfl, rfl⟩
theorem At.adv {L : List Nat} {s t : Cr} {sp : Nat} (h : At L s sp) (he : crS s (hereN L sp) = some t) : At L t (sp + 1) := by
  obtain ⟨h1, h2, h3⟩ := h
  have hs : sp < L.length := by
    by_cases z : sp < L.length
    · exact z
    · rw [hereN_0 (by omega), crS_0] at he; cases he
  obtain ⟨c, hc⟩ := get_lt hs
  rw [hereN_s hc] at he
  have er : crR s (L.drop sp) = ((crR t (L.drop (sp + 1))).1 + 1, (crR t (L.drop (sp + 1))).2) := by rw [drop_cons hc]; simp [crR, he]
  rw [er] at h2 h3
  dsimp only at h2 h3
  exact ⟨hs, by omega, h3⟩
theorem At.flt {L : List Nat} {s : Cr} {sp : Nat} (h : At L s sp) (hn : ¬ (s.1 = 3 ∨ s.1 = 5) ∨ sp < L.length) (he : crS s (hereN L sp) = none) : crF L = nI sp := by
  obtain ⟨h1, h2, h3⟩ := h
  by_cases z : sp < L.length
  · obtain ⟨c, hc⟩ := get_lt z
    rw [hereN_s hc] at he
    have er : crR s (L.drop sp) = (0, none) := by rw [drop_cons hc]; simp [crR, he]
    rw [er] at h2 h3
    unfold crF
    rw [h3]
    dsimp only
    rw [h2]; rfl
  · have er : crR s (L.drop sp) = (0, some s) := by rw [List.drop_eq_nil_of_le (by omega)]; rfl
    rw [er] at h3
    unfold crF
    rw [h3]
    dsimp only
    rw [if_neg (by omega)]
    congr 1; omega
theorem At.done {L : List Nat} {s : Cr} {sp : Nat} (h : At L s sp) (hn : s.1 = 3 ∨ s.1 = 5) (hs : L.length ≤ sp) : crF L = (-4) ∧ crE L = s.2.2.2 := by
  obtain ⟨h1, h2, h3⟩ := h
  have er : crR s (L.drop sp) = (0, some s) := by rw [List.drop_eq_nil_of_le hs]; rfl
  rw [er] at h3
  unfold crF crE
  rw [h3]
  exact ⟨if_pos hn, rfl⟩
abbrev eA1 (L : List Nat) (sp : Nat) : Prop := True ∧ (48 ≤ hereN L sp ∧ hereN L sp ≤ 57)
abbrev e1 (L : List Nat) (sp : Nat) : Nat := sp + b1 (eA1 L sp)
abbrev eA2 (L : List Nat) (sp : Nat) : Prop := eA1 L sp ∧ (patN (hereN L (e1 L sp))).isSome = true
abbrev e2 (L : List Nat) (sp : Nat) : Nat := e1 L sp + b1 (eA2 L sp)
abbrev eA3 (L : List Nat) (sp : Nat) : Prop := eA2 L sp ∧ (49 ≤ hereN L (e2 L sp) ∧ hereN L (e2 L sp) ≤ 57)
abbrev e3 (L : List Nat) (sp : Nat) : Nat := e2 L sp + b1 (eA3 L sp)
theorem em_ok {L : List Nat} {s : Cr} {sp : Nat} (h : At L s sp) (h0 : s.1 = 0) (hA : eA3 L sp) : ∃ p, patN (hereN L (sp + 1)) = some p ∧ e1 L sp = sp + 1 ∧ e2 L sp = sp + 2 ∧ e3 L sp = sp + 3 ∧ 48 ≤ hereN L sp ∧ hereN L sp ≤ 57 ∧ 49 ≤ hereN L (sp + 2) ∧ hereN L (sp + 2) ≤ 57 ∧ At L (3, hereN L sp - 48, p, s.2.2.2 ++ [(hereN L sp - 48, p, hereN L (sp + 2) - 48, 0)]) (sp + 3) := by
  have q1 : e1 L sp = sp + 1 := by show sp + b1 _ = _; rw [b1_t hA.1.1]
  have q2 : e2 L sp = sp + 2 := by show e1 L sp + b1 _ = _; rw [b1_t hA.1, q1]
  have q3 : e3 L sp = sp + 3 := by show e2 L sp + b1 _ = _; rw [b1_t hA, q2]
  have w2 := hA.1.2
  rw [q1] at w2
  obtain ⟨p, hp⟩ := Option.isSome_iff_exists.mp w2
  have w3 := hA.2
  rw [q2] at w3
  have w1 := hA.1.1.2
  have a1 : At L (1, hereN L sp - 48, s.2.2.1, s.2.2.2) (sp + 1) := h.adv (by unfold crS; rw [if_pos h0, if_pos w1])
  have a2 : At L (2, hereN L sp - 48, p, s.2.2.2) (sp + 2) := a1.adv (by simp [crS, hp])
  exact ⟨p, hp, q1, q2, q3, w1.1, w1.2, w3.1, w3.2, a2.adv (by simp [crS, w3])⟩
theorem em_no {L : List Nat} {s : Cr} {sp : Nat} (h : At L s sp) (h0 : s.1 = 0) (hA : ¬ eA3 L sp) : crF L = nI (e3 L sp) ∧ e3 L sp ≤ L.length := by
  by_cases w1 : eA1 L sp
  · have q1 : e1 L sp = sp + 1 := by show sp + b1 _ = _; rw [b1_t w1]
    have a1 : At L (1, hereN L sp - 48, s.2.2.1, s.2.2.2) (sp + 1) := h.adv (by unfold crS; rw [if_pos h0, if_pos w1.2])
    by_cases w2 : eA2 L sp
    · have q2 : e2 L sp = sp + 2 := by show e1 L sp + b1 _ = _; rw [b1_t w2, q1]
      have q3 : e3 L sp = sp + 2 := by show e2 L sp + b1 _ = _; rw [b1_f hA, q2]
      have w2' := w2.2
      rw [q1] at w2'
      obtain ⟨p, hp⟩ := Option.isSome_iff_exists.mp w2'
      have a2 : At L (2, hereN L sp - 48, p, s.2.2.2) (sp + 2) := a1.adv (by simp [crS, hp])
      have w3 : ¬ (49 ≤ hereN L (sp + 2) ∧ hereN L (sp + 2) ≤ 57) := fun z => hA ⟨w2, by rw [q2]; exact z⟩
      rw [q3]
      exact ⟨a2.flt (Or.inl (by omega)) (by unfold crS; dsimp only; rw [if_neg (by omega), if_neg (by omega), if_pos rfl, if_neg w3]), a2.1⟩
    · have q2 : e2 L sp = sp + 1 := by show e1 L sp + b1 _ = _; rw [b1_f w2, q1]
      have q3 : e3 L sp = sp + 1 := by show e2 L sp + b1 _ = _; rw [b1_f hA, q2]
      have hp : patN (hereN L (sp + 1)) = none := by
        cases hz : patN (hereN L (sp + 1)) with
        | none => rfl
        | some p => exact absurd ⟨w1, by rw [q1, hz]; rfl⟩ w2
      rw [q3]
      exact ⟨a1.flt (Or.inl (by omega)) (by simp [crS, hp]), a1.1⟩
  · have q1 : e1 L sp = sp := by show sp + b1 _ = _; rw [b1_f w1]; rfl
    have q2 : e2 L sp = sp := by show e1 L sp + b1 _ = _; rw [b1_f (fun z => w1 z.1), q1]; rfl
    have q3 : e3 L sp = sp := by show e2 L sp + b1 _ = _; rw [b1_f hA, q2]; rfl
    rw [q3]
    exact ⟨h.flt (Or.inl (by omega)) (by unfold crS; rw [if_pos h0, if_neg (fun z => w1 ⟨trivial, z⟩)]), h.1⟩
theorem em4 {f : Nat → Int32} {E : List Em} (h : ∀ (i : Nat) (e : Em), E[i]? = some e → EmR f (4 * i) e) (e : Em) {x1 x2 x3 x4 : Int32} (h1 : x1 = nI e.1) (h2 : x2 = nI e.2.1) (h3 : x3 = nI e.2.2.1) (h4 : x4 = nI e.2.2.2) :
    ∀ (i : Nat) (e' : Em), (E ++ [e])[i]? = some e' → EmR (upd (upd (upd (upd f (4 * E.length) x1) (4 * E.length + 1) x2) (4 * E.length + 2) x3) (4 * E.length + 3) x4) (4 * i) e' := by
  intro i e' hi
  have hl := len_lt hi
  rw [List.length_append, List.length_singleton] at hl
  by_cases z : i < E.length
  · rw [List.getElem?_append_left z] at hi
    exact (h i e' hi).fr fun j hj => by rw [upd_ne _ _ (by omega), upd_ne _ _ (by omega), upd_ne _ _ (by omega), upd_ne _ _ (by omega)]
  · obtain rfl : i = E.length := by omega
    rw [List.getElem?_append_right (Nat.le_refl _), Nat.sub_self] at hi
    cases hi
    refine ⟨?_, ?_, ?_, ?_⟩
    · rw [upd_ne _ _ (by omega), upd_ne _ _ (by omega), upd_ne _ _ (by omega), upd_eq, h1]
    · rw [upd_ne _ _ (by omega), upd_ne _ _ (by omega), upd_eq, h2]
    · rw [upd_ne _ _ (by omega), upd_eq, h3]
    · rw [upd_eq, h4]
def FlM (M : mx_M) (L : List Nat) : Prop := ∃ sp, sp ≤ L.length ∧ M 143 9 = nI sp ∧ M 143 10 = nI 0 ∧ crF L = nI sp
def OkM (M : mx_M) (L : List Nat) (s : Cr) (sp : Nat) : Prop := (s.1 = 5 ∨ (s.1 = 3 ∧ hereN L sp ≠ 43)) ∧ At L s sp ∧ M 143 9 = nI sp ∧ M 143 10 = nI 1 ∧ M 143 12 = nI s.2.2.2.length ∧ EmL s.2.2.2 ∧ ∀ (i : Nat) (e : Em), s.2.2.2[i]? = some e → EmR (M 150) (4 * i) e
set_option maxHeartbeats 1000000 in
set_option maxRecDepth 10000 in
theorem t_X8_here (M : mx_M) (L : List Nat) (hP : MpA M L) (sp : Nat) (h9 : M 143 9 = nI sp) (hs : sp < 100) : mx_T yX8_here cX8_here 1 (some .int) 1 [.ref 143] M (fun v M' => v = some (.int (nI (hereN L sp))) ∧ M' = M) := by
  have h60 := hP.2.1
  refine mx_T.of1 (own := RX8) (ls := [some (.ref 143)]) (by decide +kernel) rfl (Nat.le_of_ble_eq_true rfl) rfl rfl ?_
  refine mx_aload_n (pc' := 1) dX8_here_0 rfl rfl ?_
  refine mx_getf (pc' := 4) (v := nI sp) dX8_here_1 fl_X8_119 (rfl) (by rfl) (h9) rfl ?_
  refine mx_aload_n (pc' := 5) dX8_here_4 rfl rfl ?_
  refine mx_getf (pc' := 8) (v := nI L.length) dX8_here_5 fl_X8_116 (rfl) (by rfl) (hP.1) rfl ?_
  refine mx_icmp_ge (tgt := 23) (pc' := 11) dX8_here_8 (by decide) rfl (fun c8 => ?_) (fun c8 => ?_)
  · have c8 := (nI_leI (by omega) (by omega)).mp c8
    refine mx_iconst (pc' := 24) (v := nI 0) dX8_here_23 (by decide) rfl ?_
    refine mx_iret dX8_here_24 (Or.inl rfl) ?_
    exact ⟨by rw [hereN_0 c8], rfl⟩
  · have c8 := Nat.not_le.mp (fun z => c8 ((nI_leI (by omega) (by omega)).mpr z))
    obtain ⟨c, hc⟩ := get_lt c8
    refine mx_aload_n (pc' := 12) dX8_here_11 rfl rfl ?_
    refine mx_getr (pc' := 15) dX8_here_12 fl_X8_22 (rfl) (by rfl) rfl ?_
    refine mx_aload_n (pc' := 16) dX8_here_15 rfl rfl ?_
    refine mx_getf (pc' := 19) (v := nI sp) dX8_here_16 fl_X8_119 (rfl) (by rfl) (h9) rfl ?_
    refine mx_iald (pc' := 20) (v := nI c) dX8_here_19 (rfl) (rfl) (by omega) (hP.2.2.2 sp c hc) rfl ?_
    refine mx_goto (pc' := 24) dX8_here_20 (by decide) ?_
    refine mx_iret dX8_here_24 (Or.inl rfl) ?_
    exact ⟨by rw [hereN_s hc], rfl⟩

set_option maxHeartbeats 1000000 in
set_option maxRecDepth 10000 in
theorem t_X8_takes (M : mx_M) (sp : Nat) (h9 : M 143 9 = nI sp) (A : Prop) [Decidable A] (h10 : M 143 10 = bI A) (P : Prop) [Decidable P] : mx_T yX8_takes cX8_takes 2 none 1 [.ref 143, .int (bI P)] M (fun v M' => v = none ∧ M' = TK M (A ∧ P) sp) := by
  refine mx_T.of1 (own := RX8) (ls := [some (.ref 143), some (.int (bI P))]) (by decide +kernel) rfl (Nat.le_of_ble_eq_true rfl) rfl rfl ?_
  refine mx_aload_n (pc' := 1) dX8_takes_0 rfl rfl ?_
  refine mx_aload_n (pc' := 2) dX8_takes_1 rfl rfl ?_
  refine mx_getf (pc' := 5) (v := bI A) dX8_takes_2 fl_X8_122 (rfl) (by rfl) (h10) rfl ?_
  refine mx_if_eq (tgt := 16) (pc' := 8) dX8_takes_5 (by decide) rfl (fun c5 => ?_) (fun c5 => ?_)
  · have c5 := bI_0.mp c5
    have hA : ¬ (A ∧ P) := fun z => c5 z.1
    refine mx_iconst (pc' := 17) (v := nI 0) dX8_takes_16 (by decide) rfl ?_
    refine mx_putf (pc' := 20) dX8_takes_17 fl_X8_122 (rfl) (by rfl) (⟨by decide, by decide⟩) rfl ?_
    refine mx_aload_n (pc' := 21) dX8_takes_20 rfl rfl ?_
    refine mx_dup (pc' := 22) dX8_takes_21 rfl rfl ?_
    refine mx_getf (pc' := 25) (v := nI sp) dX8_takes_22 fl_X8_119 (rfl) (by rfl) (by rw [mx_up_fn, upd_ne _ _ (by decide)]; exact h9) rfl ?_
    refine mx_aload_n (pc' := 26) dX8_takes_25 rfl rfl ?_
    refine mx_getf (pc' := 29) (v := nI 0) dX8_takes_26 fl_X8_122 (rfl) (by rfl) (mx_up_eq _ _ _ _) rfl ?_
    refine mx_if_eq (tgt := 36) (pc' := 32) dX8_takes_29 (by decide) rfl (fun c29 => ?_) (fun c29 => ?_)
    · refine mx_iconst (pc' := 37) (v := nI 0) dX8_takes_36 (by decide) rfl ?_
      refine mx_iadd (pc' := 38) (v := nI (sp + 0)) dX8_takes_37 (nI_add _ _) rfl ?_
      refine mx_putf (pc' := 41) dX8_takes_38 fl_X8_119 (rfl) (by rfl) (⟨rfl, rfl⟩) rfl ?_
      refine mx_vret dX8_takes_41 rfl ?_
      exact ⟨rfl, by unfold TK; rw [← bI_f hA, b1_f hA]⟩
    · exact absurd rfl c29
  · have c5 := bI_n.mp c5
    refine mx_iload_n (pc' := 9) dX8_takes_8 rfl rfl ?_
    refine mx_if_eq (tgt := 16) (pc' := 12) dX8_takes_9 (by decide) rfl (fun c9 => ?_) (fun c9 => ?_)
    · have c9 := bI_0.mp c9
      have hA : ¬ (A ∧ P) := fun z => c9 z.2
      refine mx_iconst (pc' := 17) (v := nI 0) dX8_takes_16 (by decide) rfl ?_
      refine mx_putf (pc' := 20) dX8_takes_17 fl_X8_122 (rfl) (by rfl) (⟨by decide, by decide⟩) rfl ?_
      refine mx_aload_n (pc' := 21) dX8_takes_20 rfl rfl ?_
      refine mx_dup (pc' := 22) dX8_takes_21 rfl rfl ?_
      refine mx_getf (pc' := 25) (v := nI sp) dX8_takes_22 fl_X8_119 (rfl) (by rfl) (by rw [mx_up_fn, upd_ne _ _ (by decide)]; exact h9) rfl ?_
      refine mx_aload_n (pc' := 26) dX8_takes_25 rfl rfl ?_
      refine mx_getf (pc' := 29) (v := nI 0) dX8_takes_26 fl_X8_122 (rfl) (by rfl) (mx_up_eq _ _ _ _) rfl ?_
      refine mx_if_eq (tgt := 36) (pc' := 32) dX8_takes_29 (by decide) rfl (fun c29 => ?_) (fun c29 => ?_)
      · refine mx_iconst (pc' := 37) (v := nI 0) dX8_takes_36 (by decide) rfl ?_
        refine mx_iadd (pc' := 38) (v := nI (sp + 0)) dX8_takes_37 (nI_add _ _) rfl ?_
        refine mx_putf (pc' := 41) dX8_takes_38 fl_X8_119 (rfl) (by rfl) (⟨rfl, rfl⟩) rfl ?_
        refine mx_vret dX8_takes_41 rfl ?_
        exact ⟨rfl, by unfold TK; rw [← bI_f hA, b1_f hA]⟩
      · exact absurd rfl c29
    · have c9 := bI_n.mp c9
      have hA : A ∧ P := ⟨c5, c9⟩
      refine mx_iconst (pc' := 13) (v := nI 1) dX8_takes_12 (by decide) rfl ?_
      refine mx_goto (pc' := 17) dX8_takes_13 (by decide) ?_
      refine mx_putf (pc' := 20) dX8_takes_17 fl_X8_122 (rfl) (by rfl) (⟨by decide, by decide⟩) rfl ?_
      refine mx_aload_n (pc' := 21) dX8_takes_20 rfl rfl ?_
      refine mx_dup (pc' := 22) dX8_takes_21 rfl rfl ?_
      refine mx_getf (pc' := 25) (v := nI sp) dX8_takes_22 fl_X8_119 (rfl) (by rfl) (by rw [mx_up_fn, upd_ne _ _ (by decide)]; exact h9) rfl ?_
      refine mx_aload_n (pc' := 26) dX8_takes_25 rfl rfl ?_
      refine mx_getf (pc' := 29) (v := nI 1) dX8_takes_26 fl_X8_122 (rfl) (by rfl) (mx_up_eq _ _ _ _) rfl ?_
      refine mx_if_eq (tgt := 36) (pc' := 32) dX8_takes_29 (by decide) rfl (fun c29 => ?_) (fun c29 => ?_)
      · exact absurd c29 (by decide)
      · refine mx_iconst (pc' := 33) (v := nI 1) dX8_takes_32 (by decide) rfl ?_
        refine mx_goto (pc' := 37) dX8_takes_33 (by decide) ?_
        refine mx_iadd (pc' := 38) (v := nI (sp + 1)) dX8_takes_37 (nI_add _ _) rfl ?_
        refine mx_putf (pc' := 41) dX8_takes_38 fl_X8_119 (rfl) (by rfl) (⟨rfl, rfl⟩) rfl ?_
        refine mx_vret dX8_takes_41 rfl ?_
        exact ⟨rfl, by unfold TK; rw [← bI_t hA, b1_t hA]⟩

set_option maxHeartbeats 1000000 in
set_option maxRecDepth 10000 in
theorem t_X8_takesDigit (M : mx_M) (L : List Nat) (hP : MpA M L) (sp : Nat) (h9 : M 143 9 = nI sp) (hs : sp < 100) (A : Prop) [Decidable A] (h10 : M 143 10 = bI A) (y z : Int32) (B : Prop) [Decidable B] (hB : (y ≤ nI (hereN L sp) - nI 48 ∧ nI (hereN L sp) - nI 48 ≤ z) ↔ B) : mx_T yX8_takesDigit cX8_takesDigit 4 (some .int) 2 [.ref 143, .int y, .int z] M (fun v M' => v = some (.int (nI (hereN L sp) - nI 48)) ∧ M' = TK M (A ∧ B) sp) := by
  refine mx_T.of1 (own := RX8) (ls := [some (.ref 143), some (.int y), some (.int z), none]) (by decide +kernel) rfl (Nat.le_of_ble_eq_true rfl) rfl rfl ?_
  refine mx_aload_n (pc' := 1) dX8_takesDigit_0 rfl rfl ?_
  refine mx_callV (pc' := 4) dX8_takesDigit_1 cl_X8_126 (rfl) (t_X8_here M L hP sp h9 hs) rfl (by decide) rfl (Nat.le_of_ble_eq_true rfl) rfl (fun v N1 hv => ?_)
  obtain ⟨rfl, hv⟩ := hv
  rw [hv]
  refine mx_bipush (pc' := 6) (v := nI 48) dX8_takesDigit_4 (by decide) rfl ?_
  refine mx_isub (pc' := 7) dX8_takesDigit_6 (rfl) rfl ?_
  refine mx_istore_n (pc' := 8) (ls' := [_, _, _, _]) dX8_takesDigit_7 (by decide) (rfl) rfl rfl ?_
  refine mx_aload_n (pc' := 9) dX8_takesDigit_8 rfl rfl ?_
  refine mx_iload_n (pc' := 10) dX8_takesDigit_9 rfl rfl ?_
  refine mx_iload_n (pc' := 11) dX8_takesDigit_10 rfl rfl ?_
  refine mx_iload_n (pc' := 12) dX8_takesDigit_11 rfl rfl ?_
  refine mx_callS (pc' := 15) dX8_takesDigit_12 cl_X8_49 (t_X8_in M _ y z) rfl (by decide) rfl (Nat.le_of_ble_eq_true rfl) rfl (fun v N12 hv => ?_)
  obtain ⟨rfl, hv⟩ := hv
  rw [hv]
  refine mx_callV (pc' := 18) dX8_takesDigit_15 cl_X8_129 (rfl) (t_X8_takes M sp h9 A h10 _) rfl (by decide) rfl (Nat.le_of_ble_eq_true rfl) rfl (fun v N15 hv => ?_)
  obtain ⟨rfl, rfl⟩ := hv
  refine mx_iload_n (pc' := 19) dX8_takesDigit_18 rfl rfl ?_
  refine mx_iret dX8_takesDigit_19 (Or.inl rfl) ?_
  exact ⟨rfl, TK_c (and_congr_right fun _ => hB)⟩

set_option maxHeartbeats 1000000 in
set_option maxRecDepth 10000 in
theorem t_X8_patternOf (M : mx_M) (c : Nat) (hc : c < 127) : mx_T yX8_patternOf cX8_patternOf 1 (some .int) 1 [.int (nI c)] M (fun v M' => v = some (.int (patI c)) ∧ M' = M) := by
  refine mx_T.of1 (own := RX8) (ls := [some (.int (nI c))]) (by decide +kernel) rfl (Nat.le_of_ble_eq_true rfl) rfl rfl ?_
  refine mx_iload_n (pc' := 1) dX8_patternOf_0 rfl rfl ?_
  refine mx_bipush (pc' := 3) (v := nI 100) dX8_patternOf_1 (by decide) rfl ?_
  refine mx_icmp_ne (tgt := 10) (pc' := 6) dX8_patternOf_3 (by decide) rfl (fun c3 => ?_) (fun c3 => ?_)
  · have c3 : ¬ _ := fun z => c3 ((nI_eq (by omega) (by omega)).mpr z)
    refine mx_iload_n (pc' := 11) dX8_patternOf_10 rfl rfl ?_
    refine mx_bipush (pc' := 13) (v := nI 108) dX8_patternOf_11 (by decide) rfl ?_
    refine mx_icmp_ne (tgt := 20) (pc' := 16) dX8_patternOf_13 (by decide) rfl (fun c13 => ?_) (fun c13 => ?_)
    · have c13 : ¬ _ := fun z => c13 ((nI_eq (by omega) (by omega)).mpr z)
      refine mx_iload_n (pc' := 21) dX8_patternOf_20 rfl rfl ?_
      refine mx_bipush (pc' := 23) (v := nI 114) dX8_patternOf_21 (by decide) rfl ?_
      refine mx_icmp_ne (tgt := 30) (pc' := 26) dX8_patternOf_23 (by decide) rfl (fun c23 => ?_) (fun c23 => ?_)
      · have c23 : ¬ _ := fun z => c23 ((nI_eq (by omega) (by omega)).mpr z)
        refine mx_iload_n (pc' := 31) dX8_patternOf_30 rfl rfl ?_
        refine mx_bipush (pc' := 33) (v := nI 119) dX8_patternOf_31 (by decide) rfl ?_
        refine mx_icmp_ne (tgt := 40) (pc' := 36) dX8_patternOf_33 (by decide) rfl (fun c33 => ?_) (fun c33 => ?_)
        · have c33 : ¬ _ := fun z => c33 ((nI_eq (by omega) (by omega)).mpr z)
          refine mx_iload_n (pc' := 41) dX8_patternOf_40 rfl rfl ?_
          refine mx_bipush (pc' := 43) (v := nI 97) dX8_patternOf_41 (by decide) rfl ?_
          refine mx_icmp_ne (tgt := 50) (pc' := 46) dX8_patternOf_43 (by decide) rfl (fun c43 => ?_) (fun c43 => ?_)
          · have c43 : ¬ _ := fun z => c43 ((nI_eq (by omega) (by omega)).mpr z)
            refine mx_iload_n (pc' := 51) dX8_patternOf_50 rfl rfl ?_
            refine mx_bipush (pc' := 53) (v := nI 102) dX8_patternOf_51 (by decide) rfl ?_
            refine mx_icmp_ne (tgt := 60) (pc' := 56) dX8_patternOf_53 (by decide) rfl (fun c53 => ?_) (fun c53 => ?_)
            · have c53 : ¬ _ := fun z => c53 ((nI_eq (by omega) (by omega)).mpr z)
              refine mx_bipush (pc' := 62) (v := (-4)) dX8_patternOf_60 (by decide) rfl ?_
              refine mx_iret dX8_patternOf_62 (Or.inl rfl) ?_
              exact ⟨by simp [patI, patN, *], rfl⟩
            · have c53 := (nI_eq (by omega) (by omega)).mp c53
              subst c53
              refine mx_iconst (pc' := 57) (v := nI 5) dX8_patternOf_56 (by decide) rfl ?_
              refine mx_goto (pc' := 62) dX8_patternOf_57 (by decide) ?_
              refine mx_iret dX8_patternOf_62 (Or.inl rfl) ?_
              exact ⟨rfl, rfl⟩
          · have c43 := (nI_eq (by omega) (by omega)).mp c43
            subst c43
            refine mx_iconst (pc' := 47) (v := nI 4) dX8_patternOf_46 (by decide) rfl ?_
            refine mx_goto (pc' := 62) dX8_patternOf_47 (by decide) ?_
            refine mx_iret dX8_patternOf_62 (Or.inl rfl) ?_
            exact ⟨rfl, rfl⟩
        · have c33 := (nI_eq (by omega) (by omega)).mp c33
          subst c33
          refine mx_iconst (pc' := 37) (v := nI 3) dX8_patternOf_36 (by decide) rfl ?_
          refine mx_goto (pc' := 62) dX8_patternOf_37 (by decide) ?_
          refine mx_iret dX8_patternOf_62 (Or.inl rfl) ?_
          exact ⟨rfl, rfl⟩
      · have c23 := (nI_eq (by omega) (by omega)).mp c23
        subst c23
        refine mx_iconst (pc' := 27) (v := nI 2) dX8_patternOf_26 (by decide) rfl ?_
        refine mx_goto (pc' := 62) dX8_patternOf_27 (by decide) ?_
        refine mx_iret dX8_patternOf_62 (Or.inl rfl) ?_
        exact ⟨rfl, rfl⟩
    · have c13 := (nI_eq (by omega) (by omega)).mp c13
      subst c13
      refine mx_iconst (pc' := 17) (v := nI 1) dX8_patternOf_16 (by decide) rfl ?_
      refine mx_goto (pc' := 62) dX8_patternOf_17 (by decide) ?_
      refine mx_iret dX8_patternOf_62 (Or.inl rfl) ?_
      exact ⟨rfl, rfl⟩
  · have c3 := (nI_eq (by omega) (by omega)).mp c3
    subst c3
    refine mx_iconst (pc' := 7) (v := nI 0) dX8_patternOf_6 (by decide) rfl ?_
    refine mx_goto (pc' := 62) dX8_patternOf_7 (by decide) ?_
    refine mx_iret dX8_patternOf_62 (Or.inl rfl) ?_
    exact ⟨rfl, rfl⟩

set_option maxHeartbeats 1000000 in
set_option maxRecDepth 10000 in
theorem t_X8_takesEmitter (M : mx_M) (L : List Nat) (hP : MpA M L) (s : Cr) (sp : Nat) (h0 : s.1 = 0) (h4 : s.2.2.2.length < 4) (hV : ∀ e ∈ s.2.2.2, EmV e) (h9 : M 143 9 = nI sp) (h10 : M 143 10 = nI 1) (h12 : M 143 12 = nI s.2.2.2.length) (hAt : At L s sp) (hE : ∀ (i : Nat) (e : Em), s.2.2.2[i]? = some e → EmR (M 150) (4 * i) e) : mx_T yX8_takesEmitter cX8_takesEmitter 2 none 3 [.ref 143] M (fun v M' => v = none ∧ Rd M M' ∧ (FlM M' L ∨ ∃ s' sp', sp ≤ sp' ∧ OkM M' L s' sp')) := by
  have h60 := hP.2.1
  have hsp := hAt.1
  have hc1 := hereN_lt hP.2.2.1 sp
  have hc2 := hereN_lt hP.2.2.1 (e1 L sp)
  have p0 : PS M L s.2.2.2.length M True sp := ⟨hP, h9, h10.trans (bI_t trivial), h12, Rd.rf⟩
  have p1 := (p0.tk (eA1 L sp)).e (4 * s.2.2.2.length) (nI (hereN L sp) - nI 48)
  have p2 := p1.e (4 * s.2.2.2.length + 1) (patI (hereN L (e1 L sp)))
  have J54 : ∀ x : Int32, x = bI ((patN (hereN L (e1 L sp))).isSome = true) → mx_V cX8_takesEmitter RX8 2 none 3 54 [some (.ref 143), some (.int (nI (4 * s.2.2.2.length)))] [.int x, .ref 143] (mx_up (mx_up (TK M (eA1 L sp) sp) 150 (4 * s.2.2.2.length) (nI (hereN L sp) - nI 48)) 150 (4 * s.2.2.2.length + 1) (patI (hereN L (e1 L sp)))) (fun v M' => v = none ∧ Rd M M' ∧ (FlM M' L ∨ ∃ s' sp', sp ≤ sp' ∧ OkM M' L s' sp')) := by
    intro x hx
    subst hx
    refine mx_callV (pc' := 57) dX8_takesEmitter_54 cl_X8_129 (rfl) (t_X8_takes _ (e1 L sp) p2.2.1 (eA1 L sp) p2.2.2.1 _) rfl (by decide) rfl (Nat.le_of_ble_eq_true rfl) rfl (fun v N54 hv => ?_)
    obtain ⟨rfl, rfl⟩ := hv
    have p3 := p2.tk (eA2 L sp)
    have hc3 := hereN_lt hP.2.2.1 (e2 L sp)
    refine mx_aload_n (pc' := 58) dX8_takesEmitter_57 rfl rfl ?_
    refine mx_getr (pc' := 61) dX8_takesEmitter_58 fl_X8_29 (rfl) (by rfl) rfl ?_
    refine mx_iload_n (pc' := 62) dX8_takesEmitter_61 rfl rfl ?_
    refine mx_iconst (pc' := 63) (v := nI 2) dX8_takesEmitter_62 (by decide) rfl ?_
    refine mx_iadd (pc' := 64) (v := nI (4 * s.2.2.2.length + 2)) dX8_takesEmitter_63 (nI_add _ 2) rfl ?_
    refine mx_aload_n (pc' := 65) dX8_takesEmitter_64 rfl rfl ?_
    refine mx_iconst (pc' := 66) (v := nI 1) dX8_takesEmitter_65 (by decide) rfl ?_
    refine mx_bipush (pc' := 68) (v := nI 9) dX8_takesEmitter_66 (by decide) rfl ?_
    refine mx_callV (pc' := 71) dX8_takesEmitter_68 cl_X8_136 (rfl) (t_X8_takesDigit _ L p3.1 (e2 L sp) p3.2.1 (by have := b1_le (eA1 L sp); have := b1_le (eA2 L sp); show sp + b1 (eA1 L sp) + b1 (eA2 L sp) < 100; omega) (eA2 L sp) p3.2.2.1 _ _ _ (dg_2 _ hc3)) rfl (by decide) rfl (Nat.le_of_ble_eq_true rfl) rfl (fun v N68 hv => ?_)
    obtain ⟨rfl, rfl⟩ := hv
    have p4 := ((p3.tk (eA3 L sp)).e (4 * s.2.2.2.length + 2) (nI (hereN L (e2 L sp)) - nI 48)).e (4 * s.2.2.2.length + 3) (nI 0)
    refine mx_iast (pc' := 72) dX8_takesEmitter_71 (rfl) (rfl) (by omega) rfl ?_
    refine mx_aload_n (pc' := 73) dX8_takesEmitter_72 rfl rfl ?_
    refine mx_getr (pc' := 76) dX8_takesEmitter_73 fl_X8_29 (rfl) (by rfl) rfl ?_
    refine mx_iload_n (pc' := 77) dX8_takesEmitter_76 rfl rfl ?_
    refine mx_iconst (pc' := 78) (v := nI 3) dX8_takesEmitter_77 (by decide) rfl ?_
    refine mx_iadd (pc' := 79) (v := nI (4 * s.2.2.2.length + 3)) dX8_takesEmitter_78 (nI_add _ 3) rfl ?_
    refine mx_iconst (pc' := 80) (v := nI 0) dX8_takesEmitter_79 (by decide) rfl ?_
    refine mx_iast (pc' := 81) dX8_takesEmitter_80 (rfl) (rfl) (by omega) rfl ?_
    refine mx_aload_n (pc' := 82) dX8_takesEmitter_81 rfl rfl ?_
    refine mx_getf (pc' := 85) (v := bI (eA3 L sp)) dX8_takesEmitter_82 fl_X8_122 (rfl) (by rfl) (p4.2.2.1) rfl ?_
    refine mx_if_eq (tgt := 130) (pc' := 88) dX8_takesEmitter_85 (by decide) rfl (fun c85 => ?_) (fun c85 => ?_)
    · have c85 := bI_0.mp c85
      refine mx_aload_n (pc' := 131) dX8_takesEmitter_130 rfl rfl ?_
      refine mx_dup (pc' := 132) dX8_takesEmitter_131 rfl rfl ?_
      refine mx_getf (pc' := 135) (v := nI s.2.2.2.length) dX8_takesEmitter_132 fl_X8_133 (rfl) (by rfl) (p4.2.2.2.1) rfl ?_
      refine mx_iconst (pc' := 136) (v := nI 1) dX8_takesEmitter_135 (by decide) rfl ?_
      refine mx_iadd (pc' := 137) (v := nI (s.2.2.2.length + 1)) dX8_takesEmitter_136 (nI_add _ 1) rfl ?_
      refine mx_putf (pc' := 140) dX8_takesEmitter_137 fl_X8_133 (rfl) (by rfl) (⟨rfl, rfl⟩) rfl ?_
      refine mx_vret dX8_takesEmitter_140 rfl ?_
      obtain ⟨n1, n2⟩ := em_no hAt h0 c85
      exact ⟨rfl, p4.2.2.2.2.o 12 _ (by decide), Or.inl ⟨e3 L sp, n2, by rw [mx_up_fn, upd_ne _ _ (by decide)]; exact p4.2.1, by rw [mx_up_fn, upd_ne _ _ (by decide)]; exact p4.2.2.1.trans (bI_f c85).symm, n1⟩⟩
    · have c85 := bI_n.mp c85
      obtain ⟨p, hp, q1, q2, q3, w1, w1', w3, w3', aT⟩ := em_ok hAt h0 c85
      have hM : mx_up (mx_up (TK (TK (mx_up (mx_up (TK M (eA1 L sp) sp) 150 (4 * s.2.2.2.length) (nI (hereN L sp) - nI 48)) 150 (4 * s.2.2.2.length + 1) (patI (hereN L (e1 L sp)))) (eA2 L sp) (e1 L sp)) (eA3 L sp) (e2 L sp)) 150 (4 * s.2.2.2.length + 2) (nI (hereN L (e2 L sp)) - nI 48)) 150 (4 * s.2.2.2.length + 3) (nI 0) 150 = upd (upd (upd (upd (M 150) (4 * s.2.2.2.length) (nI (hereN L sp) - nI 48)) (4 * s.2.2.2.length + 1) (patI (hereN L (e1 L sp)))) (4 * s.2.2.2.length + 2) (nI (hereN L (e2 L sp)) - nI 48)) (4 * s.2.2.2.length + 3) (nI 0) := by
        repeat (first | rw [mx_up_fn] | rw [TK_ne _ _ _ (show (150 : Nat) ≠ 143 by decide)] | rw [mx_up_ne (show (150 : Nat) ≠ 143 by decide)])
      refine mx_aload_n (pc' := 89) dX8_takesEmitter_88 rfl rfl ?_
      refine mx_callV (pc' := 92) dX8_takesEmitter_89 cl_X8_126 (rfl) (t_X8_here _ L p4.1 (e3 L sp) p4.2.1 (by rw [q3]; omega)) rfl (by decide) rfl (Nat.le_of_ble_eq_true rfl) rfl (fun v N89 hv => ?_)
      obtain ⟨rfl, hv⟩ := hv
      rw [hv]
      have hc4 := hereN_lt hP.2.2.1 (e3 L sp)
      refine mx_bipush (pc' := 94) (v := nI 43) dX8_takesEmitter_92 (by decide) rfl ?_
      refine mx_icmp_ne (tgt := 130) (pc' := 97) dX8_takesEmitter_94 (by decide) rfl (fun c94 => ?_) (fun c94 => ?_)
      · have c94 : ¬ _ := fun z => c94 ((nI_eq (by omega) (by omega)).mpr z)
        rw [q3] at c94
        refine mx_aload_n (pc' := 131) dX8_takesEmitter_130 rfl rfl ?_
        refine mx_dup (pc' := 132) dX8_takesEmitter_131 rfl rfl ?_
        refine mx_getf (pc' := 135) (v := nI s.2.2.2.length) dX8_takesEmitter_132 fl_X8_133 (rfl) (by rfl) (p4.2.2.2.1) rfl ?_
        refine mx_iconst (pc' := 136) (v := nI 1) dX8_takesEmitter_135 (by decide) rfl ?_
        refine mx_iadd (pc' := 137) (v := nI (s.2.2.2.length + 1)) dX8_takesEmitter_136 (nI_add _ 1) rfl ?_
        refine mx_putf (pc' := 140) dX8_takesEmitter_137 fl_X8_133 (rfl) (by rfl) (⟨rfl, rfl⟩) rfl ?_
        refine mx_vret dX8_takesEmitter_140 rfl ?_
        refine ⟨rfl, p4.2.2.2.2.o 12 _ (by decide), Or.inr ⟨_, sp + 3, Nat.le_add_right _ _, Or.inr ⟨rfl, c94⟩, aT, by rw [mx_up_fn, upd_ne _ _ (by decide)]; exact p4.2.1.trans (congrArg nI q3), by rw [mx_up_fn, upd_ne _ _ (by decide)]; exact p4.2.2.1.trans (bI_t c85).symm, by rw [List.length_append]; exact mx_up_eq _ _ _ _, ⟨by rw [List.length_append]; exact h4, fun x hx => ?_⟩, ?_⟩⟩
        · rcases List.mem_append.mp hx with hx | hx
          · exact hV x hx
          · rw [List.mem_singleton.mp hx]; exact ⟨by show _ - 48 < 10; omega, pat_lt hp, by show 1 ≤ _ - 48; omega, by show _ - 48 ≤ 9; omega, by show 0 < _ - 48; omega⟩
        · rw [mx_up_ne (show (150 : Nat) ≠ 143 by decide), hM]
          exact em4 hE _ (pk_sub w1) (by unfold patI; rw [q1, hp]) (by rw [q2]; exact pk_sub (by omega)) rfl
      · have c94 := (nI_eq (by omega) (by omega)).mp c94
        rw [q3] at c94
        have a4 := aT.adv (t := (4, hereN L sp - 48, p, s.2.2.2 ++ [(hereN L sp - 48, p, hereN L (sp + 2) - 48, 0)])) (by simp [crS, c94])
        have p5 := p4
        refine mx_aload_n (pc' := 98) dX8_takesEmitter_97 rfl rfl ?_
        refine mx_dup (pc' := 99) dX8_takesEmitter_98 rfl rfl ?_
        refine mx_getf (pc' := 102) (v := nI (sp + 3)) dX8_takesEmitter_99 fl_X8_119 (rfl) (by rfl) (p4.2.1.trans (congrArg nI q3)) rfl ?_
        refine mx_iconst (pc' := 103) (v := nI 1) dX8_takesEmitter_102 (by decide) rfl ?_
        refine mx_iadd (pc' := 104) (v := nI (sp + 4)) dX8_takesEmitter_103 (nI_add _ 1) rfl ?_
        refine mx_putf (pc' := 107) dX8_takesEmitter_104 fl_X8_119 (rfl) (by rfl) (⟨rfl, rfl⟩) rfl ?_
        refine mx_aload_n (pc' := 108) dX8_takesEmitter_107 rfl rfl ?_
        refine mx_getr (pc' := 111) dX8_takesEmitter_108 fl_X8_29 (rfl) (by rfl) rfl ?_
        refine mx_iload_n (pc' := 112) dX8_takesEmitter_111 rfl rfl ?_
        refine mx_iconst (pc' := 113) (v := nI 3) dX8_takesEmitter_112 (by decide) rfl ?_
        refine mx_iadd (pc' := 114) (v := nI (4 * s.2.2.2.length + 3)) dX8_takesEmitter_113 (nI_add _ 3) rfl ?_
        refine mx_aload_n (pc' := 115) dX8_takesEmitter_114 rfl rfl ?_
        refine mx_iconst (pc' := 116) (v := nI 0) dX8_takesEmitter_115 (by decide) rfl ?_
        refine mx_aload_n (pc' := 117) dX8_takesEmitter_116 rfl rfl ?_
        refine mx_getr (pc' := 120) dX8_takesEmitter_117 fl_X8_29 (rfl) (by rfl) rfl ?_
        refine mx_iload_n (pc' := 121) dX8_takesEmitter_120 rfl rfl ?_
        refine mx_iconst (pc' := 122) (v := nI 2) dX8_takesEmitter_121 (by decide) rfl ?_
        refine mx_iadd (pc' := 123) (v := nI (4 * s.2.2.2.length + 2)) dX8_takesEmitter_122 (nI_add _ 2) rfl ?_
        refine mx_iald (pc' := 124) (v := nI (hereN L (sp + 2) - 48)) dX8_takesEmitter_123 (rfl) (rfl) (by omega) (by rw [mx_up_ne (show (150 : Nat) ≠ 143 by decide), hM, upd_ne _ _ (by omega), upd_eq, q2]; exact pk_sub (by omega)) rfl ?_
        refine mx_iconst (pc' := 125) (v := nI 1) dX8_takesEmitter_124 (by decide) rfl ?_
        refine mx_isub (pc' := 126) dX8_takesEmitter_125 (rfl) rfl ?_
        refine mx_callV (pc' := 129) dX8_takesEmitter_126 cl_X8_136 (rfl) (t_X8_takesDigit _ L (p4.1.rd (Rd.rf.o 9 _ (by decide))) (sp + 4) (mx_up_eq _ _ _ _) (by omega) (eA3 L sp) (by rw [mx_up_fn, upd_ne _ _ (by decide)]; exact p4.2.2.1) _ _ _ (dg_4 _ (hereN_lt hP.2.2.1 _) (hereN L (sp + 2) - 48) (by omega) (by omega))) rfl (by decide) rfl (Nat.le_of_ble_eq_true rfl) rfl (fun v N126 hv => ?_)
        obtain ⟨rfl, rfl⟩ := hv
        have p5 : PS M L s.2.2.2.length _ (eA3 L sp) (sp + 4) := ⟨p4.1.rd (Rd.rf.o 9 (nI (sp + 4)) (by decide)), mx_up_eq _ _ _ _, by rw [mx_up_fn, upd_ne _ _ (by decide)]; exact p4.2.2.1, by rw [mx_up_fn, upd_ne _ _ (by decide)]; exact p4.2.2.2.1, p4.2.2.2.2.o 9 _ (by decide)⟩
        have p6 := (p5.tk (eA3 L sp ∧ (48 ≤ hereN L (sp + 4) ∧ hereN L (sp + 4) - 48 < hereN L (sp + 2) - 48))).e (4 * s.2.2.2.length + 3) (nI (hereN L (sp + 4)) - nI 48)
        refine mx_iast (pc' := 130) dX8_takesEmitter_129 (rfl) (rfl) (by omega) rfl ?_
        refine mx_aload_n (pc' := 131) dX8_takesEmitter_130 rfl rfl ?_
        refine mx_dup (pc' := 132) dX8_takesEmitter_131 rfl rfl ?_
        refine mx_getf (pc' := 135) (v := nI s.2.2.2.length) dX8_takesEmitter_132 fl_X8_133 (rfl) (by rfl) (p6.2.2.2.1) rfl ?_
        refine mx_iconst (pc' := 136) (v := nI 1) dX8_takesEmitter_135 (by decide) rfl ?_
        refine mx_iadd (pc' := 137) (v := nI (s.2.2.2.length + 1)) dX8_takesEmitter_136 (nI_add _ 1) rfl ?_
        refine mx_putf (pc' := 140) dX8_takesEmitter_137 fl_X8_133 (rfl) (by rfl) (⟨rfl, rfl⟩) rfl ?_
        refine mx_vret dX8_takesEmitter_140 rfl ?_
        by_cases hB : 48 ≤ hereN L (sp + 4) ∧ hereN L (sp + 4) - 48 < hereN L (sp + 2) - 48
        · refine ⟨rfl, p6.2.2.2.2.o 12 _ (by decide), Or.inr ⟨(5, hereN L sp - 48, p, s.2.2.2 ++ [(hereN L sp - 48, p, hereN L (sp + 2) - 48, hereN L (sp + 4) - 48)]), sp + 5, Nat.le_add_right _ _, Or.inl rfl, a4.adv (by simp [crS, hB]), by rw [mx_up_fn, upd_ne _ _ (by decide)]; exact p6.2.1.trans (congrArg nI (by rw [b1_t ⟨c85, hB⟩])), by rw [mx_up_fn, upd_ne _ _ (by decide)]; exact p6.2.2.1.trans (bI_t ⟨c85, hB⟩).symm, by rw [List.length_append]; exact mx_up_eq _ _ _ _, ⟨by rw [List.length_append]; exact h4, fun x hx => ?_⟩, ?_⟩⟩
          · rcases List.mem_append.mp hx with hx | hx
            · exact hV x hx
            · rw [List.mem_singleton.mp hx]; exact ⟨by show _ - 48 < 10; omega, pat_lt hp, by show 1 ≤ _ - 48; omega, by show _ - 48 ≤ 9; omega, hB.2⟩
          · rw [mx_up_ne (show (150 : Nat) ≠ 143 by decide), mx_up_fn, TK_ne _ _ _ (show (150 : Nat) ≠ 143 by decide), mx_up_ne (show (150 : Nat) ≠ 143 by decide), hM, upd_upd]
            exact em4 hE _ (pk_sub w1) (by unfold patI; rw [q1, hp]) (by rw [q2]; exact pk_sub (by omega)) (pk_sub hB.1)
        · exact ⟨rfl, p6.2.2.2.2.o 12 _ (by decide), Or.inl ⟨sp + 4, a4.1, by rw [mx_up_fn, upd_ne _ _ (by decide)]; exact p6.2.1.trans (congrArg nI (by rw [b1_f (fun z => hB z.2)])), by rw [mx_up_fn, upd_ne _ _ (by decide)]; exact p6.2.2.1.trans (bI_f (fun z => hB z.2)).symm, a4.flt (Or.inl (by dsimp only; omega)) (by unfold crS; dsimp only; rw [if_neg (by omega), if_neg (by omega), if_neg (by omega), if_pos rfl, List.getLast?_concat]; exact if_neg hB)⟩⟩
  refine mx_T.of1 (own := RX8) (ls := [some (.ref 143), none]) (by decide +kernel) rfl (Nat.le_of_ble_eq_true rfl) rfl rfl ?_
  refine mx_iconst (pc' := 1) (v := nI 4) dX8_takesEmitter_0 (by decide) rfl ?_
  refine mx_aload_n (pc' := 2) dX8_takesEmitter_1 rfl rfl ?_
  refine mx_getf (pc' := 5) (v := nI s.2.2.2.length) dX8_takesEmitter_2 fl_X8_133 (rfl) (by rfl) (h12) rfl ?_
  refine mx_imul (pc' := 6) (v := nI (4 * s.2.2.2.length)) dX8_takesEmitter_5 (pk_mul 4 _) rfl ?_
  refine mx_istore_n (pc' := 7) (ls' := [_, _]) dX8_takesEmitter_6 (by decide) (rfl) rfl rfl ?_
  refine mx_aload_n (pc' := 8) dX8_takesEmitter_7 rfl rfl ?_
  refine mx_getr (pc' := 11) dX8_takesEmitter_8 fl_X8_29 (rfl) (by rfl) rfl ?_
  refine mx_iload_n (pc' := 12) dX8_takesEmitter_11 rfl rfl ?_
  refine mx_iconst (pc' := 13) (v := nI 0) dX8_takesEmitter_12 (by decide) rfl ?_
  refine mx_iadd (pc' := 14) (v := nI (4 * s.2.2.2.length)) dX8_takesEmitter_13 (nI_add _ 0) rfl ?_
  refine mx_aload_n (pc' := 15) dX8_takesEmitter_14 rfl rfl ?_
  refine mx_iconst (pc' := 16) (v := nI 0) dX8_takesEmitter_15 (by decide) rfl ?_
  refine mx_bipush (pc' := 18) (v := nI 9) dX8_takesEmitter_16 (by decide) rfl ?_
  refine mx_callV (pc' := 21) dX8_takesEmitter_18 cl_X8_136 (rfl) (t_X8_takesDigit M L hP sp h9 (by omega) True (h10.trans (bI_t trivial)) _ _ _ (dg_a _ hc1)) rfl (by decide) rfl (Nat.le_of_ble_eq_true rfl) rfl (fun v N18 hv => ?_)
  obtain ⟨rfl, rfl⟩ := hv
  refine mx_iast (pc' := 22) dX8_takesEmitter_21 (rfl) (rfl) (by omega) rfl ?_
  refine mx_aload_n (pc' := 23) dX8_takesEmitter_22 rfl rfl ?_
  refine mx_getr (pc' := 26) dX8_takesEmitter_23 fl_X8_29 (rfl) (by rfl) rfl ?_
  refine mx_iload_n (pc' := 27) dX8_takesEmitter_26 rfl rfl ?_
  refine mx_iconst (pc' := 28) (v := nI 1) dX8_takesEmitter_27 (by decide) rfl ?_
  refine mx_iadd (pc' := 29) (v := nI (4 * s.2.2.2.length + 1)) dX8_takesEmitter_28 (nI_add _ 1) rfl ?_
  refine mx_aload_n (pc' := 30) dX8_takesEmitter_29 rfl rfl ?_
  refine mx_callV (pc' := 33) dX8_takesEmitter_30 cl_X8_126 (rfl) (t_X8_here _ L p1.1 (e1 L sp) p1.2.1 (by have := b1_le (eA1 L sp); show sp + b1 (eA1 L sp) < 100; omega)) rfl (by decide) rfl (Nat.le_of_ble_eq_true rfl) rfl (fun v N30 hv => ?_)
  obtain ⟨rfl, hv⟩ := hv
  rw [hv]
  refine mx_callS (pc' := 36) dX8_takesEmitter_33 cl_X8_139 (t_X8_patternOf _ _ hc2) rfl (by decide) rfl (Nat.le_of_ble_eq_true rfl) rfl (fun v N33 hv => ?_)
  obtain ⟨rfl, hv⟩ := hv
  rw [hv]
  refine mx_iast (pc' := 37) dX8_takesEmitter_36 (rfl) (rfl) (by omega) rfl ?_
  refine mx_aload_n (pc' := 38) dX8_takesEmitter_37 rfl rfl ?_
  refine mx_aload_n (pc' := 39) dX8_takesEmitter_38 rfl rfl ?_
  refine mx_getr (pc' := 42) dX8_takesEmitter_39 fl_X8_29 (rfl) (by rfl) rfl ?_
  refine mx_iload_n (pc' := 43) dX8_takesEmitter_42 rfl rfl ?_
  refine mx_iconst (pc' := 44) (v := nI 1) dX8_takesEmitter_43 (by decide) rfl ?_
  refine mx_iadd (pc' := 45) (v := nI (4 * s.2.2.2.length + 1)) dX8_takesEmitter_44 (nI_add _ 1) rfl ?_
  refine mx_iald (pc' := 46) (v := patI (hereN L (e1 L sp))) dX8_takesEmitter_45 (rfl) (rfl) (by omega) (mx_up_eq _ _ _ _) rfl ?_
  refine mx_if_lt (tgt := 53) (pc' := 49) dX8_takesEmitter_46 (by decide) rfl (fun c46 => ?_) (fun c46 => ?_)
  · have c46 := (pat_2 _ hc2).mp c46
    refine mx_iconst (pc' := 54) (v := nI 0) dX8_takesEmitter_53 (by decide) rfl ?_
    exact J54 _ (bI_f c46)
  · have c46 : ¬ ¬ _ := fun z => c46 ((pat_2 _ hc2).mpr z)
    refine mx_iconst (pc' := 50) (v := nI 1) dX8_takesEmitter_49 (by decide) rfl ?_
    refine mx_goto (pc' := 54) dX8_takesEmitter_50 (by decide) ?_
    exact J54 _ (bI_t (Decidable.not_not.mp c46))

set_option maxHeartbeats 1000000 in
set_option maxRecDepth 10000 in
theorem l_X8_isCurtain (M0 : mx_M) (L : List Nat) (hP0 : MpA M0 L) : ∀ (k : Nat) (M1 : mx_M) (s : Cr) (sp : Nat), L.length < sp + k → OkM M1 L s sp → Rd M0 M1 → mx_V cX8_isCurtain RX8 1 (some .boolean) 4 19 [some (.ref 143)] [] M1 (fun v M' => v = some (.int (bI (crF L = (-4)))) ∧ Rd M0 M' ∧ (crF L ≠ (-4) → M' 143 9 = crF L) ∧ (crF L = (-4) → M' 143 12 = nI (crE L).length ∧ EmL (crE L) ∧ ∀ (i : Nat) (e : Em), (crE L)[i]? = some e → EmR (M' 150) (4 * i) e)) := by
  have h60 := hP0.2.1
  have JF : ∀ N : mx_M, FlM N L → Rd M0 N → mx_V cX8_isCurtain RX8 1 (some .boolean) 4 19 [some (.ref 143)] [] N (fun v M' => v = some (.int (bI (crF L = (-4)))) ∧ Rd M0 M' ∧ (crF L ≠ (-4) → M' 143 9 = crF L) ∧ (crF L = (-4) → M' 143 12 = nI (crE L).length ∧ EmL (crE L) ∧ ∀ (i : Nat) (e : Em), (crE L)[i]? = some e → EmR (M' 150) (4 * i) e)) := by
    rintro N ⟨sp, hs, h9, h10, hF⟩ hR
    refine mx_aload_n (pc' := 20) dX8_isCurtain_19 rfl rfl ?_
    refine mx_getf (pc' := 23) (v := nI 0) dX8_isCurtain_20 fl_X8_122 (rfl) (by rfl) (h10) rfl ?_
    refine mx_if_eq (tgt := 77) (pc' := 26) dX8_isCurtain_23 (by decide) rfl (fun c23 => ?_) (fun c23 => ?_)
    · refine mx_aload_n (pc' := 78) dX8_isCurtain_77 rfl rfl ?_
      refine mx_getf (pc' := 81) (v := nI 0) dX8_isCurtain_78 fl_X8_122 (rfl) (by rfl) (h10) rfl ?_
      refine mx_iret dX8_isCurtain_81 (Or.inr ⟨rfl, by decide⟩) ?_
      have hn : crF L ≠ (-4) := by rw [hF]; exact n4_ne sp (by omega)
      exact ⟨bI_rf hn, hR, fun _ => h9.trans hF.symm, fun z => absurd z hn⟩
    · exact absurd rfl c23
  intro k
  induction k with
  | zero =>
    intro M1 s sp hk hO hR
    exact absurd hO.2.1.1 (by omega)
  | succ k ih =>
    intro M1 s sp hk hO hR
    obtain ⟨oS, oA, o9, o10, o12, oL, oE⟩ := hO
    have hP := hP0.rd hR
    have hsp := oA.1
    have hl4 := oL.1
    have hcl := hereN_lt hP0.2.2.1 sp
    have p0 : PS M1 L s.2.2.2.length M1 True sp := ⟨hP, o9, o10.trans (bI_t trivial), o12, Rd.rf⟩
    refine mx_aload_n (pc' := 20) dX8_isCurtain_19 rfl rfl ?_
    refine mx_getf (pc' := 23) (v := nI 1) dX8_isCurtain_20 fl_X8_122 (rfl) (by rfl) (o10) rfl ?_
    refine mx_if_eq (tgt := 77) (pc' := 26) dX8_isCurtain_23 (by decide) rfl (fun c23 => ?_) (fun c23 => ?_)
    · exact absurd c23 (by decide)
    · refine mx_aload_n (pc' := 27) dX8_isCurtain_26 rfl rfl ?_
      refine mx_getf (pc' := 30) (v := nI sp) dX8_isCurtain_27 fl_X8_119 (rfl) (by rfl) (o9) rfl ?_
      refine mx_aload_n (pc' := 31) dX8_isCurtain_30 rfl rfl ?_
      refine mx_getf (pc' := 34) (v := nI L.length) dX8_isCurtain_31 fl_X8_116 (rfl) (by rfl) (hP.1) rfl ?_
      refine mx_icmp_ge (tgt := 77) (pc' := 37) dX8_isCurtain_34 (by decide) rfl (fun c34 => ?_) (fun c34 => ?_)
      · have c34 := (nI_leI (by omega) (by omega)).mp c34
        refine mx_aload_n (pc' := 78) dX8_isCurtain_77 rfl rfl ?_
        refine mx_getf (pc' := 81) (v := nI 1) dX8_isCurtain_78 fl_X8_122 (rfl) (by rfl) (o10) rfl ?_
        refine mx_iret dX8_isCurtain_81 (Or.inr ⟨rfl, by decide⟩) ?_
        obtain ⟨hF, hE⟩ := oA.done (by omega) c34
        refine ⟨bI_rt hF, hR, fun z => absurd hF z, fun _ => ?_⟩
        rw [hE]
        exact ⟨o12, oL, oE⟩
      · have c34 := Nat.not_le.mp (fun z => c34 ((nI_leI (by omega) (by omega)).mpr z))
        refine mx_aload_n (pc' := 38) dX8_isCurtain_37 rfl rfl ?_
        refine mx_aload_n (pc' := 39) dX8_isCurtain_38 rfl rfl ?_
        refine mx_callV (pc' := 42) dX8_isCurtain_39 cl_X8_126 (rfl) (t_X8_here M1 L hP sp o9 (by omega)) rfl (by decide) rfl (Nat.le_of_ble_eq_true rfl) rfl (fun v N39 hv => ?_)
        obtain ⟨rfl, hv⟩ := hv
        rw [hv]
        refine mx_bipush (pc' := 44) (v := nI 59) dX8_isCurtain_42 (by decide) rfl ?_
        refine mx_icmp_ne (tgt := 59) (pc' := 47) dX8_isCurtain_44 (by decide) rfl (fun c44 => ?_) (fun c44 => ?_)
        · have c44 : ¬ _ := fun z => c44 ((nI_eq (by omega) (by omega)).mpr z)
          refine mx_iconst (pc' := 60) (v := nI 0) dX8_isCurtain_59 (by decide) rfl ?_
          have hB : ¬ (hereN L sp = 59 ∧ s.2.2.2.length < 4) := by omega
          rw [bI_f hB]
          refine mx_callV (pc' := 63) dX8_isCurtain_60 cl_X8_129 (rfl) (t_X8_takes M1 sp o9 True (o10.trans (bI_t trivial)) (hereN L sp = 59 ∧ s.2.2.2.length < 4)) rfl (by decide) rfl (Nat.le_of_ble_eq_true rfl) rfl (fun v N60 hv => ?_)
          obtain ⟨rfl, rfl⟩ := hv
          have p1 := p0.tk (True ∧ (hereN L sp = 59 ∧ s.2.2.2.length < 4))
          have hR1 := hR.tr p1.2.2.2.2
          refine mx_aload_n (pc' := 64) dX8_isCurtain_63 rfl rfl ?_
          refine mx_getf (pc' := 67) (v := nI 0) dX8_isCurtain_64 fl_X8_122 (rfl) (by rfl) (p1.2.2.1.trans (bI_f (fun z => hB z.2)).symm) rfl ?_
          refine mx_if_eq (tgt := 19) (pc' := 70) dX8_isCurtain_67 (by decide) rfl (fun c67 => ?_) (fun c67 => ?_)
          · exact JF _ ⟨sp, oA.1, p1.2.1.trans (congrArg nI (by rw [b1_f (fun z => hB z.2)]; rfl)), p1.2.2.1.trans (bI_f (fun z => hB z.2)).symm, oA.flt (Or.inr c34) (by
                unfold crS
                rw [if_neg (by omega), if_neg (by omega), if_neg (by omega), if_neg (by omega), if_neg (by omega), if_neg hB])⟩ hR1
          · exact absurd rfl c67
        · have c44 := (nI_eq (by omega) (by omega)).mp c44
          refine mx_aload_n (pc' := 48) dX8_isCurtain_47 rfl rfl ?_
          refine mx_getf (pc' := 51) (v := nI s.2.2.2.length) dX8_isCurtain_48 fl_X8_133 (rfl) (by rfl) (o12) rfl ?_
          refine mx_iconst (pc' := 52) (v := nI 4) dX8_isCurtain_51 (by decide) rfl ?_
          refine mx_icmp_ge (tgt := 59) (pc' := 55) dX8_isCurtain_52 (by decide) rfl (fun c52 => ?_) (fun c52 => ?_)
          · have c52 := (nI_leI (by omega) (by omega)).mp c52
            refine mx_iconst (pc' := 60) (v := nI 0) dX8_isCurtain_59 (by decide) rfl ?_
            have hB : ¬ (hereN L sp = 59 ∧ s.2.2.2.length < 4) := by omega
            rw [bI_f hB]
            refine mx_callV (pc' := 63) dX8_isCurtain_60 cl_X8_129 (rfl) (t_X8_takes M1 sp o9 True (o10.trans (bI_t trivial)) (hereN L sp = 59 ∧ s.2.2.2.length < 4)) rfl (by decide) rfl (Nat.le_of_ble_eq_true rfl) rfl (fun v N60 hv => ?_)
            obtain ⟨rfl, rfl⟩ := hv
            have p1 := p0.tk (True ∧ (hereN L sp = 59 ∧ s.2.2.2.length < 4))
            have hR1 := hR.tr p1.2.2.2.2
            refine mx_aload_n (pc' := 64) dX8_isCurtain_63 rfl rfl ?_
            refine mx_getf (pc' := 67) (v := nI 0) dX8_isCurtain_64 fl_X8_122 (rfl) (by rfl) (p1.2.2.1.trans (bI_f (fun z => hB z.2)).symm) rfl ?_
            refine mx_if_eq (tgt := 19) (pc' := 70) dX8_isCurtain_67 (by decide) rfl (fun c67 => ?_) (fun c67 => ?_)
            · exact JF _ ⟨sp, oA.1, p1.2.1.trans (congrArg nI (by rw [b1_f (fun z => hB z.2)]; rfl)), p1.2.2.1.trans (bI_f (fun z => hB z.2)).symm, oA.flt (Or.inr c34) (by
                  unfold crS
                  rw [if_neg (by omega), if_neg (by omega), if_neg (by omega), if_neg (by omega), if_neg (by omega), if_neg hB])⟩ hR1
            · exact absurd rfl c67
          · have c52 := Nat.not_le.mp (fun z => c52 ((nI_leI (by omega) (by omega)).mpr z))
            refine mx_iconst (pc' := 56) (v := nI 1) dX8_isCurtain_55 (by decide) rfl ?_
            refine mx_goto (pc' := 60) dX8_isCurtain_56 (by decide) ?_
            have hB : hereN L sp = 59 ∧ s.2.2.2.length < 4 := ⟨c44, c52⟩
            rw [bI_t hB]
            refine mx_callV (pc' := 63) dX8_isCurtain_60 cl_X8_129 (rfl) (t_X8_takes M1 sp o9 True (o10.trans (bI_t trivial)) (hereN L sp = 59 ∧ s.2.2.2.length < 4)) rfl (by decide) rfl (Nat.le_of_ble_eq_true rfl) rfl (fun v N60 hv => ?_)
            obtain ⟨rfl, rfl⟩ := hv
            have p1 := p0.tk (True ∧ (hereN L sp = 59 ∧ s.2.2.2.length < 4))
            have hR1 := hR.tr p1.2.2.2.2
            refine mx_aload_n (pc' := 64) dX8_isCurtain_63 rfl rfl ?_
            refine mx_getf (pc' := 67) (v := nI 1) dX8_isCurtain_64 fl_X8_122 (rfl) (by rfl) (p1.2.2.1.trans (bI_t ⟨trivial, hB⟩).symm) rfl ?_
            refine mx_if_eq (tgt := 19) (pc' := 70) dX8_isCurtain_67 (by decide) rfl (fun c67 => ?_) (fun c67 => ?_)
            · exact absurd c67 (by decide)
            · refine mx_aload_n (pc' := 71) dX8_isCurtain_70 rfl rfl ?_
              refine mx_callV (pc' := 74) dX8_isCurtain_71 cl_X8_142 (rfl) (t_X8_takesEmitter _ L p1.1 (0, s.2.1, s.2.2.1, s.2.2.2) (sp + 1) rfl hB.2 oL.2 (p1.2.1.trans (congrArg nI (by rw [b1_t ⟨trivial, hB⟩]))) (p1.2.2.1.trans (bI_t ⟨trivial, hB⟩).symm) p1.2.2.2.1 (oA.adv (by
    unfold crS
    rw [if_neg (by omega), if_neg (by omega), if_neg (by omega), if_neg (by omega), if_neg (by omega), if_pos hB])) (fun i e he => by rw [TK_ne _ _ _ (show (150 : Nat) ≠ 143 by decide)]; exact oE i e he)) rfl (by decide) rfl (Nat.le_of_ble_eq_true rfl) rfl (fun v N71 hv => ?_)
              obtain ⟨rfl, hr, hv⟩ := hv
              refine mx_goto (pc' := 19) dX8_isCurtain_74 (by decide) ?_
              rcases hv with hv | ⟨s', sp', hle, hv⟩
              · exact JF _ hv (hR1.tr hr)
              exact ih _ s' sp' (by omega) hv (hR1.tr hr)

set_option maxHeartbeats 1000000 in
set_option maxRecDepth 10000 in
theorem t_X8_isCurtain (M0 : mx_M) (L : List Nat) (hP0 : MpA M0 L) : mx_T yX8_isCurtain cX8_isCurtain 1 (some .boolean) 4 [.ref 143] M0 (fun v M' => v = some (.int (bI (crF L = (-4)))) ∧ Rd M0 M' ∧ (crF L ≠ (-4) → M' 143 9 = crF L) ∧ (crF L = (-4) → M' 143 12 = nI (crE L).length ∧ EmL (crE L) ∧ ∀ (i : Nat) (e : Em), (crE L)[i]? = some e → EmR (M' 150) (4 * i) e)) := by
  have h60 := hP0.2.1
  have JF : ∀ N : mx_M, FlM N L → Rd M0 N → mx_V cX8_isCurtain RX8 1 (some .boolean) 4 19 [some (.ref 143)] [] N (fun v M' => v = some (.int (bI (crF L = (-4)))) ∧ Rd M0 M' ∧ (crF L ≠ (-4) → M' 143 9 = crF L) ∧ (crF L = (-4) → M' 143 12 = nI (crE L).length ∧ EmL (crE L) ∧ ∀ (i : Nat) (e : Em), (crE L)[i]? = some e → EmR (M' 150) (4 * i) e)) := by
    rintro N ⟨sp, hs, h9, h10, hF⟩ hR
    refine mx_aload_n (pc' := 20) dX8_isCurtain_19 rfl rfl ?_
    refine mx_getf (pc' := 23) (v := nI 0) dX8_isCurtain_20 fl_X8_122 (rfl) (by rfl) (h10) rfl ?_
    refine mx_if_eq (tgt := 77) (pc' := 26) dX8_isCurtain_23 (by decide) rfl (fun c23 => ?_) (fun c23 => ?_)
    · refine mx_aload_n (pc' := 78) dX8_isCurtain_77 rfl rfl ?_
      refine mx_getf (pc' := 81) (v := nI 0) dX8_isCurtain_78 fl_X8_122 (rfl) (by rfl) (h10) rfl ?_
      refine mx_iret dX8_isCurtain_81 (Or.inr ⟨rfl, by decide⟩) ?_
      have hn : crF L ≠ (-4) := by rw [hF]; exact n4_ne sp (by omega)
      exact ⟨bI_rf hn, hR, fun _ => h9.trans hF.symm, fun z => absurd z hn⟩
    · exact absurd rfl c23
  refine mx_T.of1 (own := RX8) (ls := [some (.ref 143)]) (by decide +kernel) rfl (Nat.le_of_ble_eq_true rfl) rfl rfl ?_
  refine mx_aload_n (pc' := 1) dX8_isCurtain_0 rfl rfl ?_
  refine mx_iconst (pc' := 2) (v := nI 0) dX8_isCurtain_1 (by decide) rfl ?_
  refine mx_putf (pc' := 5) dX8_isCurtain_2 fl_X8_119 (rfl) (by rfl) (⟨rfl, rfl⟩) rfl ?_
  refine mx_aload_n (pc' := 6) dX8_isCurtain_5 rfl rfl ?_
  refine mx_iconst (pc' := 7) (v := nI 1) dX8_isCurtain_6 (by decide) rfl ?_
  refine mx_putf (pc' := 10) dX8_isCurtain_7 fl_X8_122 (rfl) (by rfl) (⟨by decide, by decide⟩) rfl ?_
  refine mx_aload_n (pc' := 11) dX8_isCurtain_10 rfl rfl ?_
  refine mx_iconst (pc' := 12) (v := nI 0) dX8_isCurtain_11 (by decide) rfl ?_
  refine mx_putf (pc' := 15) dX8_isCurtain_12 fl_X8_133 (rfl) (by rfl) (⟨rfl, rfl⟩) rfl ?_
  have hR := (((Rd.rf (M := M0)).o 9 (nI 0) (by decide)).o 10 (nI 1) (by decide)).o 12 (nI 0) (by decide)
  refine mx_aload_n (pc' := 16) dX8_isCurtain_15 rfl rfl ?_
  refine mx_callV (pc' := 19) dX8_isCurtain_16 cl_X8_142 (rfl) (t_X8_takesEmitter _ L (hP0.rd hR) cr0 0 rfl (Nat.le_of_ble_eq_true rfl) (fun e he => by simp [cr0] at he) (by rw [mx_up_fn, upd_ne _ _ (by decide), mx_up_fn, upd_ne _ _ (by decide)]; exact mx_up_eq _ _ _ _) (by rw [mx_up_fn, upd_ne _ _ (by decide)]; exact mx_up_eq _ _ _ _) (mx_up_eq _ _ _ _) (At.z L) (fun i e he => by simp [cr0] at he)) rfl (by decide) rfl (Nat.le_of_ble_eq_true rfl) rfl (fun v N16 hv => ?_)
  obtain ⟨rfl, hr, hv⟩ := hv
  have hR1 := hR.tr hr
  rcases hv with hv | ⟨s', sp', hle, hv⟩
  · exact JF _ hv hR1
  exact l_X8_isCurtain M0 L hP0 (L.length + 1) _ s' sp' (by omega) hv hR1

theorem stp {L : List Nat} {sp : Nat} (h : badS L = sp + badS (L.drop sp)) (hB : sgnS (hereN L sp) = true) : sp < L.length ∧ badS L = (sp + 1) + badS (L.drop (sp + 1)) := by
  have hs : sp < L.length := by
    by_cases z : sp < L.length
    · exact z
    · rw [hereN_0 (by omega)] at hB; exact absurd hB (by decide)
  obtain ⟨c, hc⟩ := get_lt hs
  rw [hereN_s hc] at hB
  rw [drop_cons hc] at h
  have : badS (c :: L.drop (sp + 1)) = badS (L.drop (sp + 1)) + 1 := if_pos hB
  exact ⟨hs, by omega⟩
theorem stq {L : List Nat} {sp : Nat} (h : badS L = sp + badS (L.drop sp)) (h0 : sp ≤ L.length ∧ (sp = 0 ∨ sp < L.length)) (hB : ¬ sgnS (hereN L sp) = true) : stF L = nI sp := by
  by_cases hs : sp < L.length
  · obtain ⟨c, hc⟩ := get_lt hs
    rw [hereN_s hc] at hB
    rw [drop_cons hc] at h
    have : badS (c :: L.drop (sp + 1)) = 0 := if_neg hB
    have e : badS L = sp := by omega
    unfold stF
    rw [e, if_pos hs]
  · have e : L.length = 0 := by omega
    unfold stF
    rw [if_neg (by omega), if_pos e]
    congr 1; omega
theorem std {L : List Nat} {sp : Nat} (h : badS L = sp + badS (L.drop sp)) (h1 : L.length ≤ sp) (h2 : sp ≤ L.length) (h0 : sp ≠ 0) : stF L = (-4) := by
  unfold stF
  rw [if_neg (by omega), if_neg (by omega)]
set_option maxHeartbeats 1000000 in
set_option maxRecDepth 10000 in
theorem l_X8_areSteps (M0 : mx_M) (L : List Nat) (hP0 : MpA M0 L) : ∀ (k : Nat) (M1 : mx_M) (sp : Nat), L.length < sp + k → sp ≤ L.length → M1 143 9 = nI sp → M1 143 10 = nI 1 → badS L = sp + badS (L.drop sp) → Rd M0 M1 → mx_V cX8_areSteps RX8 1 (some .boolean) 3 10 [some (.ref 143)] [] M1 (fun v M' => v = some (.int (bI (stF L = (-4)))) ∧ Rd M0 M' ∧ (stF L ≠ (-4) → M' 143 9 = stF L)) := by
  have h60 := hP0.2.1
  have JS : ∀ (N : mx_M) (sp : Nat), sp ≤ 60 → N 143 9 = nI sp → N 143 10 = nI 0 → stF L = nI sp → Rd M0 N → mx_V cX8_areSteps RX8 1 (some .boolean) 3 10 [some (.ref 143)] [] N (fun v M' => v = some (.int (bI (stF L = (-4)))) ∧ Rd M0 M' ∧ (stF L ≠ (-4) → M' 143 9 = stF L)) := by
    intro N sp hs h9 h10 hF hR
    refine mx_aload_n (pc' := 11) dX8_areSteps_10 rfl rfl ?_
    refine mx_getf (pc' := 14) (v := nI 0) dX8_areSteps_11 fl_X8_122 (rfl) (by rfl) (h10) rfl ?_
    refine mx_if_eq (tgt := 83) (pc' := 17) dX8_areSteps_14 (by decide) rfl (fun c14 => ?_) (fun c14 => ?_)
    · refine mx_aload_n (pc' := 84) dX8_areSteps_83 rfl rfl ?_
      refine mx_getf (pc' := 87) (v := nI 0) dX8_areSteps_84 fl_X8_122 (rfl) (by rfl) (h10) rfl ?_
      refine mx_iret dX8_areSteps_87 (Or.inr ⟨rfl, by decide⟩) ?_
      have hn : stF L ≠ (-4) := by rw [hF]; exact n4_ne sp (by omega)
      exact ⟨bI_rf hn, hR, fun _ => h9.trans hF.symm⟩
    · exact absurd rfl c14
  intro k
  induction k with
  | zero =>
    intro M1 sp hk hsp o9 o10 hb hR
    exact absurd hk (by omega)
  | succ k ih =>
    intro M1 sp hk hsp o9 o10 hb hR
    have hP := hP0.rd hR
    have hcl := hereN_lt hP0.2.2.1 sp
    refine mx_aload_n (pc' := 11) dX8_areSteps_10 rfl rfl ?_
    refine mx_getf (pc' := 14) (v := nI 1) dX8_areSteps_11 fl_X8_122 (rfl) (by rfl) (o10) rfl ?_
    refine mx_if_eq (tgt := 83) (pc' := 17) dX8_areSteps_14 (by decide) rfl (fun c14 => ?_) (fun c14 => ?_)
    · exact absurd c14 (by decide)
    · refine mx_aload_n (pc' := 18) dX8_areSteps_17 rfl rfl ?_
      refine mx_getf (pc' := 21) (v := nI sp) dX8_areSteps_18 fl_X8_119 (rfl) (by rfl) (o9) rfl ?_
      refine mx_if_eq (tgt := 35) (pc' := 24) dX8_areSteps_21 (by decide) rfl (fun c21 => ?_) (fun c21 => ?_)
      · have c21 : sp = 0 := (nI_eq (a := sp) (b := 0) (by omega) (by omega)).mp c21
        have h0 : sp ≤ L.length ∧ (sp = 0 ∨ sp < L.length) := by omega
        refine mx_aload_n (pc' := 36) dX8_areSteps_35 rfl rfl ?_
        refine mx_aload_n (pc' := 37) dX8_areSteps_36 rfl rfl ?_
        refine mx_callV (pc' := 40) dX8_areSteps_37 cl_X8_126 (rfl) (t_X8_here M1 L hP sp o9 (by omega)) rfl (by decide) rfl (Nat.le_of_ble_eq_true rfl) rfl (fun v N37 hv => ?_)
        obtain ⟨rfl, hv⟩ := hv
        rw [hv]
        refine mx_bipush (pc' := 42) (v := nI 108) dX8_areSteps_40 (by decide) rfl ?_
        refine mx_icmp_eq (tgt := 72) (pc' := 45) dX8_areSteps_42 (by decide) rfl (fun c42 => ?_) (fun c42 => ?_)
        · have c42 := (nI_eq (by omega) (by omega)).mp c42
          have hB : sgnS (hereN L sp) = true := by unfold sgnS; exact decide_eq_true (by omega)
          refine mx_iconst (pc' := 73) (v := nI 1) dX8_areSteps_72 (by decide) rfl ?_
          refine mx_goto (pc' := 77) dX8_areSteps_73 (by decide) ?_
          rw [bI_t hB]
          refine mx_callV (pc' := 80) dX8_areSteps_77 cl_X8_129 (rfl) (t_X8_takes M1 sp o9 True (o10.trans (bI_t trivial)) (sgnS (hereN L sp) = true)) rfl (by decide) rfl (Nat.le_of_ble_eq_true rfl) rfl (fun v N77 hv => ?_)
          obtain ⟨rfl, rfl⟩ := hv
          have hR1 := hR.tk (True ∧ sgnS (hereN L sp) = true) sp
          refine mx_goto (pc' := 10) dX8_areSteps_80 (by decide) ?_
          obtain ⟨b1', b2'⟩ := stp hb hB
          exact ih _ (sp + 1) (by omega) (by omega) ((TK_9 _ _ _).trans (congrArg nI (by rw [b1_t ⟨trivial, hB⟩]))) ((TK_10 _ _ _).trans (bI_t ⟨trivial, hB⟩).symm) b2' hR1
        · have c42 : ¬ _ := fun z => c42 ((nI_eq (by omega) (by omega)).mpr z)
          refine mx_aload_n (pc' := 46) dX8_areSteps_45 rfl rfl ?_
          refine mx_callV (pc' := 49) dX8_areSteps_46 cl_X8_126 (rfl) (t_X8_here M1 L hP sp o9 (by omega)) rfl (by decide) rfl (Nat.le_of_ble_eq_true rfl) rfl (fun v N46 hv => ?_)
          obtain ⟨rfl, hv⟩ := hv
          rw [hv]
          refine mx_bipush (pc' := 51) (v := nI 115) dX8_areSteps_49 (by decide) rfl ?_
          refine mx_icmp_eq (tgt := 72) (pc' := 54) dX8_areSteps_51 (by decide) rfl (fun c51 => ?_) (fun c51 => ?_)
          · have c51 := (nI_eq (by omega) (by omega)).mp c51
            have hB : sgnS (hereN L sp) = true := by unfold sgnS; exact decide_eq_true (by omega)
            refine mx_iconst (pc' := 73) (v := nI 1) dX8_areSteps_72 (by decide) rfl ?_
            refine mx_goto (pc' := 77) dX8_areSteps_73 (by decide) ?_
            rw [bI_t hB]
            refine mx_callV (pc' := 80) dX8_areSteps_77 cl_X8_129 (rfl) (t_X8_takes M1 sp o9 True (o10.trans (bI_t trivial)) (sgnS (hereN L sp) = true)) rfl (by decide) rfl (Nat.le_of_ble_eq_true rfl) rfl (fun v N77 hv => ?_)
            obtain ⟨rfl, rfl⟩ := hv
            have hR1 := hR.tk (True ∧ sgnS (hereN L sp) = true) sp
            refine mx_goto (pc' := 10) dX8_areSteps_80 (by decide) ?_
            obtain ⟨b1', b2'⟩ := stp hb hB
            exact ih _ (sp + 1) (by omega) (by omega) ((TK_9 _ _ _).trans (congrArg nI (by rw [b1_t ⟨trivial, hB⟩]))) ((TK_10 _ _ _).trans (bI_t ⟨trivial, hB⟩).symm) b2' hR1
          · have c51 : ¬ _ := fun z => c51 ((nI_eq (by omega) (by omega)).mpr z)
            refine mx_aload_n (pc' := 55) dX8_areSteps_54 rfl rfl ?_
            refine mx_callV (pc' := 58) dX8_areSteps_55 cl_X8_126 (rfl) (t_X8_here M1 L hP sp o9 (by omega)) rfl (by decide) rfl (Nat.le_of_ble_eq_true rfl) rfl (fun v N55 hv => ?_)
            obtain ⟨rfl, hv⟩ := hv
            rw [hv]
            refine mx_bipush (pc' := 60) (v := nI 114) dX8_areSteps_58 (by decide) rfl ?_
            refine mx_icmp_eq (tgt := 72) (pc' := 63) dX8_areSteps_60 (by decide) rfl (fun c60 => ?_) (fun c60 => ?_)
            · have c60 := (nI_eq (by omega) (by omega)).mp c60
              have hB : sgnS (hereN L sp) = true := by unfold sgnS; exact decide_eq_true (by omega)
              refine mx_iconst (pc' := 73) (v := nI 1) dX8_areSteps_72 (by decide) rfl ?_
              refine mx_goto (pc' := 77) dX8_areSteps_73 (by decide) ?_
              rw [bI_t hB]
              refine mx_callV (pc' := 80) dX8_areSteps_77 cl_X8_129 (rfl) (t_X8_takes M1 sp o9 True (o10.trans (bI_t trivial)) (sgnS (hereN L sp) = true)) rfl (by decide) rfl (Nat.le_of_ble_eq_true rfl) rfl (fun v N77 hv => ?_)
              obtain ⟨rfl, rfl⟩ := hv
              have hR1 := hR.tk (True ∧ sgnS (hereN L sp) = true) sp
              refine mx_goto (pc' := 10) dX8_areSteps_80 (by decide) ?_
              obtain ⟨b1', b2'⟩ := stp hb hB
              exact ih _ (sp + 1) (by omega) (by omega) ((TK_9 _ _ _).trans (congrArg nI (by rw [b1_t ⟨trivial, hB⟩]))) ((TK_10 _ _ _).trans (bI_t ⟨trivial, hB⟩).symm) b2' hR1
            · have c60 : ¬ _ := fun z => c60 ((nI_eq (by omega) (by omega)).mpr z)
              refine mx_aload_n (pc' := 64) dX8_areSteps_63 rfl rfl ?_
              refine mx_callV (pc' := 67) dX8_areSteps_64 cl_X8_126 (rfl) (t_X8_here M1 L hP sp o9 (by omega)) rfl (by decide) rfl (Nat.le_of_ble_eq_true rfl) rfl (fun v N64 hv => ?_)
              obtain ⟨rfl, hv⟩ := hv
              rw [hv]
              refine mx_bipush (pc' := 69) (v := nI 98) dX8_areSteps_67 (by decide) rfl ?_
              refine mx_icmp_ne (tgt := 76) (pc' := 72) dX8_areSteps_69 (by decide) rfl (fun c69 => ?_) (fun c69 => ?_)
              · have c69 : ¬ _ := fun z => c69 ((nI_eq (by omega) (by omega)).mpr z)
                refine mx_iconst (pc' := 77) (v := nI 0) dX8_areSteps_76 (by decide) rfl ?_
                have hB : ¬ sgnS (hereN L sp) = true := by unfold sgnS; rw [decide_eq_true_iff]; omega
                rw [bI_f hB]
                refine mx_callV (pc' := 80) dX8_areSteps_77 cl_X8_129 (rfl) (t_X8_takes M1 sp o9 True (o10.trans (bI_t trivial)) (sgnS (hereN L sp) = true)) rfl (by decide) rfl (Nat.le_of_ble_eq_true rfl) rfl (fun v N77 hv => ?_)
                obtain ⟨rfl, rfl⟩ := hv
                have hR1 := hR.tk (True ∧ sgnS (hereN L sp) = true) sp
                refine mx_goto (pc' := 10) dX8_areSteps_80 (by decide) ?_
                exact JS _ sp (by omega) ((TK_9 _ _ _).trans (congrArg nI (by rw [b1_f (fun z => hB z.2)]; rfl))) ((TK_10 _ _ _).trans (bI_f (fun z => hB z.2)).symm) (stq hb h0 hB) hR1
              · have c69 := (nI_eq (by omega) (by omega)).mp c69
                have hB : sgnS (hereN L sp) = true := by unfold sgnS; exact decide_eq_true (by omega)
                refine mx_iconst (pc' := 73) (v := nI 1) dX8_areSteps_72 (by decide) rfl ?_
                refine mx_goto (pc' := 77) dX8_areSteps_73 (by decide) ?_
                rw [bI_t hB]
                refine mx_callV (pc' := 80) dX8_areSteps_77 cl_X8_129 (rfl) (t_X8_takes M1 sp o9 True (o10.trans (bI_t trivial)) (sgnS (hereN L sp) = true)) rfl (by decide) rfl (Nat.le_of_ble_eq_true rfl) rfl (fun v N77 hv => ?_)
                obtain ⟨rfl, rfl⟩ := hv
                have hR1 := hR.tk (True ∧ sgnS (hereN L sp) = true) sp
                refine mx_goto (pc' := 10) dX8_areSteps_80 (by decide) ?_
                obtain ⟨b1', b2'⟩ := stp hb hB
                exact ih _ (sp + 1) (by omega) (by omega) ((TK_9 _ _ _).trans (congrArg nI (by rw [b1_t ⟨trivial, hB⟩]))) ((TK_10 _ _ _).trans (bI_t ⟨trivial, hB⟩).symm) b2' hR1
      · have c21 : sp ≠ 0 := fun z => c21 (by rw [z]; rfl)
        refine mx_aload_n (pc' := 25) dX8_areSteps_24 rfl rfl ?_
        refine mx_getf (pc' := 28) (v := nI sp) dX8_areSteps_25 fl_X8_119 (rfl) (by rfl) (o9) rfl ?_
        refine mx_aload_n (pc' := 29) dX8_areSteps_28 rfl rfl ?_
        refine mx_getf (pc' := 32) (v := nI L.length) dX8_areSteps_29 fl_X8_116 (rfl) (by rfl) (hP.1) rfl ?_
        refine mx_icmp_ge (tgt := 83) (pc' := 35) dX8_areSteps_32 (by decide) rfl (fun c32 => ?_) (fun c32 => ?_)
        · have c32 := (nI_leI (by omega) (by omega)).mp c32
          refine mx_aload_n (pc' := 84) dX8_areSteps_83 rfl rfl ?_
          refine mx_getf (pc' := 87) (v := nI 1) dX8_areSteps_84 fl_X8_122 (rfl) (by rfl) (o10) rfl ?_
          refine mx_iret dX8_areSteps_87 (Or.inr ⟨rfl, by decide⟩) ?_
          have hF := std hb c32 hsp c21
          exact ⟨bI_rt hF, hR, fun z => absurd hF z⟩
        · have c32 := Nat.not_le.mp (fun z => c32 ((nI_leI (by omega) (by omega)).mpr z))
          have h0 : sp ≤ L.length ∧ (sp = 0 ∨ sp < L.length) := by omega
          refine mx_aload_n (pc' := 36) dX8_areSteps_35 rfl rfl ?_
          refine mx_aload_n (pc' := 37) dX8_areSteps_36 rfl rfl ?_
          refine mx_callV (pc' := 40) dX8_areSteps_37 cl_X8_126 (rfl) (t_X8_here M1 L hP sp o9 (by omega)) rfl (by decide) rfl (Nat.le_of_ble_eq_true rfl) rfl (fun v N37 hv => ?_)
          obtain ⟨rfl, hv⟩ := hv
          rw [hv]
          refine mx_bipush (pc' := 42) (v := nI 108) dX8_areSteps_40 (by decide) rfl ?_
          refine mx_icmp_eq (tgt := 72) (pc' := 45) dX8_areSteps_42 (by decide) rfl (fun c42 => ?_) (fun c42 => ?_)
          · have c42 := (nI_eq (by omega) (by omega)).mp c42
            have hB : sgnS (hereN L sp) = true := by unfold sgnS; exact decide_eq_true (by omega)
            refine mx_iconst (pc' := 73) (v := nI 1) dX8_areSteps_72 (by decide) rfl ?_
            refine mx_goto (pc' := 77) dX8_areSteps_73 (by decide) ?_
            rw [bI_t hB]
            refine mx_callV (pc' := 80) dX8_areSteps_77 cl_X8_129 (rfl) (t_X8_takes M1 sp o9 True (o10.trans (bI_t trivial)) (sgnS (hereN L sp) = true)) rfl (by decide) rfl (Nat.le_of_ble_eq_true rfl) rfl (fun v N77 hv => ?_)
            obtain ⟨rfl, rfl⟩ := hv
            have hR1 := hR.tk (True ∧ sgnS (hereN L sp) = true) sp
            refine mx_goto (pc' := 10) dX8_areSteps_80 (by decide) ?_
            obtain ⟨b1', b2'⟩ := stp hb hB
            exact ih _ (sp + 1) (by omega) (by omega) ((TK_9 _ _ _).trans (congrArg nI (by rw [b1_t ⟨trivial, hB⟩]))) ((TK_10 _ _ _).trans (bI_t ⟨trivial, hB⟩).symm) b2' hR1
          · have c42 : ¬ _ := fun z => c42 ((nI_eq (by omega) (by omega)).mpr z)
            refine mx_aload_n (pc' := 46) dX8_areSteps_45 rfl rfl ?_
            refine mx_callV (pc' := 49) dX8_areSteps_46 cl_X8_126 (rfl) (t_X8_here M1 L hP sp o9 (by omega)) rfl (by decide) rfl (Nat.le_of_ble_eq_true rfl) rfl (fun v N46 hv => ?_)
            obtain ⟨rfl, hv⟩ := hv
            rw [hv]
            refine mx_bipush (pc' := 51) (v := nI 115) dX8_areSteps_49 (by decide) rfl ?_
            refine mx_icmp_eq (tgt := 72) (pc' := 54) dX8_areSteps_51 (by decide) rfl (fun c51 => ?_) (fun c51 => ?_)
            · have c51 := (nI_eq (by omega) (by omega)).mp c51
              have hB : sgnS (hereN L sp) = true := by unfold sgnS; exact decide_eq_true (by omega)
              refine mx_iconst (pc' := 73) (v := nI 1) dX8_areSteps_72 (by decide) rfl ?_
              refine mx_goto (pc' := 77) dX8_areSteps_73 (by decide) ?_
              rw [bI_t hB]
              refine mx_callV (pc' := 80) dX8_areSteps_77 cl_X8_129 (rfl) (t_X8_takes M1 sp o9 True (o10.trans (bI_t trivial)) (sgnS (hereN L sp) = true)) rfl (by decide) rfl (Nat.le_of_ble_eq_true rfl) rfl (fun v N77 hv => ?_)
              obtain ⟨rfl, rfl⟩ := hv
              have hR1 := hR.tk (True ∧ sgnS (hereN L sp) = true) sp
              refine mx_goto (pc' := 10) dX8_areSteps_80 (by decide) ?_
              obtain ⟨b1', b2'⟩ := stp hb hB
              exact ih _ (sp + 1) (by omega) (by omega) ((TK_9 _ _ _).trans (congrArg nI (by rw [b1_t ⟨trivial, hB⟩]))) ((TK_10 _ _ _).trans (bI_t ⟨trivial, hB⟩).symm) b2' hR1
            · have c51 : ¬ _ := fun z => c51 ((nI_eq (by omega) (by omega)).mpr z)
              refine mx_aload_n (pc' := 55) dX8_areSteps_54 rfl rfl ?_
              refine mx_callV (pc' := 58) dX8_areSteps_55 cl_X8_126 (rfl) (t_X8_here M1 L hP sp o9 (by omega)) rfl (by decide) rfl (Nat.le_of_ble_eq_true rfl) rfl (fun v N55 hv => ?_)
              obtain ⟨rfl, hv⟩ := hv
              rw [hv]
              refine mx_bipush (pc' := 60) (v := nI 114) dX8_areSteps_58 (by decide) rfl ?_
              refine mx_icmp_eq (tgt := 72) (pc' := 63) dX8_areSteps_60 (by decide) rfl (fun c60 => ?_) (fun c60 => ?_)
              · have c60 := (nI_eq (by omega) (by omega)).mp c60
                have hB : sgnS (hereN L sp) = true := by unfold sgnS; exact decide_eq_true (by omega)
                refine mx_iconst (pc' := 73) (v := nI 1) dX8_areSteps_72 (by decide) rfl ?_
                refine mx_goto (pc' := 77) dX8_areSteps_73 (by decide) ?_
                rw [bI_t hB]
                refine mx_callV (pc' := 80) dX8_areSteps_77 cl_X8_129 (rfl) (t_X8_takes M1 sp o9 True (o10.trans (bI_t trivial)) (sgnS (hereN L sp) = true)) rfl (by decide) rfl (Nat.le_of_ble_eq_true rfl) rfl (fun v N77 hv => ?_)
                obtain ⟨rfl, rfl⟩ := hv
                have hR1 := hR.tk (True ∧ sgnS (hereN L sp) = true) sp
                refine mx_goto (pc' := 10) dX8_areSteps_80 (by decide) ?_
                obtain ⟨b1', b2'⟩ := stp hb hB
                exact ih _ (sp + 1) (by omega) (by omega) ((TK_9 _ _ _).trans (congrArg nI (by rw [b1_t ⟨trivial, hB⟩]))) ((TK_10 _ _ _).trans (bI_t ⟨trivial, hB⟩).symm) b2' hR1
              · have c60 : ¬ _ := fun z => c60 ((nI_eq (by omega) (by omega)).mpr z)
                refine mx_aload_n (pc' := 64) dX8_areSteps_63 rfl rfl ?_
                refine mx_callV (pc' := 67) dX8_areSteps_64 cl_X8_126 (rfl) (t_X8_here M1 L hP sp o9 (by omega)) rfl (by decide) rfl (Nat.le_of_ble_eq_true rfl) rfl (fun v N64 hv => ?_)
                obtain ⟨rfl, hv⟩ := hv
                rw [hv]
                refine mx_bipush (pc' := 69) (v := nI 98) dX8_areSteps_67 (by decide) rfl ?_
                refine mx_icmp_ne (tgt := 76) (pc' := 72) dX8_areSteps_69 (by decide) rfl (fun c69 => ?_) (fun c69 => ?_)
                · have c69 : ¬ _ := fun z => c69 ((nI_eq (by omega) (by omega)).mpr z)
                  refine mx_iconst (pc' := 77) (v := nI 0) dX8_areSteps_76 (by decide) rfl ?_
                  have hB : ¬ sgnS (hereN L sp) = true := by unfold sgnS; rw [decide_eq_true_iff]; omega
                  rw [bI_f hB]
                  refine mx_callV (pc' := 80) dX8_areSteps_77 cl_X8_129 (rfl) (t_X8_takes M1 sp o9 True (o10.trans (bI_t trivial)) (sgnS (hereN L sp) = true)) rfl (by decide) rfl (Nat.le_of_ble_eq_true rfl) rfl (fun v N77 hv => ?_)
                  obtain ⟨rfl, rfl⟩ := hv
                  have hR1 := hR.tk (True ∧ sgnS (hereN L sp) = true) sp
                  refine mx_goto (pc' := 10) dX8_areSteps_80 (by decide) ?_
                  exact JS _ sp (by omega) ((TK_9 _ _ _).trans (congrArg nI (by rw [b1_f (fun z => hB z.2)]; rfl))) ((TK_10 _ _ _).trans (bI_f (fun z => hB z.2)).symm) (stq hb h0 hB) hR1
                · have c69 := (nI_eq (by omega) (by omega)).mp c69
                  have hB : sgnS (hereN L sp) = true := by unfold sgnS; exact decide_eq_true (by omega)
                  refine mx_iconst (pc' := 73) (v := nI 1) dX8_areSteps_72 (by decide) rfl ?_
                  refine mx_goto (pc' := 77) dX8_areSteps_73 (by decide) ?_
                  rw [bI_t hB]
                  refine mx_callV (pc' := 80) dX8_areSteps_77 cl_X8_129 (rfl) (t_X8_takes M1 sp o9 True (o10.trans (bI_t trivial)) (sgnS (hereN L sp) = true)) rfl (by decide) rfl (Nat.le_of_ble_eq_true rfl) rfl (fun v N77 hv => ?_)
                  obtain ⟨rfl, rfl⟩ := hv
                  have hR1 := hR.tk (True ∧ sgnS (hereN L sp) = true) sp
                  refine mx_goto (pc' := 10) dX8_areSteps_80 (by decide) ?_
                  obtain ⟨b1', b2'⟩ := stp hb hB
                  exact ih _ (sp + 1) (by omega) (by omega) ((TK_9 _ _ _).trans (congrArg nI (by rw [b1_t ⟨trivial, hB⟩]))) ((TK_10 _ _ _).trans (bI_t ⟨trivial, hB⟩).symm) b2' hR1

set_option maxHeartbeats 1000000 in
set_option maxRecDepth 10000 in
theorem t_X8_areSteps (M0 : mx_M) (L : List Nat) (hP0 : MpA M0 L) : mx_T yX8_areSteps cX8_areSteps 1 (some .boolean) 3 [.ref 143] M0 (fun v M' => v = some (.int (bI (stF L = (-4)))) ∧ Rd M0 M' ∧ (stF L ≠ (-4) → M' 143 9 = stF L)) := by
  refine mx_T.of1 (own := RX8) (ls := [some (.ref 143)]) (by decide +kernel) rfl (Nat.le_of_ble_eq_true rfl) rfl rfl ?_
  refine mx_aload_n (pc' := 1) dX8_areSteps_0 rfl rfl ?_
  refine mx_iconst (pc' := 2) (v := nI 0) dX8_areSteps_1 (by decide) rfl ?_
  refine mx_putf (pc' := 5) dX8_areSteps_2 fl_X8_119 (rfl) (by rfl) (⟨rfl, rfl⟩) rfl ?_
  refine mx_aload_n (pc' := 6) dX8_areSteps_5 rfl rfl ?_
  refine mx_iconst (pc' := 7) (v := nI 1) dX8_areSteps_6 (by decide) rfl ?_
  refine mx_putf (pc' := 10) dX8_areSteps_7 fl_X8_122 (rfl) (by rfl) (⟨by decide, by decide⟩) rfl ?_
  have hR := ((Rd.rf (M := M0)).o 9 (nI 0) (by decide)).o 10 (nI 1) (by decide)
  exact l_X8_areSteps M0 L hP0 (L.length + 1) _ 0 (by omega) (Nat.zero_le _) (by rw [mx_up_fn, upd_ne _ _ (by decide)]; exact mx_up_eq _ _ _ _) (mx_up_eq _ _ _ _) (by rw [List.drop_zero, Nat.zero_add]) hR

