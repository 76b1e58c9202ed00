theorem take_snoc {α : Type} {L : List α} {i : Nat} {x : α} (h : L[i]? = some x) : L.take (i + 1) = L.take i ++ [x] := by
  rw [List.take_add_one, h]; rfl
theorem get_lt {α : Type} {L : List α} {i : Nat} (h : i < L.length) : ∃ x, L[i]? = some x := ⟨_, List.getElem?_eq_getElem h⟩
theorem len_lt {α : Type} {L : List α} {i : Nat} {x : α} (h : L[i]? = some x) : i < L.length := (List.getElem?_eq_some_iff.mp h).1
theorem take_len {α : Type} {L : List α} {i : Nat} (h : L.length ≤ i) : L.take i = L := List.take_of_length_le h
theorem BuP.at {M : mx_M} {b : Nat} {L : List Bu} (h : BuP M b 0 L) {i : Nat} {x : Bu} (hx : L[i]? = some x) : BuW M b i x := by
  have := h i x hx
  rwa [Nat.zero_add] at this
set_option maxHeartbeats 1000000 in
set_option maxRecDepth 10000 in
theorem t_X0_add (M : mx_M) (b : Nat) (hs : BuS b) (L : List Bu) (hA : BuA M b L) (c d w : Nat) (hc : c < 10) (hd : d < 3) (hw : w < 2) : mx_T yX0_add cX0_add 4 (some .boolean) 1 [.ref b, .int (nI c), .int (dr d), .int (nI w)] M (fun v M' => (L.length < 60 → v = some (.int (nI 1)) ∧ BuA M' b (L ++ [(0, c, d, w, 0)]) ∧ Out M M' b (b + 6)) ∧ (¬ L.length < 60 → v = some (.int (nI 0)) ∧ M' = M)) := by
  obtain ⟨s0, s1, s2, s3, s4, s5⟩ := hs
  obtain ⟨hn, hL, hP⟩ := hA
  have h60 := hL.1
  refine mx_T.of1 (own := RX0) (ls := [some (.ref b), some (.int (nI c)), some (.int (dr d)), some (.int (nI w))]) (by decide +kernel) rfl (Nat.le_of_ble_eq_true rfl) rfl rfl ?_
  refine mx_aload_n (pc' := 1) dX0_add_0 rfl rfl ?_
  refine mx_getf (pc' := 4) (v := nI L.length) dX0_add_1 fl_X0_28 (by assumption) (by rfl) (hn) rfl ?_
  refine mx_bipush (pc' := 6) (v := nI 60) dX0_add_4 (by decide) rfl ?_
  refine mx_icmp_lt (tgt := 11) (pc' := 9) dX0_add_6 (by decide) rfl (fun c6 => ?_) (fun c6 => ?_)
  · have c6 := (nI_ltI (by omega) (by omega)).mp c6
    refine mx_aload_n (pc' := 12) dX0_add_11 rfl rfl ?_
    refine mx_getr (pc' := 15) dX0_add_12 fl_X0_9 (by assumption) (by rfl) rfl ?_
    refine mx_aload_n (pc' := 16) dX0_add_15 rfl rfl ?_
    refine mx_getf (pc' := 19) (v := nI L.length) dX0_add_16 fl_X0_28 (by assumption) (by rfl) (hn) rfl ?_
    refine mx_iconst (pc' := 20) (v := nI 0) dX0_add_19 (by decide) rfl ?_
    refine mx_iast (pc' := 21) dX0_add_20 (by assumption) (rfl) (by omega) rfl ?_
    refine mx_aload_n (pc' := 22) dX0_add_21 rfl rfl ?_
    refine mx_getr (pc' := 25) dX0_add_22 fl_X0_15 (by assumption) (by rfl) rfl ?_
    refine mx_aload_n (pc' := 26) dX0_add_25 rfl rfl ?_
    refine mx_getf (pc' := 29) (v := nI L.length) dX0_add_26 fl_X0_28 (by assumption) (by rfl) (((by simp only [mx_up]; repeat rw [if_neg (by omega)]) : _ = M b 5).trans hn) rfl ?_
    refine mx_iload_n (pc' := 30) dX0_add_29 rfl rfl ?_
    refine mx_iast (pc' := 31) dX0_add_30 (by assumption) (rfl) (by omega) rfl ?_
    refine mx_aload_n (pc' := 32) dX0_add_31 rfl rfl ?_
    refine mx_getr (pc' := 35) dX0_add_32 fl_X0_18 (by assumption) (by rfl) rfl ?_
    refine mx_aload_n (pc' := 36) dX0_add_35 rfl rfl ?_
    refine mx_getf (pc' := 39) (v := nI L.length) dX0_add_36 fl_X0_28 (by assumption) (by rfl) (((by simp only [mx_up]; repeat rw [if_neg (by omega)]) : _ = M b 5).trans hn) rfl ?_
    refine mx_iload_n (pc' := 40) dX0_add_39 rfl rfl ?_
    refine mx_iast (pc' := 41) dX0_add_40 (by assumption) (rfl) (by omega) rfl ?_
    refine mx_aload_n (pc' := 42) dX0_add_41 rfl rfl ?_
    refine mx_getr (pc' := 45) dX0_add_42 fl_X0_21 (by assumption) (by rfl) rfl ?_
    refine mx_aload_n (pc' := 46) dX0_add_45 rfl rfl ?_
    refine mx_getf (pc' := 49) (v := nI L.length) dX0_add_46 fl_X0_28 (by assumption) (by rfl) (((by simp only [mx_up]; repeat rw [if_neg (by omega)]) : _ = M b 5).trans hn) rfl ?_
    refine mx_iload_n (pc' := 50) dX0_add_49 rfl rfl ?_
    refine mx_bast (pc' := 51) dX0_add_50 (by assumption) (rfl) (by omega) (nI_vb hw) rfl ?_
    refine mx_aload_n (pc' := 52) dX0_add_51 rfl rfl ?_
    refine mx_getr (pc' := 55) dX0_add_52 fl_X0_25 (by assumption) (by rfl) rfl ?_
    refine mx_aload_n (pc' := 56) dX0_add_55 rfl rfl ?_
    refine mx_getf (pc' := 59) (v := nI L.length) dX0_add_56 fl_X0_28 (by assumption) (by rfl) (((by simp only [mx_up]; repeat rw [if_neg (by omega)]) : _ = M b 5).trans hn) rfl ?_
    refine mx_iconst (pc' := 60) (v := nI 0) dX0_add_59 (by decide) rfl ?_
    refine mx_bast (pc' := 61) dX0_add_60 (by assumption) (rfl) (by omega) (by decide) rfl ?_
    refine mx_aload_n (pc' := 62) dX0_add_61 rfl rfl ?_
    refine mx_dup (pc' := 63) dX0_add_62 rfl rfl ?_
    refine mx_getf (pc' := 66) (v := nI L.length) dX0_add_63 fl_X0_28 (by assumption) (by rfl) (((by simp only [mx_up]; repeat rw [if_neg (by omega)]) : _ = M b 5).trans hn) rfl ?_
    refine mx_iconst (pc' := 67) (v := nI 1) dX0_add_66 (by decide) rfl ?_
    refine mx_iadd (pc' := 68) (v := nI (L.length + 1)) dX0_add_67 (nI_add _ 1) rfl ?_
    refine mx_putf (pc' := 71) dX0_add_68 fl_X0_28 (by assumption) (by rfl) (⟨rfl, rfl⟩) rfl ?_
    refine mx_iconst (pc' := 72) (v := nI 1) dX0_add_71 (by decide) rfl ?_
    refine mx_iret dX0_add_72 (Or.inr ⟨rfl, by decide⟩) ?_
    refine ⟨fun _ => ⟨rfl, ⟨by simp [mx_up], ⟨by simp; omega, fun x hx => ?_⟩, BuP.snoc (hP.fr fun q j h1 h2 h3 h4 => ?_) ⟨by simp [mx_up], by simp [mx_up], by simp [mx_up], by simp [mx_up], by simp [mx_up]⟩⟩, (by repeat (first | exact Out.rf | assumption | refine Out.up ?_ (by omega) (by omega)))⟩, fun h => absurd c6 h⟩
    · rcases List.mem_append.mp hx with hx | hx
      · exact hL.2 x hx
      · rw [List.mem_singleton.mp hx]
        exact ⟨Nat.zero_lt_succ _, hc, hd, hw, Nat.zero_lt_succ _⟩
    · simp [mx_up, show j ≠ L.length by omega, show q ≠ b by omega]
  · have c6 := Nat.not_lt.mp (fun z => c6 ((nI_ltI (by omega) (by omega)).mpr z))
    refine mx_iconst (pc' := 10) (v := nI 0) dX0_add_9 (by decide) rfl ?_
    refine mx_iret dX0_add_10 (Or.inr ⟨rfl, by decide⟩) ?_
    exact ⟨fun h => absurd h (by omega), fun _ => ⟨rfl, rfl⟩⟩

set_option maxHeartbeats 1000000 in
set_option maxRecDepth 10000 in
theorem l_X0_copyFrom (M : mx_M) (b b' : Nat) (hs : BuS b) (hs' : BuS b') (hb : b + 6 ≤ b' ∨ b' + 6 ≤ b) (L : List Bu) (hL : BuL L) (hP : BuP M b' 0 L) : ∀ (k : Nat) (i : Nat) (M1 : mx_M), L.length < i + k → i ≤ L.length → M1 b 5 = nI L.length → BuP M1 b 0 (L.take i) → Out M M1 b (b + 6) → mx_V cX0_copyFrom RX0 3 none 2 10 [some (.ref b), some (.ref b'), some (.int (nI i))] [] M1 (fun v M' => v = none ∧ BuA M' b L ∧ Out M M' b (b + 6)) := by
  obtain ⟨s0, s1, s2, s3, s4, s5⟩ := hs
  have h60 := hL.1
  intro k
  induction k with
  | zero =>
    intro i M1 hk hi hn hP1 hO
    exact absurd hk (by omega)
  | succ k ih =>
    intro i M1 hk hi hn hP1 hO
    refine mx_iload_n (pc' := 11) dX0_copyFrom_10 rfl rfl ?_
    refine mx_aload_n (pc' := 12) dX0_copyFrom_11 rfl rfl ?_
    refine mx_getf (pc' := 15) (v := nI L.length) dX0_copyFrom_12 fl_X0_28 (by assumption) (by rfl) (hn) rfl ?_
    refine mx_icmp_ge (tgt := 31) (pc' := 18) dX0_copyFrom_15 (by decide) rfl (fun c15 => ?_) (fun c15 => ?_)
    · have c15 := (nI_leI (by omega) (by omega)).mp c15
      refine mx_vret dX0_copyFrom_31 rfl ?_
      exact ⟨rfl, ⟨hn, hL, by rw [← take_len c15]; exact hP1⟩, hO⟩
    · have c15 := Nat.not_le.mp (fun z => c15 ((nI_leI (by omega) (by omega)).mpr z))
      obtain ⟨x, hx⟩ := get_lt c15
      refine mx_aload_n (pc' := 19) dX0_copyFrom_18 rfl rfl ?_
      refine mx_iload_n (pc' := 20) dX0_copyFrom_19 rfl rfl ?_
      refine mx_aload_n (pc' := 21) dX0_copyFrom_20 rfl rfl ?_
      refine mx_iload_n (pc' := 22) dX0_copyFrom_21 rfl rfl ?_
      refine mx_callV (pc' := 25) dX0_copyFrom_22 cl_X0_32 (s0) (t_X0_putW M1 b b' ⟨s0, s1, s2, s3, s4, s5⟩ hs' (by omega) i i (by omega) (by omega) x ((hP.at hx).fr fun q z1 z2 => by rw [hO q (by omega)]) (hL.2 x (List.mem_of_getElem? hx))) rfl (by decide) rfl (Nat.le_of_ble_eq_true rfl) rfl (fun v N22 hv => ?_)
      obtain ⟨rfl, h1, h2⟩ := hv
      refine mx_iinc (pc' := 28) (ls' := [_, _, _]) (v := nI (i + 1)) dX0_copyFrom_25 rfl (nI_add i 1) (by decide) (rfl) rfl rfl ?_
      refine mx_goto (pc' := 10) dX0_copyFrom_28 (by decide) ?_
      exact ih (i + 1) N22 (by omega) (by omega) (by rw [h1 b 5 (by omega)]; exact hn) (by rw [take_snoc hx]; exact BuP.snoc (hP1.fr fun q j z1 z2 z3 z4 => h1 q j (by rw [List.length_take] at z4; omega)) (by rw [List.length_take, Nat.min_eq_left hi, Nat.zero_add]; exact h2)) (hO.tr (fun q hq => funext fun j => h1 q j (by omega)))

set_option maxHeartbeats 1000000 in
set_option maxRecDepth 10000 in
theorem t_X0_copyFrom (M : mx_M) (b b' : Nat) (hs : BuS b) (hs' : BuS b') (hb : b + 6 ≤ b' ∨ b' + 6 ≤ b) (L : List Bu) (hA : BuA M b' L) : mx_T yX0_copyFrom cX0_copyFrom 3 none 2 [.ref b, .ref b'] M (fun v M' => v = none ∧ BuA M' b L ∧ Out M M' b (b + 6)) := by
  obtain ⟨s0, s1, s2, s3, s4, s5⟩ := hs
  obtain ⟨u0, u1, u2, u3, u4, u5⟩ := hs'
  refine mx_T.of1 (own := RX0) (ls := [some (.ref b), some (.ref b'), none]) (by decide +kernel) rfl (Nat.le_of_ble_eq_true rfl) rfl rfl ?_
  refine mx_aload_n (pc' := 1) dX0_copyFrom_0 rfl rfl ?_
  refine mx_aload_n (pc' := 2) dX0_copyFrom_1 rfl rfl ?_
  refine mx_getf (pc' := 5) (v := nI L.length) dX0_copyFrom_2 fl_X0_28 (by assumption) (by rfl) (hA.1) rfl ?_
  refine mx_putf (pc' := 8) dX0_copyFrom_5 fl_X0_28 (by assumption) (by rfl) (⟨rfl, rfl⟩) rfl ?_
  refine mx_iconst (pc' := 9) (v := nI 0) dX0_copyFrom_8 (by decide) rfl ?_
  refine mx_istore_n (pc' := 10) (ls' := [_, _, _]) dX0_copyFrom_9 (by decide) (rfl) rfl rfl ?_
  exact l_X0_copyFrom M b b' ⟨s0, s1, s2, s3, s4, s5⟩ ⟨u0, u1, u2, u3, u4, u5⟩ hb L hA.2.1 hA.2.2 (L.length + 1) 0 _ (by omega) (by omega) (mx_up_eq _ _ _ _) BuP.nil (by repeat (first | exact Out.rf | assumption | refine Out.up ?_ (by omega) (by omega)))

set_option maxHeartbeats 1000000 in
set_option maxRecDepth 10000 in
theorem l_X0_countIn (M : mx_M) (b : Nat) (hs : BuS b) (L : List Bu) (hA : BuA M b L) (r c : Nat) (hr : r < 12) (hc : c < 10) : ∀ (k : Nat) (i f : Nat), L.length < i + k → i ≤ L.length → f = (L.take i).countP (atB r c) → mx_V cX0_countIn RX0 5 (some .int) 1 5 [some (.ref b), some (.int (nI r)), some (.int (nI c)), some (.int (nI f)), some (.int (nI i))] [] M (fun v M' => v = some (.int (nI (L.countP (atB r c)))) ∧ M' = M) := by
  obtain ⟨s0, s1, s2, s3, s4, s5⟩ := hs
  have h60 := hA.2.1.1
  intro k
  induction k with
  | zero =>
    intro i f hk hi hf
    exact absurd hk (by omega)
  | succ k ih =>
    intro i f hk hi hf
    refine mx_iload (pc' := 7) dX0_countIn_5 rfl rfl ?_
    refine mx_aload_n (pc' := 8) dX0_countIn_7 rfl rfl ?_
    refine mx_getf (pc' := 11) (v := nI L.length) dX0_countIn_8 fl_X0_28 (by assumption) (by rfl) (hA.1) rfl ?_
    refine mx_icmp_ge (tgt := 45) (pc' := 14) dX0_countIn_11 (by decide) rfl (fun c11 => ?_) (fun c11 => ?_)
    · have c11 := (nI_leI (by omega) (by omega)).mp c11
      refine mx_iload_n (pc' := 46) dX0_countIn_45 rfl rfl ?_
      refine mx_iret dX0_countIn_46 (Or.inl rfl) ?_
      exact ⟨by rw [hf, take_len c11], rfl⟩
    · have c11 := Nat.not_le.mp (fun z => c11 ((nI_leI (by omega) (by omega)).mpr z))
      obtain ⟨x, hx⟩ := get_lt c11
      obtain ⟨x1, x2, x3, x4, x5⟩ := hA.2.2.at hx
      obtain ⟨v1, v2, -, -, -⟩ := hA.2.1.2 x (List.mem_of_getElem? hx)
      refine mx_aload_n (pc' := 15) dX0_countIn_14 rfl rfl ?_
      refine mx_getr (pc' := 18) dX0_countIn_15 fl_X0_9 (by assumption) (by rfl) rfl ?_
      refine mx_iload (pc' := 20) dX0_countIn_18 rfl rfl ?_
      refine mx_iald (pc' := 21) (v := nI x.1) dX0_countIn_20 (by assumption) (rfl) (by omega) (x1) rfl ?_
      refine mx_iload_n (pc' := 22) dX0_countIn_21 rfl rfl ?_
      refine mx_icmp_ne (tgt := 39) (pc' := 25) dX0_countIn_22 (by decide) rfl (fun c22 => ?_) (fun c22 => ?_)
      · have c22 : ¬ _ := fun z => c22 ((nI_eq (by omega) (by omega)).mpr z)
        have c33 : True := trivial
        refine mx_iinc (pc' := 42) (ls' := [_, _, _, _, _]) (v := nI (i + 1)) dX0_countIn_39 rfl (nI_add i 1) (by decide) (rfl) rfl rfl ?_
        refine mx_goto (pc' := 5) dX0_countIn_42 (by decide) ?_
        refine ih (i + 1) _ (by omega) (by omega) ?_
        rw [take_snoc hx, List.countP_append, ← hf]
        simp [atB, c22, c33]
      · have c22 := (nI_eq (by omega) (by omega)).mp c22
        refine mx_aload_n (pc' := 26) dX0_countIn_25 rfl rfl ?_
        refine mx_getr (pc' := 29) dX0_countIn_26 fl_X0_15 (by assumption) (by rfl) rfl ?_
        refine mx_iload (pc' := 31) dX0_countIn_29 rfl rfl ?_
        refine mx_iald (pc' := 32) (v := nI x.2.1) dX0_countIn_31 (by assumption) (rfl) (by omega) (x2) rfl ?_
        refine mx_iload_n (pc' := 33) dX0_countIn_32 rfl rfl ?_
        refine mx_icmp_ne (tgt := 39) (pc' := 36) dX0_countIn_33 (by decide) rfl (fun c33 => ?_) (fun c33 => ?_)
        · have c33 : ¬ _ := fun z => c33 ((nI_eq (by omega) (by omega)).mpr z)
          refine mx_iinc (pc' := 42) (ls' := [_, _, _, _, _]) (v := nI (i + 1)) dX0_countIn_39 rfl (nI_add i 1) (by decide) (rfl) rfl rfl ?_
          refine mx_goto (pc' := 5) dX0_countIn_42 (by decide) ?_
          refine ih (i + 1) _ (by omega) (by omega) ?_
          rw [take_snoc hx, List.countP_append, ← hf]
          simp [atB, c22, c33]
        · have c33 := (nI_eq (by omega) (by omega)).mp c33
          refine mx_iinc (pc' := 39) (ls' := [_, _, _, _, _]) (v := nI (f + 1)) dX0_countIn_36 rfl (nI_add f 1) (by decide) (rfl) rfl rfl ?_
          refine mx_iinc (pc' := 42) (ls' := [_, _, _, _, _]) (v := nI (i + 1)) dX0_countIn_39 rfl (nI_add i 1) (by decide) (rfl) rfl rfl ?_
          refine mx_goto (pc' := 5) dX0_countIn_42 (by decide) ?_
          refine ih (i + 1) _ (by omega) (by omega) ?_
          rw [take_snoc hx, List.countP_append, ← hf]
          simp [atB, c22, c33]

set_option maxHeartbeats 1000000 in
set_option maxRecDepth 10000 in
theorem t_X0_countIn (M : mx_M) (b : Nat) (hs : BuS b) (L : List Bu) (hA : BuA M b L) (r c : Nat) (hr : r < 12) (hc : c < 10) : mx_T yX0_countIn cX0_countIn 5 (some .int) 1 [.ref b, .int (nI r), .int (nI c)] M (fun v M' => v = some (.int (nI (L.countP (atB r c)))) ∧ M' = M) := by
  refine mx_T.of1 (own := RX0) (ls := [some (.ref b), some (.int (nI r)), some (.int (nI c)), none, none]) (by decide +kernel) rfl (Nat.le_of_ble_eq_true rfl) rfl rfl ?_
  refine mx_iconst (pc' := 1) (v := nI 0) dX0_countIn_0 (by decide) rfl ?_
  refine mx_istore_n (pc' := 2) (ls' := [_, _, _, _, _]) dX0_countIn_1 (by decide) (rfl) rfl rfl ?_
  refine mx_iconst (pc' := 3) (v := nI 0) dX0_countIn_2 (by decide) rfl ?_
  refine mx_istore (pc' := 5) (ls' := [_, _, _, _, _]) dX0_countIn_3 (by decide) (rfl) rfl rfl ?_
  exact l_X0_countIn M b hs L hA r c hr hc (L.length + 1) 0 0 (by omega) (by omega) rfl

