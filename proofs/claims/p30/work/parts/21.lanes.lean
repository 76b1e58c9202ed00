/-! lanes: 109, free 110, asidesFrom 111 and its rows from 112 on -/
def fAdvN : Nat → FS → FS
  | 0, F => F
  | n + 1, F => fAdv (fAdvN n F)
/-- the free columns of a forecast -/
def fFr (F : FS) (t : Nat) : Nat := frB (fAdvN t F).2.1
def LaA (M : mx_M) (n : Nat) (g : Nat → Nat) : Prop := ∀ j, j ≤ n → M 110 j = nI (g j) ∧ g j < 1024
theorem fFr_lt (F : FS) (t : Nat) : fFr F t < 1024 := by
  unfold fFr frB
  exact bits10_lt _
theorem fAdvN_3 (n : Nat) (F : FS) : (fAdvN n F).2.2.1 3 = F.2.2.1 3 + n := by
  induction n with
  | zero => rfl
  | succ n ih =>
    show (fAdv (fAdvN n F)).2.2.1 3 = _
    rw [(fAdv_1 _).2]
    show (fAdvN n F).2.2.1 3 + 1 = _
    rw [ih]; omega
theorem FV.advN {F : FS} (h : FV F) (n : Nat) : FV (fAdvN n F) := by
  induction n with
  | zero => exact h
  | succ n ih => exact ih.adv
theorem max_1 {a b : Nat} (ha : a < 2147483648) (hb : b < 2147483648) : (if nI a < nI b then nI b else nI a) = nI (max a b) := by
  by_cases h : a < b
  · rw [if_pos ((nI_ltI ha hb).mpr h), Nat.max_eq_right (by omega)]
  · rw [if_neg (fun z => h ((nI_ltI ha hb).mp z)), Nat.max_eq_left (by omega)]
theorem min_1 {a b : Nat} (ha : a < 2147483648) (hb : b < 2147483648) : (if nI b < nI a then nI b else nI a) = nI (min a b) := by
  by_cases h : b < a
  · rw [if_pos ((nI_ltI hb ha).mpr h), Nat.min_eq_right (by omega)]
  · rw [if_neg (fun z => h ((nI_ltI hb ha).mp z)), Nat.min_eq_left (by omega)]
set_option maxHeartbeats 1000000 in
set_option maxRecDepth 10000 in
theorem t_J6_bitCount_0f7a4 (M : mx_M) (x : Int32) : mx_T yJ6_bitCount_0f7a4 cJ6_bitCount_0f7a4 1 (some .int) 1 [.int x] M (fun v M' => v = some (.int (bcI x)) ∧ M' = M) := by
  refine mx_T.of1 (own := RJ6) (ls := [some (.int x)]) (by decide +kernel) rfl (Nat.le_of_ble_eq_true rfl) rfl rfl ?_
  refine mx_iload_n (pc' := 1) dJ6_bitCount_0f7a4_0 rfl rfl ?_
  refine mx_iload_n (pc' := 2) dJ6_bitCount_0f7a4_1 rfl rfl ?_
  refine mx_iconst (pc' := 3) (v := nI 1) dJ6_bitCount_0f7a4_2 (by decide) rfl ?_
  refine mx_iushr (pc' := 4) dJ6_bitCount_0f7a4_3 (rfl) rfl ?_
  refine mx_ldcw (pc' := 7) dJ6_bitCount_0f7a4_4 (cl_k265) rfl ?_
  refine mx_iand (pc' := 8) dJ6_bitCount_0f7a4_7 (rfl) rfl ?_
  refine mx_isub (pc' := 9) dJ6_bitCount_0f7a4_8 (rfl) rfl ?_
  refine mx_istore_n (pc' := 10) (ls' := [_]) dJ6_bitCount_0f7a4_9 (by decide) (rfl) rfl rfl ?_
  refine mx_iload_n (pc' := 11) dJ6_bitCount_0f7a4_10 rfl rfl ?_
  refine mx_ldcw (pc' := 14) dJ6_bitCount_0f7a4_11 (cl_k266) rfl ?_
  refine mx_iand (pc' := 15) dJ6_bitCount_0f7a4_14 (rfl) rfl ?_
  refine mx_iload_n (pc' := 16) dJ6_bitCount_0f7a4_15 rfl rfl ?_
  refine mx_iconst (pc' := 17) (v := nI 2) dJ6_bitCount_0f7a4_16 (by decide) rfl ?_
  refine mx_iushr (pc' := 18) dJ6_bitCount_0f7a4_17 (rfl) rfl ?_
  refine mx_ldcw (pc' := 21) dJ6_bitCount_0f7a4_18 (cl_k266) rfl ?_
  refine mx_iand (pc' := 22) dJ6_bitCount_0f7a4_21 (rfl) rfl ?_
  refine mx_iadd (pc' := 23) dJ6_bitCount_0f7a4_22 (rfl) rfl ?_
  refine mx_istore_n (pc' := 24) (ls' := [_]) dJ6_bitCount_0f7a4_23 (by decide) (rfl) rfl rfl ?_
  refine mx_iload_n (pc' := 25) dJ6_bitCount_0f7a4_24 rfl rfl ?_
  refine mx_iload_n (pc' := 26) dJ6_bitCount_0f7a4_25 rfl rfl ?_
  refine mx_iconst (pc' := 27) (v := nI 4) dJ6_bitCount_0f7a4_26 (by decide) rfl ?_
  refine mx_iushr (pc' := 28) dJ6_bitCount_0f7a4_27 (rfl) rfl ?_
  refine mx_iadd (pc' := 29) dJ6_bitCount_0f7a4_28 (rfl) rfl ?_
  refine mx_ldcw (pc' := 32) dJ6_bitCount_0f7a4_29 (cl_k267) rfl ?_
  refine mx_iand (pc' := 33) dJ6_bitCount_0f7a4_32 (rfl) rfl ?_
  refine mx_istore_n (pc' := 34) (ls' := [_]) dJ6_bitCount_0f7a4_33 (by decide) (rfl) rfl rfl ?_
  refine mx_iload_n (pc' := 35) dJ6_bitCount_0f7a4_34 rfl rfl ?_
  refine mx_iload_n (pc' := 36) dJ6_bitCount_0f7a4_35 rfl rfl ?_
  refine mx_bipush (pc' := 38) (v := nI 8) dJ6_bitCount_0f7a4_36 (by decide) rfl ?_
  refine mx_iushr (pc' := 39) dJ6_bitCount_0f7a4_38 (rfl) rfl ?_
  refine mx_iadd (pc' := 40) dJ6_bitCount_0f7a4_39 (rfl) rfl ?_
  refine mx_istore_n (pc' := 41) (ls' := [_]) dJ6_bitCount_0f7a4_40 (by decide) (rfl) rfl rfl ?_
  refine mx_iload_n (pc' := 42) dJ6_bitCount_0f7a4_41 rfl rfl ?_
  refine mx_iload_n (pc' := 43) dJ6_bitCount_0f7a4_42 rfl rfl ?_
  refine mx_bipush (pc' := 45) (v := nI 16) dJ6_bitCount_0f7a4_43 (by decide) rfl ?_
  refine mx_iushr (pc' := 46) dJ6_bitCount_0f7a4_45 (rfl) rfl ?_
  refine mx_iadd (pc' := 47) dJ6_bitCount_0f7a4_46 (rfl) rfl ?_
  refine mx_istore_n (pc' := 48) (ls' := [_]) dJ6_bitCount_0f7a4_47 (by decide) (rfl) rfl rfl ?_
  refine mx_iload_n (pc' := 49) dJ6_bitCount_0f7a4_48 rfl rfl ?_
  refine mx_bipush (pc' := 51) (v := nI 63) dJ6_bitCount_0f7a4_49 (by decide) rfl ?_
  refine mx_iand (pc' := 52) dJ6_bitCount_0f7a4_51 (rfl) rfl ?_
  refine mx_iret dJ6_bitCount_0f7a4_52 (Or.inl rfl) ?_
  exact ⟨rfl, rfl⟩

set_option maxHeartbeats 1000000 in
set_option maxRecDepth 10000 in
theorem l_X5_foresee (M : mx_M) (F : FS) (hV : FV F) (T : Nat) (hT : T ≤ 30) (ht : F.2.2.1 3 + 30 < 2147483648) : ∀ (k : Nat) (n : Nat) (M1 : mx_M), T < n + k → n ≤ T → LaA M1 n (fFr F) → FiA M1 15 (fAdvN n F) → (∀ q, (q < 15 ∨ (29 ≤ q ∧ q ≠ 110)) → M1 q = M q) → mx_V cX5_foresee RX5 4 none 5 15 [some (.ref 109), some (.ref 15), some (.int (nI T)), some (.int (nI (n + 1)))] [] M1 (fun v M' => v = none ∧ LaA M' T (fFr F) ∧ FiA M' 15 (fAdvN T F) ∧ (∀ q, (q < 15 ∨ (29 ≤ q ∧ q ≠ 110)) → M' q = M q)) := by
  have f15 : FiS 15 := FB.s (Or.inr (Or.inl rfl))
  intro k
  induction k with
  | zero =>
    intro n M1 hk hi hL hF hO
    exact absurd hk (by omega)
  | succ k ih =>
    intro n M1 hk hi hL hF hO
    refine mx_iload_n (pc' := 16) dX5_foresee_15 rfl rfl ?_
    refine mx_iload_n (pc' := 17) dX5_foresee_16 rfl rfl ?_
    refine mx_icmp_gt (tgt := 43) (pc' := 20) dX5_foresee_17 (by decide) rfl (fun c17 => ?_) (fun c17 => ?_)
    · have c17 := (nI_ltI (by omega) (by omega)).mp c17
      obtain rfl : n = T := by omega
      refine mx_vret dX5_foresee_43 rfl ?_
      exact ⟨rfl, hL, hF, hO⟩
    · have c17 := Nat.not_lt.mp (fun z => c17 ((nI_ltI (by omega) (by omega)).mpr z))
      refine mx_aload_n (pc' := 21) dX5_foresee_20 rfl rfl ?_
      refine mx_callV (pc' := 24) dX5_foresee_21 cl_X5_32 (f15.1) (t_X3_advance M1 15 (Or.inr (Or.inl rfl)) _ hF (hV.advN n) (by rw [fAdvN_3]; omega)) rfl (by decide) rfl (Nat.le_of_ble_eq_true rfl) rfl (fun v N21 hv => ?_)
      obtain ⟨rfl, hF2, hO2⟩ := hv
      refine mx_aload_n (pc' := 25) dX5_foresee_24 rfl rfl ?_
      refine mx_getr (pc' := 28) dX5_foresee_25 fl_X5_9 (by first | rfl | exact f15.1) (by rfl) rfl ?_
      refine mx_iload_n (pc' := 29) dX5_foresee_28 rfl rfl ?_
      refine mx_aload_n (pc' := 30) dX5_foresee_29 rfl rfl ?_
      refine mx_getr (pc' := 33) dX5_foresee_30 fl_X5_20 (by first | rfl | exact f15.1) (by rfl) rfl ?_
      refine mx_callV (pc' := 36) dX5_foresee_33 cl_X5_26 (f15.2.2.1.1) (t_X0_freeColumns N21 21 f15.2.2.1 (fAdv (fAdvN n F)).2.1 hF2.2.1) rfl (by decide) rfl (Nat.le_of_ble_eq_true rfl) rfl (fun v N33 hv => ?_)
      obtain ⟨rfl, hv⟩ := hv
      rw [hv]
      refine mx_iast (pc' := 37) dX5_foresee_36 (rfl) (rfl) (by omega) rfl ?_
      refine mx_iinc (pc' := 40) (ls' := [_, _, _, _]) (v := nI (n + 1 + 1)) dX5_foresee_37 rfl (nI_add _ 1) (by decide) (rfl) rfl rfl ?_
      refine mx_goto (pc' := 15) dX5_foresee_40 (by decide) ?_
      refine ih (n + 1) _ (by omega) (by omega) ?_ (hF2.fr fun q z1 z2 => mx_up_ne (by omega)) (fun q hq => ?_)
      · intro j hj
        by_cases e : j = n + 1
        · subst e
          exact ⟨mx_up_eq _ _ _ _, fFr_lt F _⟩
        · refine ⟨?_, fFr_lt F j⟩
          rw [show mx_up N21 110 (n + 1) (nI (frB (fAdv (fAdvN n F)).2.1)) 110 j = N21 110 j by simp [mx_up, e], hO2 110 (by omega)]
          exact (hL j (by omega)).1
      · rw [mx_up_ne (by omega), hO2 q (by omega)]
        exact hO q hq

set_option maxHeartbeats 1000000 in
set_option maxRecDepth 10000 in
theorem t_X5_foresee (M : mx_M) (F : FS) (hF : FiA M 15 F) (hV : FV F) (T : Nat) (hT : T ≤ 30) (ht : F.2.2.1 3 + 30 < 2147483648) : mx_T yX5_foresee cX5_foresee 4 none 5 [.ref 109, .ref 15, .int (nI T)] M (fun v M' => v = none ∧ LaA M' T (fFr F) ∧ FiA M' 15 (fAdvN T F) ∧ (∀ q, (q < 15 ∨ (29 ≤ q ∧ q ≠ 110)) → M' q = M q)) := by
  have f15 : FiS 15 := FB.s (Or.inr (Or.inl rfl))
  refine mx_T.of1 (own := RX5) (ls := [some (.ref 109), some (.ref 15), some (.int (nI T)), none]) (by decide +kernel) rfl (Nat.le_of_ble_eq_true rfl) rfl rfl ?_
  refine mx_aload_n (pc' := 1) dX5_foresee_0 rfl rfl ?_
  refine mx_getr (pc' := 4) dX5_foresee_1 fl_X5_9 (by first | rfl | exact f15.1) (by rfl) rfl ?_
  refine mx_iconst (pc' := 5) (v := nI 0) dX5_foresee_4 (by decide) rfl ?_
  refine mx_aload_n (pc' := 6) dX5_foresee_5 rfl rfl ?_
  refine mx_getr (pc' := 9) dX5_foresee_6 fl_X5_20 (by first | rfl | exact f15.1) (by rfl) rfl ?_
  refine mx_callV (pc' := 12) dX5_foresee_9 cl_X5_26 (f15.2.2.1.1) (t_X0_freeColumns M 21 f15.2.2.1 F.2.1 hF.2.1) rfl (by decide) rfl (Nat.le_of_ble_eq_true rfl) rfl (fun v N9 hv => ?_)
  obtain ⟨rfl, hv⟩ := hv
  rw [hv]
  refine mx_iast (pc' := 13) dX5_foresee_12 (rfl) (rfl) (by omega) rfl ?_
  refine mx_iconst (pc' := 14) (v := nI 1) dX5_foresee_13 (by decide) rfl ?_
  refine mx_istore_n (pc' := 15) (ls' := [_, _, _, _]) dX5_foresee_14 (by decide) (rfl) rfl rfl ?_
  refine l_X5_foresee M F hV T hT ht (T + 1) 0 _ (by omega) (by omega) ?_ (hF.fr fun q z1 z2 => mx_up_ne (by omega)) (fun q hq => mx_up_ne (by omega))
  intro j hj
  obtain rfl : j = 0 := by omega
  exact ⟨mx_up_eq _ _ _ _, fFr_lt F 0⟩

def sumG (g : Nat → Nat) : Nat → Nat
  | 0 => 0
  | n + 1 => sumG g n + pop10 (g (n + 1))
set_option maxHeartbeats 1000000 in
set_option maxRecDepth 10000 in
theorem l_X5_sumFree (M : mx_M) (g : Nat → Nat) (T : Nat) (hT : T ≤ 30) (hL : LaA M T g) : ∀ (k : Nat) (n : Nat), T < n + k → n ≤ T → True → mx_V cX5_sumFree RX5 4 (some .int) 2 4 [some (.ref 109), some (.int (nI T)), some (.int (nI (sumG g n))), some (.int (nI (n + 1)))] [] M (fun v M' => v = some (.int (nI (sumG g T))) ∧ M' = M) := by
  intro k
  induction k with
  | zero =>
    intro n hk hi _
    exact absurd hk (by omega)
  | succ k ih =>
    intro n hk hi _
    refine mx_iload_n (pc' := 5) dX5_sumFree_4 rfl rfl ?_
    refine mx_iload_n (pc' := 6) dX5_sumFree_5 rfl rfl ?_
    refine mx_icmp_gt (tgt := 27) (pc' := 9) dX5_sumFree_6 (by decide) rfl (fun c6 => ?_) (fun c6 => ?_)
    · have c6 := (nI_ltI (by omega) (by omega)).mp c6
      obtain rfl : n = T := by omega
      refine mx_iload_n (pc' := 28) dX5_sumFree_27 rfl rfl ?_
      refine mx_iret dX5_sumFree_28 (Or.inl rfl) ?_
      exact ⟨rfl, rfl⟩
    · have c6 := Nat.not_lt.mp (fun z => c6 ((nI_ltI (by omega) (by omega)).mpr z))
      obtain ⟨hg, hg2⟩ := hL (n + 1) (by omega)
      refine mx_iload_n (pc' := 10) dX5_sumFree_9 rfl rfl ?_
      refine mx_aload_n (pc' := 11) dX5_sumFree_10 rfl rfl ?_
      refine mx_getr (pc' := 14) dX5_sumFree_11 fl_X5_9 (rfl) (by rfl) rfl ?_
      refine mx_iload_n (pc' := 15) dX5_sumFree_14 rfl rfl ?_
      refine mx_iald (pc' := 16) (v := nI (g (n + 1))) dX5_sumFree_15 (rfl) (rfl) (by omega) (hg) rfl ?_
      refine mx_callS (pc' := 19) dX5_sumFree_16 cl_X5_35 (t_J6_bitCount_0f7a4 M _) rfl (by decide) rfl (Nat.le_of_ble_eq_true rfl) rfl (fun v N16 hv => ?_)
      obtain ⟨rfl, hv⟩ := hv
      rw [hv, bc_pop _ hg2]
      refine mx_iadd (pc' := 20) (v := nI (sumG g (n + 1))) dX5_sumFree_19 (nI_add _ _) rfl ?_
      refine mx_istore_n (pc' := 21) (ls' := [_, _, _, _]) dX5_sumFree_20 (by decide) (rfl) rfl rfl ?_
      refine mx_iinc (pc' := 24) (ls' := [_, _, _, _]) (v := nI (n + 1 + 1)) dX5_sumFree_21 rfl (nI_add _ 1) (by decide) (rfl) rfl rfl ?_
      refine mx_goto (pc' := 4) dX5_sumFree_24 (by decide) ?_
      exact ih (n + 1) (by omega) (by omega) trivial

set_option maxHeartbeats 1000000 in
set_option maxRecDepth 10000 in
theorem t_X5_sumFree (M : mx_M) (g : Nat → Nat) (T : Nat) (hT : T ≤ 30) (hL : LaA M T g) : mx_T yX5_sumFree cX5_sumFree 4 (some .int) 2 [.ref 109, .int (nI T)] M (fun v M' => v = some (.int (nI (sumG g T))) ∧ M' = M) := by
  refine mx_T.of1 (own := RX5) (ls := [some (.ref 109), some (.int (nI T)), none, none]) (by decide +kernel) rfl (Nat.le_of_ble_eq_true rfl) rfl rfl ?_
  refine mx_iconst (pc' := 1) (v := nI 0) dX5_sumFree_0 (by decide) rfl ?_
  refine mx_istore_n (pc' := 2) (ls' := [_, _, _, _]) dX5_sumFree_1 (by decide) (rfl) rfl rfl ?_
  refine mx_iconst (pc' := 3) (v := nI 1) dX5_sumFree_2 (by decide) rfl ?_
  refine mx_istore_n (pc' := 4) (ls' := [_, _, _, _]) dX5_sumFree_3 (by decide) (rfl) rfl rfl ?_
  exact l_X5_sumFree M g T hT hL (T + 1) 0 (by omega) (by omega) trivial

set_option maxHeartbeats 1000000 in
set_option maxRecDepth 10000 in
theorem t_X5_isFree (M : mx_M) (t f k : Nat) (ht : t ≤ 30) (hf : M 110 t = nI f) (hf2 : f < 1024) (hk : k < 13) : mx_T yX5_isFree cX5_isFree 3 (some .boolean) 2 [.ref 109, .int (nI t), .int (dr k)] M (fun v M' => v = some (.int (bI (1 ≤ k ∧ k ≤ 10 ∧ f.testBit (k - 1) = true))) ∧ M' = M) := by
  refine mx_T.of1 (own := RX5) (ls := [some (.ref 109), some (.int (nI t)), some (.int (dr k))]) (by decide +kernel) rfl (Nat.le_of_ble_eq_true rfl) rfl rfl ?_
  refine mx_iload_n (pc' := 1) dX5_isFree_0 rfl rfl ?_
  refine mx_callN (pc' := 4) dX5_isFree_1 cl_X5_41 (t_X7_isColumn M _) rfl (by decide) rfl (Nat.le_of_ble_eq_true rfl) rfl (fun v N1 hv => ?_)
  obtain ⟨rfl, hv⟩ := hv
  rw [hv]
  refine mx_if_eq (tgt := 25) (pc' := 7) dX5_isFree_4 (by decide) rfl (fun c4 => ?_) (fun c4 => ?_)
  · have c4 : ¬ (1 ≤ k ∧ k ≤ 10) := fun z => bI_0.mp c4 ((dk_in k hk).mpr z)
    refine mx_iconst (pc' := 26) (v := nI 0) dX5_isFree_25 (by decide) rfl ?_
    refine mx_iret dX5_isFree_26 (Or.inr ⟨rfl, by decide⟩) ?_
    first | exact ⟨bI_rt ⟨c4.1, c4.2, c18⟩, rfl⟩ | exact ⟨bI_rf (fun z => c18 z.2.2), rfl⟩ | exact ⟨bI_rf (fun z => c4 ⟨z.1, z.2.1⟩), rfl⟩
  · have c4 := (dk_in k hk).mp (bI_n.mp c4)
    have e : dr k = nI (k - 1) := pk_sub c4.1
    rw [e]
    refine mx_aload_n (pc' := 8) dX5_isFree_7 rfl rfl ?_
    refine mx_getr (pc' := 11) dX5_isFree_8 fl_X5_9 (rfl) (by rfl) rfl ?_
    refine mx_iload_n (pc' := 12) dX5_isFree_11 rfl rfl ?_
    refine mx_iald (pc' := 13) (v := nI f) dX5_isFree_12 (rfl) (rfl) (by omega) (hf) rfl ?_
    refine mx_iload_n (pc' := 14) dX5_isFree_13 rfl rfl ?_
    refine mx_ishr (pc' := 15) dX5_isFree_14 (rfl) rfl ?_
    refine mx_iconst (pc' := 16) (v := nI 1) dX5_isFree_15 (by decide) rfl ?_
    refine mx_iand (pc' := 17) (v := nI (f.testBit (k - 1)).toNat) dX5_isFree_16 (tb_1 f (by omega) (k - 1) (by omega)) rfl ?_
    refine mx_iconst (pc' := 18) (v := nI 1) dX5_isFree_17 (by decide) rfl ?_
    refine mx_icmp_ne (tgt := 25) (pc' := 21) dX5_isFree_18 (by decide) rfl (fun c18 => ?_) (fun c18 => ?_)
    · have c18 : ¬ f.testBit (k - 1) = true := fun z => c18 (by rw [z]; rfl)
      refine mx_iconst (pc' := 26) (v := nI 0) dX5_isFree_25 (by decide) rfl ?_
      refine mx_iret dX5_isFree_26 (Or.inr ⟨rfl, by decide⟩) ?_
      first | exact ⟨bI_rt ⟨c4.1, c4.2, c18⟩, rfl⟩ | exact ⟨bI_rf (fun z => c18 z.2.2), rfl⟩ | exact ⟨bI_rf (fun z => c4 ⟨z.1, z.2.1⟩), rfl⟩
    · have c18 : f.testBit (k - 1) = true := by
        cases z : f.testBit (k - 1) with
        | true => rfl
        | false => rw [z] at c18; exact absurd c18 (by decide)
      refine mx_iconst (pc' := 22) (v := nI 1) dX5_isFree_21 (by decide) rfl ?_
      refine mx_goto (pc' := 26) dX5_isFree_22 (by decide) ?_
      refine mx_iret dX5_isFree_26 (Or.inr ⟨rfl, by decide⟩) ?_
      first | exact ⟨bI_rt ⟨c4.1, c4.2, c18⟩, rfl⟩ | exact ⟨bI_rf (fun z => c18 z.2.2), rfl⟩ | exact ⟨bI_rf (fun z => c4 ⟨z.1, z.2.1⟩), rfl⟩

theorem t_X5_isFreeN (M : mx_M) (t f c : Nat) (ht : t ≤ 30) (hf : M 110 t = nI f) (hf2 : f < 1024) (hc : c < 12) : mx_T yX5_isFree cX5_isFree 3 (some .boolean) 2 [.ref 109, .int (nI t), .int (nI c)] M (fun v M' => v = some (.int (bI (c < 10 ∧ f.testBit c = true))) ∧ M' = M) := by
  have h := t_X5_isFree M t f (c + 1) ht hf hf2 (by omega)
  rw [dr_s] at h
  refine h.post ?_
  rintro v M' ⟨e1, e2⟩
  refine ⟨e1.trans (congrArg (fun z => some (Value.int z)) (bI_c ?_)), e2⟩
  rw [Nat.add_sub_cancel]
  exact ⟨fun z => ⟨by omega, z.2.2⟩, fun z => ⟨by omega, by omega, z.2⟩⟩
def runG (f : Nat) : Nat → Nat → Nat
  | 0, _ => 0
  | n + 1, c => if c < 10 ∧ f.testBit c = true then runG f n (c + 1) + 1 else 0
/-- how many free columns from c on -/
def runF (f c : Nat) : Nat := runG f (10 - c) c
theorem runF_s {f c : Nat} (h : c < 10 ∧ f.testBit c = true) : runF f c = runF f (c + 1) + 1 := by
  unfold runF
  rw [show 10 - c = (10 - (c + 1)) + 1 by omega]
  exact if_pos h
theorem runF_0 {f c : Nat} (h : ¬ (c < 10 ∧ f.testBit c = true)) : runF f c = 0 := by
  unfold runF
  by_cases hc : c < 10
  · rw [show 10 - c = (10 - (c + 1)) + 1 by omega]
    exact if_neg h
  · rw [show 10 - c = 0 by omega]; rfl
theorem runG_le (f : Nat) : ∀ n c, runG f n c ≤ n
  | 0, _ => Nat.le_refl 0
  | n + 1, c => by
    unfold runG
    split
    · exact Nat.succ_le_succ (runG_le f n (c + 1))
    · exact Nat.zero_le _
theorem runF_le (f c : Nat) : runF f c ≤ 10 := Nat.le_trans (runG_le f _ c) (by omega)
def cntL (f i : Nat) : Nat := (List.range i).countP (fun c => f.testBit c && !(decide (1 ≤ c) && f.testBit (c - 1)))
def wdN (f : Nat) : Nat → Nat
  | 0 => 0
  | i + 1 => max (wdN f i) (runF f i)
theorem wdN_le (f : Nat) : ∀ i, wdN f i ≤ 10
  | 0 => Nat.zero_le _
  | i + 1 => Nat.max_le.mpr ⟨wdN_le f i, runF_le f i⟩
def stR (f w : Nat) : Nat → Nat → Int32
  | 0, _ => (-4)
  | n + 1, c => if 0 < w ∧ runF f c = w then nI c else stR f w n (c + 1)
def stW (f : Nat) : Int32 := stR f (wdN f 10) 10 0
set_option maxHeartbeats 1000000 in
set_option maxRecDepth 10000 in
theorem l_X5_widthFrom (M : mx_M) (t f c : Nat) (ht : t ≤ 30) (hf : M 110 t = nI f) (hf2 : f < 1024) : ∀ (k : Nat) (n : Nat), 10 < n + k → n ≤ 10 → c ≤ n → runF f c = (n - c) + runF f n → mx_V cX5_widthFrom RX5 4 (some .int) 3 2 [some (.ref 109), some (.int (nI t)), some (.int (nI c)), some (.int (nI n))] [] M (fun v M' => v = some (.int (nI (runF f c))) ∧ M' = M) := by
  intro k
  induction k with
  | zero =>
    intro n hk hi hc hr
    exact absurd hk (by omega)
  | succ k ih =>
    intro n hk hi hc hr
    refine mx_iload_n (pc' := 3) dX5_widthFrom_2 rfl rfl ?_
    refine mx_bipush (pc' := 5) (v := nI 10) dX5_widthFrom_3 (by decide) rfl ?_
    refine mx_icmp_ge (tgt := 23) (pc' := 8) dX5_widthFrom_5 (by decide) rfl (fun c5 => ?_) (fun c5 => ?_)
    · have c5 := (nI_leI (by omega) (by omega)).mp c5
      have e := runF_0 (f := f) (c := n) (by omega)
      refine mx_iload_n (pc' := 24) dX5_widthFrom_23 rfl rfl ?_
      refine mx_iload_n (pc' := 25) dX5_widthFrom_24 rfl rfl ?_
      refine mx_isub (pc' := 26) (v := nI (n - c)) dX5_widthFrom_25 (pk_sub hc) rfl ?_
      refine mx_iret dX5_widthFrom_26 (Or.inl rfl) ?_
      exact ⟨by rw [hr, e, Nat.add_zero], rfl⟩
    · have c5 := Nat.not_le.mp (fun z => c5 ((nI_leI (by omega) (by omega)).mpr z))
      refine mx_aload_n (pc' := 9) dX5_widthFrom_8 rfl rfl ?_
      refine mx_iload_n (pc' := 10) dX5_widthFrom_9 rfl rfl ?_
      refine mx_iload_n (pc' := 11) dX5_widthFrom_10 rfl rfl ?_
      refine mx_callV (pc' := 14) dX5_widthFrom_11 cl_X5_45 (rfl) (t_X5_isFreeN M t f n ht hf hf2 (by omega)) rfl (by decide) rfl (Nat.le_of_ble_eq_true rfl) rfl (fun v N11 hv => ?_)
      obtain ⟨rfl, hv⟩ := hv
      rw [hv]
      refine mx_if_eq (tgt := 23) (pc' := 17) dX5_widthFrom_14 (by decide) rfl (fun c14 => ?_) (fun c14 => ?_)
      · have e := runF_0 (bI_0.mp c14)
        refine mx_iload_n (pc' := 24) dX5_widthFrom_23 rfl rfl ?_
        refine mx_iload_n (pc' := 25) dX5_widthFrom_24 rfl rfl ?_
        refine mx_isub (pc' := 26) (v := nI (n - c)) dX5_widthFrom_25 (pk_sub hc) rfl ?_
        refine mx_iret dX5_widthFrom_26 (Or.inl rfl) ?_
        exact ⟨by rw [hr, e, Nat.add_zero], rfl⟩
      · have c14 := bI_n.mp c14
        refine mx_iinc (pc' := 20) (ls' := [_, _, _, _]) (v := nI (n + 1)) dX5_widthFrom_17 rfl (nI_add n 1) (by decide) (rfl) rfl rfl ?_
        refine mx_goto (pc' := 2) dX5_widthFrom_20 (by decide) ?_
        exact ih (n + 1) (by omega) (by omega) (by omega) (by have := runF_s c14; omega)

set_option maxHeartbeats 1000000 in
set_option maxRecDepth 10000 in
theorem t_X5_widthFrom (M : mx_M) (t f c : Nat) (ht : t ≤ 30) (hf : M 110 t = nI f) (hf2 : f < 1024) (hc : c ≤ 10) : mx_T yX5_widthFrom cX5_widthFrom 4 (some .int) 3 [.ref 109, .int (nI t), .int (nI c)] M (fun v M' => v = some (.int (nI (runF f c))) ∧ M' = M) := by
  refine mx_T.of1 (own := RX5) (ls := [some (.ref 109), some (.int (nI t)), some (.int (nI c)), none]) (by decide +kernel) rfl (Nat.le_of_ble_eq_true rfl) rfl rfl ?_
  refine mx_iload_n (pc' := 1) dX5_widthFrom_0 rfl rfl ?_
  refine mx_istore_n (pc' := 2) (ls' := [_, _, _, _]) dX5_widthFrom_1 (by decide) (rfl) rfl rfl ?_
  exact l_X5_widthFrom M t f c ht hf hf2 11 c (by omega) hc (Nat.le_refl c) (by omega)

set_option maxHeartbeats 1000000 in
set_option maxRecDepth 10000 in
theorem l_X5_countLanes (M : mx_M) (t f : Nat) (ht : t ≤ 30) (hf : M 110 t = nI f) (hf2 : f < 1024) : ∀ (k : Nat) (i : Nat), 10 < i + k → i ≤ 10 → True → mx_V cX5_countLanes RX5 4 (some .int) 3 4 [some (.ref 109), some (.int (nI t)), some (.int (nI (cntL f i))), some (.int (nI i))] [] M (fun v M' => v = some (.int (nI (cntL f 10))) ∧ M' = M) := by
  intro k
  induction k with
  | zero =>
    intro i hk hi _
    exact absurd hk (by omega)
  | succ k ih =>
    intro i hk hi _
    refine mx_iload_n (pc' := 5) dX5_countLanes_4 rfl rfl ?_
    refine mx_bipush (pc' := 7) (v := nI 10) dX5_countLanes_5 (by decide) rfl ?_
    refine mx_icmp_ge (tgt := 39) (pc' := 10) dX5_countLanes_7 (by decide) rfl (fun c7 => ?_) (fun c7 => ?_)
    · have c7 := (nI_leI (by omega) (by omega)).mp c7
      obtain rfl : i = 10 := by omega
      refine mx_iload_n (pc' := 40) dX5_countLanes_39 rfl rfl ?_
      refine mx_iret dX5_countLanes_40 (Or.inl rfl) ?_
      exact ⟨rfl, rfl⟩
    · have c7 := Nat.not_le.mp (fun z => c7 ((nI_leI (by omega) (by omega)).mpr z))
      have e0 : cntL f (i + 1) = cntL f i + (if (f.testBit i && !(decide (1 ≤ i) && f.testBit (i - 1))) = true then 1 else 0) := by
        unfold cntL
        rw [List.range_succ, List.countP_append, List.countP_singleton]
      refine mx_aload_n (pc' := 11) dX5_countLanes_10 rfl rfl ?_
      refine mx_iload_n (pc' := 12) dX5_countLanes_11 rfl rfl ?_
      refine mx_iload_n (pc' := 13) dX5_countLanes_12 rfl rfl ?_
      refine mx_callV (pc' := 16) dX5_countLanes_13 cl_X5_45 (rfl) (t_X5_isFreeN M t f i ht hf hf2 (by omega)) rfl (by decide) rfl (Nat.le_of_ble_eq_true rfl) rfl (fun v N13 hv => ?_)
      obtain ⟨rfl, hv⟩ := hv
      rw [hv]
      refine mx_if_eq (tgt := 33) (pc' := 19) dX5_countLanes_16 (by decide) rfl (fun c16 => ?_) (fun c16 => ?_)
      · have c16 := bI_0.mp c16
        have e : cntL f (i + 1) = cntL f i := by
          have hz : ¬ (f.testBit i && !(decide (1 ≤ i) && f.testBit (i - 1))) = true := by
            intro z
            rw [Bool.and_eq_true] at z
            exact c16 ⟨by omega, z.1⟩
          rw [e0, if_neg hz, Nat.add_zero]
        refine mx_iinc (pc' := 36) (ls' := [_, _, _, _]) (v := nI (i + 1)) dX5_countLanes_33 rfl (nI_add i 1) (by decide) (rfl) rfl rfl ?_
        refine mx_goto (pc' := 4) dX5_countLanes_36 (by decide) ?_
        rw [show cntL f i = cntL f (i + 1) from e.symm]
        exact ih (i + 1) (by omega) (by omega) trivial
      · have c16 := (bI_n.mp c16).2
        refine mx_aload_n (pc' := 20) dX5_countLanes_19 rfl rfl ?_
        refine mx_iload_n (pc' := 21) dX5_countLanes_20 rfl rfl ?_
        refine mx_iload_n (pc' := 22) dX5_countLanes_21 rfl rfl ?_
        refine mx_iconst (pc' := 23) (v := nI 1) dX5_countLanes_22 (by decide) rfl ?_
        refine mx_isub (pc' := 24) (v := dr i) dX5_countLanes_23 (rfl) rfl ?_
        refine mx_callV (pc' := 27) dX5_countLanes_24 cl_X5_45 (rfl) (t_X5_isFree M t f i ht hf hf2 (by omega)) rfl (by decide) rfl (Nat.le_of_ble_eq_true rfl) rfl (fun v N24 hv => ?_)
        obtain ⟨rfl, hv⟩ := hv
        rw [hv]
        refine mx_if_ne (tgt := 33) (pc' := 30) dX5_countLanes_27 (by decide) rfl (fun c27 => ?_) (fun c27 => ?_)
        · have c27 := bI_n.mp c27
          have e : cntL f (i + 1) = cntL f i := by
            have hz : ¬ (f.testBit i && !(decide (1 ≤ i) && f.testBit (i - 1))) = true := by simp [c27.1, c27.2.2]
            rw [e0, if_neg hz, Nat.add_zero]
          refine mx_iinc (pc' := 36) (ls' := [_, _, _, _]) (v := nI (i + 1)) dX5_countLanes_33 rfl (nI_add i 1) (by decide) (rfl) rfl rfl ?_
          refine mx_goto (pc' := 4) dX5_countLanes_36 (by decide) ?_
          rw [show cntL f i = cntL f (i + 1) from e.symm]
          exact ih (i + 1) (by omega) (by omega) trivial
        · have c27 := bI_0.mp c27
          have e : cntL f (i + 1) = cntL f i + 1 := by
            suffices hz : (f.testBit i && !(decide (1 ≤ i) && f.testBit (i - 1))) = true by rw [e0, if_pos hz]
            rw [c16, Bool.true_and, Bool.not_eq_true', Bool.and_eq_false_iff]
            by_cases z : 1 ≤ i
            · refine Or.inr ?_
              cases hz : f.testBit (i - 1) with
              | false => rfl
              | true => exact absurd ⟨z, by omega, hz⟩ c27
            · exact Or.inl (decide_eq_false z)
          refine mx_iinc (pc' := 33) (ls' := [_, _, _, _]) (v := nI (cntL f (i + 1))) dX5_countLanes_30 rfl ((nI_add _ 1).trans (congrArg nI e.symm)) (by decide) (rfl) rfl rfl ?_
          refine mx_iinc (pc' := 36) (ls' := [_, _, _, _]) (v := nI (i + 1)) dX5_countLanes_33 rfl (nI_add i 1) (by decide) (rfl) rfl rfl ?_
          refine mx_goto (pc' := 4) dX5_countLanes_36 (by decide) ?_
          exact ih (i + 1) (by omega) (by omega) trivial

set_option maxHeartbeats 1000000 in
set_option maxRecDepth 10000 in
theorem t_X5_countLanes (M : mx_M) (t f : Nat) (ht : t ≤ 30) (hf : M 110 t = nI f) (hf2 : f < 1024) : mx_T yX5_countLanes cX5_countLanes 4 (some .int) 3 [.ref 109, .int (nI t)] M (fun v M' => v = some (.int (nI (cntL f 10))) ∧ M' = M) := by
  refine mx_T.of1 (own := RX5) (ls := [some (.ref 109), some (.int (nI t)), none, none]) (by decide +kernel) rfl (Nat.le_of_ble_eq_true rfl) rfl rfl ?_
  refine mx_iconst (pc' := 1) (v := nI 0) dX5_countLanes_0 (by decide) rfl ?_
  refine mx_istore_n (pc' := 2) (ls' := [_, _, _, _]) dX5_countLanes_1 (by decide) (rfl) rfl rfl ?_
  refine mx_iconst (pc' := 3) (v := nI 0) dX5_countLanes_2 (by decide) rfl ?_
  refine mx_istore_n (pc' := 4) (ls' := [_, _, _, _]) dX5_countLanes_3 (by decide) (rfl) rfl rfl ?_
  exact l_X5_countLanes M t f ht hf hf2 11 0 (by omega) (by omega) trivial

set_option maxHeartbeats 1000000 in
set_option maxRecDepth 10000 in
theorem l_X5_widest (M : mx_M) (t f : Nat) (ht : t ≤ 30) (hf : M 110 t = nI f) (hf2 : f < 1024) : ∀ (k : Nat) (i : Nat), 10 < i + k → i ≤ 10 → True → mx_V cX5_widest RX5 4 (some .int) 4 4 [some (.ref 109), some (.int (nI t)), some (.int (nI (wdN f i))), some (.int (nI i))] [] M (fun v M' => v = some (.int (nI (wdN f 10))) ∧ M' = M) := by
  intro k
  induction k with
  | zero =>
    intro i hk hi _
    exact absurd hk (by omega)
  | succ k ih =>
    intro i hk hi _
    refine mx_iload_n (pc' := 5) dX5_widest_4 rfl rfl ?_
    refine mx_bipush (pc' := 7) (v := nI 10) dX5_widest_5 (by decide) rfl ?_
    refine mx_icmp_ge (tgt := 27) (pc' := 10) dX5_widest_7 (by decide) rfl (fun c7 => ?_) (fun c7 => ?_)
    · have c7 := (nI_leI (by omega) (by omega)).mp c7
      obtain rfl : i = 10 := by omega
      refine mx_iload_n (pc' := 28) dX5_widest_27 rfl rfl ?_
      refine mx_iret dX5_widest_28 (Or.inl rfl) ?_
      exact ⟨rfl, rfl⟩
    · have c7 := Nat.not_le.mp (fun z => c7 ((nI_leI (by omega) (by omega)).mpr z))
      have hw1 := wdN_le f i
      have hw2 := runF_le f i
      refine mx_iload_n (pc' := 11) dX5_widest_10 rfl rfl ?_
      refine mx_aload_n (pc' := 12) dX5_widest_11 rfl rfl ?_
      refine mx_iload_n (pc' := 13) dX5_widest_12 rfl rfl ?_
      refine mx_iload_n (pc' := 14) dX5_widest_13 rfl rfl ?_
      refine mx_callV (pc' := 17) dX5_widest_14 cl_X5_49 (rfl) (t_X5_widthFrom M t f i ht hf hf2 (by omega)) rfl (by decide) rfl (Nat.le_of_ble_eq_true rfl) rfl (fun v N14 hv => ?_)
      obtain ⟨rfl, hv⟩ := hv
      rw [hv]
      refine mx_mmax (pc' := 20) (v := nI (wdN f (i + 1))) dX5_widest_17 cl_m_max (by decide) (Nat.le_of_ble_eq_true rfl) (max_1 (by omega) (by omega)) rfl ?_
      refine mx_istore_n (pc' := 21) (ls' := [_, _, _, _]) dX5_widest_20 (by decide) (rfl) rfl rfl ?_
      refine mx_iinc (pc' := 24) (ls' := [_, _, _, _]) (v := nI (i + 1)) dX5_widest_21 rfl (nI_add i 1) (by decide) (rfl) rfl rfl ?_
      refine mx_goto (pc' := 4) dX5_widest_24 (by decide) ?_
      exact ih (i + 1) (by omega) (by omega) trivial

set_option maxHeartbeats 1000000 in
set_option maxRecDepth 10000 in
theorem t_X5_widest (M : mx_M) (t f : Nat) (ht : t ≤ 30) (hf : M 110 t = nI f) (hf2 : f < 1024) : mx_T yX5_widest cX5_widest 4 (some .int) 4 [.ref 109, .int (nI t)] M (fun v M' => v = some (.int (nI (wdN f 10))) ∧ M' = M) := by
  refine mx_T.of1 (own := RX5) (ls := [some (.ref 109), some (.int (nI t)), none, none]) (by decide +kernel) rfl (Nat.le_of_ble_eq_true rfl) rfl rfl ?_
  refine mx_iconst (pc' := 1) (v := nI 0) dX5_widest_0 (by decide) rfl ?_
  refine mx_istore_n (pc' := 2) (ls' := [_, _, _, _]) dX5_widest_1 (by decide) (rfl) rfl rfl ?_
  refine mx_iconst (pc' := 3) (v := nI 0) dX5_widest_2 (by decide) rfl ?_
  refine mx_istore_n (pc' := 4) (ls' := [_, _, _, _]) dX5_widest_3 (by decide) (rfl) rfl rfl ?_
  exact l_X5_widest M t f ht hf hf2 11 0 (by omega) (by omega) trivial

set_option maxHeartbeats 1000000 in
set_option maxRecDepth 10000 in
theorem l_X5_startOfWidest (M : mx_M) (t f : Nat) (ht : t ≤ 30) (hf : M 110 t = nI f) (hf2 : f < 1024) : ∀ (k : Nat) (i : Nat), 10 < i + k → i ≤ 10 → stW f = stR f (wdN f 10) (10 - i) i → mx_V cX5_startOfWidest RX5 4 (some .int) 5 8 [some (.ref 109), some (.int (nI t)), some (.int (nI (wdN f 10))), some (.int (nI i))] [] M (fun v M' => v = some (.int (stW f)) ∧ M' = M) := by
  intro k
  induction k with
  | zero =>
    intro i hk hi he
    exact absurd hk (by omega)
  | succ k ih =>
    intro i hk hi he
    refine mx_iload_n (pc' := 9) dX5_startOfWidest_8 rfl rfl ?_
    refine mx_bipush (pc' := 11) (v := nI 10) dX5_startOfWidest_9 (by decide) rfl ?_
    refine mx_icmp_ge (tgt := 36) (pc' := 14) dX5_startOfWidest_11 (by decide) rfl (fun c11 => ?_) (fun c11 => ?_)
    · have c11 := (nI_leI (by omega) (by omega)).mp c11
      obtain rfl : i = 10 := by omega
      refine mx_bipush (pc' := 38) (v := (-4)) dX5_startOfWidest_36 (by decide) rfl ?_
      refine mx_iret dX5_startOfWidest_38 (Or.inl rfl) ?_
      exact ⟨by rw [he]; rfl, rfl⟩
    · have c11 := Nat.not_le.mp (fun z => c11 ((nI_leI (by omega) (by omega)).mpr z))
      have hw1 := wdN_le f 10
      have hw2 := runF_le f i
      refine mx_iload_n (pc' := 15) dX5_startOfWidest_14 rfl rfl ?_
      refine mx_if_le (tgt := 30) (pc' := 18) dX5_startOfWidest_15 (by decide) rfl (fun c15 => ?_) (fun c15 => ?_)
      · have hno : ¬ (0 < wdN f 10 ∧ runF f i = wdN f 10) := fun z => absurd c15 (nI_nle z.1 (by omega))
        refine mx_iinc (pc' := 33) (ls' := [_, _, _, _]) (v := nI (i + 1)) dX5_startOfWidest_30 rfl (nI_add i 1) (by decide) (rfl) rfl rfl ?_
        refine mx_goto (pc' := 8) dX5_startOfWidest_33 (by decide) ?_
        refine ih (i + 1) (by omega) (by omega) ?_
        rw [he, show 10 - i = (10 - (i + 1)) + 1 by omega]
        exact if_neg hno
      · have c15 : 0 < wdN f 10 := Nat.pos_of_ne_zero (fun z => c15 (by rw [z]; decide))
        refine mx_aload_n (pc' := 19) dX5_startOfWidest_18 rfl rfl ?_
        refine mx_iload_n (pc' := 20) dX5_startOfWidest_19 rfl rfl ?_
        refine mx_iload_n (pc' := 21) dX5_startOfWidest_20 rfl rfl ?_
        refine mx_callV (pc' := 24) dX5_startOfWidest_21 cl_X5_49 (rfl) (t_X5_widthFrom M t f i ht hf hf2 (by omega)) rfl (by decide) rfl (Nat.le_of_ble_eq_true rfl) rfl (fun v N21 hv => ?_)
        obtain ⟨rfl, hv⟩ := hv
        rw [hv]
        refine mx_iload_n (pc' := 25) dX5_startOfWidest_24 rfl rfl ?_
        refine mx_icmp_ne (tgt := 30) (pc' := 28) dX5_startOfWidest_25 (by decide) rfl (fun c25 => ?_) (fun c25 => ?_)
        · have c25 : ¬ _ := fun z => c25 ((nI_eq (by omega) (by omega)).mpr z)
          have hno : ¬ (0 < wdN f 10 ∧ runF f i = wdN f 10) := fun z => c25 z.2
          refine mx_iinc (pc' := 33) (ls' := [_, _, _, _]) (v := nI (i + 1)) dX5_startOfWidest_30 rfl (nI_add i 1) (by decide) (rfl) rfl rfl ?_
          refine mx_goto (pc' := 8) dX5_startOfWidest_33 (by decide) ?_
          refine ih (i + 1) (by omega) (by omega) ?_
          rw [he, show 10 - i = (10 - (i + 1)) + 1 by omega]
          exact if_neg hno
        · have c25 := (nI_eq (by omega) (by omega)).mp c25
          refine mx_iload_n (pc' := 29) dX5_startOfWidest_28 rfl rfl ?_
          refine mx_iret dX5_startOfWidest_29 (Or.inl rfl) ?_
          refine ⟨?_, rfl⟩
          rw [he, show 10 - i = (10 - (i + 1)) + 1 by omega]
          exact congrArg (fun z => some (Value.int z)) (if_pos ⟨c15, c25⟩).symm

set_option maxHeartbeats 1000000 in
set_option maxRecDepth 10000 in
theorem t_X5_startOfWidest (M : mx_M) (t f : Nat) (ht : t ≤ 30) (hf : M 110 t = nI f) (hf2 : f < 1024) : mx_T yX5_startOfWidest cX5_startOfWidest 4 (some .int) 5 [.ref 109, .int (nI t)] M (fun v M' => v = some (.int (stW f)) ∧ M' = M) := by
  refine mx_T.of1 (own := RX5) (ls := [some (.ref 109), some (.int (nI t)), none, none]) (by decide +kernel) rfl (Nat.le_of_ble_eq_true rfl) rfl rfl ?_
  refine mx_aload_n (pc' := 1) dX5_startOfWidest_0 rfl rfl ?_
  refine mx_iload_n (pc' := 2) dX5_startOfWidest_1 rfl rfl ?_
  refine mx_callV (pc' := 5) dX5_startOfWidest_2 cl_X5_58 (rfl) (t_X5_widest M t f ht hf hf2) rfl (by decide) rfl (Nat.le_of_ble_eq_true rfl) rfl (fun v N2 hv => ?_)
  obtain ⟨rfl, hv⟩ := hv
  rw [hv]
  refine mx_istore_n (pc' := 6) (ls' := [_, _, _, _]) dX5_startOfWidest_5 (by decide) (rfl) rfl rfl ?_
  refine mx_iconst (pc' := 7) (v := nI 0) dX5_startOfWidest_6 (by decide) rfl ?_
  refine mx_istore_n (pc' := 8) (ls' := [_, _, _, _]) dX5_startOfWidest_7 (by decide) (rfl) rfl rfl ?_
  exact l_X5_startOfWidest M t f ht hf hf2 11 0 (by omega) (by omega) rfl

