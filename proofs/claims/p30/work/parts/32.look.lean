/-! look: a number made of all that is shown of the field -/
def Y0 (F : FS) : Sy := (F, [], none, [])
def lkC (F : FS) : Nat → Int64
  | 0 => 389
  | n + 1 => 31 * lkC F n + (cntV (Y0 F) n).toInt64
def lkEi (F : FS) (h : Int64) (n : Nat) : Nat → Int64
  | 0 => h
  | k + 1 => 31 * lkEi F h n k + (oEmitterOf (nI n) (nI k) (Y0 F)).toInt64
def lkE (F : FS) : Nat → Int64
  | 0 => lkC F 17
  | n + 1 => lkEi F (lkE F n) n 4
def lkBi (F : FS) (h : Int64) (n : Nat) : Nat → Int64
  | 0 => h
  | k + 1 => 31 * lkBi F h n k + (oBullet (nI n) (nI k) (Y0 F)).toInt64
def lkB (F : FS) : Nat → Int64
  | 0 => lkE F F.1.length
  | n + 1 => lkBi F (lkB F n) n 5
def lkV (F : FS) : Int64 := lkB F F.2.1.length
theorem cnt_Y0 (Y : Sy) : ∀ n, n < 17 → cntV Y n = cntV (Y0 Y.1) n
  | 0, _ => rfl | 1, _ => rfl | 2, _ => rfl | 3, _ => rfl | 4, _ => rfl | 5, _ => rfl | 6, _ => rfl | 7, _ => rfl | 8, _ => rfl | 9, _ => rfl | 10, _ => rfl | 11, _ => rfl | 12, _ => rfl | 13, _ => rfl | 14, _ => rfl | 15, _ => rfl | 16, _ => rfl
  | n + 17, h => absurd h (by omega)
theorem t_cn (M : mx_M) (Y : Sy) (hC : CoA M Y) {n : Nat} (hn : n < 17) : mx_T yX7_count cX7_count 2 (some .int) 1 [.ref 0, .int (nI n)] M (fun v M' => v = some (.int (cntV (Y0 Y.1) n)) ∧ CoA M' Y ∧ Mo M M') := (t_X7_count M Y hC (nI n)).post fun v M' h => ⟨h.1.trans (congrArg (fun z => some (Value.int z)) ((oCount_n (by omega) Y).trans (cnt_Y0 Y n hn))), h.2⟩
theorem t_emn (M : mx_M) (Y : Sy) (hC : CoA M Y) (ht : Y.1.2.2.1 3 + 100 < 2147483648) (x y : Int32) : mx_T yX7_emitterOf cX7_emitterOf 3 (some .int) 3 [.ref 0, .int x, .int y] M (fun v M' => v = some (.int (oEmitterOf x y (Y0 Y.1))) ∧ CoA M' Y ∧ Mo M M') := t_X7_emitterOf M Y hC ht x y
theorem t_bun (M : mx_M) (Y : Sy) (hC : CoA M Y) (x y : Int32) : mx_T yX7_bullet cX7_bullet 3 (some .int) 2 [.ref 0, .int x, .int y] M (fun v M' => v = some (.int (oBullet x y (Y0 Y.1))) ∧ CoA M' Y ∧ Mo M M') := t_X7_bullet M Y hC x y
set_option maxHeartbeats 1000000 in
set_option maxRecDepth 10000 in
theorem l_lookB1 (Y : Sy) (ht : Y.1.2.2.1 3 + 100 < 2147483648) (h : Int64) (n : Nat) (Q : Option Value → mx_M → Prop) (kk : ∀ M1, CoA M1 Y → mx_V cL_look RL 5 (some .long) 4 119 [some (.ref 0), some (.long (lkBi Y.1 h n 5)), none, some (.int (nI n)), some (.int (nI 5))] [] M1 Q) : ∀ (k : Nat) (i : Nat) (M1 : mx_M), 5 < i + k → i ≤ 5 → CoA M1 Y → mx_V cL_look RL 5 (some .long) 4 92 [some (.ref 0), some (.long (lkBi Y.1 h n i)), none, some (.int (nI n)), some (.int (nI i))] [] M1 Q := by
  intro k
  induction k with
  | zero =>
    intro i M1 hk hi hC
    exact absurd hk (by omega)
  | succ k ih =>
    intro i M1 hk hi hC
    refine mx_iload (pc' := 94) dL_look_92 rfl rfl ?_
    refine mx_iconst (pc' := 95) (v := nI 5) dL_look_94 (by decide) rfl ?_
    refine mx_icmp_ge (tgt := 119) (pc' := 98) dL_look_95 (by decide) rfl (fun c95 => ?_) (fun c95 => ?_)
    · have c95 := (nI_leI (by omega) (by omega)).mp c95
      have hiN : i = 5 := by omega
      subst hiN
      exact kk M1 hC
    · have c95 := Nat.not_le.mp (fun z => c95 ((nI_leI (by omega) (by omega)).mpr z))
      refine mx_ldc2l (pc' := 101) dL_look_98 cl_l11 rfl ?_
      refine mx_lload_n (pc' := 102) dL_look_101 rfl rfl ?_
      refine mx_lmul (pc' := 103) dL_look_102 rfl ?_
      refine mx_aload_n (pc' := 104) dL_look_103 rfl rfl ?_
      refine mx_iload_n (pc' := 105) dL_look_104 rfl rfl ?_
      refine mx_iload (pc' := 107) dL_look_105 rfl rfl ?_
      refine mx_callV (pc' := 110) dL_look_107 cl_L_23 (rfl) (t_bun _ Y hC _ _) rfl (by decide) rfl (Nat.le_of_ble_eq_true rfl) rfl (fun v N107 hv => ?_)
      obtain ⟨rfl, hC, -⟩ := hv
      refine mx_i2l (pc' := 111) dL_look_110 rfl ?_
      refine mx_ladd (pc' := 112) dL_look_111 rfl ?_
      refine mx_lstore_n (pc' := 113) (ls' := [_, _, _, _, _]) dL_look_112 (by decide) rfl rfl rfl ?_
      refine mx_xiinc (pc' := 116) (ls' := [_, _, _, _, _]) (v := nI (i + 1)) dL_look_113 rfl (nI_add i 1) (by decide) (rfl) rfl rfl ?_
      refine mx_goto (pc' := 92) dL_look_116 (by decide) ?_
      exact ih (i + 1) _ (by omega) (by omega) hC

set_option maxHeartbeats 1000000 in
set_option maxRecDepth 10000 in
theorem l_lookE1 (Y : Sy) (ht : Y.1.2.2.1 3 + 100 < 2147483648) (h : Int64) (n : Nat) (Q : Option Value → mx_M → Prop) (kk : ∀ M1, CoA M1 Y → mx_V cL_look RL 5 (some .long) 4 72 [some (.ref 0), some (.long (lkEi Y.1 h n 4)), none, some (.int (nI n)), some (.int (nI 4))] [] M1 Q) : ∀ (k : Nat) (i : Nat) (M1 : mx_M), 4 < i + k → i ≤ 4 → CoA M1 Y → mx_V cL_look RL 5 (some .long) 4 45 [some (.ref 0), some (.long (lkEi Y.1 h n i)), none, some (.int (nI n)), some (.int (nI i))] [] M1 Q := by
  intro k
  induction k with
  | zero =>
    intro i M1 hk hi hC
    exact absurd hk (by omega)
  | succ k ih =>
    intro i M1 hk hi hC
    refine mx_iload (pc' := 47) dL_look_45 rfl rfl ?_
    refine mx_iconst (pc' := 48) (v := nI 4) dL_look_47 (by decide) rfl ?_
    refine mx_icmp_ge (tgt := 72) (pc' := 51) dL_look_48 (by decide) rfl (fun c48 => ?_) (fun c48 => ?_)
    · have c48 := (nI_leI (by omega) (by omega)).mp c48
      have hiN : i = 4 := by omega
      subst hiN
      exact kk M1 hC
    · have c48 := Nat.not_le.mp (fun z => c48 ((nI_leI (by omega) (by omega)).mpr z))
      refine mx_ldc2l (pc' := 54) dL_look_51 cl_l11 rfl ?_
      refine mx_lload_n (pc' := 55) dL_look_54 rfl rfl ?_
      refine mx_lmul (pc' := 56) dL_look_55 rfl ?_
      refine mx_aload_n (pc' := 57) dL_look_56 rfl rfl ?_
      refine mx_iload_n (pc' := 58) dL_look_57 rfl rfl ?_
      refine mx_iload (pc' := 60) dL_look_58 rfl rfl ?_
      refine mx_callV (pc' := 63) dL_look_60 cl_L_19 (rfl) (t_emn _ Y hC ht _ _) rfl (by decide) rfl (Nat.le_of_ble_eq_true rfl) rfl (fun v N60 hv => ?_)
      obtain ⟨rfl, hC, -⟩ := hv
      refine mx_i2l (pc' := 64) dL_look_63 rfl ?_
      refine mx_ladd (pc' := 65) dL_look_64 rfl ?_
      refine mx_lstore_n (pc' := 66) (ls' := [_, _, _, _, _]) dL_look_65 (by decide) rfl rfl rfl ?_
      refine mx_xiinc (pc' := 69) (ls' := [_, _, _, _, _]) (v := nI (i + 1)) dL_look_66 rfl (nI_add i 1) (by decide) (rfl) rfl rfl ?_
      refine mx_goto (pc' := 45) dL_look_69 (by decide) ?_
      exact ih (i + 1) _ (by omega) (by omega) hC

set_option maxHeartbeats 1000000 in
set_option maxRecDepth 10000 in
theorem l_lookB (Y : Sy) (ht : Y.1.2.2.1 3 + 100 < 2147483648) (hl : Y.1.2.1.length ≤ 60) (Q : Option Value → mx_M → Prop) (kk : ∀ M1 z, mx_c1 [z] = true → CoA M1 Y → mx_V cL_look RL 5 (some .long) 4 125 [some (.ref 0), some (.long (lkB Y.1 Y.1.2.1.length)), none, some (.int (nI Y.1.2.1.length)), z] [] M1 Q) : ∀ (k : Nat) (i : Nat) (z : Option Value) (M1 : mx_M), Y.1.2.1.length < i + k → i ≤ Y.1.2.1.length → CoA M1 Y → mx_c1 [z] = true → mx_V cL_look RL 5 (some .long) 4 80 [some (.ref 0), some (.long (lkB Y.1 i)), none, some (.int (nI i)), z] [] M1 Q := by
  intro k
  induction k with
  | zero =>
    intro i z M1 hk hi hC hz
    exact absurd hk (by omega)
  | succ k ih =>
    intro i z M1 hk hi hC hz
    refine mx_iload_n (pc' := 81) dL_look_80 rfl rfl ?_
    refine mx_aload_n (pc' := 82) dL_look_81 rfl rfl ?_
    refine mx_iconst (pc' := 83) (v := nI 1) dL_look_82 (by decide) rfl ?_
    refine mx_callV (pc' := 86) dL_look_83 cl_L_13 (rfl) (t_c1 _ Y hC) rfl (by decide) rfl (Nat.le_of_ble_eq_true rfl) rfl (fun v N83 hv => ?_)
    obtain ⟨rfl, hC, -⟩ := hv
    refine mx_icmp_ge (tgt := 125) (pc' := 89) dL_look_86 (by decide) rfl (fun c86 => ?_) (fun c86 => ?_)
    · have c86 := (nI_leI (by omega) (by omega)).mp c86
      have hiN : i = Y.1.2.1.length := by omega
      subst hiN
      exact kk _ z hz hC
    · have c86 := Nat.not_le.mp (fun z => c86 ((nI_leI (by omega) (by omega)).mpr z))
      refine mx_iconst (pc' := 90) (v := nI 0) dL_look_89 (by decide) rfl ?_
      refine mx_xistore (pc' := 92) (ls' := [_, _, _, _, _]) dL_look_90 (by decide) rfl rfl rfl ?_
      refine l_lookB1 Y ht (lkB Y.1 i) i Q (fun M2 hC => ?_) 9 0 _ (by omega) (by omega) hC
      refine mx_xiinc (pc' := 122) (ls' := [_, _, _, _, _]) (v := nI (i + 1)) dL_look_119 rfl (nI_add i 1) (by decide) (rfl) rfl rfl ?_
      refine mx_goto (pc' := 80) dL_look_122 (by decide) ?_
      exact ih (i + 1) _ _ (by omega) (by omega) hC rfl

set_option maxHeartbeats 1000000 in
set_option maxRecDepth 10000 in
theorem l_lookE (Y : Sy) (ht : Y.1.2.2.1 3 + 100 < 2147483648) (hl : Y.1.1.length ≤ 4) (Q : Option Value → mx_M → Prop) (kk : ∀ M1 z, mx_c1 [z] = true → CoA M1 Y → mx_V cL_look RL 5 (some .long) 4 78 [some (.ref 0), some (.long (lkE Y.1 Y.1.1.length)), none, some (.int (nI Y.1.1.length)), z] [] M1 Q) : ∀ (k : Nat) (i : Nat) (z : Option Value) (M1 : mx_M), Y.1.1.length < i + k → i ≤ Y.1.1.length → CoA M1 Y → mx_c1 [z] = true → mx_V cL_look RL 5 (some .long) 4 33 [some (.ref 0), some (.long (lkE Y.1 i)), none, some (.int (nI i)), z] [] M1 Q := by
  intro k
  induction k with
  | zero =>
    intro i z M1 hk hi hC hz
    exact absurd hk (by omega)
  | succ k ih =>
    intro i z M1 hk hi hC hz
    refine mx_iload_n (pc' := 34) dL_look_33 rfl rfl ?_
    refine mx_aload_n (pc' := 35) dL_look_34 rfl rfl ?_
    refine mx_iconst (pc' := 36) (v := nI 0) dL_look_35 (by decide) rfl ?_
    refine mx_callV (pc' := 39) dL_look_36 cl_L_13 (rfl) (t_c0 _ Y hC) rfl (by decide) rfl (Nat.le_of_ble_eq_true rfl) rfl (fun v N36 hv => ?_)
    obtain ⟨rfl, hC, -⟩ := hv
    refine mx_icmp_ge (tgt := 78) (pc' := 42) dL_look_39 (by decide) rfl (fun c39 => ?_) (fun c39 => ?_)
    · have c39 := (nI_leI (by omega) (by omega)).mp c39
      have hiN : i = Y.1.1.length := by omega
      subst hiN
      exact kk _ z hz hC
    · have c39 := Nat.not_le.mp (fun z => c39 ((nI_leI (by omega) (by omega)).mpr z))
      refine mx_iconst (pc' := 43) (v := nI 0) dL_look_42 (by decide) rfl ?_
      refine mx_xistore (pc' := 45) (ls' := [_, _, _, _, _]) dL_look_43 (by decide) rfl rfl rfl ?_
      refine l_lookE1 Y ht (lkE Y.1 i) i Q (fun M2 hC => ?_) 9 0 _ (by omega) (by omega) hC
      refine mx_xiinc (pc' := 75) (ls' := [_, _, _, _, _]) (v := nI (i + 1)) dL_look_72 rfl (nI_add i 1) (by decide) (rfl) rfl rfl ?_
      refine mx_goto (pc' := 33) dL_look_75 (by decide) ?_
      exact ih (i + 1) _ _ (by omega) (by omega) hC rfl

set_option maxHeartbeats 1000000 in
set_option maxRecDepth 10000 in
theorem l_lookC (Y : Sy) (ht : Y.1.2.2.1 3 + 100 < 2147483648) (hE : Y.1.1.length ≤ 4) (hB : Y.1.2.1.length ≤ 60) (Q : Option Value → mx_M → Prop) (kq : ∀ M1, CoA M1 Y → Q (some (.long (lkV Y.1))) M1) : ∀ (k : Nat) (i : Nat) (M1 : mx_M), 17 < i + k → i ≤ 17 → CoA M1 Y → mx_V cL_look RL 5 (some .long) 4 6 [some (.ref 0), some (.long (lkC Y.1 i)), none, some (.int (nI i)), none] [] M1 Q := by
  intro k
  induction k with
  | zero =>
    intro i M1 hk hi hC
    exact absurd hk (by omega)
  | succ k ih =>
    intro i M1 hk hi hC
    refine mx_iload_n (pc' := 7) dL_look_6 rfl rfl ?_
    refine mx_bipush (pc' := 9) (v := nI 17) dL_look_7 (by decide) rfl ?_
    refine mx_icmp_ge (tgt := 31) (pc' := 12) dL_look_9 (by decide) rfl (fun c9 => ?_) (fun c9 => ?_)
    · have c9 := (nI_leI (by omega) (by omega)).mp c9
      have hiN : i = 17 := by omega
      subst hiN
      refine mx_iconst (pc' := 32) (v := nI 0) dL_look_31 (by decide) rfl ?_
      refine mx_xistore_n (pc' := 33) (ls' := [_, _, _, _, _]) dL_look_32 (by decide) rfl rfl rfl ?_
      refine l_lookE Y ht hE Q (fun M2 z2 hz2 hC => ?_) 5 0 none _ (by omega) (by omega) hC rfl
      refine mx_iconst (pc' := 79) (v := nI 0) dL_look_78 (by decide) rfl ?_
      refine mx_xistore_n (pc' := 80) (ls' := [_, _, _, _, _]) dL_look_79 (by decide) rfl rfl rfl ?_
      refine l_lookB Y ht hB Q (fun M3 z3 hz3 hC => ?_) 61 0 _ _ (by omega) (by omega) hC hz2
      refine mx_lload_n (pc' := 126) dL_look_125 rfl rfl ?_
      refine mx_lret dL_look_126 rfl ?_
      exact kq M3 hC
    · have c9 := Nat.not_le.mp (fun z => c9 ((nI_leI (by omega) (by omega)).mpr z))
      refine mx_ldc2l (pc' := 15) dL_look_12 cl_l11 rfl ?_
      refine mx_lload_n (pc' := 16) dL_look_15 rfl rfl ?_
      refine mx_lmul (pc' := 17) dL_look_16 rfl ?_
      refine mx_aload_n (pc' := 18) dL_look_17 rfl rfl ?_
      refine mx_iload_n (pc' := 19) dL_look_18 rfl rfl ?_
      refine mx_callV (pc' := 22) dL_look_19 cl_L_13 (rfl) (t_cn _ Y hC (by omega)) rfl (by decide) rfl (Nat.le_of_ble_eq_true rfl) rfl (fun v N19 hv => ?_)
      obtain ⟨rfl, hC, -⟩ := hv
      refine mx_i2l (pc' := 23) dL_look_22 rfl ?_
      refine mx_ladd (pc' := 24) dL_look_23 rfl ?_
      refine mx_lstore_n (pc' := 25) (ls' := [_, _, _, _, _]) dL_look_24 (by decide) rfl rfl rfl ?_
      refine mx_xiinc (pc' := 28) (ls' := [_, _, _, _, _]) (v := nI (i + 1)) dL_look_25 rfl (nI_add i 1) (by decide) (rfl) rfl rfl ?_
      refine mx_goto (pc' := 6) dL_look_28 (by decide) ?_
      exact ih (i + 1) _ (by omega) (by omega) hC

set_option maxHeartbeats 1000000 in
set_option maxRecDepth 10000 in
theorem t_L_look (M : mx_M) (Y : Sy) (hC : CoA M Y) (ht : Y.1.2.2.1 3 + 100 < 2147483648) : mx_T yL_look cL_look 5 (some .long) 4 [.ref 0] M (fun v M' => v = some (.long (lkV Y.1)) ∧ CoA M' Y) := by
  refine mx_T.of1 (own := RL) (ls := [some (.ref 0), none, none, none, none]) (by decide +kernel) rfl (Nat.le_of_ble_eq_true rfl) rfl rfl ?_
  refine mx_ldc2l (pc' := 3) dL_look_0 cl_l9 rfl ?_
  refine mx_lstore_n (pc' := 4) (ls' := [_, _, _, _, _]) dL_look_3 (by decide) rfl rfl rfl ?_
  refine mx_iconst (pc' := 5) (v := nI 0) dL_look_4 (by decide) rfl ?_
  refine mx_xistore_n (pc' := 6) (ls' := [_, _, _, _, _]) dL_look_5 (by decide) rfl rfl rfl ?_
  exact l_lookC Y ht hC.1.1.2.1.1 hC.1.2.1.2.1.1 _ (fun M1 h => ⟨rfl, h⟩) 18 0 _ (by omega) (by omega) hC

