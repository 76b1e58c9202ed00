/-! ways -/
def rch (g : Nat → Nat) (p : Nat) : Nat → Nat
  | 0 => 2 ^ p
  | t + 1 => spr (rch g p t) &&& g (t + 1)
def org (g : Nat → Nat) (T c : Nat) : Nat → Nat
  | 0 => 2 ^ c
  | k + 1 => spr (org g T c k &&& g (T - k))
theorem p2_lt : ∀ c, c < 10 → 2 ^ c < 1024 := by decide
theorem rch_lt {g : Nat → Nat} {p : Nat} (hp : p < 10) (hg : ∀ t, g t < 1024) : ∀ t, rch g p t < 1024
  | 0 => p2_lt p hp
  | t + 1 => and_lt (hg (t + 1))
theorem org_lt {g : Nat → Nat} {T c : Nat} (hc : c < 10) (hg : ∀ t, g t < 1024) : ∀ k, org g T c k < 2048
  | 0 => Nat.lt_trans (p2_lt c hc) (by decide)
  | k + 1 => spr_2 _ (and_lt (hg _))
def lwR (g : Nat → Nat) (p : Nat) : Nat → Nat → Nat
  | 0, _ => 30
  | n + 1, t => if rch g p t = 0 then t - 1 else lwR g p n (t + 1)
def endB (g : Nat → Nat) (p T i : Nat) : Nat := (List.range i).countP (fun c => (org g T c T).testBit p)
theorem rows_sh : ∀ t, t < 31 → mx_sh (112 + t) = .inl (0, 10) := by decide +kernel
set_option maxHeartbeats 1000000 in
set_option maxRecDepth 10000 in
theorem t_X5_spread (M : mx_M) (f : Nat) (hf : f < 1024) : mx_T yX5_spread cX5_spread 1 (some .int) 1 [.int (nI f)] M (fun v M' => v = some (.int (nI (spr f))) ∧ M' = M) := by
  refine mx_T.of1 (own := RX5) (ls := [some (.int (nI f))]) (by decide +kernel) rfl (Nat.le_of_ble_eq_true rfl) rfl rfl ?_
  refine mx_iload_n (pc' := 1) dX5_spread_0 rfl rfl ?_
  refine mx_iload_n (pc' := 2) dX5_spread_1 rfl rfl ?_
  refine mx_iconst (pc' := 3) (v := nI 1) dX5_spread_2 (by decide) rfl ?_
  refine mx_ishl (pc' := 4) dX5_spread_3 (rfl) rfl ?_
  refine mx_ior (pc' := 5) dX5_spread_4 (rfl) rfl ?_
  refine mx_iload_n (pc' := 6) dX5_spread_5 rfl rfl ?_
  refine mx_iconst (pc' := 7) (v := nI 1) dX5_spread_6 (by decide) rfl ?_
  refine mx_ishr (pc' := 8) dX5_spread_7 (rfl) rfl ?_
  refine mx_ior (pc' := 9) (v := nI (spr f)) dX5_spread_8 (spr_1 f hf) rfl ?_
  refine mx_iret dX5_spread_9 (Or.inl rfl) ?_
  exact ⟨rfl, rfl⟩

set_option maxHeartbeats 1000000 in
set_option maxRecDepth 10000 in
theorem l_X5_endsForwards (M : mx_M) (g : Nat → Nat) (T : Nat) (hT : T ≤ 30) (hg : ∀ t, g t < 1024) (hL : LaA M T g) (p : Nat) (hp : p < 10) : ∀ (k : Nat) (n : Nat), T < n + k → n ≤ T → True → mx_V cX5_endsForwards RX5 5 (some .int) 2 7 [some (.ref 109), some (.int (nI p)), some (.int (nI T)), some (.int (nI (rch g p n))), some (.int (nI (n + 1)))] [] M (fun v M' => v = some (.int (nI (pop10 (rch g p T)))) ∧ M' = M) := by
  intro k
  induction k with
  | zero =>
    intro n hk hi _
    exact absurd hk (by omega)
  | succ k ih =>
    intro n hk hi _
    refine mx_iload (pc' := 9) dX5_endsForwards_7 rfl rfl ?_
    refine mx_iload_n (pc' := 10) dX5_endsForwards_9 rfl rfl ?_
    refine mx_icmp_gt (tgt := 32) (pc' := 13) dX5_endsForwards_10 (by decide) rfl (fun c10 => ?_) (fun c10 => ?_)
    · have c10 := (nI_ltI (by omega) (by omega)).mp c10
      obtain rfl : n = T := by omega
      have hr := rch_lt hp hg n
      refine mx_iload_n (pc' := 33) dX5_endsForwards_32 rfl rfl ?_
      refine mx_callS (pc' := 36) dX5_endsForwards_33 cl_X5_35 (t_J6_bitCount_0f7a4 M _) rfl (by decide) rfl (Nat.le_of_ble_eq_true rfl) rfl (fun v N33 hv => ?_)
      obtain ⟨rfl, hv⟩ := hv
      rw [hv, bc_pop _ hr]
      refine mx_iret dX5_endsForwards_36 (Or.inl rfl) ?_
      exact ⟨rfl, rfl⟩
    · have c10 := Nat.not_lt.mp (fun z => c10 ((nI_ltI (by omega) (by omega)).mpr z))
      have hr := rch_lt hp hg n
      refine mx_iload_n (pc' := 14) dX5_endsForwards_13 rfl rfl ?_
      refine mx_callS (pc' := 17) dX5_endsForwards_14 cl_X5_61 (t_X5_spread M _ hr) rfl (by decide) rfl (Nat.le_of_ble_eq_true rfl) rfl (fun v N14 hv => ?_)
      obtain ⟨rfl, hv⟩ := hv
      rw [hv]
      refine mx_aload_n (pc' := 18) dX5_endsForwards_17 rfl rfl ?_
      refine mx_getr (pc' := 21) dX5_endsForwards_18 fl_X5_9 (rfl) (by rfl) rfl ?_
      refine mx_iload (pc' := 23) dX5_endsForwards_21 rfl rfl ?_
      refine mx_iald (pc' := 24) (v := nI (g (n + 1))) dX5_endsForwards_23 (rfl) (rfl) (by omega) ((hL (n + 1) (by omega)).1) rfl ?_
      refine mx_iand (pc' := 25) (v := nI (rch g p (n + 1))) dX5_endsForwards_24 (nI_and _ _) rfl ?_
      refine mx_istore_n (pc' := 26) (ls' := [_, _, _, _, _]) dX5_endsForwards_25 (by decide) (rfl) rfl rfl ?_
      refine mx_iinc (pc' := 29) (ls' := [_, _, _, _, _]) (v := nI (n + 1 + 1)) dX5_endsForwards_26 rfl (nI_add _ 1) (by decide) (rfl) rfl rfl ?_
      refine mx_goto (pc' := 7) dX5_endsForwards_29 (by decide) ?_
      exact ih (n + 1) (by omega) (by omega) trivial

set_option maxHeartbeats 1000000 in
set_option maxRecDepth 10000 in
theorem t_X5_endsForwards (M : mx_M) (g : Nat → Nat) (T : Nat) (hT : T ≤ 30) (hg : ∀ t, g t < 1024) (hL : LaA M T g) (p : Nat) (hp : p < 10) : mx_T yX5_endsForwards cX5_endsForwards 5 (some .int) 2 [.ref 109, .int (nI p), .int (nI T)] M (fun v M' => v = some (.int (nI (pop10 (rch g p T)))) ∧ M' = M) := by
  refine mx_T.of1 (own := RX5) (ls := [some (.ref 109), some (.int (nI p)), some (.int (nI T)), none, none]) (by decide +kernel) rfl (Nat.le_of_ble_eq_true rfl) rfl rfl ?_
  refine mx_iconst (pc' := 1) (v := nI 1) dX5_endsForwards_0 (by decide) rfl ?_
  refine mx_iload_n (pc' := 2) dX5_endsForwards_1 rfl rfl ?_
  refine mx_ishl (pc' := 3) (v := nI (2 ^ p)) dX5_endsForwards_2 (p2_1 p hp) rfl ?_
  refine mx_istore_n (pc' := 4) (ls' := [_, _, _, _, _]) dX5_endsForwards_3 (by decide) (rfl) rfl rfl ?_
  refine mx_iconst (pc' := 5) (v := nI 1) dX5_endsForwards_4 (by decide) rfl ?_
  refine mx_istore (pc' := 7) (ls' := [_, _, _, _, _]) dX5_endsForwards_5 (by decide) (rfl) rfl rfl ?_
  exact l_X5_endsForwards M g T hT hg hL p hp (T + 1) 0 (by omega) (by omega) trivial

set_option maxHeartbeats 1000000 in
set_option maxRecDepth 10000 in
theorem l_X5_leadsBack (M : mx_M) (g : Nat → Nat) (T : Nat) (hT : T ≤ 30) (hg : ∀ t, g t < 1024) (hL : LaA M T g) (c p : Nat) (hc : c < 10) (hp : p < 10) : ∀ (k : Nat) (n : Nat), T < n + k → n ≤ T → True → mx_V cX5_leadsBack RX5 6 (some .boolean) 2 8 [some (.ref 109), some (.int (nI c)), some (.int (nI p)), some (.int (nI T)), some (.int (nI (org g T c n))), some (.int (nI (T - n)))] [] M (fun v M' => v = some (.int (bI ((org g T c T).testBit p = true))) ∧ M' = M) := by
  intro k
  induction k with
  | zero =>
    intro n hk hi _
    exact absurd hk (by omega)
  | succ k ih =>
    intro n hk hi _
    refine mx_iload (pc' := 10) dX5_leadsBack_8 rfl rfl ?_
    refine mx_iconst (pc' := 11) (v := nI 1) dX5_leadsBack_10 (by decide) rfl ?_
    refine mx_icmp_lt (tgt := 35) (pc' := 14) dX5_leadsBack_11 (by decide) rfl (fun c11 => ?_) (fun c11 => ?_)
    · have c11 := (nI_ltI (by omega) (by omega)).mp c11
      obtain rfl : n = T := by omega
      have hr := org_lt (T := n) hc hg n
      refine mx_iload (pc' := 37) dX5_leadsBack_35 rfl rfl ?_
      refine mx_iload_n (pc' := 38) dX5_leadsBack_37 rfl rfl ?_
      refine mx_ishr (pc' := 39) dX5_leadsBack_38 (rfl) rfl ?_
      refine mx_iconst (pc' := 40) (v := nI 1) dX5_leadsBack_39 (by decide) rfl ?_
      refine mx_iand (pc' := 41) (v := nI ((org g n c n).testBit p).toNat) dX5_leadsBack_40 (tb_1 _ hr p hp) rfl ?_
      refine mx_iconst (pc' := 42) (v := nI 1) dX5_leadsBack_41 (by decide) rfl ?_
      refine mx_icmp_ne (tgt := 49) (pc' := 45) dX5_leadsBack_42 (by decide) rfl (fun c42 => ?_) (fun c42 => ?_)
      · have c42 : ¬ (org g n c n).testBit p = true := fun z => c42 (by rw [z]; rfl)
        refine mx_iconst (pc' := 50) (v := nI 0) dX5_leadsBack_49 (by decide) rfl ?_
        refine mx_iret dX5_leadsBack_50 (Or.inr ⟨rfl, by decide⟩) ?_
        first | exact ⟨bI_rt c42, rfl⟩ | exact ⟨bI_rf c42, rfl⟩
      · have c42 : (org g n c n).testBit p = true := by
          cases z : (org g n c n).testBit p with
          | true => rfl
          | false => rw [z] at c42; exact absurd c42 (by decide)
        refine mx_iconst (pc' := 46) (v := nI 1) dX5_leadsBack_45 (by decide) rfl ?_
        refine mx_goto (pc' := 50) dX5_leadsBack_46 (by decide) ?_
        refine mx_iret dX5_leadsBack_50 (Or.inr ⟨rfl, by decide⟩) ?_
        first | exact ⟨bI_rt c42, rfl⟩ | exact ⟨bI_rf c42, rfl⟩
    · have c11 := Nat.not_lt.mp (fun z => c11 ((nI_ltI (by omega) (by omega)).mpr z))
      refine mx_iload (pc' := 16) dX5_leadsBack_14 rfl rfl ?_
      refine mx_aload_n (pc' := 17) dX5_leadsBack_16 rfl rfl ?_
      refine mx_getr (pc' := 20) dX5_leadsBack_17 fl_X5_9 (rfl) (by rfl) rfl ?_
      refine mx_iload (pc' := 22) dX5_leadsBack_20 rfl rfl ?_
      refine mx_iald (pc' := 23) (v := nI (g (T - n))) dX5_leadsBack_22 (rfl) (rfl) (by omega) ((hL (T - n) (by omega)).1) rfl ?_
      refine mx_iand (pc' := 24) (v := nI (org g T c n &&& g (T - n))) dX5_leadsBack_23 (nI_and _ _) rfl ?_
      refine mx_callS (pc' := 27) dX5_leadsBack_24 cl_X5_61 (t_X5_spread M _ (and_lt (hg _))) rfl (by decide) rfl (Nat.le_of_ble_eq_true rfl) rfl (fun v N24 hv => ?_)
      obtain ⟨rfl, hv⟩ := hv
      rw [hv]
      refine mx_istore (pc' := 29) (ls' := [_, _, _, _, _, _]) dX5_leadsBack_27 (by decide) (rfl) rfl rfl ?_
      refine mx_iinc (pc' := 32) (ls' := [_, _, _, _, _, _]) (v := nI (T - n - 1)) dX5_leadsBack_29 rfl ((congrArg (fun z => z + (-1)) (congrArg nI (show T - n = T - n - 1 + 1 by omega))).trans (pk_m1 _)) (by decide) (rfl) rfl rfl ?_
      refine mx_goto (pc' := 8) dX5_leadsBack_32 (by decide) ?_
      rw [show T - n - 1 = T - (n + 1) by omega]
      exact ih (n + 1) (by omega) (by omega) trivial

set_option maxHeartbeats 1000000 in
set_option maxRecDepth 10000 in
theorem t_X5_leadsBack (M : mx_M) (g : Nat → Nat) (T : Nat) (hT : T ≤ 30) (hg : ∀ t, g t < 1024) (hL : LaA M T g) (c p : Nat) (hc : c < 10) (hp : p < 10) : mx_T yX5_leadsBack cX5_leadsBack 6 (some .boolean) 2 [.ref 109, .int (nI c), .int (nI p), .int (nI T)] M (fun v M' => v = some (.int (bI ((org g T c T).testBit p = true))) ∧ M' = M) := by
  refine mx_T.of1 (own := RX5) (ls := [some (.ref 109), some (.int (nI c)), some (.int (nI p)), some (.int (nI T)), none, none]) (by decide +kernel) rfl (Nat.le_of_ble_eq_true rfl) rfl rfl ?_
  refine mx_iconst (pc' := 1) (v := nI 1) dX5_leadsBack_0 (by decide) rfl ?_
  refine mx_iload_n (pc' := 2) dX5_leadsBack_1 rfl rfl ?_
  refine mx_ishl (pc' := 3) (v := nI (2 ^ c)) dX5_leadsBack_2 (p2_1 c hc) rfl ?_
  refine mx_istore (pc' := 5) (ls' := [_, _, _, _, _, _]) dX5_leadsBack_3 (by decide) (rfl) rfl rfl ?_
  refine mx_iload_n (pc' := 6) dX5_leadsBack_5 rfl rfl ?_
  refine mx_istore (pc' := 8) (ls' := [_, _, _, _, _, _]) dX5_leadsBack_6 (by decide) (rfl) rfl rfl ?_
  exact l_X5_leadsBack M g T hT hg hL c p hc hp (T + 1) 0 (by omega) (by omega) trivial

set_option maxHeartbeats 1000000 in
set_option maxRecDepth 10000 in
theorem l_X5_endsBackwards (M : mx_M) (g : Nat → Nat) (T : Nat) (hT : T ≤ 30) (hg : ∀ t, g t < 1024) (hL : LaA M T g) (p : Nat) (hp : p < 10) : ∀ (k : Nat) (i : Nat), 10 < i + k → i ≤ 10 → True → mx_V cX5_endsBackwards RX5 5 (some .int) 3 5 [some (.ref 109), some (.int (nI p)), some (.int (nI T)), some (.int (nI (endB g p T i))), some (.int (nI i))] [] M (fun v M' => v = some (.int (nI (endB g p T 10))) ∧ M' = M) := by
  intro k
  induction k with
  | zero =>
    intro i hk hi _
    exact absurd hk (by omega)
  | succ k ih =>
    intro i hk hi _
    refine mx_iload (pc' := 7) dX5_endsBackwards_5 rfl rfl ?_
    refine mx_bipush (pc' := 9) (v := nI 10) dX5_endsBackwards_7 (by decide) rfl ?_
    refine mx_icmp_ge (tgt := 32) (pc' := 12) dX5_endsBackwards_9 (by decide) rfl (fun c9 => ?_) (fun c9 => ?_)
    · have c9 := (nI_leI (by omega) (by omega)).mp c9
      obtain rfl : i = 10 := by omega
      refine mx_iload_n (pc' := 33) dX5_endsBackwards_32 rfl rfl ?_
      refine mx_iret dX5_endsBackwards_33 (Or.inl rfl) ?_
      exact ⟨rfl, rfl⟩
    · have c9 := Nat.not_le.mp (fun z => c9 ((nI_leI (by omega) (by omega)).mpr z))
      have e0 : endB g p T (i + 1) = endB g p T i + (if (org g T i T).testBit p = true then 1 else 0) := by
        unfold endB
        rw [List.range_succ, List.countP_append, List.countP_singleton]
      refine mx_aload_n (pc' := 13) dX5_endsBackwards_12 rfl rfl ?_
      refine mx_iload (pc' := 15) dX5_endsBackwards_13 rfl rfl ?_
      refine mx_iload_n (pc' := 16) dX5_endsBackwards_15 rfl rfl ?_
      refine mx_iload_n (pc' := 17) dX5_endsBackwards_16 rfl rfl ?_
      refine mx_callV (pc' := 20) dX5_endsBackwards_17 cl_X5_64 (rfl) (t_X5_leadsBack M g T hT hg hL i p (by omega) hp) rfl (by decide) rfl (Nat.le_of_ble_eq_true rfl) rfl (fun v N17 hv => ?_)
      obtain ⟨rfl, hv⟩ := hv
      rw [hv]
      refine mx_if_eq (tgt := 26) (pc' := 23) dX5_endsBackwards_20 (by decide) rfl (fun c20 => ?_) (fun c20 => ?_)
      · have e : endB g p T (i + 1) = endB g p T i := by rw [e0, if_neg (bI_0.mp c20), Nat.add_zero]
        refine mx_iinc (pc' := 29) (ls' := [_, _, _, _, _]) (v := nI (i + 1)) dX5_endsBackwards_26 rfl (nI_add i 1) (by decide) (rfl) rfl rfl ?_
        refine mx_goto (pc' := 5) dX5_endsBackwards_29 (by decide) ?_
        rw [show endB g p T i = endB g p T (i + 1) from e.symm]
        exact ih (i + 1) (by omega) (by omega) trivial
      · have e : endB g p T (i + 1) = endB g p T i + 1 := by rw [e0, if_pos (bI_n.mp c20)]
        refine mx_iinc (pc' := 26) (ls' := [_, _, _, _, _]) (v := nI (endB g p T (i + 1))) dX5_endsBackwards_23 rfl ((nI_add _ 1).trans (congrArg nI e.symm)) (by decide) (rfl) rfl rfl ?_
        refine mx_iinc (pc' := 29) (ls' := [_, _, _, _, _]) (v := nI (i + 1)) dX5_endsBackwards_26 rfl (nI_add i 1) (by decide) (rfl) rfl rfl ?_
        refine mx_goto (pc' := 5) dX5_endsBackwards_29 (by decide) ?_
        exact ih (i + 1) (by omega) (by omega) trivial

set_option maxHeartbeats 1000000 in
set_option maxRecDepth 10000 in
theorem t_X5_endsBackwards (M : mx_M) (g : Nat → Nat) (T : Nat) (hT : T ≤ 30) (hg : ∀ t, g t < 1024) (hL : LaA M T g) (p : Nat) (hp : p < 10) : mx_T yX5_endsBackwards cX5_endsBackwards 5 (some .int) 3 [.ref 109, .int (nI p), .int (nI T)] M (fun v M' => v = some (.int (nI (endB g p T 10))) ∧ M' = M) := by
  refine mx_T.of1 (own := RX5) (ls := [some (.ref 109), some (.int (nI p)), some (.int (nI T)), none, none]) (by decide +kernel) rfl (Nat.le_of_ble_eq_true rfl) rfl rfl ?_
  refine mx_iconst (pc' := 1) (v := nI 0) dX5_endsBackwards_0 (by decide) rfl ?_
  refine mx_istore_n (pc' := 2) (ls' := [_, _, _, _, _]) dX5_endsBackwards_1 (by decide) (rfl) rfl rfl ?_
  refine mx_iconst (pc' := 3) (v := nI 0) dX5_endsBackwards_2 (by decide) rfl ?_
  refine mx_istore (pc' := 5) (ls' := [_, _, _, _, _]) dX5_endsBackwards_3 (by decide) (rfl) rfl rfl ?_
  exact l_X5_endsBackwards M g T hT hg hL p hp 11 0 (by omega) (by omega) trivial

set_option maxHeartbeats 1000000 in
set_option maxRecDepth 10000 in
theorem l_X5_longestWay (M : mx_M) (g : Nat → Nat) (hg : ∀ t, g t < 1024) (hL : LaA M 30 g) (p : Nat) (hp : p < 10) : ∀ (k : Nat) (n : Nat), 30 < n + k → n ≤ 30 → lwR g p 30 1 = lwR g p (30 - n) (n + 1) → mx_V cX5_longestWay RX5 4 (some .int) 2 6 [some (.ref 109), some (.int (nI p)), some (.int (nI (rch g p n))), some (.int (nI (n + 1)))] [] M (fun v M' => v = some (.int (nI (lwR g p 30 1))) ∧ M' = M) := by
  intro k
  induction k with
  | zero =>
    intro n hk hi he
    exact absurd hk (by omega)
  | succ k ih =>
    intro n hk hi he
    refine mx_iload_n (pc' := 7) dX5_longestWay_6 rfl rfl ?_
    refine mx_bipush (pc' := 9) (v := nI 30) dX5_longestWay_7 (by decide) rfl ?_
    refine mx_icmp_gt (tgt := 38) (pc' := 12) dX5_longestWay_9 (by decide) rfl (fun c9 => ?_) (fun c9 => ?_)
    · have c9 := (nI_ltI (by omega) (by omega)).mp c9
      obtain rfl : n = 30 := by omega
      refine mx_bipush (pc' := 40) (v := nI 30) dX5_longestWay_38 (by decide) rfl ?_
      refine mx_iret dX5_longestWay_40 (Or.inl rfl) ?_
      exact ⟨by rw [he]; rfl, rfl⟩
    · have c9 := Nat.not_lt.mp (fun z => c9 ((nI_ltI (by omega) (by omega)).mpr z))
      have hr := rch_lt hp hg n
      have hr1 := rch_lt hp hg (n + 1)
      refine mx_iload_n (pc' := 13) dX5_longestWay_12 rfl rfl ?_
      refine mx_callS (pc' := 16) dX5_longestWay_13 cl_X5_61 (t_X5_spread M _ hr) rfl (by decide) rfl (Nat.le_of_ble_eq_true rfl) rfl (fun v N13 hv => ?_)
      obtain ⟨rfl, hv⟩ := hv
      rw [hv]
      refine mx_aload_n (pc' := 17) dX5_longestWay_16 rfl rfl ?_
      refine mx_getr (pc' := 20) dX5_longestWay_17 fl_X5_9 (rfl) (by rfl) rfl ?_
      refine mx_iload_n (pc' := 21) dX5_longestWay_20 rfl rfl ?_
      refine mx_iald (pc' := 22) (v := nI (g (n + 1))) dX5_longestWay_21 (rfl) (rfl) (by omega) ((hL (n + 1) (by omega)).1) rfl ?_
      refine mx_iand (pc' := 23) (v := nI (rch g p (n + 1))) dX5_longestWay_22 (nI_and _ _) rfl ?_
      refine mx_istore_n (pc' := 24) (ls' := [_, _, _, _]) dX5_longestWay_23 (by decide) (rfl) rfl rfl ?_
      refine mx_iload_n (pc' := 25) dX5_longestWay_24 rfl rfl ?_
      refine mx_if_ne (tgt := 32) (pc' := 28) dX5_longestWay_25 (by decide) rfl (fun c25 => ?_) (fun c25 => ?_)
      · have c25 : ¬ rch g p (n + 1) = 0 := fun z => c25 (by rw [z]; rfl)
        refine mx_iinc (pc' := 35) (ls' := [_, _, _, _]) (v := nI (n + 1 + 1)) dX5_longestWay_32 rfl (nI_add _ 1) (by decide) (rfl) rfl rfl ?_
        refine mx_goto (pc' := 6) dX5_longestWay_35 (by decide) ?_
        refine ih (n + 1) (by omega) (by omega) ?_
        rw [he, show 30 - n = (30 - (n + 1)) + 1 by omega]
        exact if_neg c25
      · have c25 : rch g p (n + 1) = 0 := (nI_eq (a := rch g p (n + 1)) (b := 0) (by omega) (by omega)).mp c25
        refine mx_iload_n (pc' := 29) dX5_longestWay_28 rfl rfl ?_
        refine mx_iconst (pc' := 30) (v := nI 1) dX5_longestWay_29 (by decide) rfl ?_
        refine mx_isub (pc' := 31) (v := nI n) dX5_longestWay_30 (pk_sub (b := 1) (by omega)) rfl ?_
        refine mx_iret dX5_longestWay_31 (Or.inl rfl) ?_
        refine ⟨?_, rfl⟩
        rw [he, show 30 - n = (30 - (n + 1)) + 1 by omega]
        exact congrArg (fun z => some (Value.int (nI z))) (if_pos c25).symm

set_option maxHeartbeats 1000000 in
set_option maxRecDepth 10000 in
theorem t_X5_longestWay (M : mx_M) (g : Nat → Nat) (hg : ∀ t, g t < 1024) (hL : LaA M 30 g) (p : Nat) (hp : p < 10) : mx_T yX5_longestWay cX5_longestWay 4 (some .int) 2 [.ref 109, .int (nI p)] M (fun v M' => v = some (.int (nI (lwR g p 30 1))) ∧ M' = M) := by
  refine mx_T.of1 (own := RX5) (ls := [some (.ref 109), some (.int (nI p)), none, none]) (by decide +kernel) rfl (Nat.le_of_ble_eq_true rfl) rfl rfl ?_
  refine mx_iconst (pc' := 1) (v := nI 1) dX5_longestWay_0 (by decide) rfl ?_
  refine mx_iload_n (pc' := 2) dX5_longestWay_1 rfl rfl ?_
  refine mx_ishl (pc' := 3) (v := nI (2 ^ p)) dX5_longestWay_2 (p2_1 p hp) rfl ?_
  refine mx_istore_n (pc' := 4) (ls' := [_, _, _, _]) dX5_longestWay_3 (by decide) (rfl) rfl rfl ?_
  refine mx_iconst (pc' := 5) (v := nI 1) dX5_longestWay_4 (by decide) rfl ?_
  refine mx_istore_n (pc' := 6) (ls' := [_, _, _, _]) dX5_longestWay_5 (by decide) (rfl) rfl rfl ?_
  exact l_X5_longestWay M g hg hL p hp 31 0 (by omega) (by omega) rfl

/-- the calm ways: the cost of the next column n from c on, over the row R of the next tick -/
def cst (R : Nat → Nat) (c n : Nat) : Nat := R n + (if c = n then 0 else 1)
def cbS (R : Nat → Nat) (c : Nat) (s : Nat × Nat) (n : Nat) : Nat × Nat := if cst R c n < s.2 then (n, cst R c n) else s
/-- the best next column -/
def cbN (R : Nat → Nat) (c : Nat) : Nat := ((List.range' (c - 1) (min (c + 1) 9 + 1 - (c - 1))).foldl (cbS R c) (c, 2000)).1
def faF (R : Nat → Nat) (c : Nat) : Nat := min 1000 (cst R c (cbN R c))
/-- the row of the tick T - k -/
def arow (g : Nat → Nat) (T : Nat) : Nat → Nat → Nat
  | 0, c => if (g T).testBit c = true then 0 else 1000
  | k + 1, c => if (g (T - (k + 1))).testBit c = true then faF (arow g T k) c else 1000
def crow (g : Nat → Nat) (T t : Nat) : Nat → Nat := arow g T (T - t)
theorem faF_le (R : Nat → Nat) (c : Nat) : faF R c ≤ 1000 := Nat.min_le_left _ _
theorem arow_le (g : Nat → Nat) (T : Nat) : ∀ k c, arow g T k c ≤ 1000
  | 0, c => by unfold arow; split <;> omega
  | k + 1, c => by
    unfold arow
    split
    · exact faF_le _ _
    · exact Nat.le_refl _
theorem crow_s {g : Nat → Nat} {T t c : Nat} (h : t < T) : crow g T t c = if (g t).testBit c = true then faF (crow g T (t + 1)) c else 1000 := by
  unfold crow
  rw [show T - t = (T - (t + 1)) + 1 by omega]
  show (if (g (T - ((T - (t + 1)) + 1))).testBit c = true then _ else _) = _
  rw [show T - ((T - (t + 1)) + 1) = t by omega]
theorem crow_e {g : Nat → Nat} {T c : Nat} : crow g T T c = if (g T).testBit c = true then 0 else 1000 := by
  unfold crow
  rw [Nat.sub_self]; rfl
theorem cbS_lt {R : Nat → Nat} {c n : Nat} {s : Nat × Nat} (h1 : s.1 < 10) (hn : n < 10) : (cbS R c s n).1 < 10 := by
  unfold cbS; split
  · exact hn
  · exact h1
theorem cbF_lt {R : Nat → Nat} {c : Nat} : ∀ (L : List Nat) (s : Nat × Nat), s.1 < 10 → (∀ n ∈ L, n < 10) → (L.foldl (cbS R c) s).1 < 10
  | [], s, h, _ => h
  | n :: L, s, h, hL => cbF_lt L _ (cbS_lt h (hL n List.mem_cons_self)) (fun m hm => hL m (List.mem_cons_of_mem _ hm))
theorem cbN_lt (R : Nat → Nat) {c : Nat} (hc : c < 10) : cbN R c < 10 := by
  refine cbF_lt _ _ hc (fun n hn => ?_)
  rw [List.mem_range'_1] at hn
  omega
/-- what row t holds -/
def RoA (M : mx_M) (t : Nat) (R : Nat → Nat) : Prop := (∀ n, n < 10 → M (112 + t) n = nI (R n)) ∧ ∀ n, R n ≤ 1000
set_option maxHeartbeats 1000000 in
set_option maxRecDepth 10000 in
theorem t_X5_asidesBy (M : mx_M) (t a b : Nat) (R : Nat → Nat) (hR : RoA M t R) (ht : t < 31) (ha : a < 10) (hb : b < 10) : mx_T yX5_asidesBy cX5_asidesBy 4 (some .int) 1 [.ref 109, .int (nI t), .int (nI a), .int (nI b)] M (fun v M' => v = some (.int (nI (cst R a b))) ∧ M' = M) := by
  refine mx_T.of1 (own := RX5) (ls := [some (.ref 109), some (.int (nI t)), some (.int (nI a)), some (.int (nI b))]) (by decide +kernel) rfl (Nat.le_of_ble_eq_true rfl) rfl rfl ?_
  refine mx_aload_n (pc' := 1) dX5_asidesBy_0 rfl rfl ?_
  refine mx_getr (pc' := 4) dX5_asidesBy_1 fl_X5_17 (rfl) (by rfl) rfl ?_
  refine mx_iload_n (pc' := 5) dX5_asidesBy_4 rfl rfl ?_
  refine mx_aald3 (pc' := 6) dX5_asidesBy_5 (rfl) (rfl) (by omega) rfl ?_
  refine mx_iload_n (pc' := 7) dX5_asidesBy_6 rfl rfl ?_
  refine mx_iald (pc' := 8) (v := nI (R b)) dX5_asidesBy_7 (rows_sh t ht) (rfl) (by omega) (hR.1 b hb) rfl ?_
  refine mx_iload_n (pc' := 9) dX5_asidesBy_8 rfl rfl ?_
  refine mx_iload_n (pc' := 10) dX5_asidesBy_9 rfl rfl ?_
  refine mx_icmp_ne (tgt := 17) (pc' := 13) dX5_asidesBy_10 (by decide) rfl (fun c10 => ?_) (fun c10 => ?_)
  · have c10 : ¬ _ := fun z => c10 ((nI_eq (by omega) (by omega)).mpr z)
    refine mx_iconst (pc' := 18) (v := nI 1) dX5_asidesBy_17 (by decide) rfl ?_
    refine mx_iadd (pc' := 19) (v := nI (cst R a b)) dX5_asidesBy_18 ((nI_add _ _).trans (congrArg nI (by unfold cst; rw [if_neg c10]))) rfl ?_
    refine mx_iret dX5_asidesBy_19 (Or.inl rfl) ?_
    exact ⟨rfl, rfl⟩
  · have c10 := (nI_eq (by omega) (by omega)).mp c10
    refine mx_iconst (pc' := 14) (v := nI 0) dX5_asidesBy_13 (by decide) rfl ?_
    refine mx_goto (pc' := 18) dX5_asidesBy_14 (by decide) ?_
    refine mx_iadd (pc' := 19) (v := nI (cst R a b)) dX5_asidesBy_18 ((nI_add _ _).trans (congrArg nI (by unfold cst; rw [if_pos c10]))) rfl ?_
    refine mx_iret dX5_asidesBy_19 (Or.inl rfl) ?_
    exact ⟨rfl, rfl⟩

theorem mxm_1 : ∀ c, c < 10 → (if nI c - nI 1 < nI 0 then nI 0 else nI c - nI 1) = nI (c - 1) := by decide +kernel
theorem mnm_1 : ∀ c, c < 10 → (if nI 9 < nI (c + 1) then nI 9 else nI (c + 1)) = nI (min (c + 1) 9) := by decide +kernel
set_option maxHeartbeats 1000000 in
set_option maxRecDepth 10000 in
theorem l_X5_calmestNext (M : mx_M) (t c : Nat) (R : Nat → Nat) (hR : RoA M (t + 1) R) (ht : t < 30) (hc : c < 10) : ∀ (k : Nat) (n : Nat) (s : Nat × Nat) (z : Option Value), mx_c1 [z] = true → 11 < n + k → n ≤ min (c + 1) 9 + 1 → s.1 < 10 → s.2 ≤ 2000 → (List.range' n (min (c + 1) 9 + 1 - n)).foldl (cbS R c) s = (List.range' (c - 1) (min (c + 1) 9 + 1 - (c - 1))).foldl (cbS R c) (c, 2000) → mx_V cX5_calmestNext RX5 7 (some .int) 2 16 [some (.ref 109), some (.int (nI t)), some (.int (nI c)), some (.int (nI s.1)), some (.int (nI s.2)), some (.int (nI n)), z] [] M (fun v M' => v = some (.int (nI (cbN R c))) ∧ M' = M) := by
  intro k
  induction k with
  | zero =>
    intro n s z hz hk hi h1 h2 he
    exact absurd hk (by omega)
  | succ k ih =>
    intro n s z hz hk hi h1 h2 he
    refine mx_iload (pc' := 18) dX5_calmestNext_16 rfl rfl ?_
    refine mx_iload_n (pc' := 19) dX5_calmestNext_18 rfl rfl ?_
    refine mx_iconst (pc' := 20) (v := nI 1) dX5_calmestNext_19 (by decide) rfl ?_
    refine mx_iadd (pc' := 21) (v := nI (c + 1)) dX5_calmestNext_20 (nI_add c 1) rfl ?_
    refine mx_bipush (pc' := 23) (v := nI 9) dX5_calmestNext_21 (by decide) rfl ?_
    refine mx_mmin (pc' := 26) (v := nI (min (c + 1) 9)) dX5_calmestNext_23 cl_m_min (by decide) (Nat.le_of_ble_eq_true rfl) (mnm_1 c hc) rfl ?_
    refine mx_icmp_gt (tgt := 61) (pc' := 29) dX5_calmestNext_26 (by decide) rfl (fun c26 => ?_) (fun c26 => ?_)
    · have c26 := (nI_ltI (by omega) (by omega)).mp c26
      rw [show min (c + 1) 9 + 1 - n = 0 by omega] at he
      have he : s = _ := he
      refine mx_iload_n (pc' := 62) dX5_calmestNext_61 rfl rfl ?_
      refine mx_iret dX5_calmestNext_62 (Or.inl rfl) ?_
      exact ⟨by rw [he]; rfl, rfl⟩
    · have c26 := Nat.not_lt.mp (fun z => c26 ((nI_ltI (by omega) (by omega)).mpr z))
      have hcn : cst R c n ≤ 1001 := by unfold cst; have := hR.2 n; split <;> omega
      refine mx_aload_n (pc' := 30) dX5_calmestNext_29 rfl rfl ?_
      refine mx_iload_n (pc' := 31) dX5_calmestNext_30 rfl rfl ?_
      refine mx_iconst (pc' := 32) (v := nI 1) dX5_calmestNext_31 (by decide) rfl ?_
      refine mx_iadd (pc' := 33) (v := nI (t + 1)) dX5_calmestNext_32 (nI_add t 1) rfl ?_
      refine mx_iload_n (pc' := 34) dX5_calmestNext_33 rfl rfl ?_
      refine mx_iload (pc' := 36) dX5_calmestNext_34 rfl rfl ?_
      refine mx_callV (pc' := 39) dX5_calmestNext_36 cl_X5_82 (rfl) (t_X5_asidesBy M (t + 1) c n R hR (by omega) hc (by omega)) rfl (by decide) rfl (Nat.le_of_ble_eq_true rfl) rfl (fun v N36 hv => ?_)
      obtain ⟨rfl, hv⟩ := hv
      rw [hv]
      refine mx_istore (pc' := 41) (ls' := [_, _, _, _, _, _, _]) dX5_calmestNext_39 (by decide) (by simpa [mx_c1, Value.category] using hz) rfl rfl ?_
      refine mx_iload (pc' := 43) dX5_calmestNext_41 rfl rfl ?_
      refine mx_iload (pc' := 45) dX5_calmestNext_43 rfl rfl ?_
      refine mx_icmp_ge (tgt := 55) (pc' := 48) dX5_calmestNext_45 (by decide) rfl (fun c45 => ?_) (fun c45 => ?_)
      · have c45 := (nI_leI (by omega) (by omega)).mp c45
        refine mx_iinc (pc' := 58) (ls' := [_, _, _, _, _, _, _]) (v := nI (n + 1)) dX5_calmestNext_55 rfl (nI_add n 1) (by decide) (rfl) rfl rfl ?_
        refine mx_goto (pc' := 16) dX5_calmestNext_58 (by decide) ?_
        rw [show min (c + 1) 9 + 1 - n = (min (c + 1) 9 + 1 - (n + 1)) + 1 by omega, List.range'_succ, List.foldl_cons] at he
        have e : cbS R c s n = s := if_neg (by omega)
        rw [e] at he
        exact ih (n + 1) s _ rfl (by omega) (by omega) (by exact h1) (by exact h2) he
      · have c45 := Nat.not_le.mp (fun z => c45 ((nI_leI (by omega) (by omega)).mpr z))
        refine mx_iload (pc' := 50) dX5_calmestNext_48 rfl rfl ?_
        refine mx_istore (pc' := 52) (ls' := [_, _, _, _, _, _, _]) dX5_calmestNext_50 (by decide) (rfl) rfl rfl ?_
        refine mx_iload (pc' := 54) dX5_calmestNext_52 rfl rfl ?_
        refine mx_istore_n (pc' := 55) (ls' := [_, _, _, _, _, _, _]) dX5_calmestNext_54 (by decide) (rfl) rfl rfl ?_
        refine mx_iinc (pc' := 58) (ls' := [_, _, _, _, _, _, _]) (v := nI (n + 1)) dX5_calmestNext_55 rfl (nI_add n 1) (by decide) (rfl) rfl rfl ?_
        refine mx_goto (pc' := 16) dX5_calmestNext_58 (by decide) ?_
        rw [show min (c + 1) 9 + 1 - n = (min (c + 1) 9 + 1 - (n + 1)) + 1 by omega, List.range'_succ, List.foldl_cons] at he
        have e : cbS R c s n = (n, cst R c n) := if_pos (by omega)
        rw [e] at he
        exact ih (n + 1) (n, cst R c n) _ rfl (by omega) (by omega) (by show n < 10; omega) (by show cst R c n ≤ 2000; omega) he

set_option maxHeartbeats 1000000 in
set_option maxRecDepth 10000 in
theorem t_X5_calmestNext (M : mx_M) (t c : Nat) (R : Nat → Nat) (hR : RoA M (t + 1) R) (ht : t < 30) (hc : c < 10) : mx_T yX5_calmestNext cX5_calmestNext 7 (some .int) 2 [.ref 109, .int (nI t), .int (nI c)] M (fun v M' => v = some (.int (nI (cbN R c))) ∧ M' = M) := by
  refine mx_T.of1 (own := RX5) (ls := [some (.ref 109), some (.int (nI t)), some (.int (nI c)), none, none, none, none]) (by decide +kernel) rfl (Nat.le_of_ble_eq_true rfl) rfl rfl ?_
  refine mx_iload_n (pc' := 1) dX5_calmestNext_0 rfl rfl ?_
  refine mx_istore_n (pc' := 2) (ls' := [_, _, _, _, _, _, _]) dX5_calmestNext_1 (by decide) (rfl) rfl rfl ?_
  refine mx_sipush (pc' := 5) (v := nI 2000) dX5_calmestNext_2 (by decide) rfl ?_
  refine mx_istore (pc' := 7) (ls' := [_, _, _, _, _, _, _]) dX5_calmestNext_5 (by decide) (rfl) rfl rfl ?_
  refine mx_iload_n (pc' := 8) dX5_calmestNext_7 rfl rfl ?_
  refine mx_iconst (pc' := 9) (v := nI 1) dX5_calmestNext_8 (by decide) rfl ?_
  refine mx_isub (pc' := 10) dX5_calmestNext_9 (rfl) rfl ?_
  refine mx_iconst (pc' := 11) (v := nI 0) dX5_calmestNext_10 (by decide) rfl ?_
  refine mx_mmax (pc' := 14) (v := nI (c - 1)) dX5_calmestNext_11 cl_m_max (by decide) (Nat.le_of_ble_eq_true rfl) (mxm_1 c hc) rfl ?_
  refine mx_istore (pc' := 16) (ls' := [_, _, _, _, _, _, _]) dX5_calmestNext_14 (by decide) (rfl) rfl rfl ?_
  exact l_X5_calmestNext M t c R hR ht hc 13 (c - 1) (c, 2000) none rfl (by omega) (by omega) hc (Nat.le_refl _) rfl

set_option maxHeartbeats 1000000 in
set_option maxRecDepth 10000 in
theorem t_X5_fewestAfter (M : mx_M) (t c T : Nat) (R : Nat → Nat) (hR : t < T → RoA M (t + 1) R) (hT : T ≤ 30) (ht : t ≤ T) (hc : c < 10) : mx_T yX5_fewestAfter cX5_fewestAfter 4 (some .int) 3 [.ref 109, .int (nI t), .int (nI c), .int (nI T)] M (fun v M' => v = some (.int (nI (if t < T then faF R c else 0))) ∧ M' = M) := by
  refine mx_T.of1 (own := RX5) (ls := [some (.ref 109), some (.int (nI t)), some (.int (nI c)), some (.int (nI T))]) (by decide +kernel) rfl (Nat.le_of_ble_eq_true rfl) rfl rfl ?_
  refine mx_iload_n (pc' := 1) dX5_fewestAfter_0 rfl rfl ?_
  refine mx_iload_n (pc' := 2) dX5_fewestAfter_1 rfl rfl ?_
  refine mx_icmp_lt (tgt := 7) (pc' := 5) dX5_fewestAfter_2 (by decide) rfl (fun c2 => ?_) (fun c2 => ?_)
  · have c2 := (nI_ltI (by omega) (by omega)).mp c2
    have hR := hR c2
    have hcb := cbN_lt R hc
    refine mx_sipush (pc' := 10) (v := nI 1000) dX5_fewestAfter_7 (by decide) rfl ?_
    refine mx_aload_n (pc' := 11) dX5_fewestAfter_10 rfl rfl ?_
    refine mx_iload_n (pc' := 12) dX5_fewestAfter_11 rfl rfl ?_
    refine mx_iconst (pc' := 13) (v := nI 1) dX5_fewestAfter_12 (by decide) rfl ?_
    refine mx_iadd (pc' := 14) (v := nI (t + 1)) dX5_fewestAfter_13 (nI_add t 1) rfl ?_
    refine mx_iload_n (pc' := 15) dX5_fewestAfter_14 rfl rfl ?_
    refine mx_aload_n (pc' := 16) dX5_fewestAfter_15 rfl rfl ?_
    refine mx_iload_n (pc' := 17) dX5_fewestAfter_16 rfl rfl ?_
    refine mx_iload_n (pc' := 18) dX5_fewestAfter_17 rfl rfl ?_
    refine mx_callV (pc' := 21) dX5_fewestAfter_18 cl_X5_79 (rfl) (t_X5_calmestNext M t c R hR (by omega) hc) rfl (by decide) rfl (Nat.le_of_ble_eq_true rfl) rfl (fun v N18 hv => ?_)
    obtain ⟨rfl, hv⟩ := hv
    rw [hv]
    refine mx_callV (pc' := 24) dX5_fewestAfter_21 cl_X5_82 (rfl) (t_X5_asidesBy M (t + 1) c (cbN R c) R hR (by omega) hc hcb) rfl (by decide) rfl (Nat.le_of_ble_eq_true rfl) rfl (fun v N21 hv => ?_)
    obtain ⟨rfl, hv⟩ := hv
    rw [hv]
    refine mx_mmin (pc' := 27) (v := nI (faF R c)) dX5_fewestAfter_24 cl_m_min (by decide) (Nat.le_of_ble_eq_true rfl) (min_1 (a := 1000) (by omega) (by unfold cst; have := hR.2 (cbN R c); split <;> omega)) rfl ?_
    refine mx_iret dX5_fewestAfter_27 (Or.inl rfl) ?_
    exact ⟨by rw [if_pos c2], rfl⟩
  · have c2 := Nat.not_lt.mp (fun z => c2 ((nI_ltI (by omega) (by omega)).mpr z))
    refine mx_iconst (pc' := 6) (v := nI 0) dX5_fewestAfter_5 (by decide) rfl ?_
    refine mx_iret dX5_fewestAfter_6 (Or.inl rfl) ?_
    exact ⟨by rw [if_neg (by omega)], rfl⟩

set_option maxHeartbeats 1000000 in
set_option maxRecDepth 10000 in
theorem l_X5_tellAsides_in (M : mx_M) (g : Nat → Nat) (T : Nat) (hT : T ≤ 30) (hg : ∀ t, g t < 1024) (hL : LaA M T g) (t : Nat) (ht : 1 ≤ t) (htT : t ≤ T) (ihO : ∀ (M1 : mx_M) (z : Option Value), mx_c1 [z] = true → (∀ u, t - 1 < u → u ≤ T → RoA M1 u (crow g T u)) → (∀ q, (q < 112 ∨ 143 ≤ q) → M1 q = M q) → mx_V cX5_tellAsides RX5 4 none 4 2 [some (.ref 109), some (.int (nI T)), some (.int (nI (t - 1))), z] [] M1 (fun v M' => v = none ∧ (∀ t, 1 ≤ t → t ≤ T → RoA M' t (crow g T t)) ∧ (∀ q, (q < 112 ∨ 143 ≤ q) → M' q = M q))) : ∀ (k : Nat) (c : Nat) (M1 : mx_M), 10 < c + k → c ≤ 10 → (∀ u, t < u → u ≤ T → RoA M1 u (crow g T u)) → (∀ n, n < c → M1 (112 + t) n = nI (crow g T t n)) → (∀ q, (q < 112 ∨ 143 ≤ q) → M1 q = M q) → mx_V cX5_tellAsides RX5 4 none 4 9 [some (.ref 109), some (.int (nI T)), some (.int (nI t)), some (.int (nI c))] [] M1 (fun v M' => v = none ∧ (∀ t, 1 ≤ t → t ≤ T → RoA M' t (crow g T t)) ∧ (∀ q, (q < 112 ∨ 143 ≤ q) → M' q = M q)) := by
  intro k
  induction k with
  | zero =>
    intro c M1 hk hi hU hC hO
    exact absurd hk (by omega)
  | succ k ih =>
    intro c M1 hk hi hU hC hO
    refine mx_iload_n (pc' := 10) dX5_tellAsides_9 rfl rfl ?_
    refine mx_bipush (pc' := 12) (v := nI 10) dX5_tellAsides_10 (by decide) rfl ?_
    refine mx_icmp_ge (tgt := 51) (pc' := 15) dX5_tellAsides_12 (by decide) rfl (fun c12 => ?_) (fun c12 => ?_)
    · have c12 := (nI_leI (by omega) (by omega)).mp c12
      obtain rfl : c = 10 := by omega
      refine mx_iinc (pc' := 54) (ls' := [_, _, _, _]) (v := nI (t - 1)) dX5_tellAsides_51 rfl ((congrArg (fun z => z + (-1)) (congrArg nI (show t = t - 1 + 1 by omega))).trans (pk_m1 _)) (by decide) (rfl) rfl rfl ?_
      refine mx_goto (pc' := 2) dX5_tellAsides_54 (by decide) ?_
      refine ihO M1 _ rfl (fun u h1 h2 => ?_) hO
      by_cases e : u = t
      · subst e
        exact ⟨hC, fun n => arow_le g T _ n⟩
      · exact hU u (by omega) h2
    · have c12 := Nat.not_le.mp (fun z => c12 ((nI_leI (by omega) (by omega)).mpr z))
      have hgt : M1 110 t = nI (g t) := by rw [hO 110 (by omega)]; exact (hL t htT).1
      refine mx_aload_n (pc' := 16) dX5_tellAsides_15 rfl rfl ?_
      refine mx_getr (pc' := 19) dX5_tellAsides_16 fl_X5_17 (rfl) (by rfl) rfl ?_
      refine mx_iload_n (pc' := 20) dX5_tellAsides_19 rfl rfl ?_
      refine mx_aald3 (pc' := 21) dX5_tellAsides_20 (rfl) (rfl) (by omega) rfl ?_
      refine mx_iload_n (pc' := 22) dX5_tellAsides_21 rfl rfl ?_
      refine mx_aload_n (pc' := 23) dX5_tellAsides_22 rfl rfl ?_
      refine mx_iload_n (pc' := 24) dX5_tellAsides_23 rfl rfl ?_
      refine mx_iload_n (pc' := 25) dX5_tellAsides_24 rfl rfl ?_
      refine mx_callV (pc' := 28) dX5_tellAsides_25 cl_X5_45 (rfl) (t_X5_isFreeN M1 t (g t) c (by omega) hgt (hg t) (by omega)) rfl (by decide) rfl (Nat.le_of_ble_eq_true rfl) rfl (fun v N25 hv => ?_)
      obtain ⟨rfl, hv⟩ := hv
      rw [hv]
      refine mx_if_eq (tgt := 41) (pc' := 31) dX5_tellAsides_28 (by decide) rfl (fun c28 => ?_) (fun c28 => ?_)
      · have c28 : ¬ (g t).testBit c = true := fun z => bI_0.mp c28 ⟨c12, z⟩
        refine mx_sipush (pc' := 44) (v := nI 1000) dX5_tellAsides_41 (by decide) rfl ?_
        refine mx_iast (pc' := 45) dX5_tellAsides_44 (rows_sh t (by omega)) (rfl) (by omega) rfl ?_
        refine mx_iinc (pc' := 48) (ls' := [_, _, _, _]) (v := nI (c + 1)) dX5_tellAsides_45 rfl (nI_add c 1) (by decide) (rfl) rfl rfl ?_
        refine mx_goto (pc' := 9) dX5_tellAsides_48 (by decide) ?_
        refine ih (c + 1) _ (by omega) (by omega) (fun u h1 h2 => ⟨fun n hn => by rw [mx_up_ne (by omega)]; exact (hU u h1 h2).1 n hn, (hU u h1 h2).2⟩) (fun n hn => ?_) (fun q hq => by rw [mx_up_ne (by omega)]; exact hO q hq)
        by_cases e : n = c
        · subst e; rw [mx_up_eq]
          rw [show crow g T t n = 1000 from ?_]
          by_cases h : t < T
          · rw [crow_s h, if_neg c28]
          · obtain rfl : t = T := by omega
            rw [crow_e, if_neg c28]
        · have := hC n (by omega)
          simp [mx_up, e, this]
      · have c28 := (bI_n.mp c28).2
        refine mx_aload_n (pc' := 32) dX5_tellAsides_31 rfl rfl ?_
        refine mx_iload_n (pc' := 33) dX5_tellAsides_32 rfl rfl ?_
        refine mx_iload_n (pc' := 34) dX5_tellAsides_33 rfl rfl ?_
        refine mx_iload_n (pc' := 35) dX5_tellAsides_34 rfl rfl ?_
        refine mx_callV (pc' := 38) dX5_tellAsides_35 cl_X5_72 (rfl) (t_X5_fewestAfter M1 t c T (crow g T (t + 1)) (fun h => hU (t + 1) (by omega) h) hT htT (by omega)) rfl (by decide) rfl (Nat.le_of_ble_eq_true rfl) rfl (fun v N35 hv => ?_)
        obtain ⟨rfl, hv⟩ := hv
        rw [hv]
        refine mx_goto (pc' := 44) dX5_tellAsides_38 (by decide) ?_
        refine mx_iast (pc' := 45) dX5_tellAsides_44 (rows_sh t (by omega)) (rfl) (by omega) rfl ?_
        refine mx_iinc (pc' := 48) (ls' := [_, _, _, _]) (v := nI (c + 1)) dX5_tellAsides_45 rfl (nI_add c 1) (by decide) (rfl) rfl rfl ?_
        refine mx_goto (pc' := 9) dX5_tellAsides_48 (by decide) ?_
        refine ih (c + 1) _ (by omega) (by omega) (fun u h1 h2 => ⟨fun n hn => by rw [mx_up_ne (by omega)]; exact (hU u h1 h2).1 n hn, (hU u h1 h2).2⟩) (fun n hn => ?_) (fun q hq => by rw [mx_up_ne (by omega)]; exact hO q hq)
        by_cases e : n = c
        · subst e; rw [mx_up_eq]
          rw [show crow g T t n = (if t < T then faF (crow g T (t + 1)) n else 0) from ?_]
          by_cases h : t < T
          · rw [crow_s h, if_pos c28, if_pos h]
          · obtain rfl : t = T := by omega
            rw [crow_e, if_pos c28, if_neg h]
        · have := hC n (by omega)
          simp [mx_up, e, this]

set_option maxHeartbeats 1000000 in
theorem l_X5_tellAsides (M : mx_M) (g : Nat → Nat) (T : Nat) (hT : T ≤ 30) (hg : ∀ t, g t < 1024) (hL : LaA M T g) : ∀ (t : Nat), t ≤ T → ∀ (M1 : mx_M) (z : Option Value), mx_c1 [z] = true → (∀ u, t < u → u ≤ T → RoA M1 u (crow g T u)) → (∀ q, (q < 112 ∨ 143 ≤ q) → M1 q = M q) → mx_V cX5_tellAsides RX5 4 none 4 2 [some (.ref 109), some (.int (nI T)), some (.int (nI t)), z] [] M1 (fun v M' => v = none ∧ (∀ t, 1 ≤ t → t ≤ T → RoA M' t (crow g T t)) ∧ (∀ q, (q < 112 ∨ 143 ≤ q) → M' q = M q)) := by
  intro t
  induction t with
  | zero =>
    intro _ M1 z hz hU hO
    refine mx_iload_n (pc' := 3) dX5_tellAsides_2 rfl rfl ?_
    refine mx_iconst (pc' := 4) (v := nI 1) dX5_tellAsides_3 (by decide) rfl ?_
    refine mx_icmp_lt (tgt := 57) (pc' := 7) dX5_tellAsides_4 (by decide) rfl (fun c4 => ?_) (fun c4 => ?_)
    · refine mx_vret dX5_tellAsides_57 rfl ?_
      exact ⟨rfl, fun u h1 h2 => hU u (by omega) h2, hO⟩
    · exact absurd (by decide) c4
  | succ t ih =>
    intro htT M1 z hz hU hO
    refine mx_iload_n (pc' := 3) dX5_tellAsides_2 rfl rfl ?_
    refine mx_iconst (pc' := 4) (v := nI 1) dX5_tellAsides_3 (by decide) rfl ?_
    refine mx_icmp_lt (tgt := 57) (pc' := 7) dX5_tellAsides_4 (by decide) rfl (fun c4 => ?_) (fun c4 => ?_)
    · have c4 := (nI_ltI (by omega) (by omega)).mp c4
      exact absurd c4 (by omega)
    · refine mx_iconst (pc' := 8) (v := nI 0) dX5_tellAsides_7 (by decide) rfl ?_
      refine mx_istore_n (pc' := 9) (ls' := [_, _, _, _]) dX5_tellAsides_8 (by decide) (by simpa [mx_c1, Value.category] using hz) rfl rfl ?_
      exact l_X5_tellAsides_in M g T hT hg hL (t + 1) (by omega) htT (fun M2 z2 hz2 hU2 hO2 => ih (by omega) M2 z2 hz2 hU2 hO2) 11 0 M1 (by omega) (by omega) hU (fun n hn => by omega) hO
set_option maxHeartbeats 1000000 in
set_option maxRecDepth 10000 in
theorem t_X5_tellAsides (M : mx_M) (g : Nat → Nat) (T : Nat) (hT : T ≤ 30) (hg : ∀ t, g t < 1024) (hL : LaA M T g) : mx_T yX5_tellAsides cX5_tellAsides 4 none 4 [.ref 109, .int (nI T)] M (fun v M' => v = none ∧ (∀ t, 1 ≤ t → t ≤ T → RoA M' t (crow g T t)) ∧ (∀ q, (q < 112 ∨ 143 ≤ q) → M' q = M q)) := by
  refine mx_T.of1 (own := RX5) (ls := [some (.ref 109), some (.int (nI T)), none, none]) (by decide +kernel) rfl (Nat.le_of_ble_eq_true rfl) rfl rfl ?_
  refine mx_iload_n (pc' := 1) dX5_tellAsides_0 rfl rfl ?_
  refine mx_istore_n (pc' := 2) (ls' := [_, _, _, _]) dX5_tellAsides_1 (by decide) (rfl) rfl rfl ?_
  exact l_X5_tellAsides M g T hT hg hL T (Nat.le_refl T) M none rfl (fun u h1 h2 => by omega) (fun _ _ => rfl)

/-- the steps aside of the calmest way -/
def calmI (g : Nat → Nat) (p T : Nat) : Int32 := if faF (crow g T 1) p < 1000 then nI (faF (crow g T 1) p) else (-4)
def cway (g : Nat → Nat) (p T : Nat) : Nat → Nat
  | 0 => p
  | t + 1 => cbN (crow g T (t + 1)) (cway g p T t)
theorem cway_lt {g : Nat → Nat} {p T : Nat} (hp : p < 10) : ∀ t, cway g p T t < 10
  | 0 => hp
  | t + 1 => cbN_lt _ (cway_lt hp t)
set_option maxHeartbeats 1000000 in
set_option maxRecDepth 10000 in
theorem t_X5_fewestAsides (M : mx_M) (g : Nat → Nat) (T : Nat) (hT : T ≤ 30) (hg : ∀ t, g t < 1024) (hL : LaA M T g) (h1 : 1 ≤ T) (p : Nat) (hp : p < 10) : mx_T yX5_fewestAsides cX5_fewestAsides 4 (some .int) 5 [.ref 109, .int (nI p), .int (nI T)] M (fun v M' => v = some (.int (calmI g p T)) ∧ (∀ t, 1 ≤ t → t ≤ T → RoA M' t (crow g T t)) ∧ (∀ q, (q < 112 ∨ 143 ≤ q) → M' q = M q)) := by
  refine mx_T.of1 (own := RX5) (ls := [some (.ref 109), some (.int (nI p)), some (.int (nI T)), none]) (by decide +kernel) rfl (Nat.le_of_ble_eq_true rfl) rfl rfl ?_
  refine mx_aload_n (pc' := 1) dX5_fewestAsides_0 rfl rfl ?_
  refine mx_iload_n (pc' := 2) dX5_fewestAsides_1 rfl rfl ?_
  refine mx_callV (pc' := 5) dX5_fewestAsides_2 cl_X5_68 (rfl) (t_X5_tellAsides M g T hT hg hL) rfl (by decide) rfl (Nat.le_of_ble_eq_true rfl) rfl (fun v N2 hv => ?_)
  obtain ⟨rfl, hR, hO⟩ := hv
  have hle := faF_le (crow g T 1) p
  refine mx_aload_n (pc' := 6) dX5_fewestAsides_5 rfl rfl ?_
  refine mx_iconst (pc' := 7) (v := nI 0) dX5_fewestAsides_6 (by decide) rfl ?_
  refine mx_iload_n (pc' := 8) dX5_fewestAsides_7 rfl rfl ?_
  refine mx_iload_n (pc' := 9) dX5_fewestAsides_8 rfl rfl ?_
  refine mx_callV (pc' := 12) dX5_fewestAsides_9 cl_X5_72 (rfl) (t_X5_fewestAfter N2 0 p T (crow g T 1) (fun h => hR 1 (Nat.le_refl 1) h1) hT (by omega) hp) rfl (by decide) rfl (Nat.le_of_ble_eq_true rfl) rfl (fun v N9 hv => ?_)
  obtain ⟨rfl, hv⟩ := hv
  rw [hv, if_pos (show 0 < T from h1)]
  refine mx_istore_n (pc' := 13) (ls' := [_, _, _, _]) dX5_fewestAsides_12 (by decide) (rfl) rfl rfl ?_
  refine mx_iload_n (pc' := 14) dX5_fewestAsides_13 rfl rfl ?_
  refine mx_sipush (pc' := 17) (v := nI 1000) dX5_fewestAsides_14 (by decide) rfl ?_
  refine mx_icmp_ge (tgt := 24) (pc' := 20) dX5_fewestAsides_17 (by decide) rfl (fun c17 => ?_) (fun c17 => ?_)
  · have c17 := (nI_leI (by omega) (by omega)).mp c17
    refine mx_bipush (pc' := 26) (v := (-4)) dX5_fewestAsides_24 (by decide) rfl ?_
    refine mx_iret dX5_fewestAsides_26 (Or.inl rfl) ?_
    exact ⟨congrArg (fun z => some (Value.int z)) (if_neg (by omega)).symm, hR, hO⟩
  · have c17 := Nat.not_le.mp (fun z => c17 ((nI_leI (by omega) (by omega)).mpr z))
    refine mx_iload_n (pc' := 21) dX5_fewestAsides_20 rfl rfl ?_
    refine mx_goto (pc' := 26) dX5_fewestAsides_21 (by decide) ?_
    refine mx_iret dX5_fewestAsides_26 (Or.inl rfl) ?_
    exact ⟨congrArg (fun z => some (Value.int z)) (if_pos c17).symm, hR, hO⟩

set_option maxHeartbeats 1000000 in
set_option maxRecDepth 10000 in
theorem l_X5_calmestAt (M M1 : mx_M) (g : Nat → Nat) (T : Nat) (hT : T ≤ 30) (p u : Nat) (hp : p < 10) (hu : u ≤ T) (hc : ¬ calmI g p T = (-4)) (hR : ∀ t, 1 ≤ t → t ≤ T → RoA M1 t (crow g T t)) (hO : ∀ q, (q < 112 ∨ 143 ≤ q) → M1 q = M q) : ∀ (k : Nat) (n : Nat), u < n + k → n ≤ u → True → mx_V cX5_calmestAt RX5 6 (some .int) 6 20 [some (.ref 109), some (.int (nI p)), some (.int (nI T)), some (.int (nI u)), some (.int (nI (cway g p T n))), some (.int (nI n))] [] M1 (fun v M' => v = some (.int (if calmI g p T = (-4) then (-4) else nI (cway g p T u))) ∧ (∀ q, (q < 112 ∨ 143 ≤ q) → M' q = M q)) := by
  intro k
  induction k with
  | zero =>
    intro n hk hi _
    exact absurd hk (by omega)
  | succ k ih =>
    intro n hk hi _
    refine mx_iload (pc' := 22) dX5_calmestAt_20 rfl rfl ?_
    refine mx_iload_n (pc' := 23) dX5_calmestAt_22 rfl rfl ?_
    refine mx_icmp_ge (tgt := 42) (pc' := 26) dX5_calmestAt_23 (by decide) rfl (fun c23 => ?_) (fun c23 => ?_)
    · have c23 := (nI_leI (by omega) (by omega)).mp c23
      obtain rfl : n = u := by omega
      refine mx_iload (pc' := 44) dX5_calmestAt_42 rfl rfl ?_
      refine mx_iret dX5_calmestAt_44 (Or.inl rfl) ?_
      exact ⟨by rw [if_neg hc], hO⟩
    · have c23 := Nat.not_le.mp (fun z => c23 ((nI_leI (by omega) (by omega)).mpr z))
      refine mx_aload_n (pc' := 27) dX5_calmestAt_26 rfl rfl ?_
      refine mx_iload (pc' := 29) dX5_calmestAt_27 rfl rfl ?_
      refine mx_iload (pc' := 31) dX5_calmestAt_29 rfl rfl ?_
      refine mx_callV (pc' := 34) dX5_calmestAt_31 cl_X5_79 (rfl) (t_X5_calmestNext M1 n (cway g p T n) _ (hR (n + 1) (by omega) (by omega)) (by omega) (cway_lt hp n)) rfl (by decide) rfl (Nat.le_of_ble_eq_true rfl) rfl (fun v N31 hv => ?_)
      obtain ⟨rfl, hv⟩ := hv
      rw [hv]
      refine mx_istore (pc' := 36) (ls' := [_, _, _, _, _, _]) dX5_calmestAt_34 (by decide) (rfl) rfl rfl ?_
      refine mx_iinc (pc' := 39) (ls' := [_, _, _, _, _, _]) (v := nI (n + 1)) dX5_calmestAt_36 rfl (nI_add n 1) (by decide) (rfl) rfl rfl ?_
      refine mx_goto (pc' := 20) dX5_calmestAt_39 (by decide) ?_
      exact ih (n + 1) (by omega) (by omega) trivial

set_option maxHeartbeats 1000000 in
set_option maxRecDepth 10000 in
theorem t_X5_calmestAt (M : mx_M) (g : Nat → Nat) (T : Nat) (hT : T ≤ 30) (hg : ∀ t, g t < 1024) (hL : LaA M T g) (h1 : 1 ≤ T) (p : Nat) (hp : p < 10) (u : Nat) (hu : u ≤ T) : mx_T yX5_calmestAt cX5_calmestAt 6 (some .int) 6 [.ref 109, .int (nI p), .int (nI T), .int (nI u)] M (fun v M' => v = some (.int (if calmI g p T = (-4) then (-4) else nI (cway g p T u))) ∧ (∀ q, (q < 112 ∨ 143 ≤ q) → M' q = M q)) := by
  refine mx_T.of1 (own := RX5) (ls := [some (.ref 109), some (.int (nI p)), some (.int (nI T)), some (.int (nI u)), none, none]) (by decide +kernel) rfl (Nat.le_of_ble_eq_true rfl) rfl rfl ?_
  refine mx_aload_n (pc' := 1) dX5_calmestAt_0 rfl rfl ?_
  refine mx_iload_n (pc' := 2) dX5_calmestAt_1 rfl rfl ?_
  refine mx_iload_n (pc' := 3) dX5_calmestAt_2 rfl rfl ?_
  refine mx_callV (pc' := 6) dX5_calmestAt_3 cl_X5_76 (rfl) (t_X5_fewestAsides M g T hT hg hL h1 p hp) rfl (by decide) rfl (Nat.le_of_ble_eq_true rfl) rfl (fun v N3 hv => ?_)
  obtain ⟨rfl, hR, hO⟩ := hv
  refine mx_bipush (pc' := 8) (v := (-4)) dX5_calmestAt_6 (by decide) rfl ?_
  refine mx_icmp_ne (tgt := 14) (pc' := 11) dX5_calmestAt_8 (by decide) rfl (fun c8 => ?_) (fun c8 => ?_)
  · refine mx_iload_n (pc' := 15) dX5_calmestAt_14 rfl rfl ?_
    refine mx_istore (pc' := 17) (ls' := [_, _, _, _, _, _]) dX5_calmestAt_15 (by decide) (rfl) rfl rfl ?_
    refine mx_iconst (pc' := 18) (v := nI 0) dX5_calmestAt_17 (by decide) rfl ?_
    refine mx_istore (pc' := 20) (ls' := [_, _, _, _, _, _]) dX5_calmestAt_18 (by decide) (rfl) rfl rfl ?_
    exact l_X5_calmestAt M N3 g T hT p u hp hu c8 hR hO (u + 1) 0 (by omega) (by omega) trivial
  · refine mx_bipush (pc' := 13) (v := (-4)) dX5_calmestAt_11 (by decide) rfl ?_
    refine mx_iret dX5_calmestAt_13 (Or.inl rfl) ?_
    exact ⟨by rw [if_pos c8], hO⟩

