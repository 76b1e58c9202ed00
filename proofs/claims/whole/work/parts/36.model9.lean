/-! the looks of the model -/
set_option maxHeartbeats 1000000 in
set_option maxRecDepth 10000 in
theorem l_X8_emitterOf (M : mx_M) (Y : Sy) (hC : MoA M Y) (ht : Y.1.2.2.1 3 + 100 < 2147483648) (r : Nat) (e : Em) (he : Y.1.1[r]? = some e) (y : Int32) : ∀ (k : Nat) (n : Nat), wtF e.2.2.1 e.2.2.2 (Y.1.2.2.1 3) < n + k → 1 ≤ n → n ≤ wtF e.2.2.1 e.2.2.2 (Y.1.2.2.1 3) → (∀ m, m < n → 1 ≤ m → (Y.1.2.2.1 3 + m) % e.2.2.1 ≠ e.2.2.2) → mx_V cX8_emitterOf RX8 4 (some .int) 3 33 [some (.ref 143), some (.int (nI r)), some (.int y), some (.int (nI n))] [] M (fun v M' => v = some (.int (nI (wtF e.2.2.1 e.2.2.2 (Y.1.2.2.1 3)))) ∧ M' = M) := by
  have h4 := hC.1.eL.1
  have hr := len_lt he
  have hV := hC.1.eL.2 e (List.mem_of_getElem? he)
  obtain ⟨v1, v2, v3, v4, v5⟩ := id hV
  have hW := hC.1.em he
  have h := wtF_ok (t := Y.1.2.2.1 3) v3 v4 v5
  have hw9 := h.2.1
  intro k
  induction k with
  | zero =>
    intro n hk hi hi2 hm
    exact absurd hk (by omega)
  | succ k ih =>
    intro n hk hi hi2 hm
    refine mx_aload_n (pc' := 34) dX8_emitterOf_33 rfl rfl ?_
    refine mx_getr (pc' := 37) dX8_emitterOf_34 fl_X8_7 (rfl) (by rfl) rfl ?_
    refine mx_iconst (pc' := 38) (v := nI 5) dX8_emitterOf_37 (by decide) rfl ?_
    refine mx_iald (pc' := 39) (v := nI (Y.1.2.2.1 3)) dX8_emitterOf_38 (rfl) (rfl) (by decide) (hC.1.sc 3 (by decide)) rfl ?_
    refine mx_iload_n (pc' := 40) dX8_emitterOf_39 rfl rfl ?_
    refine mx_iadd (pc' := 41) (v := nI (Y.1.2.2.1 3 + n)) dX8_emitterOf_40 (nI_add _ n) rfl ?_
    refine mx_aload_n (pc' := 42) dX8_emitterOf_41 rfl rfl ?_
    refine mx_iload_n (pc' := 43) dX8_emitterOf_42 rfl rfl ?_
    refine mx_iconst (pc' := 44) (v := nI 2) dX8_emitterOf_43 (by decide) rfl ?_
    refine mx_callV (pc' := 47) dX8_emitterOf_44 cl_X8_71 (rfl) (t_X8_ofEmitter M r 2 (by omega) (by decide)) rfl (by decide) rfl (Nat.le_of_ble_eq_true rfl) rfl (fun v N44 hv => ?_)
    obtain ⟨rfl, hv⟩ := hv
    rw [hv, show M 144 (17 + 4 * r + 2) = nI e.2.2.1 from hW.2.2.1]
    refine mx_irem (pc' := 48) (v := nI ((Y.1.2.2.1 3 + n) % e.2.2.1)) dX8_emitterOf_47 (nI_ne0 (by omega) (by omega)) (pk_rem (by omega) (by omega) (by omega)) rfl ?_
    refine mx_aload_n (pc' := 49) dX8_emitterOf_48 rfl rfl ?_
    refine mx_iload_n (pc' := 50) dX8_emitterOf_49 rfl rfl ?_
    refine mx_iconst (pc' := 51) (v := nI 3) dX8_emitterOf_50 (by decide) rfl ?_
    refine mx_callV (pc' := 54) dX8_emitterOf_51 cl_X8_71 (rfl) (t_X8_ofEmitter M r 3 (by omega) (by decide)) rfl (by decide) rfl (Nat.le_of_ble_eq_true rfl) rfl (fun v N51 hv => ?_)
    obtain ⟨rfl, hv⟩ := hv
    rw [hv, show M 144 (17 + 4 * r + 3) = nI e.2.2.2 from hW.2.2.2]
    have hlt : (Y.1.2.2.1 3 + n) % e.2.2.1 < e.2.2.1 := Nat.mod_lt _ (by omega)
    refine mx_icmp_eq (tgt := 63) (pc' := 57) dX8_emitterOf_54 (by decide) rfl (fun c54 => ?_) (fun c54 => ?_)
    · have c54 := (nI_eq (by omega) (by omega)).mp c54
      refine mx_iload_n (pc' := 64) dX8_emitterOf_63 rfl rfl ?_
      refine mx_iret dX8_emitterOf_64 (Or.inl rfl) ?_
      refine ⟨?_, rfl⟩
      rw [show n = wtF e.2.2.1 e.2.2.2 (Y.1.2.2.1 3) from ?_]
      rcases Nat.lt_trichotomy n (wtF e.2.2.1 e.2.2.2 (Y.1.2.2.1 3)) with z | z | z
      · exact absurd c54 (h.2.2 n z hi)
      · exact z
      · exact absurd h.1 (hm _ z (by unfold wtF; omega))
    · have c54 : ¬ _ := fun z => c54 ((nI_eq (by omega) (by omega)).mpr z)
      refine mx_iinc (pc' := 60) (ls' := [_, _, _, _]) (v := nI (n + 1)) dX8_emitterOf_57 rfl (nI_add n 1) (by decide) (rfl) rfl rfl ?_
      refine mx_goto (pc' := 33) dX8_emitterOf_60 (by decide) ?_
      refine ih (n + 1) (by omega) (by omega) (by
          rcases Nat.lt_or_ge n (wtF e.2.2.1 e.2.2.2 (Y.1.2.2.1 3)) with z | z
          · omega
          · exact absurd (show (Y.1.2.2.1 3 + wtF e.2.2.1 e.2.2.2 (Y.1.2.2.1 3)) % e.2.2.1 ≠ e.2.2.2 from if q : wtF e.2.2.1 e.2.2.2 (Y.1.2.2.1 3) = n then q ▸ c54 else hm _ (by omega) (by unfold wtF; omega)) (not_not_intro h.1)) ?_
      intro m z1 z2
      by_cases z : m = n
      · rw [z]; exact c54
      · exact hm m (by omega) z2

set_option maxHeartbeats 1000000 in
set_option maxRecDepth 10000 in
theorem t_X8_emitterOf (M : mx_M) (Y : Sy) (hC : MoA M Y) (ht : Y.1.2.2.1 3 + 100 < 2147483648) (x y : Int32) : mx_T yX8_emitterOf cX8_emitterOf 4 (some .int) 3 [.ref 143, .int x, .int y] M (fun v M' => v = some (.int (oEmitterOf x y Y)) ∧ MoA M' Y ∧ Cl M M') := by
  refine mx_T.of1 (own := RX8) (ls := [some (.ref 143), some (.int x), some (.int y), none]) (by decide +kernel) rfl (Nat.le_of_ble_eq_true rfl) rfl rfl ?_
  refine mx_aload_n (pc' := 1) dX8_emitterOf_0 rfl rfl ?_
  refine mx_iload_n (pc' := 2) dX8_emitterOf_1 rfl rfl ?_
  refine mx_callV (pc' := 5) dX8_emitterOf_2 cl_X8_97 (rfl) (t_X8_isEmitter M Y.1.1.length hC.1.E hC.1.eL.1 x) rfl (by decide) rfl (Nat.le_of_ble_eq_true rfl) rfl (fun v N2 hv => ?_)
  obtain ⟨rfl, hv⟩ := hv
  rw [hv]
  refine mx_if_eq (tgt := 17) (pc' := 8) dX8_emitterOf_5 (by decide) rfl (fun c5 => ?_) (fun c5 => ?_)
  · have c5 := bI_0.mp c5
    refine mx_iconst (pc' := 18) (v := (-1)) dX8_emitterOf_17 (by decide) rfl ?_
    refine mx_iret dX8_emitterOf_18 (Or.inl rfl) ?_
    have e : oEmitterOf x y Y = (-1) := if_neg (c5)
    rw [e]
    exact ⟨rfl, hC, Cl.rf⟩
  · have c5 := bI_n.mp c5
    have h4 := hC.1.eL.1
    obtain ⟨r, hr, rfl⟩ := ge_of c5.1 c5.2 (by omega)
    obtain ⟨e, he⟩ := get_lt hr
    have hW := hC.1.em he
    have hg : Y.1.1.getD (tN (nI r)) eD = e := by rw [tN_n (by omega), List.getD_eq_getElem?_getD, he]; rfl
    have ea : ∀ y : Int32, oEmitterOf (nI r) y Y = (if y = nI 0 then nI e.1 else if y = nI 1 then nI e.2.1 else if y = nI 2 then nI e.2.2.1 else if y = nI 3 then nI e.2.2.2 else if y = nI 4 then nI (wtF e.2.2.1 e.2.2.2 (Y.1.2.2.1 3)) else (-1)) := by
      intro y
      unfold oEmitterOf
      rw [if_pos c5, hg]
    refine mx_iload_n (pc' := 9) dX8_emitterOf_8 rfl rfl ?_
    refine mx_iconst (pc' := 10) (v := nI 0) dX8_emitterOf_9 (by decide) rfl ?_
    refine mx_iconst (pc' := 11) (v := nI 4) dX8_emitterOf_10 (by decide) rfl ?_
    refine mx_callS (pc' := 14) dX8_emitterOf_11 cl_X8_49 (t_X8_in M y (nI 0) (nI 4)) rfl (by decide) rfl (Nat.le_of_ble_eq_true rfl) rfl (fun v N11 hv => ?_)
    obtain ⟨rfl, hv⟩ := hv
    rw [hv]
    refine mx_if_ne (tgt := 19) (pc' := 17) dX8_emitterOf_14 (by decide) rfl (fun c14 => ?_) (fun c14 => ?_)
    · have c14 := bI_n.mp c14
      obtain ⟨w, -, hw, rfl⟩ := ge_of2 c14.1 c14.2 (by decide) (by decide)
      refine mx_iload_n (pc' := 20) dX8_emitterOf_19 rfl rfl ?_
      refine mx_iconst (pc' := 21) (v := nI 4) dX8_emitterOf_20 (by decide) rfl ?_
      refine mx_icmp_ge (tgt := 31) (pc' := 24) dX8_emitterOf_21 (by decide) rfl (fun c21 => ?_) (fun c21 => ?_)
      · have c21 := (nI_leI (by omega) (by omega)).mp c21
        obtain rfl : w = 4 := by omega
        refine mx_iconst (pc' := 32) (v := nI 1) dX8_emitterOf_31 (by decide) rfl ?_
        refine mx_istore_n (pc' := 33) (ls' := [_, _, _, _]) dX8_emitterOf_32 (by decide) (rfl) rfl rfl ?_
        have hV := hC.1.eL.2 e (List.mem_of_getElem? he)
        have h1 : 1 ≤ wtF e.2.2.1 e.2.2.2 (Y.1.2.2.1 3) := by unfold wtF; omega
        refine ((l_X8_emitterOf M Y hC ht r e he (nI 4) (wtF e.2.2.1 e.2.2.2 (Y.1.2.2.1 3) + 1) 1 (by omega) (by omega) h1 (fun m z1 z2 => by omega))).post fun v M' hv => ?_
        obtain ⟨rfl, hv⟩ := hv
        rw [hv, ea]
        exact ⟨rfl, hC, Cl.rf⟩
      · have c21 := Nat.not_le.mp (fun z => c21 ((nI_leI (by omega) (by omega)).mpr z))
        refine mx_aload_n (pc' := 25) dX8_emitterOf_24 rfl rfl ?_
        refine mx_iload_n (pc' := 26) dX8_emitterOf_25 rfl rfl ?_
        refine mx_iload_n (pc' := 27) dX8_emitterOf_26 rfl rfl ?_
        refine mx_callV (pc' := 30) dX8_emitterOf_27 cl_X8_71 (rfl) (t_X8_ofEmitter M r w (by omega) (by omega)) rfl (by decide) rfl (Nat.le_of_ble_eq_true rfl) rfl (fun v N27 hv => ?_)
        obtain ⟨rfl, hv⟩ := hv
        rw [hv]
        refine mx_iret dX8_emitterOf_30 (Or.inl rfl) ?_
        rw [ea]
        rcases (show w = 0 ∨ w = 1 ∨ w = 2 ∨ w = 3 by omega) with rfl | rfl | rfl | rfl
        · exact ⟨by rw [if_pos rfl]; exact congrArg (fun z => some (Value.int z)) hW.1, hC, Cl.rf⟩
        · exact ⟨by rw [if_neg (by decide), if_pos rfl]; exact congrArg (fun z => some (Value.int z)) hW.2.1, hC, Cl.rf⟩
        · exact ⟨by rw [if_neg (by decide), if_neg (by decide), if_pos rfl]; exact congrArg (fun z => some (Value.int z)) hW.2.2.1, hC, Cl.rf⟩
        · exact ⟨by rw [if_neg (by decide), if_neg (by decide), if_neg (by decide), if_pos rfl]; exact congrArg (fun z => some (Value.int z)) hW.2.2.2, hC, Cl.rf⟩
    · have c14 := bI_0.mp c14
      refine mx_iconst (pc' := 18) (v := (-1)) dX8_emitterOf_17 (by decide) rfl ?_
      refine mx_iret dX8_emitterOf_18 (Or.inl rfl) ?_
      rw [ea, if_neg (fun z => c14 (by rw [z]; decide)), if_neg (fun z => c14 (by rw [z]; decide)), if_neg (fun z => c14 (by rw [z]; decide)), if_neg (fun z => c14 (by rw [z]; decide)), if_neg (fun z => c14 (by rw [z]; decide))]
      exact ⟨rfl, hC, Cl.rf⟩

set_option maxHeartbeats 1000000 in
set_option maxRecDepth 10000 in
theorem t_X8_bullet (M : mx_M) (Y : Sy) (hC : MoA M Y) (x y : Int32) : mx_T yX8_bullet cX8_bullet 3 (some .int) 2 [.ref 143, .int x, .int y] M (fun v M' => v = some (.int (oBullet x y Y)) ∧ MoA M' Y ∧ Cl M M') := by
  have h60 := hC.1.bL.1
  refine mx_T.of1 (own := RX8) (ls := [some (.ref 143), some (.int x), some (.int y)]) (by decide +kernel) rfl (Nat.le_of_ble_eq_true rfl) rfl rfl ?_
  refine mx_iload_n (pc' := 1) dX8_bullet_0 rfl rfl ?_
  refine mx_iconst (pc' := 2) (v := nI 0) dX8_bullet_1 (by decide) rfl ?_
  refine mx_aload_n (pc' := 3) dX8_bullet_2 rfl rfl ?_
  refine mx_getr (pc' := 6) dX8_bullet_3 fl_X8_7 (rfl) (by rfl) rfl ?_
  refine mx_iconst (pc' := 7) (v := nI 1) dX8_bullet_6 (by decide) rfl ?_
  refine mx_iald (pc' := 8) (v := nI Y.1.2.1.length) dX8_bullet_7 (rfl) (rfl) (by decide) (hC.1.B) rfl ?_
  refine mx_iconst (pc' := 9) (v := nI 1) dX8_bullet_8 (by decide) rfl ?_
  refine mx_isub (pc' := 10) dX8_bullet_9 (rfl) rfl ?_
  refine mx_callS (pc' := 13) dX8_bullet_10 cl_X8_49 (t_X8_in M x (nI 0) (nI Y.1.2.1.length - nI 1)) rfl (by decide) rfl (Nat.le_of_ble_eq_true rfl) rfl (fun v N10 hv => ?_)
  obtain ⟨rfl, hv⟩ := hv
  rw [hv]
  refine mx_if_eq (tgt := 34) (pc' := 16) dX8_bullet_13 (by decide) rfl (fun c13 => ?_) (fun c13 => ?_)
  · have c13 : ¬ (0 ≤ x ∧ x < nI Y.1.2.1.length) := fun z => bI_0.mp c13 ⟨z.1, (le_pred (by omega)).mpr z.2⟩
    refine mx_iconst (pc' := 35) (v := (-1)) dX8_bullet_34 (by decide) rfl ?_
    refine mx_iret dX8_bullet_35 (Or.inl rfl) ?_
    have e : oBullet x y Y = (-1) := if_neg (c13)
    rw [e]
    exact ⟨rfl, hC, Cl.rf⟩
  · have c13 := bI_n.mp c13
    have c13 : 0 ≤ x ∧ x < nI Y.1.2.1.length := ⟨c13.1, (le_pred (by omega)).mp c13.2⟩
    obtain ⟨r, hr, rfl⟩ := ge_of c13.1 c13.2 (by omega)
    obtain ⟨e, he⟩ := get_lt hr
    have hW := hC.1.bu he
    have hg : Y.1.2.1.getD (tN (nI r)) bD = e := by rw [tN_n (by omega), List.getD_eq_getElem?_getD, he]; rfl
    have ea : ∀ y : Int32, oBullet (nI r) y Y = (if y = nI 0 then nI e.1 else if y = nI 1 then nI e.2.1 else if y = nI 2 then nI e.2.2.1 else if y = nI 3 then nI e.2.2.2.1 else if y = nI 4 then nI e.2.2.2.2 else (-1)) := by
      intro y
      unfold oBullet
      rw [if_pos c13, hg]
    refine mx_iload_n (pc' := 17) dX8_bullet_16 rfl rfl ?_
    refine mx_iconst (pc' := 18) (v := nI 0) dX8_bullet_17 (by decide) rfl ?_
    refine mx_iconst (pc' := 19) (v := nI 4) dX8_bullet_18 (by decide) rfl ?_
    refine mx_callS (pc' := 22) dX8_bullet_19 cl_X8_49 (t_X8_in M y (nI 0) (nI 4)) rfl (by decide) rfl (Nat.le_of_ble_eq_true rfl) rfl (fun v N19 hv => ?_)
    obtain ⟨rfl, hv⟩ := hv
    rw [hv]
    refine mx_if_eq (tgt := 34) (pc' := 25) dX8_bullet_22 (by decide) rfl (fun c22 => ?_) (fun c22 => ?_)
    · have c22 := bI_0.mp c22
      refine mx_iconst (pc' := 35) (v := (-1)) dX8_bullet_34 (by decide) rfl ?_
      refine mx_iret dX8_bullet_35 (Or.inl rfl) ?_
      rw [ea, if_neg (fun z => c22 (by rw [z]; decide)), if_neg (fun z => c22 (by rw [z]; decide)), if_neg (fun z => c22 (by rw [z]; decide)), if_neg (fun z => c22 (by rw [z]; decide)), if_neg (fun z => c22 (by rw [z]; decide))]
      exact ⟨rfl, hC, Cl.rf⟩
    · have c22 := bI_n.mp c22
      obtain ⟨w, -, hw, rfl⟩ := ge_of2 c22.1 c22.2 (by decide) (by decide)
      refine mx_aload_n (pc' := 26) dX8_bullet_25 rfl rfl ?_
      refine mx_iload_n (pc' := 27) dX8_bullet_26 rfl rfl ?_
      refine mx_iload_n (pc' := 28) dX8_bullet_27 rfl rfl ?_
      refine mx_callV (pc' := 31) dX8_bullet_28 cl_X8_53 (rfl) (t_X8_of M r w (by omega) (by omega)) rfl (by decide) rfl (Nat.le_of_ble_eq_true rfl) rfl (fun v N28 hv => ?_)
      obtain ⟨rfl, hv⟩ := hv
      rw [hv]
      refine mx_goto (pc' := 35) dX8_bullet_31 (by decide) ?_
      refine mx_iret dX8_bullet_35 (Or.inl rfl) ?_
      rw [ea]
      rcases (show w = 0 ∨ w = 1 ∨ w = 2 ∨ w = 3 ∨ w = 4 by omega) with rfl | rfl | rfl | rfl | rfl
      · exact ⟨by rw [if_pos rfl]; exact congrArg (fun z => some (Value.int z)) hW.1, hC, Cl.rf⟩
      · exact ⟨by rw [if_neg (by decide), if_pos rfl]; exact congrArg (fun z => some (Value.int z)) hW.2.1, hC, Cl.rf⟩
      · exact ⟨by rw [if_neg (by decide), if_neg (by decide), if_pos rfl]; exact congrArg (fun z => some (Value.int z)) hW.2.2.1, hC, Cl.rf⟩
      · exact ⟨by rw [if_neg (by decide), if_neg (by decide), if_neg (by decide), if_pos rfl]; exact congrArg (fun z => some (Value.int z)) hW.2.2.2.1, hC, Cl.rf⟩
      · exact ⟨by rw [if_neg (by decide), if_neg (by decide), if_neg (by decide), if_neg (by decide), if_pos rfl]; exact congrArg (fun z => some (Value.int z)) hW.2.2.2.2, hC, Cl.rf⟩

set_option maxHeartbeats 1000000 in
set_option maxRecDepth 10000 in
theorem l_X8_bulletsAt (M : mx_M) (F : FS) (hF : MF M F) (r c : Nat) (hr : r < 12) (hc : c < 10) : ∀ (k : Nat) (i f : Nat), F.2.1.length < i + k → i ≤ F.2.1.length → f = (F.2.1.take i).countP (atB r c) → mx_V cX8_bulletsAt RX8 5 (some .int) 3 5 [some (.ref 143), some (.int (nI r)), some (.int (nI c)), some (.int (nI f)), some (.int (nI i))] [] M (fun v M' => v = some (.int (nI (F.2.1.countP (atB r c)))) ∧ M' = M) := by
  have h60 := hF.bL.1
  intro k
  induction k with
  | zero =>
    intro i f hk hi hf
    exact absurd hk (by omega)
  | succ k ih =>
    intro i f hk hi hf
    refine mx_iload (pc' := 7) dX8_bulletsAt_5 rfl rfl ?_
    refine mx_aload_n (pc' := 8) dX8_bulletsAt_7 rfl rfl ?_
    refine mx_getr (pc' := 11) dX8_bulletsAt_8 fl_X8_7 (rfl) (by rfl) rfl ?_
    refine mx_iconst (pc' := 12) (v := nI 1) dX8_bulletsAt_11 (by decide) rfl ?_
    refine mx_iald (pc' := 13) (v := nI F.2.1.length) dX8_bulletsAt_12 (rfl) (rfl) (by decide) (hF.B) rfl ?_
    refine mx_icmp_ge (tgt := 41) (pc' := 16) dX8_bulletsAt_13 (by decide) rfl (fun c13 => ?_) (fun c13 => ?_)
    · have c13 := (nI_leI (by omega) (by omega)).mp c13
      rw [List.take_of_length_le c13] at hf
      refine mx_iload_n (pc' := 42) dX8_bulletsAt_41 rfl rfl ?_
      refine mx_iret dX8_bulletsAt_42 (Or.inl rfl) ?_
      rw [hf]
      exact ⟨rfl, rfl⟩
    · have c13 := Nat.not_le.mp (fun z => c13 ((nI_leI (by omega) (by omega)).mpr z))
      obtain ⟨x, hx⟩ := get_lt c13
      refine mx_iload_n (pc' := 17) dX8_bulletsAt_16 rfl rfl ?_
      refine mx_aload_n (pc' := 18) dX8_bulletsAt_17 rfl rfl ?_
      refine mx_iload (pc' := 20) dX8_bulletsAt_18 rfl rfl ?_
      refine mx_iload_n (pc' := 21) dX8_bulletsAt_20 rfl rfl ?_
      refine mx_iload_n (pc' := 22) dX8_bulletsAt_21 rfl rfl ?_
      refine mx_callV (pc' := 25) dX8_bulletsAt_22 cl_X8_78 (rfl) (t_X8_isAt M i (by omega) x (hF.bu hx) (hF.bL.2 x (List.mem_of_getElem? hx)) r c hr hc) rfl (by decide) rfl (Nat.le_of_ble_eq_true rfl) rfl (fun v N22 hv => ?_)
      obtain ⟨rfl, hv⟩ := hv
      rw [hv]
      refine mx_if_eq (tgt := 32) (pc' := 28) dX8_bulletsAt_25 (by decide) rfl (fun c25 => ?_) (fun c25 => ?_)
      · have c25 : ¬ atB r c x = true := bI_0.mp c25
        refine mx_iconst (pc' := 33) (v := nI 0) dX8_bulletsAt_32 (by decide) rfl ?_
        refine mx_iadd (pc' := 34) (v := nI (f + 0)) dX8_bulletsAt_33 (nI_add f _) rfl ?_
        refine mx_istore_n (pc' := 35) (ls' := [_, _, _, _, _]) dX8_bulletsAt_34 (by decide) (rfl) rfl rfl ?_
        refine mx_iinc (pc' := 38) (ls' := [_, _, _, _, _]) (v := nI (i + 1)) dX8_bulletsAt_35 rfl (nI_add i 1) (by decide) (rfl) rfl rfl ?_
        refine mx_goto (pc' := 5) dX8_bulletsAt_38 (by decide) ?_
        refine ih (i + 1) _ (by omega) (by omega) ?_
        rw [take_snoc hx, List.countP_append, ← hf]
        simp [c25]
      · have c25 : atB r c x = true := bI_n.mp c25
        refine mx_iconst (pc' := 29) (v := nI 1) dX8_bulletsAt_28 (by decide) rfl ?_
        refine mx_goto (pc' := 33) dX8_bulletsAt_29 (by decide) ?_
        refine mx_iadd (pc' := 34) (v := nI (f + 1)) dX8_bulletsAt_33 (nI_add f _) rfl ?_
        refine mx_istore_n (pc' := 35) (ls' := [_, _, _, _, _]) dX8_bulletsAt_34 (by decide) (rfl) rfl rfl ?_
        refine mx_iinc (pc' := 38) (ls' := [_, _, _, _, _]) (v := nI (i + 1)) dX8_bulletsAt_35 rfl (nI_add i 1) (by decide) (rfl) rfl rfl ?_
        refine mx_goto (pc' := 5) dX8_bulletsAt_38 (by decide) ?_
        refine ih (i + 1) _ (by omega) (by omega) ?_
        rw [take_snoc hx, List.countP_append, ← hf]
        simp [c25]

set_option maxHeartbeats 1000000 in
set_option maxRecDepth 10000 in
theorem t_X8_bulletsAt (M : mx_M) (F : FS) (hF : MF M F) (r c : Nat) (hr : r < 12) (hc : c < 10) : mx_T yX8_bulletsAt cX8_bulletsAt 5 (some .int) 3 [.ref 143, .int (nI r), .int (nI c)] M (fun v M' => v = some (.int (nI (F.2.1.countP (atB r c)))) ∧ M' = M) := by
  refine mx_T.of1 (own := RX8) (ls := [some (.ref 143), some (.int (nI r)), some (.int (nI c)), none, none]) (by decide +kernel) rfl (Nat.le_of_ble_eq_true rfl) rfl rfl ?_
  refine mx_iconst (pc' := 1) (v := nI 0) dX8_bulletsAt_0 (by decide) rfl ?_
  refine mx_istore_n (pc' := 2) (ls' := [_, _, _, _, _]) dX8_bulletsAt_1 (by decide) (rfl) rfl rfl ?_
  refine mx_iconst (pc' := 3) (v := nI 0) dX8_bulletsAt_2 (by decide) rfl ?_
  refine mx_istore (pc' := 5) (ls' := [_, _, _, _, _]) dX8_bulletsAt_3 (by decide) (rfl) rfl rfl ?_
  exact l_X8_bulletsAt M F hF r c hr hc (F.2.1.length + 1) 0 0 (by omega) (by omega) rfl

set_option maxHeartbeats 1000000 in
set_option maxRecDepth 10000 in
theorem t_X8_at (M : mx_M) (Y : Sy) (hC : MoA M Y) (x y : Int32) : mx_T yX8_at cX8_at 3 (some .int) 4 [.ref 143, .int x, .int y] M (fun v M' => v = some (.int (oAt x y Y)) ∧ MoA M' Y ∧ Cl M M') := by
  refine mx_T.of1 (own := RX8) (ls := [some (.ref 143), some (.int x), some (.int y)]) (by decide +kernel) rfl (Nat.le_of_ble_eq_true rfl) rfl rfl ?_
  refine mx_iload_n (pc' := 1) dX8_at_0 rfl rfl ?_
  refine mx_iconst (pc' := 2) (v := nI 0) dX8_at_1 (by decide) rfl ?_
  refine mx_bipush (pc' := 4) (v := nI 11) dX8_at_2 (by decide) rfl ?_
  refine mx_callS (pc' := 7) dX8_at_4 cl_X8_49 (t_X8_in M x (nI 0) (nI 11)) rfl (by decide) rfl (Nat.le_of_ble_eq_true rfl) rfl (fun v N4 hv => ?_)
  obtain ⟨rfl, hv⟩ := hv
  rw [hv]
  refine mx_if_eq (tgt := 29) (pc' := 10) dX8_at_7 (by decide) rfl (fun c7 => ?_) (fun c7 => ?_)
  · have c7 : ¬ (nI 0 ≤ x ∧ x ≤ nI 11) := bI_0.mp c7
    refine mx_iconst (pc' := 30) (v := (-1)) dX8_at_29 (by decide) rfl ?_
    refine mx_iret dX8_at_30 (Or.inl rfl) ?_
    have e : oAt x y Y = (-1) := if_neg (fun z => c7 z.1)
    rw [e]
    exact ⟨rfl, hC, Cl.rf⟩
  · have c7 := bI_n.mp c7
    refine mx_iload_n (pc' := 11) dX8_at_10 rfl rfl ?_
    refine mx_iconst (pc' := 12) (v := nI 0) dX8_at_11 (by decide) rfl ?_
    refine mx_bipush (pc' := 14) (v := nI 9) dX8_at_12 (by decide) rfl ?_
    refine mx_callS (pc' := 17) dX8_at_14 cl_X8_49 (t_X8_in M y (nI 0) (nI 9)) rfl (by decide) rfl (Nat.le_of_ble_eq_true rfl) rfl (fun v N14 hv => ?_)
    obtain ⟨rfl, hv⟩ := hv
    rw [hv]
    refine mx_if_eq (tgt := 29) (pc' := 20) dX8_at_17 (by decide) rfl (fun c17 => ?_) (fun c17 => ?_)
    · have c17 : ¬ (nI 0 ≤ y ∧ y ≤ nI 9) := bI_0.mp c17
      refine mx_iconst (pc' := 30) (v := (-1)) dX8_at_29 (by decide) rfl ?_
      refine mx_iret dX8_at_30 (Or.inl rfl) ?_
      have e : oAt x y Y = (-1) := if_neg (fun z => c17 ⟨z.2.1, lt10 z.2.2⟩)
      rw [e]
      exact ⟨rfl, hC, Cl.rf⟩
    · have c17 := bI_n.mp c17
      have c17 : 0 ≤ y ∧ y < nI 10 := ⟨c17.1, Int32.lt_of_le_of_lt c17.2 (by decide)⟩
      have ea : oAt x y Y = nI (Y.1.2.1.countP (atB (tN x) (tN y))) := if_pos ⟨c7, c17⟩
      rw [ea]
      obtain ⟨r, -, hr, rfl⟩ := ge_of2 (m := 0) c7.1 c7.2 (by decide) (by decide)
      obtain ⟨c, hc, rfl⟩ := ge_of c17.1 c17.2 (by decide)
      rw [tN_n (by omega), tN_n (by omega)]
      refine mx_aload_n (pc' := 21) dX8_at_20 rfl rfl ?_
      refine mx_iload_n (pc' := 22) dX8_at_21 rfl rfl ?_
      refine mx_iload_n (pc' := 23) dX8_at_22 rfl rfl ?_
      refine mx_callV (pc' := 26) dX8_at_23 cl_X8_151 (rfl) (t_X8_bulletsAt M Y.1 hC.1 r c (by omega) hc) rfl (by decide) rfl (Nat.le_of_ble_eq_true rfl) rfl (fun v N23 hv => ?_)
      obtain ⟨rfl, hv⟩ := hv
      rw [hv]
      refine mx_goto (pc' := 30) dX8_at_26 (by decide) ?_
      refine mx_iret dX8_at_30 (Or.inl rfl) ?_
      exact ⟨rfl, hC, Cl.rf⟩

theorem MoA.cnt {M : mx_M} {Y : Sy} (h : MoA M Y) : ∀ j, j < 17 → M 144 j = cntV Y j := by
  intro j hj
  rcases (show j = 0 ∨ j = 1 ∨ (2 ≤ j ∧ j < 7) ∨ (7 ≤ j ∧ j < 15) ∨ j = 15 ∨ j = 16 by omega) with rfl | rfl | h1 | h1 | rfl | rfl
  · exact h.1.E
  · exact h.1.B
  · have := h.1.sc (j - 2) (by omega)
    rcases (show j = 2 ∨ j = 3 ∨ j = 4 ∨ j = 5 ∨ j = 6 by omega) with rfl | rfl | rfl | rfl | rfl <;> exact this
  · have := h.1.ac (j - 7) (by omega)
    rcases (show j = 7 ∨ j = 8 ∨ j = 9 ∨ j = 10 ∨ j = 11 ∨ j = 12 ∨ j = 13 ∨ j = 14 by omega) with rfl | rfl | rfl | rfl | rfl | rfl | rfl | rfl <;> exact this
  · exact h.1.st 0 (by decide)
  · exact h.1.st 1 (by decide)
theorem oCount_n {Y : Sy} {j : Nat} (hj : j ≤ 18) : oCount (nI j) Y = cntV Y j := by
  unfold oCount
  rw [if_pos ⟨nI_pos' (by omega), (nI_leI (by omega) (by omega)).mpr (by omega)⟩, tN_n (by omega)]
set_option maxHeartbeats 1000000 in
set_option maxRecDepth 10000 in
theorem t_X8_count (M : mx_M) (Y : Sy) (hC : MoA M Y) (x : Int32) : mx_T yX8_count cX8_count 2 (some .int) 2 [.ref 143, .int x] M (fun v M' => v = some (.int (oCount x Y)) ∧ MoA M' Y ∧ Cl M M') := by
  refine mx_T.of1 (own := RX8) (ls := [some (.ref 143), some (.int x)]) (by decide +kernel) rfl (Nat.le_of_ble_eq_true rfl) rfl rfl ?_
  refine mx_iload_n (pc' := 1) dX8_count_0 rfl rfl ?_
  refine mx_iconst (pc' := 2) (v := nI 0) dX8_count_1 (by decide) rfl ?_
  refine mx_bipush (pc' := 4) (v := nI 16) dX8_count_2 (by decide) rfl ?_
  refine mx_callS (pc' := 7) dX8_count_4 cl_X8_49 (t_X8_in M x (nI 0) (nI 16)) rfl (by decide) rfl (Nat.le_of_ble_eq_true rfl) rfl (fun v N4 hv => ?_)
  obtain ⟨rfl, hv⟩ := hv
  rw [hv]
  refine mx_if_eq (tgt := 19) (pc' := 10) dX8_count_7 (by decide) rfl (fun c7 => ?_) (fun c7 => ?_)
  · have c7 : ¬ (nI 0 ≤ x ∧ x ≤ nI 16) := bI_0.mp c7
    refine mx_iload_n (pc' := 20) dX8_count_19 rfl rfl ?_
    refine mx_bipush (pc' := 22) (v := nI 17) dX8_count_20 (by decide) rfl ?_
    refine mx_icmp_ne (tgt := 32) (pc' := 25) dX8_count_22 (by decide) rfl (fun c22 => ?_) (fun c22 => ?_)
    · refine mx_iload_n (pc' := 33) dX8_count_32 rfl rfl ?_
      refine mx_bipush (pc' := 35) (v := nI 18) dX8_count_33 (by decide) rfl ?_
      refine mx_icmp_ne (tgt := 45) (pc' := 38) dX8_count_35 (by decide) rfl (fun c35 => ?_) (fun c35 => ?_)
      · refine mx_iconst (pc' := 46) (v := (-1)) dX8_count_45 (by decide) rfl ?_
        refine mx_iret dX8_count_46 (Or.inl rfl) ?_
        have e : oCount x Y = (-1) := if_neg (fun z => by
          obtain ⟨k, -, hk, rfl⟩ := ge_of2 (m := 0) z.1 z.2 (by decide) (by decide)
          have h1 : ¬ k ≤ 16 := fun q => c7 ⟨z.1, (nI_leI (by omega) (by omega)).mpr q⟩
          have h2 : k ≠ 17 := fun q => c22 (by rw [q])
          have h3 : k ≠ 18 := fun q => c35 (by rw [q])
          omega)
        rw [e]
        exact ⟨rfl, hC, Cl.rf⟩
      · subst c35
        rw [oCount_n (by decide)]
        refine mx_aload_n (pc' := 39) dX8_count_38 rfl rfl ?_
        refine mx_getf (pc' := 42) (v := nI Y.2.1.length) dX8_count_39 fl_X8_41 (rfl) (by rfl) (hC.2.2.1.1) rfl ?_
        refine mx_goto (pc' := 46) dX8_count_42 (by decide) ?_
        refine mx_iret dX8_count_46 (Or.inl rfl) ?_
        exact ⟨rfl, hC, Cl.rf⟩
    · subst c22
      rw [oCount_n (by decide)]
      refine mx_aload_n (pc' := 26) dX8_count_25 rfl rfl ?_
      refine mx_getf (pc' := 29) (v := nI Y.2.2.2.length) dX8_count_26 fl_X8_116 (rfl) (by rfl) (hC.2.2.2.2.1) rfl ?_
      refine mx_goto (pc' := 46) dX8_count_29 (by decide) ?_
      refine mx_iret dX8_count_46 (Or.inl rfl) ?_
      exact ⟨rfl, hC, Cl.rf⟩
  · have c7 := bI_n.mp c7
    obtain ⟨j, -, hj, rfl⟩ := ge_of2 (m := 0) c7.1 c7.2 (by decide) (by decide)
    rw [oCount_n (by omega)]
    refine mx_aload_n (pc' := 11) dX8_count_10 rfl rfl ?_
    refine mx_getr (pc' := 14) dX8_count_11 fl_X8_7 (rfl) (by rfl) rfl ?_
    refine mx_iload_n (pc' := 15) dX8_count_14 rfl rfl ?_
    refine mx_iald (pc' := 16) (v := cntV Y j) dX8_count_15 (rfl) (rfl) (by omega) (hC.cnt j (by omega)) rfl ?_
    refine mx_goto (pc' := 46) dX8_count_16 (by decide) ?_
    refine mx_iret dX8_count_46 (Or.inl rfl) ?_
    exact ⟨rfl, hC, Cl.rf⟩

theorem fr_or : ∀ f, f < 1024 → ∀ c, c < 10 → nI f ||| (nI 1 <<< (nI c &&& 31)) = nI (f ||| 2 ^ c) := by decide +kernel
theorem fr_or0 : ∀ f, f < 1024 → nI f ||| nI 0 = nI f := by decide +kernel
theorem any_cnt {L : List Bu} {p : Bu → Bool} : L.countP p = 0 ↔ L.any p = false := by
  rw [List.countP_eq_zero]
  simp
set_option maxHeartbeats 1000000 in
set_option maxRecDepth 10000 in
theorem l_X8_freeNow (M : mx_M) (F : FS) (hF : MF M F) : ∀ (k : Nat) (i f : Nat), 10 < i + k → i ≤ 10 → f < 1024 → (∀ c, c < 10 → f.testBit c = (decide (c < i) && !F.2.1.any (atB 11 c))) → mx_V cX8_freeNow RX8 3 (some .int) 4 4 [some (.ref 143), some (.int (nI f)), some (.int (nI i))] [] M (fun v M' => v = some (.int (nI (frB F.2.1))) ∧ M' = M) := by
  intro k
  induction k with
  | zero =>
    intro i f hk hi hf hb
    exact absurd hk (by omega)
  | succ k ih =>
    intro i f hk hi hf hb
    refine mx_iload_n (pc' := 5) dX8_freeNow_4 rfl rfl ?_
    refine mx_bipush (pc' := 7) (v := nI 10) dX8_freeNow_5 (by decide) rfl ?_
    refine mx_icmp_ge (tgt := 36) (pc' := 10) dX8_freeNow_7 (by decide) rfl (fun c7 => ?_) (fun c7 => ?_)
    · have c7 := (nI_leI (by omega) (by omega)).mp c7
      obtain rfl : i = 10 := by omega
      refine mx_iload_n (pc' := 37) dX8_freeNow_36 rfl rfl ?_
      refine mx_iret dX8_freeNow_37 (Or.inl rfl) ?_
      exact ⟨by rw [bits_eq hf (bits10_lt _) (fun k2 hk2 => (hb k2 hk2).trans (by rw [bits10_tb _ k2 hk2, decide_eq_true hk2, Bool.true_and]))]; rfl, rfl⟩
    · have c7 := Nat.not_le.mp (fun z => c7 ((nI_leI (by omega) (by omega)).mpr z))
      refine mx_iload_n (pc' := 11) dX8_freeNow_10 rfl rfl ?_
      refine mx_aload_n (pc' := 12) dX8_freeNow_11 rfl rfl ?_
      refine mx_bipush (pc' := 14) (v := nI 11) dX8_freeNow_12 (by decide) rfl ?_
      refine mx_iload_n (pc' := 15) dX8_freeNow_14 rfl rfl ?_
      refine mx_callV (pc' := 18) dX8_freeNow_15 cl_X8_151 (rfl) (t_X8_bulletsAt M F hF 11 i (by decide) c7) rfl (by decide) rfl (Nat.le_of_ble_eq_true rfl) rfl (fun v N15 hv => ?_)
      obtain ⟨rfl, hv⟩ := hv
      rw [hv]
      have hcl : F.2.1.countP (atB 11 i) ≤ 60 := Nat.le_trans List.countP_le_length hF.bL.1
      refine mx_if_ne (tgt := 27) (pc' := 21) dX8_freeNow_18 (by decide) rfl (fun c18 => ?_) (fun c18 => ?_)
      · have c18 : F.2.1.any (atB 11 i) = true := by
          cases hz : F.2.1.any (atB 11 i) with
          | true => rfl
          | false => exact absurd (by rw [any_cnt.mpr hz]; rfl) c18
        refine mx_iconst (pc' := 28) (v := nI 0) dX8_freeNow_27 (by decide) rfl ?_
        refine mx_ior (pc' := 29) (v := nI f) dX8_freeNow_28 (fr_or0 f hf) rfl ?_
        refine mx_istore_n (pc' := 30) (ls' := [_, _, _]) dX8_freeNow_29 (by decide) (rfl) rfl rfl ?_
        refine mx_iinc (pc' := 33) (ls' := [_, _, _]) (v := nI (i + 1)) dX8_freeNow_30 rfl (nI_add i 1) (by decide) (rfl) rfl rfl ?_
        refine mx_goto (pc' := 4) dX8_freeNow_33 (by decide) ?_
        refine ih (i + 1) _ (by omega) (by omega) hf ?_
        intro k2 hk2
        rw [hb k2 hk2]
        by_cases e : i = k2
        · subst e; simp [c18]
        · have : decide (k2 < i + 1) = decide (k2 < i) := decide_eq_decide.mpr (by omega)
          rw [this]
      · have c18 : F.2.1.any (atB 11 i) = false := any_cnt.mp ((nI_eq (a := F.2.1.countP (atB 11 i)) (b := 0) (by omega) (by omega)).mp c18)
        refine mx_iconst (pc' := 22) (v := nI 1) dX8_freeNow_21 (by decide) rfl ?_
        refine mx_iload_n (pc' := 23) dX8_freeNow_22 rfl rfl ?_
        refine mx_ishl (pc' := 24) dX8_freeNow_23 (rfl) rfl ?_
        refine mx_goto (pc' := 28) dX8_freeNow_24 (by decide) ?_
        refine mx_ior (pc' := 29) (v := nI (f ||| 2 ^ i)) dX8_freeNow_28 (fr_or f hf i c7) rfl ?_
        refine mx_istore_n (pc' := 30) (ls' := [_, _, _]) dX8_freeNow_29 (by decide) (rfl) rfl rfl ?_
        refine mx_iinc (pc' := 33) (ls' := [_, _, _]) (v := nI (i + 1)) dX8_freeNow_30 rfl (nI_add i 1) (by decide) (rfl) rfl rfl ?_
        refine mx_goto (pc' := 4) dX8_freeNow_33 (by decide) ?_
        refine ih (i + 1) _ (by omega) (by omega) (Nat.or_lt_two_pow (n := 10) hf (Nat.pow_lt_pow_right (by decide) c7)) ?_
        intro k2 hk2
        rw [Nat.testBit_or, hb k2 hk2, Nat.testBit_two_pow]
        by_cases e : i = k2
        · subst e; simp [c18]
        · have : decide (k2 < i + 1) = decide (k2 < i) := decide_eq_decide.mpr (by omega)
          rw [this]; simp [e]

set_option maxHeartbeats 1000000 in
set_option maxRecDepth 10000 in
theorem t_X8_freeNow (M : mx_M) (F : FS) (hF : MF M F) : mx_T yX8_freeNow cX8_freeNow 3 (some .int) 4 [.ref 143] M (fun v M' => v = some (.int (nI (frB F.2.1))) ∧ M' = M) := by
  refine mx_T.of1 (own := RX8) (ls := [some (.ref 143), none, none]) (by decide +kernel) rfl (Nat.le_of_ble_eq_true rfl) rfl rfl ?_
  refine mx_iconst (pc' := 1) (v := nI 0) dX8_freeNow_0 (by decide) rfl ?_
  refine mx_istore_n (pc' := 2) (ls' := [_, _, _]) dX8_freeNow_1 (by decide) (rfl) rfl rfl ?_
  refine mx_iconst (pc' := 3) (v := nI 0) dX8_freeNow_2 (by decide) rfl ?_
  refine mx_istore_n (pc' := 4) (ls' := [_, _, _]) dX8_freeNow_3 (by decide) (rfl) rfl rfl ?_
  exact l_X8_freeNow M F hF 11 0 0 (by omega) (by omega) (by decide) (by intro c hc; rw [Nat.zero_testBit]; rfl)

