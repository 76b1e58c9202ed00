set_option maxHeartbeats 1000000 in
set_option maxRecDepth 10000 in
theorem t_X8_findsWay (M : mx_M) (Y : Sy) (hC : MoA M Y) (ht : Y.1.2.2.1 3 + 100 < 2147483648) (T : Nat) (hT1 : 1 ≤ T) (hT : T ≤ 30) : mx_T yX8_findsWay cX8_findsWay 8 (some .int) 7 [.ref 143, .int (nI T)] M (fun v M' => v = some (.int (calmI (fFr Y.1) (Y.1.2.2.1 0) T)) ∧ MoA M' Y ∧ Cl M M' ∧ (calmI (fFr Y.1) (Y.1.2.2.1 0) T ≠ (-4) → ∀ t, t ≤ T → M' 153 t = nI (cway (fFr Y.1) (Y.1.2.2.1 0) T t))) := by
  refine mx_T.of1 (own := RX8) (ls := [some (.ref 143), some (.int (nI T)), none, none, none, none, none, none]) (by decide +kernel) rfl (Nat.le_of_ble_eq_true rfl) rfl rfl ?_
  refine mx_aload_n (pc' := 1) dX8_findsWay_0 rfl rfl ?_
  refine mx_iload_n (pc' := 2) dX8_findsWay_1 rfl rfl ?_
  refine mx_bipush (pc' := 4) (v := (-4)) dX8_findsWay_2 (by decide) rfl ?_
  refine mx_callV (pc' := 7) dX8_findsWay_4 cl_X8_157 (rfl) (t_X8_forecasts M Y hC (-4) Y.1 FcP.n ht T hT) rfl (by decide) rfl (Nat.le_of_ble_eq_true rfl) rfl (fun v N4 hv => ?_)
  obtain ⟨rfl, hL, hC2, hO⟩ := hv
  have hp := hC.2.1.1
  have JF : ∀ N : mx_M, (∀ q, q ≠ 152 → q ≠ 153 → N q = N4 q) → MoA N Y ∧ Cl M N := fun N h => ⟨hC2.fr (h 144 (by decide) (by decide)) (by rw [h 143 (by decide) (by decide)]) (by rw [h 143 (by decide) (by decide)]) (by rw [h 143 (by decide) (by decide)]) (h 146 (by decide) (by decide)) (h 147 (by decide) (by decide)) (h 148 (by decide) (by decide)), hO.cl.tr fun q hq => h q (by omega) (by omega)⟩
  have KW : ∀ (M1 : mx_M) (b2 b3 b4 b5 b6 b7 : Option Value), mx_c1 [b2, b3, b4, b5, b6, b7] = true → (∀ q, q ≠ 152 → M1 q = N4 q) → (∀ u, u ≤ T → ZA M1 (fFr Y.1) T u) → mx_V cX8_findsWay RX8 8 (some .int) 7 174 [some (.ref 143), some (.int (nI T)), b2, b3, b4, b5, b6, b7] [] M1 (fun v M' => v = some (.int (calmI (fFr Y.1) (Y.1.2.2.1 0) T)) ∧ MoA M' Y ∧ Cl M M' ∧ (calmI (fFr Y.1) (Y.1.2.2.1 0) T ≠ (-4) → ∀ t, t ≤ T → M' 153 t = nI (cway (fFr Y.1) (Y.1.2.2.1 0) T t))) := by
    intro M1 b2 b3 b4 b5 b6 b7 hc hO1 hZ
    have hs : M1 144 2 = nI (Y.1.2.2.1 0) := by rw [hO1 144 (by decide)]; exact hC2.1.sc 0 (by decide)
    have hzb := zrow_b (g := (fFr Y.1)) hT1 hT (Nat.zero_le T) hp
    refine mx_aload_n (pc' := 175) dX8_findsWay_174 rfl rfl ?_
    refine mx_iconst (pc' := 176) (v := nI 0) dX8_findsWay_175 (by decide) rfl ?_
    refine mx_aload_n (pc' := 177) dX8_findsWay_176 rfl rfl ?_
    refine mx_getr (pc' := 180) dX8_findsWay_177 fl_X8_7 (rfl) (by rfl) rfl ?_
    refine mx_iconst (pc' := 181) (v := nI 2) dX8_findsWay_180 (by decide) rfl ?_
    refine mx_iald (pc' := 182) (v := nI (Y.1.2.2.1 0)) dX8_findsWay_181 (rfl) (rfl) (by decide) (hs) rfl ?_
    refine mx_callV (pc' := 185) dX8_findsWay_182 cl_X8_166 (rfl) (t_X8_fewestAt M1 0 (by decide) _ _ (FW.c (hZ 0 (Nat.zero_le _)) hp)) rfl (by decide) rfl (Nat.le_of_ble_eq_true rfl) rfl (fun v N182 hv => ?_)
    obtain ⟨rfl, hv⟩ := hv
    rw [hv]
    refine mx_istore_n (pc' := 186) (ls' := [_, _, _, _, _, _, _, _]) dX8_findsWay_185 (by decide) (hc) rfl rfl ?_
    refine mx_aload_n (pc' := 187) dX8_findsWay_186 rfl rfl ?_
    refine mx_getr (pc' := 190) dX8_findsWay_187 fl_X8_38 (rfl) (by rfl) rfl ?_
    refine mx_iconst (pc' := 191) (v := nI 0) dX8_findsWay_190 (by decide) rfl ?_
    refine mx_aload_n (pc' := 192) dX8_findsWay_191 rfl rfl ?_
    refine mx_getr (pc' := 195) dX8_findsWay_192 fl_X8_7 (rfl) (by rfl) rfl ?_
    refine mx_iconst (pc' := 196) (v := nI 2) dX8_findsWay_195 (by decide) rfl ?_
    refine mx_iald (pc' := 197) (v := nI (Y.1.2.2.1 0)) dX8_findsWay_196 (rfl) (rfl) (by decide) (hs) rfl ?_
    refine mx_iast (pc' := 198) dX8_findsWay_197 (rfl) (rfl) (by decide) rfl ?_
    refine mx_iconst (pc' := 199) (v := nI 1) dX8_findsWay_198 (by decide) rfl ?_
    refine mx_istore_n (pc' := 200) (ls' := [_, _, _, _, _, _, _, _]) dX8_findsWay_199 (by decide) (c1_t hc) rfl rfl ?_
    by_cases hz : zrow (fFr Y.1) T 0 (Y.1.2.2.1 0) < 1000
    · rw [show mcap (zrow (fFr Y.1) T 0 (Y.1.2.2.1 0)) = zrow (fFr Y.1) T 0 (Y.1.2.2.1 0) from if_pos hz]
      refine ((l_X8_find3 (mx_up M1 153 0 (nI (Y.1.2.2.1 0))) (fFr Y.1) T (Y.1.2.2.1 0) hT1 hT hp (fun u h c hc => by rw [mx_up_ne (by decide)]; exact hZ u h c hc) (by omega) (T + 1) 0 _ b4 b5 b6 b7 (by omega) (Nat.zero_le _) (c1_t (c1_t hc)) (fun _ _ => rfl) (fun t h => by rw [show t = 0 by omega]; exact mx_up_eq _ _ _ _) hz)).post fun v M' hv => ?_
      obtain ⟨rfl, hO3, hw⟩ := hv
      have hk := JF M' (fun q h1 h2 => (hO3 q h2).trans ((mx_up_ne h2).trans (hO1 q h1)))
      exact ⟨congrArg (fun z => some (Value.int z)) (show calmI (fFr Y.1) (Y.1.2.2.1 0) T = _ from if_pos hz).symm, hk.1, hk.2, fun _ => hw⟩
    rw [show mcap (zrow (fFr Y.1) T 0 (Y.1.2.2.1 0)) = 100 from if_neg hz]
    refine mx_iload_n (pc' := 201) dX8_findsWay_200 rfl rfl ?_
    refine mx_iload_n (pc' := 202) dX8_findsWay_201 rfl rfl ?_
    refine mx_icmp_gt (tgt := 288) (pc' := 205) dX8_findsWay_202 (by decide) rfl (fun c202 => ?_) (fun c202 => ?_)
    · have c202 := (nI_ltI (by omega) (by omega)).mp c202
      exact absurd c202 (by omega)
    · refine mx_iload_n (pc' := 206) dX8_findsWay_205 rfl rfl ?_
      refine mx_bipush (pc' := 208) (v := nI 100) dX8_findsWay_206 (by decide) rfl ?_
      refine mx_icmp_ge (tgt := 288) (pc' := 211) dX8_findsWay_208 (by decide) rfl (fun c208 => ?_) (fun c208 => ?_)
      · refine mx_iload_n (pc' := 289) dX8_findsWay_288 rfl rfl ?_
        refine mx_bipush (pc' := 291) (v := nI 100) dX8_findsWay_289 (by decide) rfl ?_
        refine mx_icmp_ge (tgt := 298) (pc' := 294) dX8_findsWay_291 (by decide) rfl (fun c291 => ?_) (fun c291 => ?_)
        · refine mx_bipush (pc' := 300) (v := (-4)) dX8_findsWay_298 (by decide) rfl ?_
          refine mx_iret dX8_findsWay_300 (Or.inl rfl) ?_
          have hk := JF (mx_up M1 153 0 (nI (Y.1.2.2.1 0))) (fun q h1 h2 => (mx_up_ne h2).trans (hO1 q h1))
          have ec : calmI (fFr Y.1) (Y.1.2.2.1 0) T = (-4) := if_neg hz
          exact ⟨congrArg (fun z => some (Value.int z)) ec.symm, hk.1, hk.2, fun z => absurd ec z⟩
        · exact absurd (by decide) c291
      · exact absurd (by decide) c208
  refine mx_iload_n (pc' := 8) dX8_findsWay_7 rfl rfl ?_
  refine mx_istore_n (pc' := 9) (ls' := [_, _, _, _, _, _, _, _]) dX8_findsWay_8 (by decide) (rfl) rfl rfl ?_
  exact l_X8_find2 N4 (fFr Y.1) T hT1 hT (fFr_lt _) hL _ KW (T + 1) (Nat.le_refl _) N4 _ none none none none none (dr_s T).symm rfl (fun _ _ => rfl) (fun u h1 h2 => absurd h1 (by omega))

set_option maxHeartbeats 1000000 in
set_option maxRecDepth 10000 in
theorem t_X8_asides (M : mx_M) (Y : Sy) (hC : MoA M Y) (ht : Y.1.2.2.1 3 + 100 < 2147483648) (x : Int32) : mx_T yX8_asides cX8_asides 2 (some .int) 8 [.ref 143, .int x] M (fun v M' => v = some (.int (oAsides x Y)) ∧ MoA M' Y ∧ Cl M M') := by
  refine mx_T.of1 (own := RX8) (ls := [some (.ref 143), some (.int x)]) (by decide +kernel) rfl (Nat.le_of_ble_eq_true rfl) rfl rfl ?_
  refine mx_iload_n (pc' := 1) dX8_asides_0 rfl rfl ?_
  refine mx_iconst (pc' := 2) (v := nI 1) dX8_asides_1 (by decide) rfl ?_
  refine mx_bipush (pc' := 4) (v := nI 30) dX8_asides_2 (by decide) rfl ?_
  refine mx_callS (pc' := 7) dX8_asides_4 cl_X8_49 (t_X8_in M x (nI 1) (nI 30)) rfl (by decide) rfl (Nat.le_of_ble_eq_true rfl) rfl (fun v N4 hv => ?_)
  obtain ⟨rfl, hv⟩ := hv
  rw [hv]
  refine mx_if_eq (tgt := 18) (pc' := 10) dX8_asides_7 (by decide) rfl (fun c7 => ?_) (fun c7 => ?_)
  · have c7 : ¬ (nI 1 ≤ x ∧ x ≤ nI 30) := bI_0.mp c7
    refine mx_iconst (pc' := 19) (v := (-1)) dX8_asides_18 (by decide) rfl ?_
    refine mx_iret dX8_asides_19 (Or.inl rfl) ?_
    have e : oAsides x Y = (-1) := if_neg (c7)
    rw [e]
    exact ⟨rfl, hC, Cl.rf⟩
  · have c7 := bI_n.mp c7
    have ea : oAsides x Y = calmI (fFr Y.1) (Y.1.2.2.1 0) (tN x) := if_pos c7
    rw [ea]
    obtain ⟨T, hT1, hT, rfl⟩ := ge_of2 c7.1 c7.2 (by decide) (by decide)
    rw [tN_n (by omega)]
    refine mx_aload_n (pc' := 11) dX8_asides_10 rfl rfl ?_
    refine mx_iload_n (pc' := 12) dX8_asides_11 rfl rfl ?_
    refine mx_callV (pc' := 15) dX8_asides_12 cl_X8_169 (rfl) (t_X8_findsWay M Y hC ht T hT1 hT) rfl (by decide) rfl (Nat.le_of_ble_eq_true rfl) rfl (fun v N12 hv => ?_)
    obtain ⟨rfl, hC2, hM, -⟩ := hv
    refine mx_goto (pc' := 19) dX8_asides_15 (by decide) ?_
    refine mx_iret dX8_asides_19 (Or.inl rfl) ?_
    exact ⟨rfl, hC2, hM⟩

theorem calm_c (g : Nat → Nat) (p T : Nat) : (0 ≤ calmI g p T ∧ calmI g p T ≠ (-4)) ∨ calmI g p T = (-4) := by
  unfold calmI
  split
  · refine Or.inl ⟨nI_pos' (by omega), ?_⟩
    rename_i h
    intro z
    have h2 := congrArg Int32.toInt z
    rw [nI_t _ (by omega)] at h2
    have h3 : ((-4 : Int32)).toInt = -4 := by decide
    omega
  · exact Or.inr rfl
set_option maxHeartbeats 1000000 in
set_option maxRecDepth 10000 in
theorem t_X8_way (M : mx_M) (Y : Sy) (hC : MoA M Y) (ht : Y.1.2.2.1 3 + 100 < 2147483648) (x y : Int32) : mx_T yX8_way cX8_way 3 (some .int) 8 [.ref 143, .int x, .int y] M (fun v M' => v = some (.int (oWay x y Y)) ∧ MoA M' Y ∧ Cl M M') := by
  refine mx_T.of1 (own := RX8) (ls := [some (.ref 143), some (.int x), some (.int y)]) (by decide +kernel) rfl (Nat.le_of_ble_eq_true rfl) rfl rfl ?_
  refine mx_iload_n (pc' := 1) dX8_way_0 rfl rfl ?_
  refine mx_iconst (pc' := 2) (v := nI 1) dX8_way_1 (by decide) rfl ?_
  refine mx_bipush (pc' := 4) (v := nI 30) dX8_way_2 (by decide) rfl ?_
  refine mx_callS (pc' := 7) dX8_way_4 cl_X8_49 (t_X8_in M x (nI 1) (nI 30)) rfl (by decide) rfl (Nat.le_of_ble_eq_true rfl) rfl (fun v N4 hv => ?_)
  obtain ⟨rfl, hv⟩ := hv
  rw [hv]
  refine mx_if_eq (tgt := 19) (pc' := 10) dX8_way_7 (by decide) rfl (fun c7 => ?_) (fun c7 => ?_)
  · have c7 : ¬ (nI 1 ≤ x ∧ x ≤ nI 30) := bI_0.mp c7
    refine mx_iconst (pc' := 20) (v := (-1)) dX8_way_19 (by decide) rfl ?_
    refine mx_iret dX8_way_20 (Or.inl rfl) ?_
    have e : oWay x y Y = (-1) := if_neg (fun z => c7 z.1)
    rw [e]
    exact ⟨rfl, hC, Cl.rf⟩
  · have c7 := bI_n.mp c7
    refine mx_iload_n (pc' := 11) dX8_way_10 rfl rfl ?_
    refine mx_iconst (pc' := 12) (v := nI 0) dX8_way_11 (by decide) rfl ?_
    refine mx_iload_n (pc' := 13) dX8_way_12 rfl rfl ?_
    refine mx_callS (pc' := 16) dX8_way_13 cl_X8_49 (t_X8_in M y (nI 0) x) rfl (by decide) rfl (Nat.le_of_ble_eq_true rfl) rfl (fun v N13 hv => ?_)
    obtain ⟨rfl, hv⟩ := hv
    rw [hv]
    refine mx_if_ne (tgt := 21) (pc' := 19) dX8_way_16 (by decide) rfl (fun c16 => ?_) (fun c16 => ?_)
    · have c16 := bI_n.mp c16
      have ea : oWay x y Y = (if calmI (fFr Y.1) (Y.1.2.2.1 0) (tN x) = (-4) then (-4) else nI (cway (fFr Y.1) (Y.1.2.2.1 0) (tN x) (tN y))) := if_pos ⟨c7, c16⟩
      rw [ea]
      obtain ⟨T, hT1, hT, rfl⟩ := ge_of2 c7.1 c7.2 (by decide) (by decide)
      obtain ⟨j, -, hj, rfl⟩ := ge_of2 (m := 0) c16.1 c16.2 (by decide) (by omega)
      rw [tN_n (by omega), tN_n (by omega)]
      have hcc := calm_c (fFr Y.1) (Y.1.2.2.1 0) T
      refine mx_aload_n (pc' := 22) dX8_way_21 rfl rfl ?_
      refine mx_iload_n (pc' := 23) dX8_way_22 rfl rfl ?_
      refine mx_callV (pc' := 26) dX8_way_23 cl_X8_169 (rfl) (t_X8_findsWay M Y hC ht T hT1 hT) rfl (by decide) rfl (Nat.le_of_ble_eq_true rfl) rfl (fun v N23 hv => ?_)
      obtain ⟨rfl, hC2, hM, hw⟩ := hv
      refine mx_if_ge (tgt := 34) (pc' := 29) dX8_way_26 (by decide) rfl (fun c26 => ?_) (fun c26 => ?_)
      · have c26 : calmI (fFr Y.1) (Y.1.2.2.1 0) T ≠ (-4) := fun z => by rw [z] at c26; exact absurd c26 (by decide)
        rw [if_neg c26]
        refine mx_aload_n (pc' := 35) dX8_way_34 rfl rfl ?_
        refine mx_getr (pc' := 38) dX8_way_35 fl_X8_38 (rfl) (by rfl) rfl ?_
        refine mx_iload_n (pc' := 39) dX8_way_38 rfl rfl ?_
        refine mx_iald (pc' := 40) (v := nI (cway (fFr Y.1) (Y.1.2.2.1 0) T j)) dX8_way_39 (rfl) (rfl) (by omega) (hw c26 j hj) rfl ?_
        refine mx_iret dX8_way_40 (Or.inl rfl) ?_
        exact ⟨rfl, hC2, hM⟩
      · have c26 : calmI (fFr Y.1) (Y.1.2.2.1 0) T = (-4) := by
          rcases hcc with h | h
          · exact absurd h.1 c26
          · exact h
        rw [if_pos c26]
        refine mx_bipush (pc' := 31) (v := (-4)) dX8_way_29 (by decide) rfl ?_
        refine mx_goto (pc' := 40) dX8_way_31 (by decide) ?_
        refine mx_iret dX8_way_40 (Or.inl rfl) ?_
        exact ⟨rfl, hC2, hM⟩
    · have c16 : ¬ (nI 0 ≤ y ∧ y ≤ x) := bI_0.mp c16
      refine mx_iconst (pc' := 20) (v := (-1)) dX8_way_19 (by decide) rfl ?_
      refine mx_iret dX8_way_20 (Or.inl rfl) ?_
      have e : oWay x y Y = (-1) := if_neg (fun z => c16 z.2)
      rw [e]
      exact ⟨rfl, hC, Cl.rf⟩

