set_option maxHeartbeats 1000000 in
set_option maxRecDepth 10000 in
theorem l_X0_takeAround (M : mx_M) (b p reach : Nat) (hs : BuS b) (hp : p < 10) (hr : reach ≤ 5) (L : List Bu) (hL : BuL L) : ∀ (k : Nat) (i : Nat) (M1 : mx_M) (z : Option Value), mx_c1 [z] = true → L.length < i + k → i ≤ L.length → M1 b 5 = nI L.length → ((L.take i).filter (fun x => !takenB p reach x)).length ≤ i → BuP M1 b 0 ((L.take i).filter (fun x => !takenB p reach x)) → BuP M1 b i (L.drop i) → Out M M1 b (b + 6) → mx_V cX0_takeAround RX0 6 (some .int) 3 5 [some (.ref b), some (.int (nI p)), some (.int (nI reach)), some (.int (nI ((L.take i).filter (fun x => !takenB p reach x)).length)), some (.int (nI i)), z] [] M1 (fun v M' => v = some (.int (nI (L.length - (L.filter (fun x => !takenB p reach x)).length))) ∧ BuA M' b (L.filter (fun x => !takenB p reach x)) ∧ Out M M' b (b + 6)) := by
  obtain ⟨s0, s1, s2, s3, s4, s5⟩ := hs
  have h60 := hL.1
  intro k
  induction k with
  | zero =>
    intro i M1 z hz hk hi hn hpl hP1 hP2 hO
    exact absurd hk (by omega)
  | succ k ih =>
    intro i M1 z hz hk hi hn hpl hP1 hP2 hO
    refine mx_iload (pc' := 7) dX0_takeAround_5 rfl rfl ?_
    refine mx_aload_n (pc' := 8) dX0_takeAround_7 rfl rfl ?_
    refine mx_getf (pc' := 11) (v := nI L.length) dX0_takeAround_8 fl_X0_28 (by assumption) (by rfl) (hn) rfl ?_
    refine mx_icmp_ge (tgt := 73) (pc' := 14) dX0_takeAround_11 (by decide) rfl (fun c11 => ?_) (fun c11 => ?_)
    · have c11 := (nI_leI (by omega) (by omega)).mp c11
      refine mx_aload_n (pc' := 74) dX0_takeAround_73 rfl rfl ?_
      refine mx_iload_n (pc' := 75) dX0_takeAround_74 rfl rfl ?_
      refine mx_callV (pc' := 78) dX0_takeAround_75 cl_X0_40 (s0) (t_X0_keepOnly M1 b L.length ⟨s0, s1, s2, s3, s4, s5⟩ hn _ (by omega)) rfl (by decide) rfl (Nat.le_of_ble_eq_true rfl) rfl (fun v N75 hv => ?_)
      obtain ⟨rfl, hv⟩ := hv
      rw [hv]
      refine mx_iret dX0_takeAround_78 (Or.inl rfl) ?_
      rw [take_len c11] at hP1 hpl ⊢
      refine ⟨rfl, ⟨mx_up_eq _ _ _ _, ⟨by have := hL.1; omega, fun y hy => hL.2 y (List.mem_filter.mp hy).1⟩, hP1.fr fun q j z1 z2 z3 z4 => ?_⟩, (by repeat (first | exact Out.rf | assumption | refine Out.up ?_ (by omega) (by omega)))⟩
      rw [mx_up_ne (by omega)]
    · have c11 := Nat.not_le.mp (fun z => c11 ((nI_leI (by omega) (by omega)).mpr z))
      obtain ⟨x, hx⟩ := get_lt c11
      rw [drop_cons hx, BuP.cons] at hP2
      have hV := hL.2 x (List.mem_of_getElem? hx)
      obtain ⟨r, c, d, w, g⟩ := x
      obtain ⟨v1, v2, v3, v4, v5⟩ := id hV
      obtain ⟨w1, w2, w3, w4, w5⟩ := id hP2.1
      dsimp only at v1 v2 v3 v4 v5 w1 w2 w3 w4 w5
      refine mx_aload_n (pc' := 15) dX0_takeAround_14 rfl rfl ?_
      refine mx_getr (pc' := 18) dX0_takeAround_15 fl_X0_9 (by assumption) (by rfl) rfl ?_
      refine mx_iload (pc' := 20) dX0_takeAround_18 rfl rfl ?_
      refine mx_iald (pc' := 21) (v := nI r) dX0_takeAround_20 (by assumption) (rfl) (by omega) (w1) rfl ?_
      refine mx_bipush (pc' := 23) (v := nI 11) dX0_takeAround_21 (by decide) rfl ?_
      refine mx_iload_n (pc' := 24) dX0_takeAround_23 rfl rfl ?_
      refine mx_isub (pc' := 25) (v := nI (11 - reach)) dX0_takeAround_24 (pk_sub (a := 11) (by omega)) rfl ?_
      refine mx_icmp_lt (tgt := 32) (pc' := 28) dX0_takeAround_25 (by decide) rfl (fun c25 => ?_) (fun c25 => ?_)
      · have c25 := (nI_ltI (by omega) (by omega)).mp c25
        refine mx_iconst (pc' := 33) (v := nI 0) dX0_takeAround_32 (by decide) rfl ?_
        refine mx_istore (pc' := 35) (ls' := [_, _, _, _, _, _]) dX0_takeAround_33 (by decide) (by simpa [mx_c1, Value.category] using hz) rfl rfl ?_
        refine mx_iload (pc' := 37) dX0_takeAround_35 rfl rfl ?_
        refine mx_if_eq (tgt := 56) (pc' := 40) dX0_takeAround_37 (by decide) rfl (fun c37 => ?_) (fun c37 => ?_)
        · have hf : takenB p reach (r, c, d, w, g) = false := decide_eq_false (fun z => by have z1 : 11 ≤ r + reach := z.1; have z2 : adf c p ≤ reach := z.2; omega)
          refine mx_aload_n (pc' := 57) dX0_takeAround_56 rfl rfl ?_
          refine mx_iload_n (pc' := 58) dX0_takeAround_57 rfl rfl ?_
          refine mx_aload_n (pc' := 59) dX0_takeAround_58 rfl rfl ?_
          refine mx_iload (pc' := 61) dX0_takeAround_59 rfl rfl ?_
          refine mx_callV (pc' := 64) dX0_takeAround_61 cl_X0_32 (s0) (t_X0_putW M1 b b ⟨s0, s1, s2, s3, s4, s5⟩ ⟨s0, s1, s2, s3, s4, s5⟩ (Or.inl rfl) _ i (by omega) (by omega) (r, c, d, w, g) hP2.1 hV) rfl (by decide) rfl (Nat.le_of_ble_eq_true rfl) rfl (fun v N61 hv => ?_)
          obtain ⟨rfl, p1, p2⟩ := hv
          refine mx_iinc (pc' := 67) (ls' := [_, _, _, _, _, _]) (v := nI (((L.take i).filter (fun x => !takenB p reach x)).length + 1)) dX0_takeAround_64 rfl (nI_add _ 1) (by decide) (rfl) rfl rfl ?_
          refine mx_iinc (pc' := 70) (ls' := [_, _, _, _, _, _]) (v := nI (i + 1)) dX0_takeAround_67 rfl (nI_add i 1) (by decide) (rfl) rfl rfl ?_
          refine mx_goto (pc' := 5) dX0_takeAround_70 (by decide) ?_
          have e : (L.take (i + 1)).filter (fun x => !takenB p reach x) = (L.take i).filter (fun x => !takenB p reach x) ++ [(r, c, d, w, g)] := by
            rw [take_snoc hx, List.filter_append]
            simp [hf]
          rw [show ((L.take i).filter (fun x => !takenB p reach x)).length + 1 = ((L.take (i + 1)).filter (fun x => !takenB p reach x)).length by rw [e, List.length_append]; rfl]
          refine ih (i + 1) N61 _ rfl (by omega) (by omega) ?_ ?_ ?_ ?_ ?_
          · rw [p1 b 5 (by omega)]; exact hn
          · rw [e, List.length_append]; show _ + 1 ≤ _; omega
          · rw [e]
            refine BuP.snoc (hP1.fr fun q j z1 z2 z3 z4 => ?_) (by rw [Nat.zero_add]; exact p2)
            rw [p1 q j (by omega)]
          · refine hP2.2.fr fun q j z1 z2 z3 z4 => ?_
            rw [p1 q j (by omega)]
          · exact hO.tr fun q z => funext fun j => by rw [p1 q j (by omega)]
        · exact absurd rfl c37
      · have c25 := Nat.not_lt.mp (fun z => c25 ((nI_ltI (by omega) (by omega)).mpr z))
        refine mx_iconst (pc' := 29) (v := nI 1) dX0_takeAround_28 (by decide) rfl ?_
        refine mx_goto (pc' := 33) dX0_takeAround_29 (by decide) ?_
        refine mx_istore (pc' := 35) (ls' := [_, _, _, _, _, _]) dX0_takeAround_33 (by decide) (by simpa [mx_c1, Value.category] using hz) rfl rfl ?_
        refine mx_iload (pc' := 37) dX0_takeAround_35 rfl rfl ?_
        refine mx_if_eq (tgt := 56) (pc' := 40) dX0_takeAround_37 (by decide) rfl (fun c37 => ?_) (fun c37 => ?_)
        · exact absurd c37 (by decide)
        · refine mx_aload_n (pc' := 41) dX0_takeAround_40 rfl rfl ?_
          refine mx_getr (pc' := 44) dX0_takeAround_41 fl_X0_15 (by assumption) (by rfl) rfl ?_
          refine mx_iload (pc' := 46) dX0_takeAround_44 rfl rfl ?_
          refine mx_iald (pc' := 47) (v := nI c) dX0_takeAround_46 (by assumption) (rfl) (by omega) (w2) rfl ?_
          refine mx_iload_n (pc' := 48) dX0_takeAround_47 rfl rfl ?_
          refine mx_isub (pc' := 49) dX0_takeAround_48 (rfl) rfl ?_
          refine mx_mabs (pc' := 52) (v := nI (adf c p)) dX0_takeAround_49 cl_m_abs (by decide) (Nat.le_of_ble_eq_true rfl) (adf_abs c (by omega) p (by omega)) rfl ?_
          refine mx_iload_n (pc' := 53) dX0_takeAround_52 rfl rfl ?_
          refine mx_icmp_le (tgt := 67) (pc' := 56) dX0_takeAround_53 (by decide) rfl (fun c53 => ?_) (fun c53 => ?_)
          · have had := adf_lt (n := 12) (c := c) (p := p) (by omega) (by omega)
            have c53 := (nI_leI (by omega) (by omega)).mp c53
            have hf : takenB p reach (r, c, d, w, g) = true := decide_eq_true ⟨by show 11 ≤ r + reach; omega, c53⟩
            refine mx_iinc (pc' := 70) (ls' := [_, _, _, _, _, _]) (v := nI (i + 1)) dX0_takeAround_67 rfl (nI_add i 1) (by decide) (rfl) rfl rfl ?_
            refine mx_goto (pc' := 5) dX0_takeAround_70 (by decide) ?_
            have e : (L.take (i + 1)).filter (fun x => !takenB p reach x) = (L.take i).filter (fun x => !takenB p reach x) := by
              rw [take_snoc hx, List.filter_append]
              simp [hf]
            rw [← e]
            refine ih (i + 1) M1 _ rfl (by omega) (by omega) hn ?_ ?_ hP2.2 hO
            · rw [e]; omega
            · rw [e]; exact hP1
          · have had := adf_lt (n := 12) (c := c) (p := p) (by omega) (by omega)
            have c53 := Nat.not_le.mp (fun z => c53 ((nI_leI (by omega) (by omega)).mpr z))
            have hf : takenB p reach (r, c, d, w, g) = false := decide_eq_false (fun z => by have z1 : 11 ≤ r + reach := z.1; have z2 : adf c p ≤ reach := z.2; omega)
            refine mx_aload_n (pc' := 57) dX0_takeAround_56 rfl rfl ?_
            refine mx_iload_n (pc' := 58) dX0_takeAround_57 rfl rfl ?_
            refine mx_aload_n (pc' := 59) dX0_takeAround_58 rfl rfl ?_
            refine mx_iload (pc' := 61) dX0_takeAround_59 rfl rfl ?_
            refine mx_callV (pc' := 64) dX0_takeAround_61 cl_X0_32 (s0) (t_X0_putW M1 b b ⟨s0, s1, s2, s3, s4, s5⟩ ⟨s0, s1, s2, s3, s4, s5⟩ (Or.inl rfl) _ i (by omega) (by omega) (r, c, d, w, g) hP2.1 hV) rfl (by decide) rfl (Nat.le_of_ble_eq_true rfl) rfl (fun v N61 hv => ?_)
            obtain ⟨rfl, p1, p2⟩ := hv
            refine mx_iinc (pc' := 67) (ls' := [_, _, _, _, _, _]) (v := nI (((L.take i).filter (fun x => !takenB p reach x)).length + 1)) dX0_takeAround_64 rfl (nI_add _ 1) (by decide) (rfl) rfl rfl ?_
            refine mx_iinc (pc' := 70) (ls' := [_, _, _, _, _, _]) (v := nI (i + 1)) dX0_takeAround_67 rfl (nI_add i 1) (by decide) (rfl) rfl rfl ?_
            refine mx_goto (pc' := 5) dX0_takeAround_70 (by decide) ?_
            have e : (L.take (i + 1)).filter (fun x => !takenB p reach x) = (L.take i).filter (fun x => !takenB p reach x) ++ [(r, c, d, w, g)] := by
              rw [take_snoc hx, List.filter_append]
              simp [hf]
            rw [show ((L.take i).filter (fun x => !takenB p reach x)).length + 1 = ((L.take (i + 1)).filter (fun x => !takenB p reach x)).length by rw [e, List.length_append]; rfl]
            refine ih (i + 1) N61 _ rfl (by omega) (by omega) ?_ ?_ ?_ ?_ ?_
            · rw [p1 b 5 (by omega)]; exact hn
            · rw [e, List.length_append]; show _ + 1 ≤ _; omega
            · rw [e]
              refine BuP.snoc (hP1.fr fun q j z1 z2 z3 z4 => ?_) (by rw [Nat.zero_add]; exact p2)
              rw [p1 q j (by omega)]
            · refine hP2.2.fr fun q j z1 z2 z3 z4 => ?_
              rw [p1 q j (by omega)]
            · exact hO.tr fun q z => funext fun j => by rw [p1 q j (by omega)]

set_option maxHeartbeats 1000000 in
set_option maxRecDepth 10000 in
theorem t_X0_takeAround (M : mx_M) (b p reach : Nat) (hs : BuS b) (hp : p < 10) (hr : reach ≤ 5) (L : List Bu) (hA : BuA M b L) : mx_T yX0_takeAround cX0_takeAround 6 (some .int) 3 [.ref b, .int (nI p), .int (nI reach)] M (fun v M' => v = some (.int (nI (L.length - (L.filter (fun x => !takenB p reach x)).length))) ∧ BuA M' b (L.filter (fun x => !takenB p reach x)) ∧ Out M M' b (b + 6)) := by
  refine mx_T.of1 (own := RX0) (ls := [some (.ref b), some (.int (nI p)), some (.int (nI reach)), none, none, none]) (by decide +kernel) rfl (Nat.le_of_ble_eq_true rfl) rfl rfl ?_
  refine mx_iconst (pc' := 1) (v := nI 0) dX0_takeAround_0 (by decide) rfl ?_
  refine mx_istore_n (pc' := 2) (ls' := [_, _, _, _, _, _]) dX0_takeAround_1 (by decide) (rfl) rfl rfl ?_
  refine mx_iconst (pc' := 3) (v := nI 0) dX0_takeAround_2 (by decide) rfl ?_
  refine mx_istore (pc' := 5) (ls' := [_, _, _, _, _, _]) dX0_takeAround_3 (by decide) (rfl) rfl rfl ?_
  exact l_X0_takeAround M b p reach hs hp hr L hA.2.1 (L.length + 1) 0 M none rfl (by omega) (by omega) hA.1 (Nat.le_refl 0) BuP.nil hA.2.2 Out.rf

set_option maxHeartbeats 1000000 in
set_option maxRecDepth 10000 in
theorem t_X0_isBeside (M : mx_M) (b i p : Nat) (hs : BuS b) (hp : p < 10) (hi : i < 60) (x : Bu) (hx : BuW M b i x) (hV : BuV x) : mx_T yX0_isBeside cX0_isBeside 4 (some .boolean) 1 [.ref b, .int (nI i), .int (nI p)] M (fun v M' => v = some (.int (bI (nearB p x = true))) ∧ M' = M) := by
  obtain ⟨s0, s1, s2, s3, s4, s5⟩ := hs
  obtain ⟨r, c, d, w, g⟩ := x
  obtain ⟨w1, w2, w3, w4, w5⟩ := hx
  obtain ⟨v1, v2, v3, v4, v5⟩ := hV
  dsimp only at v1 v2 v3 v4 v5 w1 w2 w3 w4 w5
  have ha := adf_lt (n := 12) (c := c) (p := p) (by omega) (by omega)
  refine mx_T.of1 (own := RX0) (ls := [some (.ref b), some (.int (nI i)), some (.int (nI p)), none]) (by decide +kernel) rfl (Nat.le_of_ble_eq_true rfl) rfl rfl ?_
  refine mx_aload_n (pc' := 1) dX0_isBeside_0 rfl rfl ?_
  refine mx_getr (pc' := 4) dX0_isBeside_1 fl_X0_15 (by assumption) (by rfl) rfl ?_
  refine mx_iload_n (pc' := 5) dX0_isBeside_4 rfl rfl ?_
  refine mx_iald (pc' := 6) (v := nI c) dX0_isBeside_5 (by assumption) (rfl) (by omega) (w2) rfl ?_
  refine mx_iload_n (pc' := 7) dX0_isBeside_6 rfl rfl ?_
  refine mx_isub (pc' := 8) dX0_isBeside_7 (rfl) rfl ?_
  refine mx_mabs (pc' := 11) (v := nI (adf c p)) dX0_isBeside_8 cl_m_abs (by decide) (Nat.le_of_ble_eq_true rfl) (adf_abs c (by omega) p (by omega)) rfl ?_
  refine mx_istore_n (pc' := 12) (ls' := [_, _, _, _]) dX0_isBeside_11 (by decide) (rfl) rfl rfl ?_
  refine mx_aload_n (pc' := 13) dX0_isBeside_12 rfl rfl ?_
  refine mx_getr (pc' := 16) dX0_isBeside_13 fl_X0_9 (by assumption) (by rfl) rfl ?_
  refine mx_iload_n (pc' := 17) dX0_isBeside_16 rfl rfl ?_
  refine mx_iald (pc' := 18) (v := nI r) dX0_isBeside_17 (by assumption) (rfl) (by omega) (w1) rfl ?_
  refine mx_bipush (pc' := 20) (v := nI 11) dX0_isBeside_18 (by decide) rfl ?_
  refine mx_icmp_ne (tgt := 34) (pc' := 23) dX0_isBeside_20 (by decide) rfl (fun c20 => ?_) (fun c20 => ?_)
  · have c20 : ¬ _ := fun z => c20 ((nI_eq (by omega) (by omega)).mpr z)
    refine mx_aload_n (pc' := 35) dX0_isBeside_34 rfl rfl ?_
    refine mx_getr (pc' := 38) dX0_isBeside_35 fl_X0_9 (by assumption) (by rfl) rfl ?_
    refine mx_iload_n (pc' := 39) dX0_isBeside_38 rfl rfl ?_
    refine mx_iald (pc' := 40) (v := nI r) dX0_isBeside_39 (by assumption) (rfl) (by omega) (w1) rfl ?_
    refine mx_bipush (pc' := 42) (v := nI 10) dX0_isBeside_40 (by decide) rfl ?_
    refine mx_icmp_ne (tgt := 54) (pc' := 45) dX0_isBeside_42 (by decide) rfl (fun c42 => ?_) (fun c42 => ?_)
    · have c42 : ¬ _ := fun z => c42 ((nI_eq (by omega) (by omega)).mpr z)
      refine mx_iconst (pc' := 55) (v := nI 0) dX0_isBeside_54 (by decide) rfl ?_
      refine mx_iret dX0_isBeside_55 (Or.inr ⟨rfl, by decide⟩) ?_
      first | exact ⟨bI_rt (decide_eq_true (by dsimp only; omega)), rfl⟩ | exact ⟨bI_rf (fun z => by have z := of_decide_eq_true z; dsimp only at z; omega), rfl⟩
    · have c42 := (nI_eq (by omega) (by omega)).mp c42
      refine mx_iload_n (pc' := 46) dX0_isBeside_45 rfl rfl ?_
      refine mx_iconst (pc' := 47) (v := nI 1) dX0_isBeside_46 (by decide) rfl ?_
      refine mx_icmp_gt (tgt := 54) (pc' := 50) dX0_isBeside_47 (by decide) rfl (fun c47 => ?_) (fun c47 => ?_)
      · have c47 := Nat.not_le.mp (fun z => absurd c47 (Int32.not_lt.mpr ((nI_leI (by omega) (by omega)).mpr z)))
        refine mx_iconst (pc' := 55) (v := nI 0) dX0_isBeside_54 (by decide) rfl ?_
        refine mx_iret dX0_isBeside_55 (Or.inr ⟨rfl, by decide⟩) ?_
        first | exact ⟨bI_rt (decide_eq_true (by dsimp only; omega)), rfl⟩ | exact ⟨bI_rf (fun z => by have z := of_decide_eq_true z; dsimp only at z; omega), rfl⟩
      · have c47 := (nI_leI (by omega) (by omega)).mp (Int32.not_lt.mp c47)
        refine mx_iconst (pc' := 51) (v := nI 1) dX0_isBeside_50 (by decide) rfl ?_
        refine mx_goto (pc' := 55) dX0_isBeside_51 (by decide) ?_
        refine mx_iret dX0_isBeside_55 (Or.inr ⟨rfl, by decide⟩) ?_
        first | exact ⟨bI_rt (decide_eq_true (by dsimp only; omega)), rfl⟩ | exact ⟨bI_rf (fun z => by have z := of_decide_eq_true z; dsimp only at z; omega), rfl⟩
  · have c20 := (nI_eq (by omega) (by omega)).mp c20
    refine mx_iload_n (pc' := 24) dX0_isBeside_23 rfl rfl ?_
    refine mx_iconst (pc' := 25) (v := nI 1) dX0_isBeside_24 (by decide) rfl ?_
    refine mx_icmp_ne (tgt := 32) (pc' := 28) dX0_isBeside_25 (by decide) rfl (fun c25 => ?_) (fun c25 => ?_)
    · have c25 : ¬ _ := fun z => c25 ((nI_eq (by omega) (by omega)).mpr z)
      refine mx_iconst (pc' := 33) (v := nI 0) dX0_isBeside_32 (by decide) rfl ?_
      refine mx_iret dX0_isBeside_33 (Or.inr ⟨rfl, by decide⟩) ?_
      first | exact ⟨bI_rt (decide_eq_true (by dsimp only; omega)), rfl⟩ | exact ⟨bI_rf (fun z => by have z := of_decide_eq_true z; dsimp only at z; omega), rfl⟩
    · have c25 := (nI_eq (by omega) (by omega)).mp c25
      refine mx_iconst (pc' := 29) (v := nI 1) dX0_isBeside_28 (by decide) rfl ?_
      refine mx_goto (pc' := 33) dX0_isBeside_29 (by decide) ?_
      refine mx_iret dX0_isBeside_33 (Or.inr ⟨rfl, by decide⟩) ?_
      first | exact ⟨bI_rt (decide_eq_true (by dsimp only; omega)), rfl⟩ | exact ⟨bI_rf (fun z => by have z := of_decide_eq_true z; dsimp only at z; omega), rfl⟩

set_option maxHeartbeats 1000000 in
set_option maxRecDepth 10000 in
theorem l_X0_grazeBeside (M : mx_M) (b p : Nat) (hs : BuS b) (hp : p < 10) (L : List Bu) (hL : BuL L) : ∀ (k : Nat) (i : Nat) (M1 : mx_M) (f : Nat), L.length < i + k → i ≤ L.length → M1 b 5 = nI L.length → f = (L.take i).countP (freshB p) → BuP M1 b 0 ((L.take i).map (grzB p)) → BuP M1 b i (L.drop i) → Out M M1 (b + 5) (b + 6) → mx_V cX0_grazeBeside RX0 4 (some .int) 3 4 [some (.ref b), some (.int (nI p)), some (.int (nI f)), some (.int (nI i))] [] M1 (fun v M' => v = some (.int (nI (L.countP (freshB p)))) ∧ BuA M' b (L.map (grzB p)) ∧ Out M M' (b + 5) (b + 6)) := by
  obtain ⟨s0, s1, s2, s3, s4, s5⟩ := hs
  have h60 := hL.1
  intro k
  induction k with
  | zero =>
    intro i M1 f hk hi hn hf hP1 hP2 hO
    exact absurd hk (by omega)
  | succ k ih =>
    intro i M1 f hk hi hn hf hP1 hP2 hO
    refine mx_iload_n (pc' := 5) dX0_grazeBeside_4 rfl rfl ?_
    refine mx_aload_n (pc' := 6) dX0_grazeBeside_5 rfl rfl ?_
    refine mx_getf (pc' := 9) (v := nI L.length) dX0_grazeBeside_6 fl_X0_28 (by assumption) (by rfl) (hn) rfl ?_
    refine mx_icmp_ge (tgt := 46) (pc' := 12) dX0_grazeBeside_9 (by decide) rfl (fun c9 => ?_) (fun c9 => ?_)
    · have c9 := (nI_leI (by omega) (by omega)).mp c9
      refine mx_iload_n (pc' := 47) dX0_grazeBeside_46 rfl rfl ?_
      refine mx_iret dX0_grazeBeside_47 (Or.inl rfl) ?_
      rw [take_len c9] at hP1 hf
      exact ⟨by rw [hf], ⟨by rw [List.length_map]; exact hn, ⟨by rw [List.length_map]; exact hL.1, fun y hy => by obtain ⟨z, hz, e⟩ := List.mem_map.mp hy; rw [← e]; exact grzB_V (hL.2 z hz)⟩, hP1⟩, hO⟩
    · have c9 := Nat.not_le.mp (fun z => c9 ((nI_leI (by omega) (by omega)).mpr z))
      obtain ⟨x, hx⟩ := get_lt c9
      rw [drop_cons hx, BuP.cons] at hP2
      have hV := hL.2 x (List.mem_of_getElem? hx)
      obtain ⟨r, c, d, w, g⟩ := x
      obtain ⟨v1, v2, v3, v4, v5⟩ := id hV
      obtain ⟨w1, w2, w3, w4, w5⟩ := id hP2.1
      dsimp only at v1 v2 v3 v4 v5 w1 w2 w3 w4 w5
      refine mx_aload_n (pc' := 13) dX0_grazeBeside_12 rfl rfl ?_
      refine mx_getr (pc' := 16) dX0_grazeBeside_13 fl_X0_25 (by assumption) (by rfl) rfl ?_
      refine mx_iload_n (pc' := 17) dX0_grazeBeside_16 rfl rfl ?_
      refine mx_bald (pc' := 18) (v := nI g) dX0_grazeBeside_17 (by assumption) (rfl) (by omega) (w5) rfl ?_
      refine mx_if_ne (tgt := 40) (pc' := 21) dX0_grazeBeside_18 (by decide) rfl (fun c18 => ?_) (fun c18 => ?_)
      · have c18 : g ≠ 0 := fun z => c18 (by rw [z]; rfl)
        have hnf : freshB p (r, c, d, w, g) = false := by simp [freshB, c18]
        refine mx_iinc (pc' := 43) (ls' := [_, _, _, _]) (v := nI (i + 1)) dX0_grazeBeside_40 rfl (nI_add i 1) (by decide) (rfl) rfl rfl ?_
        refine mx_goto (pc' := 4) dX0_grazeBeside_43 (by decide) ?_
        refine ih (i + 1) M1 _ (by omega) (by omega) hn ?_ ?_ hP2.2 hO
        · rw [take_snoc hx, List.countP_append, ← hf]
          simp [hnf]
        · rw [take_snoc hx, List.map_append]
          refine BuP.snoc hP1 ?_
          rw [List.length_map, List.length_take, Nat.min_eq_left hi, Nat.zero_add, show grzB p (r, c, d, w, g) = (r, c, d, w, g) from if_neg (by rw [hnf]; decide)]
          exact hP2.1
      · have c18 : g = 0 := (nI_eq (a := g) (b := 0) (by omega) (by omega)).mp (by first | exact c18 | exact Decidable.not_not.mp c18)
        refine mx_aload_n (pc' := 22) dX0_grazeBeside_21 rfl rfl ?_
        refine mx_iload_n (pc' := 23) dX0_grazeBeside_22 rfl rfl ?_
        refine mx_iload_n (pc' := 24) dX0_grazeBeside_23 rfl rfl ?_
        refine mx_callV (pc' := 27) dX0_grazeBeside_24 cl_X0_49 (s0) (t_X0_isBeside M1 b i p ⟨s0, s1, s2, s3, s4, s5⟩ hp (by omega) (r, c, d, w, g) hP2.1 hV) rfl (by decide) rfl (Nat.le_of_ble_eq_true rfl) rfl (fun v N24 hv => ?_)
        obtain ⟨rfl, hv⟩ := hv
        rw [hv]
        refine mx_if_eq (tgt := 40) (pc' := 30) dX0_grazeBeside_27 (by decide) rfl (fun c27 => ?_) (fun c27 => ?_)
        · have hnf : freshB p (r, c, d, w, g) = false := by
            have := bI_0.mp c27
            simp [freshB, this]
          refine mx_iinc (pc' := 43) (ls' := [_, _, _, _]) (v := nI (i + 1)) dX0_grazeBeside_40 rfl (nI_add i 1) (by decide) (rfl) rfl rfl ?_
          refine mx_goto (pc' := 4) dX0_grazeBeside_43 (by decide) ?_
          refine ih (i + 1) M1 _ (by omega) (by omega) hn ?_ ?_ hP2.2 hO
          · rw [take_snoc hx, List.countP_append, ← hf]
            simp [hnf]
          · rw [take_snoc hx, List.map_append]
            refine BuP.snoc hP1 ?_
            rw [List.length_map, List.length_take, Nat.min_eq_left hi, Nat.zero_add, show grzB p (r, c, d, w, g) = (r, c, d, w, g) from if_neg (by rw [hnf]; decide)]
            exact hP2.1
        · have hnf : freshB p (r, c, d, w, g) = true := by
            have := bI_n.mp c27
            subst c18
            simp [freshB, this]
          refine mx_aload_n (pc' := 31) dX0_grazeBeside_30 rfl rfl ?_
          refine mx_getr (pc' := 34) dX0_grazeBeside_31 fl_X0_25 (by assumption) (by rfl) rfl ?_
          refine mx_iload_n (pc' := 35) dX0_grazeBeside_34 rfl rfl ?_
          refine mx_iconst (pc' := 36) (v := nI 1) dX0_grazeBeside_35 (by decide) rfl ?_
          refine mx_bast (pc' := 37) dX0_grazeBeside_36 (by assumption) (rfl) (by omega) (by decide) rfl ?_
          refine mx_iinc (pc' := 40) (ls' := [_, _, _, _]) (v := nI (f + 1)) dX0_grazeBeside_37 rfl (nI_add f 1) (by decide) (rfl) rfl rfl ?_
          refine mx_iinc (pc' := 43) (ls' := [_, _, _, _]) (v := nI (i + 1)) dX0_grazeBeside_40 rfl (nI_add i 1) (by decide) (rfl) rfl rfl ?_
          refine mx_goto (pc' := 4) dX0_grazeBeside_43 (by decide) ?_
          refine ih (i + 1) _ _ (by omega) (by omega) ?_ ?_ ?_ ?_ ?_
          · rw [mx_up_ne (by omega)]; exact hn
          · rw [take_snoc hx, List.countP_append, ← hf]
            simp [hnf]
          · rw [take_snoc hx, List.map_append]
            refine BuP.snoc (hP1.fr fun q j z1 z2 z3 z4 => ?_) ?_
            · rw [List.length_map, List.length_take] at z4
              simp [mx_up, show j ≠ i by omega]
            · rw [List.length_map, List.length_take, Nat.min_eq_left hi, Nat.zero_add, show grzB p (r, c, d, w, g) = (r, c, d, w, 1) from if_pos hnf]
              exact ⟨by simp [mx_up, w1], by simp [mx_up, w2], by simp [mx_up, w3], by simp [mx_up, w4], by simp [mx_up]⟩
          · refine hP2.2.fr fun q j z1 z2 z3 z4 => ?_
            simp [mx_up, show j ≠ i by omega]
          · exact hO.up (by omega) (by omega)

set_option maxHeartbeats 1000000 in
set_option maxRecDepth 10000 in
theorem t_X0_grazeBeside (M : mx_M) (b p : Nat) (hs : BuS b) (hp : p < 10) (L : List Bu) (hA : BuA M b L) : mx_T yX0_grazeBeside cX0_grazeBeside 4 (some .int) 3 [.ref b, .int (nI p)] M (fun v M' => v = some (.int (nI (L.countP (freshB p)))) ∧ BuA M' b (L.map (grzB p)) ∧ Out M M' (b + 5) (b + 6)) := by
  refine mx_T.of1 (own := RX0) (ls := [some (.ref b), some (.int (nI p)), none, none]) (by decide +kernel) rfl (Nat.le_of_ble_eq_true rfl) rfl rfl ?_
  refine mx_iconst (pc' := 1) (v := nI 0) dX0_grazeBeside_0 (by decide) rfl ?_
  refine mx_istore_n (pc' := 2) (ls' := [_, _, _, _]) dX0_grazeBeside_1 (by decide) (rfl) rfl rfl ?_
  refine mx_iconst (pc' := 3) (v := nI 0) dX0_grazeBeside_2 (by decide) rfl ?_
  refine mx_istore_n (pc' := 4) (ls' := [_, _, _, _]) dX0_grazeBeside_3 (by decide) (rfl) rfl rfl ?_
  exact l_X0_grazeBeside M b p hs hp L hA.2.1 (L.length + 1) 0 M 0 (by omega) (by omega) hA.1 rfl BuP.nil hA.2.2 Out.rf

/-- ten bits -/
def bits10 (f : Nat → Bool) : Nat := (f 0).toNat + 2 * (f 1).toNat + 4 * (f 2).toNat + 8 * (f 3).toNat + 16 * (f 4).toNat + 32 * (f 5).toNat + 64 * (f 6).toNat + 128 * (f 7).toNat + 256 * (f 8).toNat + 512 * (f 9).toNat
theorem bits10_lt (f : Nat → Bool) : bits10 f < 1024 := by
  unfold bits10
  have h : ∀ b : Bool, b.toNat ≤ 1 := by decide
  have := h (f 0); have := h (f 1); have := h (f 2); have := h (f 3); have := h (f 4); have := h (f 5); have := h (f 6); have := h (f 7); have := h (f 8); have := h (f 9)
  omega
theorem bits10_tb (f : Nat → Bool) : ∀ c, c < 10 → (bits10 f).testBit c = f c := by
  intro c hc
  unfold bits10
  rcases (show c = 0 ∨ c = 1 ∨ c = 2 ∨ c = 3 ∨ c = 4 ∨ c = 5 ∨ c = 6 ∨ c = 7 ∨ c = 8 ∨ c = 9 by omega) with h | h | h | h | h | h | h | h | h | h <;> subst h <;> generalize f 0 = b0 <;> generalize f 1 = b1 <;> generalize f 2 = b2 <;> generalize f 3 = b3 <;> generalize f 4 = b4 <;> generalize f 5 = b5 <;> generalize f 6 = b6 <;> generalize f 7 = b7 <;> generalize f 8 = b8 <;> generalize f 9 = b9 <;> revert b0 b1 b2 b3 b4 b5 b6 b7 b8 b9 <;> decide +kernel
theorem bits_eq {a b : Nat} (ha : a < 1024) (hb : b < 1024) (h : ∀ c, c < 10 → a.testBit c = b.testBit c) : a = b := by
  apply Nat.eq_of_testBit_eq
  intro i
  by_cases hi : i < 10
  · exact h i hi
  · have h1 : 1024 ≤ 2 ^ i := by
      have := Nat.pow_le_pow_right (n := 2) (by decide) (show 10 ≤ i by omega)
      exact this
    rw [Nat.testBit_lt_two_pow (by omega), Nat.testBit_lt_two_pow (by omega)]
/-- the free columns, as bits -/
def frB (L : List Bu) : Nat := bits10 (fun c => !L.any (atB 11 c))
theorem frc_1 : ∀ f, f < 1024 → ∀ c, c < 10 → nI f &&& ((nI 1 <<< (nI c &&& 31)) ^^^ (-1)) = nI (f &&& (1023 - 2 ^ c)) := by decide +kernel
theorem frc_2 : ∀ c, c < 10 → ∀ k, k < 10 → (1023 - 2 ^ c).testBit k = decide (k ≠ c) := by decide +kernel
set_option maxHeartbeats 1000000 in
set_option maxRecDepth 10000 in
theorem l_X0_freeColumns (M : mx_M) (b : Nat) (hs : BuS b) (L : List Bu) (hA : BuA M b L) : ∀ (k : Nat) (i f : Nat), L.length < i + k → i ≤ L.length → f < 1024 → (∀ c, c < 10 → f.testBit c = !(L.take i).any (atB 11 c)) → mx_V cX0_freeColumns RX0 3 (some .int) 1 6 [some (.ref b), some (.int (nI f)), some (.int (nI i))] [] M (fun v M' => v = some (.int (nI (frB L))) ∧ M' = M) := by
  obtain ⟨s0, s1, s2, s3, s4, s5⟩ := hs
  have h60 := hA.2.1.1
  intro k
  induction k with
  | zero =>
    intro i f hk hi hf hb
    exact absurd hk (by omega)
  | succ k ih =>
    intro i f hk hi hf hb
    refine mx_iload_n (pc' := 7) dX0_freeColumns_6 rfl rfl ?_
    refine mx_aload_n (pc' := 8) dX0_freeColumns_7 rfl rfl ?_
    refine mx_getf (pc' := 11) (v := nI L.length) dX0_freeColumns_8 fl_X0_28 (by assumption) (by rfl) (hA.1) rfl ?_
    refine mx_icmp_ge (tgt := 44) (pc' := 14) dX0_freeColumns_11 (by decide) rfl (fun c11 => ?_) (fun c11 => ?_)
    · have c11 := (nI_leI (by omega) (by omega)).mp c11
      refine mx_iload_n (pc' := 45) dX0_freeColumns_44 rfl rfl ?_
      refine mx_iret dX0_freeColumns_45 (Or.inl rfl) ?_
      exact ⟨by rw [bits_eq hf (bits10_lt _) (fun k2 hk2 => (hb k2 hk2).trans (by rw [bits10_tb _ k2 hk2, take_len c11]))]; rfl, rfl⟩
    · have c11 := Nat.not_le.mp (fun z => c11 ((nI_leI (by omega) (by omega)).mpr z))
      obtain ⟨x, hx⟩ := get_lt c11
      have hV := hA.2.1.2 x (List.mem_of_getElem? hx)
      have hW := hA.2.2.at hx
      obtain ⟨r, c, d, w, g⟩ := x
      obtain ⟨v1, v2, v3, v4, v5⟩ := hV
      obtain ⟨w1, w2, w3, w4, w5⟩ := hW
      dsimp only at v1 v2 v3 v4 v5 w1 w2 w3 w4 w5
      refine mx_aload_n (pc' := 15) dX0_freeColumns_14 rfl rfl ?_
      refine mx_getr (pc' := 18) dX0_freeColumns_15 fl_X0_9 (by assumption) (by rfl) rfl ?_
      refine mx_iload_n (pc' := 19) dX0_freeColumns_18 rfl rfl ?_
      refine mx_iald (pc' := 20) (v := nI r) dX0_freeColumns_19 (by assumption) (rfl) (by omega) (w1) rfl ?_
      refine mx_bipush (pc' := 22) (v := nI 11) dX0_freeColumns_20 (by decide) rfl ?_
      refine mx_icmp_ne (tgt := 38) (pc' := 25) dX0_freeColumns_22 (by decide) rfl (fun c22 => ?_) (fun c22 => ?_)
      · have c22 : ¬ _ := fun z => c22 ((nI_eq (by omega) (by omega)).mpr z)
        refine mx_iinc (pc' := 41) (ls' := [_, _, _]) (v := nI (i + 1)) dX0_freeColumns_38 rfl (nI_add i 1) (by decide) (rfl) rfl rfl ?_
        refine mx_goto (pc' := 6) dX0_freeColumns_41 (by decide) ?_
        refine ih (i + 1) _ (by omega) (by omega) hf ?_
        intro k2 hk2
        rw [hb k2 hk2, take_snoc hx, List.any_append]
        simp [atB, c22]
      · have c22 := (nI_eq (by omega) (by omega)).mp c22
        refine mx_iload_n (pc' := 26) dX0_freeColumns_25 rfl rfl ?_
        refine mx_iconst (pc' := 27) (v := nI 1) dX0_freeColumns_26 (by decide) rfl ?_
        refine mx_aload_n (pc' := 28) dX0_freeColumns_27 rfl rfl ?_
        refine mx_getr (pc' := 31) dX0_freeColumns_28 fl_X0_15 (by assumption) (by rfl) rfl ?_
        refine mx_iload_n (pc' := 32) dX0_freeColumns_31 rfl rfl ?_
        refine mx_iald (pc' := 33) (v := nI c) dX0_freeColumns_32 (by assumption) (rfl) (by omega) (w2) rfl ?_
        refine mx_ishl (pc' := 34) dX0_freeColumns_33 (rfl) rfl ?_
        refine mx_iconst (pc' := 35) (v := (-1)) dX0_freeColumns_34 (by decide) rfl ?_
        refine mx_ixor (pc' := 36) dX0_freeColumns_35 (rfl) rfl ?_
        refine mx_iand (pc' := 37) (v := nI (f &&& (1023 - 2 ^ c))) dX0_freeColumns_36 (frc_1 f hf c (by omega)) rfl ?_
        refine mx_istore_n (pc' := 38) (ls' := [_, _, _]) dX0_freeColumns_37 (by decide) (rfl) rfl rfl ?_
        refine mx_iinc (pc' := 41) (ls' := [_, _, _]) (v := nI (i + 1)) dX0_freeColumns_38 rfl (nI_add i 1) (by decide) (rfl) rfl rfl ?_
        refine mx_goto (pc' := 6) dX0_freeColumns_41 (by decide) ?_
        refine ih (i + 1) _ (by omega) (by omega) (Nat.lt_of_le_of_lt Nat.and_le_left hf) ?_
        intro k2 hk2
        rw [Nat.testBit_and, hb k2 hk2, frc_2 c (by omega) k2 hk2, take_snoc hx, List.any_append]
        by_cases e : k2 = c
        · subst e
          simp [atB, c22]
        · simp [atB, e, show ¬ c = k2 from fun z => e z.symm]

set_option maxHeartbeats 1000000 in
set_option maxRecDepth 10000 in
theorem t_X0_freeColumns (M : mx_M) (b : Nat) (hs : BuS b) (L : List Bu) (hA : BuA M b L) : mx_T yX0_freeColumns cX0_freeColumns 3 (some .int) 1 [.ref b] M (fun v M' => v = some (.int (nI (frB L))) ∧ M' = M) := by
  refine mx_T.of1 (own := RX0) (ls := [some (.ref b), none, none]) (by decide +kernel) rfl (Nat.le_of_ble_eq_true rfl) rfl rfl ?_
  refine mx_sipush (pc' := 3) (v := nI 1023) dX0_freeColumns_0 (by decide) rfl ?_
  refine mx_istore_n (pc' := 4) (ls' := [_, _, _]) dX0_freeColumns_3 (by decide) (rfl) rfl rfl ?_
  refine mx_iconst (pc' := 5) (v := nI 0) dX0_freeColumns_4 (by decide) rfl ?_
  refine mx_istore_n (pc' := 6) (ls' := [_, _, _]) dX0_freeColumns_5 (by decide) (rfl) rfl rfl ?_
  exact l_X0_freeColumns M b hs L hA (L.length + 1) 0 1023 (by omega) (by omega) (by decide) (by intro c hc; rw [List.take_zero]; revert c; decide +kernel)

