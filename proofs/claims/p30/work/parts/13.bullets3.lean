theorem drop_cons {α : Type} {L : List α} {i : Nat} {x : α} (h : L[i]? = some x) : L.drop i = x :: L.drop (i + 1) := by
  obtain ⟨hl, he⟩ := List.getElem?_eq_some_iff.mp h
  rw [List.drop_eq_getElem_cons hl, he]
set_option maxHeartbeats 1000000 in
set_option maxRecDepth 10000 in
theorem l_X0_fall (M : mx_M) (b t : Nat) (hs : BuS b) (ht : t < 2) (L : List Bu) (hL : BuL L) : ∀ (k : Nat) (i : Nat) (M1 : mx_M), L.length < i + k → i ≤ L.length → M1 b 5 = nI L.length → ((L.take i).filterMap (fallB t)).length ≤ i → BuP M1 b 0 ((L.take i).filterMap (fallB t)) → BuP M1 b i (L.drop i) → Out M M1 b (b + 6) → mx_V cX0_fall RX0 4 (some .int) 3 4 [some (.ref b), some (.int (nI t)), some (.int (nI ((L.take i).filterMap (fallB t)).length)), some (.int (nI i))] [] M1 (fun v M' => v = some (.int (nI (L.length - (L.filterMap (fallB t)).length))) ∧ BuA M' b (L.filterMap (fallB t)) ∧ Out M M' b (b + 6)) := by
  obtain ⟨s0, s1, s2, s3, s4, s5⟩ := hs
  have h60 := hL.1
  intro k
  induction k with
  | zero =>
    intro i M1 hk hi hn hpl hP1 hP2 hO
    exact absurd hk (by omega)
  | succ k ih =>
    intro i M1 hk hi hn hpl hP1 hP2 hO
    refine mx_iload_n (pc' := 5) dX0_fall_4 rfl rfl ?_
    refine mx_aload_n (pc' := 6) dX0_fall_5 rfl rfl ?_
    refine mx_getf (pc' := 9) (v := nI L.length) dX0_fall_6 fl_X0_28 (by assumption) (by rfl) (hn) rfl ?_
    refine mx_icmp_ge (tgt := 134) (pc' := 12) dX0_fall_9 (by decide) rfl (fun c9 => ?_) (fun c9 => ?_)
    · have c9 := (nI_leI (by omega) (by omega)).mp c9
      refine mx_aload_n (pc' := 135) dX0_fall_134 rfl rfl ?_
      refine mx_iload_n (pc' := 136) dX0_fall_135 rfl rfl ?_
      refine mx_callV (pc' := 139) dX0_fall_136 cl_X0_40 (s0) (t_X0_keepOnly M1 b L.length ⟨s0, s1, s2, s3, s4, s5⟩ hn _ (by omega)) rfl (by decide) rfl (Nat.le_of_ble_eq_true rfl) rfl (fun v N136 hv => ?_)
      obtain ⟨rfl, hv⟩ := hv
      rw [hv]
      refine mx_iret dX0_fall_139 (Or.inl rfl) ?_
      rw [take_len c9] at hP1 hpl ⊢
      refine ⟨rfl, ⟨mx_up_eq _ _ _ _, ⟨by have := hL.1; omega, fun y hy => ?_⟩, hP1.fr fun q j z1 z2 z3 z4 => ?_⟩, (by repeat (first | exact Out.rf | assumption | refine Out.up ?_ (by omega) (by omega)))⟩
      · obtain ⟨z, hz, hzy⟩ := List.mem_filterMap.mp hy
        exact fallB_V (hL.2 z hz) hzy
      · rw [mx_up_ne (by omega)]
    · have c9 := Nat.not_le.mp (fun z => c9 ((nI_leI (by omega) (by omega)).mpr z))
      obtain ⟨x, hx⟩ := get_lt c9
      rw [drop_cons hx, BuP.cons] at hP2
      have hV := hL.2 x (List.mem_of_getElem? hx)
      obtain ⟨r, c, d, w, g⟩ := x
      obtain ⟨v1, v2, v3, v4, v5⟩ := id hV
      dsimp only at v1 v2 v3 v4 v5
      have J95 : ∀ (d1 d2 : Nat) (N : mx_M), d1 < 3 → d2 < 3 → (t = 1 → d1 = if c + d < 1 ∨ 10 < c + d then 2 - d else d) → (t ≠ 1 → d1 = d) → (d2 = if w = 1 then 2 - d1 else d1) → N (b + 1) i = nI (r + 1) → N (b + 2) i = nI c + dr d1 → N (b + 3) i = dr d2 → N (b + 4) i = nI w → N (b + 5) i = nI g → (∀ q j, (q < b + 1 ∨ b + 5 < q ∨ j ≠ i) → N q j = M1 q j) → mx_V cX0_fall RX0 4 (some .int) 3 95 [some (.ref b), some (.int (nI t)), some (.int (nI ((L.take i).filterMap (fallB t)).length)), some (.int (nI i))] [] N (fun v M' => v = some (.int (nI (L.length - (L.filterMap (fallB t)).length))) ∧ BuA M' b (L.filterMap (fallB t)) ∧ Out M M' b (b + 6)) := by
        intro d1 d2 N hd1 hd2' hc1 hc2 hd2 n1 n2 n3 n4 n5 hN
        refine mx_aload_n (pc' := 96) dX0_fall_95 rfl rfl ?_
        refine mx_getr (pc' := 99) dX0_fall_96 fl_X0_9 (by assumption) (by rfl) rfl ?_
        refine mx_iload_n (pc' := 100) dX0_fall_99 rfl rfl ?_
        refine mx_iald (pc' := 101) (v := nI (r + 1)) dX0_fall_100 (by assumption) (rfl) (by omega) (n1) rfl ?_
        refine mx_bipush (pc' := 103) (v := nI 11) dX0_fall_101 (by decide) rfl ?_
        refine mx_icmp_gt (tgt := 128) (pc' := 106) dX0_fall_103 (by decide) rfl (fun c103 => ?_) (fun c103 => ?_)
        · have c103 := (nI_ltI (by omega) (by omega)).mp c103
          have hf : fallB t (r, c, d, w, g) = none := if_pos (Or.inl (by show 11 ≤ r; omega))
          have e : (L.take (i + 1)).filterMap (fallB t) = (L.take i).filterMap (fallB t) := by
            rw [take_snoc hx, List.filterMap_append]
            simp [hf]
          refine mx_iinc (pc' := 131) (ls' := [_, _, _, _]) (v := nI (i + 1)) dX0_fall_128 rfl (nI_add i 1) (by decide) (rfl) rfl rfl ?_
          refine mx_goto (pc' := 4) dX0_fall_131 (by decide) ?_
          rw [← e]
          refine ih (i + 1) N (by omega) (by omega) ?_ ?_ ?_ ?_ ?_
          · rw [hN b 5 (by omega)]; exact hn
          · rw [e]; omega
          · rw [e]
            exact hP1.fr fun q j z1 z2 z3 z4 => hN q j (by omega)
          · exact hP2.2.fr fun q j z1 z2 z3 z4 => hN q j (by omega)
          · exact hO.tr fun q z => funext fun j => hN q j (by omega)
        · have c103 := Nat.not_lt.mp (fun z => c103 ((nI_ltI (by omega) (by omega)).mpr z))
          refine mx_aload_n (pc' := 107) dX0_fall_106 rfl rfl ?_
          refine mx_getr (pc' := 110) dX0_fall_107 fl_X0_15 (by assumption) (by rfl) rfl ?_
          refine mx_iload_n (pc' := 111) dX0_fall_110 rfl rfl ?_
          refine mx_iald (pc' := 112) (v := nI c + dr d1) dX0_fall_111 (by assumption) (rfl) (by omega) (n2) rfl ?_
          refine mx_callN (pc' := 115) dX0_fall_112 cl_X0_36 (t_X7_isColumn _ _) rfl (by decide) rfl (Nat.le_of_ble_eq_true rfl) rfl (fun v N112 hv => ?_)
          obtain ⟨rfl, hv⟩ := hv
          rw [hv]
          refine mx_if_eq (tgt := 128) (pc' := 118) dX0_fall_115 (by decide) rfl (fun c115 => ?_) (fun c115 => ?_)
          · have c115 : ¬ (1 ≤ c + d1 ∧ c + d1 ≤ 10) := fun z => bI_0.mp c115 ((dr_in c (by omega) d1 hd1).mpr z)
            have hf : fallB t (r, c, d, w, g) = none := by
              refine if_pos (Or.inr ?_)
              dsimp only
              by_cases ht1 : t = 1
              · have := hc1 ht1
                split at this <;> omega
              · have := hc2 ht1
                omega
            have e : (L.take (i + 1)).filterMap (fallB t) = (L.take i).filterMap (fallB t) := by
              rw [take_snoc hx, List.filterMap_append]
              simp [hf]
            refine mx_iinc (pc' := 131) (ls' := [_, _, _, _]) (v := nI (i + 1)) dX0_fall_128 rfl (nI_add i 1) (by decide) (rfl) rfl rfl ?_
            refine mx_goto (pc' := 4) dX0_fall_131 (by decide) ?_
            rw [← e]
            refine ih (i + 1) N (by omega) (by omega) ?_ ?_ ?_ ?_ ?_
            · rw [hN b 5 (by omega)]; exact hn
            · rw [e]; omega
            · rw [e]
              exact hP1.fr fun q j z1 z2 z3 z4 => hN q j (by omega)
            · exact hP2.2.fr fun q j z1 z2 z3 z4 => hN q j (by omega)
            · exact hO.tr fun q z => funext fun j => hN q j (by omega)
          · have c115 := (dr_in c (by omega) d1 hd1).mp (bI_n.mp c115)
            have hf : fallB t (r, c, d, w, g) = some (r + 1, c + d1 - 1, d2, w, g) := by
              have e1 : ¬ (11 ≤ r ∨ ((c + d < 1 ∨ 10 < c + d) ∧ t ≠ 1)) := by
                by_cases ht1 : t = 1
                · omega
                · have := hc2 ht1
                  omega
              have e2 : (if c + d < 1 ∨ 10 < c + d then 2 - d else d) = d1 := by
                by_cases ht1 : t = 1
                · exact (hc1 ht1).symm
                · have := hc2 ht1
                  rw [if_neg (by omega)]
                  exact this.symm
              unfold fallB
              dsimp only
              rw [if_neg e1, e2, ← hd2]
            have e : (L.take (i + 1)).filterMap (fallB t) = (L.take i).filterMap (fallB t) ++ [(r + 1, c + d1 - 1, d2, w, g)] := by
              rw [take_snoc hx, List.filterMap_append]
              simp [hf]
            refine mx_aload_n (pc' := 119) dX0_fall_118 rfl rfl ?_
            refine mx_iload_n (pc' := 120) dX0_fall_119 rfl rfl ?_
            refine mx_aload_n (pc' := 121) dX0_fall_120 rfl rfl ?_
            refine mx_iload_n (pc' := 122) dX0_fall_121 rfl rfl ?_
            refine mx_callV (pc' := 125) dX0_fall_122 cl_X0_32 (s0) (t_X0_putW N b b ⟨s0, s1, s2, s3, s4, s5⟩ ⟨s0, s1, s2, s3, s4, s5⟩ (Or.inl rfl) _ i (by omega) (by omega) (r + 1, c + d1 - 1, d2, w, g) ⟨n1, n2.trans (dr_add c (by omega) d1 hd1 (by omega)), n3, n4, n5⟩ (fallB_V hV hf)) rfl (by decide) rfl (Nat.le_of_ble_eq_true rfl) rfl (fun v N122 hv => ?_)
            obtain ⟨rfl, p1, p2⟩ := hv
            refine mx_iinc (pc' := 128) (ls' := [_, _, _, _]) (v := nI (((L.take i).filterMap (fallB t)).length + 1)) dX0_fall_125 rfl (nI_add _ 1) (by decide) (rfl) rfl rfl ?_
            refine mx_iinc (pc' := 131) (ls' := [_, _, _, _]) (v := nI (i + 1)) dX0_fall_128 rfl (nI_add i 1) (by decide) (rfl) rfl rfl ?_
            refine mx_goto (pc' := 4) dX0_fall_131 (by decide) ?_
            rw [show ((L.take i).filterMap (fallB t)).length + 1 = ((L.take (i + 1)).filterMap (fallB t)).length by rw [e, List.length_append]; rfl]
            refine ih (i + 1) N122 (by omega) (by omega) ?_ ?_ ?_ ?_ ?_
            · rw [p1 b 5 (by omega), hN b 5 (by omega)]; exact hn
            · rw [e, List.length_append]; show _ + 1 ≤ _; omega
            · rw [e]
              refine BuP.snoc (hP1.fr fun q j z1 z2 z3 z4 => ?_) (by rw [Nat.zero_add]; exact p2)
              rw [p1 q j (by omega), hN q j (by omega)]
            · refine hP2.2.fr fun q j z1 z2 z3 z4 => ?_
              rw [p1 q j (by omega), hN q j (by omega)]
            · exact hO.tr fun q z => funext fun j => by rw [p1 q j (by omega), hN q j (by omega)]
      have J48 : ∀ (d1 : Nat) (N : mx_M), d1 < 3 → (t = 1 → d1 = if c + d < 1 ∨ 10 < c + d then 2 - d else d) → (t ≠ 1 → d1 = d) → BuW N b i (r, c, d1, w, g) → (∀ q j, (q < b + 1 ∨ b + 5 < q ∨ j ≠ i) → N q j = M1 q j) → mx_V cX0_fall RX0 4 (some .int) 3 48 [some (.ref b), some (.int (nI t)), some (.int (nI ((L.take i).filterMap (fallB t)).length)), some (.int (nI i))] [] N (fun v M' => v = some (.int (nI (L.length - (L.filterMap (fallB t)).length))) ∧ BuA M' b (L.filterMap (fallB t)) ∧ Out M M' b (b + 6)) := by
        intro d1 N hd1 hc1 hc2 hw hN
        obtain ⟨n1, n2, n3, n4, n5⟩ := hw
        dsimp only at n1 n2 n3 n4 n5
        refine mx_aload_n (pc' := 49) dX0_fall_48 rfl rfl ?_
        refine mx_getr (pc' := 52) dX0_fall_49 fl_X0_9 (by assumption) (by rfl) rfl ?_
        refine mx_iload_n (pc' := 53) dX0_fall_52 rfl rfl ?_
        refine mx_dup2 (pc' := 54) dX0_fall_53 rfl rfl rfl ?_
        refine mx_iald (pc' := 55) (v := nI r) dX0_fall_54 (by assumption) (rfl) (by omega) (n1) rfl ?_
        refine mx_iconst (pc' := 56) (v := nI 1) dX0_fall_55 (by decide) rfl ?_
        refine mx_iadd (pc' := 57) (v := nI (r + 1)) dX0_fall_56 (nI_add r 1) rfl ?_
        refine mx_iast (pc' := 58) dX0_fall_57 (by assumption) (rfl) (by omega) rfl ?_
        refine mx_aload_n (pc' := 59) dX0_fall_58 rfl rfl ?_
        refine mx_getr (pc' := 62) dX0_fall_59 fl_X0_15 (by assumption) (by rfl) rfl ?_
        refine mx_iload_n (pc' := 63) dX0_fall_62 rfl rfl ?_
        refine mx_dup2 (pc' := 64) dX0_fall_63 rfl rfl rfl ?_
        refine mx_iald (pc' := 65) (v := nI c) dX0_fall_64 (by assumption) (rfl) (by omega) (((by simp only [mx_up]; repeat rw [if_neg (by omega)]) : _ = N (b + 2) i).trans n2) rfl ?_
        refine mx_aload_n (pc' := 66) dX0_fall_65 rfl rfl ?_
        refine mx_getr (pc' := 69) dX0_fall_66 fl_X0_18 (by assumption) (by rfl) rfl ?_
        refine mx_iload_n (pc' := 70) dX0_fall_69 rfl rfl ?_
        refine mx_iald (pc' := 71) (v := dr d1) dX0_fall_70 (by assumption) (rfl) (by omega) (((by simp only [mx_up]; repeat rw [if_neg (by omega)]) : _ = N (b + 3) i).trans n3) rfl ?_
        refine mx_iadd (pc' := 72) dX0_fall_71 (rfl) rfl ?_
        refine mx_iast (pc' := 73) dX0_fall_72 (by assumption) (rfl) (by omega) rfl ?_
        refine mx_aload_n (pc' := 74) dX0_fall_73 rfl rfl ?_
        refine mx_getr (pc' := 77) dX0_fall_74 fl_X0_21 (by assumption) (by rfl) rfl ?_
        refine mx_iload_n (pc' := 78) dX0_fall_77 rfl rfl ?_
        refine mx_bald (pc' := 79) (v := nI w) dX0_fall_78 (by assumption) (rfl) (by omega) (((by simp only [mx_up]; repeat rw [if_neg (by omega)]) : _ = N (b + 4) i).trans n4) rfl ?_
        refine mx_if_eq (tgt := 95) (pc' := 82) dX0_fall_79 (by decide) rfl (fun c79 => ?_) (fun c79 => ?_)
        · have c79 : w = 0 := (nI_eq (a := w) (b := 0) (by omega) (by omega)).mp c79
          refine J95 d1 d1 _ hd1 hd1 hc1 hc2 (by rw [if_neg (by omega)]) ?_ ?_ ?_ ?_ ?_ ?_
          · simp [mx_up]
          · simp [mx_up]
          · simp [mx_up, n3]
          · simp [mx_up, n4]
          · simp [mx_up, n5]
          · intro q j z
            rw [← hN q j z]
            rcases z with z | z | z
            · simp [mx_up, show q ≠ b + 1 by omega, show q ≠ b + 2 by omega, show q ≠ b + 3 by omega]
            · simp [mx_up, show q ≠ b + 1 by omega, show q ≠ b + 2 by omega, show q ≠ b + 3 by omega]
            · simp [mx_up, z]
        · have c79 : w = 1 := by
            have : ¬ w = 0 := fun z => c79 (by rw [z]; rfl)
            omega
          refine mx_aload_n (pc' := 83) dX0_fall_82 rfl rfl ?_
          refine mx_getr (pc' := 86) dX0_fall_83 fl_X0_18 (by assumption) (by rfl) rfl ?_
          refine mx_iload_n (pc' := 87) dX0_fall_86 rfl rfl ?_
          refine mx_aload_n (pc' := 88) dX0_fall_87 rfl rfl ?_
          refine mx_getr (pc' := 91) dX0_fall_88 fl_X0_18 (by assumption) (by rfl) rfl ?_
          refine mx_iload_n (pc' := 92) dX0_fall_91 rfl rfl ?_
          refine mx_iald (pc' := 93) (v := dr d1) dX0_fall_92 (by assumption) (rfl) (by omega) (((by simp only [mx_up]; repeat rw [if_neg (by omega)]) : _ = N (b + 3) i).trans n3) rfl ?_
          refine mx_ineg (pc' := 94) (v := dr (2 - d1)) dX0_fall_93 (dr_neg d1 hd1) rfl ?_
          refine mx_iast (pc' := 95) dX0_fall_94 (by assumption) (rfl) (by omega) rfl ?_
          refine J95 d1 (2 - d1) _ hd1 (by omega) hc1 hc2 (by rw [if_pos c79]) ?_ ?_ ?_ ?_ ?_ ?_
          · simp [mx_up]
          · simp [mx_up]
          · simp [mx_up, n3]
          · simp [mx_up, n4]
          · simp [mx_up, n5]
          · intro q j z
            rw [← hN q j z]
            rcases z with z | z | z
            · simp [mx_up, show q ≠ b + 1 by omega, show q ≠ b + 2 by omega, show q ≠ b + 3 by omega]
            · simp [mx_up, show q ≠ b + 1 by omega, show q ≠ b + 2 by omega, show q ≠ b + 3 by omega]
            · simp [mx_up, z]
      obtain ⟨w1, w2, w3, w4, w5⟩ := id hP2.1
      dsimp only at w1 w2 w3 w4 w5
      refine mx_iload_n (pc' := 13) dX0_fall_12 rfl rfl ?_
      refine mx_if_eq (tgt := 48) (pc' := 16) dX0_fall_13 (by decide) rfl (fun c13 => ?_) (fun c13 => ?_)
      · have c13 : t = 0 := (nI_eq (a := t) (b := 0) (by omega) (by omega)).mp c13
        exact J48 d M1 v3 (fun z => by omega) (fun _ => rfl) hP2.1 (fun _ _ _ => rfl)
      · have c13 : t = 1 := by
          have : ¬ t = 0 := fun z => c13 (by rw [z]; rfl)
          omega
        refine mx_aload_n (pc' := 17) dX0_fall_16 rfl rfl ?_
        refine mx_getr (pc' := 20) dX0_fall_17 fl_X0_15 (by assumption) (by rfl) rfl ?_
        refine mx_iload_n (pc' := 21) dX0_fall_20 rfl rfl ?_
        refine mx_iald (pc' := 22) (v := nI c) dX0_fall_21 (by assumption) (rfl) (by omega) (w2) rfl ?_
        refine mx_aload_n (pc' := 23) dX0_fall_22 rfl rfl ?_
        refine mx_getr (pc' := 26) dX0_fall_23 fl_X0_18 (by assumption) (by rfl) rfl ?_
        refine mx_iload_n (pc' := 27) dX0_fall_26 rfl rfl ?_
        refine mx_iald (pc' := 28) (v := dr d) dX0_fall_27 (by assumption) (rfl) (by omega) (w3) rfl ?_
        refine mx_iadd (pc' := 29) dX0_fall_28 (rfl) rfl ?_
        refine mx_callN (pc' := 32) dX0_fall_29 cl_X0_36 (t_X7_isColumn _ _) rfl (by decide) rfl (Nat.le_of_ble_eq_true rfl) rfl (fun v N29 hv => ?_)
        obtain ⟨rfl, hv⟩ := hv
        rw [hv]
        refine mx_if_ne (tgt := 48) (pc' := 35) dX0_fall_32 (by decide) rfl (fun c32 => ?_) (fun c32 => ?_)
        · have c32 := (dr_in c (by omega) d v3).mp (bI_n.mp c32)
          exact J48 d _ v3 (fun z => by rw [if_neg (by omega)]) (fun _ => rfl) hP2.1 (fun _ _ _ => rfl)
        · have c32 : ¬ (1 ≤ c + d ∧ c + d ≤ 10) := fun z => bI_0.mp c32 ((dr_in c (by omega) d v3).mpr z)
          refine mx_aload_n (pc' := 36) dX0_fall_35 rfl rfl ?_
          refine mx_getr (pc' := 39) dX0_fall_36 fl_X0_18 (by assumption) (by rfl) rfl ?_
          refine mx_iload_n (pc' := 40) dX0_fall_39 rfl rfl ?_
          refine mx_aload_n (pc' := 41) dX0_fall_40 rfl rfl ?_
          refine mx_getr (pc' := 44) dX0_fall_41 fl_X0_18 (by assumption) (by rfl) rfl ?_
          refine mx_iload_n (pc' := 45) dX0_fall_44 rfl rfl ?_
          refine mx_iald (pc' := 46) (v := dr d) dX0_fall_45 (by assumption) (rfl) (by omega) (w3) rfl ?_
          refine mx_ineg (pc' := 47) (v := dr (2 - d)) dX0_fall_46 (dr_neg d v3) rfl ?_
          refine mx_iast (pc' := 48) dX0_fall_47 (by assumption) (rfl) (by omega) rfl ?_
          refine J48 (2 - d) _ (by omega) (fun z => by rw [if_pos (by omega)]) (fun z => absurd c13 z) ⟨by simp [mx_up, w1], by simp [mx_up, w2], by simp [mx_up], by simp [mx_up, w4], by simp [mx_up, w5]⟩ ?_
          intro q j z
          rcases z with z | z | z
          · simp [mx_up, show q ≠ b + 3 by omega]
          · simp [mx_up, show q ≠ b + 3 by omega]
          · simp [mx_up, z]

set_option maxHeartbeats 1000000 in
set_option maxRecDepth 10000 in
theorem t_X0_fall (M : mx_M) (b t : Nat) (hs : BuS b) (ht : t < 2) (L : List Bu) (hA : BuA M b L) : mx_T yX0_fall cX0_fall 4 (some .int) 3 [.ref b, .int (nI t)] M (fun v M' => v = some (.int (nI (L.length - (L.filterMap (fallB t)).length))) ∧ BuA M' b (L.filterMap (fallB t)) ∧ Out M M' b (b + 6)) := by
  refine mx_T.of1 (own := RX0) (ls := [some (.ref b), some (.int (nI t)), none, none]) (by decide +kernel) rfl (Nat.le_of_ble_eq_true rfl) rfl rfl ?_
  refine mx_iconst (pc' := 1) (v := nI 0) dX0_fall_0 (by decide) rfl ?_
  refine mx_istore_n (pc' := 2) (ls' := [_, _, _, _]) dX0_fall_1 (by decide) (rfl) rfl rfl ?_
  refine mx_iconst (pc' := 3) (v := nI 0) dX0_fall_2 (by decide) rfl ?_
  refine mx_istore_n (pc' := 4) (ls' := [_, _, _, _]) dX0_fall_3 (by decide) (rfl) rfl rfl ?_
  exact l_X0_fall M b t hs ht L hA.2.1 (L.length + 1) 0 M (by omega) (by omega) hA.1 (Nat.le_refl 0) BuP.nil hA.2.2 Out.rf

