def grH (F : FS) (i : Nat) : FS := (F.1, (F.2.1.take i).map (grzB (F.2.2.1 0)) ++ F.2.1.drop i, F.2.2.1, upd F.2.2.2 6 (F.2.2.2 6 + nI ((F.2.1.take i).countP (freshB (F.2.2.1 0)))))
theorem upd_upd (f : Nat → Int32) (k : Nat) (v w : Int32) : upd (upd f k v) k w = upd f k w := by
  funext j; unfold upd; split <;> rfl
theorem upd_same {f : Nat → Int32} {k : Nat} {v : Int32} (h : f k = v) : upd f k v = f := by
  funext j; unfold upd
  split
  · rename_i e; rw [e, h]
  · rfl
theorem grH_no {F : FS} {i : Nat} {x : Bu} (hx : F.2.1[i]? = some x) (h : freshB (F.2.2.1 0) x = false) : grH F (i + 1) = grH F i := by
  unfold grH
  rw [take_snoc hx, List.map_append, List.countP_append, drop_cons hx, List.append_assoc]
  have e1 : grzB (F.2.2.1 0) x = x := by unfold grzB; rw [h]; rfl
  simp [e1, h]
theorem grH_yes {F : FS} {i : Nat} {x : Bu} (hx : F.2.1[i]? = some x) (h : freshB (F.2.2.1 0) x = true) : grH F (i + 1) = (F.1, (grH F i).2.1.set i (x.1, x.2.1, x.2.2.1, x.2.2.2.1, 1), F.2.2.1, upd (grH F i).2.2.2 6 ((grH F i).2.2.2 6 + nI 1)) := by
  have hl := len_lt hx
  have e1 : grzB (F.2.2.1 0) x = (x.1, x.2.1, x.2.2.1, x.2.2.2.1, 1) := by unfold grzB; rw [h]; rfl
  unfold grH
  dsimp only
  rw [take_snoc hx, List.map_append, List.countP_append, drop_cons hx, List.append_assoc, upd_upd, upd_eq]
  congr 2
  · rw [List.set_append_right _ _ (by simp; omega)]
    simp [e1, Nat.min_eq_left (Nat.le_of_lt hl)]
  · congr 2
    rw [Int32.add_assoc, nI_add]
    simp [h]
theorem grH_0 (F : FS) : grH F 0 = F := by
  unfold grH
  rw [List.take_zero, List.drop_zero]
  show (F.1, F.2.1, F.2.2.1, upd F.2.2.2 6 (F.2.2.2 6 + nI 0)) = F
  rw [upd_same (by show F.2.2.2 6 = F.2.2.2 6 + nI 0; exact (Int32.add_zero _).symm)]
theorem grH_n {F : FS} {i : Nat} (h : F.2.1.length ≤ i) : grH F i = fGraze F := by
  unfold grH fGraze
  rw [take_len h, List.drop_eq_nil_of_le h, List.append_nil]
theorem grH_at {F : FS} {i : Nat} {x : Bu} (hx : F.2.1[i]? = some x) : (grH F i).2.1[i]? = some x := by
  have hl := len_lt hx
  show ((F.2.1.take i).map _ ++ F.2.1.drop i)[i]? = _
  rw [List.getElem?_append_right (by simp; omega)]
  simp [Nat.min_eq_left (Nat.le_of_lt hl), hx]
theorem grH_len (F : FS) (i : Nat) (h : i ≤ F.2.1.length) : (grH F i).2.1.length = F.2.1.length := by
  show ((F.2.1.take i).map _ ++ F.2.1.drop i).length = _
  rw [List.length_append, List.length_map, List.length_take, List.length_drop]
  omega
set_option maxHeartbeats 1000000 in
set_option maxRecDepth 10000 in
theorem l_X8_grazes (M : mx_M) (F : FS) (hF : MF M F) (hV : FV F) : ∀ (k : Nat) (i : Nat) (M1 : mx_M) (z1 z2 : Option Value), mx_c1 [z1, z2] = true → F.2.1.length < i + k → i ≤ F.2.1.length → MF M1 (grH F i) → MoS M M1 → mx_V cX8_grazes RX8 4 none 3 2 [some (.ref 143), some (.int (nI i)), z1, z2] [] M1 (fun v M' => v = none ∧ MF M' (fGraze F) ∧ MoS M M') := by
  have h60 := hF.bL.1
  intro k
  induction k with
  | zero =>
    intro i M1 z1 z2 hz hk hi hF1 hO
    exact absurd hk (by omega)
  | succ k ih =>
    intro i M1 z1 z2 hz hk hi hF1 hO
    refine mx_iload_n (pc' := 3) dX8_grazes_2 rfl rfl ?_
    refine mx_aload_n (pc' := 4) dX8_grazes_3 rfl rfl ?_
    refine mx_getr (pc' := 7) dX8_grazes_4 fl_X8_7 (rfl) (by rfl) rfl ?_
    refine mx_iconst (pc' := 8) (v := nI 1) dX8_grazes_7 (by decide) rfl ?_
    refine mx_iald (pc' := 9) (v := nI F.2.1.length) dX8_grazes_8 (rfl) (rfl) (by decide) (hF1.B.trans (congrArg nI (grH_len F i hi))) rfl ?_
    refine mx_icmp_ge (tgt := 104) (pc' := 12) dX8_grazes_9 (by decide) rfl (fun c9 => ?_) (fun c9 => ?_)
    · have c9 := (nI_leI (by omega) (by omega)).mp c9
      rw [grH_n c9] at hF1
      refine mx_vret dX8_grazes_104 rfl ?_
      exact ⟨rfl, hF1, hO⟩
    · have c9 := Nat.not_le.mp (fun z => c9 ((nI_leI (by omega) (by omega)).mpr z))
      obtain ⟨x, hx⟩ := get_lt c9
      obtain ⟨v1, v2, v3, v4, v5⟩ := hF.bL.2 x (List.mem_of_getElem? hx)
      obtain ⟨w1, w2, w3, w4, w5⟩ := hF1.bu (grH_at hx)
      have had := adf_lt (n := 12) (c := x.2.1) (p := F.2.2.1 0) (by omega) (by have := hV.1; omega)
      have hz2 : mx_c1 [z2] = true := by
        simp only [mx_c1, List.all_cons, List.all_nil, Bool.and_true, Bool.and_eq_true] at hz ⊢
        exact hz.2
      refine mx_aload_n (pc' := 13) dX8_grazes_12 rfl rfl ?_
      refine mx_iload_n (pc' := 14) dX8_grazes_13 rfl rfl ?_
      refine mx_iconst (pc' := 15) (v := nI 1) dX8_grazes_14 (by decide) rfl ?_
      refine mx_callV (pc' := 18) dX8_grazes_15 cl_X8_53 (rfl) (t_X8_of M1 i 1 (by omega) (by decide)) rfl (by decide) rfl (Nat.le_of_ble_eq_true rfl) rfl (fun v N15 hv => ?_)
      obtain ⟨rfl, hv⟩ := hv
      rw [hv, show M1 144 (33 + 5 * i + 1) = nI x.2.1 from w2]
      refine mx_aload_n (pc' := 19) dX8_grazes_18 rfl rfl ?_
      refine mx_getr (pc' := 22) dX8_grazes_19 fl_X8_7 (rfl) (by rfl) rfl ?_
      refine mx_iconst (pc' := 23) (v := nI 2) dX8_grazes_22 (by decide) rfl ?_
      refine mx_iald (pc' := 24) (v := nI (F.2.2.1 0)) dX8_grazes_23 (rfl) (rfl) (by decide) (hF1.sc 0 (by decide)) rfl ?_
      refine mx_isub (pc' := 25) dX8_grazes_24 (rfl) rfl ?_
      refine mx_istore_n (pc' := 26) (ls' := [_, _, _, _]) dX8_grazes_25 (by decide) (by simpa [mx_c1, Value.category] using hz) rfl rfl ?_
      refine mx_iload_n (pc' := 27) dX8_grazes_26 rfl rfl ?_
      refine mx_iconst (pc' := 28) (v := (-1)) dX8_grazes_27 (by decide) rfl ?_
      refine mx_iconst (pc' := 29) (v := nI 1) dX8_grazes_28 (by decide) rfl ?_
      refine mx_callS (pc' := 32) dX8_grazes_29 cl_X8_49 (t_X8_in M1 _ _ _) rfl (by decide) rfl (Nat.le_of_ble_eq_true rfl) rfl (fun v N29 hv => ?_)
      obtain ⟨rfl, hv⟩ := hv
      rw [hv]
      refine mx_if_eq (tgt := 65) (pc' := 35) dX8_grazes_32 (by decide) rfl (fun c32 => ?_) (fun c32 => ?_)
      · have c32 : ¬ adf x.2.1 (F.2.2.1 0) ≤ 1 := fun z => bI_0.mp c32 ((gz_1 _ v2 _ hV.1).mpr z)
        refine mx_iconst (pc' := 66) (v := nI 0) dX8_grazes_65 (by decide) rfl ?_
        have hn : nearB (F.2.2.1 0) x = false := decide_eq_false (by omega)
        refine mx_istore_n (pc' := 67) (ls' := [_, _, _, _]) dX8_grazes_66 (by decide) (by simpa [mx_c1, Value.category] using hz2) rfl rfl ?_
        refine mx_iload_n (pc' := 68) dX8_grazes_67 rfl rfl ?_
        refine mx_if_eq (tgt := 98) (pc' := 71) dX8_grazes_68 (by decide) rfl (fun c68 => ?_) (fun c68 => ?_)
        · have hnf : freshB (F.2.2.1 0) x = false := by simp [freshB, hn]
          refine mx_iinc (pc' := 101) (ls' := [_, _, _, _]) (v := nI (i + 1)) dX8_grazes_98 rfl (nI_add i 1) (by decide) (rfl) rfl rfl ?_
          refine mx_goto (pc' := 2) dX8_grazes_101 (by decide) ?_
          rw [← grH_no hx hnf] at hF1
          exact ih (i + 1) M1 _ _ (by simp [mx_c1, Value.category]) (by omega) (by omega) hF1 hO
        · exact absurd rfl c68
      · have c32 := (gz_1 _ v2 _ hV.1).mp (bI_n.mp c32)
        refine mx_aload_n (pc' := 36) dX8_grazes_35 rfl rfl ?_
        refine mx_iload_n (pc' := 37) dX8_grazes_36 rfl rfl ?_
        refine mx_iconst (pc' := 38) (v := nI 0) dX8_grazes_37 (by decide) rfl ?_
        refine mx_callV (pc' := 41) dX8_grazes_38 cl_X8_53 (rfl) (t_X8_of M1 i 0 (by omega) (by decide)) rfl (by decide) rfl (Nat.le_of_ble_eq_true rfl) rfl (fun v N38 hv => ?_)
        obtain ⟨rfl, hv⟩ := hv
        rw [hv, show M1 144 (33 + 5 * i + 0) = nI x.1 from w1]
        refine mx_bipush (pc' := 43) (v := nI 10) dX8_grazes_41 (by decide) rfl ?_
        refine mx_icmp_eq (tgt := 61) (pc' := 46) dX8_grazes_43 (by decide) rfl (fun c43 => ?_) (fun c43 => ?_)
        · have c43 := (nI_eq (by omega) (by omega)).mp c43
          refine mx_iconst (pc' := 62) (v := nI 1) dX8_grazes_61 (by decide) rfl ?_
          refine mx_goto (pc' := 66) dX8_grazes_62 (by decide) ?_
          have hn : nearB (F.2.2.1 0) x = true := decide_eq_true (by omega)
          refine mx_istore_n (pc' := 67) (ls' := [_, _, _, _]) dX8_grazes_66 (by decide) (by simpa [mx_c1, Value.category] using hz2) rfl rfl ?_
          refine mx_iload_n (pc' := 68) dX8_grazes_67 rfl rfl ?_
          refine mx_if_eq (tgt := 98) (pc' := 71) dX8_grazes_68 (by decide) rfl (fun c68 => ?_) (fun c68 => ?_)
          · exact absurd c68 (by decide)
          · refine mx_aload_n (pc' := 72) dX8_grazes_71 rfl rfl ?_
            refine mx_iload_n (pc' := 73) dX8_grazes_72 rfl rfl ?_
            refine mx_iconst (pc' := 74) (v := nI 4) dX8_grazes_73 (by decide) rfl ?_
            refine mx_callV (pc' := 77) dX8_grazes_74 cl_X8_53 (rfl) (t_X8_of M1 i 4 (by omega) (by decide)) rfl (by decide) rfl (Nat.le_of_ble_eq_true rfl) rfl (fun v N74 hv => ?_)
            obtain ⟨rfl, hv⟩ := hv
            rw [hv, show M1 144 (33 + 5 * i + 4) = nI x.2.2.2.2 from w5]
            refine mx_if_ne (tgt := 98) (pc' := 80) dX8_grazes_77 (by decide) rfl (fun c77 => ?_) (fun c77 => ?_)
            · have c77 : ¬ x.2.2.2.2 = 0 := fun z => c77 (by rw [z]; rfl)
              have hnf : freshB (F.2.2.1 0) x = false := by simp [freshB, c77]
              refine mx_iinc (pc' := 101) (ls' := [_, _, _, _]) (v := nI (i + 1)) dX8_grazes_98 rfl (nI_add i 1) (by decide) (rfl) rfl rfl ?_
              refine mx_goto (pc' := 2) dX8_grazes_101 (by decide) ?_
              rw [← grH_no hx hnf] at hF1
              exact ih (i + 1) M1 _ _ (by simp [mx_c1, Value.category]) (by omega) (by omega) hF1 hO
            · have c77 : x.2.2.2.2 = 0 := (nI_eq (a := x.2.2.2.2) (b := 0) (by omega) (by omega)).mp c77
              have hnf : freshB (F.2.2.1 0) x = true := by simp [freshB, hn, c77]
              refine mx_aload_n (pc' := 81) dX8_grazes_80 rfl rfl ?_
              refine mx_iload_n (pc' := 82) dX8_grazes_81 rfl rfl ?_
              refine mx_iconst (pc' := 83) (v := nI 4) dX8_grazes_82 (by decide) rfl ?_
              refine mx_iconst (pc' := 84) (v := nI 1) dX8_grazes_83 (by decide) rfl ?_
              refine mx_callV (pc' := 87) dX8_grazes_84 cl_X8_57 (rfl) (t_X8_lays M1 i 4 (by omega) (by decide) _) rfl (by decide) rfl (Nat.le_of_ble_eq_true rfl) rfl (fun v N84 hv => ?_)
              obtain ⟨rfl, e84⟩ := hv
              refine mx_aload_n (pc' := 88) dX8_grazes_87 rfl rfl ?_
              refine mx_getr (pc' := 91) dX8_grazes_88 fl_X8_7 (rfl) (by rfl) rfl ?_
              refine mx_bipush (pc' := 93) (v := nI 13) dX8_grazes_91 (by decide) rfl ?_
              refine mx_dup2 (pc' := 94) dX8_grazes_93 rfl rfl rfl ?_
              refine mx_iald (pc' := 95) (v := (grH F i).2.2.2 6) dX8_grazes_94 (rfl) (rfl) (by decide) (((by rw [e84, mx_up_fn, upd_ne _ _ (by omega)]) : N84 144 13 = M1 144 13).trans (hF1.ac 6 (by decide))) rfl ?_
              refine mx_iconst (pc' := 96) (v := nI 1) dX8_grazes_95 (by decide) rfl ?_
              refine mx_iadd (pc' := 97) dX8_grazes_96 (rfl) rfl ?_
              refine mx_iast (pc' := 98) dX8_grazes_97 (rfl) (rfl) (by decide) rfl ?_
              refine mx_iinc (pc' := 101) (ls' := [_, _, _, _]) (v := nI (i + 1)) dX8_grazes_98 rfl (nI_add i 1) (by decide) (rfl) rfl rfl ?_
              refine mx_goto (pc' := 2) dX8_grazes_101 (by decide) ?_
              have hF2 := (hF1.ubu (grH_at hx) ⟨v1, v2, v3, v4, Nat.le_refl 2⟩).uac 6 (by decide) ((grH F i).2.2.2 6 + nI 1)
              rw [e84]
              exact ih (i + 1) _ _ _ (by simp [mx_c1, Value.category]) (by omega) (by omega) (hF2.eq (grH_yes hx hnf).symm) ((hO.up (Or.inl rfl)).up (Or.inl rfl))
        · have c43 : ¬ _ := fun z => c43 ((nI_eq (by omega) (by omega)).mpr z)
          refine mx_aload_n (pc' := 47) dX8_grazes_46 rfl rfl ?_
          refine mx_iload_n (pc' := 48) dX8_grazes_47 rfl rfl ?_
          refine mx_iconst (pc' := 49) (v := nI 0) dX8_grazes_48 (by decide) rfl ?_
          refine mx_callV (pc' := 52) dX8_grazes_49 cl_X8_53 (rfl) (t_X8_of M1 i 0 (by omega) (by decide)) rfl (by decide) rfl (Nat.le_of_ble_eq_true rfl) rfl (fun v N49 hv => ?_)
          obtain ⟨rfl, hv⟩ := hv
          rw [hv, show M1 144 (33 + 5 * i + 0) = nI x.1 from w1]
          refine mx_bipush (pc' := 54) (v := nI 11) dX8_grazes_52 (by decide) rfl ?_
          refine mx_icmp_ne (tgt := 65) (pc' := 57) dX8_grazes_54 (by decide) rfl (fun c54 => ?_) (fun c54 => ?_)
          · have c54 : ¬ _ := fun z => c54 ((nI_eq (by omega) (by omega)).mpr z)
            refine mx_iconst (pc' := 66) (v := nI 0) dX8_grazes_65 (by decide) rfl ?_
            have hn : nearB (F.2.2.1 0) x = false := decide_eq_false (by omega)
            refine mx_istore_n (pc' := 67) (ls' := [_, _, _, _]) dX8_grazes_66 (by decide) (by simpa [mx_c1, Value.category] using hz2) rfl rfl ?_
            refine mx_iload_n (pc' := 68) dX8_grazes_67 rfl rfl ?_
            refine mx_if_eq (tgt := 98) (pc' := 71) dX8_grazes_68 (by decide) rfl (fun c68 => ?_) (fun c68 => ?_)
            · have hnf : freshB (F.2.2.1 0) x = false := by simp [freshB, hn]
              refine mx_iinc (pc' := 101) (ls' := [_, _, _, _]) (v := nI (i + 1)) dX8_grazes_98 rfl (nI_add i 1) (by decide) (rfl) rfl rfl ?_
              refine mx_goto (pc' := 2) dX8_grazes_101 (by decide) ?_
              rw [← grH_no hx hnf] at hF1
              exact ih (i + 1) M1 _ _ (by simp [mx_c1, Value.category]) (by omega) (by omega) hF1 hO
            · exact absurd rfl c68
          · have c54 := (nI_eq (by omega) (by omega)).mp c54
            refine mx_iload_n (pc' := 58) dX8_grazes_57 rfl rfl ?_
            refine mx_if_eq (tgt := 65) (pc' := 61) dX8_grazes_58 (by decide) rfl (fun c58 => ?_) (fun c58 => ?_)
            · have c58 : adf x.2.1 (F.2.2.1 0) = 0 := (gz_2 _ v2 _ hV.1).mp c58
              refine mx_iconst (pc' := 66) (v := nI 0) dX8_grazes_65 (by decide) rfl ?_
              have hn : nearB (F.2.2.1 0) x = false := decide_eq_false (by omega)
              refine mx_istore_n (pc' := 67) (ls' := [_, _, _, _]) dX8_grazes_66 (by decide) (by simpa [mx_c1, Value.category] using hz2) rfl rfl ?_
              refine mx_iload_n (pc' := 68) dX8_grazes_67 rfl rfl ?_
              refine mx_if_eq (tgt := 98) (pc' := 71) dX8_grazes_68 (by decide) rfl (fun c68 => ?_) (fun c68 => ?_)
              · have hnf : freshB (F.2.2.1 0) x = false := by simp [freshB, hn]
                refine mx_iinc (pc' := 101) (ls' := [_, _, _, _]) (v := nI (i + 1)) dX8_grazes_98 rfl (nI_add i 1) (by decide) (rfl) rfl rfl ?_
                refine mx_goto (pc' := 2) dX8_grazes_101 (by decide) ?_
                rw [← grH_no hx hnf] at hF1
                exact ih (i + 1) M1 _ _ (by simp [mx_c1, Value.category]) (by omega) (by omega) hF1 hO
              · exact absurd rfl c68
            · have c58 : ¬ adf x.2.1 (F.2.2.1 0) = 0 := fun z => c58 ((gz_2 _ v2 _ hV.1).mpr z)
              refine mx_iconst (pc' := 62) (v := nI 1) dX8_grazes_61 (by decide) rfl ?_
              refine mx_goto (pc' := 66) dX8_grazes_62 (by decide) ?_
              have hn : nearB (F.2.2.1 0) x = true := decide_eq_true (by omega)
              refine mx_istore_n (pc' := 67) (ls' := [_, _, _, _]) dX8_grazes_66 (by decide) (by simpa [mx_c1, Value.category] using hz2) rfl rfl ?_
              refine mx_iload_n (pc' := 68) dX8_grazes_67 rfl rfl ?_
              refine mx_if_eq (tgt := 98) (pc' := 71) dX8_grazes_68 (by decide) rfl (fun c68 => ?_) (fun c68 => ?_)
              · exact absurd c68 (by decide)
              · refine mx_aload_n (pc' := 72) dX8_grazes_71 rfl rfl ?_
                refine mx_iload_n (pc' := 73) dX8_grazes_72 rfl rfl ?_
                refine mx_iconst (pc' := 74) (v := nI 4) dX8_grazes_73 (by decide) rfl ?_
                refine mx_callV (pc' := 77) dX8_grazes_74 cl_X8_53 (rfl) (t_X8_of M1 i 4 (by omega) (by decide)) rfl (by decide) rfl (Nat.le_of_ble_eq_true rfl) rfl (fun v N74 hv => ?_)
                obtain ⟨rfl, hv⟩ := hv
                rw [hv, show M1 144 (33 + 5 * i + 4) = nI x.2.2.2.2 from w5]
                refine mx_if_ne (tgt := 98) (pc' := 80) dX8_grazes_77 (by decide) rfl (fun c77 => ?_) (fun c77 => ?_)
                · have c77 : ¬ x.2.2.2.2 = 0 := fun z => c77 (by rw [z]; rfl)
                  have hnf : freshB (F.2.2.1 0) x = false := by simp [freshB, c77]
                  refine mx_iinc (pc' := 101) (ls' := [_, _, _, _]) (v := nI (i + 1)) dX8_grazes_98 rfl (nI_add i 1) (by decide) (rfl) rfl rfl ?_
                  refine mx_goto (pc' := 2) dX8_grazes_101 (by decide) ?_
                  rw [← grH_no hx hnf] at hF1
                  exact ih (i + 1) M1 _ _ (by simp [mx_c1, Value.category]) (by omega) (by omega) hF1 hO
                · have c77 : x.2.2.2.2 = 0 := (nI_eq (a := x.2.2.2.2) (b := 0) (by omega) (by omega)).mp c77
                  have hnf : freshB (F.2.2.1 0) x = true := by simp [freshB, hn, c77]
                  refine mx_aload_n (pc' := 81) dX8_grazes_80 rfl rfl ?_
                  refine mx_iload_n (pc' := 82) dX8_grazes_81 rfl rfl ?_
                  refine mx_iconst (pc' := 83) (v := nI 4) dX8_grazes_82 (by decide) rfl ?_
                  refine mx_iconst (pc' := 84) (v := nI 1) dX8_grazes_83 (by decide) rfl ?_
                  refine mx_callV (pc' := 87) dX8_grazes_84 cl_X8_57 (rfl) (t_X8_lays M1 i 4 (by omega) (by decide) _) rfl (by decide) rfl (Nat.le_of_ble_eq_true rfl) rfl (fun v N84 hv => ?_)
                  obtain ⟨rfl, e84⟩ := hv
                  refine mx_aload_n (pc' := 88) dX8_grazes_87 rfl rfl ?_
                  refine mx_getr (pc' := 91) dX8_grazes_88 fl_X8_7 (rfl) (by rfl) rfl ?_
                  refine mx_bipush (pc' := 93) (v := nI 13) dX8_grazes_91 (by decide) rfl ?_
                  refine mx_dup2 (pc' := 94) dX8_grazes_93 rfl rfl rfl ?_
                  refine mx_iald (pc' := 95) (v := (grH F i).2.2.2 6) dX8_grazes_94 (rfl) (rfl) (by decide) (((by rw [e84, mx_up_fn, upd_ne _ _ (by omega)]) : N84 144 13 = M1 144 13).trans (hF1.ac 6 (by decide))) rfl ?_
                  refine mx_iconst (pc' := 96) (v := nI 1) dX8_grazes_95 (by decide) rfl ?_
                  refine mx_iadd (pc' := 97) dX8_grazes_96 (rfl) rfl ?_
                  refine mx_iast (pc' := 98) dX8_grazes_97 (rfl) (rfl) (by decide) rfl ?_
                  refine mx_iinc (pc' := 101) (ls' := [_, _, _, _]) (v := nI (i + 1)) dX8_grazes_98 rfl (nI_add i 1) (by decide) (rfl) rfl rfl ?_
                  refine mx_goto (pc' := 2) dX8_grazes_101 (by decide) ?_
                  have hF2 := (hF1.ubu (grH_at hx) ⟨v1, v2, v3, v4, Nat.le_refl 2⟩).uac 6 (by decide) ((grH F i).2.2.2 6 + nI 1)
                  rw [e84]
                  exact ih (i + 1) _ _ _ (by simp [mx_c1, Value.category]) (by omega) (by omega) (hF2.eq (grH_yes hx hnf).symm) ((hO.up (Or.inl rfl)).up (Or.inl rfl))

set_option maxHeartbeats 1000000 in
set_option maxRecDepth 10000 in
theorem t_X8_grazes (M : mx_M) (F : FS) (hF : MF M F) (hV : FV F) : mx_T yX8_grazes cX8_grazes 4 none 3 [.ref 143] M (fun v M' => v = none ∧ MF M' (fGraze F) ∧ MoS M M') := by
  refine mx_T.of1 (own := RX8) (ls := [some (.ref 143), none, none, none]) (by decide +kernel) rfl (Nat.le_of_ble_eq_true rfl) rfl rfl ?_
  refine mx_iconst (pc' := 1) (v := nI 0) dX8_grazes_0 (by decide) rfl ?_
  refine mx_istore_n (pc' := 2) (ls' := [_, _, _, _]) dX8_grazes_1 (by decide) (rfl) rfl rfl ?_
  exact l_X8_grazes M F hF hV (F.2.1.length + 1) 0 M none none rfl (by omega) (by omega) (hF.eq (grH_0 F).symm) MoS.rf

set_option maxHeartbeats 1000000 in
set_option maxRecDepth 10000 in
theorem t_X8_goTick (M : mx_M) (F : FS) (hF : MF M F) (hV : FV F) (hdn : F.2.2.1 4 = 0) (ht : F.2.2.1 3 + 1 < 2147483648) (k : Nat) (hk : k < 3) : mx_T yX8_goTick cX8_goTick 3 (some .int) 6 [.ref 143, .int (dr k)] M (fun v M' => v = some (.int (nI (fPass k F).1)) ∧ MF M' (fPass k F).2 ∧ MoS M M') := by
  have h0 := hV.1
  have J32 : ∀ (N : mx_M) (G : FS), fMove k F = G → MF N G → MoS M N → mx_V cX8_goTick RX8 3 (some .int) 6 31 [some (.ref 143), some (.int (dr k)), none] [] N (fun v M' => v = some (.int (nI (fPass k F).1)) ∧ MF M' (fPass k F).2 ∧ MoS M M') := by
    intro N G hG hF hO
    have hVG : FV G := hG ▸ hV.move k
    have hT : G.2.2.1 3 + 1 < 2147483648 := by rw [← hG, (fMove_0 k F).2]; exact ht
    have hd4 : (fAdv G).2.2.1 4 = 0 := by
      rw [(fAdv_1 G).2]
      show G.2.2.1 4 = 0
      rw [← hG]; unfold fMove; split <;> exact hdn
    refine mx_aload_n (pc' := 32) dX8_goTick_31 rfl rfl ?_
    refine mx_callV (pc' := 35) dX8_goTick_32 cl_X8_81 (rfl) (t_X8_moves N G hF hVG hT) rfl (by decide) rfl (Nat.le_of_ble_eq_true rfl) rfl (fun v N32 hv => ?_)
    obtain ⟨rfl, hF2, hO2⟩ := hv
    refine mx_aload_n (pc' := 36) dX8_goTick_35 rfl rfl ?_
    refine mx_callV (pc' := 39) dX8_goTick_36 cl_X8_84 (rfl) (t_X8_hits N32 _ hF2 hVG.adv hd4) rfl (by decide) rfl (Nat.le_of_ble_eq_true rfl) rfl (fun v N36 hv => ?_)
    obtain ⟨rfl, hF3, hO3⟩ := hv
    have hV3 := hVG.adv.hits
    have hO9 := (hO.tr hO2).tr hO3
    generalize hR : fHits (fAdv G) = R at hF3 hV3 ⊢
    have h4 := hV3.2.2.2.1
    refine mx_istore_n (pc' := 40) (ls' := [_, _, _]) dX8_goTick_39 (by decide) (rfl) rfl rfl ?_
    refine mx_aload_n (pc' := 41) dX8_goTick_40 rfl rfl ?_
    refine mx_getr (pc' := 44) dX8_goTick_41 fl_X8_7 (rfl) (by rfl) rfl ?_
    refine mx_bipush (pc' := 46) (v := nI 6) dX8_goTick_44 (by decide) rfl ?_
    refine mx_iald (pc' := 47) (v := nI (R.2.2.2.1 4)) dX8_goTick_46 (rfl) (rfl) (by decide) (hF3.sc 4 (by decide)) rfl ?_
    refine mx_if_ne (tgt := 54) (pc' := 50) dX8_goTick_47 (by decide) rfl (fun c47 => ?_) (fun c47 => ?_)
    · have c47 : ¬ R.2.2.2.1 4 = 0 := fun z => c47 (by rw [z]; rfl)
      refine mx_iload_n (pc' := 55) dX8_goTick_54 rfl rfl ?_
      refine mx_iret dX8_goTick_55 (Or.inl rfl) ?_
      have e : fPass k F = (R.1, R.2) := by
        unfold fPass
        rw [hG, hR, if_neg c47]
      rw [e]
      exact ⟨rfl, hF3, hO9⟩
    · have c47 : R.2.2.2.1 4 = 0 := (nI_eq (a := R.2.2.2.1 4) (b := 0) (by omega) (by omega)).mp c47
      refine mx_aload_n (pc' := 51) dX8_goTick_50 rfl rfl ?_
      refine mx_callV (pc' := 54) dX8_goTick_51 cl_X8_87 (rfl) (t_X8_grazes N36 R.2 hF3 hV3) rfl (by decide) rfl (Nat.le_of_ble_eq_true rfl) rfl (fun v N51 hv => ?_)
      obtain ⟨rfl, hF4, hO4⟩ := hv
      refine mx_iload_n (pc' := 55) dX8_goTick_54 rfl rfl ?_
      refine mx_iret dX8_goTick_55 (Or.inl rfl) ?_
      have e : fPass k F = (R.1, fGraze R.2) := by
        unfold fPass
        rw [hG, hR, if_pos c47]
      rw [e]
      exact ⟨rfl, hF4, hO9.tr hO4⟩
  refine mx_T.of1 (own := RX8) (ls := [some (.ref 143), some (.int (dr k)), none]) (by decide +kernel) rfl (Nat.le_of_ble_eq_true rfl) rfl rfl ?_
  refine mx_aload_n (pc' := 1) dX8_goTick_0 rfl rfl ?_
  refine mx_getr (pc' := 4) dX8_goTick_1 fl_X8_7 (rfl) (by rfl) rfl ?_
  refine mx_iconst (pc' := 5) (v := nI 2) dX8_goTick_4 (by decide) rfl ?_
  refine mx_dup2 (pc' := 6) dX8_goTick_5 rfl rfl rfl ?_
  refine mx_iald (pc' := 7) (v := nI (F.2.2.1 0)) dX8_goTick_6 (rfl) (rfl) (by decide) (hF.sc 0 (by decide)) rfl ?_
  refine mx_aload_n (pc' := 8) dX8_goTick_7 rfl rfl ?_
  refine mx_getr (pc' := 11) dX8_goTick_8 fl_X8_7 (rfl) (by rfl) rfl ?_
  refine mx_iconst (pc' := 12) (v := nI 2) dX8_goTick_11 (by decide) rfl ?_
  refine mx_iald (pc' := 13) (v := nI (F.2.2.1 0)) dX8_goTick_12 (rfl) (rfl) (by decide) (hF.sc 0 (by decide)) rfl ?_
  refine mx_iload_n (pc' := 14) dX8_goTick_13 rfl rfl ?_
  refine mx_iadd (pc' := 15) dX8_goTick_14 (rfl) rfl ?_
  refine mx_iconst (pc' := 16) (v := nI 0) dX8_goTick_15 (by decide) rfl ?_
  refine mx_bipush (pc' := 18) (v := nI 9) dX8_goTick_16 (by decide) rfl ?_
  refine mx_callS (pc' := 21) dX8_goTick_18 cl_X8_49 (t_X8_in _ _ _ _) rfl (by decide) rfl (Nat.le_of_ble_eq_true rfl) rfl (fun v N18 hv => ?_)
  obtain ⟨rfl, hv⟩ := hv
  rw [hv]
  refine mx_if_eq (tgt := 28) (pc' := 24) dX8_goTick_21 (by decide) rfl (fun c21 => ?_) (fun c21 => ?_)
  · have c21 : ¬ (1 ≤ F.2.2.1 0 + k ∧ F.2.2.1 0 + k ≤ 10) := fun z => bI_0.mp c21 ⟨((dr_in _ (by omega) k hk).mpr z).1, (dr_le _ (by omega) k hk).mpr z.2⟩
    refine mx_iconst (pc' := 29) (v := nI 0) dX8_goTick_28 (by decide) rfl ?_
    refine mx_iadd (pc' := 30) (v := nI (F.2.2.1 0)) dX8_goTick_29 (nI_add _ 0) rfl ?_
    refine mx_iast (pc' := 31) dX8_goTick_30 (rfl) (rfl) (by decide) rfl ?_
    exact J32 _ F (if_neg c21) ((hF.usc 0 (by decide) (F.2.2.1 0)).eq (by show (_, _, va_up F.2.2.1 0 (F.2.2.1 0), _) = _; rw [va_up_same rfl])) (MoS.rf.up (Or.inl rfl))
  · have c21 : 1 ≤ F.2.2.1 0 + k ∧ F.2.2.1 0 + k ≤ 10 := by
      have z := bI_n.mp c21
      have z2 := (dr_le _ (by omega) k hk).mp z.2
      exact ⟨Decidable.byContradiction (fun y => by
        obtain ⟨h1, rfl⟩ : F.2.2.1 0 = 0 ∧ k = 0 := by omega
        rw [h1] at z
        exact absurd z.1 (by decide)), z2⟩
    refine mx_iload_n (pc' := 25) dX8_goTick_24 rfl rfl ?_
    refine mx_goto (pc' := 29) dX8_goTick_25 (by decide) ?_
    refine mx_iadd (pc' := 30) (v := nI (F.2.2.1 0 + k - 1)) dX8_goTick_29 (dr_add _ (by omega) k hk (by omega)) rfl ?_
    refine mx_iast (pc' := 31) dX8_goTick_30 (rfl) (rfl) (by decide) rfl ?_
    exact J32 _ _ (if_pos c21) (hF.usc 0 (by decide) _) (MoS.rf.up (Or.inl rfl))

set_option maxHeartbeats 1000000 in
set_option maxRecDepth 10000 in
theorem l_X8_goBomb (M : mx_M) (F : FS) (hF : MF M F) (hV : FV F) (hb : 0 < F.2.2.1 2) : ∀ (k : Nat) (i : Nat) (M1 : mx_M), F.2.1.length < i + k → i ≤ F.2.1.length → Out M M1 149 150 → (∀ (j : Nat) (y : Bu), F.2.1[j]? = some y → j < i → M1 149 j = nI (takenB (F.2.2.1 0) (F.2.2.1 6) y).toNat) → mx_V cX8_goBomb RX8 3 (some .int) 4 10 [some (.ref 143), some (.int (nI (F.2.2.1 6))), some (.int (nI i))] [] M1 (fun v M' => v = some (.int (nI (fBomb F).1)) ∧ MF M' (fBomb F).2 ∧ MoS M M') := by
  have h60 := hF.bL.1
  have hb2 := hV.2.2.1
  intro k
  induction k with
  | zero =>
    intro i M1 hk hi hO hlo
    exact absurd hk (by omega)
  | succ k ih =>
    intro i M1 hk hi hO hlo
    refine mx_iload_n (pc' := 11) dX8_goBomb_10 rfl rfl ?_
    refine mx_aload_n (pc' := 12) dX8_goBomb_11 rfl rfl ?_
    refine mx_getr (pc' := 15) dX8_goBomb_12 fl_X8_7 (rfl) (by rfl) rfl ?_
    refine mx_iconst (pc' := 16) (v := nI 1) dX8_goBomb_15 (by decide) rfl ?_
    refine mx_iald (pc' := 17) (v := nI F.2.1.length) dX8_goBomb_16 (rfl) (rfl) (by decide) (by rw [hO 144 (by omega)]; exact hF.B) rfl ?_
    refine mx_icmp_ge (tgt := 72) (pc' := 20) dX8_goBomb_17 (by decide) rfl (fun c17 => ?_) (fun c17 => ?_)
    · have c17 := (nI_leI (by omega) (by omega)).mp c17
      refine mx_aload_n (pc' := 73) dX8_goBomb_72 rfl rfl ?_
      refine mx_callV (pc' := 76) dX8_goBomb_73 cl_X8_61 (rfl) (t_X8_takesAway M1 (F.2.1.map (fun x => (takenB (F.2.2.1 0) (F.2.2.1 6) x, encW x))) ⟨by rw [List.length_map, hO 144 (by omega)]; exact hF.B, by rw [List.length_map]; exact hF.bL.1, fun j q hq => by
    rw [List.getElem?_map, Option.map_eq_some_iff] at hq
    obtain ⟨y, hy, rfl⟩ := hq
    exact ⟨hlo j y hy (by have := len_lt hy; omega), fun w hw => by rw [hO 144 (by omega)]; exact (hF.bu hy).w w hw⟩⟩) rfl (by decide) rfl (Nat.le_of_ble_eq_true rfl) rfl (fun v N73 hv => ?_)
      obtain ⟨rfl, h1, hW, h3, hO3⟩ := hv
      have hK := kept_flt (takenB (F.2.2.1 0) (F.2.2.1 6)) F.2.1
      have hF2 := hF.took (fun j h => by rw [hO 144 (by omega)]) hK ⟨Nat.le_trans (List.length_filter_le _ _) hF.bL.1, fun y hy => hF.bL.2 y (List.mem_filter.mp hy).1⟩ h1 hW h3
      rw [List.length_map, hK.1]
      have hO4 : MoS M N73 := fun q a b => by rw [hO3 q (by omega)]; exact hO q (by omega)
      refine mx_istore_n (pc' := 77) (ls' := [_, _, _]) dX8_goBomb_76 (by decide) (rfl) rfl rfl ?_
      refine mx_aload_n (pc' := 78) dX8_goBomb_77 rfl rfl ?_
      refine mx_getr (pc' := 81) dX8_goBomb_78 fl_X8_7 (rfl) (by rfl) rfl ?_
      refine mx_bipush (pc' := 83) (v := nI 11) dX8_goBomb_81 (by decide) rfl ?_
      refine mx_dup2 (pc' := 84) dX8_goBomb_83 rfl rfl rfl ?_
      refine mx_iald (pc' := 85) (v := F.2.2.2 4) dX8_goBomb_84 (rfl) (rfl) (by decide) (hF2.ac 4 (by decide)) rfl ?_
      refine mx_iload_n (pc' := 86) dX8_goBomb_85 rfl rfl ?_
      refine mx_iadd (pc' := 87) dX8_goBomb_86 (rfl) rfl ?_
      refine mx_iast (pc' := 88) dX8_goBomb_87 (rfl) (rfl) (by decide) rfl ?_
      have hF3 := hF2.uac 4 (by decide) (F.2.2.2 4 + nI (F.2.1.length - (fBombB F).length))
      refine mx_aload_n (pc' := 89) dX8_goBomb_88 rfl rfl ?_
      refine mx_getr (pc' := 92) dX8_goBomb_89 fl_X8_7 (rfl) (by rfl) rfl ?_
      refine mx_iconst (pc' := 93) (v := nI 4) dX8_goBomb_92 (by decide) rfl ?_
      refine mx_dup2 (pc' := 94) dX8_goBomb_93 rfl rfl rfl ?_
      refine mx_iald (pc' := 95) (v := nI (F.2.2.1 2)) dX8_goBomb_94 (rfl) (rfl) (by decide) (hF3.sc 2 (by decide)) rfl ?_
      refine mx_iconst (pc' := 96) (v := nI 1) dX8_goBomb_95 (by decide) rfl ?_
      refine mx_isub (pc' := 97) (v := nI (F.2.2.1 2 - 1)) dX8_goBomb_96 (pk_sub (b := 1) (by omega)) rfl ?_
      refine mx_iast (pc' := 98) dX8_goBomb_97 (rfl) (rfl) (by decide) rfl ?_
      refine mx_iload_n (pc' := 99) dX8_goBomb_98 rfl rfl ?_
      refine mx_iret dX8_goBomb_99 (Or.inl rfl) ?_
      exact ⟨rfl, hF3.usc 2 (by decide) _, (hO4.up (Or.inl rfl)).up (Or.inl rfl)⟩
    · have c17 := Nat.not_le.mp (fun z => c17 ((nI_leI (by omega) (by omega)).mpr z))
      obtain ⟨x, hx⟩ := get_lt c17
      obtain ⟨v1, v2, v3, v4, v5⟩ := hF.bL.2 x (List.mem_of_getElem? hx)
      have hw := hF.bu hx
      have h6 := hV.2.2.2.2.2.2
      refine mx_aload_n (pc' := 21) dX8_goBomb_20 rfl rfl ?_
      refine mx_getr (pc' := 24) dX8_goBomb_21 fl_X8_25 (rfl) (by rfl) rfl ?_
      refine mx_iload_n (pc' := 25) dX8_goBomb_24 rfl rfl ?_
      refine mx_aload_n (pc' := 26) dX8_goBomb_25 rfl rfl ?_
      refine mx_iload_n (pc' := 27) dX8_goBomb_26 rfl rfl ?_
      refine mx_iconst (pc' := 28) (v := nI 0) dX8_goBomb_27 (by decide) rfl ?_
      refine mx_callV (pc' := 31) dX8_goBomb_28 cl_X8_53 (rfl) (t_X8_of M1 i 0 (by omega) (by decide)) rfl (by decide) rfl (Nat.le_of_ble_eq_true rfl) rfl (fun v N28 hv => ?_)
      obtain ⟨rfl, hv⟩ := hv
      rw [hv, show M1 144 (33 + 5 * i + 0) = nI x.1 from by rw [hO 144 (by omega)]; exact hw.1]
      refine mx_bipush (pc' := 33) (v := nI 11) dX8_goBomb_31 (by decide) rfl ?_
      refine mx_iload_n (pc' := 34) dX8_goBomb_33 rfl rfl ?_
      refine mx_isub (pc' := 35) (v := nI (11 - F.2.2.1 6)) dX8_goBomb_34 (pk_sub (a := 11) (by omega)) rfl ?_
      refine mx_icmp_lt (tgt := 64) (pc' := 38) dX8_goBomb_35 (by decide) rfl (fun c35 => ?_) (fun c35 => ?_)
      · have c35 := (nI_ltI (by omega) (by omega)).mp c35
        have hf : takenB (F.2.2.1 0) (F.2.2.1 6) x = false := decide_eq_false (fun z => by omega)
        refine mx_iconst (pc' := 65) (v := nI (takenB (F.2.2.1 0) (F.2.2.1 6) x).toNat) dX8_goBomb_64 (by rw [hf]; decide) rfl ?_
        refine mx_bast (pc' := 66) dX8_goBomb_65 (rfl) (rfl) (by omega) (nI_vb (by rw [hf]; decide)) rfl ?_
        refine mx_iinc (pc' := 69) (ls' := [_, _, _]) (v := nI (i + 1)) dX8_goBomb_66 rfl (nI_add i 1) (by decide) (rfl) rfl rfl ?_
        refine mx_goto (pc' := 10) dX8_goBomb_69 (by decide) ?_
        refine ih (i + 1) _ (by omega) (by omega) (hO.up (by omega) (by omega)) (fun j y hy h => ?_)
        rw [mx_up_fn]
        by_cases e : j = i
        · subst e
          rw [hx] at hy
          cases hy
          rw [upd_eq]
        · rw [upd_ne _ _ e]
          exact hlo j y hy (by omega)
      · have c35 := Nat.not_lt.mp (fun z => c35 ((nI_ltI (by omega) (by omega)).mpr z))
        refine mx_aload_n (pc' := 39) dX8_goBomb_38 rfl rfl ?_
        refine mx_iload_n (pc' := 40) dX8_goBomb_39 rfl rfl ?_
        refine mx_iconst (pc' := 41) (v := nI 1) dX8_goBomb_40 (by decide) rfl ?_
        refine mx_callV (pc' := 44) dX8_goBomb_41 cl_X8_53 (rfl) (t_X8_of M1 i 1 (by omega) (by decide)) rfl (by decide) rfl (Nat.le_of_ble_eq_true rfl) rfl (fun v N41 hv => ?_)
        obtain ⟨rfl, hv⟩ := hv
        rw [hv, show M1 144 (33 + 5 * i + 1) = nI x.2.1 from by rw [hO 144 (by omega)]; exact hw.2.1]
        refine mx_aload_n (pc' := 45) dX8_goBomb_44 rfl rfl ?_
        refine mx_getr (pc' := 48) dX8_goBomb_45 fl_X8_7 (rfl) (by rfl) rfl ?_
        refine mx_iconst (pc' := 49) (v := nI 2) dX8_goBomb_48 (by decide) rfl ?_
        refine mx_iald (pc' := 50) (v := nI (F.2.2.1 0)) dX8_goBomb_49 (rfl) (rfl) (by decide) (by rw [hO 144 (by omega)]; exact hF.sc 0 (by decide)) rfl ?_
        refine mx_isub (pc' := 51) dX8_goBomb_50 (rfl) rfl ?_
        refine mx_iload_n (pc' := 52) dX8_goBomb_51 rfl rfl ?_
        refine mx_ineg (pc' := 53) dX8_goBomb_52 (rfl) rfl ?_
        refine mx_iload_n (pc' := 54) dX8_goBomb_53 rfl rfl ?_
        refine mx_callS (pc' := 57) dX8_goBomb_54 cl_X8_49 (t_X8_in M1 _ _ _) rfl (by decide) rfl (Nat.le_of_ble_eq_true rfl) rfl (fun v N54 hv => ?_)
        obtain ⟨rfl, hv⟩ := hv
        rw [hv]
        refine mx_if_eq (tgt := 64) (pc' := 60) dX8_goBomb_57 (by decide) rfl (fun c57 => ?_) (fun c57 => ?_)
        · have hf : takenB (F.2.2.1 0) (F.2.2.1 6) x = false := decide_eq_false (fun z => bI_0.mp c57 ((bm_1 _ v2 _ hV.1 _ (by omega)).mpr z.2))
          refine mx_iconst (pc' := 65) (v := nI (takenB (F.2.2.1 0) (F.2.2.1 6) x).toNat) dX8_goBomb_64 (by rw [hf]; decide) rfl ?_
          refine mx_bast (pc' := 66) dX8_goBomb_65 (rfl) (rfl) (by omega) (nI_vb (by rw [hf]; decide)) rfl ?_
          refine mx_iinc (pc' := 69) (ls' := [_, _, _]) (v := nI (i + 1)) dX8_goBomb_66 rfl (nI_add i 1) (by decide) (rfl) rfl rfl ?_
          refine mx_goto (pc' := 10) dX8_goBomb_69 (by decide) ?_
          refine ih (i + 1) _ (by omega) (by omega) (hO.up (by omega) (by omega)) (fun j y hy h => ?_)
          rw [mx_up_fn]
          by_cases e : j = i
          · subst e
            rw [hx] at hy
            cases hy
            rw [upd_eq]
          · rw [upd_ne _ _ e]
            exact hlo j y hy (by omega)
        · have hf : takenB (F.2.2.1 0) (F.2.2.1 6) x = true := decide_eq_true ⟨by omega, (bm_1 _ v2 _ hV.1 _ (by omega)).mp (bI_n.mp c57)⟩
          refine mx_iconst (pc' := 61) (v := nI (takenB (F.2.2.1 0) (F.2.2.1 6) x).toNat) dX8_goBomb_60 (by rw [hf]; decide) rfl ?_
          refine mx_goto (pc' := 65) dX8_goBomb_61 (by decide) ?_
          refine mx_bast (pc' := 66) dX8_goBomb_65 (rfl) (rfl) (by omega) (nI_vb (by rw [hf]; decide)) rfl ?_
          refine mx_iinc (pc' := 69) (ls' := [_, _, _]) (v := nI (i + 1)) dX8_goBomb_66 rfl (nI_add i 1) (by decide) (rfl) rfl rfl ?_
          refine mx_goto (pc' := 10) dX8_goBomb_69 (by decide) ?_
          refine ih (i + 1) _ (by omega) (by omega) (hO.up (by omega) (by omega)) (fun j y hy h => ?_)
          rw [mx_up_fn]
          by_cases e : j = i
          · subst e
            rw [hx] at hy
            cases hy
            rw [upd_eq]
          · rw [upd_ne _ _ e]
            exact hlo j y hy (by omega)

set_option maxHeartbeats 1000000 in
set_option maxRecDepth 10000 in
theorem t_X8_goBomb (M : mx_M) (F : FS) (hF : MF M F) (hV : FV F) (hb : 0 < F.2.2.1 2) : mx_T yX8_goBomb cX8_goBomb 3 (some .int) 4 [.ref 143] M (fun v M' => v = some (.int (nI (fBomb F).1)) ∧ MF M' (fBomb F).2 ∧ MoS M M') := by
  refine mx_T.of1 (own := RX8) (ls := [some (.ref 143), none, none]) (by decide +kernel) rfl (Nat.le_of_ble_eq_true rfl) rfl rfl ?_
  refine mx_aload_n (pc' := 1) dX8_goBomb_0 rfl rfl ?_
  refine mx_getr (pc' := 4) dX8_goBomb_1 fl_X8_7 (rfl) (by rfl) rfl ?_
  refine mx_bipush (pc' := 6) (v := nI 16) dX8_goBomb_4 (by decide) rfl ?_
  refine mx_iald (pc' := 7) (v := nI (F.2.2.1 6)) dX8_goBomb_6 (rfl) (rfl) (by decide) (hF.st 1 (by decide)) rfl ?_
  refine mx_istore_n (pc' := 8) (ls' := [_, _, _]) dX8_goBomb_7 (by decide) (rfl) rfl rfl ?_
  refine mx_iconst (pc' := 9) (v := nI 0) dX8_goBomb_8 (by decide) rfl ?_
  refine mx_istore_n (pc' := 10) (ls' := [_, _, _]) dX8_goBomb_9 (by decide) (rfl) rfl rfl ?_
  exact l_X8_goBomb M F hF hV hb (F.2.1.length + 1) 0 M (by omega) (by omega) Out.rf (fun j y _ h => by omega)

set_option maxHeartbeats 1000000 in
set_option maxRecDepth 10000 in
theorem t_X8_canBomb (M : mx_M) (F : FS) (hF : MF M F) (hV : FV F) : mx_T yX8_canBomb cX8_canBomb 1 (some .boolean) 1 [.ref 143] M (fun v M' => v = some (.int (bI (F.2.2.1 4 = 0 ∧ 0 < F.2.2.1 2))) ∧ M' = M) := by
  have h4 := hV.2.2.2.1
  have h2 := hV.2.2.1
  refine mx_T.of1 (own := RX8) (ls := [some (.ref 143)]) (by decide +kernel) rfl (Nat.le_of_ble_eq_true rfl) rfl rfl ?_
  refine mx_aload_n (pc' := 1) dX8_canBomb_0 rfl rfl ?_
  refine mx_getr (pc' := 4) dX8_canBomb_1 fl_X8_7 (rfl) (by rfl) rfl ?_
  refine mx_bipush (pc' := 6) (v := nI 6) dX8_canBomb_4 (by decide) rfl ?_
  refine mx_iald (pc' := 7) (v := nI (F.2.2.1 4)) dX8_canBomb_6 (rfl) (rfl) (by decide) (hF.sc 4 (by decide)) rfl ?_
  refine mx_if_ne (tgt := 23) (pc' := 10) dX8_canBomb_7 (by decide) rfl (fun c7 => ?_) (fun c7 => ?_)
  · have c7 : ¬ F.2.2.1 4 = 0 := fun z => c7 (by rw [z]; rfl)
    refine mx_iconst (pc' := 24) (v := nI 0) dX8_canBomb_23 (by decide) rfl ?_
    refine mx_iret dX8_canBomb_24 (Or.inr ⟨rfl, by decide⟩) ?_
    first | exact ⟨bI_rt ⟨c7, c16⟩, rfl⟩ | exact ⟨bI_rf (fun z => c16 z.2), rfl⟩ | exact ⟨bI_rf (fun z => c7 z.1), rfl⟩
  · have c7 : F.2.2.1 4 = 0 := (nI_eq (a := F.2.2.1 4) (b := 0) (by omega) (by omega)).mp c7
    refine mx_aload_n (pc' := 11) dX8_canBomb_10 rfl rfl ?_
    refine mx_getr (pc' := 14) dX8_canBomb_11 fl_X8_7 (rfl) (by rfl) rfl ?_
    refine mx_iconst (pc' := 15) (v := nI 4) dX8_canBomb_14 (by decide) rfl ?_
    refine mx_iald (pc' := 16) (v := nI (F.2.2.1 2)) dX8_canBomb_15 (rfl) (rfl) (by decide) (hF.sc 2 (by decide)) rfl ?_
    refine mx_if_le (tgt := 23) (pc' := 19) dX8_canBomb_16 (by decide) rfl (fun c16 => ?_) (fun c16 => ?_)
    · have c16 : ¬ 0 < F.2.2.1 2 := fun z => nI_nle z (by omega) c16
      refine mx_iconst (pc' := 24) (v := nI 0) dX8_canBomb_23 (by decide) rfl ?_
      refine mx_iret dX8_canBomb_24 (Or.inr ⟨rfl, by decide⟩) ?_
      first | exact ⟨bI_rt ⟨c7, c16⟩, rfl⟩ | exact ⟨bI_rf (fun z => c16 z.2), rfl⟩ | exact ⟨bI_rf (fun z => c7 z.1), rfl⟩
    · have c16 : 0 < F.2.2.1 2 := Nat.pos_of_ne_zero (fun z => c16 (by rw [z]; decide))
      refine mx_iconst (pc' := 20) (v := nI 1) dX8_canBomb_19 (by decide) rfl ?_
      refine mx_goto (pc' := 24) dX8_canBomb_20 (by decide) ?_
      refine mx_iret dX8_canBomb_24 (Or.inr ⟨rfl, by decide⟩) ?_
      first | exact ⟨bI_rt ⟨c7, c16⟩, rfl⟩ | exact ⟨bI_rf (fun z => c16 z.2), rfl⟩ | exact ⟨bI_rf (fun z => c7 z.1), rfl⟩

