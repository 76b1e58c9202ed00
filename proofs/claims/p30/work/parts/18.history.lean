/-! history: 43 and its row 44, its Fields at 45, 59, 73, 87 in some order -/
def HB (p : Nat) : Prop := p = 45 ∨ p = 59 ∨ p = 73 ∨ p = 87
theorem HB.f {p : Nat} (h : HB p) : FB p := by unfold HB at h; unfold FB; omega
def HiP (M : mx_M) (P : Nat → Nat) : Prop := (∀ j, j < 4 → HB (P j)) ∧ (∀ i j, i < 4 → j < 4 → P i = P j → i = j) ∧ ∀ j, j < 4 → M 44 j = nI (P j)
def HiA (M : mx_M) (H : List FS) : Prop := ∃ P : Nat → Nat, HiP M P ∧ M 43 1 = nI H.length ∧ H.length ≤ 4 ∧ ∀ (j : Nat) (F : FS), H[j]? = some F → FiA M (P j) F ∧ FV F
theorem HiA.fr {M M' : mx_M} {H : List FS} (h : HiA M H) (hf : ∀ q, 43 ≤ q → q < 101 → M' q = M q) : HiA M' H := by
  obtain ⟨P, ⟨p1, p2, p3⟩, h1, h2, h3⟩ := h
  refine ⟨P, ⟨p1, p2, fun j hj => by rw [hf 44 (by omega) (by omega)]; exact p3 j hj⟩, by rw [hf 43 (by omega) (by omega)]; exact h1, h2, fun j F hF => ⟨(h3 j F hF).1.fr fun q z1 z2 => hf q ?_ ?_, (h3 j F hF).2⟩⟩
  · have := p1 j (by have := len_lt hF; omega)
    unfold HB at this; omega
  · have := p1 j (by have := len_lt hF; omega)
    unfold HB at this; omega
theorem nI_cl {x : Int32} {n : Nat} (h : x = nI n) (hn : n < 2147483648) : x.toNatClampNeg = n := by rw [h]; exact nI_clamp hn
def hPush (F : FS) (H : List FS) : List FS := (if H.length = 4 then H.drop 1 else H) ++ [F]
set_option maxHeartbeats 1000000 in
set_option maxRecDepth 10000 in
theorem t_X4_dropOldest (M : mx_M) (P : Nat → Nat) (hP : HiP M P) (H : List FS) (h4 : H.length = 4) (h3 : ∀ (j : Nat) (F : FS), H[j]? = some F → FiA M (P j) F ∧ FV F) : mx_T yX4_dropOldest cX4_dropOldest 3 none 1 [.ref 43] M (fun v M' => v = none ∧ HiA M' (H.drop 1) ∧ Out M M' 43 45) := by
  obtain ⟨p1, p2, p3⟩ := hP
  have q0 := p1 0 (by decide)
  have q1 := p1 1 (by decide)
  have q2 := p1 2 (by decide)
  have q3 := p1 3 (by decide)
  unfold HB at q0 q1 q2 q3
  refine mx_T.of1 (own := RX4) (ls := [some (.ref 43), none, none]) (by decide +kernel) rfl (Nat.le_of_ble_eq_true rfl) rfl rfl ?_
  refine mx_aload_n (pc' := 1) dX4_dropOldest_0 rfl rfl ?_
  refine mx_getr (pc' := 4) dX4_dropOldest_1 fl_X4_11 (rfl) (by rfl) rfl ?_
  refine mx_iconst (pc' := 5) (v := nI 0) dX4_dropOldest_4 (by decide) rfl ?_
  refine mx_aald2 (pc' := 6) (b := P 0) dX4_dropOldest_5 (rfl) (rfl) (by decide) (nI_cl (p3 0 (by decide)) (by omega)) rfl ?_
  refine mx_astore_n (pc' := 7) (ls' := [_, _, _]) dX4_dropOldest_6 (by decide) (rfl) rfl rfl ?_
  refine mx_iconst (pc' := 8) (v := nI 1) dX4_dropOldest_7 (by decide) rfl ?_
  refine mx_istore_n (pc' := 9) (ls' := [_, _, _]) dX4_dropOldest_8 (by decide) (rfl) rfl rfl ?_
  refine mx_iload_n (pc' := 10) dX4_dropOldest_9 rfl rfl ?_
  refine mx_iconst (pc' := 11) (v := nI 4) dX4_dropOldest_10 (by decide) rfl ?_
  refine mx_icmp_ge (tgt := 34) (pc' := 14) dX4_dropOldest_11 (by decide) rfl (fun c11 => ?_) (fun c11 => ?_)
  · exact absurd c11 (by decide)
  · refine mx_aload_n (pc' := 15) dX4_dropOldest_14 rfl rfl ?_
    refine mx_getr (pc' := 18) dX4_dropOldest_15 fl_X4_11 (rfl) (by rfl) rfl ?_
    refine mx_iload_n (pc' := 19) dX4_dropOldest_18 rfl rfl ?_
    refine mx_iconst (pc' := 20) (v := nI 1) dX4_dropOldest_19 (by decide) rfl ?_
    refine mx_isub (pc' := 21) (v := nI 0) dX4_dropOldest_20 (by decide) rfl ?_
    refine mx_aload_n (pc' := 22) dX4_dropOldest_21 rfl rfl ?_
    refine mx_getr (pc' := 25) dX4_dropOldest_22 fl_X4_11 (rfl) (by rfl) rfl ?_
    refine mx_iload_n (pc' := 26) dX4_dropOldest_25 rfl rfl ?_
    refine mx_aald2 (pc' := 27) (b := P 1) dX4_dropOldest_26 (rfl) (rfl) (by decide) (nI_cl (((by simp [mx_up]) : _ = M 44 1).trans (p3 1 (by decide))) (by omega)) rfl ?_
    refine mx_aast (pc' := 28) dX4_dropOldest_27 (rfl) (rfl) (by decide) ((p1 1 (by decide)).f.s.1) rfl ?_
    refine mx_iinc (pc' := 31) (ls' := [_, _, _]) (v := nI 2) dX4_dropOldest_28 rfl (by decide) (by decide) (rfl) rfl rfl ?_
    refine mx_goto (pc' := 9) dX4_dropOldest_31 (by decide) ?_
    refine mx_iload_n (pc' := 10) dX4_dropOldest_9 rfl rfl ?_
    refine mx_iconst (pc' := 11) (v := nI 4) dX4_dropOldest_10 (by decide) rfl ?_
    refine mx_icmp_ge (tgt := 34) (pc' := 14) dX4_dropOldest_11 (by decide) rfl (fun c11 => ?_) (fun c11 => ?_)
    · exact absurd c11 (by decide)
    · refine mx_aload_n (pc' := 15) dX4_dropOldest_14 rfl rfl ?_
      refine mx_getr (pc' := 18) dX4_dropOldest_15 fl_X4_11 (rfl) (by rfl) rfl ?_
      refine mx_iload_n (pc' := 19) dX4_dropOldest_18 rfl rfl ?_
      refine mx_iconst (pc' := 20) (v := nI 1) dX4_dropOldest_19 (by decide) rfl ?_
      refine mx_isub (pc' := 21) (v := nI 1) dX4_dropOldest_20 (by decide) rfl ?_
      refine mx_aload_n (pc' := 22) dX4_dropOldest_21 rfl rfl ?_
      refine mx_getr (pc' := 25) dX4_dropOldest_22 fl_X4_11 (rfl) (by rfl) rfl ?_
      refine mx_iload_n (pc' := 26) dX4_dropOldest_25 rfl rfl ?_
      refine mx_aald2 (pc' := 27) (b := P 2) dX4_dropOldest_26 (rfl) (rfl) (by decide) (nI_cl (((by simp [mx_up]) : _ = M 44 2).trans (p3 2 (by decide))) (by omega)) rfl ?_
      refine mx_aast (pc' := 28) dX4_dropOldest_27 (rfl) (rfl) (by decide) ((p1 2 (by decide)).f.s.1) rfl ?_
      refine mx_iinc (pc' := 31) (ls' := [_, _, _]) (v := nI 3) dX4_dropOldest_28 rfl (by decide) (by decide) (rfl) rfl rfl ?_
      refine mx_goto (pc' := 9) dX4_dropOldest_31 (by decide) ?_
      refine mx_iload_n (pc' := 10) dX4_dropOldest_9 rfl rfl ?_
      refine mx_iconst (pc' := 11) (v := nI 4) dX4_dropOldest_10 (by decide) rfl ?_
      refine mx_icmp_ge (tgt := 34) (pc' := 14) dX4_dropOldest_11 (by decide) rfl (fun c11 => ?_) (fun c11 => ?_)
      · exact absurd c11 (by decide)
      · refine mx_aload_n (pc' := 15) dX4_dropOldest_14 rfl rfl ?_
        refine mx_getr (pc' := 18) dX4_dropOldest_15 fl_X4_11 (rfl) (by rfl) rfl ?_
        refine mx_iload_n (pc' := 19) dX4_dropOldest_18 rfl rfl ?_
        refine mx_iconst (pc' := 20) (v := nI 1) dX4_dropOldest_19 (by decide) rfl ?_
        refine mx_isub (pc' := 21) (v := nI 2) dX4_dropOldest_20 (by decide) rfl ?_
        refine mx_aload_n (pc' := 22) dX4_dropOldest_21 rfl rfl ?_
        refine mx_getr (pc' := 25) dX4_dropOldest_22 fl_X4_11 (rfl) (by rfl) rfl ?_
        refine mx_iload_n (pc' := 26) dX4_dropOldest_25 rfl rfl ?_
        refine mx_aald2 (pc' := 27) (b := P 3) dX4_dropOldest_26 (rfl) (rfl) (by decide) (nI_cl (((by simp [mx_up]) : _ = M 44 3).trans (p3 3 (by decide))) (by omega)) rfl ?_
        refine mx_aast (pc' := 28) dX4_dropOldest_27 (rfl) (rfl) (by decide) ((p1 3 (by decide)).f.s.1) rfl ?_
        refine mx_iinc (pc' := 31) (ls' := [_, _, _]) (v := nI 4) dX4_dropOldest_28 rfl (by decide) (by decide) (rfl) rfl rfl ?_
        refine mx_goto (pc' := 9) dX4_dropOldest_31 (by decide) ?_
        refine mx_iload_n (pc' := 10) dX4_dropOldest_9 rfl rfl ?_
        refine mx_iconst (pc' := 11) (v := nI 4) dX4_dropOldest_10 (by decide) rfl ?_
        refine mx_icmp_ge (tgt := 34) (pc' := 14) dX4_dropOldest_11 (by decide) rfl (fun c11 => ?_) (fun c11 => ?_)
        · refine mx_aload_n (pc' := 35) dX4_dropOldest_34 rfl rfl ?_
          refine mx_getr (pc' := 38) dX4_dropOldest_35 fl_X4_11 (rfl) (by rfl) rfl ?_
          refine mx_iconst (pc' := 39) (v := nI 3) dX4_dropOldest_38 (by decide) rfl ?_
          refine mx_aload_n (pc' := 40) dX4_dropOldest_39 rfl rfl ?_
          refine mx_aast (pc' := 41) dX4_dropOldest_40 (rfl) (rfl) (by decide) ((p1 0 (by decide)).f.s.1) rfl ?_
          refine mx_aload_n (pc' := 42) dX4_dropOldest_41 rfl rfl ?_
          refine mx_iconst (pc' := 43) (v := nI 3) dX4_dropOldest_42 (by decide) rfl ?_
          refine mx_putf (pc' := 46) dX4_dropOldest_43 fl_X4_17 (rfl) (by rfl) (⟨rfl, rfl⟩) rfl ?_
          refine mx_vret dX4_dropOldest_46 rfl ?_
          refine ⟨rfl, ⟨fun j => if j = 3 then P 0 else P (j + 1), ⟨fun j hj => ?_, fun i j hi hj e => ?_, fun j hj => ?_⟩, by simp [mx_up, h4], by simp; omega, fun j F hF => ?_⟩, fun q hq => ?_⟩
          · by_cases h : j = 3
            · simp [h, p1]
            · simp [h]; exact p1 _ (by omega)
          · dsimp only at e
            by_cases h : i = 3 <;> by_cases h' : j = 3
            · omega
            · rw [if_pos h, if_neg h'] at e
              have := p2 0 (j + 1) (by omega) (by omega) e
              omega
            · rw [if_neg h, if_pos h'] at e
              have := p2 (i + 1) 0 (by omega) (by omega) e
              omega
            · rw [if_neg h, if_neg h'] at e
              have := p2 (i + 1) (j + 1) (by omega) (by omega) e
              omega
          · rcases (show j = 0 ∨ j = 1 ∨ j = 2 ∨ j = 3 by omega) with rfl | rfl | rfl | rfl <;> simp [mx_up]
          · rw [List.getElem?_drop, Nat.add_comm] at hF
            have hl := len_lt hF
            have hj : j < 3 := by omega
            have h2 := h3 (j + 1) F hF
            simp only [show j ≠ 3 by omega, if_false]
            have hB := p1 (j + 1) (by omega)
            refine ⟨h2.1.fr fun q z1 z2 => ?_, h2.2⟩
            unfold HB at hB
            repeat rw [mx_up_ne (by omega)]
          · repeat rw [mx_up_ne (by omega)]
        · exact absurd (by decide) c11

set_option maxHeartbeats 1000000 in
set_option maxRecDepth 10000 in
theorem t_X4_record (M : mx_M) (b : Nat) (hs : FB b) (hb : b < 43) (F : FS) (hF : FiA M b F) (hV : FV F) (H : List FS) (hA : HiA M H) : mx_T yX4_record cX4_record 2 none 4 [.ref 43, .ref b] M (fun v M' => v = none ∧ HiA M' (hPush F H) ∧ Out M M' 43 101) := by
  have hfb : b = 1 ∨ b = 15 ∨ b = 29 := by unfold FB at hs; omega
  have J12 : ∀ (N : mx_M) (K : List FS), K.length < 4 → HiA N K → FiA N b F → hPush F H = K ++ [F] → Out M N 43 101 → mx_V cX4_record RX4 2 none 4 12 [some (.ref 43), some (.ref b)] [] N (fun v M' => v = none ∧ HiA M' (hPush F H) ∧ Out M M' 43 101) := by
    intro N K hK hA hF hPu hO
    obtain ⟨P, ⟨p1, p2, p3⟩, h1, h2, h3⟩ := hA
    have hBP := p1 K.length hK
    have hne : P K.length ≠ b := by unfold HB at hBP; omega
    refine mx_aload_n (pc' := 13) dX4_record_12 rfl rfl ?_
    refine mx_getr (pc' := 16) dX4_record_13 fl_X4_11 (rfl) (by rfl) rfl ?_
    refine mx_aload_n (pc' := 17) dX4_record_16 rfl rfl ?_
    refine mx_getf (pc' := 20) (v := nI K.length) dX4_record_17 fl_X4_17 (rfl) (by rfl) (h1) rfl ?_
    refine mx_aald2 (pc' := 21) (b := P K.length) dX4_record_20 (rfl) (rfl) (by omega) (nI_cl (p3 K.length hK) (by unfold HB at hBP; omega)) rfl ?_
    refine mx_aload_n (pc' := 22) dX4_record_21 rfl rfl ?_
    refine mx_callV (pc' := 25) dX4_record_22 cl_X4_25 (hBP.f.s.1) (t_X3_copyFrom N (P K.length) b hBP.f hs hne F hF hV) rfl (by decide) rfl (Nat.le_of_ble_eq_true rfl) rfl (fun v N22 hv => ?_)
    obtain ⟨rfl, hF2, hO2⟩ := hv
    refine mx_aload_n (pc' := 26) dX4_record_25 rfl rfl ?_
    refine mx_dup (pc' := 27) dX4_record_26 rfl rfl ?_
    refine mx_getf (pc' := 30) (v := nI K.length) dX4_record_27 fl_X4_17 (rfl) (by rfl) (by rw [hO2 43 (by unfold HB at hBP; omega)]; exact h1) rfl ?_
    refine mx_iconst (pc' := 31) (v := nI 1) dX4_record_30 (by decide) rfl ?_
    refine mx_iadd (pc' := 32) (v := nI (K.length + 1)) dX4_record_31 (nI_add _ 1) rfl ?_
    refine mx_putf (pc' := 35) dX4_record_32 fl_X4_17 (rfl) (by rfl) (⟨rfl, rfl⟩) rfl ?_
    refine mx_vret dX4_record_35 rfl ?_
    rw [hPu]
    have hz : ∀ q, q ≠ 43 → mx_up N22 43 1 (nI (K.length + 1)) q = N22 q := fun q z => mx_up_ne z
    refine ⟨rfl, ⟨P, ⟨p1, p2, fun j hj => by rw [hz 44 (by omega), hO2 44 (by unfold HB at hBP; omega)]; exact p3 j hj⟩, by rw [mx_up_eq, List.length_append]; rfl, by rw [List.length_append]; exact hK, fun j G hG => ?_⟩, hO.tr (fun q hq => by rw [hz q (by omega)]; exact hO2 q (by unfold HB at hBP; omega))⟩
    by_cases hj : j < K.length
    · rw [List.getElem?_append_left hj] at hG
      have hB := p1 j (by omega)
      have hn : P j ≠ P K.length := fun e => by have := p2 j K.length (by omega) hK e; omega
      have hap := hB.f.apart hBP.f hn
      refine ⟨(h3 j G hG).1.fr fun q z1 z2 => ?_, (h3 j G hG).2⟩
      rw [hz q (by unfold HB at hB; omega)]
      exact hO2 q (by omega)
    · have hl := len_lt hG
      rw [List.length_append, List.length_singleton] at hl
      obtain rfl : j = K.length := by omega
      rw [List.getElem?_append_right (Nat.le_refl _), Nat.sub_self] at hG
      cases hG
      exact ⟨hF2.fr fun q z1 z2 => hz q (by unfold HB at hBP; omega), hV⟩
  refine mx_T.of1 (own := RX4) (ls := [some (.ref 43), some (.ref b)]) (by decide +kernel) rfl (Nat.le_of_ble_eq_true rfl) rfl rfl ?_
  refine mx_aload_n (pc' := 1) dX4_record_0 rfl rfl ?_
  refine mx_getf (pc' := 4) (v := nI H.length) dX4_record_1 fl_X4_17 (rfl) (by rfl) (hA.choose_spec.2.1) rfl ?_
  refine mx_iconst (pc' := 5) (v := nI 4) dX4_record_4 (by decide) rfl ?_
  refine mx_icmp_lt (tgt := 12) (pc' := 8) dX4_record_5 (by decide) rfl (fun c5 => ?_) (fun c5 => ?_)
  · have h4 := hA.choose_spec.2.2.1
    have c5 := (nI_ltI (by omega) (by omega)).mp c5
    exact J12 M H c5 hA hF (by unfold hPush; rw [if_neg (by omega)]) Out.rf
  · have h4 := hA.choose_spec.2.2.1
    have c5 := Nat.not_lt.mp (fun z => c5 ((nI_ltI (by omega) (by omega)).mpr z))
    obtain ⟨P, hP, h1, h2, h3⟩ := hA
    refine mx_aload_n (pc' := 9) dX4_record_8 rfl rfl ?_
    refine mx_callV (pc' := 12) dX4_record_9 cl_X4_22 (rfl) (t_X4_dropOldest M P hP H (by omega) h3) rfl (by decide) rfl (Nat.le_of_ble_eq_true rfl) rfl (fun v N9 hv => ?_)
    obtain ⟨rfl, hA2, hO⟩ := hv
    exact J12 N9 (H.drop 1) (by rw [List.length_drop]; omega) hA2 (hF.fr fun q z1 z2 => hO q (by omega)) (by unfold hPush; rw [if_pos (by omega)]) (hO.wd (by omega) (by omega))

set_option maxHeartbeats 1000000 in
set_option maxRecDepth 10000 in
theorem t_X4_takeBack (M : mx_M) (F G : FS) (H : List FS) (hA : HiA M (H ++ [G])) : mx_T yX4_takeBack cX4_takeBack 2 none 4 [.ref 43, .ref 1] M (fun v M' => v = none ∧ HiA M' H ∧ FiA M' 1 G ∧ FV G ∧ (∀ q, (q < 1 ∨ (15 ≤ q ∧ q ≠ 43)) → M' q = M q)) := by
  obtain ⟨P, ⟨p1, p2, p3⟩, h1, h2, h3⟩ := hA
  rw [List.length_append, List.length_singleton] at h1 h2
  have hBP := p1 H.length (by omega)
  have hG := h3 H.length G (by rw [List.getElem?_append_right (Nat.le_refl _), Nat.sub_self]; rfl)
  refine mx_T.of1 (own := RX4) (ls := [some (.ref 43), some (.ref 1)]) (by decide +kernel) rfl (Nat.le_of_ble_eq_true rfl) rfl rfl ?_
  refine mx_aload_n (pc' := 1) dX4_takeBack_0 rfl rfl ?_
  refine mx_getf (pc' := 4) (v := nI (H.length + 1)) dX4_takeBack_1 fl_X4_17 (rfl) (by rfl) (h1) rfl ?_
  refine mx_if_le (tgt := 30) (pc' := 7) dX4_takeBack_4 (by decide) rfl (fun c4 => ?_) (fun c4 => ?_)
  · exact absurd c4 (nI_nle (by omega) (by omega))
  · refine mx_aload_n (pc' := 8) dX4_takeBack_7 rfl rfl ?_
    refine mx_dup (pc' := 9) dX4_takeBack_8 rfl rfl ?_
    refine mx_getf (pc' := 12) (v := nI (H.length + 1)) dX4_takeBack_9 fl_X4_17 (rfl) (by rfl) (h1) rfl ?_
    refine mx_iconst (pc' := 13) (v := nI 1) dX4_takeBack_12 (by decide) rfl ?_
    refine mx_isub (pc' := 14) (v := nI H.length) dX4_takeBack_13 (pk_sub (b := 1) (by omega)) rfl ?_
    refine mx_putf (pc' := 17) dX4_takeBack_14 fl_X4_17 (rfl) (by rfl) (⟨rfl, rfl⟩) rfl ?_
    refine mx_aload_n (pc' := 18) dX4_takeBack_17 rfl rfl ?_
    refine mx_aload_n (pc' := 19) dX4_takeBack_18 rfl rfl ?_
    refine mx_getr (pc' := 22) dX4_takeBack_19 fl_X4_11 (rfl) (by rfl) rfl ?_
    refine mx_aload_n (pc' := 23) dX4_takeBack_22 rfl rfl ?_
    refine mx_getf (pc' := 26) (v := nI H.length) dX4_takeBack_23 fl_X4_17 (rfl) (by rfl) (mx_up_eq _ _ _ _) rfl ?_
    refine mx_aald2 (pc' := 27) (b := P H.length) dX4_takeBack_26 (rfl) (rfl) (by omega) (nI_cl (((by simp [mx_up]) : _ = M 44 H.length).trans (p3 H.length (by omega))) (by unfold HB at hBP; omega)) rfl ?_
    refine mx_callV (pc' := 30) dX4_takeBack_27 cl_X4_25 (rfl) (t_X3_copyFrom _ 1 (P H.length) (Or.inl rfl) hBP.f (by unfold HB at hBP; omega) G (hG.1.fr fun q z1 z2 => mx_up_ne (by unfold HB at hBP; omega)) hG.2) rfl (by decide) rfl (Nat.le_of_ble_eq_true rfl) rfl (fun v N27 hv => ?_)
    obtain ⟨rfl, hF2, hO2⟩ := hv
    refine mx_vret dX4_takeBack_30 rfl ?_
    refine ⟨rfl, ⟨P, ⟨p1, p2, fun j hj => by rw [hO2 44 (by omega), mx_up_ne (by omega)]; exact p3 j hj⟩, by rw [hO2 43 (by omega)]; exact mx_up_eq _ _ _ _, by omega, fun j K hK => ?_⟩, hF2, hG.2, fun q hq => by rw [hO2 q (by omega), mx_up_ne (by omega)]⟩
    have hl := len_lt hK
    have hB := p1 j (by omega)
    have := h3 j K (by rw [List.getElem?_append_left hl]; exact hK)
    refine ⟨this.1.fr fun q z1 z2 => ?_, this.2⟩
    unfold HB at hB
    rw [hO2 q (by omega), mx_up_ne (by omega)]

/-! the pad: 101 and its row 102 -/
def PaA (M : mx_M) (L : List Nat) : Prop := M 101 1 = nI L.length ∧ L.length ≤ 60 ∧ (∀ c ∈ L, c < 127) ∧ ∀ (j c : Nat), L[j]? = some c → M 102 j = nI c
theorem PaA.fr {M M' : mx_M} {L : List Nat} (h : PaA M L) (h1 : M' 101 = M 101) (h2 : M' 102 = M 102) : PaA M' L := ⟨by rw [h1]; exact h.1, h.2.1, h.2.2.1, fun j c hc => by rw [h2]; exact h.2.2.2 j c hc⟩
def sgnS (c : Nat) : Bool := decide (c = 108 ∨ c = 115 ∨ c = 114 ∨ c = 98)
/-- the first sign that is no step -/
def badS : List Nat → Nat
  | [] => 0
  | c :: L => if sgnS c then badS L + 1 else 0
theorem badS_le : ∀ L : List Nat, badS L ≤ L.length
  | [] => Nat.le_refl 0
  | c :: L => by
    unfold badS
    split
    · exact Nat.succ_le_succ (badS_le L)
    · exact Nat.zero_le _
def stF (L : List Nat) : Int32 := if badS L < L.length then nI (badS L) else if L.length = 0 then nI 0 else (-4)
set_option maxHeartbeats 1000000 in
set_option maxRecDepth 10000 in
theorem t_X6_isFull (M : mx_M) (L : List Nat) (hA : PaA M L) : mx_T yX6_isFull cX6_isFull 1 (some .boolean) 1 [.ref 101] M (fun v M' => v = some (.int (bI (L.length = 60))) ∧ M' = M) := by
  have h60 := hA.2.1
  refine mx_T.of1 (own := RX6) (ls := [some (.ref 101)]) (by decide +kernel) rfl (Nat.le_of_ble_eq_true rfl) rfl rfl ?_
  refine mx_aload_n (pc' := 1) dX6_isFull_0 rfl rfl ?_
  refine mx_getf (pc' := 4) (v := nI L.length) dX6_isFull_1 fl_X6_15 (rfl) (by rfl) (hA.1) rfl ?_
  refine mx_bipush (pc' := 6) (v := nI 60) dX6_isFull_4 (by decide) rfl ?_
  refine mx_icmp_lt (tgt := 13) (pc' := 9) dX6_isFull_6 (by decide) rfl (fun c6 => ?_) (fun c6 => ?_)
  · refine mx_iconst (pc' := 14) (v := nI 0) dX6_isFull_13 (by decide) rfl ?_
    refine mx_iret dX6_isFull_14 (Or.inr ⟨rfl, by decide⟩) ?_
    first | exact ⟨bI_rt (by (simp (disch := omega) only [Int32.lt_iff_toInt_lt, Int32.le_iff_toInt_le, ← Int32.toInt_inj, ne_eq, nI_t, z_t, m1_t] at * <;> omega)), rfl⟩ | exact ⟨bI_rf (by (simp (disch := omega) only [Int32.lt_iff_toInt_lt, Int32.le_iff_toInt_le, ← Int32.toInt_inj, ne_eq, nI_t, z_t, m1_t] at * <;> omega)), rfl⟩
  · refine mx_iconst (pc' := 10) (v := nI 1) dX6_isFull_9 (by decide) rfl ?_
    refine mx_goto (pc' := 14) dX6_isFull_10 (by decide) ?_
    refine mx_iret dX6_isFull_14 (Or.inr ⟨rfl, by decide⟩) ?_
    first | exact ⟨bI_rt (by (simp (disch := omega) only [Int32.lt_iff_toInt_lt, Int32.le_iff_toInt_le, ← Int32.toInt_inj, ne_eq, nI_t, z_t, m1_t] at * <;> omega)), rfl⟩ | exact ⟨bI_rf (by (simp (disch := omega) only [Int32.lt_iff_toInt_lt, Int32.le_iff_toInt_le, ← Int32.toInt_inj, ne_eq, nI_t, z_t, m1_t] at * <;> omega)), rfl⟩

set_option maxHeartbeats 1000000 in
set_option maxRecDepth 10000 in
theorem t_X6_add (M : mx_M) (L : List Nat) (hA : PaA M L) (hl : L.length < 60) (c : Nat) (hc : c < 127) : mx_T yX6_add cX6_add 2 none 2 [.ref 101, .int (nI c)] M (fun v M' => v = none ∧ PaA M' (L ++ [c]) ∧ Out M M' 101 103) := by
  refine mx_T.of1 (own := RX6) (ls := [some (.ref 101), some (.int (nI c))]) (by decide +kernel) rfl (Nat.le_of_ble_eq_true rfl) rfl rfl ?_
  refine mx_aload_n (pc' := 1) dX6_add_0 rfl rfl ?_
  refine mx_callV (pc' := 4) dX6_add_1 cl_X6_19 (rfl) (t_X6_isFull M L hA) rfl (by decide) rfl (Nat.le_of_ble_eq_true rfl) rfl (fun v N1 hv => ?_)
  obtain ⟨rfl, hv⟩ := hv
  rw [hv]
  refine mx_if_ne (tgt := 27) (pc' := 7) dX6_add_4 (by decide) rfl (fun c4 => ?_) (fun c4 => ?_)
  · exact absurd (bI_n.mp c4) (by omega)
  · refine mx_aload_n (pc' := 8) dX6_add_7 rfl rfl ?_
    refine mx_getr (pc' := 11) dX6_add_8 fl_X6_9 (rfl) (by rfl) rfl ?_
    refine mx_aload_n (pc' := 12) dX6_add_11 rfl rfl ?_
    refine mx_getf (pc' := 15) (v := nI L.length) dX6_add_12 fl_X6_15 (rfl) (by rfl) (hA.1) rfl ?_
    refine mx_iload_n (pc' := 16) dX6_add_15 rfl rfl ?_
    refine mx_iast (pc' := 17) dX6_add_16 (rfl) (rfl) (by omega) rfl ?_
    refine mx_aload_n (pc' := 18) dX6_add_17 rfl rfl ?_
    refine mx_dup (pc' := 19) dX6_add_18 rfl rfl ?_
    refine mx_getf (pc' := 22) (v := nI L.length) dX6_add_19 fl_X6_15 (rfl) (by rfl) (((by simp [mx_up]) : _ = M 101 1).trans hA.1) rfl ?_
    refine mx_iconst (pc' := 23) (v := nI 1) dX6_add_22 (by decide) rfl ?_
    refine mx_iadd (pc' := 24) (v := nI (L.length + 1)) dX6_add_23 (nI_add _ 1) rfl ?_
    refine mx_putf (pc' := 27) dX6_add_24 fl_X6_15 (rfl) (by rfl) (⟨rfl, rfl⟩) rfl ?_
    refine mx_vret dX6_add_27 rfl ?_
    refine ⟨rfl, ⟨by simp [mx_up], by simp; omega, fun x hx => ?_, fun j x hx => ?_⟩, (by repeat (first | exact Out.rf | assumption | refine Out.up ?_ (by omega) (by omega)))⟩
    · rcases List.mem_append.mp hx with hx | hx
      · exact hA.2.2.1 x hx
      · rw [List.mem_singleton.mp hx]; exact hc
    · by_cases hj : j < L.length
      · rw [List.getElem?_append_left hj] at hx
        have := hA.2.2.2 j x hx
        simp [mx_up, show j ≠ L.length by omega, this]
      · have hl2 := len_lt hx
        rw [List.length_append, List.length_singleton] at hl2
        obtain rfl : j = L.length := by omega
        rw [List.getElem?_append_right (Nat.le_refl _), Nat.sub_self] at hx
        cases hx
        simp [mx_up]

set_option maxHeartbeats 1000000 in
set_option maxRecDepth 10000 in
theorem t_X6_isStepSign (M : mx_M) (c : Nat) (hc : c < 127) : mx_T yX6_isStepSign cX6_isStepSign 1 (some .boolean) 1 [.int (nI c)] M (fun v M' => v = some (.int (bI (sgnS c = true))) ∧ M' = M) := by
  refine mx_T.of1 (own := RX6) (ls := [some (.int (nI c))]) (by decide +kernel) rfl (Nat.le_of_ble_eq_true rfl) rfl rfl ?_
  refine mx_iload_n (pc' := 1) dX6_isStepSign_0 rfl rfl ?_
  refine mx_bipush (pc' := 3) (v := nI 108) dX6_isStepSign_1 (by decide) rfl ?_
  refine mx_icmp_eq (tgt := 24) (pc' := 6) dX6_isStepSign_3 (by decide) rfl (fun c3 => ?_) (fun c3 => ?_)
  · have c3 := (nI_eq (by omega) (by omega)).mp c3
    refine mx_iconst (pc' := 25) (v := nI 1) dX6_isStepSign_24 (by decide) rfl ?_
    refine mx_goto (pc' := 29) dX6_isStepSign_25 (by decide) ?_
    refine mx_iret dX6_isStepSign_29 (Or.inr ⟨rfl, by decide⟩) ?_
    first | exact ⟨bI_rt (decide_eq_true (by omega)), rfl⟩ | exact ⟨bI_rf (fun z => by have z := of_decide_eq_true z; omega), rfl⟩
  · have c3 : ¬ _ := fun z => c3 ((nI_eq (by omega) (by omega)).mpr z)
    refine mx_iload_n (pc' := 7) dX6_isStepSign_6 rfl rfl ?_
    refine mx_bipush (pc' := 9) (v := nI 115) dX6_isStepSign_7 (by decide) rfl ?_
    refine mx_icmp_eq (tgt := 24) (pc' := 12) dX6_isStepSign_9 (by decide) rfl (fun c9 => ?_) (fun c9 => ?_)
    · have c9 := (nI_eq (by omega) (by omega)).mp c9
      refine mx_iconst (pc' := 25) (v := nI 1) dX6_isStepSign_24 (by decide) rfl ?_
      refine mx_goto (pc' := 29) dX6_isStepSign_25 (by decide) ?_
      refine mx_iret dX6_isStepSign_29 (Or.inr ⟨rfl, by decide⟩) ?_
      first | exact ⟨bI_rt (decide_eq_true (by omega)), rfl⟩ | exact ⟨bI_rf (fun z => by have z := of_decide_eq_true z; omega), rfl⟩
    · have c9 : ¬ _ := fun z => c9 ((nI_eq (by omega) (by omega)).mpr z)
      refine mx_iload_n (pc' := 13) dX6_isStepSign_12 rfl rfl ?_
      refine mx_bipush (pc' := 15) (v := nI 114) dX6_isStepSign_13 (by decide) rfl ?_
      refine mx_icmp_eq (tgt := 24) (pc' := 18) dX6_isStepSign_15 (by decide) rfl (fun c15 => ?_) (fun c15 => ?_)
      · have c15 := (nI_eq (by omega) (by omega)).mp c15
        refine mx_iconst (pc' := 25) (v := nI 1) dX6_isStepSign_24 (by decide) rfl ?_
        refine mx_goto (pc' := 29) dX6_isStepSign_25 (by decide) ?_
        refine mx_iret dX6_isStepSign_29 (Or.inr ⟨rfl, by decide⟩) ?_
        first | exact ⟨bI_rt (decide_eq_true (by omega)), rfl⟩ | exact ⟨bI_rf (fun z => by have z := of_decide_eq_true z; omega), rfl⟩
      · have c15 : ¬ _ := fun z => c15 ((nI_eq (by omega) (by omega)).mpr z)
        refine mx_iload_n (pc' := 19) dX6_isStepSign_18 rfl rfl ?_
        refine mx_bipush (pc' := 21) (v := nI 98) dX6_isStepSign_19 (by decide) rfl ?_
        refine mx_icmp_ne (tgt := 28) (pc' := 24) dX6_isStepSign_21 (by decide) rfl (fun c21 => ?_) (fun c21 => ?_)
        · have c21 : ¬ _ := fun z => c21 ((nI_eq (by omega) (by omega)).mpr z)
          refine mx_iconst (pc' := 29) (v := nI 0) dX6_isStepSign_28 (by decide) rfl ?_
          refine mx_iret dX6_isStepSign_29 (Or.inr ⟨rfl, by decide⟩) ?_
          first | exact ⟨bI_rt (decide_eq_true (by omega)), rfl⟩ | exact ⟨bI_rf (fun z => by have z := of_decide_eq_true z; omega), rfl⟩
        · have c21 := (nI_eq (by omega) (by omega)).mp c21
          refine mx_iconst (pc' := 25) (v := nI 1) dX6_isStepSign_24 (by decide) rfl ?_
          refine mx_goto (pc' := 29) dX6_isStepSign_25 (by decide) ?_
          refine mx_iret dX6_isStepSign_29 (Or.inr ⟨rfl, by decide⟩) ?_
          first | exact ⟨bI_rt (decide_eq_true (by omega)), rfl⟩ | exact ⟨bI_rf (fun z => by have z := of_decide_eq_true z; omega), rfl⟩

set_option maxHeartbeats 1000000 in
set_option maxRecDepth 10000 in
theorem l_X6_faultInSteps (M : mx_M) (L : List Nat) (hA : PaA M L) : ∀ (k : Nat) (i : Nat), L.length < i + k → i ≤ L.length → badS L = i + badS (L.drop i) → mx_V cX6_faultInSteps RX6 2 (some .int) 2 2 [some (.ref 101), some (.int (nI i))] [] M (fun v M' => v = some (.int (stF L)) ∧ M' = M) := by
  have h60 := hA.2.1
  intro k
  induction k with
  | zero =>
    intro i hk hi hb
    exact absurd hk (by omega)
  | succ k ih =>
    intro i hk hi hb
    refine mx_iload_n (pc' := 3) dX6_faultInSteps_2 rfl rfl ?_
    refine mx_aload_n (pc' := 4) dX6_faultInSteps_3 rfl rfl ?_
    refine mx_getf (pc' := 7) (v := nI L.length) dX6_faultInSteps_4 fl_X6_15 (rfl) (by rfl) (hA.1) rfl ?_
    refine mx_icmp_ge (tgt := 30) (pc' := 10) dX6_faultInSteps_7 (by decide) rfl (fun c7 => ?_) (fun c7 => ?_)
    · have c7 := (nI_leI (by omega) (by omega)).mp c7
      have hb2 : badS L = L.length := by rw [hb, List.drop_eq_nil_of_le c7]; show i + 0 = _; omega
      refine mx_aload_n (pc' := 31) dX6_faultInSteps_30 rfl rfl ?_
      refine mx_getf (pc' := 34) (v := nI L.length) dX6_faultInSteps_31 fl_X6_15 (rfl) (by rfl) (hA.1) rfl ?_
      refine mx_if_ne (tgt := 41) (pc' := 37) dX6_faultInSteps_34 (by decide) rfl (fun c34 => ?_) (fun c34 => ?_)
      · have c34 : ¬ L.length = 0 := fun z => c34 (by rw [z]; rfl)
        refine mx_bipush (pc' := 43) (v := (-4)) dX6_faultInSteps_41 (by decide) rfl ?_
        refine mx_iret dX6_faultInSteps_43 (Or.inl rfl) ?_
        refine ⟨?_, rfl⟩
        unfold stF
        rw [hb2, if_neg (Nat.lt_irrefl _), if_neg c34]
      · have c34 : L.length = 0 := (nI_eq (a := L.length) (b := 0) (by omega) (by omega)).mp c34
        refine mx_iconst (pc' := 38) (v := nI 0) dX6_faultInSteps_37 (by decide) rfl ?_
        refine mx_goto (pc' := 43) dX6_faultInSteps_38 (by decide) ?_
        refine mx_iret dX6_faultInSteps_43 (Or.inl rfl) ?_
        refine ⟨?_, rfl⟩
        unfold stF
        rw [hb2, if_neg (Nat.lt_irrefl _), if_pos c34]
    · have c7 := Nat.not_le.mp (fun z => c7 ((nI_leI (by omega) (by omega)).mpr z))
      obtain ⟨c, hx⟩ := get_lt c7
      refine mx_aload_n (pc' := 11) dX6_faultInSteps_10 rfl rfl ?_
      refine mx_getr (pc' := 14) dX6_faultInSteps_11 fl_X6_9 (rfl) (by rfl) rfl ?_
      refine mx_iload_n (pc' := 15) dX6_faultInSteps_14 rfl rfl ?_
      refine mx_iald (pc' := 16) (v := nI c) dX6_faultInSteps_15 (rfl) (rfl) (by omega) (hA.2.2.2 i c hx) rfl ?_
      refine mx_callS (pc' := 19) dX6_faultInSteps_16 cl_X6_23 (t_X6_isStepSign M c (hA.2.2.1 c (List.mem_of_getElem? hx))) rfl (by decide) rfl (Nat.le_of_ble_eq_true rfl) rfl (fun v N16 hv => ?_)
      obtain ⟨rfl, hv⟩ := hv
      rw [hv]
      refine mx_if_ne (tgt := 24) (pc' := 22) dX6_faultInSteps_19 (by decide) rfl (fun c19 => ?_) (fun c19 => ?_)
      · have c19 := bI_n.mp c19
        refine mx_iinc (pc' := 27) (ls' := [_, _]) (v := nI (i + 1)) dX6_faultInSteps_24 rfl (nI_add i 1) (by decide) (rfl) rfl rfl ?_
        refine mx_goto (pc' := 2) dX6_faultInSteps_27 (by decide) ?_
        refine ih (i + 1) (by omega) (by omega) ?_
        rw [hb, drop_cons hx]
        have : badS (c :: L.drop (i + 1)) = badS (L.drop (i + 1)) + 1 := if_pos c19
        omega
      · have c19 := bI_0.mp c19
        refine mx_iload_n (pc' := 23) dX6_faultInSteps_22 rfl rfl ?_
        refine mx_iret dX6_faultInSteps_23 (Or.inl rfl) ?_
        have e : badS L = i := by
          rw [hb, drop_cons hx]
          have : badS (c :: L.drop (i + 1)) = 0 := if_neg c19
          omega
        refine ⟨?_, rfl⟩
        unfold stF
        rw [e, if_pos c7]

set_option maxHeartbeats 1000000 in
set_option maxRecDepth 10000 in
theorem t_X6_faultInSteps (M : mx_M) (L : List Nat) (hA : PaA M L) : mx_T yX6_faultInSteps cX6_faultInSteps 2 (some .int) 2 [.ref 101] M (fun v M' => v = some (.int (stF L)) ∧ M' = M) := by
  refine mx_T.of1 (own := RX6) (ls := [some (.ref 101), none]) (by decide +kernel) rfl (Nat.le_of_ble_eq_true rfl) rfl rfl ?_
  refine mx_iconst (pc' := 1) (v := nI 0) dX6_faultInSteps_0 (by decide) rfl ?_
  refine mx_istore_n (pc' := 2) (ls' := [_, _]) dX6_faultInSteps_1 (by decide) (rfl) rfl rfl ?_
  exact l_X6_faultInSteps M L hA (L.length + 1) 0 (by omega) (by omega) (by rw [List.drop_zero, Nat.zero_add])

