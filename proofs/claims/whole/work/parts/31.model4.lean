theorem va_up_same {f : Nat → Nat} {k v : Nat} (h : f k = v) : va_up f k v = f := by
  funext j
  unfold va_up
  split
  · rename_i e; rw [e, h]
  · rfl
theorem bI_b (b : Bool) : bI (b = true) = nI b.toNat := by cases b <;> decide
theorem hit_eq {p : Nat} {x : Bu} (hV : BuV x) : takenB p 0 x = atB 11 p x := by
  have := hV.1
  unfold takenB atB adf
  refine decide_eq_decide.mpr ⟨fun h => ?_, fun h => ?_⟩
  · obtain ⟨h1, h2⟩ := h
    split at h2 <;> omega
  · obtain ⟨h1, h2⟩ := h
    subst h2
    refine ⟨by omega, ?_⟩
    rw [if_pos (Nat.le_refl _)]; omega
theorem hitB_eq {F : FS} (h : BuL F.2.1) : F.2.1.filter (fun x => !atB 11 (F.2.2.1 0) x) = fHitB F := by
  unfold fHitB
  exact List.filter_congr fun x hx => by rw [hit_eq (h.2 x hx)]
theorem MF.eq {M : mx_M} {F G : FS} (h : MF M F) (e : F = G) : MF M G := e ▸ h
theorem MF.ubu {M : mx_M} {F : FS} (h : MF M F) {i : Nat} {x : Bu} (hx : F.2.1[i]? = some x) (hV : BuV (x.1, x.2.1, x.2.2.1, x.2.2.2.1, 1)) : MF (mx_up M 144 (33 + 5 * i + 4) (nI 1)) (F.1, F.2.1.set i (x.1, x.2.1, x.2.2.1, x.2.2.2.1, 1), F.2.2.1, F.2.2.2) := by
  have hl := len_lt hx
  have h4 := h.eL.1
  have hz : ∀ j, j ≠ 33 + 5 * i + 4 → mx_up M 144 (33 + 5 * i + 4) (nI 1) 144 j = M 144 j := fun j hj => by rw [mx_up_fn, upd_ne _ _ hj]
  refine MF.mk (F := (F.1, F.2.1.set i (x.1, x.2.1, x.2.2.1, x.2.2.2.1, 1), F.2.2.1, F.2.2.2)) ((hz 0 (by omega)).trans h.E) ((hz 1 (by omega)).trans (h.B.trans (congrArg nI (List.length_set ..).symm))) (fun j hj => (hz _ (by omega)).trans (h.sc j hj)) (fun j hj => (hz _ (by omega)).trans (h.ac j hj)) (fun j hj => (hz _ (by omega)).trans (h.st j hj)) h.eL ⟨by rw [List.length_set]; exact h.bL.1, fun y hy => ?_⟩ (fun k e he => (h.em he).fr fun j hj => hz _ (by have hk : k < F.1.length := len_lt he; omega)) (fun k y hy => ?_)
  · rcases List.mem_or_eq_of_mem_set hy with hy | rfl
    · exact h.bL.2 y hy
    · exact hV
  · have hy : (F.2.1.set i (x.1, x.2.1, x.2.2.1, x.2.2.2.1, 1))[k]? = some y := hy
    by_cases e : k = i
    · subst e
      rw [List.getElem?_set_self hl] at hy
      cases hy
      obtain ⟨w1, w2, w3, w4, w5⟩ := h.bu hx
      exact ⟨(hz _ (by omega)).trans w1, (hz _ (by omega)).trans w2, (hz _ (by omega)).trans w3, (hz _ (by omega)).trans w4, by rw [mx_up_fn, upd_eq]⟩
    · rw [List.getElem?_set_ne (Ne.symm e)] at hy
      exact (h.bu hy).fr fun j hj => hz _ (by omega)
theorem gz_1 : ∀ c, c < 10 → ∀ p, p < 10 → (((-1) ≤ nI c - nI p ∧ nI c - nI p ≤ nI 1) ↔ adf c p ≤ 1) := by decide +kernel
theorem gz_2 : ∀ c, c < 10 → ∀ p, p < 10 → (nI c - nI p = 0 ↔ adf c p = 0) := by decide +kernel
theorem bm_1 : ∀ c, c < 10 → ∀ p, p < 10 → ∀ r, r < 6 → ((-(nI r) ≤ nI c - nI p ∧ nI c - nI p ≤ nI r) ↔ adf c p ≤ r) := by decide +kernel
set_option maxHeartbeats 1000000 in
set_option maxRecDepth 10000 in
theorem t_X8_fires (M : mx_M) (F : FS) (hF : MF M F) (c d w : Nat) (hc : c < 10) (hd : d < 3) (hw : w < 2) : mx_T yX8_fires cX8_fires 5 none 2 [.ref 143, .int (nI c), .int (dr d), .int (nI w)] M (fun v M' => v = none ∧ MF M' (fShoot c d w F) ∧ MoS M M') := by
  have h60 := hF.bL.1
  refine mx_T.of1 (own := RX8) (ls := [some (.ref 143), some (.int (nI c)), some (.int (dr d)), some (.int (nI w)), none]) (by decide +kernel) rfl (Nat.le_of_ble_eq_true rfl) rfl rfl ?_
  refine mx_aload_n (pc' := 1) dX8_fires_0 rfl rfl ?_
  refine mx_getr (pc' := 4) dX8_fires_1 fl_X8_7 (rfl) (by rfl) rfl ?_
  refine mx_iconst (pc' := 5) (v := nI 1) dX8_fires_4 (by decide) rfl ?_
  refine mx_iald (pc' := 6) (v := nI F.2.1.length) dX8_fires_5 (rfl) (rfl) (by decide) (hF.B) rfl ?_
  refine mx_bipush (pc' := 8) (v := nI 60) dX8_fires_6 (by decide) rfl ?_
  refine mx_icmp_ne (tgt := 23) (pc' := 11) dX8_fires_8 (by decide) rfl (fun c8 => ?_) (fun c8 => ?_)
  · have c8 : ¬ _ := fun z => c8 ((nI_eq (by omega) (by omega)).mpr z)
    refine mx_aload_n (pc' := 24) dX8_fires_23 rfl rfl ?_
    refine mx_getr (pc' := 27) dX8_fires_24 fl_X8_7 (rfl) (by rfl) rfl ?_
    refine mx_iconst (pc' := 28) (v := nI 1) dX8_fires_27 (by decide) rfl ?_
    refine mx_iald (pc' := 29) (v := nI F.2.1.length) dX8_fires_28 (rfl) (rfl) (by decide) (hF.B) rfl ?_
    refine mx_istore (pc' := 31) (ls' := [_, _, _, _, _]) dX8_fires_29 (by decide) (rfl) rfl rfl ?_
    refine mx_aload_n (pc' := 32) dX8_fires_31 rfl rfl ?_
    refine mx_iload (pc' := 34) dX8_fires_32 rfl rfl ?_
    refine mx_iconst (pc' := 35) (v := nI 0) dX8_fires_34 (by decide) rfl ?_
    refine mx_iconst (pc' := 36) (v := nI 0) dX8_fires_35 (by decide) rfl ?_
    refine mx_callV (pc' := 39) dX8_fires_36 cl_X8_57 (rfl) (t_X8_lays _ F.2.1.length 0 (by omega) (by decide) _) rfl (by decide) rfl (Nat.le_of_ble_eq_true rfl) rfl (fun v N36 hv => ?_)
    obtain ⟨rfl, e36⟩ := hv
    refine mx_aload_n (pc' := 40) dX8_fires_39 rfl rfl ?_
    refine mx_iload (pc' := 42) dX8_fires_40 rfl rfl ?_
    refine mx_iconst (pc' := 43) (v := nI 1) dX8_fires_42 (by decide) rfl ?_
    refine mx_iload_n (pc' := 44) dX8_fires_43 rfl rfl ?_
    refine mx_callV (pc' := 47) dX8_fires_44 cl_X8_57 (rfl) (t_X8_lays _ F.2.1.length 1 (by omega) (by decide) _) rfl (by decide) rfl (Nat.le_of_ble_eq_true rfl) rfl (fun v N44 hv => ?_)
    obtain ⟨rfl, e44⟩ := hv
    refine mx_aload_n (pc' := 48) dX8_fires_47 rfl rfl ?_
    refine mx_iload (pc' := 50) dX8_fires_48 rfl rfl ?_
    refine mx_iconst (pc' := 51) (v := nI 2) dX8_fires_50 (by decide) rfl ?_
    refine mx_iconst (pc' := 52) (v := nI 1) dX8_fires_51 (by decide) rfl ?_
    refine mx_iload_n (pc' := 53) dX8_fires_52 rfl rfl ?_
    refine mx_iadd (pc' := 54) (v := nI d) dX8_fires_53 (dr_1 d) rfl ?_
    refine mx_callV (pc' := 57) dX8_fires_54 cl_X8_57 (rfl) (t_X8_lays _ F.2.1.length 2 (by omega) (by decide) _) rfl (by decide) rfl (Nat.le_of_ble_eq_true rfl) rfl (fun v N54 hv => ?_)
    obtain ⟨rfl, e54⟩ := hv
    refine mx_aload_n (pc' := 58) dX8_fires_57 rfl rfl ?_
    refine mx_iload (pc' := 60) dX8_fires_58 rfl rfl ?_
    refine mx_iconst (pc' := 61) (v := nI 3) dX8_fires_60 (by decide) rfl ?_
    refine mx_iload_n (pc' := 62) dX8_fires_61 rfl rfl ?_
    refine mx_callV (pc' := 65) dX8_fires_62 cl_X8_57 (rfl) (t_X8_lays _ F.2.1.length 3 (by omega) (by decide) _) rfl (by decide) rfl (Nat.le_of_ble_eq_true rfl) rfl (fun v N62 hv => ?_)
    obtain ⟨rfl, e62⟩ := hv
    refine mx_aload_n (pc' := 66) dX8_fires_65 rfl rfl ?_
    refine mx_iload (pc' := 68) dX8_fires_66 rfl rfl ?_
    refine mx_iconst (pc' := 69) (v := nI 4) dX8_fires_68 (by decide) rfl ?_
    refine mx_iconst (pc' := 70) (v := nI 0) dX8_fires_69 (by decide) rfl ?_
    refine mx_callV (pc' := 73) dX8_fires_70 cl_X8_57 (rfl) (t_X8_lays _ F.2.1.length 4 (by omega) (by decide) _) rfl (by decide) rfl (Nat.le_of_ble_eq_true rfl) rfl (fun v N70 hv => ?_)
    obtain ⟨rfl, e70⟩ := hv
    refine mx_aload_n (pc' := 74) dX8_fires_73 rfl rfl ?_
    refine mx_getr (pc' := 77) dX8_fires_74 fl_X8_7 (rfl) (by rfl) rfl ?_
    refine mx_iconst (pc' := 78) (v := nI 1) dX8_fires_77 (by decide) rfl ?_
    refine mx_dup2 (pc' := 79) dX8_fires_78 rfl rfl rfl ?_
    refine mx_iald (pc' := 80) (v := nI F.2.1.length) dX8_fires_79 (rfl) (rfl) (by decide) (((by rw [e70, mx_up_fn, upd_ne _ _ (by omega), e62, mx_up_fn, upd_ne _ _ (by omega), e54, mx_up_fn, upd_ne _ _ (by omega), e44, mx_up_fn, upd_ne _ _ (by omega), e36, mx_up_fn, upd_ne _ _ (by omega)]) : N70 144 1 = M 144 1).trans hF.B) rfl ?_
    refine mx_iconst (pc' := 81) (v := nI 1) dX8_fires_80 (by decide) rfl ?_
    refine mx_iadd (pc' := 82) (v := nI (F.2.1.length + 1)) dX8_fires_81 (nI_add _ 1) rfl ?_
    refine mx_iast (pc' := 83) dX8_fires_82 (rfl) (rfl) (by decide) rfl ?_
    refine mx_aload_n (pc' := 84) dX8_fires_83 rfl rfl ?_
    refine mx_getr (pc' := 87) dX8_fires_84 fl_X8_7 (rfl) (by rfl) rfl ?_
    refine mx_bipush (pc' := 89) (v := nI 7) dX8_fires_87 (by decide) rfl ?_
    refine mx_dup2 (pc' := 90) dX8_fires_89 rfl rfl rfl ?_
    refine mx_iald (pc' := 91) (v := F.2.2.2 0) dX8_fires_90 (rfl) (rfl) (by decide) ((show _ = N70 144 7 by rw [mx_up_fn, upd_ne _ _ (by decide)]).trans (((by rw [e70, mx_up_fn, upd_ne _ _ (by omega), e62, mx_up_fn, upd_ne _ _ (by omega), e54, mx_up_fn, upd_ne _ _ (by omega), e44, mx_up_fn, upd_ne _ _ (by omega), e36, mx_up_fn, upd_ne _ _ (by omega)]) : N70 144 7 = M 144 7).trans (hF.ac 0 (by decide)))) rfl ?_
    refine mx_iconst (pc' := 92) (v := nI 1) dX8_fires_91 (by decide) rfl ?_
    refine mx_iadd (pc' := 93) dX8_fires_92 (rfl) rfl ?_
    refine mx_iast (pc' := 94) dX8_fires_93 (rfl) (rfl) (by decide) rfl ?_
    refine mx_vret dX8_fires_94 rfl ?_
    have hz : ∀ x, x ≠ 1 → x ≠ 7 → (x < 33 + 5 * F.2.1.length ∨ 33 + 5 * F.2.1.length + 5 ≤ x) → mx_up (mx_up N70 144 1 (nI (F.2.1.length + 1))) 144 7 (F.2.2.2 0 + nI 1) 144 x = M 144 x := by
      intro x h1 h7 h
      rw [mx_up_fn, upd_ne _ _ h7, mx_up_fn, upd_ne _ _ h1, e70, mx_up_fn, upd_ne _ _ (by omega), e62, mx_up_fn, upd_ne _ _ (by omega), e54, mx_up_fn, upd_ne _ _ (by omega), e44, mx_up_fn, upd_ne _ _ (by omega), e36, mx_up_fn, upd_ne _ _ (by omega)]
    have hb : ∀ k, k < 5 → mx_up (mx_up N70 144 1 (nI (F.2.1.length + 1))) 144 7 (F.2.2.2 0 + nI 1) 144 (33 + 5 * F.2.1.length + k) = encW (0, c, d, w, 0) k := by
      intro k hk
      rw [mx_up_fn, upd_ne _ _ (by omega), mx_up_fn, upd_ne _ _ (by omega), e70, mx_up_fn, e62, mx_up_fn, e54, mx_up_fn, e44, mx_up_fn, e36, mx_up_fn]
      rcases (show k = 0 ∨ k = 1 ∨ k = 2 ∨ k = 3 ∨ k = 4 by omega) with rfl | rfl | rfl | rfl | rfl <;> simp [upd, encW]
    have hS : fShoot c d w F = (F.1, F.2.1 ++ [(0, c, d, w, 0)], F.2.2.1, upd F.2.2.2 0 (F.2.2.2 0 + nI 1)) := if_pos (by omega)
    rw [hS]
    have h4 := hF.eL.1
    refine ⟨rfl, MF.mk (F := (F.1, F.2.1 ++ [(0, c, d, w, 0)], F.2.2.1, upd F.2.2.2 0 (F.2.2.2 0 + nI 1))) ((hz 0 (by decide) (by decide) (by omega)).trans hF.E) (by rw [mx_up_fn, upd_ne _ _ (by decide), mx_up_fn, upd_eq, List.length_append]; rfl) (fun j hj => (hz _ (by omega) (by omega) (by omega)).trans (hF.sc j hj)) (fun j hj => ?_) (fun j hj => (hz _ (by omega) (by omega) (by omega)).trans (hF.st j hj)) hF.eL ⟨by rw [List.length_append]; show _ + 1 ≤ 60; omega, fun y hy => ?_⟩ (fun i e he => (hF.em he).fr fun j hj => hz _ (by omega) (by omega) (by have hl : i < F.1.length := len_lt he; omega)) (fun i y hy => ?_), ?_⟩
    · by_cases e : j = 0
      · subst e
        rw [mx_up_fn, upd_eq]; simp [upd]
      · rw [hz _ (by omega) (by omega) (by omega), hF.ac j hj]; simp [upd, e]
    · rcases List.mem_append.mp hy with hy | hy
      · exact hF.bL.2 y hy
      · rw [List.mem_singleton.mp hy]; exact ⟨Nat.zero_lt_succ _, hc, hd, hw, Nat.zero_lt_succ _⟩
    · have hy : (F.2.1 ++ [(0, c, d, w, 0)])[i]? = some y := hy
      have hl := len_lt hy
      rw [List.length_append, List.length_singleton] at hl
      by_cases hi : i < F.2.1.length
      · rw [List.getElem?_append_left hi] at hy
        exact (hF.bu hy).fr fun j hj => hz _ (by omega) (by omega) (by omega)
      · obtain rfl : i = F.2.1.length := by omega
        rw [List.getElem?_append_right (Nat.le_refl _), Nat.sub_self] at hy
        cases hy
        exact BuR.of hb
    · refine MoS.up (MoS.up ?_ (Or.inl rfl)) (Or.inl rfl)
      rw [e70, e62, e54, e44, e36]
      exact ((((MoS.rf.up (Or.inl rfl)).up (Or.inl rfl)).up (Or.inl rfl)).up (Or.inl rfl)).up (Or.inl rfl)
  · have c8 := (nI_eq (by omega) (by omega)).mp c8
    refine mx_aload_n (pc' := 12) dX8_fires_11 rfl rfl ?_
    refine mx_getr (pc' := 15) dX8_fires_12 fl_X8_7 (rfl) (by rfl) rfl ?_
    refine mx_bipush (pc' := 17) (v := nI 8) dX8_fires_15 (by decide) rfl ?_
    refine mx_dup2 (pc' := 18) dX8_fires_17 rfl rfl rfl ?_
    refine mx_iald (pc' := 19) (v := F.2.2.2 1) dX8_fires_18 (rfl) (rfl) (by decide) (hF.ac 1 (by decide)) rfl ?_
    refine mx_iconst (pc' := 20) (v := nI 1) dX8_fires_19 (by decide) rfl ?_
    refine mx_iadd (pc' := 21) dX8_fires_20 (rfl) rfl ?_
    refine mx_iast (pc' := 22) dX8_fires_21 (rfl) (rfl) (by decide) rfl ?_
    refine mx_vret dX8_fires_22 rfl ?_
    exact ⟨rfl, (hF.uac 1 (by decide) _).eq (show _ = fShoot c d w F from (if_neg (by omega)).symm), MoS.rf.up (Or.inl rfl)⟩

set_option maxHeartbeats 1000000 in
set_option maxRecDepth 10000 in
theorem t_X8_firesPattern (M : mx_M) (F : FS) (hF : MF M F) (hV : FV F) (c p : Nat) (hc : c < 10) (hp : p < 6) : mx_T yX8_firesPattern cX8_firesPattern 3 none 3 [.ref 143, .int (nI c), .int (nI p)] M (fun v M' => v = none ∧ MF M' (fFire c p F) ∧ MoS M M') := by
  have h0 := hV.1
  have hO9 : MoS M M := MoS.rf
  refine mx_T.of1 (own := RX8) (ls := [some (.ref 143), some (.int (nI c)), some (.int (nI p))]) (by decide +kernel) rfl (Nat.le_of_ble_eq_true rfl) rfl rfl ?_
  refine mx_iload_n (pc' := 1) dX8_firesPattern_0 rfl rfl ?_
  rcases (show p = 0 ∨ p = 1 ∨ p = 2 ∨ p = 3 ∨ p = 4 ∨ p = 5 by omega) with rfl | rfl | rfl | rfl | rfl | rfl
  · refine mx_tableIn (pc' := 36) dX8_firesPattern_1 (by decide) (by decide) (by rfl) (by decide) ?_
    refine mx_aload_n (pc' := 37) dX8_firesPattern_36 rfl rfl ?_
    refine mx_iload_n (pc' := 38) dX8_firesPattern_37 rfl rfl ?_
    refine mx_iconst (pc' := 39) (v := dr 1) dX8_firesPattern_38 (by decide) rfl ?_
    refine mx_iconst (pc' := 40) (v := nI 0) dX8_firesPattern_39 (by decide) rfl ?_
    refine mx_callV (pc' := 43) dX8_firesPattern_40 cl_X8_65 (rfl) (t_X8_fires M F hF c 1 0 hc (by first | decide | (split <;> first | decide | (split <;> decide))) (by decide)) rfl (by decide) rfl (Nat.le_of_ble_eq_true rfl) rfl (fun v N40 hv => ?_)
    obtain ⟨rfl, hF, hO⟩ := hv
    refine mx_goto (pc' := 135) dX8_firesPattern_43 (by decide) ?_
    refine mx_vret dX8_firesPattern_135 rfl ?_
    exact ⟨rfl, hF, hO⟩
  · refine mx_tableIn (pc' := 46) dX8_firesPattern_1 (by decide) (by decide) (by rfl) (by decide) ?_
    refine mx_aload_n (pc' := 47) dX8_firesPattern_46 rfl rfl ?_
    refine mx_iload_n (pc' := 48) dX8_firesPattern_47 rfl rfl ?_
    refine mx_iconst (pc' := 49) (v := dr 0) dX8_firesPattern_48 (by decide) rfl ?_
    refine mx_iconst (pc' := 50) (v := nI 0) dX8_firesPattern_49 (by decide) rfl ?_
    refine mx_callV (pc' := 53) dX8_firesPattern_50 cl_X8_65 (rfl) (t_X8_fires M F hF c 0 0 hc (by first | decide | (split <;> first | decide | (split <;> decide))) (by decide)) rfl (by decide) rfl (Nat.le_of_ble_eq_true rfl) rfl (fun v N50 hv => ?_)
    obtain ⟨rfl, hF, hO⟩ := hv
    refine mx_goto (pc' := 135) dX8_firesPattern_53 (by decide) ?_
    refine mx_vret dX8_firesPattern_135 rfl ?_
    exact ⟨rfl, hF, hO⟩
  · refine mx_tableIn (pc' := 56) dX8_firesPattern_1 (by decide) (by decide) (by rfl) (by decide) ?_
    refine mx_aload_n (pc' := 57) dX8_firesPattern_56 rfl rfl ?_
    refine mx_iload_n (pc' := 58) dX8_firesPattern_57 rfl rfl ?_
    refine mx_iconst (pc' := 59) (v := dr 2) dX8_firesPattern_58 (by decide) rfl ?_
    refine mx_iconst (pc' := 60) (v := nI 0) dX8_firesPattern_59 (by decide) rfl ?_
    refine mx_callV (pc' := 63) dX8_firesPattern_60 cl_X8_65 (rfl) (t_X8_fires M F hF c 2 0 hc (by first | decide | (split <;> first | decide | (split <;> decide))) (by decide)) rfl (by decide) rfl (Nat.le_of_ble_eq_true rfl) rfl (fun v N60 hv => ?_)
    obtain ⟨rfl, hF, hO⟩ := hv
    refine mx_goto (pc' := 135) dX8_firesPattern_63 (by decide) ?_
    refine mx_vret dX8_firesPattern_135 rfl ?_
    exact ⟨rfl, hF, hO⟩
  · refine mx_tableIn (pc' := 66) dX8_firesPattern_1 (by decide) (by decide) (by rfl) (by decide) ?_
    refine mx_aload_n (pc' := 67) dX8_firesPattern_66 rfl rfl ?_
    refine mx_iload_n (pc' := 68) dX8_firesPattern_67 rfl rfl ?_
    refine mx_iconst (pc' := 69) (v := dr 2) dX8_firesPattern_68 (by decide) rfl ?_
    refine mx_iconst (pc' := 70) (v := nI 1) dX8_firesPattern_69 (by decide) rfl ?_
    refine mx_callV (pc' := 73) dX8_firesPattern_70 cl_X8_65 (rfl) (t_X8_fires M F hF c 2 1 hc (by first | decide | (split <;> first | decide | (split <;> decide))) (by decide)) rfl (by decide) rfl (Nat.le_of_ble_eq_true rfl) rfl (fun v N70 hv => ?_)
    obtain ⟨rfl, hF, hO⟩ := hv
    refine mx_goto (pc' := 135) dX8_firesPattern_73 (by decide) ?_
    refine mx_vret dX8_firesPattern_135 rfl ?_
    exact ⟨rfl, hF, hO⟩
  · refine mx_tableIn (pc' := 76) dX8_firesPattern_1 (by decide) (by decide) (by rfl) (by decide) ?_
    refine mx_aload_n (pc' := 77) dX8_firesPattern_76 rfl rfl ?_
    refine mx_iload_n (pc' := 78) dX8_firesPattern_77 rfl rfl ?_
    refine mx_aload_n (pc' := 79) dX8_firesPattern_78 rfl rfl ?_
    refine mx_getr (pc' := 82) dX8_firesPattern_79 fl_X8_7 (rfl) (by rfl) rfl ?_
    refine mx_iconst (pc' := 83) (v := nI 2) dX8_firesPattern_82 (by decide) rfl ?_
    refine mx_iald (pc' := 84) (v := nI (F.2.2.1 0)) dX8_firesPattern_83 (rfl) (rfl) (by decide) (hF.sc 0 (by decide)) rfl ?_
    refine mx_iload_n (pc' := 85) dX8_firesPattern_84 rfl rfl ?_
    refine mx_icmp_ge (tgt := 92) (pc' := 88) dX8_firesPattern_85 (by decide) rfl (fun c85 => ?_) (fun c85 => ?_)
    · have c85 := (nI_leI (by omega) (by omega)).mp c85
      refine mx_aload_n (pc' := 93) dX8_firesPattern_92 rfl rfl ?_
      refine mx_getr (pc' := 96) dX8_firesPattern_93 fl_X8_7 (rfl) (by rfl) rfl ?_
      refine mx_iconst (pc' := 97) (v := nI 2) dX8_firesPattern_96 (by decide) rfl ?_
      refine mx_iald (pc' := 98) (v := nI (F.2.2.1 0)) dX8_firesPattern_97 (rfl) (rfl) (by decide) (hF.sc 0 (by decide)) rfl ?_
      refine mx_iload_n (pc' := 99) dX8_firesPattern_98 rfl rfl ?_
      refine mx_icmp_le (tgt := 106) (pc' := 102) dX8_firesPattern_99 (by decide) rfl (fun c99 => ?_) (fun c99 => ?_)
      · have c99 := (nI_leI (by omega) (by omega)).mp c99
        refine mx_iconst (pc' := 107) (v := dr (if F.2.2.1 0 < c then 0 else if F.2.2.1 0 = c then 1 else 2)) dX8_firesPattern_106 (by rw [if_neg (by omega), if_pos (by omega)]; decide) rfl ?_
        refine mx_iconst (pc' := 108) (v := nI 0) dX8_firesPattern_107 (by decide) rfl ?_
        refine mx_callV (pc' := 111) dX8_firesPattern_108 cl_X8_65 (rfl) (t_X8_fires M F hF c _ 0 hc (by first | decide | (split <;> first | decide | (split <;> decide))) (by decide)) rfl (by decide) rfl (Nat.le_of_ble_eq_true rfl) rfl (fun v N108 hv => ?_)
        obtain ⟨rfl, hF, hO⟩ := hv
        refine mx_goto (pc' := 135) dX8_firesPattern_111 (by decide) ?_
        refine mx_vret dX8_firesPattern_135 rfl ?_
        exact ⟨rfl, hF, hO⟩
      · have c99 := Nat.not_le.mp (fun z => c99 ((nI_leI (by omega) (by omega)).mpr z))
        refine mx_iconst (pc' := 103) (v := dr (if F.2.2.1 0 < c then 0 else if F.2.2.1 0 = c then 1 else 2)) dX8_firesPattern_102 (by rw [if_neg (by omega), if_neg (by omega)]; decide) rfl ?_
        refine mx_goto (pc' := 107) dX8_firesPattern_103 (by decide) ?_
        refine mx_iconst (pc' := 108) (v := nI 0) dX8_firesPattern_107 (by decide) rfl ?_
        refine mx_callV (pc' := 111) dX8_firesPattern_108 cl_X8_65 (rfl) (t_X8_fires M F hF c _ 0 hc (by first | decide | (split <;> first | decide | (split <;> decide))) (by decide)) rfl (by decide) rfl (Nat.le_of_ble_eq_true rfl) rfl (fun v N108 hv => ?_)
        obtain ⟨rfl, hF, hO⟩ := hv
        refine mx_goto (pc' := 135) dX8_firesPattern_111 (by decide) ?_
        refine mx_vret dX8_firesPattern_135 rfl ?_
        exact ⟨rfl, hF, hO⟩
    · have c85 := Nat.not_le.mp (fun z => c85 ((nI_leI (by omega) (by omega)).mpr z))
      refine mx_iconst (pc' := 89) (v := dr (if F.2.2.1 0 < c then 0 else if F.2.2.1 0 = c then 1 else 2)) dX8_firesPattern_88 (by rw [if_pos c85]; decide) rfl ?_
      refine mx_goto (pc' := 107) dX8_firesPattern_89 (by decide) ?_
      refine mx_iconst (pc' := 108) (v := nI 0) dX8_firesPattern_107 (by decide) rfl ?_
      refine mx_callV (pc' := 111) dX8_firesPattern_108 cl_X8_65 (rfl) (t_X8_fires M F hF c _ 0 hc (by first | decide | (split <;> first | decide | (split <;> decide))) (by decide)) rfl (by decide) rfl (Nat.le_of_ble_eq_true rfl) rfl (fun v N108 hv => ?_)
      obtain ⟨rfl, hF, hO⟩ := hv
      refine mx_goto (pc' := 135) dX8_firesPattern_111 (by decide) ?_
      refine mx_vret dX8_firesPattern_135 rfl ?_
      exact ⟨rfl, hF, hO⟩
  · refine mx_tableOut (pc' := 114) dX8_firesPattern_1 (Or.inr (by decide)) (by decide) ?_
    refine mx_aload_n (pc' := 115) dX8_firesPattern_114 rfl rfl ?_
    refine mx_iload_n (pc' := 116) dX8_firesPattern_115 rfl rfl ?_
    refine mx_iconst (pc' := 117) (v := dr 0) dX8_firesPattern_116 (by decide) rfl ?_
    refine mx_iconst (pc' := 118) (v := nI 0) dX8_firesPattern_117 (by decide) rfl ?_
    refine mx_callV (pc' := 121) dX8_firesPattern_118 cl_X8_65 (rfl) (t_X8_fires _ _ hF c 0 0 hc (by decide) (by decide)) rfl (by decide) rfl (Nat.le_of_ble_eq_true rfl) rfl (fun v N118 hv => ?_)
    obtain ⟨rfl, hF, hO⟩ := hv
    have hO9 := hO9.tr hO
    refine mx_aload_n (pc' := 122) dX8_firesPattern_121 rfl rfl ?_
    refine mx_iload_n (pc' := 123) dX8_firesPattern_122 rfl rfl ?_
    refine mx_iconst (pc' := 124) (v := dr 1) dX8_firesPattern_123 (by decide) rfl ?_
    refine mx_iconst (pc' := 125) (v := nI 0) dX8_firesPattern_124 (by decide) rfl ?_
    refine mx_callV (pc' := 128) dX8_firesPattern_125 cl_X8_65 (rfl) (t_X8_fires _ _ hF c 1 0 hc (by decide) (by decide)) rfl (by decide) rfl (Nat.le_of_ble_eq_true rfl) rfl (fun v N125 hv => ?_)
    obtain ⟨rfl, hF, hO⟩ := hv
    have hO9 := hO9.tr hO
    refine mx_aload_n (pc' := 129) dX8_firesPattern_128 rfl rfl ?_
    refine mx_iload_n (pc' := 130) dX8_firesPattern_129 rfl rfl ?_
    refine mx_iconst (pc' := 131) (v := dr 2) dX8_firesPattern_130 (by decide) rfl ?_
    refine mx_iconst (pc' := 132) (v := nI 0) dX8_firesPattern_131 (by decide) rfl ?_
    refine mx_callV (pc' := 135) dX8_firesPattern_132 cl_X8_65 (rfl) (t_X8_fires _ _ hF c 2 0 hc (by decide) (by decide)) rfl (by decide) rfl (Nat.le_of_ble_eq_true rfl) rfl (fun v N132 hv => ?_)
    obtain ⟨rfl, hF, hO⟩ := hv
    have hO9 := hO9.tr hO
    refine mx_vret dX8_firesPattern_135 rfl ?_
    exact ⟨rfl, hF, hO9⟩

set_option maxHeartbeats 1000000 in
set_option maxRecDepth 10000 in
theorem l_X8_moves (M : mx_M) (E : List Em) (t : Nat) (ht : t < 2147483648) (R : FS) : ∀ (k : Nat) (i : Nat) (M1 : mx_M) (H : FS), E.length < i + k → i ≤ E.length → H.1 = E → FV H → H.2.2.1 3 = t → MF M1 H → (E.drop i).foldl fStep1 H = R → MoS M M1 → mx_V cX8_moves RX8 2 none 5 16 [some (.ref 143), some (.int (nI i))] [] M1 (fun v M' => v = none ∧ MF M' R ∧ MoS M M') := by
  intro k
  induction k with
  | zero =>
    intro i M1 H hk hi hE hV hT hF hR hO
    exact absurd hk (by omega)
  | succ k ih =>
    intro i M1 H hk hi hE hV hT hF hR hO
    have h4 : E.length ≤ 4 := hE ▸ hF.eL.1
    refine mx_iload_n (pc' := 17) dX8_moves_16 rfl rfl ?_
    refine mx_aload_n (pc' := 18) dX8_moves_17 rfl rfl ?_
    refine mx_getr (pc' := 21) dX8_moves_18 fl_X8_7 (rfl) (by rfl) rfl ?_
    refine mx_iconst (pc' := 22) (v := nI 0) dX8_moves_21 (by decide) rfl ?_
    refine mx_iald (pc' := 23) (v := nI E.length) dX8_moves_22 (rfl) (rfl) (by decide) (hE ▸ hF.E) rfl ?_
    refine mx_icmp_ge (tgt := 70) (pc' := 26) dX8_moves_23 (by decide) rfl (fun c23 => ?_) (fun c23 => ?_)
    · have c23 := (nI_leI (by omega) (by omega)).mp c23
      refine mx_vret dX8_moves_70 rfl ?_
      rw [List.drop_eq_nil_of_le c23] at hR
      exact ⟨rfl, hF.eq hR, hO⟩
    · have c23 := Nat.not_le.mp (fun z => c23 ((nI_leI (by omega) (by omega)).mpr z))
      obtain ⟨x, hx⟩ := get_lt c23
      have hx2 : H.1[i]? = some x := hE ▸ hx
      have hW := hF.em hx2
      obtain ⟨v1, v2, v3, v4, v5⟩ := hF.eL.2 x (List.mem_of_getElem? hx2)
      have hm : t % x.2.2.1 < x.2.2.1 := Nat.mod_lt _ (by omega)
      refine mx_aload_n (pc' := 27) dX8_moves_26 rfl rfl ?_
      refine mx_getr (pc' := 30) dX8_moves_27 fl_X8_7 (rfl) (by rfl) rfl ?_
      refine mx_iconst (pc' := 31) (v := nI 5) dX8_moves_30 (by decide) rfl ?_
      refine mx_iald (pc' := 32) (v := nI t) dX8_moves_31 (rfl) (rfl) (by decide) ((hF.sc 3 (by decide)).trans (congrArg nI hT)) rfl ?_
      refine mx_aload_n (pc' := 33) dX8_moves_32 rfl rfl ?_
      refine mx_iload_n (pc' := 34) dX8_moves_33 rfl rfl ?_
      refine mx_iconst (pc' := 35) (v := nI 2) dX8_moves_34 (by decide) rfl ?_
      refine mx_callV (pc' := 38) dX8_moves_35 cl_X8_71 (rfl) (t_X8_ofEmitter M1 i 2 (by omega) (by decide)) rfl (by decide) rfl (Nat.le_of_ble_eq_true rfl) rfl (fun v N35 hv => ?_)
      obtain ⟨rfl, hv⟩ := hv
      rw [hv, show M1 144 (17 + 4 * i + 2) = nI x.2.2.1 from hW.2.2.1]
      refine mx_irem (pc' := 39) (v := nI (t % x.2.2.1)) dX8_moves_38 (nI_ne0 (by omega) (by omega)) (pk_rem ht (by omega) (by omega)) rfl ?_
      refine mx_aload_n (pc' := 40) dX8_moves_39 rfl rfl ?_
      refine mx_iload_n (pc' := 41) dX8_moves_40 rfl rfl ?_
      refine mx_iconst (pc' := 42) (v := nI 3) dX8_moves_41 (by decide) rfl ?_
      refine mx_callV (pc' := 45) dX8_moves_42 cl_X8_71 (rfl) (t_X8_ofEmitter M1 i 3 (by omega) (by decide)) rfl (by decide) rfl (Nat.le_of_ble_eq_true rfl) rfl (fun v N42 hv => ?_)
      obtain ⟨rfl, hv⟩ := hv
      rw [hv, show M1 144 (17 + 4 * i + 3) = nI x.2.2.2 from hW.2.2.2]
      refine mx_icmp_ne (tgt := 64) (pc' := 48) dX8_moves_45 (by decide) rfl (fun c45 => ?_) (fun c45 => ?_)
      · have c45 : ¬ _ := fun z => c45 ((nI_eq (by omega) (by omega)).mpr z)
        refine mx_iinc (pc' := 67) (ls' := [_, _]) (v := nI (i + 1)) dX8_moves_64 rfl (nI_add i 1) (by decide) (rfl) rfl rfl ?_
        refine mx_goto (pc' := 16) dX8_moves_67 (by decide) ?_
        rw [drop_cons hx, List.foldl_cons] at hR
        have h1 := fStep1_1 H x
        have e : fStep1 H x = H := if_neg (by rw [hT]; exact c45)
        rw [e] at hR
        refine ih (i + 1) M1 _ (by omega) (by omega) hE hV hT hF hR hO
      · have c45 := (nI_eq (by omega) (by omega)).mp c45
        refine mx_aload_n (pc' := 49) dX8_moves_48 rfl rfl ?_
        refine mx_aload_n (pc' := 50) dX8_moves_49 rfl rfl ?_
        refine mx_iload_n (pc' := 51) dX8_moves_50 rfl rfl ?_
        refine mx_iconst (pc' := 52) (v := nI 0) dX8_moves_51 (by decide) rfl ?_
        refine mx_callV (pc' := 55) dX8_moves_52 cl_X8_71 (rfl) (t_X8_ofEmitter M1 i 0 (by omega) (by decide)) rfl (by decide) rfl (Nat.le_of_ble_eq_true rfl) rfl (fun v N52 hv => ?_)
        obtain ⟨rfl, hv⟩ := hv
        rw [hv, show M1 144 (17 + 4 * i + 0) = nI x.1 from hW.1]
        refine mx_aload_n (pc' := 56) dX8_moves_55 rfl rfl ?_
        refine mx_iload_n (pc' := 57) dX8_moves_56 rfl rfl ?_
        refine mx_iconst (pc' := 58) (v := nI 1) dX8_moves_57 (by decide) rfl ?_
        refine mx_callV (pc' := 61) dX8_moves_58 cl_X8_71 (rfl) (t_X8_ofEmitter M1 i 1 (by omega) (by decide)) rfl (by decide) rfl (Nat.le_of_ble_eq_true rfl) rfl (fun v N58 hv => ?_)
        obtain ⟨rfl, hv⟩ := hv
        rw [hv, show M1 144 (17 + 4 * i + 1) = nI x.2.1 from hW.2.1]
        refine mx_callV (pc' := 64) dX8_moves_61 cl_X8_74 (rfl) (t_X8_firesPattern M1 H hF hV x.1 x.2.1 v1 v2) rfl (by decide) rfl (Nat.le_of_ble_eq_true rfl) rfl (fun v N61 hv => ?_)
        obtain ⟨rfl, hF2, hO2⟩ := hv
        refine mx_iinc (pc' := 67) (ls' := [_, _]) (v := nI (i + 1)) dX8_moves_64 rfl (nI_add i 1) (by decide) (rfl) rfl rfl ?_
        refine mx_goto (pc' := 16) dX8_moves_67 (by decide) ?_
        rw [drop_cons hx, List.foldl_cons] at hR
        have h1 := fStep1_1 H x
        have e : fStep1 H x = fFire x.1 x.2.1 H := if_pos (by rw [hT]; exact c45)
        rw [e] at hR h1
        refine ih (i + 1) N61 _ (by omega) (by omega) (h1.1.trans hE) (by unfold FV; rw [h1.2]; exact hV) (by rw [h1.2]; exact hT) hF2 hR (hO.tr hO2)

set_option maxHeartbeats 1000000 in
set_option maxRecDepth 10000 in
theorem t_X8_moves (M : mx_M) (F : FS) (hF : MF M F) (hV : FV F) (ht : F.2.2.1 3 + 1 < 2147483648) : mx_T yX8_moves cX8_moves 2 none 5 [.ref 143] M (fun v M' => v = none ∧ MF M' (fAdv F) ∧ MoS M M') := by
  refine mx_T.of1 (own := RX8) (ls := [some (.ref 143), none]) (by decide +kernel) rfl (Nat.le_of_ble_eq_true rfl) rfl rfl ?_
  refine mx_aload_n (pc' := 1) dX8_moves_0 rfl rfl ?_
  refine mx_getr (pc' := 4) dX8_moves_1 fl_X8_7 (rfl) (by rfl) rfl ?_
  refine mx_iconst (pc' := 5) (v := nI 5) dX8_moves_4 (by decide) rfl ?_
  refine mx_dup2 (pc' := 6) dX8_moves_5 rfl rfl rfl ?_
  refine mx_iald (pc' := 7) (v := nI (F.2.2.1 3)) dX8_moves_6 (rfl) (rfl) (by decide) (hF.sc 3 (by decide)) rfl ?_
  refine mx_iconst (pc' := 8) (v := nI 1) dX8_moves_7 (by decide) rfl ?_
  refine mx_iadd (pc' := 9) (v := nI (F.2.2.1 3 + 1)) dX8_moves_8 (nI_add _ 1) rfl ?_
  refine mx_iast (pc' := 10) dX8_moves_9 (rfl) (rfl) (by decide) rfl ?_
  have hF1 : MF _ (fTick F) := hF.usc 3 (by decide) (F.2.2.1 3 + 1)
  refine mx_aload_n (pc' := 11) dX8_moves_10 rfl rfl ?_
  refine mx_callV (pc' := 14) dX8_moves_11 cl_X8_68 (rfl) (t_X8_falls _ (fTick F) hF1 hV) rfl (by decide) rfl (Nat.le_of_ble_eq_true rfl) rfl (fun v N11 hv => ?_)
  obtain ⟨rfl, hF2, hO⟩ := hv
  refine mx_iconst (pc' := 15) (v := nI 0) dX8_moves_14 (by decide) rfl ?_
  refine mx_istore_n (pc' := 16) (ls' := [_, _]) dX8_moves_15 (by decide) (rfl) rfl rfl ?_
  exact l_X8_moves M F.1 (F.2.2.1 3 + 1) ht _ (F.1.length + 1) 0 N11 (fFalls (fTick F)) (by omega) (by omega) rfl hV rfl hF2 rfl ((MoS.rf.up (Or.inl rfl)).tr hO)

set_option maxHeartbeats 1000000 in
set_option maxRecDepth 10000 in
theorem l_X8_hits (M : mx_M) (F : FS) (hF : MF M F) (hV : FV F) (hdn : F.2.2.1 4 = 0) : ∀ (k : Nat) (i : Nat) (M1 : mx_M), F.2.1.length < i + k → i ≤ F.2.1.length → Out M M1 149 150 → (∀ (j : Nat) (y : Bu), F.2.1[j]? = some y → j < i → M1 149 j = nI (atB 11 (F.2.2.1 0) y).toNat) → mx_V cX8_hits RX8 2 (some .int) 4 2 [some (.ref 143), some (.int (nI i))] [] M1 (fun v M' => v = some (.int (nI (fHits F).1)) ∧ MF M' (fHits F).2 ∧ MoS M M') := by
  have h60 := hF.bL.1
  intro k
  induction k with
  | zero =>
    intro i M1 hk hi hO hlo
    exact absurd hk (by omega)
  | succ k ih =>
    intro i M1 hk hi hO hlo
    refine mx_iload_n (pc' := 3) dX8_hits_2 rfl rfl ?_
    refine mx_aload_n (pc' := 4) dX8_hits_3 rfl rfl ?_
    refine mx_getr (pc' := 7) dX8_hits_4 fl_X8_7 (rfl) (by rfl) rfl ?_
    refine mx_iconst (pc' := 8) (v := nI 1) dX8_hits_7 (by decide) rfl ?_
    refine mx_iald (pc' := 9) (v := nI F.2.1.length) dX8_hits_8 (rfl) (rfl) (by decide) (by rw [hO 144 (by omega)]; exact hF.B) rfl ?_
    refine mx_icmp_ge (tgt := 37) (pc' := 12) dX8_hits_9 (by decide) rfl (fun c9 => ?_) (fun c9 => ?_)
    · have c9 := (nI_leI (by omega) (by omega)).mp c9
      refine mx_aload_n (pc' := 38) dX8_hits_37 rfl rfl ?_
      refine mx_callV (pc' := 41) dX8_hits_38 cl_X8_61 (rfl) (t_X8_takesAway M1 (F.2.1.map (fun x => (atB 11 (F.2.2.1 0) x, encW x))) ⟨by rw [List.length_map, hO 144 (by omega)]; exact hF.B, by rw [List.length_map]; exact hF.bL.1, fun j q hq => by
    rw [List.getElem?_map, Option.map_eq_some_iff] at hq
    obtain ⟨y, hy, rfl⟩ := hq
    exact ⟨hlo j y hy (by have := len_lt hy; omega), fun w hw => by rw [hO 144 (by omega)]; exact (hF.bu hy).w w hw⟩⟩) rfl (by decide) rfl (Nat.le_of_ble_eq_true rfl) rfl (fun v N38 hv => ?_)
      obtain ⟨rfl, h1, hW, h3, hO3⟩ := hv
      have hK := kept_flt (atB 11 (F.2.2.1 0)) F.2.1
      rw [hitB_eq hF.bL] at hK
      have hF2 := hF.took (fun j h => by rw [hO 144 (by omega)]) hK ⟨Nat.le_trans (List.length_filter_le _ _) hF.bL.1, fun y hy => hF.bL.2 y (List.mem_filter.mp hy).1⟩ h1 hW h3
      rw [List.length_map, hK.1]
      have hO4 : MoS M N38 := fun q a b => by rw [hO3 q (by omega)]; exact hO q (by omega)
      have hl : F.2.1.length - (fHitB F).length < 2147483648 := by omega
      have hs1 := hV.2.1
      refine mx_istore_n (pc' := 42) (ls' := [_, _]) dX8_hits_41 (by decide) (rfl) rfl rfl ?_
      refine mx_iload_n (pc' := 43) dX8_hits_42 rfl rfl ?_
      refine mx_if_ne (tgt := 48) (pc' := 46) dX8_hits_43 (by decide) rfl (fun c43 => ?_) (fun c43 => ?_)
      · have c43 : ¬ F.2.1.length - (fHitB F).length = 0 := fun z => c43 (by rw [z]; rfl)
        refine mx_aload_n (pc' := 49) dX8_hits_48 rfl rfl ?_
        refine mx_getr (pc' := 52) dX8_hits_49 fl_X8_7 (rfl) (by rfl) rfl ?_
        refine mx_bipush (pc' := 54) (v := nI 10) dX8_hits_52 (by decide) rfl ?_
        refine mx_dup2 (pc' := 55) dX8_hits_54 rfl rfl rfl ?_
        refine mx_iald (pc' := 56) (v := F.2.2.2 3) dX8_hits_55 (rfl) (rfl) (by decide) (hF2.ac 3 (by decide)) rfl ?_
        refine mx_iload_n (pc' := 57) dX8_hits_56 rfl rfl ?_
        refine mx_iadd (pc' := 58) dX8_hits_57 (rfl) rfl ?_
        refine mx_iast (pc' := 59) dX8_hits_58 (rfl) (rfl) (by decide) rfl ?_
        have hF3 := hF2.uac 3 (by decide) (F.2.2.2 3 + nI (F.2.1.length - (fHitB F).length))
        refine mx_aload_n (pc' := 60) dX8_hits_59 rfl rfl ?_
        refine mx_getr (pc' := 63) dX8_hits_60 fl_X8_7 (rfl) (by rfl) rfl ?_
        refine mx_bipush (pc' := 65) (v := nI 14) dX8_hits_63 (by decide) rfl ?_
        refine mx_dup2 (pc' := 66) dX8_hits_65 rfl rfl rfl ?_
        refine mx_iald (pc' := 67) (v := F.2.2.2 7) dX8_hits_66 (rfl) (rfl) (by decide) (hF3.ac 7 (by decide)) rfl ?_
        refine mx_iconst (pc' := 68) (v := nI 1) dX8_hits_67 (by decide) rfl ?_
        refine mx_iadd (pc' := 69) dX8_hits_68 (rfl) rfl ?_
        refine mx_iast (pc' := 70) dX8_hits_69 (rfl) (rfl) (by decide) rfl ?_
        have hF4 := hF3.uac 7 (by decide) (F.2.2.2 7 + nI 1)
        refine mx_aload_n (pc' := 71) dX8_hits_70 rfl rfl ?_
        refine mx_getr (pc' := 74) dX8_hits_71 fl_X8_7 (rfl) (by rfl) rfl ?_
        refine mx_bipush (pc' := 76) (v := nI 6) dX8_hits_74 (by decide) rfl ?_
        refine mx_aload_n (pc' := 77) dX8_hits_76 rfl rfl ?_
        refine mx_getr (pc' := 80) dX8_hits_77 fl_X8_7 (rfl) (by rfl) rfl ?_
        refine mx_iconst (pc' := 81) (v := nI 3) dX8_hits_80 (by decide) rfl ?_
        refine mx_iald (pc' := 82) (v := nI (F.2.2.1 1)) dX8_hits_81 (rfl) (rfl) (by decide) (hF4.sc 1 (by decide)) rfl ?_
        refine mx_if_ne (tgt := 89) (pc' := 85) dX8_hits_82 (by decide) rfl (fun c82 => ?_) (fun c82 => ?_)
        · have c82 : ¬ F.2.2.1 1 = 0 := fun z => c82 (by rw [z]; rfl)
          refine mx_iconst (pc' := 90) (v := nI 0) dX8_hits_89 (by decide) rfl ?_
          refine mx_iast (pc' := 91) dX8_hits_90 (rfl) (rfl) (by decide) rfl ?_
          have hF5 := hF4.usc 4 (by decide) 0
          refine mx_aload_n (pc' := 92) dX8_hits_91 rfl rfl ?_
          refine mx_getr (pc' := 95) dX8_hits_92 fl_X8_7 (rfl) (by rfl) rfl ?_
          refine mx_iconst (pc' := 96) (v := nI 3) dX8_hits_95 (by decide) rfl ?_
          refine mx_dup2 (pc' := 97) dX8_hits_96 rfl rfl rfl ?_
          refine mx_iald (pc' := 98) (v := nI (F.2.2.1 1)) dX8_hits_97 (rfl) (rfl) (by decide) (hF5.sc 1 (by decide)) rfl ?_
          refine mx_aload_n (pc' := 99) dX8_hits_98 rfl rfl ?_
          refine mx_getr (pc' := 102) dX8_hits_99 fl_X8_7 (rfl) (by rfl) rfl ?_
          refine mx_iconst (pc' := 103) (v := nI 3) dX8_hits_102 (by decide) rfl ?_
          refine mx_iald (pc' := 104) (v := nI (F.2.2.1 1)) dX8_hits_103 (rfl) (rfl) (by decide) (hF5.sc 1 (by decide)) rfl ?_
          refine mx_if_ne (tgt := 111) (pc' := 107) dX8_hits_104 (by decide) rfl (fun c104 => ?_) (fun c104 => ?_)
          · refine mx_iconst (pc' := 112) (v := nI 1) dX8_hits_111 (by decide) rfl ?_
            refine mx_isub (pc' := 113) (v := nI (F.2.2.1 1 - 1)) dX8_hits_112 (pk_sub (b := 1) (by omega)) rfl ?_
            refine mx_iast (pc' := 114) dX8_hits_113 (rfl) (rfl) (by decide) rfl ?_
            have hF6 := hF5.usc 1 (by decide) (F.2.2.1 1 - 1)
            refine mx_iconst (pc' := 115) (v := nI 1) dX8_hits_114 (by decide) rfl ?_
            refine mx_aload_n (pc' := 116) dX8_hits_115 rfl rfl ?_
            refine mx_getr (pc' := 119) dX8_hits_116 fl_X8_7 (rfl) (by rfl) rfl ?_
            refine mx_bipush (pc' := 121) (v := nI 6) dX8_hits_119 (by decide) rfl ?_
            refine mx_iald (pc' := 122) (v := nI 0) dX8_hits_121 (rfl) (rfl) (by decide) (hF6.sc 4 (by decide)) rfl ?_
            refine mx_iadd (pc' := 123) (v := nI 1) dX8_hits_122 (by decide) rfl ?_
            refine mx_iret dX8_hits_123 (Or.inl rfl) ?_
            have hO5 : MoS M _ := (((hO4.up (p := 144) (i := 10) (v := F.2.2.2 3 + nI (F.2.1.length - (fHitB F).length)) (Or.inl rfl)).up (p := 144) (i := 14) (v := F.2.2.2 7 + nI 1) (Or.inl rfl)).up (p := 144) (i := 6) (v := nI 0) (Or.inl rfl)).up (p := 144) (i := 3) (v := nI (F.2.2.1 1 - 1)) (Or.inl rfl)
            have e : fHits F = (1, (F.1, fHitB F, va_up F.2.2.1 1 (F.2.2.1 1 - 1), upd (upd F.2.2.2 3 (F.2.2.2 3 + nI (F.2.1.length - (fHitB F).length))) 7 (F.2.2.2 7 + nI 1))) := (if_neg c43).trans (if_neg c82)
            rw [e]
            refine ⟨rfl, hF6.eq ?_, hO5⟩
            show (_, _, va_up (va_up F.2.2.1 4 0) 1 (F.2.2.1 1 - 1), _) = _
            rw [va_up_same hdn]
          · exact absurd ((nI_eq (a := F.2.2.1 1) (b := 0) (by omega) (by omega)).mp c104) c82
        · have c82 : F.2.2.1 1 = 0 := (nI_eq (a := F.2.2.1 1) (b := 0) (by omega) (by omega)).mp c82
          refine mx_iconst (pc' := 86) (v := nI 1) dX8_hits_85 (by decide) rfl ?_
          refine mx_goto (pc' := 90) dX8_hits_86 (by decide) ?_
          refine mx_iast (pc' := 91) dX8_hits_90 (rfl) (rfl) (by decide) rfl ?_
          have hF5 := hF4.usc 4 (by decide) 1
          refine mx_aload_n (pc' := 92) dX8_hits_91 rfl rfl ?_
          refine mx_getr (pc' := 95) dX8_hits_92 fl_X8_7 (rfl) (by rfl) rfl ?_
          refine mx_iconst (pc' := 96) (v := nI 3) dX8_hits_95 (by decide) rfl ?_
          refine mx_dup2 (pc' := 97) dX8_hits_96 rfl rfl rfl ?_
          refine mx_iald (pc' := 98) (v := nI (F.2.2.1 1)) dX8_hits_97 (rfl) (rfl) (by decide) (hF5.sc 1 (by decide)) rfl ?_
          refine mx_aload_n (pc' := 99) dX8_hits_98 rfl rfl ?_
          refine mx_getr (pc' := 102) dX8_hits_99 fl_X8_7 (rfl) (by rfl) rfl ?_
          refine mx_iconst (pc' := 103) (v := nI 3) dX8_hits_102 (by decide) rfl ?_
          refine mx_iald (pc' := 104) (v := nI (F.2.2.1 1)) dX8_hits_103 (rfl) (rfl) (by decide) (hF5.sc 1 (by decide)) rfl ?_
          refine mx_if_ne (tgt := 111) (pc' := 107) dX8_hits_104 (by decide) rfl (fun c104 => ?_) (fun c104 => ?_)
          · exact absurd (by rw [c82]; rfl) c104
          · refine mx_iconst (pc' := 108) (v := nI 0) dX8_hits_107 (by decide) rfl ?_
            refine mx_goto (pc' := 112) dX8_hits_108 (by decide) ?_
            refine mx_isub (pc' := 113) (v := nI (F.2.2.1 1 - 0)) dX8_hits_112 (pk_sub (Nat.zero_le _)) rfl ?_
            refine mx_iast (pc' := 114) dX8_hits_113 (rfl) (rfl) (by decide) rfl ?_
            have hF6 := hF5.usc 1 (by decide) (F.2.2.1 1 - 0)
            refine mx_iconst (pc' := 115) (v := nI 1) dX8_hits_114 (by decide) rfl ?_
            refine mx_aload_n (pc' := 116) dX8_hits_115 rfl rfl ?_
            refine mx_getr (pc' := 119) dX8_hits_116 fl_X8_7 (rfl) (by rfl) rfl ?_
            refine mx_bipush (pc' := 121) (v := nI 6) dX8_hits_119 (by decide) rfl ?_
            refine mx_iald (pc' := 122) (v := nI 1) dX8_hits_121 (rfl) (rfl) (by decide) (hF6.sc 4 (by decide)) rfl ?_
            refine mx_iadd (pc' := 123) (v := nI 2) dX8_hits_122 (by decide) rfl ?_
            refine mx_iret dX8_hits_123 (Or.inl rfl) ?_
            have hO5 : MoS M _ := (((hO4.up (p := 144) (i := 10) (v := F.2.2.2 3 + nI (F.2.1.length - (fHitB F).length)) (Or.inl rfl)).up (p := 144) (i := 14) (v := F.2.2.2 7 + nI 1) (Or.inl rfl)).up (p := 144) (i := 6) (v := nI 1) (Or.inl rfl)).up (p := 144) (i := 3) (v := nI (F.2.2.1 1 - 0)) (Or.inl rfl)
            have e : fHits F = (2, (F.1, fHitB F, va_up F.2.2.1 4 1, upd (upd F.2.2.2 3 (F.2.2.2 3 + nI (F.2.1.length - (fHitB F).length))) 7 (F.2.2.2 7 + nI 1))) := (if_neg c43).trans (if_pos c82)
            rw [e]
            refine ⟨rfl, hF6.eq ?_, hO5⟩
            show (_, _, va_up (va_up F.2.2.1 4 1) 1 (F.2.2.1 1 - 0), _) = _
            rw [va_up_same (f := va_up F.2.2.1 4 1) (k := 1) (v := F.2.2.1 1 - 0) (Nat.sub_zero _).symm]
      · have c43 : F.2.1.length - (fHitB F).length = 0 := (nI_eq (a := F.2.1.length - (fHitB F).length) (b := 0) hl (by omega)).mp c43
        refine mx_iconst (pc' := 47) (v := nI 0) dX8_hits_46 (by decide) rfl ?_
        refine mx_iret dX8_hits_47 (Or.inl rfl) ?_
        have e : fHits F = (0, (F.1, fHitB F, F.2.2.1, F.2.2.2)) := if_pos c43
        rw [e]
        exact ⟨rfl, hF2, hO4⟩
    · have c9 := Nat.not_le.mp (fun z => c9 ((nI_leI (by omega) (by omega)).mpr z))
      obtain ⟨x, hx⟩ := get_lt c9
      refine mx_aload_n (pc' := 13) dX8_hits_12 rfl rfl ?_
      refine mx_getr (pc' := 16) dX8_hits_13 fl_X8_25 (rfl) (by rfl) rfl ?_
      refine mx_iload_n (pc' := 17) dX8_hits_16 rfl rfl ?_
      refine mx_aload_n (pc' := 18) dX8_hits_17 rfl rfl ?_
      refine mx_iload_n (pc' := 19) dX8_hits_18 rfl rfl ?_
      refine mx_bipush (pc' := 21) (v := nI 11) dX8_hits_19 (by decide) rfl ?_
      refine mx_aload_n (pc' := 22) dX8_hits_21 rfl rfl ?_
      refine mx_getr (pc' := 25) dX8_hits_22 fl_X8_7 (rfl) (by rfl) rfl ?_
      refine mx_iconst (pc' := 26) (v := nI 2) dX8_hits_25 (by decide) rfl ?_
      refine mx_iald (pc' := 27) (v := nI (F.2.2.1 0)) dX8_hits_26 (rfl) (rfl) (by decide) (by rw [hO 144 (by omega)]; exact hF.sc 0 (by decide)) rfl ?_
      refine mx_callV (pc' := 30) dX8_hits_27 cl_X8_78 (rfl) (t_X8_isAt M1 i (by omega) x (by rw [hO 144 (by omega)]; exact hF.bu hx) (hF.bL.2 x (List.mem_of_getElem? hx)) 11 (F.2.2.1 0) (by decide) hV.1) rfl (by decide) rfl (Nat.le_of_ble_eq_true rfl) rfl (fun v N27 hv => ?_)
      obtain ⟨rfl, hv⟩ := hv
      rw [hv]
      refine mx_bast (pc' := 31) dX8_hits_30 (rfl) (rfl) (by omega) (bI_vb _) rfl ?_
      refine mx_iinc (pc' := 34) (ls' := [_, _]) (v := nI (i + 1)) dX8_hits_31 rfl (nI_add i 1) (by decide) (rfl) rfl rfl ?_
      refine mx_goto (pc' := 2) dX8_hits_34 (by decide) ?_
      refine ih (i + 1) _ (by omega) (by omega) (hO.up (by omega) (by omega)) (fun j y hy h => ?_)
      rw [mx_up_fn]
      by_cases e : j = i
      · subst e
        rw [hx] at hy
        cases hy
        rw [upd_eq, bI_b]
      · rw [upd_ne _ _ e]
        exact hlo j y hy (by omega)

set_option maxHeartbeats 1000000 in
set_option maxRecDepth 10000 in
theorem t_X8_hits (M : mx_M) (F : FS) (hF : MF M F) (hV : FV F) (hdn : F.2.2.1 4 = 0) : mx_T yX8_hits cX8_hits 2 (some .int) 4 [.ref 143] M (fun v M' => v = some (.int (nI (fHits F).1)) ∧ MF M' (fHits F).2 ∧ MoS M M') := by
  refine mx_T.of1 (own := RX8) (ls := [some (.ref 143), none]) (by decide +kernel) rfl (Nat.le_of_ble_eq_true rfl) rfl rfl ?_
  refine mx_iconst (pc' := 1) (v := nI 0) dX8_hits_0 (by decide) rfl ?_
  refine mx_istore_n (pc' := 2) (ls' := [_, _]) dX8_hits_1 (by decide) (rfl) rfl rfl ?_
  exact l_X8_hits M F hF hV hdn (F.2.1.length + 1) 0 M (by omega) (by omega) Out.rf (fun j y _ h => by omega)

