/-! taking away the marked ones: (marked, its words) -/
abbrev Rb : Type := Bool × (Nat → Int32)
def keptR (L : List Rb) : List Rb := L.filter (fun q => !q.1)
theorem keptR_le (L : List Rb) : (keptR L).length ≤ L.length := List.length_filter_le _ _
theorem keptR_s {L : List Rb} {i : Nat} {q : Rb} (h : L[i]? = some q) : keptR (L.take (i + 1)) = keptR (L.take i) ++ (if q.1 = true then [] else [q]) := by
  unfold keptR
  rw [take_snoc h, List.filter_append]
  congr 1
  cases hq : q.1 <;> simp [hq]
def RbA (M : mx_M) (L : List Rb) : Prop := M 144 1 = nI L.length ∧ L.length ≤ 60 ∧ ∀ (i : Nat) (q : Rb), L[i]? = some q → M 149 i = nI q.1.toNat ∧ ∀ w, w < 5 → M 144 (33 + 5 * i + w) = q.2 w
def WoA (M : mx_M) (o : Nat) (L : List Rb) : Prop := ∀ (i : Nat) (q : Rb), L[i]? = some q → o ≤ i → ∀ w, w < 5 → M 144 (33 + 5 * i + w) = q.2 w
theorem mx_V.mono {cc : ByteArray} {own : String} {nL : Nat} {ret : Option FieldType} {d d' pc : Nat} {ls : List (Option Value)} {st : List Value} {M : mx_M} {Q : Option Value → mx_M → Prop} (h : mx_V cc own nL ret d pc ls st M Q) (hd : d ≤ d') : mx_V cc own nL ret d' pc ls st M Q := by
  intro p l e R s m args below meth c D ad cy A H0 cells slots Z hx hb hml hown hts hS hR hD hE H locs lsA hP hSS hL
  exact h p l e R s m args below meth c D ad cy A H0 cells slots Z hx hb hml hown hts hS ⟨by omega, by omega, hR.2.2⟩ hD hE H locs lsA hP hSS hL
set_option maxHeartbeats 1000000 in
set_option maxRecDepth 10000 in
theorem l_X8_takesAway_z (M N0 : mx_M) (L : List Rb) (hL : L.length ≤ 60) (hO0 : Out M N0 144 145) (h1 : N0 144 1 = nI (keptR L).length) (hW : WoA N0 0 (keptR L)) (hj : ∀ j, j < 33 → j ≠ 1 → N0 144 j = M 144 j) : ∀ (k : Nat) (j : Nat) (N : mx_M) (z : Option Value), mx_c1 [z] = true → 333 < j + k → j ≤ 333 → 33 + 5 * (keptR L).length ≤ j → Out N0 N 144 145 → (∀ x, x < 33 + 5 * (keptR L).length → N 144 x = N0 144 x) → mx_V cX8_takesAway RX8 5 (some .int) 2 91 [some (.ref 143), some (.int (nI (keptR L).length)), some (.int (nI L.length)), some (.int (nI j)), z] [] N (fun v M' => v = some (.int (nI (L.length - (keptR L).length))) ∧ M' 144 1 = nI (keptR L).length ∧ WoA M' 0 (keptR L) ∧ (∀ j, j < 33 → j ≠ 1 → M' 144 j = M 144 j) ∧ Out M M' 144 145) := by
  have hkl := keptR_le L
  intro k
  induction k with
  | zero =>
    intro j N z hz hk hi hi2 hO hx
    exact absurd hk (by omega)
  | succ k ih =>
    intro j N z hz hk hi hi2 hO hx
    refine mx_iload_n (pc' := 92) dX8_takesAway_91 rfl rfl ?_
    refine mx_sipush (pc' := 95) (v := nI 333) dX8_takesAway_92 (by decide) rfl ?_
    refine mx_icmp_ge (tgt := 111) (pc' := 98) dX8_takesAway_95 (by decide) rfl (fun c95 => ?_) (fun c95 => ?_)
    · have c95 := (nI_leI (by omega) (by omega)).mp c95
      refine mx_iload_n (pc' := 112) dX8_takesAway_111 rfl rfl ?_
      refine mx_iload_n (pc' := 113) dX8_takesAway_112 rfl rfl ?_
      refine mx_isub (pc' := 114) (v := nI (L.length - (keptR L).length)) dX8_takesAway_113 (pk_sub (keptR_le L)) rfl ?_
      refine mx_iret dX8_takesAway_114 (Or.inl rfl) ?_
      exact ⟨rfl, (hx 1 (by omega)).trans h1, fun i q hq _ w hw => by have := len_lt hq; rw [hx _ (by omega)]; exact hW i q hq (Nat.zero_le _) w hw, fun j hj1 hj2 => by rw [hx j (by omega)]; exact hj j hj1 hj2, hO0.tr hO⟩
    · have c95 := Nat.not_le.mp (fun z => c95 ((nI_leI (by omega) (by omega)).mpr z))
      refine mx_aload_n (pc' := 99) dX8_takesAway_98 rfl rfl ?_
      refine mx_getr (pc' := 102) dX8_takesAway_99 fl_X8_7 (rfl) (by rfl) rfl ?_
      refine mx_iload_n (pc' := 103) dX8_takesAway_102 rfl rfl ?_
      refine mx_iconst (pc' := 104) (v := nI 0) dX8_takesAway_103 (by decide) rfl ?_
      refine mx_iast (pc' := 105) dX8_takesAway_104 (rfl) (rfl) (by omega) rfl ?_
      refine mx_iinc (pc' := 108) (ls' := [_, _, _, _, _]) (v := nI (j + 1)) dX8_takesAway_105 rfl (nI_add j 1) (by decide) (by simpa [mx_c1, Value.category] using hz) rfl rfl ?_
      refine mx_goto (pc' := 91) dX8_takesAway_108 (by decide) ?_
      refine ih (j + 1) _ z hz (by omega) (by omega) (by omega) (hO.up (by omega) (by omega)) (fun x h => ?_)
      rw [mx_up_fn, upd_ne _ _ (by omega)]
      exact hx x h

set_option maxHeartbeats 1000000 in
set_option maxRecDepth 10000 in
theorem l_X8_takesAway_c (M1 : mx_M) (left n i : Nat) (hle : left ≤ i) (hi60 : i < 60) (hg : M1 149 i = nI 0) (Q : Option Value → mx_M → Prop) (Kont : ∀ (N : mx_M) (z : Option Value), mx_c1 [z] = true → Out M1 N 144 145 → (∀ j, N 144 j = if 33 + 5 * left ≤ j ∧ j < 33 + 5 * left + 5 then M1 144 (33 + 5 * i + (j - (33 + 5 * left))) else M1 144 j) → mx_V cX8_takesAway RX8 5 (some .int) 3 54 [some (.ref 143), some (.int (nI left)), some (.int (nI n)), some (.int (nI i)), z] [] N Q) : ∀ (k : Nat) (c : Nat) (N : mx_M), 5 < c + k → c ≤ 5 → Out M1 N 144 145 → (∀ j, N 144 j = if 33 + 5 * left ≤ j ∧ j < 33 + 5 * left + c then M1 144 (33 + 5 * i + (j - (33 + 5 * left))) else M1 144 j) → mx_V cX8_takesAway RX8 5 (some .int) 3 19 [some (.ref 143), some (.int (nI left)), some (.int (nI n)), some (.int (nI i)), some (.int (nI c))] [] N Q := by
  intro k
  induction k with
  | zero =>
    intro c N hk hi hO hj
    exact absurd hk (by omega)
  | succ k ih =>
    intro c N hk hi hO hj
    refine mx_iload (pc' := 21) dX8_takesAway_19 rfl rfl ?_
    refine mx_iconst (pc' := 22) (v := nI 5) dX8_takesAway_21 (by decide) rfl ?_
    refine mx_icmp_ge (tgt := 54) (pc' := 25) dX8_takesAway_22 (by decide) rfl (fun c22 => ?_) (fun c22 => ?_)
    · have c22 := (nI_leI (by omega) (by omega)).mp c22
      obtain rfl : c = 5 := by omega
      exact Kont N _ rfl hO hj
    · have c22 := Nat.not_le.mp (fun z => c22 ((nI_leI (by omega) (by omega)).mpr z))
      refine mx_aload_n (pc' := 26) dX8_takesAway_25 rfl rfl ?_
      refine mx_getr (pc' := 29) dX8_takesAway_26 fl_X8_25 (rfl) (by rfl) rfl ?_
      refine mx_iload_n (pc' := 30) dX8_takesAway_29 rfl rfl ?_
      refine mx_bald (pc' := 31) (v := nI 0) dX8_takesAway_30 (rfl) (rfl) (by omega) (by rw [hO 149 (by omega)]; exact hg) rfl ?_
      refine mx_if_ne (tgt := 54) (pc' := 34) dX8_takesAway_31 (by decide) rfl (fun c31 => ?_) (fun c31 => ?_)
      · exact absurd rfl c31
      · refine mx_aload_n (pc' := 35) dX8_takesAway_34 rfl rfl ?_
        refine mx_iload_n (pc' := 36) dX8_takesAway_35 rfl rfl ?_
        refine mx_iload (pc' := 38) dX8_takesAway_36 rfl rfl ?_
        refine mx_aload_n (pc' := 39) dX8_takesAway_38 rfl rfl ?_
        refine mx_iload_n (pc' := 40) dX8_takesAway_39 rfl rfl ?_
        refine mx_iload (pc' := 42) dX8_takesAway_40 rfl rfl ?_
        refine mx_callV (pc' := 45) dX8_takesAway_42 cl_X8_53 (rfl) (t_X8_of N i c hi60 (by omega)) rfl (by decide) rfl (Nat.le_of_ble_eq_true rfl) rfl (fun v N42 hv => ?_)
        obtain ⟨rfl, hv⟩ := hv
        rw [hv, hj (33 + 5 * i + c), if_neg (by omega)]
        refine mx_callV (pc' := 48) dX8_takesAway_45 cl_X8_57 (rfl) (t_X8_lays N left c (by omega) (by omega) _) rfl (by decide) rfl (Nat.le_of_ble_eq_true rfl) rfl (fun v N45 hv => ?_)
        obtain ⟨rfl, hv⟩ := hv
        rw [hv]
        refine mx_iinc (pc' := 51) (ls' := [_, _, _, _, _]) (v := nI (c + 1)) dX8_takesAway_48 rfl (nI_add c 1) (by decide) (rfl) rfl rfl ?_
        refine mx_goto (pc' := 19) dX8_takesAway_51 (by decide) ?_
        refine ih (c + 1) _ (by omega) (by omega) (hO.up (by omega) (by omega)) (fun j => ?_)
        rw [mx_up_fn]
        by_cases e : j = 33 + 5 * left + c
        · subst e
          rw [upd_eq, if_pos (by omega), show 33 + 5 * left + c - (33 + 5 * left) = c by omega]
        · rw [upd_ne _ _ e, hj j]
          by_cases h : 33 + 5 * left ≤ j ∧ j < 33 + 5 * left + c
          · rw [if_pos h, if_pos (show 33 + 5 * left ≤ j ∧ j < 33 + 5 * left + (c + 1) by omega)]
          · rw [if_neg h, if_neg (show ¬ (33 + 5 * left ≤ j ∧ j < 33 + 5 * left + (c + 1)) by omega)]

set_option maxHeartbeats 1000000 in
set_option maxRecDepth 10000 in
theorem l_X8_takesAway (M : mx_M) (L : List Rb) (hA : RbA M L) : ∀ (k : Nat) (i : Nat) (M1 : mx_M) (z : Option Value), mx_c1 [z] = true → L.length < i + k → i ≤ L.length → Out M M1 144 145 → (keptR (L.take i)).length ≤ i → WoA M1 0 (keptR (L.take i)) → WoA M1 i L → (∀ j, j < 33 → M1 144 j = M 144 j) → mx_V cX8_takesAway RX8 5 (some .int) 3 11 [some (.ref 143), some (.int (nI (keptR (L.take i)).length)), some (.int (nI L.length)), some (.int (nI i)), z] [] M1 (fun v M' => v = some (.int (nI (L.length - (keptR L).length))) ∧ M' 144 1 = nI (keptR L).length ∧ WoA M' 0 (keptR L) ∧ (∀ j, j < 33 → j ≠ 1 → M' 144 j = M 144 j) ∧ Out M M' 144 145) := by
  have h60 := hA.2.1
  intro k
  induction k with
  | zero =>
    intro i M1 z hz hk hi hO hle hW1 hW2 hj
    exact absurd hk (by omega)
  | succ k ih =>
    intro i M1 z hz hk hi hO hle hW1 hW2 hj
    refine mx_iload_n (pc' := 12) dX8_takesAway_11 rfl rfl ?_
    refine mx_iload_n (pc' := 13) dX8_takesAway_12 rfl rfl ?_
    refine mx_icmp_ge (tgt := 77) (pc' := 16) dX8_takesAway_13 (by decide) rfl (fun c13 => ?_) (fun c13 => ?_)
    · have c13 := (nI_leI (by omega) (by omega)).mp c13
      rw [take_len c13] at hW1 hle ⊢
      refine mx_aload_n (pc' := 78) dX8_takesAway_77 rfl rfl ?_
      refine mx_getr (pc' := 81) dX8_takesAway_78 fl_X8_7 (rfl) (by rfl) rfl ?_
      refine mx_iconst (pc' := 82) (v := nI 1) dX8_takesAway_81 (by decide) rfl ?_
      refine mx_iload_n (pc' := 83) dX8_takesAway_82 rfl rfl ?_
      refine mx_iast (pc' := 84) dX8_takesAway_83 (rfl) (rfl) (by decide) rfl ?_
      refine mx_bipush (pc' := 86) (v := nI 33) dX8_takesAway_84 (by decide) rfl ?_
      refine mx_iconst (pc' := 87) (v := nI 5) dX8_takesAway_86 (by decide) rfl ?_
      refine mx_iload_n (pc' := 88) dX8_takesAway_87 rfl rfl ?_
      refine mx_imul (pc' := 89) (v := nI (5 * (keptR L).length)) dX8_takesAway_88 (pk_mul 5 _) rfl ?_
      refine mx_iadd (pc' := 90) (v := nI (33 + 5 * (keptR L).length)) dX8_takesAway_89 (nI_add 33 _) rfl ?_
      refine mx_istore_n (pc' := 91) (ls' := [_, _, _, _, _]) dX8_takesAway_90 (by decide) (by simpa [mx_c1, Value.category] using hz) rfl rfl ?_
      refine (l_X8_takesAway_z M _ L hA.2.1 (hO.up (by omega) (by omega)) (by rw [mx_up_fn, upd_eq]) (fun j r hr h0 w hw => by rw [mx_up_fn, upd_ne _ _ (by omega)]; exact hW1 j r hr h0 w hw) (fun j h1 h2 => by rw [mx_up_fn, upd_ne _ _ h2]; exact hj j h1) 334 (33 + 5 * (keptR L).length) _ z hz (by omega) (by have := hA.2.1; omega) (Nat.le_refl _) Out.rf (fun _ _ => rfl)).mono (by decide)
    · have c13 := Nat.not_le.mp (fun z => c13 ((nI_leI (by omega) (by omega)).mpr z))
      obtain ⟨q, hx⟩ := get_lt c13
      have hq := hA.2.2 i q hx
      have e := keptR_s hx
      have J54 : ∀ (N : mx_M) (z : Option Value), mx_c1 [z] = true → Out M N 144 145 → WoA N 0 (keptR (L.take (i + 1))) → WoA N (i + 1) L → (∀ j, j < 33 → N 144 j = M 144 j) → mx_V cX8_takesAway RX8 5 (some .int) 3 54 [some (.ref 143), some (.int (nI (keptR (L.take i)).length)), some (.int (nI L.length)), some (.int (nI i)), z] [] N (fun v M' => v = some (.int (nI (L.length - (keptR L).length))) ∧ M' 144 1 = nI (keptR L).length ∧ WoA M' 0 (keptR L) ∧ (∀ j, j < 33 → j ≠ 1 → M' 144 j = M 144 j) ∧ Out M M' 144 145) := by
        intro N z hz hO hW1 hW2 hj
        refine mx_iload_n (pc' := 55) dX8_takesAway_54 rfl rfl ?_
        refine mx_aload_n (pc' := 56) dX8_takesAway_55 rfl rfl ?_
        refine mx_getr (pc' := 59) dX8_takesAway_56 fl_X8_25 (rfl) (by rfl) rfl ?_
        refine mx_iload_n (pc' := 60) dX8_takesAway_59 rfl rfl ?_
        refine mx_bald (pc' := 61) (v := nI q.1.toNat) dX8_takesAway_60 (rfl) (rfl) (by omega) (by rw [hO 149 (by omega)]; exact hq.1) rfl ?_
        refine mx_if_eq (tgt := 68) (pc' := 64) dX8_takesAway_61 (by decide) rfl (fun c61 => ?_) (fun c61 => ?_)
        · have c61 : q.1 = false := by
            cases hz : q.1 with
            | false => rfl
            | true => rw [hz] at c61; exact absurd c61 (by decide)
          rw [c61, if_neg (by decide)] at e
          refine mx_iconst (pc' := 69) (v := nI 1) dX8_takesAway_68 (by decide) rfl ?_
          refine mx_iadd (pc' := 70) (v := nI (keptR (L.take (i + 1))).length) dX8_takesAway_69 ((nI_add _ 1).trans (congrArg nI (by rw [e, List.length_append]; rfl))) rfl ?_
          refine mx_istore_n (pc' := 71) (ls' := [_, _, _, _, _]) dX8_takesAway_70 (by decide) (by simpa [mx_c1, Value.category] using hz) rfl rfl ?_
          refine mx_iinc (pc' := 74) (ls' := [_, _, _, _, _]) (v := nI (i + 1)) dX8_takesAway_71 rfl (nI_add i 1) (by decide) (by simpa [mx_c1, Value.category] using hz) rfl rfl ?_
          refine mx_goto (pc' := 11) dX8_takesAway_74 (by decide) ?_
          exact ih (i + 1) N _ hz (by omega) (by omega) hO (by rw [e, List.length_append]; show _ + 1 ≤ _; omega) hW1 hW2 hj
        · have c61 : q.1 = true := by
            cases hz : q.1 with
            | true => rfl
            | false => rw [hz] at c61; exact absurd rfl c61
          rw [c61, if_pos rfl, List.append_nil] at e
          refine mx_iconst (pc' := 65) (v := nI 0) dX8_takesAway_64 (by decide) rfl ?_
          refine mx_goto (pc' := 69) dX8_takesAway_65 (by decide) ?_
          refine mx_iadd (pc' := 70) (v := nI (keptR (L.take (i + 1))).length) dX8_takesAway_69 ((nI_add _ 0).trans (congrArg nI (by rw [e]; rfl))) rfl ?_
          refine mx_istore_n (pc' := 71) (ls' := [_, _, _, _, _]) dX8_takesAway_70 (by decide) (by simpa [mx_c1, Value.category] using hz) rfl rfl ?_
          refine mx_iinc (pc' := 74) (ls' := [_, _, _, _, _]) (v := nI (i + 1)) dX8_takesAway_71 rfl (nI_add i 1) (by decide) (by simpa [mx_c1, Value.category] using hz) rfl rfl ?_
          refine mx_goto (pc' := 11) dX8_takesAway_74 (by decide) ?_
          exact ih (i + 1) N _ hz (by omega) (by omega) hO (by rw [e]; omega) hW1 hW2 hj
      refine mx_iconst (pc' := 17) (v := nI 0) dX8_takesAway_16 (by decide) rfl ?_
      refine mx_istore (pc' := 19) (ls' := [_, _, _, _, _]) dX8_takesAway_17 (by decide) (by simpa [mx_c1, Value.category] using hz) rfl rfl ?_
      cases hg : q.1 with
      | false =>
        rw [hg, if_neg (by decide)] at e
        refine (l_X8_takesAway_c M1 _ L.length i hle (by omega) (by rw [hO 149 (by omega), hq.1, hg]; rfl) _ (fun N z hz hO3 hj3 => J54 N z hz (hO.tr hO3) ?_ ?_ ?_) 6 0 M1 (by omega) (by omega) Out.rf (fun j => by rw [if_neg (by omega)]))
        · rw [e]
          intro j r hr _ w hw
          have hl := len_lt hr
          rw [List.length_append, List.length_singleton] at hl
          by_cases h : j < (keptR (L.take i)).length
          · rw [List.getElem?_append_left h] at hr
            rw [hj3, if_neg (by omega)]
            exact hW1 j r hr (Nat.zero_le _) w hw
          · obtain rfl : j = (keptR (L.take i)).length := by omega
            rw [List.getElem?_append_right (Nat.le_refl _), Nat.sub_self] at hr
            cases hr
            rw [hj3, if_pos (by omega), show 33 + 5 * (keptR (L.take i)).length + w - (33 + 5 * (keptR (L.take i)).length) = w by omega]
            exact hW2 i q hx (Nat.le_refl i) w hw
        · intro j r hr hij w hw
          rw [hj3, if_neg (by omega)]
          exact hW2 j r hr (by omega) w hw
        · intro j h
          rw [hj3, if_neg (by omega)]
          exact hj j h
      | true =>
        rw [hg, if_pos rfl, List.append_nil] at e
        refine mx_iload (pc' := 21) dX8_takesAway_19 rfl rfl ?_
        refine mx_iconst (pc' := 22) (v := nI 5) dX8_takesAway_21 (by decide) rfl ?_
        refine mx_icmp_ge (tgt := 54) (pc' := 25) dX8_takesAway_22 (by decide) rfl (fun c22 => ?_) (fun c22 => ?_)
        · exact absurd c22 (by decide)
        · refine mx_aload_n (pc' := 26) dX8_takesAway_25 rfl rfl ?_
          refine mx_getr (pc' := 29) dX8_takesAway_26 fl_X8_25 (rfl) (by rfl) rfl ?_
          refine mx_iload_n (pc' := 30) dX8_takesAway_29 rfl rfl ?_
          refine mx_bald (pc' := 31) (v := nI 1) dX8_takesAway_30 (rfl) (rfl) (by omega) (by rw [hO 149 (by omega), hq.1, hg]; rfl) rfl ?_
          refine mx_if_ne (tgt := 54) (pc' := 34) dX8_takesAway_31 (by decide) rfl (fun c31 => ?_) (fun c31 => ?_)
          · exact J54 M1 _ rfl hO (by rw [e]; exact hW1) (fun j r hr hij w hw => hW2 j r hr (by omega) w hw) hj
          · exact absurd c31 (by decide)

set_option maxHeartbeats 1000000 in
set_option maxRecDepth 10000 in
theorem t_X8_takesAway (M : mx_M) (L : List Rb) (hA : RbA M L) : mx_T yX8_takesAway cX8_takesAway 5 (some .int) 3 [.ref 143] M (fun v M' => v = some (.int (nI (L.length - (keptR L).length))) ∧ M' 144 1 = nI (keptR L).length ∧ WoA M' 0 (keptR L) ∧ (∀ j, j < 33 → j ≠ 1 → M' 144 j = M 144 j) ∧ Out M M' 144 145) := by
  refine mx_T.of1 (own := RX8) (ls := [some (.ref 143), none, none, none, none]) (by decide +kernel) rfl (Nat.le_of_ble_eq_true rfl) rfl rfl ?_
  refine mx_iconst (pc' := 1) (v := nI 0) dX8_takesAway_0 (by decide) rfl ?_
  refine mx_istore_n (pc' := 2) (ls' := [_, _, _, _, _]) dX8_takesAway_1 (by decide) (rfl) rfl rfl ?_
  refine mx_aload_n (pc' := 3) dX8_takesAway_2 rfl rfl ?_
  refine mx_getr (pc' := 6) dX8_takesAway_3 fl_X8_7 (rfl) (by rfl) rfl ?_
  refine mx_iconst (pc' := 7) (v := nI 1) dX8_takesAway_6 (by decide) rfl ?_
  refine mx_iald (pc' := 8) (v := nI L.length) dX8_takesAway_7 (rfl) (rfl) (by decide) (hA.1) rfl ?_
  refine mx_istore_n (pc' := 9) (ls' := [_, _, _, _, _]) dX8_takesAway_8 (by decide) (rfl) rfl rfl ?_
  refine mx_iconst (pc' := 10) (v := nI 0) dX8_takesAway_9 (by decide) rfl ?_
  refine mx_istore_n (pc' := 11) (ls' := [_, _, _, _, _]) dX8_takesAway_10 (by decide) (rfl) rfl rfl ?_
  exact l_X8_takesAway M L hA (L.length + 1) 0 M none rfl (by omega) (by omega) Out.rf (by simp [keptR]) (fun j r hr => by simp [keptR] at hr) (fun j r hr _ w hw => (hA.2.2 j r hr).2 w hw) (fun _ _ => rfl)

set_option maxHeartbeats 1000000 in
set_option maxRecDepth 10000 in
theorem t_X8_isAt (M : mx_M) (b : Nat) (hb : b < 60) (x : Bu) (hx : BuR (M 144) (33 + 5 * b) x) (hV : BuV x) (r c : Nat) (hr : r < 12) (hc : c < 10) : mx_T yX8_isAt cX8_isAt 4 (some .boolean) 2 [.ref 143, .int (nI b), .int (nI r), .int (nI c)] M (fun v M' => v = some (.int (bI (atB r c x = true))) ∧ M' = M) := by
  have v1 := hV.1
  have v2 := hV.2.1
  refine mx_T.of1 (own := RX8) (ls := [some (.ref 143), some (.int (nI b)), some (.int (nI r)), some (.int (nI c))]) (by decide +kernel) rfl (Nat.le_of_ble_eq_true rfl) rfl rfl ?_
  refine mx_aload_n (pc' := 1) dX8_isAt_0 rfl rfl ?_
  refine mx_iload_n (pc' := 2) dX8_isAt_1 rfl rfl ?_
  refine mx_iconst (pc' := 3) (v := nI 0) dX8_isAt_2 (by decide) rfl ?_
  refine mx_callV (pc' := 6) dX8_isAt_3 cl_X8_53 (rfl) (t_X8_of M b 0 hb (by decide)) rfl (by decide) rfl (Nat.le_of_ble_eq_true rfl) rfl (fun v N3 hv => ?_)
  obtain ⟨rfl, hv⟩ := hv
  rw [hv, show M 144 (33 + 5 * b + 0) = nI x.1 from hx.1]
  refine mx_iload_n (pc' := 7) dX8_isAt_6 rfl rfl ?_
  refine mx_icmp_ne (tgt := 24) (pc' := 10) dX8_isAt_7 (by decide) rfl (fun c7 => ?_) (fun c7 => ?_)
  · have c7 : ¬ _ := fun z => c7 ((nI_eq (by omega) (by omega)).mpr z)
    refine mx_iconst (pc' := 25) (v := nI 0) dX8_isAt_24 (by decide) rfl ?_
    refine mx_iret dX8_isAt_25 (Or.inr ⟨rfl, by decide⟩) ?_
    first | exact ⟨bI_rt (decide_eq_true ⟨c7, c17⟩), rfl⟩ | exact ⟨bI_rf (fun z => c17 (of_decide_eq_true z).2), rfl⟩ | exact ⟨bI_rf (fun z => c7 (of_decide_eq_true z).1), rfl⟩
  · have c7 := (nI_eq (by omega) (by omega)).mp c7
    refine mx_aload_n (pc' := 11) dX8_isAt_10 rfl rfl ?_
    refine mx_iload_n (pc' := 12) dX8_isAt_11 rfl rfl ?_
    refine mx_iconst (pc' := 13) (v := nI 1) dX8_isAt_12 (by decide) rfl ?_
    refine mx_callV (pc' := 16) dX8_isAt_13 cl_X8_53 (rfl) (t_X8_of M b 1 hb (by decide)) rfl (by decide) rfl (Nat.le_of_ble_eq_true rfl) rfl (fun v N13 hv => ?_)
    obtain ⟨rfl, hv⟩ := hv
    rw [hv, show M 144 (33 + 5 * b + 1) = nI x.2.1 from hx.2.1]
    refine mx_iload_n (pc' := 17) dX8_isAt_16 rfl rfl ?_
    refine mx_icmp_ne (tgt := 24) (pc' := 20) dX8_isAt_17 (by decide) rfl (fun c17 => ?_) (fun c17 => ?_)
    · have c17 : ¬ _ := fun z => c17 ((nI_eq (by omega) (by omega)).mpr z)
      refine mx_iconst (pc' := 25) (v := nI 0) dX8_isAt_24 (by decide) rfl ?_
      refine mx_iret dX8_isAt_25 (Or.inr ⟨rfl, by decide⟩) ?_
      first | exact ⟨bI_rt (decide_eq_true ⟨c7, c17⟩), rfl⟩ | exact ⟨bI_rf (fun z => c17 (of_decide_eq_true z).2), rfl⟩ | exact ⟨bI_rf (fun z => c7 (of_decide_eq_true z).1), rfl⟩
    · have c17 := (nI_eq (by omega) (by omega)).mp c17
      refine mx_iconst (pc' := 21) (v := nI 1) dX8_isAt_20 (by decide) rfl ?_
      refine mx_goto (pc' := 25) dX8_isAt_21 (by decide) ?_
      refine mx_iret dX8_isAt_25 (Or.inr ⟨rfl, by decide⟩) ?_
      first | exact ⟨bI_rt (decide_eq_true ⟨c7, c17⟩), rfl⟩ | exact ⟨bI_rf (fun z => c17 (of_decide_eq_true z).2), rfl⟩ | exact ⟨bI_rf (fun z => c7 (of_decide_eq_true z).1), rfl⟩

