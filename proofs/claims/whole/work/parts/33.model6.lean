/-! the model's whole -/
def MhA (M : mx_M) (H : List FS) : Prop := M 143 3 = nI H.length ∧ H.length ≤ 4 ∧ ∀ (k : Nat) (G : FS), H[k]? = some G → EncF (M 146) (333 * k) G ∧ FV G
def MsA (M : mx_M) (S : Option FS) : Prop := match S with
  | none => M 143 5 = nI 0
  | some G => M 143 5 = nI 1 ∧ EncF (M 147) 0 G ∧ FV G
def MpA (M : mx_M) (L : List Nat) : Prop := M 143 7 = nI L.length ∧ L.length ≤ 60 ∧ (∀ c ∈ L, c < 127) ∧ ∀ (j c : Nat), L[j]? = some c → M 148 j = nI c
def MoA (M : mx_M) (Y : Sy) : Prop := MF M Y.1 ∧ FV Y.1 ∧ MhA M Y.2.1 ∧ MsA M Y.2.2.1 ∧ MpA M Y.2.2.2
/-- the class's part stays -/
def Cl (M M' : mx_M) : Prop := ∀ q, q < 143 → M' q = M q
theorem Cl.rf {M : mx_M} : Cl M M := fun _ _ => rfl
theorem Cl.tr {M M1 M2 : mx_M} (h1 : Cl M M1) (h2 : Cl M1 M2) : Cl M M2 := fun q h => (h2 q h).trans (h1 q h)
theorem MoS.cl {M M' : mx_M} (h : MoS M M') : Cl M M' := fun q hq => h q (by omega) (by omega)
theorem MhA.fr {M M' : mx_M} {H : List FS} (h : MhA M H) (h3 : M' 143 3 = M 143 3) (h146 : M' 146 = M 146) : MhA M' H := ⟨h3.trans h.1, h.2.1, fun k G hG => by rw [h146]; exact h.2.2 k G hG⟩
theorem MsA.fr {M M' : mx_M} {S : Option FS} (h : MsA M S) (h5 : M' 143 5 = M 143 5) (h147 : M' 147 = M 147) : MsA M' S := by
  cases S with
  | none => exact h5.trans h
  | some G => exact ⟨h5.trans h.1, by rw [h147]; exact h.2.1, h.2.2⟩
theorem MpA.fr {M M' : mx_M} {L : List Nat} (h : MpA M L) (h7 : M' 143 7 = M 143 7) (h148 : M' 148 = M 148) : MpA M' L := ⟨h7.trans h.1, h.2.1, h.2.2.1, fun j c hc => by rw [h148]; exact h.2.2.2 j c hc⟩
theorem MoA.fld {M M' : mx_M} {Y : Sy} {F : FS} (h : MoA M Y) (hF : MF M' F) (hV : FV F) (hO : MoS M M') : MoA M' (F, Y.2.1, Y.2.2.1, Y.2.2.2) :=
  ⟨hF, hV, h.2.2.1.fr (by rw [hO 143 (by decide) (by decide)]) (hO 146 (by decide) (by decide)), h.2.2.2.1.fr (by rw [hO 143 (by decide) (by decide)]) (hO 147 (by decide) (by decide)), h.2.2.2.2.fr (by rw [hO 143 (by decide) (by decide)]) (hO 148 (by decide) (by decide))⟩
/-- what records() changes -/
def Rec (M M' : mx_M) : Prop := (∀ q, q ≠ 143 → q ≠ 146 → M' q = M q) ∧ ∀ j, j ≠ 3 → M' 143 j = M 143 j
theorem Rec.cl {M M' : mx_M} (h : Rec M M') : Cl M M' := fun q hq => h.1 q (by omega) (by omega)
theorem MoA.rec {M M' : mx_M} {Y : Sy} {H : List FS} (h : MoA M Y) (hH : MhA M' H) (hO : Rec M M') : MoA M' (Y.1, H, Y.2.2.1, Y.2.2.2) :=
  ⟨h.1.fr (hO.1 144 (by decide) (by decide)), h.2.1, hH, h.2.2.2.1.fr (hO.2 5 (by decide)) (hO.1 147 (by decide) (by decide)), h.2.2.2.2.fr (hO.2 7 (by decide)) (hO.1 148 (by decide) (by decide))⟩
/-- other words of the model's object, other rows -/
theorem MoA.fr {M M' : mx_M} {Y : Sy} (h : MoA M Y) (h144 : M' 144 = M 144) (h3 : M' 143 3 = M 143 3) (h5 : M' 143 5 = M 143 5) (h7 : M' 143 7 = M 143 7) (h146 : M' 146 = M 146) (h147 : M' 147 = M 147) (h148 : M' 148 = M 148) : MoA M' Y :=
  ⟨h.1.fr h144, h.2.1, h.2.2.1.fr h3 h146, h.2.2.2.1.fr h5 h147, h.2.2.2.2.fr h7 h148⟩
set_option maxHeartbeats 1000000 in
set_option maxRecDepth 10000 in
theorem l_X8_records (M : mx_M) (F : FS) (hF : MF M F) (hV : FV F) (H : List FS) (hA : MhA M H) (h4 : H.length = 4) : ∀ (k : Nat) (i : Nat) (M1 : mx_M), 999 < i + k → i ≤ 999 → Out M M1 146 147 → (∀ j, M1 146 j = if j < i then M 146 (j + 333) else M 146 j) → mx_V cX8_records RX8 2 none 2 10 [some (.ref 143), some (.int (nI i))] [] M1 (fun v M' => v = none ∧ MhA M' (hPush F H) ∧ Rec M M') := by
  have J49 : ∀ (N : mx_M) (K : List FS) (z : Option Value), mx_c1 [z] = true → K.length < 4 → MhA N K → MF N F → hPush F H = K ++ [F] → Rec M N → mx_V cX8_records RX8 2 none 2 49 [some (.ref 143), z] [] N (fun v M' => v = none ∧ MhA M' (hPush F H) ∧ Rec M M') := by
    intro N K z hz hK hA hF hPu hO
    refine mx_aload_n (pc' := 50) dX8_records_49 rfl rfl ?_
    refine mx_getr (pc' := 53) dX8_records_50 fl_X8_7 (rfl) (by rfl) rfl ?_
    refine mx_iconst (pc' := 54) (v := nI 0) dX8_records_53 (by decide) rfl ?_
    refine mx_aload_n (pc' := 55) dX8_records_54 rfl rfl ?_
    refine mx_getr (pc' := 58) dX8_records_55 fl_X8_16 (rfl) (by rfl) rfl ?_
    refine mx_sipush (pc' := 61) (v := nI 333) dX8_records_58 (by decide) rfl ?_
    refine mx_aload_n (pc' := 62) dX8_records_61 rfl rfl ?_
    refine mx_getf (pc' := 65) (v := nI K.length) dX8_records_62 fl_X8_41 (rfl) (by rfl) (hA.1) rfl ?_
    refine mx_imul (pc' := 66) (v := nI (333 * K.length)) dX8_records_65 (pk_mul 333 _) rfl ?_
    refine mx_callS (pc' := 69) dX8_records_66 cl_X8_45 (t_X8_copies N 144 146 0 (333 * K.length) 333 1332 rfl rfl (by decide) (by omega) (by decide)) rfl (by decide) rfl (Nat.le_of_ble_eq_true rfl) rfl (fun v N66 hv => ?_)
    obtain ⟨rfl, hO2, hj⟩ := hv
    refine mx_aload_n (pc' := 70) dX8_records_69 rfl rfl ?_
    refine mx_dup (pc' := 71) dX8_records_70 rfl rfl ?_
    refine mx_getf (pc' := 74) (v := nI K.length) dX8_records_71 fl_X8_41 (rfl) (by rfl) (by rw [hO2 143 (by omega)]; exact hA.1) rfl ?_
    refine mx_iconst (pc' := 75) (v := nI 1) dX8_records_74 (by decide) rfl ?_
    refine mx_iadd (pc' := 76) (v := nI (K.length + 1)) dX8_records_75 (nI_add _ 1) rfl ?_
    refine mx_putf (pc' := 79) dX8_records_76 fl_X8_41 (rfl) (by rfl) (⟨rfl, rfl⟩) rfl ?_
    refine mx_vret dX8_records_79 rfl ?_
    rw [hPu]
    have hz9 : ∀ q, q ≠ 143 → mx_up N66 143 3 (nI (K.length + 1)) q = N66 q := fun q z => mx_up_ne z
    refine ⟨rfl, ⟨by rw [mx_up_eq, List.length_append]; rfl, by rw [List.length_append]; exact hK, fun k G hG => ?_⟩, fun q h1 h2 => by rw [hz9 q h1, hO2 q (by omega)]; exact hO.1 q h1 h2, fun j hj3 => by rw [mx_up_fn, upd_ne _ _ hj3, hO2 143 (by omega)]; exact hO.2 j hj3⟩
    rw [hz9 146 (by decide)]
    have hl := len_lt hG
    rw [List.length_append, List.length_singleton] at hl
    by_cases hk : k < K.length
    · rw [List.getElem?_append_left hk] at hG
      have h := hA.2.2 k G hG
      exact ⟨h.1.fr fun j h333 => by rw [hj, if_neg (by omega)], h.2⟩
    · obtain rfl : k = K.length := by omega
      rw [List.getElem?_append_right (Nat.le_refl _), Nat.sub_self] at hG
      cases hG
      exact ⟨EncF.fr hF fun j h333 => by rw [hj, if_pos (by omega)]; congr 1; omega, hV⟩
  intro k
  induction k with
  | zero =>
    intro i M1 hk hi hO hj
    exact absurd hk (by omega)
  | succ k ih =>
    intro i M1 hk hi hO hj
    refine mx_iload_n (pc' := 11) dX8_records_10 rfl rfl ?_
    refine mx_sipush (pc' := 14) (v := nI 999) dX8_records_11 (by decide) rfl ?_
    refine mx_icmp_ge (tgt := 39) (pc' := 17) dX8_records_14 (by decide) rfl (fun c14 => ?_) (fun c14 => ?_)
    · have c14 := (nI_leI (by omega) (by omega)).mp c14
      obtain rfl : i = 999 := by omega
      refine mx_aload_n (pc' := 40) dX8_records_39 rfl rfl ?_
      refine mx_dup (pc' := 41) dX8_records_40 rfl rfl ?_
      refine mx_getf (pc' := 44) (v := nI 4) dX8_records_41 fl_X8_41 (rfl) (by rfl) (by rw [hO 143 (by omega), hA.1, h4]) rfl ?_
      refine mx_iconst (pc' := 45) (v := nI 1) dX8_records_44 (by decide) rfl ?_
      refine mx_isub (pc' := 46) (v := nI 3) dX8_records_45 (by decide) rfl ?_
      refine mx_putf (pc' := 49) dX8_records_46 fl_X8_41 (rfl) (by rfl) (⟨rfl, rfl⟩) rfl ?_
      refine J49 _ (H.drop 1) _ rfl (by rw [List.length_drop]; omega) ⟨by rw [mx_up_eq, List.length_drop, h4], by rw [List.length_drop]; omega, fun k G hG => ?_⟩ (hF.fr (by rw [mx_up_ne (by decide)]; exact hO 144 (by omega))) (by unfold hPush; rw [if_pos h4]) ⟨fun q h1 h2 => by rw [mx_up_ne h1]; exact hO q (by omega), fun j h3 => by rw [mx_up_fn, upd_ne _ _ h3, hO 143 (by omega)]⟩
      rw [List.getElem?_drop, Nat.add_comm] at hG
      have hl := len_lt hG
      have h := hA.2.2 (k + 1) G hG
      refine ⟨h.1.fr fun j h333 => ?_, h.2⟩
      rw [mx_up_ne (by decide), hj, if_pos (by omega)]
      congr 1; omega
    · have c14 := Nat.not_le.mp (fun z => c14 ((nI_leI (by omega) (by omega)).mpr z))
      refine mx_aload_n (pc' := 18) dX8_records_17 rfl rfl ?_
      refine mx_getr (pc' := 21) dX8_records_18 fl_X8_16 (rfl) (by rfl) rfl ?_
      refine mx_iload_n (pc' := 22) dX8_records_21 rfl rfl ?_
      refine mx_aload_n (pc' := 23) dX8_records_22 rfl rfl ?_
      refine mx_getr (pc' := 26) dX8_records_23 fl_X8_16 (rfl) (by rfl) rfl ?_
      refine mx_iload_n (pc' := 27) dX8_records_26 rfl rfl ?_
      refine mx_sipush (pc' := 30) (v := nI 333) dX8_records_27 (by decide) rfl ?_
      refine mx_iadd (pc' := 31) (v := nI (i + 333)) dX8_records_30 (nI_add i 333) rfl ?_
      refine mx_iald (pc' := 32) (v := M 146 (i + 333)) dX8_records_31 (rfl) (rfl) (by omega) (by rw [hj, if_neg (by omega)]) rfl ?_
      refine mx_iast (pc' := 33) dX8_records_32 (rfl) (rfl) (by omega) rfl ?_
      refine mx_iinc (pc' := 36) (ls' := [_, _]) (v := nI (i + 1)) dX8_records_33 rfl (nI_add i 1) (by decide) (rfl) rfl rfl ?_
      refine mx_goto (pc' := 10) dX8_records_36 (by decide) ?_
      refine ih (i + 1) _ (by omega) (by omega) (hO.up (by omega) (by omega)) (fun j => ?_)
      rw [mx_up_fn]
      by_cases e : j = i
      · subst e; rw [upd_eq, if_pos (Nat.lt_succ_self _)]
      · rw [upd_ne _ _ e, hj j]
        by_cases h : j < i
        · rw [if_pos h, if_pos (show j < i + 1 by omega)]
        · rw [if_neg h, if_neg (show ¬ j < i + 1 by omega)]

set_option maxHeartbeats 1000000 in
set_option maxRecDepth 10000 in
theorem t_X8_records (M : mx_M) (F : FS) (hF : MF M F) (hV : FV F) (H : List FS) (hA : MhA M H) : mx_T yX8_records cX8_records 2 none 2 [.ref 143] M (fun v M' => v = none ∧ MhA M' (hPush F H) ∧ Rec M M') := by
  have J49 : ∀ (N : mx_M) (K : List FS) (z : Option Value), mx_c1 [z] = true → K.length < 4 → MhA N K → MF N F → hPush F H = K ++ [F] → Rec M N → mx_V cX8_records RX8 2 none 2 49 [some (.ref 143), z] [] N (fun v M' => v = none ∧ MhA M' (hPush F H) ∧ Rec M M') := by
    intro N K z hz hK hA hF hPu hO
    refine mx_aload_n (pc' := 50) dX8_records_49 rfl rfl ?_
    refine mx_getr (pc' := 53) dX8_records_50 fl_X8_7 (rfl) (by rfl) rfl ?_
    refine mx_iconst (pc' := 54) (v := nI 0) dX8_records_53 (by decide) rfl ?_
    refine mx_aload_n (pc' := 55) dX8_records_54 rfl rfl ?_
    refine mx_getr (pc' := 58) dX8_records_55 fl_X8_16 (rfl) (by rfl) rfl ?_
    refine mx_sipush (pc' := 61) (v := nI 333) dX8_records_58 (by decide) rfl ?_
    refine mx_aload_n (pc' := 62) dX8_records_61 rfl rfl ?_
    refine mx_getf (pc' := 65) (v := nI K.length) dX8_records_62 fl_X8_41 (rfl) (by rfl) (hA.1) rfl ?_
    refine mx_imul (pc' := 66) (v := nI (333 * K.length)) dX8_records_65 (pk_mul 333 _) rfl ?_
    refine mx_callS (pc' := 69) dX8_records_66 cl_X8_45 (t_X8_copies N 144 146 0 (333 * K.length) 333 1332 rfl rfl (by decide) (by omega) (by decide)) rfl (by decide) rfl (Nat.le_of_ble_eq_true rfl) rfl (fun v N66 hv => ?_)
    obtain ⟨rfl, hO2, hj⟩ := hv
    refine mx_aload_n (pc' := 70) dX8_records_69 rfl rfl ?_
    refine mx_dup (pc' := 71) dX8_records_70 rfl rfl ?_
    refine mx_getf (pc' := 74) (v := nI K.length) dX8_records_71 fl_X8_41 (rfl) (by rfl) (by rw [hO2 143 (by omega)]; exact hA.1) rfl ?_
    refine mx_iconst (pc' := 75) (v := nI 1) dX8_records_74 (by decide) rfl ?_
    refine mx_iadd (pc' := 76) (v := nI (K.length + 1)) dX8_records_75 (nI_add _ 1) rfl ?_
    refine mx_putf (pc' := 79) dX8_records_76 fl_X8_41 (rfl) (by rfl) (⟨rfl, rfl⟩) rfl ?_
    refine mx_vret dX8_records_79 rfl ?_
    rw [hPu]
    have hz9 : ∀ q, q ≠ 143 → mx_up N66 143 3 (nI (K.length + 1)) q = N66 q := fun q z => mx_up_ne z
    refine ⟨rfl, ⟨by rw [mx_up_eq, List.length_append]; rfl, by rw [List.length_append]; exact hK, fun k G hG => ?_⟩, fun q h1 h2 => by rw [hz9 q h1, hO2 q (by omega)]; exact hO.1 q h1 h2, fun j hj3 => by rw [mx_up_fn, upd_ne _ _ hj3, hO2 143 (by omega)]; exact hO.2 j hj3⟩
    rw [hz9 146 (by decide)]
    have hl := len_lt hG
    rw [List.length_append, List.length_singleton] at hl
    by_cases hk : k < K.length
    · rw [List.getElem?_append_left hk] at hG
      have h := hA.2.2 k G hG
      exact ⟨h.1.fr fun j h333 => by rw [hj, if_neg (by omega)], h.2⟩
    · obtain rfl : k = K.length := by omega
      rw [List.getElem?_append_right (Nat.le_refl _), Nat.sub_self] at hG
      cases hG
      exact ⟨EncF.fr hF fun j h333 => by rw [hj, if_pos (by omega)]; congr 1; omega, hV⟩
  refine mx_T.of1 (own := RX8) (ls := [some (.ref 143), none]) (by decide +kernel) rfl (Nat.le_of_ble_eq_true rfl) rfl rfl ?_
  refine mx_aload_n (pc' := 1) dX8_records_0 rfl rfl ?_
  refine mx_getf (pc' := 4) (v := nI H.length) dX8_records_1 fl_X8_41 (rfl) (by rfl) (hA.1) rfl ?_
  refine mx_iconst (pc' := 5) (v := nI 4) dX8_records_4 (by decide) rfl ?_
  refine mx_icmp_ne (tgt := 49) (pc' := 8) dX8_records_5 (by decide) rfl (fun c5 => ?_) (fun c5 => ?_)
  · have c5 : ¬ _ := fun z => c5 ((nI_eq (by omega) (by omega)).mpr z)
    have h4 := hA.2.1
    exact J49 M H none rfl (by omega) hA hF (by unfold hPush; rw [if_neg c5]) ⟨fun _ _ _ => rfl, fun _ _ => rfl⟩
  · have h4 := hA.2.1
    have c5 := (nI_eq (by omega) (by omega)).mp c5
    refine mx_iconst (pc' := 9) (v := nI 0) dX8_records_8 (by decide) rfl ?_
    refine mx_istore_n (pc' := 10) (ls' := [_, _]) dX8_records_9 (by decide) (rfl) rfl rfl ?_
    exact l_X8_records M F hF hV H hA c5 1000 0 M (by omega) (by omega) Out.rf (fun j => by rw [if_neg (Nat.not_lt_zero _)])

theorem lt10 {x : Int32} (h : x < nI 10) : x ≤ nI 9 := by
  rw [Int32.lt_iff_toInt_lt, nI_t 10 (by decide)] at h
  rw [Int32.le_iff_toInt_le, nI_t 9 (by decide)]
  omega
set_option maxHeartbeats 1000000 in
set_option maxRecDepth 10000 in
theorem t_X8_emitter (M : mx_M) (Y : Sy) (hC : MoA M Y) (x1 x2 x3 x4 : Int32) : mx_T yX8_emitter cX8_emitter 5 (some .int) 3 [.ref 143, .int x1, .int x2, .int x3, .int x4] M (fun v M' => v = some (.int (oEmitter x1 x2 x3 x4 Y).1) ∧ MoA M' (oEmitter x1 x2 x3 x4 Y).2 ∧ Cl M M') := by
  refine mx_T.of1 (own := RX8) (ls := [some (.ref 143), some (.int x1), some (.int x2), some (.int x3), some (.int x4)]) (by decide +kernel) rfl (Nat.le_of_ble_eq_true rfl) rfl rfl ?_
  refine mx_iload_n (pc' := 1) dX8_emitter_0 rfl rfl ?_
  refine mx_iconst (pc' := 2) (v := nI 0) dX8_emitter_1 (by decide) rfl ?_
  refine mx_bipush (pc' := 4) (v := nI 9) dX8_emitter_2 (by decide) rfl ?_
  refine mx_callS (pc' := 7) dX8_emitter_4 cl_X8_49 (t_X8_in M x1 (nI 0) (nI 9)) rfl (by decide) rfl (Nat.le_of_ble_eq_true rfl) rfl (fun v N4 hv => ?_)
  obtain ⟨rfl, hv⟩ := hv
  rw [hv]
  refine mx_if_eq (tgt := 41) (pc' := 10) dX8_emitter_7 (by decide) rfl (fun c7 => ?_) (fun c7 => ?_)
  · have c7 : ¬ (nI 0 ≤ x1 ∧ x1 ≤ nI 9) := bI_0.mp c7
    refine mx_iconst (pc' := 42) (v := (-1)) dX8_emitter_41 (by decide) rfl ?_
    refine mx_iret dX8_emitter_42 (Or.inl rfl) ?_
    have e : oEmitter x1 x2 x3 x4 Y = ((-1), Y) := if_neg (fun z => c7 ⟨z.1.1, lt10 z.1.2⟩)
    rw [e]
    exact ⟨rfl, hC, Cl.rf⟩
  · have c7 := bI_n.mp c7
    have c7 : 0 ≤ x1 ∧ x1 < nI 10 := ⟨c7.1, Int32.lt_of_le_of_lt c7.2 (by decide)⟩
    refine mx_iload_n (pc' := 11) dX8_emitter_10 rfl rfl ?_
    refine mx_iconst (pc' := 12) (v := nI 0) dX8_emitter_11 (by decide) rfl ?_
    refine mx_iconst (pc' := 13) (v := nI 5) dX8_emitter_12 (by decide) rfl ?_
    refine mx_callS (pc' := 16) dX8_emitter_13 cl_X8_49 (t_X8_in M x2 (nI 0) (nI 5)) rfl (by decide) rfl (Nat.le_of_ble_eq_true rfl) rfl (fun v N13 hv => ?_)
    obtain ⟨rfl, hv⟩ := hv
    rw [hv]
    refine mx_if_eq (tgt := 41) (pc' := 19) dX8_emitter_16 (by decide) rfl (fun c16 => ?_) (fun c16 => ?_)
    · have c16 := bI_0.mp c16
      refine mx_iconst (pc' := 42) (v := (-1)) dX8_emitter_41 (by decide) rfl ?_
      refine mx_iret dX8_emitter_42 (Or.inl rfl) ?_
      have e : oEmitter x1 x2 x3 x4 Y = ((-1), Y) := if_neg (fun z => c16 z.2.1)
      rw [e]
      exact ⟨rfl, hC, Cl.rf⟩
    · have c16 := bI_n.mp c16
      refine mx_iload_n (pc' := 20) dX8_emitter_19 rfl rfl ?_
      refine mx_iconst (pc' := 21) (v := nI 1) dX8_emitter_20 (by decide) rfl ?_
      refine mx_bipush (pc' := 23) (v := nI 9) dX8_emitter_21 (by decide) rfl ?_
      refine mx_callS (pc' := 26) dX8_emitter_23 cl_X8_49 (t_X8_in M x3 (nI 1) (nI 9)) rfl (by decide) rfl (Nat.le_of_ble_eq_true rfl) rfl (fun v N23 hv => ?_)
      obtain ⟨rfl, hv⟩ := hv
      rw [hv]
      refine mx_if_eq (tgt := 41) (pc' := 29) dX8_emitter_26 (by decide) rfl (fun c26 => ?_) (fun c26 => ?_)
      · have c26 := bI_0.mp c26
        refine mx_iconst (pc' := 42) (v := (-1)) dX8_emitter_41 (by decide) rfl ?_
        refine mx_iret dX8_emitter_42 (Or.inl rfl) ?_
        have e : oEmitter x1 x2 x3 x4 Y = ((-1), Y) := if_neg (fun z => c26 z.2.2.1)
        rw [e]
        exact ⟨rfl, hC, Cl.rf⟩
      · have c26 := bI_n.mp c26
        obtain ⟨n3, hn3, hn3', rfl⟩ := ge_of2 c26.1 c26.2 (by decide) (by decide)
        refine mx_iload (pc' := 31) dX8_emitter_29 rfl rfl ?_
        refine mx_iconst (pc' := 32) (v := nI 0) dX8_emitter_31 (by decide) rfl ?_
        refine mx_iload_n (pc' := 33) dX8_emitter_32 rfl rfl ?_
        refine mx_iconst (pc' := 34) (v := nI 1) dX8_emitter_33 (by decide) rfl ?_
        refine mx_isub (pc' := 35) dX8_emitter_34 (rfl) rfl ?_
        refine mx_callS (pc' := 38) dX8_emitter_35 cl_X8_49 (t_X8_in M x4 (nI 0) (nI n3 - nI 1)) rfl (by decide) rfl (Nat.le_of_ble_eq_true rfl) rfl (fun v N35 hv => ?_)
        obtain ⟨rfl, hv⟩ := hv
        rw [hv]
        refine mx_if_ne (tgt := 43) (pc' := 41) dX8_emitter_38 (by decide) rfl (fun c38 => ?_) (fun c38 => ?_)
        · have c38 := bI_n.mp c38
          have c38 : 0 ≤ x4 ∧ x4 < nI n3 := ⟨c38.1, (le_pred (by omega)).mp c38.2⟩
          obtain ⟨n1, hn1, rfl⟩ := ge_of c7.1 c7.2 (by decide)
          obtain ⟨n2, -, hn2, rfl⟩ := ge_of2 (m := 0) c16.1 c16.2 (by decide) (by decide)
          obtain ⟨n4, hn4, rfl⟩ := ge_of c38.1 c38.2 (by omega)
          have e0 : oEmitter (nI n1) (nI n2) (nI n3) (nI n4) Y = (if Y.1.1.length = 4 then ((-3), Y) else (nI Y.1.1.length, pushY Y (Y.1.1 ++ [(n1, n2, n3, n4)], Y.1.2.1, Y.1.2.2.1, Y.1.2.2.2))) := by
            unfold oEmitter
            rw [if_pos ⟨c7, c16, c26, c38⟩, tN_n (by omega), tN_n (by omega), tN_n (by omega), tN_n (by omega)]
          rw [e0]
          have h4 := hC.1.eL.1
          refine mx_aload_n (pc' := 44) dX8_emitter_43 rfl rfl ?_
          refine mx_getr (pc' := 47) dX8_emitter_44 fl_X8_7 (rfl) (by rfl) rfl ?_
          refine mx_iconst (pc' := 48) (v := nI 0) dX8_emitter_47 (by decide) rfl ?_
          refine mx_iald (pc' := 49) (v := nI Y.1.1.length) dX8_emitter_48 (rfl) (rfl) (by decide) (hC.1.E) rfl ?_
          refine mx_iconst (pc' := 50) (v := nI 4) dX8_emitter_49 (by decide) rfl ?_
          refine mx_icmp_ne (tgt := 56) (pc' := 53) dX8_emitter_50 (by decide) rfl (fun c50 => ?_) (fun c50 => ?_)
          · have c50 : ¬ _ := fun z => c50 ((nI_eq (by omega) (by omega)).mpr z)
            rw [if_neg c50]
            refine mx_aload_n (pc' := 57) dX8_emitter_56 rfl rfl ?_
            refine mx_callV (pc' := 60) dX8_emitter_57 cl_X8_90 (rfl) (t_X8_records _ Y.1 hC.1 hC.2.1 Y.2.1 hC.2.2.1) rfl (by decide) rfl (Nat.le_of_ble_eq_true rfl) rfl (fun v N57 hv => ?_)
            obtain ⟨rfl, hH, hO⟩ := hv
            have hC1 := hC.rec hH hO
            have hM1 := hO.cl
            refine mx_aload_n (pc' := 61) dX8_emitter_60 rfl rfl ?_
            refine mx_iload_n (pc' := 62) dX8_emitter_61 rfl rfl ?_
            refine mx_iload_n (pc' := 63) dX8_emitter_62 rfl rfl ?_
            refine mx_iload_n (pc' := 64) dX8_emitter_63 rfl rfl ?_
            refine mx_iload (pc' := 66) dX8_emitter_64 rfl rfl ?_
            refine mx_callV (pc' := 69) dX8_emitter_66 cl_X8_93 (rfl) (t_X8_addsEmitter N57 Y.1 hC1.1 (by omega) (n1, n2, n3, n4) ⟨hn1, by show n2 < 6; omega, hn3, hn3', hn4⟩) rfl (by decide) rfl (Nat.le_of_ble_eq_true rfl) rfl (fun v N66 hv => ?_)
            obtain ⟨rfl, hF2, hO2⟩ := hv
            refine mx_aload_n (pc' := 70) dX8_emitter_69 rfl rfl ?_
            refine mx_getr (pc' := 73) dX8_emitter_70 fl_X8_7 (rfl) (by rfl) rfl ?_
            refine mx_iconst (pc' := 74) (v := nI 0) dX8_emitter_73 (by decide) rfl ?_
            refine mx_iald (pc' := 75) (v := nI (Y.1.1.length + 1)) dX8_emitter_74 (rfl) (rfl) (by decide) (hF2.E.trans (congrArg nI (by rw [List.length_append]; rfl))) rfl ?_
            refine mx_iconst (pc' := 76) (v := nI 1) dX8_emitter_75 (by decide) rfl ?_
            refine mx_isub (pc' := 77) (v := nI Y.1.1.length) dX8_emitter_76 (pk_sub (b := 1) (by omega)) rfl ?_
            refine mx_iret dX8_emitter_77 (Or.inl rfl) ?_
            exact ⟨rfl, hC1.fld hF2 hC.2.1 hO2, hM1.tr hO2.cl⟩
          · have c50 := (nI_eq (by omega) (by omega)).mp c50
            rw [if_pos c50]
            refine mx_bipush (pc' := 55) (v := (-3)) dX8_emitter_53 (by decide) rfl ?_
            refine mx_iret dX8_emitter_55 (Or.inl rfl) ?_
            exact ⟨rfl, hC, Cl.rf⟩
        · have c38 : ¬ (0 ≤ x4 ∧ x4 < nI n3) := fun z => bI_0.mp c38 ⟨z.1, (le_pred (by omega)).mpr z.2⟩
          refine mx_iconst (pc' := 42) (v := (-1)) dX8_emitter_41 (by decide) rfl ?_
          refine mx_iret dX8_emitter_42 (Or.inl rfl) ?_
          have e : oEmitter x1 x2 (nI n3) x4 Y = ((-1), Y) := if_neg (fun z => c38 z.2.2.2)
          rw [e]
          exact ⟨rfl, hC, Cl.rf⟩

set_option maxHeartbeats 1000000 in
set_option maxRecDepth 10000 in
theorem t_X8_takeAway (M : mx_M) (Y : Sy) (hC : MoA M Y) (x : Int32) : mx_T yX8_takeAway cX8_takeAway 2 (some .int) 3 [.ref 143, .int x] M (fun v M' => v = some (.int (oTakeAway x Y).1) ∧ MoA M' (oTakeAway x Y).2 ∧ Cl M M') := by
  refine mx_T.of1 (own := RX8) (ls := [some (.ref 143), some (.int x)]) (by decide +kernel) rfl (Nat.le_of_ble_eq_true rfl) rfl rfl ?_
  refine mx_aload_n (pc' := 1) dX8_takeAway_0 rfl rfl ?_
  refine mx_iload_n (pc' := 2) dX8_takeAway_1 rfl rfl ?_
  refine mx_callV (pc' := 5) dX8_takeAway_2 cl_X8_97 (rfl) (t_X8_isEmitter M Y.1.1.length hC.1.E hC.1.eL.1 x) rfl (by decide) rfl (Nat.le_of_ble_eq_true rfl) rfl (fun v N2 hv => ?_)
  obtain ⟨rfl, hv⟩ := hv
  rw [hv]
  refine mx_if_ne (tgt := 10) (pc' := 8) dX8_takeAway_5 (by decide) rfl (fun c5 => ?_) (fun c5 => ?_)
  · have c5 := bI_n.mp c5
    have h4 := hC.1.eL.1
    have e0 : oTakeAway x Y = (nI (Y.1.1.eraseIdx (tN x)).length, pushY Y (Y.1.1.eraseIdx (tN x), Y.1.2.1, Y.1.2.2.1, Y.1.2.2.2)) := if_pos c5
    rw [e0]
    obtain ⟨r, hr, rfl⟩ := ge_of c5.1 c5.2 (by omega)
    rw [tN_n (by omega)]
    refine mx_aload_n (pc' := 11) dX8_takeAway_10 rfl rfl ?_
    refine mx_callV (pc' := 14) dX8_takeAway_11 cl_X8_90 (rfl) (t_X8_records _ Y.1 hC.1 hC.2.1 Y.2.1 hC.2.2.1) rfl (by decide) rfl (Nat.le_of_ble_eq_true rfl) rfl (fun v N11 hv => ?_)
    obtain ⟨rfl, hH, hO⟩ := hv
    have hC1 := hC.rec hH hO
    have hM1 := hO.cl
    refine mx_aload_n (pc' := 15) dX8_takeAway_14 rfl rfl ?_
    refine mx_iload_n (pc' := 16) dX8_takeAway_15 rfl rfl ?_
    refine mx_callV (pc' := 19) dX8_takeAway_16 cl_X8_101 (rfl) (t_X8_dropsEmitter N11 Y.1 hC1.1 r hr) rfl (by decide) rfl (Nat.le_of_ble_eq_true rfl) rfl (fun v N16 hv => ?_)
    obtain ⟨rfl, hF2, hO2⟩ := hv
    refine mx_aload_n (pc' := 20) dX8_takeAway_19 rfl rfl ?_
    refine mx_getr (pc' := 23) dX8_takeAway_20 fl_X8_7 (rfl) (by rfl) rfl ?_
    refine mx_iconst (pc' := 24) (v := nI 0) dX8_takeAway_23 (by decide) rfl ?_
    refine mx_iald (pc' := 25) (v := nI (Y.1.1.eraseIdx r).length) dX8_takeAway_24 (rfl) (rfl) (by decide) (hF2.E) rfl ?_
    refine mx_iret dX8_takeAway_25 (Or.inl rfl) ?_
    exact ⟨rfl, hC1.fld hF2 hC.2.1 hO2, hM1.tr hO2.cl⟩
  · have c5 := bI_0.mp c5
    refine mx_iconst (pc' := 9) (v := (-1)) dX8_takeAway_8 (by decide) rfl ?_
    refine mx_iret dX8_takeAway_9 (Or.inl rfl) ?_
    have e : oTakeAway x Y = ((-1), Y) := if_neg c5
    rw [e]
    exact ⟨rfl, hC, Cl.rf⟩

set_option maxHeartbeats 1000000 in
set_option maxRecDepth 10000 in
theorem t_X8_tick (M : mx_M) (Y : Sy) (hC : MoA M Y) (ht : Y.1.2.2.1 3 + 100 < 2147483648) (x : Int32) : mx_T yX8_tick cX8_tick 2 (some .int) 7 [.ref 143, .int x] M (fun v M' => v = some (.int (oTick x Y).1) ∧ MoA M' (oTick x Y).2 ∧ Cl M M') := by
  refine mx_T.of1 (own := RX8) (ls := [some (.ref 143), some (.int x)]) (by decide +kernel) rfl (Nat.le_of_ble_eq_true rfl) rfl rfl ?_
  refine mx_iload_n (pc' := 1) dX8_tick_0 rfl rfl ?_
  refine mx_iconst (pc' := 2) (v := (-1)) dX8_tick_1 (by decide) rfl ?_
  refine mx_iconst (pc' := 3) (v := nI 1) dX8_tick_2 (by decide) rfl ?_
  refine mx_callS (pc' := 6) dX8_tick_3 cl_X8_49 (t_X8_in M x (-1) (nI 1)) rfl (by decide) rfl (Nat.le_of_ble_eq_true rfl) rfl (fun v N3 hv => ?_)
  obtain ⟨rfl, hv⟩ := hv
  rw [hv]
  refine mx_if_ne (tgt := 11) (pc' := 9) dX8_tick_6 (by decide) rfl (fun c6 => ?_) (fun c6 => ?_)
  · have c6 := bI_n.mp c6
    have h4 := hC.2.1.2.2.2.1
    have e0 : oTick x Y = (if Y.1.2.2.1 4 = 0 then (nI (fPass (tN (x + nI 1)) Y.1).1, pushY Y (fPass (tN (x + nI 1)) Y.1).2) else ((-2), Y)) := if_pos c6
    rw [e0]
    obtain ⟨k, hk, rfl⟩ := st_of c6.1 c6.2
    rw [tN_d k hk]
    refine mx_aload_n (pc' := 12) dX8_tick_11 rfl rfl ?_
    refine mx_getr (pc' := 15) dX8_tick_12 fl_X8_7 (rfl) (by rfl) rfl ?_
    refine mx_bipush (pc' := 17) (v := nI 6) dX8_tick_15 (by decide) rfl ?_
    refine mx_iald (pc' := 18) (v := nI (Y.1.2.2.1 4)) dX8_tick_17 (rfl) (rfl) (by decide) (hC.1.sc 4 (by decide)) rfl ?_
    refine mx_iconst (pc' := 19) (v := nI 1) dX8_tick_18 (by decide) rfl ?_
    refine mx_icmp_ne (tgt := 25) (pc' := 22) dX8_tick_19 (by decide) rfl (fun c19 => ?_) (fun c19 => ?_)
    · have c19 : ¬ _ := fun z => c19 ((nI_eq (by omega) (by omega)).mpr z)
      have c19 : Y.1.2.2.1 4 = 0 := by omega
      rw [if_pos c19]
      refine mx_aload_n (pc' := 26) dX8_tick_25 rfl rfl ?_
      refine mx_callV (pc' := 29) dX8_tick_26 cl_X8_90 (rfl) (t_X8_records _ Y.1 hC.1 hC.2.1 Y.2.1 hC.2.2.1) rfl (by decide) rfl (Nat.le_of_ble_eq_true rfl) rfl (fun v N26 hv => ?_)
      obtain ⟨rfl, hH, hO⟩ := hv
      have hC1 := hC.rec hH hO
      have hM1 := hO.cl
      refine mx_aload_n (pc' := 30) dX8_tick_29 rfl rfl ?_
      refine mx_iload_n (pc' := 31) dX8_tick_30 rfl rfl ?_
      refine mx_callV (pc' := 34) dX8_tick_31 cl_X8_105 (rfl) (t_X8_goTick N26 Y.1 hC1.1 hC.2.1 c19 (by omega) k hk) rfl (by decide) rfl (Nat.le_of_ble_eq_true rfl) rfl (fun v N31 hv => ?_)
      obtain ⟨rfl, hF2, hO2⟩ := hv
      refine mx_iret dX8_tick_34 (Or.inl rfl) ?_
      exact ⟨rfl, hC1.fld hF2 (hC.2.1.pass k) hO2, hM1.tr hO2.cl⟩
    · have c19 := (nI_eq (by omega) (by omega)).mp c19
      rw [if_neg (show ¬ Y.1.2.2.1 4 = 0 by omega)]
      refine mx_bipush (pc' := 24) (v := (-2)) dX8_tick_22 (by decide) rfl ?_
      refine mx_iret dX8_tick_24 (Or.inl rfl) ?_
      exact ⟨rfl, hC, Cl.rf⟩
  · have c6 := bI_0.mp c6
    refine mx_iconst (pc' := 10) (v := (-1)) dX8_tick_9 (by decide) rfl ?_
    refine mx_iret dX8_tick_10 (Or.inl rfl) ?_
    have e : oTick x Y = ((-1), Y) := if_neg c6
    rw [e]
    exact ⟨rfl, hC, Cl.rf⟩

set_option maxHeartbeats 1000000 in
set_option maxRecDepth 10000 in
theorem t_X8_bomb (M : mx_M) (Y : Sy) (hC : MoA M Y) : mx_T yX8_bomb cX8_bomb 1 (some .int) 5 [.ref 143] M (fun v M' => v = some (.int (oBomb Y).1) ∧ MoA M' (oBomb Y).2 ∧ Cl M M') := by
  refine mx_T.of1 (own := RX8) (ls := [some (.ref 143)]) (by decide +kernel) rfl (Nat.le_of_ble_eq_true rfl) rfl rfl ?_
  refine mx_aload_n (pc' := 1) dX8_bomb_0 rfl rfl ?_
  refine mx_callV (pc' := 4) dX8_bomb_1 cl_X8_109 (rfl) (t_X8_canBomb M Y.1 hC.1 hC.2.1) rfl (by decide) rfl (Nat.le_of_ble_eq_true rfl) rfl (fun v N1 hv => ?_)
  obtain ⟨rfl, hv⟩ := hv
  rw [hv]
  refine mx_if_ne (tgt := 10) (pc' := 7) dX8_bomb_4 (by decide) rfl (fun c4 => ?_) (fun c4 => ?_)
  · have c4 := bI_n.mp c4
    have e0 : oBomb Y = (nI (fBomb Y.1).1, pushY Y (fBomb Y.1).2) := if_pos c4
    rw [e0]
    refine mx_aload_n (pc' := 11) dX8_bomb_10 rfl rfl ?_
    refine mx_callV (pc' := 14) dX8_bomb_11 cl_X8_90 (rfl) (t_X8_records _ Y.1 hC.1 hC.2.1 Y.2.1 hC.2.2.1) rfl (by decide) rfl (Nat.le_of_ble_eq_true rfl) rfl (fun v N11 hv => ?_)
    obtain ⟨rfl, hH, hO⟩ := hv
    have hC1 := hC.rec hH hO
    have hM1 := hO.cl
    refine mx_aload_n (pc' := 15) dX8_bomb_14 rfl rfl ?_
    refine mx_callV (pc' := 18) dX8_bomb_15 cl_X8_113 (rfl) (t_X8_goBomb N11 Y.1 hC1.1 hC.2.1 c4.2) rfl (by decide) rfl (Nat.le_of_ble_eq_true rfl) rfl (fun v N15 hv => ?_)
    obtain ⟨rfl, hF2, hO2⟩ := hv
    refine mx_iret dX8_bomb_18 (Or.inl rfl) ?_
    exact ⟨rfl, hC1.fld hF2 hC.2.1.bomb hO2, hM1.tr hO2.cl⟩
  · have c4 := bI_0.mp c4
    refine mx_bipush (pc' := 9) (v := (-2)) dX8_bomb_7 (by decide) rfl ?_
    refine mx_iret dX8_bomb_9 (Or.inl rfl) ?_
    have e : oBomb Y = ((-2), Y) := if_neg c4
    rw [e]
    exact ⟨rfl, hC, Cl.rf⟩

set_option maxHeartbeats 1000000 in
set_option maxRecDepth 10000 in
theorem l_X8_clearField (M0 M : mx_M) (Y : Sy) (hC : MoA M (Y.1, hPush Y.1 Y.2.1, Y.2.2.1, Y.2.2.2)) (hM : Cl M0 M) : ∀ (k : Nat) (i : Nat) (M1 : mx_M), 333 < i + k → i ≤ 333 → 33 ≤ i → Out M M1 144 145 → (∀ x, x < 33 → M1 144 x = M 144 x) → mx_V cX8_clearField RX8 3 (some .int) 1 14 [some (.ref 143), some (.int (nI Y.1.2.1.length)), some (.int (nI i))] [] M1 (fun v M' => v = some (.int (oClearField Y).1) ∧ MoA M' (oClearField Y).2 ∧ Cl M0 M') := by
  intro k
  induction k with
  | zero =>
    intro i M1 hk hi hi2 hO hj
    exact absurd hk (by omega)
  | succ k ih =>
    intro i M1 hk hi hi2 hO hj
    refine mx_iload_n (pc' := 15) dX8_clearField_14 rfl rfl ?_
    refine mx_sipush (pc' := 18) (v := nI 333) dX8_clearField_15 (by decide) rfl ?_
    refine mx_icmp_ge (tgt := 34) (pc' := 21) dX8_clearField_18 (by decide) rfl (fun c18 => ?_) (fun c18 => ?_)
    · have c18 := (nI_leI (by omega) (by omega)).mp c18
      refine mx_aload_n (pc' := 35) dX8_clearField_34 rfl rfl ?_
      refine mx_getr (pc' := 38) dX8_clearField_35 fl_X8_7 (rfl) (by rfl) rfl ?_
      refine mx_iconst (pc' := 39) (v := nI 1) dX8_clearField_38 (by decide) rfl ?_
      refine mx_iconst (pc' := 40) (v := nI 0) dX8_clearField_39 (by decide) rfl ?_
      refine mx_iast (pc' := 41) dX8_clearField_40 (rfl) (rfl) (by decide) rfl ?_
      have h4 := hC.1.eL.1
      have hF0 : MF (mx_up M1 144 1 (nI 0)) (Y.1.1, [], Y.1.2.2.1, Y.1.2.2.2) := by
        have g : ∀ x, x < 33 → x ≠ 1 → mx_up M1 144 1 (nI 0) 144 x = M 144 x := fun x h h1 => by rw [mx_up_fn, upd_ne _ _ h1]; exact hj x h
        exact MF.mk (F := (Y.1.1, [], Y.1.2.2.1, Y.1.2.2.2)) ((g 0 (by decide) (by decide)).trans hC.1.E) (by rw [mx_up_fn, upd_eq]; rfl) (fun j h => (g _ (by omega) (by omega)).trans (hC.1.sc j h)) (fun j h => (g _ (by omega) (by omega)).trans (hC.1.ac j h)) (fun j h => (g _ (by omega) (by omega)).trans (hC.1.st j h)) hC.1.eL ⟨Nat.zero_le _, fun x h => by simp at h⟩ (fun e x hx => (hC.1.em hx).fr fun j h => g _ (by have hl : e < Y.1.1.length := len_lt hx; have h4 : Y.1.1.length ≤ 4 := h4; omega) (by omega)) (fun e x hx => by simp at hx)
      refine mx_aload_n (pc' := 42) dX8_clearField_41 rfl rfl ?_
      refine mx_getr (pc' := 45) dX8_clearField_42 fl_X8_7 (rfl) (by rfl) rfl ?_
      refine mx_bipush (pc' := 47) (v := nI 12) dX8_clearField_45 (by decide) rfl ?_
      refine mx_dup2 (pc' := 48) dX8_clearField_47 rfl rfl rfl ?_
      refine mx_iald (pc' := 49) (v := Y.1.2.2.2 5) dX8_clearField_48 (rfl) (rfl) (by decide) (hF0.ac 5 (by decide)) rfl ?_
      refine mx_iload_n (pc' := 50) dX8_clearField_49 rfl rfl ?_
      refine mx_iadd (pc' := 51) dX8_clearField_50 (rfl) rfl ?_
      refine mx_iast (pc' := 52) dX8_clearField_51 (rfl) (rfl) (by decide) rfl ?_
      refine mx_aload_n (pc' := 53) dX8_clearField_52 rfl rfl ?_
      refine mx_getr (pc' := 56) dX8_clearField_53 fl_X8_7 (rfl) (by rfl) rfl ?_
      refine mx_bipush (pc' := 58) (v := nI 6) dX8_clearField_56 (by decide) rfl ?_
      refine mx_iconst (pc' := 59) (v := nI 0) dX8_clearField_58 (by decide) rfl ?_
      refine mx_iast (pc' := 60) dX8_clearField_59 (rfl) (rfl) (by decide) rfl ?_
      refine mx_aload_n (pc' := 61) dX8_clearField_60 rfl rfl ?_
      refine mx_getr (pc' := 64) dX8_clearField_61 fl_X8_7 (rfl) (by rfl) rfl ?_
      refine mx_iconst (pc' := 65) (v := nI 3) dX8_clearField_64 (by decide) rfl ?_
      refine mx_iconst (pc' := 66) (v := nI 3) dX8_clearField_65 (by decide) rfl ?_
      refine mx_iast (pc' := 67) dX8_clearField_66 (rfl) (rfl) (by decide) rfl ?_
      refine mx_aload_n (pc' := 68) dX8_clearField_67 rfl rfl ?_
      refine mx_getr (pc' := 71) dX8_clearField_68 fl_X8_7 (rfl) (by rfl) rfl ?_
      refine mx_iconst (pc' := 72) (v := nI 4) dX8_clearField_71 (by decide) rfl ?_
      refine mx_iconst (pc' := 73) (v := nI 2) dX8_clearField_72 (by decide) rfl ?_
      refine mx_iast (pc' := 74) dX8_clearField_73 (rfl) (rfl) (by decide) rfl ?_
      refine mx_iload_n (pc' := 75) dX8_clearField_74 rfl rfl ?_
      refine mx_iret dX8_clearField_75 (Or.inl rfl) ?_
      have hF9 := (((hF0.uac 5 (by decide) (Y.1.2.2.2 5 + nI Y.1.2.1.length)).usc 4 (by decide) 0).usc 1 (by decide) 3).usc 2 (by decide) 2
      have hO9 : MoS M (mx_up (mx_up (mx_up (mx_up (mx_up M1 144 1 (nI 0)) 144 12 (Y.1.2.2.2 5 + nI Y.1.2.1.length)) 144 6 (nI 0)) 144 3 (nI 3)) 144 4 (nI 2)) := MoS.up (MoS.up (MoS.up (MoS.up (MoS.up (fun q a b => hO q (by omega)) (Or.inl rfl)) (Or.inl rfl)) (Or.inl rfl)) (Or.inl rfl)) (Or.inl rfl)
      refine ⟨rfl, ?_, hM.tr hO9.cl⟩
      exact hC.fld (F := (fSweep Y.1).2) (hF9.eq (by
        show (Y.1.1, [], va_up (va_up (va_up Y.1.2.2.1 4 0) 1 3) 2 2, _) = (fSweep Y.1).2
        unfold fSweep
        dsimp only
        congr 3
        funext j
        unfold va_up
        by_cases h2 : j = 2
        · simp [h2]
        · by_cases h1 : j = 1
          · simp [h1]
          · by_cases h4 : j = 4 <;> simp [h1, h2, h4])) hC.2.1.sweep hO9
    · have c18 := Nat.not_le.mp (fun z => c18 ((nI_leI (by omega) (by omega)).mpr z))
      refine mx_aload_n (pc' := 22) dX8_clearField_21 rfl rfl ?_
      refine mx_getr (pc' := 25) dX8_clearField_22 fl_X8_7 (rfl) (by rfl) rfl ?_
      refine mx_iload_n (pc' := 26) dX8_clearField_25 rfl rfl ?_
      refine mx_iconst (pc' := 27) (v := nI 0) dX8_clearField_26 (by decide) rfl ?_
      refine mx_iast (pc' := 28) dX8_clearField_27 (rfl) (rfl) (by omega) rfl ?_
      refine mx_iinc (pc' := 31) (ls' := [_, _, _]) (v := nI (i + 1)) dX8_clearField_28 rfl (nI_add i 1) (by decide) (rfl) rfl rfl ?_
      refine mx_goto (pc' := 14) dX8_clearField_31 (by decide) ?_
      exact ih (i + 1) _ (by omega) (by omega) (by omega) (hO.up (by omega) (by omega)) (fun x h => by rw [mx_up_fn, upd_ne _ _ (by omega)]; exact hj x h)

set_option maxHeartbeats 1000000 in
set_option maxRecDepth 10000 in
theorem t_X8_clearField (M : mx_M) (Y : Sy) (hC : MoA M Y) : mx_T yX8_clearField cX8_clearField 3 (some .int) 3 [.ref 143] M (fun v M' => v = some (.int (oClearField Y).1) ∧ MoA M' (oClearField Y).2 ∧ Cl M M') := by
  refine mx_T.of1 (own := RX8) (ls := [some (.ref 143), none, none]) (by decide +kernel) rfl (Nat.le_of_ble_eq_true rfl) rfl rfl ?_
  refine mx_aload_n (pc' := 1) dX8_clearField_0 rfl rfl ?_
  refine mx_callV (pc' := 4) dX8_clearField_1 cl_X8_90 (rfl) (t_X8_records _ Y.1 hC.1 hC.2.1 Y.2.1 hC.2.2.1) rfl (by decide) rfl (Nat.le_of_ble_eq_true rfl) rfl (fun v N1 hv => ?_)
  obtain ⟨rfl, hH, hO⟩ := hv
  have hC1 := hC.rec hH hO
  have hM1 := hO.cl
  refine mx_aload_n (pc' := 5) dX8_clearField_4 rfl rfl ?_
  refine mx_getr (pc' := 8) dX8_clearField_5 fl_X8_7 (rfl) (by rfl) rfl ?_
  refine mx_iconst (pc' := 9) (v := nI 1) dX8_clearField_8 (by decide) rfl ?_
  refine mx_iald (pc' := 10) (v := nI Y.1.2.1.length) dX8_clearField_9 (rfl) (rfl) (by decide) (hC1.1.B) rfl ?_
  refine mx_istore_n (pc' := 11) (ls' := [_, _, _]) dX8_clearField_10 (by decide) (rfl) rfl rfl ?_
  refine mx_bipush (pc' := 13) (v := nI 33) dX8_clearField_11 (by decide) rfl ?_
  refine mx_istore_n (pc' := 14) (ls' := [_, _, _]) dX8_clearField_13 (by decide) (rfl) rfl rfl ?_
  exact (l_X8_clearField M N1 Y hC1 hM1 334 33 N1 (by omega) (by omega) (by omega) Out.rf (fun _ _ => rfl)).mono (by decide)

theorem set_ok {x y : Int32} (h : (0 ≤ x ∧ x ≤ nI 1) ∧ (if x = 0 then nI 0 else nI 1) ≤ y ∧ y ≤ (if x = 0 then nI 1 else nI 5)) : (x = 0 ∧ (y = 0 ∨ y = nI 1)) ∨ (x = nI 1 ∧ nI 1 ≤ y ∧ y ≤ nI 5) := by
  obtain ⟨⟨h1, h2⟩, h3, h4⟩ := h
  obtain ⟨k, -, hk, rfl⟩ := ge_of2 (m := 0) h1 h2 (by decide) (by decide)
  rcases (show k = 0 ∨ k = 1 by omega) with rfl | rfl
  · rw [if_pos (show nI 0 = 0 from rfl)] at h3 h4
    obtain ⟨n, -, hn, rfl⟩ := ge_of2 (m := 0) h3 h4 (by decide) (by decide)
    rcases (show n = 0 ∨ n = 1 by omega) with rfl | rfl
    · exact Or.inl ⟨rfl, Or.inl rfl⟩
    · exact Or.inl ⟨rfl, Or.inr rfl⟩
  · rw [if_neg (by decide)] at h3 h4
    exact Or.inr ⟨rfl, h3, h4⟩
theorem set_no {x y : Int32} (h : ¬ ((0 ≤ x ∧ x ≤ nI 1) ∧ (if x = 0 then nI 0 else nI 1) ≤ y ∧ y ≤ (if x = 0 then nI 1 else nI 5))) : ¬ ((x = 0 ∧ (y = 0 ∨ y = nI 1)) ∨ (x = nI 1 ∧ nI 1 ≤ y ∧ y ≤ nI 5)) := by
  rintro (⟨rfl, rfl | rfl⟩ | ⟨rfl, h1, h2⟩)
  · exact h (by decide)
  · exact h (by decide)
  · exact h ⟨by decide, by rw [if_neg (by decide)]; exact h1, by rw [if_neg (by decide)]; exact h2⟩
set_option maxHeartbeats 1000000 in
set_option maxRecDepth 10000 in
theorem t_X8_set (M : mx_M) (Y : Sy) (hC : MoA M Y) (x y : Int32) : mx_T yX8_set cX8_set 4 (some .int) 3 [.ref 143, .int x, .int y] M (fun v M' => v = some (.int (oSet x y Y).1) ∧ MoA M' (oSet x y Y).2 ∧ Cl M M') := by
  refine mx_T.of1 (own := RX8) (ls := [some (.ref 143), some (.int x), some (.int y), none]) (by decide +kernel) rfl (Nat.le_of_ble_eq_true rfl) rfl rfl ?_
  refine mx_iload_n (pc' := 1) dX8_set_0 rfl rfl ?_
  refine mx_iconst (pc' := 2) (v := nI 0) dX8_set_1 (by decide) rfl ?_
  refine mx_iconst (pc' := 3) (v := nI 1) dX8_set_2 (by decide) rfl ?_
  refine mx_callS (pc' := 6) dX8_set_3 cl_X8_49 (t_X8_in M x (nI 0) (nI 1)) rfl (by decide) rfl (Nat.le_of_ble_eq_true rfl) rfl (fun v N3 hv => ?_)
  obtain ⟨rfl, hv⟩ := hv
  rw [hv]
  refine mx_if_eq (tgt := 34) (pc' := 9) dX8_set_6 (by decide) rfl (fun c6 => ?_) (fun c6 => ?_)
  · have c6 := bI_0.mp c6
    refine mx_iconst (pc' := 35) (v := (-1)) dX8_set_34 (by decide) rfl ?_
    refine mx_iret dX8_set_35 (Or.inl rfl) ?_
    have e : oSet x y Y = ((-1), Y) := if_neg (set_no (fun z => c6 z.1))
    rw [e]
    exact ⟨rfl, hC, Cl.rf⟩
  · have c6 := bI_n.mp c6
    refine mx_iload_n (pc' := 10) dX8_set_9 rfl rfl ?_
    refine mx_iload_n (pc' := 11) dX8_set_10 rfl rfl ?_
    refine mx_if_ne (tgt := 18) (pc' := 14) dX8_set_11 (by decide) rfl (fun c11 => ?_) (fun c11 => ?_)
    · refine mx_iconst (pc' := 19) (v := (if x = 0 then nI 0 else nI 1)) dX8_set_18 (by rw [if_neg c11]; decide) rfl ?_
      refine mx_iload_n (pc' := 20) dX8_set_19 rfl rfl ?_
      refine mx_if_ne (tgt := 27) (pc' := 23) dX8_set_20 (by decide) rfl (fun c20 => ?_) (fun c20 => ?_)
      · refine mx_iconst (pc' := 28) (v := (if x = 0 then nI 1 else nI 5)) dX8_set_27 (by rw [if_neg c11]; decide) rfl ?_
        refine mx_callS (pc' := 31) dX8_set_28 cl_X8_49 (t_X8_in M y _ _) rfl (by decide) rfl (Nat.le_of_ble_eq_true rfl) rfl (fun v N28 hv => ?_)
        obtain ⟨rfl, hv⟩ := hv
        rw [hv]
        refine mx_if_ne (tgt := 36) (pc' := 34) dX8_set_31 (by decide) rfl (fun c31 => ?_) (fun c31 => ?_)
        · have c5 := set_ok ⟨c6, bI_n.mp c31⟩
          have e0 : oSet x y Y = (nI (Y.1.2.2.1 (5 + tN x)), pushY Y (Y.1.1, Y.1.2.1, va_up Y.1.2.2.1 (5 + tN x) (tN y), Y.1.2.2.2)) := if_pos c5
          rw [e0]
          clear c11 c31 c6
          obtain ⟨k, n, hk, rfl, rfl, hkn⟩ : ∃ k n : Nat, k < 2 ∧ x = nI k ∧ y = nI n ∧ ((k = 0 ∧ n < 2) ∨ (k = 1 ∧ 1 ≤ n ∧ n ≤ 5)) := by
            rcases c5 with ⟨rfl, h⟩ | ⟨rfl, h1, h2⟩
            · rcases h with rfl | rfl
              · exact ⟨0, 0, by decide, rfl, rfl, Or.inl ⟨rfl, by decide⟩⟩
              · exact ⟨0, 1, by decide, rfl, rfl, Or.inl ⟨rfl, by decide⟩⟩
            · obtain ⟨j, h3, h4, rfl⟩ := ge_of2 h1 h2 (by decide) (by decide)
              exact ⟨1, j, by decide, rfl, rfl, Or.inr ⟨rfl, h3, h4⟩⟩
          rw [tN_n (by omega), tN_n (by omega)]
          refine mx_aload_n (pc' := 37) dX8_set_36 rfl rfl ?_
          refine mx_callV (pc' := 40) dX8_set_37 cl_X8_90 (rfl) (t_X8_records _ Y.1 hC.1 hC.2.1 Y.2.1 hC.2.2.1) rfl (by decide) rfl (Nat.le_of_ble_eq_true rfl) rfl (fun v N37 hv => ?_)
          obtain ⟨rfl, hH, hO⟩ := hv
          have hC1 := hC.rec hH hO
          have hM1 := hO.cl
          refine mx_aload_n (pc' := 41) dX8_set_40 rfl rfl ?_
          refine mx_getr (pc' := 44) dX8_set_41 fl_X8_7 (rfl) (by rfl) rfl ?_
          refine mx_bipush (pc' := 46) (v := nI 15) dX8_set_44 (by decide) rfl ?_
          refine mx_iload_n (pc' := 47) dX8_set_46 rfl rfl ?_
          refine mx_iadd (pc' := 48) (v := nI (15 + k)) dX8_set_47 (nI_add 15 k) rfl ?_
          refine mx_iald (pc' := 49) (v := nI (Y.1.2.2.1 (5 + k))) dX8_set_48 (rfl) (rfl) (by omega) (hC1.1.st k hk) rfl ?_
          refine mx_istore_n (pc' := 50) (ls' := [_, _, _, _]) dX8_set_49 (by decide) (rfl) rfl rfl ?_
          refine mx_aload_n (pc' := 51) dX8_set_50 rfl rfl ?_
          refine mx_getr (pc' := 54) dX8_set_51 fl_X8_7 (rfl) (by rfl) rfl ?_
          refine mx_bipush (pc' := 56) (v := nI 15) dX8_set_54 (by decide) rfl ?_
          refine mx_iload_n (pc' := 57) dX8_set_56 rfl rfl ?_
          refine mx_iadd (pc' := 58) (v := nI (15 + k)) dX8_set_57 (nI_add 15 k) rfl ?_
          refine mx_iload_n (pc' := 59) dX8_set_58 rfl rfl ?_
          refine mx_iast (pc' := 60) dX8_set_59 (rfl) (rfl) (by omega) rfl ?_
          refine mx_iload_n (pc' := 61) dX8_set_60 rfl rfl ?_
          refine mx_iret dX8_set_61 (Or.inl rfl) ?_
          have hF2 := hC1.1.ust k hk n
          refine ⟨rfl, hC1.fld hF2 ?_ (MoS.rf.up (Or.inl rfl)), hM1.tr (MoS.rf.up (Or.inl rfl)).cl⟩
          obtain ⟨v0, v1, v2, v4, v5, v6, v7⟩ := hC.2.1
          rcases hkn with ⟨rfl, hn⟩ | ⟨rfl, hn, hn'⟩
          · exact ⟨v0, v1, v2, v4, hn, v6, v7⟩
          · exact ⟨v0, v1, v2, v4, v5, hn, hn'⟩
        · have c31 := bI_0.mp c31
          refine mx_iconst (pc' := 35) (v := (-1)) dX8_set_34 (by decide) rfl ?_
          refine mx_iret dX8_set_35 (Or.inl rfl) ?_
          have e : oSet x y Y = ((-1), Y) := if_neg (set_no (fun z => c31 z.2))
          rw [e]
          exact ⟨rfl, hC, Cl.rf⟩
      · exact absurd c20 c11
    · refine mx_iconst (pc' := 15) (v := (if x = 0 then nI 0 else nI 1)) dX8_set_14 (by rw [if_pos c11]; decide) rfl ?_
      refine mx_goto (pc' := 19) dX8_set_15 (by decide) ?_
      refine mx_iload_n (pc' := 20) dX8_set_19 rfl rfl ?_
      refine mx_if_ne (tgt := 27) (pc' := 23) dX8_set_20 (by decide) rfl (fun c20 => ?_) (fun c20 => ?_)
      · exact absurd c11 c20
      · refine mx_iconst (pc' := 24) (v := (if x = 0 then nI 1 else nI 5)) dX8_set_23 (by rw [if_pos c11]; decide) rfl ?_
        refine mx_goto (pc' := 28) dX8_set_24 (by decide) ?_
        refine mx_callS (pc' := 31) dX8_set_28 cl_X8_49 (t_X8_in M y _ _) rfl (by decide) rfl (Nat.le_of_ble_eq_true rfl) rfl (fun v N28 hv => ?_)
        obtain ⟨rfl, hv⟩ := hv
        rw [hv]
        refine mx_if_ne (tgt := 36) (pc' := 34) dX8_set_31 (by decide) rfl (fun c31 => ?_) (fun c31 => ?_)
        · have c5 := set_ok ⟨c6, bI_n.mp c31⟩
          have e0 : oSet x y Y = (nI (Y.1.2.2.1 (5 + tN x)), pushY Y (Y.1.1, Y.1.2.1, va_up Y.1.2.2.1 (5 + tN x) (tN y), Y.1.2.2.2)) := if_pos c5
          rw [e0]
          clear c11 c31 c6
          obtain ⟨k, n, hk, rfl, rfl, hkn⟩ : ∃ k n : Nat, k < 2 ∧ x = nI k ∧ y = nI n ∧ ((k = 0 ∧ n < 2) ∨ (k = 1 ∧ 1 ≤ n ∧ n ≤ 5)) := by
            rcases c5 with ⟨rfl, h⟩ | ⟨rfl, h1, h2⟩
            · rcases h with rfl | rfl
              · exact ⟨0, 0, by decide, rfl, rfl, Or.inl ⟨rfl, by decide⟩⟩
              · exact ⟨0, 1, by decide, rfl, rfl, Or.inl ⟨rfl, by decide⟩⟩
            · obtain ⟨j, h3, h4, rfl⟩ := ge_of2 h1 h2 (by decide) (by decide)
              exact ⟨1, j, by decide, rfl, rfl, Or.inr ⟨rfl, h3, h4⟩⟩
          rw [tN_n (by omega), tN_n (by omega)]
          refine mx_aload_n (pc' := 37) dX8_set_36 rfl rfl ?_
          refine mx_callV (pc' := 40) dX8_set_37 cl_X8_90 (rfl) (t_X8_records _ Y.1 hC.1 hC.2.1 Y.2.1 hC.2.2.1) rfl (by decide) rfl (Nat.le_of_ble_eq_true rfl) rfl (fun v N37 hv => ?_)
          obtain ⟨rfl, hH, hO⟩ := hv
          have hC1 := hC.rec hH hO
          have hM1 := hO.cl
          refine mx_aload_n (pc' := 41) dX8_set_40 rfl rfl ?_
          refine mx_getr (pc' := 44) dX8_set_41 fl_X8_7 (rfl) (by rfl) rfl ?_
          refine mx_bipush (pc' := 46) (v := nI 15) dX8_set_44 (by decide) rfl ?_
          refine mx_iload_n (pc' := 47) dX8_set_46 rfl rfl ?_
          refine mx_iadd (pc' := 48) (v := nI (15 + k)) dX8_set_47 (nI_add 15 k) rfl ?_
          refine mx_iald (pc' := 49) (v := nI (Y.1.2.2.1 (5 + k))) dX8_set_48 (rfl) (rfl) (by omega) (hC1.1.st k hk) rfl ?_
          refine mx_istore_n (pc' := 50) (ls' := [_, _, _, _]) dX8_set_49 (by decide) (rfl) rfl rfl ?_
          refine mx_aload_n (pc' := 51) dX8_set_50 rfl rfl ?_
          refine mx_getr (pc' := 54) dX8_set_51 fl_X8_7 (rfl) (by rfl) rfl ?_
          refine mx_bipush (pc' := 56) (v := nI 15) dX8_set_54 (by decide) rfl ?_
          refine mx_iload_n (pc' := 57) dX8_set_56 rfl rfl ?_
          refine mx_iadd (pc' := 58) (v := nI (15 + k)) dX8_set_57 (nI_add 15 k) rfl ?_
          refine mx_iload_n (pc' := 59) dX8_set_58 rfl rfl ?_
          refine mx_iast (pc' := 60) dX8_set_59 (rfl) (rfl) (by omega) rfl ?_
          refine mx_iload_n (pc' := 61) dX8_set_60 rfl rfl ?_
          refine mx_iret dX8_set_61 (Or.inl rfl) ?_
          have hF2 := hC1.1.ust k hk n
          refine ⟨rfl, hC1.fld hF2 ?_ (MoS.rf.up (Or.inl rfl)), hM1.tr (MoS.rf.up (Or.inl rfl)).cl⟩
          obtain ⟨v0, v1, v2, v4, v5, v6, v7⟩ := hC.2.1
          rcases hkn with ⟨rfl, hn⟩ | ⟨rfl, hn, hn'⟩
          · exact ⟨v0, v1, v2, v4, hn, v6, v7⟩
          · exact ⟨v0, v1, v2, v4, v5, hn, hn'⟩
        · have c31 := bI_0.mp c31
          refine mx_iconst (pc' := 35) (v := (-1)) dX8_set_34 (by decide) rfl ?_
          refine mx_iret dX8_set_35 (Or.inl rfl) ?_
          have e : oSet x y Y = ((-1), Y) := if_neg (set_no (fun z => c31 z.2))
          rw [e]
          exact ⟨rfl, hC, Cl.rf⟩

set_option maxHeartbeats 1000000 in
set_option maxRecDepth 10000 in
theorem t_X8_append (M : mx_M) (Y : Sy) (hC : MoA M Y) (x : Int32) : mx_T yX8_append cX8_append 2 (some .int) 2 [.ref 143, .int x] M (fun v M' => v = some (.int (oAppend x Y).1) ∧ MoA M' (oAppend x Y).2 ∧ Cl M M') := by
  refine mx_T.of1 (own := RX8) (ls := [some (.ref 143), some (.int x)]) (by decide +kernel) rfl (Nat.le_of_ble_eq_true rfl) rfl rfl ?_
  refine mx_iload_n (pc' := 1) dX8_append_0 rfl rfl ?_
  refine mx_bipush (pc' := 3) (v := nI 33) dX8_append_1 (by decide) rfl ?_
  refine mx_bipush (pc' := 5) (v := nI 126) dX8_append_3 (by decide) rfl ?_
  refine mx_callS (pc' := 8) dX8_append_5 cl_X8_49 (t_X8_in M x (nI 33) (nI 126)) rfl (by decide) rfl (Nat.le_of_ble_eq_true rfl) rfl (fun v N5 hv => ?_)
  obtain ⟨rfl, hv⟩ := hv
  rw [hv]
  refine mx_if_ne (tgt := 13) (pc' := 11) dX8_append_8 (by decide) rfl (fun c8 => ?_) (fun c8 => ?_)
  · have c8 := bI_n.mp c8
    have e0 : oAppend x Y = (if Y.2.2.2.length = 60 then ((-3), Y) else (nI (Y.2.2.2.length + 1), (Y.1, Y.2.1, Y.2.2.1, Y.2.2.2 ++ [tN x]))) := if_pos c8
    rw [e0]
    obtain ⟨c, hc, hc', rfl⟩ := ge_of2 c8.1 c8.2 (by decide) (by decide)
    rw [tN_n (by omega)]
    have h60 := hC.2.2.2.2.2.1
    refine mx_aload_n (pc' := 14) dX8_append_13 rfl rfl ?_
    refine mx_getf (pc' := 17) (v := nI Y.2.2.2.length) dX8_append_14 fl_X8_116 (rfl) (by rfl) (hC.2.2.2.2.1) rfl ?_
    refine mx_bipush (pc' := 19) (v := nI 60) dX8_append_17 (by decide) rfl ?_
    refine mx_icmp_ne (tgt := 25) (pc' := 22) dX8_append_19 (by decide) rfl (fun c19 => ?_) (fun c19 => ?_)
    · have c19 : ¬ _ := fun z => c19 ((nI_eq (by omega) (by omega)).mpr z)
      rw [if_neg c19]
      refine mx_aload_n (pc' := 26) dX8_append_25 rfl rfl ?_
      refine mx_getr (pc' := 29) dX8_append_26 fl_X8_22 (rfl) (by rfl) rfl ?_
      refine mx_aload_n (pc' := 30) dX8_append_29 rfl rfl ?_
      refine mx_getf (pc' := 33) (v := nI Y.2.2.2.length) dX8_append_30 fl_X8_116 (rfl) (by rfl) (hC.2.2.2.2.1) rfl ?_
      refine mx_iload_n (pc' := 34) dX8_append_33 rfl rfl ?_
      refine mx_iast (pc' := 35) dX8_append_34 (rfl) (rfl) (by omega) rfl ?_
      refine mx_aload_n (pc' := 36) dX8_append_35 rfl rfl ?_
      refine mx_dup (pc' := 37) dX8_append_36 rfl rfl ?_
      refine mx_getf (pc' := 40) (v := nI Y.2.2.2.length) dX8_append_37 fl_X8_116 (rfl) (by rfl) (by rw [mx_up_ne (by decide)]; exact hC.2.2.2.2.1) rfl ?_
      refine mx_iconst (pc' := 41) (v := nI 1) dX8_append_40 (by decide) rfl ?_
      refine mx_iadd (pc' := 42) (v := nI (Y.2.2.2.length + 1)) dX8_append_41 (nI_add _ 1) rfl ?_
      refine mx_putf (pc' := 45) dX8_append_42 fl_X8_116 (rfl) (by rfl) (⟨rfl, rfl⟩) rfl ?_
      refine mx_aload_n (pc' := 46) dX8_append_45 rfl rfl ?_
      refine mx_getf (pc' := 49) (v := nI (Y.2.2.2.length + 1)) dX8_append_46 fl_X8_116 (rfl) (by rfl) (mx_up_eq _ _ _ _) rfl ?_
      refine mx_iret dX8_append_49 (Or.inl rfl) ?_
      have hz : ∀ q, q ≠ 143 → q ≠ 148 → mx_up (mx_up M 148 Y.2.2.2.length (nI c)) 143 7 (nI (Y.2.2.2.length + 1)) q = M q := fun q h1 h2 => by rw [mx_up_ne h1, mx_up_ne h2]
      have hz3 : ∀ j, j ≠ 7 → mx_up (mx_up M 148 Y.2.2.2.length (nI c)) 143 7 (nI (Y.2.2.2.length + 1)) 143 j = M 143 j := fun j h => by rw [mx_up_fn, upd_ne _ _ h, mx_up_ne (by decide)]
      refine ⟨rfl, ⟨hC.1.fr (hz 144 (by decide) (by decide)), hC.2.1, hC.2.2.1.fr (hz3 3 (by decide)) (hz 146 (by decide) (by decide)), hC.2.2.2.1.fr (hz3 5 (by decide)) (hz 147 (by decide) (by decide)), by rw [mx_up_eq, List.length_append]; rfl, by rw [List.length_append]; show _ + 1 ≤ 60; omega, fun x hx => ?_, fun j x hx => ?_⟩, fun q hq => hz q (by omega) (by omega)⟩
      · rcases List.mem_append.mp hx with hx | hx
        · exact hC.2.2.2.2.2.2.1 x hx
        · rw [List.mem_singleton.mp hx]; omega
      · rw [mx_up_ne (by decide), mx_up_fn]
        have hx : (Y.2.2.2 ++ [c])[j]? = some x := hx
        by_cases hj : j < Y.2.2.2.length
        · rw [List.getElem?_append_left hj] at hx
          rw [upd_ne _ _ (by omega)]
          exact hC.2.2.2.2.2.2.2 j x hx
        · have hl2 := len_lt hx
          rw [List.length_append, List.length_singleton] at hl2
          obtain rfl : j = Y.2.2.2.length := by omega
          rw [List.getElem?_append_right (Nat.le_refl _), Nat.sub_self] at hx
          cases hx
          rw [upd_eq]
    · have c19 := (nI_eq (by omega) (by omega)).mp c19
      rw [if_pos c19]
      refine mx_bipush (pc' := 24) (v := (-3)) dX8_append_22 (by decide) rfl ?_
      refine mx_iret dX8_append_24 (Or.inl rfl) ?_
      exact ⟨rfl, hC, Cl.rf⟩
  · have c8 := bI_0.mp c8
    refine mx_iconst (pc' := 12) (v := (-1)) dX8_append_11 (by decide) rfl ?_
    refine mx_iret dX8_append_12 (Or.inl rfl) ?_
    have e : oAppend x Y = ((-1), Y) := if_neg c8
    rw [e]
    exact ⟨rfl, hC, Cl.rf⟩

set_option maxHeartbeats 1000000 in
set_option maxRecDepth 10000 in
theorem t_X8_clear (M : mx_M) (Y : Sy) (hC : MoA M Y) : mx_T yX8_clear cX8_clear 2 (some .int) 1 [.ref 143] M (fun v M' => v = some (.int (oClear Y).1) ∧ MoA M' (oClear Y).2 ∧ Cl M M') := by
  refine mx_T.of1 (own := RX8) (ls := [some (.ref 143), none]) (by decide +kernel) rfl (Nat.le_of_ble_eq_true rfl) rfl rfl ?_
  refine mx_aload_n (pc' := 1) dX8_clear_0 rfl rfl ?_
  refine mx_getf (pc' := 4) (v := nI Y.2.2.2.length) dX8_clear_1 fl_X8_116 (rfl) (by rfl) (hC.2.2.2.2.1) rfl ?_
  refine mx_istore_n (pc' := 5) (ls' := [_, _]) dX8_clear_4 (by decide) (rfl) rfl rfl ?_
  refine mx_aload_n (pc' := 6) dX8_clear_5 rfl rfl ?_
  refine mx_iconst (pc' := 7) (v := nI 0) dX8_clear_6 (by decide) rfl ?_
  refine mx_putf (pc' := 10) dX8_clear_7 fl_X8_116 (rfl) (by rfl) (⟨rfl, rfl⟩) rfl ?_
  refine mx_iload_n (pc' := 11) dX8_clear_10 rfl rfl ?_
  refine mx_iret dX8_clear_11 (Or.inl rfl) ?_
  have hz3 : ∀ j, j ≠ 7 → mx_up M 143 7 (nI 0) 143 j = M 143 j := fun j h => by rw [mx_up_fn, upd_ne _ _ h]
  have hCc : MoA (mx_up M 143 7 (nI 0)) (Y.1, Y.2.1, Y.2.2.1, []) := ⟨hC.1.fr (mx_up_ne (by decide)), hC.2.1, hC.2.2.1.fr (hz3 3 (by decide)) (mx_up_ne (by decide)), hC.2.2.2.1.fr (hz3 5 (by decide)) (mx_up_ne (by decide)), mx_up_eq _ _ _ _, Nat.zero_le _, fun c h => by simp at h, fun j c h => by simp at h⟩
  have hClc : Cl M (mx_up M 143 7 (nI 0)) := fun q hq => mx_up_ne (by omega)
  exact ⟨rfl, hCc, hClc⟩

set_option maxHeartbeats 1000000 in
set_option maxRecDepth 10000 in
theorem t_X8_undo (M : mx_M) (Y : Sy) (hC : MoA M Y) : mx_T yX8_undo cX8_undo 1 (some .int) 2 [.ref 143] M (fun v M' => v = some (.int (oUndo Y).1) ∧ MoA M' (oUndo Y).2 ∧ Cl M M') := by
  have h4 := hC.2.2.1.2.1
  refine mx_T.of1 (own := RX8) (ls := [some (.ref 143)]) (by decide +kernel) rfl (Nat.le_of_ble_eq_true rfl) rfl rfl ?_
  refine mx_aload_n (pc' := 1) dX8_undo_0 rfl rfl ?_
  refine mx_getf (pc' := 4) (v := nI Y.2.1.length) dX8_undo_1 fl_X8_41 (rfl) (by rfl) (hC.2.2.1.1) rfl ?_
  refine mx_if_ne (tgt := 10) (pc' := 7) dX8_undo_4 (by decide) rfl (fun c4 => ?_) (fun c4 => ?_)
  · have c4 : Y.2.1 ≠ [] := fun z => c4 (by rw [z]; rfl)
    obtain ⟨H, G, hH⟩ : ∃ H G, Y.2.1 = H ++ [G] := ⟨_, _, (List.dropLast_concat_getLast c4).symm⟩
    have e : oUndo Y = (nI H.length, (G, H, Y.2.2.1, Y.2.2.2)) := by
      unfold oUndo
      rw [hH, List.getLast?_concat]
      simp
    rw [e]
    have hA : MhA M (H ++ [G]) := hH ▸ hC.2.2.1
    have hAl := hA.2.1
    rw [List.length_append, List.length_singleton] at hAl
    have hG := hA.2.2 H.length G (by rw [List.getElem?_append_right (Nat.le_refl _), Nat.sub_self]; rfl)
    refine mx_aload_n (pc' := 11) dX8_undo_10 rfl rfl ?_
    refine mx_dup (pc' := 12) dX8_undo_11 rfl rfl ?_
    refine mx_getf (pc' := 15) (v := nI (H.length + 1)) dX8_undo_12 fl_X8_41 (rfl) (by rfl) (hA.1.trans (congrArg nI (by rw [List.length_append]; rfl))) rfl ?_
    refine mx_iconst (pc' := 16) (v := nI 1) dX8_undo_15 (by decide) rfl ?_
    refine mx_isub (pc' := 17) (v := nI H.length) dX8_undo_16 (pk_sub (b := 1) (by omega)) rfl ?_
    refine mx_putf (pc' := 20) dX8_undo_17 fl_X8_41 (rfl) (by rfl) (⟨rfl, rfl⟩) rfl ?_
    refine mx_aload_n (pc' := 21) dX8_undo_20 rfl rfl ?_
    refine mx_getr (pc' := 24) dX8_undo_21 fl_X8_16 (rfl) (by rfl) rfl ?_
    refine mx_sipush (pc' := 27) (v := nI 333) dX8_undo_24 (by decide) rfl ?_
    refine mx_aload_n (pc' := 28) dX8_undo_27 rfl rfl ?_
    refine mx_getf (pc' := 31) (v := nI H.length) dX8_undo_28 fl_X8_41 (rfl) (by rfl) (mx_up_eq _ _ _ _) rfl ?_
    refine mx_imul (pc' := 32) (v := nI (333 * H.length)) dX8_undo_31 (pk_mul 333 _) rfl ?_
    refine mx_aload_n (pc' := 33) dX8_undo_32 rfl rfl ?_
    refine mx_getr (pc' := 36) dX8_undo_33 fl_X8_7 (rfl) (by rfl) rfl ?_
    refine mx_iconst (pc' := 37) (v := nI 0) dX8_undo_36 (by decide) rfl ?_
    refine mx_callS (pc' := 40) dX8_undo_37 cl_X8_45 (t_X8_copies _ 146 144 (333 * H.length) 0 1332 333 rfl rfl (by omega) (by decide) (by decide)) rfl (by decide) rfl (Nat.le_of_ble_eq_true rfl) rfl (fun v N37 hv => ?_)
    obtain ⟨rfl, hO2, hj⟩ := hv
    refine mx_aload_n (pc' := 41) dX8_undo_40 rfl rfl ?_
    refine mx_getf (pc' := 44) (v := nI H.length) dX8_undo_41 fl_X8_41 (rfl) (by rfl) (by rw [hO2 143 (by omega)]; exact mx_up_eq _ _ _ _) rfl ?_
    refine mx_iret dX8_undo_44 (Or.inl rfl) ?_
    have hz : ∀ q, q ≠ 143 → q ≠ 144 → N37 q = M q := fun q h1 h2 => by rw [hO2 q (by omega), mx_up_ne h1]
    have hz3 : ∀ j, j ≠ 3 → N37 143 j = M 143 j := fun j h => by rw [hO2 143 (by omega), mx_up_fn, upd_ne _ _ h]
    refine ⟨rfl, ⟨?_, hG.2, ⟨by rw [hO2 143 (by omega)]; exact mx_up_eq _ _ _ _, by show H.length ≤ 4; omega, fun k K hK => ?_⟩, hC.2.2.2.1.fr (hz3 5 (by decide)) (hz 147 (by decide) (by decide)), hC.2.2.2.2.fr (hz3 7 (by decide)) (hz 148 (by decide) (by decide))⟩, fun q hq => hz q (by omega) (by omega)⟩
    · refine EncF.fr hG.1 fun j h => ?_
      rw [hj, if_pos (by omega), mx_up_ne (by decide)]
      congr 1; omega
    · have hl := len_lt hK
      rw [hz 146 (by decide) (by decide)]
      exact hA.2.2 k K (by rw [List.getElem?_append_left hl]; exact hK)
  · have c4 : Y.2.1.length = 0 := (nI_eq (a := Y.2.1.length) (b := 0) (by omega) (by omega)).mp c4
    have e : oUndo Y = ((-2), Y) := by
      unfold oUndo
      rw [List.eq_nil_of_length_eq_zero c4]; rfl
    rw [e]
    refine mx_bipush (pc' := 9) (v := (-2)) dX8_undo_7 (by decide) rfl ?_
    refine mx_iret dX8_undo_9 (Or.inl rfl) ?_
    exact ⟨rfl, hC, Cl.rf⟩

set_option maxHeartbeats 1000000 in
set_option maxRecDepth 10000 in
theorem t_X8_save (M : mx_M) (Y : Sy) (hC : MoA M Y) : mx_T yX8_save cX8_save 1 (some .int) 2 [.ref 143] M (fun v M' => v = some (.int (oSave Y).1) ∧ MoA M' (oSave Y).2 ∧ Cl M M') := by
  refine mx_T.of1 (own := RX8) (ls := [some (.ref 143)]) (by decide +kernel) rfl (Nat.le_of_ble_eq_true rfl) rfl rfl ?_
  refine mx_aload_n (pc' := 1) dX8_save_0 rfl rfl ?_
  refine mx_getr (pc' := 4) dX8_save_1 fl_X8_7 (rfl) (by rfl) rfl ?_
  refine mx_iconst (pc' := 5) (v := nI 0) dX8_save_4 (by decide) rfl ?_
  refine mx_aload_n (pc' := 6) dX8_save_5 rfl rfl ?_
  refine mx_getr (pc' := 9) dX8_save_6 fl_X8_19 (rfl) (by rfl) rfl ?_
  refine mx_iconst (pc' := 10) (v := nI 0) dX8_save_9 (by decide) rfl ?_
  refine mx_callS (pc' := 13) dX8_save_10 cl_X8_45 (t_X8_copies M 144 147 0 0 333 333 rfl rfl (by decide) (by decide) (by decide)) rfl (by decide) rfl (Nat.le_of_ble_eq_true rfl) rfl (fun v N10 hv => ?_)
  obtain ⟨rfl, hO2, hj⟩ := hv
  refine mx_aload_n (pc' := 14) dX8_save_13 rfl rfl ?_
  refine mx_iconst (pc' := 15) (v := nI 1) dX8_save_14 (by decide) rfl ?_
  refine mx_putf (pc' := 18) dX8_save_15 fl_X8_177 (rfl) (by rfl) (⟨by decide, by decide⟩) rfl ?_
  refine mx_aload_n (pc' := 19) dX8_save_18 rfl rfl ?_
  refine mx_getr (pc' := 22) dX8_save_19 fl_X8_7 (rfl) (by rfl) rfl ?_
  refine mx_iconst (pc' := 23) (v := nI 5) dX8_save_22 (by decide) rfl ?_
  refine mx_iald (pc' := 24) (v := nI (Y.1.2.2.1 3)) dX8_save_23 (rfl) (rfl) (by decide) (by rw [mx_up_ne (by decide), hO2 144 (by omega)]; exact hC.1.sc 3 (by decide)) rfl ?_
  refine mx_iret dX8_save_24 (Or.inl rfl) ?_
  have hz : ∀ q, q ≠ 143 → q ≠ 147 → mx_up N10 143 5 (nI 1) q = M q := fun q h1 h2 => by rw [mx_up_ne h1, hO2 q (by omega)]
  have hz3 : ∀ j, j ≠ 5 → mx_up N10 143 5 (nI 1) 143 j = M 143 j := fun j h => by rw [mx_up_fn, upd_ne _ _ h, hO2 143 (by omega)]
  refine ⟨rfl, ⟨hC.1.fr (hz 144 (by decide) (by decide)), hC.2.1, hC.2.2.1.fr (hz3 3 (by decide)) (hz 146 (by decide) (by decide)), ⟨mx_up_eq _ _ _ _, ?_, hC.2.1⟩, hC.2.2.2.2.fr (hz3 7 (by decide)) (hz 148 (by decide) (by decide))⟩, fun q hq => hz q (by omega) (by omega)⟩
  refine EncF.fr hC.1 fun j h => ?_
  rw [mx_up_ne (by decide), hj, if_pos (by omega)]
  congr 1; omega

set_option maxHeartbeats 1000000 in
set_option maxRecDepth 10000 in
theorem t_X8_restore (M : mx_M) (Y : Sy) (hC : MoA M Y) : mx_T yX8_restore cX8_restore 1 (some .int) 3 [.ref 143] M (fun v M' => v = some (.int (oRestore Y).1) ∧ MoA M' (oRestore Y).2 ∧ Cl M M') := by
  refine mx_T.of1 (own := RX8) (ls := [some (.ref 143)]) (by decide +kernel) rfl (Nat.le_of_ble_eq_true rfl) rfl rfl ?_
  refine mx_aload_n (pc' := 1) dX8_restore_0 rfl rfl ?_
  refine mx_getf (pc' := 4) dX8_restore_1 fl_X8_177 (rfl) (by rfl) (rfl) rfl ?_
  refine mx_if_ne (tgt := 10) (pc' := 7) dX8_restore_4 (by decide) rfl (fun c4 => ?_) (fun c4 => ?_)
  · obtain ⟨G, hG⟩ : ∃ G, Y.2.2.1 = some G := by
      cases hz : Y.2.2.1 with
      | some G => exact ⟨G, rfl⟩
      | none =>
        have h3 := hC.2.2.2.1
        rw [hz] at h3
        exact absurd h3 c4
    have hS := hC.2.2.2.1
    rw [hG] at hS
    have e : oRestore Y = (nI (G.2.2.1 3), (G, hPush Y.1 Y.2.1, some G, Y.2.2.2)) := by
      unfold oRestore
      rw [hG]
    rw [e]
    refine mx_aload_n (pc' := 11) dX8_restore_10 rfl rfl ?_
    refine mx_callV (pc' := 14) dX8_restore_11 cl_X8_90 (rfl) (t_X8_records _ Y.1 hC.1 hC.2.1 Y.2.1 hC.2.2.1) rfl (by decide) rfl (Nat.le_of_ble_eq_true rfl) rfl (fun v N11 hv => ?_)
    obtain ⟨rfl, hH, hO⟩ := hv
    have hC1 := hC.rec hH hO
    have hM1 := hO.cl
    refine mx_aload_n (pc' := 15) dX8_restore_14 rfl rfl ?_
    refine mx_getr (pc' := 18) dX8_restore_15 fl_X8_19 (rfl) (by rfl) rfl ?_
    refine mx_iconst (pc' := 19) (v := nI 0) dX8_restore_18 (by decide) rfl ?_
    refine mx_aload_n (pc' := 20) dX8_restore_19 rfl rfl ?_
    refine mx_getr (pc' := 23) dX8_restore_20 fl_X8_7 (rfl) (by rfl) rfl ?_
    refine mx_iconst (pc' := 24) (v := nI 0) dX8_restore_23 (by decide) rfl ?_
    refine mx_callS (pc' := 27) dX8_restore_24 cl_X8_45 (t_X8_copies N11 147 144 0 0 333 333 rfl rfl (by decide) (by decide) (by decide)) rfl (by decide) rfl (Nat.le_of_ble_eq_true rfl) rfl (fun v N24 hv => ?_)
    obtain ⟨rfl, hO2, hj⟩ := hv
    have hF2 : MF N24 G := EncF.fr (f := N11 147) (o := 0) (by rw [hO.1 147 (by decide) (by decide)]; exact hS.2.1) fun j h => by rw [hj, if_pos (by omega)]; congr 1; omega
    have hO3 : MoS N11 N24 := fun q a b => hO2 q (by omega)
    have hC2 := hC1.fld hF2 hS.2.2 hO3
    rw [hG] at hC2
    refine mx_aload_n (pc' := 28) dX8_restore_27 rfl rfl ?_
    refine mx_getr (pc' := 31) dX8_restore_28 fl_X8_7 (rfl) (by rfl) rfl ?_
    refine mx_iconst (pc' := 32) (v := nI 5) dX8_restore_31 (by decide) rfl ?_
    refine mx_iald (pc' := 33) (v := nI (G.2.2.1 3)) dX8_restore_32 (rfl) (rfl) (by decide) (hF2.sc 3 (by decide)) rfl ?_
    refine mx_iret dX8_restore_33 (Or.inl rfl) ?_
    exact ⟨rfl, hC2, hM1.tr hO3.cl⟩
  · have e : oRestore Y = ((-2), Y) := by
      unfold oRestore
      cases hz : Y.2.2.1 with
      | none => rfl
      | some G =>
        have := hC.2.2.2.1
        rw [hz] at this
        rw [this.1] at c4
        exact absurd c4 (by decide)
    rw [e]
    refine mx_bipush (pc' := 9) (v := (-2)) dX8_restore_7 (by decide) rfl ?_
    refine mx_iret dX8_restore_9 (Or.inl rfl) ?_
    exact ⟨rfl, hC, Cl.rf⟩

