/-! the forecasts of the model -/
/-- what forecasting may change besides the field's row -/
def Oc (M M' : mx_M) : Prop := ∀ q, q ≠ 144 → q ≠ 145 → q ≠ 149 → q ≠ 151 → M' q = M q
theorem Oc.rf {M : mx_M} : Oc M M := fun _ _ _ _ _ => rfl
theorem Oc.tr {M M1 M2 : mx_M} (h1 : Oc M M1) (h2 : Oc M1 M2) : Oc M M2 := fun q a b c d => (h2 q a b c d).trans (h1 q a b c d)
theorem Oc.cl {M M' : mx_M} (h : Oc M M') : Cl M M' := fun q hq => h q (by omega) (by omega) (by omega) (by omega)
theorem MoS.oc {M M' : mx_M} (h : MoS M M') : Oc M M' := fun q a _ b _ => h q a b
theorem Oc.mo {M M' : mx_M} {Y : Sy} (h : MoA M Y) (hO : Oc M M') (h144 : ∀ j, j < 333 → M' 144 j = M 144 j) : MoA M' Y :=
  ⟨EncF.fr h.1 (fun j hj => by rw [Nat.zero_add]; exact h144 j hj), h.2.1, h.2.2.1.fr (by rw [hO 143 (by decide) (by decide) (by decide) (by decide)]) (hO 146 (by decide) (by decide) (by decide) (by decide)), h.2.2.2.1.fr (by rw [hO 143 (by decide) (by decide) (by decide) (by decide)]) (hO 147 (by decide) (by decide) (by decide) (by decide)), h.2.2.2.2.fr (by rw [hO 143 (by decide) (by decide) (by decide) (by decide)]) (hO 148 (by decide) (by decide) (by decide) (by decide))⟩
def FcP (x : Int32) (F G : FS) : Prop := (x < 0 ∧ G = F) ∨ ∃ e, e < F.1.length ∧ x = nI e ∧ G = drE e F
theorem FcP.n {F : FS} : FcP (-4) F F := Or.inl ⟨by decide, rfl⟩
theorem FcP.V {x : Int32} {F G : FS} (h : FcP x F G) (hV : FV F) : FV G ∧ G.2.2.1 3 = F.2.2.1 3 := by
  rcases h with ⟨_, rfl⟩ | ⟨e, _, _, rfl⟩
  · exact ⟨hV, rfl⟩
  · exact ⟨hV, rfl⟩
set_option maxHeartbeats 1000000 in
set_option maxRecDepth 10000 in
theorem l_X8_forecasts (M : mx_M) (Y : Sy) (hC : MoA M Y) (x : Int32) (G : FS) (hG : FcP x Y.1 G) (ht : Y.1.2.2.1 3 + 100 < 2147483648) (T : Nat) (hT : T ≤ 30) : ∀ (k : Nat) (n : Nat) (M1 : mx_M), T < n + k → n ≤ T → MF M1 (fAdvN n G) → (∀ t, t ≤ n → M1 151 t = nI (fFr G t)) → Oc M M1 → (∀ j, j < 333 → M1 145 j = M 144 j) → mx_V cX8_forecasts RX8 4 none 6 34 [some (.ref 143), some (.int (nI T)), some (.int x), some (.int (nI (n + 1)))] [] M1 (fun v M' => v = none ∧ (∀ t, t ≤ T → M' 151 t = nI (fFr G t)) ∧ MoA M' Y ∧ Oc M M') := by
  have hV := hG.V hC.2.1
  intro k
  induction k with
  | zero =>
    intro n M1 hk hi hF hL hO h145
    exact absurd hk (by omega)
  | succ k ih =>
    intro n M1 hk hi hF hL hO h145
    refine mx_iload_n (pc' := 35) dX8_forecasts_34 rfl rfl ?_
    refine mx_iload_n (pc' := 36) dX8_forecasts_35 rfl rfl ?_
    refine mx_icmp_gt (tgt := 59) (pc' := 39) dX8_forecasts_36 (by decide) rfl (fun c36 => ?_) (fun c36 => ?_)
    · have c36 := (nI_ltI (by omega) (by omega)).mp c36
      obtain rfl : n = T := by omega
      refine mx_aload_n (pc' := 60) dX8_forecasts_59 rfl rfl ?_
      refine mx_getr (pc' := 63) dX8_forecasts_60 fl_X8_13 (rfl) (by rfl) rfl ?_
      refine mx_iconst (pc' := 64) (v := nI 0) dX8_forecasts_63 (by decide) rfl ?_
      refine mx_aload_n (pc' := 65) dX8_forecasts_64 rfl rfl ?_
      refine mx_getr (pc' := 68) dX8_forecasts_65 fl_X8_7 (rfl) (by rfl) rfl ?_
      refine mx_iconst (pc' := 69) (v := nI 0) dX8_forecasts_68 (by decide) rfl ?_
      refine mx_callS (pc' := 72) dX8_forecasts_69 cl_X8_45 (t_X8_copies M1 145 144 0 0 333 333 rfl rfl (by decide) (by decide) (by decide)) rfl (by decide) rfl (Nat.le_of_ble_eq_true rfl) rfl (fun v N69 hv => ?_)
      obtain ⟨rfl, hO2, hj⟩ := hv
      refine mx_vret dX8_forecasts_72 rfl ?_
      have hO3 : Oc M N69 := hO.tr fun q a b c d => hO2 q (by omega)
      exact ⟨rfl, fun t h => by rw [hO2 151 (by omega)]; exact hL t h, hO3.mo hC (fun j h => by rw [hj, if_pos (by omega), ← h145 j h]; congr 1; omega), hO3⟩
    · have c36 := Nat.not_lt.mp (fun z => c36 ((nI_ltI (by omega) (by omega)).mpr z))
      refine mx_aload_n (pc' := 40) dX8_forecasts_39 rfl rfl ?_
      refine mx_callV (pc' := 43) dX8_forecasts_40 cl_X8_81 (rfl) (t_X8_moves M1 (fAdvN n G) hF (hV.1.advN n) (by rw [fAdvN_3, hV.2]; omega)) rfl (by decide) rfl (Nat.le_of_ble_eq_true rfl) rfl (fun v N40 hv => ?_)
      obtain ⟨rfl, hF2, hO2⟩ := hv
      refine mx_aload_n (pc' := 44) dX8_forecasts_43 rfl rfl ?_
      refine mx_getr (pc' := 47) dX8_forecasts_44 fl_X8_32 (rfl) (by rfl) rfl ?_
      refine mx_iload_n (pc' := 48) dX8_forecasts_47 rfl rfl ?_
      refine mx_aload_n (pc' := 49) dX8_forecasts_48 rfl rfl ?_
      refine mx_callV (pc' := 52) dX8_forecasts_49 cl_X8_154 (rfl) (t_X8_freeNow N40 (fAdvN (n + 1) G) hF2) rfl (by decide) rfl (Nat.le_of_ble_eq_true rfl) rfl (fun v N49 hv => ?_)
      obtain ⟨rfl, hv⟩ := hv
      rw [hv]
      refine mx_iast (pc' := 53) dX8_forecasts_52 (rfl) (rfl) (by omega) rfl ?_
      refine mx_iinc (pc' := 56) (ls' := [_, _, _, _]) (v := nI (n + 1 + 1)) dX8_forecasts_53 rfl (nI_add (n + 1) 1) (by decide) (rfl) rfl rfl ?_
      refine mx_goto (pc' := 34) dX8_forecasts_56 (by decide) ?_
      refine ih (n + 1) _ (by omega) (by omega) (hF2.fr (mx_up_ne (by decide))) (fun t h => ?_) (hO.tr (hO2.oc.tr fun q a b c d => mx_up_ne d)) (fun j hj => by rw [mx_up_ne (by decide), hO2 145 (by decide) (by decide)]; exact h145 j hj)
      rw [mx_up_fn]
      by_cases e : t = n + 1
      · subst e; rw [upd_eq]; rfl
      · rw [upd_ne _ _ e, hO2 151 (by decide) (by decide)]; exact hL t (by omega)

set_option maxHeartbeats 1000000 in
set_option maxRecDepth 10000 in
theorem t_X8_forecasts (M : mx_M) (Y : Sy) (hC : MoA M Y) (x : Int32) (G : FS) (hG : FcP x Y.1 G) (ht : Y.1.2.2.1 3 + 100 < 2147483648) (T : Nat) (hT : T ≤ 30) : mx_T yX8_forecasts cX8_forecasts 4 none 6 [.ref 143, .int (nI T), .int x] M (fun v M' => v = none ∧ (∀ t, t ≤ T → M' 151 t = nI (fFr G t)) ∧ MoA M' Y ∧ Oc M M') := by
  have J22 : ∀ N : mx_M, MF N G → Oc M N → (∀ j, j < 333 → N 145 j = M 144 j) → mx_V cX8_forecasts RX8 4 none 6 22 [some (.ref 143), some (.int (nI T)), some (.int x), none] [] N (fun v M' => v = none ∧ (∀ t, t ≤ T → M' 151 t = nI (fFr G t)) ∧ MoA M' Y ∧ Oc M M') := by
    intro N hF hO h145
    refine mx_aload_n (pc' := 23) dX8_forecasts_22 rfl rfl ?_
    refine mx_getr (pc' := 26) dX8_forecasts_23 fl_X8_32 (rfl) (by rfl) rfl ?_
    refine mx_iconst (pc' := 27) (v := nI 0) dX8_forecasts_26 (by decide) rfl ?_
    refine mx_aload_n (pc' := 28) dX8_forecasts_27 rfl rfl ?_
    refine mx_callV (pc' := 31) dX8_forecasts_28 cl_X8_154 (rfl) (t_X8_freeNow N G hF) rfl (by decide) rfl (Nat.le_of_ble_eq_true rfl) rfl (fun v N28 hv => ?_)
    obtain ⟨rfl, hv⟩ := hv
    rw [hv]
    refine mx_iast (pc' := 32) dX8_forecasts_31 (rfl) (rfl) (by decide) rfl ?_
    refine mx_iconst (pc' := 33) (v := nI 1) dX8_forecasts_32 (by decide) rfl ?_
    refine mx_istore_n (pc' := 34) (ls' := [_, _, _, _]) dX8_forecasts_33 (by decide) (rfl) rfl rfl ?_
    exact l_X8_forecasts M Y hC x G hG ht T hT (T + 1) 0 _ (by omega) (by omega) (hF.fr (mx_up_ne (by decide))) (fun t h => by rw [show t = 0 by omega]; exact mx_up_eq _ _ _ _) (hO.tr fun q a b c d => mx_up_ne d) (fun j hj => by rw [mx_up_ne (by decide)]; exact h145 j hj)
  refine mx_T.of1 (own := RX8) (ls := [some (.ref 143), some (.int (nI T)), some (.int x), none]) (by decide +kernel) rfl (Nat.le_of_ble_eq_true rfl) rfl rfl ?_
  refine mx_aload_n (pc' := 1) dX8_forecasts_0 rfl rfl ?_
  refine mx_getr (pc' := 4) dX8_forecasts_1 fl_X8_7 (rfl) (by rfl) rfl ?_
  refine mx_iconst (pc' := 5) (v := nI 0) dX8_forecasts_4 (by decide) rfl ?_
  refine mx_aload_n (pc' := 6) dX8_forecasts_5 rfl rfl ?_
  refine mx_getr (pc' := 9) dX8_forecasts_6 fl_X8_13 (rfl) (by rfl) rfl ?_
  refine mx_iconst (pc' := 10) (v := nI 0) dX8_forecasts_9 (by decide) rfl ?_
  refine mx_callS (pc' := 13) dX8_forecasts_10 cl_X8_45 (t_X8_copies M 144 145 0 0 333 333 rfl rfl (by decide) (by decide) (by decide)) rfl (by decide) rfl (Nat.le_of_ble_eq_true rfl) rfl (fun v N10 hv => ?_)
  obtain ⟨rfl, hO2, hj⟩ := hv
  have h0 : ∀ j, j < 333 → N10 145 j = M 144 j := fun j h => by rw [hj, if_pos (by omega)]; congr 1; omega
  have hO0 : Oc M N10 := fun q a b c d => hO2 q (by omega)
  have hF0 : MF N10 Y.1 := hC.1.fr (hO2 144 (by omega))
  refine mx_iload_n (pc' := 14) dX8_forecasts_13 rfl rfl ?_
  refine mx_if_lt (tgt := 22) (pc' := 17) dX8_forecasts_14 (by decide) rfl (fun c14 => ?_) (fun c14 => ?_)
  · obtain rfl : G = Y.1 := by
      rcases hG with ⟨_, h⟩ | ⟨e, he, rfl, h⟩
      · exact h
      · exact absurd c14 (nI_pos (by have := hC.1.eL.1; omega))
    exact J22 N10 hF0 hO0 h0
  · obtain ⟨e, he, rfl, rfl⟩ : ∃ e, e < Y.1.1.length ∧ x = nI e ∧ G = drE e Y.1 := by
      rcases hG with ⟨h, _⟩ | h
      · exact absurd h c14
      · exact h
    refine mx_aload_n (pc' := 18) dX8_forecasts_17 rfl rfl ?_
    refine mx_iload_n (pc' := 19) dX8_forecasts_18 rfl rfl ?_
    refine mx_callV (pc' := 22) dX8_forecasts_19 cl_X8_101 (rfl) (t_X8_dropsEmitter N10 Y.1 hF0 e he) rfl (by decide) rfl (Nat.le_of_ble_eq_true rfl) rfl (fun v N19 hv => ?_)
    obtain ⟨rfl, hF2, hO3⟩ := hv
    exact J22 N19 hF2 (hO0.tr hO3.oc) (fun j h => by rw [hO3 145 (by decide) (by decide)]; exact h0 j h)

set_option maxHeartbeats 1000000 in
set_option maxRecDepth 10000 in
theorem t_X8_free (M : mx_M) (Y : Sy) (hC : MoA M Y) (ht : Y.1.2.2.1 3 + 100 < 2147483648) (x : Int32) : mx_T yX8_free cX8_free 2 (some .int) 7 [.ref 143, .int x] M (fun v M' => v = some (.int (oFree x Y)) ∧ MoA M' Y ∧ Cl M M') := by
  refine mx_T.of1 (own := RX8) (ls := [some (.ref 143), some (.int x)]) (by decide +kernel) rfl (Nat.le_of_ble_eq_true rfl) rfl rfl ?_
  refine mx_iload_n (pc' := 1) dX8_free_0 rfl rfl ?_
  refine mx_iconst (pc' := 2) (v := nI 0) dX8_free_1 (by decide) rfl ?_
  refine mx_bipush (pc' := 4) (v := nI 30) dX8_free_2 (by decide) rfl ?_
  refine mx_callS (pc' := 7) dX8_free_4 cl_X8_49 (t_X8_in M x (nI 0) (nI 30)) rfl (by decide) rfl (Nat.le_of_ble_eq_true rfl) rfl (fun v N4 hv => ?_)
  obtain ⟨rfl, hv⟩ := hv
  rw [hv]
  refine mx_if_ne (tgt := 12) (pc' := 10) dX8_free_7 (by decide) rfl (fun c7 => ?_) (fun c7 => ?_)
  · have c7 := bI_n.mp c7
    have ea : oFree x Y = nI (fFr Y.1 (tN x)) := if_pos c7
    rw [ea]
    obtain ⟨T, -, hT, rfl⟩ := ge_of2 (m := 0) c7.1 c7.2 (by decide) (by decide)
    rw [tN_n (by omega)]
    refine mx_aload_n (pc' := 13) dX8_free_12 rfl rfl ?_
    refine mx_iload_n (pc' := 14) dX8_free_13 rfl rfl ?_
    refine mx_bipush (pc' := 16) (v := (-4)) dX8_free_14 (by decide) rfl ?_
    refine mx_callV (pc' := 19) dX8_free_16 cl_X8_157 (rfl) (t_X8_forecasts M Y hC (-4) Y.1 FcP.n ht T (by omega)) rfl (by decide) rfl (Nat.le_of_ble_eq_true rfl) rfl (fun v N16 hv => ?_)
    obtain ⟨rfl, hL, hC2, hO⟩ := hv
    refine mx_aload_n (pc' := 20) dX8_free_19 rfl rfl ?_
    refine mx_getr (pc' := 23) dX8_free_20 fl_X8_32 (rfl) (by rfl) rfl ?_
    refine mx_iload_n (pc' := 24) dX8_free_23 rfl rfl ?_
    refine mx_iald (pc' := 25) (v := nI (fFr Y.1 T)) dX8_free_24 (rfl) (rfl) (by omega) (hL T (Nat.le_refl T)) rfl ?_
    refine mx_iret dX8_free_25 (Or.inl rfl) ?_
    exact ⟨rfl, hC2, hO.cl⟩
  · have c7 : ¬ (nI 0 ≤ x ∧ x ≤ nI 30) := bI_0.mp c7
    refine mx_iconst (pc' := 11) (v := (-1)) dX8_free_10 (by decide) rfl ?_
    refine mx_iret dX8_free_11 (Or.inl rfl) ?_
    have e : oFree x Y = (-1) := if_neg (c7)
    rw [e]
    exact ⟨rfl, hC, Cl.rf⟩

set_option maxHeartbeats 1000000 in
set_option maxRecDepth 10000 in
theorem l_X8_ones (M : mx_M) (f : Nat) (hf : f < 1024) : ∀ (k : Nat) (i a : Nat), 10 < i + k → i ≤ 10 → a = (List.range i).countP (fun c => f.testBit c) → mx_V cX8_ones RX8 3 (some .int) 1 4 [some (.int (nI f)), some (.int (nI a)), some (.int (nI i))] [] M (fun v M' => v = some (.int (nI (pop10 f))) ∧ M' = M) := by
  intro k
  induction k with
  | zero =>
    intro i a hk hi ha
    exact absurd hk (by omega)
  | succ k ih =>
    intro i a hk hi ha
    refine mx_iload_n (pc' := 5) dX8_ones_4 rfl rfl ?_
    refine mx_bipush (pc' := 7) (v := nI 10) dX8_ones_5 (by decide) rfl ?_
    refine mx_icmp_ge (tgt := 24) (pc' := 10) dX8_ones_7 (by decide) rfl (fun c7 => ?_) (fun c7 => ?_)
    · have c7 := (nI_leI (by omega) (by omega)).mp c7
      obtain rfl : i = 10 := by omega
      refine mx_iload_n (pc' := 25) dX8_ones_24 rfl rfl ?_
      refine mx_iret dX8_ones_25 (Or.inl rfl) ?_
      rw [ha]
      exact ⟨rfl, rfl⟩
    · have c7 := Nat.not_le.mp (fun z => c7 ((nI_leI (by omega) (by omega)).mpr z))
      refine mx_iload_n (pc' := 11) dX8_ones_10 rfl rfl ?_
      refine mx_iload_n (pc' := 12) dX8_ones_11 rfl rfl ?_
      refine mx_iload_n (pc' := 13) dX8_ones_12 rfl rfl ?_
      refine mx_ishr (pc' := 14) dX8_ones_13 (rfl) rfl ?_
      refine mx_iconst (pc' := 15) (v := nI 1) dX8_ones_14 (by decide) rfl ?_
      refine mx_iand (pc' := 16) (v := nI (f.testBit i).toNat) dX8_ones_15 (tb_1 f (by omega) i c7) rfl ?_
      refine mx_iadd (pc' := 17) (v := nI (a + (f.testBit i).toNat)) dX8_ones_16 (nI_add a _) rfl ?_
      refine mx_istore_n (pc' := 18) (ls' := [_, _, _]) dX8_ones_17 (by decide) (rfl) rfl rfl ?_
      refine mx_iinc (pc' := 21) (ls' := [_, _, _]) (v := nI (i + 1)) dX8_ones_18 rfl (nI_add i 1) (by decide) (rfl) rfl rfl ?_
      refine mx_goto (pc' := 4) dX8_ones_21 (by decide) ?_
      refine ih (i + 1) _ (by omega) (by omega) ?_
      rw [List.range_succ, List.countP_append, ← ha]
      cases hz : f.testBit i <;> simp [hz]

set_option maxHeartbeats 1000000 in
set_option maxRecDepth 10000 in
theorem t_X8_ones (M : mx_M) (f : Nat) (hf : f < 1024) : mx_T yX8_ones cX8_ones 3 (some .int) 1 [.int (nI f)] M (fun v M' => v = some (.int (nI (pop10 f))) ∧ M' = M) := by
  refine mx_T.of1 (own := RX8) (ls := [some (.int (nI f)), none, none]) (by decide +kernel) rfl (Nat.le_of_ble_eq_true rfl) rfl rfl ?_
  refine mx_iconst (pc' := 1) (v := nI 0) dX8_ones_0 (by decide) rfl ?_
  refine mx_istore_n (pc' := 2) (ls' := [_, _, _]) dX8_ones_1 (by decide) (rfl) rfl rfl ?_
  refine mx_iconst (pc' := 3) (v := nI 0) dX8_ones_2 (by decide) rfl ?_
  refine mx_istore_n (pc' := 4) (ls' := [_, _, _]) dX8_ones_3 (by decide) (rfl) rfl rfl ?_
  exact l_X8_ones M f hf 11 0 0 (by omega) (by omega) rfl

/-- the model's reading of the lanes: how many, widest, its start, the run -/
def lnS (f : Nat) (s : Nat × Nat × Int32 × Nat) (c : Nat) : Nat × Nat × Int32 × Nat :=
  let r := if f.testBit c then s.2.2.2 + 1 else 0
  (s.1 + (if r = 1 then 1 else 0), if s.2.1 < r then r else s.2.1, if s.2.1 < r then nI c - nI r + nI 1 else s.2.2.1, r)
def lnR (f n : Nat) : Nat × Nat × Int32 × Nat := (List.range n).foldl (lnS f) (0, 0, (-4), 0)
theorem lnR_s (f n : Nat) : lnR f (n + 1) = lnS f (lnR f n) n := by unfold lnR; rw [List.range_succ, List.foldl_append]; rfl
theorem lnR_le (f : Nat) : ∀ n, (lnR f n).1 ≤ n ∧ (lnR f n).2.1 ≤ n ∧ (lnR f n).2.2.2 ≤ n
  | 0 => ⟨Nat.le_refl 0, Nat.le_refl 0, Nat.le_refl 0⟩
  | n + 1 => by
    have h := lnR_le f n
    rw [lnR_s]
    unfold lnS
    have hr : (if f.testBit n = true then (lnR f n).2.2.2 + 1 else 0) ≤ n + 1 := by split <;> omega
    dsimp only
    generalize (if f.testBit n = true then (lnR f n).2.2.2 + 1 else 0) = r at hr ⊢
    refine ⟨?_, ?_, hr⟩
    · split <;> omega
    · split <;> omega
theorem ln_1 : ∀ f, f < 1024 → (lnR f 10).1 = cntL f 10 ∧ (lnR f 10).2.1 = wdN f 10 ∧ (lnR f 10).2.2.1 = stW f := by decide +kernel
set_option maxHeartbeats 1000000 in
set_option maxRecDepth 10000 in
theorem l_X8_lane (M : mx_M) (T f : Nat) (hT : T ≤ 30) (hf : M 151 T = nI f) (hf2 : f < 1024) (y : Int32) : ∀ (k : Nat) (i : Nat), 10 < i + k → i ≤ 10 → mx_V cX8_lane RX8 8 (some .int) 1 43 [some (.ref 143), some (.int (nI T)), some (.int y), some (.int (nI (lnR f i).1)), some (.int (nI (lnR f i).2.1)), some (.int (lnR f i).2.2.1), some (.int (nI (lnR f i).2.2.2)), some (.int (nI i))] [] M (fun v M' => v = some (.int (if y = 0 then nI (cntL f 10) else if y = nI 1 then nI (wdN f 10) else stW f)) ∧ M' = M) := by
  intro k
  induction k with
  | zero =>
    intro i hk hi
    obtain ⟨g1, g2, g3⟩ := lnR_le f i
    exact absurd hk (by omega)
  | succ k ih =>
    intro i hk hi
    obtain ⟨g1, g2, g3⟩ := lnR_le f i
    refine mx_iload (pc' := 45) dX8_lane_43 rfl rfl ?_
    refine mx_bipush (pc' := 47) (v := nI 10) dX8_lane_45 (by decide) rfl ?_
    refine mx_icmp_ge (tgt := 132) (pc' := 50) dX8_lane_47 (by decide) rfl (fun c47 => ?_) (fun c47 => ?_)
    · have c47 := (nI_leI (by omega) (by omega)).mp c47
      obtain rfl : i = 10 := by omega
      obtain ⟨q1, q2, q3⟩ := ln_1 f hf2
      refine mx_iload_n (pc' := 133) dX8_lane_132 rfl rfl ?_
      refine mx_if_ne (tgt := 140) (pc' := 136) dX8_lane_133 (by decide) rfl (fun c133 => ?_) (fun c133 => ?_)
      · refine mx_iload_n (pc' := 141) dX8_lane_140 rfl rfl ?_
        refine mx_iconst (pc' := 142) (v := nI 1) dX8_lane_141 (by decide) rfl ?_
        refine mx_icmp_ne (tgt := 150) (pc' := 145) dX8_lane_142 (by decide) rfl (fun c142 => ?_) (fun c142 => ?_)
        · refine mx_iload (pc' := 152) dX8_lane_150 rfl rfl ?_
          refine mx_iret dX8_lane_152 (Or.inl rfl) ?_
          rw [if_neg c133, if_neg c142, q3]
          exact ⟨rfl, rfl⟩
        · refine mx_iload (pc' := 147) dX8_lane_145 rfl rfl ?_
          refine mx_goto (pc' := 152) dX8_lane_147 (by decide) ?_
          refine mx_iret dX8_lane_152 (Or.inl rfl) ?_
          rw [if_neg c133, if_pos c142, q2]
          exact ⟨rfl, rfl⟩
      · refine mx_iload_n (pc' := 137) dX8_lane_136 rfl rfl ?_
        refine mx_goto (pc' := 152) dX8_lane_137 (by decide) ?_
        refine mx_iret dX8_lane_152 (Or.inl rfl) ?_
        rw [if_pos c133, q1]
        exact ⟨rfl, rfl⟩
    · have c47 := Nat.not_le.mp (fun z => c47 ((nI_leI (by omega) (by omega)).mpr z))
      refine mx_aload_n (pc' := 51) dX8_lane_50 rfl rfl ?_
      refine mx_getr (pc' := 54) dX8_lane_51 fl_X8_32 (rfl) (by rfl) rfl ?_
      refine mx_iload_n (pc' := 55) dX8_lane_54 rfl rfl ?_
      refine mx_iald (pc' := 56) (v := nI f) dX8_lane_55 (rfl) (rfl) (by omega) (hf) rfl ?_
      refine mx_iload (pc' := 58) dX8_lane_56 rfl rfl ?_
      refine mx_ishr (pc' := 59) dX8_lane_58 (rfl) rfl ?_
      refine mx_iconst (pc' := 60) (v := nI 1) dX8_lane_59 (by decide) rfl ?_
      refine mx_iand (pc' := 61) (v := nI (f.testBit i).toNat) dX8_lane_60 (tb_1 f (by omega) i c47) rfl ?_
      refine mx_iconst (pc' := 62) (v := nI 1) dX8_lane_61 (by decide) rfl ?_
      refine mx_icmp_ne (tgt := 72) (pc' := 65) dX8_lane_62 (by decide) rfl (fun c62 => ?_) (fun c62 => ?_)
      · have b62 : ¬ f.testBit i = true := fun z => c62 (by rw [z]; rfl)
        have e : lnR f (i + 1) = lnS f (lnR f i) i := lnR_s f i
        have er : (if f.testBit i then (lnR f i).2.2.2 + 1 else 0) = 0 := if_neg b62
        refine mx_iconst (pc' := 73) (v := nI 0) dX8_lane_72 (by decide) rfl ?_
        refine mx_istore (pc' := 75) (ls' := [_, _, _, _, _, _, _, _]) dX8_lane_73 (by decide) (rfl) rfl rfl ?_
        refine mx_iload_n (pc' := 76) dX8_lane_75 rfl rfl ?_
        refine mx_iload (pc' := 78) dX8_lane_76 rfl rfl ?_
        refine mx_iconst (pc' := 79) (v := nI 1) dX8_lane_78 (by decide) rfl ?_
        refine mx_icmp_ne (tgt := 86) (pc' := 82) dX8_lane_79 (by decide) rfl (fun c79 => ?_) (fun c79 => ?_)
        · have c79 : ¬ (0 : Nat) = 1 := by decide
          refine mx_iconst (pc' := 87) (v := nI 0) dX8_lane_86 (by decide) rfl ?_
          refine mx_iadd (pc' := 88) (v := nI ((lnR f i).1 + 0)) dX8_lane_87 (nI_add _ _) rfl ?_
          refine mx_istore_n (pc' := 89) (ls' := [_, _, _, _, _, _, _, _]) dX8_lane_88 (by decide) (rfl) rfl rfl ?_
          refine mx_iload (pc' := 91) dX8_lane_89 rfl rfl ?_
          refine mx_iload (pc' := 93) dX8_lane_91 rfl rfl ?_
          refine mx_icmp_le (tgt := 106) (pc' := 96) dX8_lane_93 (by decide) rfl (fun c93 => ?_) (fun c93 => ?_)
          · have c93 : 0 ≤ (lnR f i).2.1 := Nat.zero_le _
            refine mx_iload (pc' := 108) dX8_lane_106 rfl rfl ?_
            refine mx_istore (pc' := 110) (ls' := [_, _, _, _, _, _, _, _]) dX8_lane_108 (by decide) (rfl) rfl rfl ?_
            refine mx_iload (pc' := 112) dX8_lane_110 rfl rfl ?_
            refine mx_iload (pc' := 114) dX8_lane_112 rfl rfl ?_
            refine mx_icmp_le (tgt := 122) (pc' := 117) dX8_lane_114 (by decide) rfl (fun c114 => ?_) (fun c114 => ?_)
            · have c114 : 0 ≤ (lnR f i).2.1 := Nat.zero_le _
              refine mx_iload (pc' := 124) dX8_lane_122 rfl rfl ?_
              refine mx_istore (pc' := 126) (ls' := [_, _, _, _, _, _, _, _]) dX8_lane_124 (by decide) (rfl) rfl rfl ?_
              refine mx_iinc (pc' := 129) (ls' := [_, _, _, _, _, _, _, _]) (v := nI (i + 1)) dX8_lane_126 rfl (nI_add i 1) (by decide) (rfl) rfl rfl ?_
              refine mx_goto (pc' := 43) dX8_lane_129 (by decide) ?_
              have e2 : lnR f (i + 1) = ((lnR f i).1 + 0, (lnR f i).2.1, (lnR f i).2.2.1, 0) := by
                rw [e]
                unfold lnS
                dsimp only
                rw [er, if_neg c79, if_neg (Nat.not_lt.mpr c93), if_neg (Nat.not_lt.mpr c93)]
              have h := ih (i + 1) (by omega) (by omega)
              rw [e2] at h
              exact h
            · exact absurd ((nI_leI (a := 0) (b := (lnR f i).2.1) (by omega) (by omega)).mpr (Nat.zero_le _)) c114
          · exact absurd ((nI_leI (a := 0) (b := (lnR f i).2.1) (by omega) (by omega)).mpr (Nat.zero_le _)) c93
        · exact absurd c79 (by decide)
      · have b62 : f.testBit i = true := by
          cases hz : f.testBit i with
          | true => rfl
          | false => rw [hz] at c62; exact absurd c62 (by decide)
        have e : lnR f (i + 1) = lnS f (lnR f i) i := lnR_s f i
        have er : (if f.testBit i then (lnR f i).2.2.2 + 1 else 0) = (lnR f i).2.2.2 + 1 := if_pos b62
        refine mx_iload (pc' := 67) dX8_lane_65 rfl rfl ?_
        refine mx_iconst (pc' := 68) (v := nI 1) dX8_lane_67 (by decide) rfl ?_
        refine mx_iadd (pc' := 69) (v := nI ((lnR f i).2.2.2 + 1)) dX8_lane_68 (nI_add _ 1) rfl ?_
        refine mx_goto (pc' := 73) dX8_lane_69 (by decide) ?_
        refine mx_istore (pc' := 75) (ls' := [_, _, _, _, _, _, _, _]) dX8_lane_73 (by decide) (rfl) rfl rfl ?_
        refine mx_iload_n (pc' := 76) dX8_lane_75 rfl rfl ?_
        refine mx_iload (pc' := 78) dX8_lane_76 rfl rfl ?_
        refine mx_iconst (pc' := 79) (v := nI 1) dX8_lane_78 (by decide) rfl ?_
        refine mx_icmp_ne (tgt := 86) (pc' := 82) dX8_lane_79 (by decide) rfl (fun c79 => ?_) (fun c79 => ?_)
        · have c79 : ¬ (lnR f i).2.2.2 + 1 = 1 := fun z => c79 (by rw [z])
          refine mx_iconst (pc' := 87) (v := nI 0) dX8_lane_86 (by decide) rfl ?_
          refine mx_iadd (pc' := 88) (v := nI ((lnR f i).1 + 0)) dX8_lane_87 (nI_add _ _) rfl ?_
          refine mx_istore_n (pc' := 89) (ls' := [_, _, _, _, _, _, _, _]) dX8_lane_88 (by decide) (rfl) rfl rfl ?_
          refine mx_iload (pc' := 91) dX8_lane_89 rfl rfl ?_
          refine mx_iload (pc' := 93) dX8_lane_91 rfl rfl ?_
          refine mx_icmp_le (tgt := 106) (pc' := 96) dX8_lane_93 (by decide) rfl (fun c93 => ?_) (fun c93 => ?_)
          · have c93 : ((lnR f i).2.2.2 + 1) ≤ (lnR f i).2.1 := (nI_leI (by omega) (by omega)).mp c93
            refine mx_iload (pc' := 108) dX8_lane_106 rfl rfl ?_
            refine mx_istore (pc' := 110) (ls' := [_, _, _, _, _, _, _, _]) dX8_lane_108 (by decide) (rfl) rfl rfl ?_
            refine mx_iload (pc' := 112) dX8_lane_110 rfl rfl ?_
            refine mx_iload (pc' := 114) dX8_lane_112 rfl rfl ?_
            refine mx_icmp_le (tgt := 122) (pc' := 117) dX8_lane_114 (by decide) rfl (fun c114 => ?_) (fun c114 => ?_)
            · have c114 : ((lnR f i).2.2.2 + 1) ≤ (lnR f i).2.1 := (nI_leI (by omega) (by omega)).mp c114
              refine mx_iload (pc' := 124) dX8_lane_122 rfl rfl ?_
              refine mx_istore (pc' := 126) (ls' := [_, _, _, _, _, _, _, _]) dX8_lane_124 (by decide) (rfl) rfl rfl ?_
              refine mx_iinc (pc' := 129) (ls' := [_, _, _, _, _, _, _, _]) (v := nI (i + 1)) dX8_lane_126 rfl (nI_add i 1) (by decide) (rfl) rfl rfl ?_
              refine mx_goto (pc' := 43) dX8_lane_129 (by decide) ?_
              have e2 : lnR f (i + 1) = ((lnR f i).1 + 0, (lnR f i).2.1, (lnR f i).2.2.1, ((lnR f i).2.2.2 + 1)) := by
                rw [e]
                unfold lnS
                dsimp only
                rw [er, if_neg c79, if_neg (Nat.not_lt.mpr c93), if_neg (Nat.not_lt.mpr c93)]
              have h := ih (i + 1) (by omega) (by omega)
              rw [e2] at h
              exact h
            · have c114 : (lnR f i).2.1 < ((lnR f i).2.2.2 + 1) := Nat.not_le.mp (fun z => c114 ((nI_leI (by omega) (by omega)).mpr z))
              exact absurd c114 (Nat.not_lt.mpr c93)
          · have c93 : (lnR f i).2.1 < ((lnR f i).2.2.2 + 1) := Nat.not_le.mp (fun z => c93 ((nI_leI (by omega) (by omega)).mpr z))
            refine mx_iload (pc' := 98) dX8_lane_96 rfl rfl ?_
            refine mx_iload (pc' := 100) dX8_lane_98 rfl rfl ?_
            refine mx_isub (pc' := 101) dX8_lane_100 (rfl) rfl ?_
            refine mx_iconst (pc' := 102) (v := nI 1) dX8_lane_101 (by decide) rfl ?_
            refine mx_iadd (pc' := 103) dX8_lane_102 (rfl) rfl ?_
            refine mx_goto (pc' := 108) dX8_lane_103 (by decide) ?_
            refine mx_istore (pc' := 110) (ls' := [_, _, _, _, _, _, _, _]) dX8_lane_108 (by decide) (rfl) rfl rfl ?_
            refine mx_iload (pc' := 112) dX8_lane_110 rfl rfl ?_
            refine mx_iload (pc' := 114) dX8_lane_112 rfl rfl ?_
            refine mx_icmp_le (tgt := 122) (pc' := 117) dX8_lane_114 (by decide) rfl (fun c114 => ?_) (fun c114 => ?_)
            · have c114 : ((lnR f i).2.2.2 + 1) ≤ (lnR f i).2.1 := (nI_leI (by omega) (by omega)).mp c114
              exact absurd c93 (Nat.not_lt.mpr c114)
            · have c114 : (lnR f i).2.1 < ((lnR f i).2.2.2 + 1) := Nat.not_le.mp (fun z => c114 ((nI_leI (by omega) (by omega)).mpr z))
              refine mx_iload (pc' := 119) dX8_lane_117 rfl rfl ?_
              refine mx_goto (pc' := 124) dX8_lane_119 (by decide) ?_
              refine mx_istore (pc' := 126) (ls' := [_, _, _, _, _, _, _, _]) dX8_lane_124 (by decide) (rfl) rfl rfl ?_
              refine mx_iinc (pc' := 129) (ls' := [_, _, _, _, _, _, _, _]) (v := nI (i + 1)) dX8_lane_126 rfl (nI_add i 1) (by decide) (rfl) rfl rfl ?_
              refine mx_goto (pc' := 43) dX8_lane_129 (by decide) ?_
              have e2 : lnR f (i + 1) = ((lnR f i).1 + 0, ((lnR f i).2.2.2 + 1), nI i - nI ((lnR f i).2.2.2 + 1) + nI 1, ((lnR f i).2.2.2 + 1)) := by
                rw [e]
                unfold lnS
                dsimp only
                rw [er, if_neg c79, if_pos c93, if_pos c93]
              have h := ih (i + 1) (by omega) (by omega)
              rw [e2] at h
              exact h
        · have c79 : (lnR f i).2.2.2 + 1 = 1 := (nI_eq (by omega) (by omega)).mp c79
          refine mx_iconst (pc' := 83) (v := nI 1) dX8_lane_82 (by decide) rfl ?_
          refine mx_goto (pc' := 87) dX8_lane_83 (by decide) ?_
          refine mx_iadd (pc' := 88) (v := nI ((lnR f i).1 + 1)) dX8_lane_87 (nI_add _ _) rfl ?_
          refine mx_istore_n (pc' := 89) (ls' := [_, _, _, _, _, _, _, _]) dX8_lane_88 (by decide) (rfl) rfl rfl ?_
          refine mx_iload (pc' := 91) dX8_lane_89 rfl rfl ?_
          refine mx_iload (pc' := 93) dX8_lane_91 rfl rfl ?_
          refine mx_icmp_le (tgt := 106) (pc' := 96) dX8_lane_93 (by decide) rfl (fun c93 => ?_) (fun c93 => ?_)
          · have c93 : ((lnR f i).2.2.2 + 1) ≤ (lnR f i).2.1 := (nI_leI (by omega) (by omega)).mp c93
            refine mx_iload (pc' := 108) dX8_lane_106 rfl rfl ?_
            refine mx_istore (pc' := 110) (ls' := [_, _, _, _, _, _, _, _]) dX8_lane_108 (by decide) (rfl) rfl rfl ?_
            refine mx_iload (pc' := 112) dX8_lane_110 rfl rfl ?_
            refine mx_iload (pc' := 114) dX8_lane_112 rfl rfl ?_
            refine mx_icmp_le (tgt := 122) (pc' := 117) dX8_lane_114 (by decide) rfl (fun c114 => ?_) (fun c114 => ?_)
            · have c114 : ((lnR f i).2.2.2 + 1) ≤ (lnR f i).2.1 := (nI_leI (by omega) (by omega)).mp c114
              refine mx_iload (pc' := 124) dX8_lane_122 rfl rfl ?_
              refine mx_istore (pc' := 126) (ls' := [_, _, _, _, _, _, _, _]) dX8_lane_124 (by decide) (rfl) rfl rfl ?_
              refine mx_iinc (pc' := 129) (ls' := [_, _, _, _, _, _, _, _]) (v := nI (i + 1)) dX8_lane_126 rfl (nI_add i 1) (by decide) (rfl) rfl rfl ?_
              refine mx_goto (pc' := 43) dX8_lane_129 (by decide) ?_
              have e2 : lnR f (i + 1) = ((lnR f i).1 + 1, (lnR f i).2.1, (lnR f i).2.2.1, ((lnR f i).2.2.2 + 1)) := by
                rw [e]
                unfold lnS
                dsimp only
                rw [er, if_pos c79, if_neg (Nat.not_lt.mpr c93), if_neg (Nat.not_lt.mpr c93)]
              have h := ih (i + 1) (by omega) (by omega)
              rw [e2] at h
              exact h
            · have c114 : (lnR f i).2.1 < ((lnR f i).2.2.2 + 1) := Nat.not_le.mp (fun z => c114 ((nI_leI (by omega) (by omega)).mpr z))
              exact absurd c114 (Nat.not_lt.mpr c93)
          · have c93 : (lnR f i).2.1 < ((lnR f i).2.2.2 + 1) := Nat.not_le.mp (fun z => c93 ((nI_leI (by omega) (by omega)).mpr z))
            refine mx_iload (pc' := 98) dX8_lane_96 rfl rfl ?_
            refine mx_iload (pc' := 100) dX8_lane_98 rfl rfl ?_
            refine mx_isub (pc' := 101) dX8_lane_100 (rfl) rfl ?_
            refine mx_iconst (pc' := 102) (v := nI 1) dX8_lane_101 (by decide) rfl ?_
            refine mx_iadd (pc' := 103) dX8_lane_102 (rfl) rfl ?_
            refine mx_goto (pc' := 108) dX8_lane_103 (by decide) ?_
            refine mx_istore (pc' := 110) (ls' := [_, _, _, _, _, _, _, _]) dX8_lane_108 (by decide) (rfl) rfl rfl ?_
            refine mx_iload (pc' := 112) dX8_lane_110 rfl rfl ?_
            refine mx_iload (pc' := 114) dX8_lane_112 rfl rfl ?_
            refine mx_icmp_le (tgt := 122) (pc' := 117) dX8_lane_114 (by decide) rfl (fun c114 => ?_) (fun c114 => ?_)
            · have c114 : ((lnR f i).2.2.2 + 1) ≤ (lnR f i).2.1 := (nI_leI (by omega) (by omega)).mp c114
              exact absurd c93 (Nat.not_lt.mpr c114)
            · have c114 : (lnR f i).2.1 < ((lnR f i).2.2.2 + 1) := Nat.not_le.mp (fun z => c114 ((nI_leI (by omega) (by omega)).mpr z))
              refine mx_iload (pc' := 119) dX8_lane_117 rfl rfl ?_
              refine mx_goto (pc' := 124) dX8_lane_119 (by decide) ?_
              refine mx_istore (pc' := 126) (ls' := [_, _, _, _, _, _, _, _]) dX8_lane_124 (by decide) (rfl) rfl rfl ?_
              refine mx_iinc (pc' := 129) (ls' := [_, _, _, _, _, _, _, _]) (v := nI (i + 1)) dX8_lane_126 rfl (nI_add i 1) (by decide) (rfl) rfl rfl ?_
              refine mx_goto (pc' := 43) dX8_lane_129 (by decide) ?_
              have e2 : lnR f (i + 1) = ((lnR f i).1 + 1, ((lnR f i).2.2.2 + 1), nI i - nI ((lnR f i).2.2.2 + 1) + nI 1, ((lnR f i).2.2.2 + 1)) := by
                rw [e]
                unfold lnS
                dsimp only
                rw [er, if_pos c79, if_pos c93, if_pos c93]
              have h := ih (i + 1) (by omega) (by omega)
              rw [e2] at h
              exact h

set_option maxHeartbeats 1000000 in
set_option maxRecDepth 10000 in
theorem t_X8_lane (M : mx_M) (Y : Sy) (hC : MoA M Y) (ht : Y.1.2.2.1 3 + 100 < 2147483648) (x y : Int32) : mx_T yX8_lane cX8_lane 8 (some .int) 7 [.ref 143, .int x, .int y] M (fun v M' => v = some (.int (oLane x y Y)) ∧ MoA M' Y ∧ Cl M M') := by
  refine mx_T.of1 (own := RX8) (ls := [some (.ref 143), some (.int x), some (.int y), none, none, none, none, none]) (by decide +kernel) rfl (Nat.le_of_ble_eq_true rfl) rfl rfl ?_
  refine mx_iload_n (pc' := 1) dX8_lane_0 rfl rfl ?_
  refine mx_iconst (pc' := 2) (v := nI 0) dX8_lane_1 (by decide) rfl ?_
  refine mx_bipush (pc' := 4) (v := nI 30) dX8_lane_2 (by decide) rfl ?_
  refine mx_callS (pc' := 7) dX8_lane_4 cl_X8_49 (t_X8_in M x (nI 0) (nI 30)) rfl (by decide) rfl (Nat.le_of_ble_eq_true rfl) rfl (fun v N4 hv => ?_)
  obtain ⟨rfl, hv⟩ := hv
  rw [hv]
  refine mx_if_eq (tgt := 19) (pc' := 10) dX8_lane_7 (by decide) rfl (fun c7 => ?_) (fun c7 => ?_)
  · have c7 : ¬ (nI 0 ≤ x ∧ x ≤ nI 30) := bI_0.mp c7
    refine mx_iconst (pc' := 20) (v := (-1)) dX8_lane_19 (by decide) rfl ?_
    refine mx_iret dX8_lane_20 (Or.inl rfl) ?_
    have e : oLane x y Y = (-1) := if_neg (fun z => c7 z.1)
    rw [e]
    exact ⟨rfl, hC, Cl.rf⟩
  · have c7 := bI_n.mp c7
    refine mx_iload_n (pc' := 11) dX8_lane_10 rfl rfl ?_
    refine mx_iconst (pc' := 12) (v := nI 0) dX8_lane_11 (by decide) rfl ?_
    refine mx_iconst (pc' := 13) (v := nI 2) dX8_lane_12 (by decide) rfl ?_
    refine mx_callS (pc' := 16) dX8_lane_13 cl_X8_49 (t_X8_in M y (nI 0) (nI 2)) rfl (by decide) rfl (Nat.le_of_ble_eq_true rfl) rfl (fun v N13 hv => ?_)
    obtain ⟨rfl, hv⟩ := hv
    rw [hv]
    refine mx_if_ne (tgt := 21) (pc' := 19) dX8_lane_16 (by decide) rfl (fun c16 => ?_) (fun c16 => ?_)
    · have c16 := bI_n.mp c16
      have ea : oLane x y Y = (if y = 0 then nI (cntL (fFr Y.1 (tN x)) 10) else if y = nI 1 then nI (wdN (fFr Y.1 (tN x)) 10) else stW (fFr Y.1 (tN x))) := if_pos ⟨c7, c16⟩
      rw [ea]
      obtain ⟨T, -, hT, rfl⟩ := ge_of2 (m := 0) c7.1 c7.2 (by decide) (by decide)
      rw [tN_n (by omega)]
      refine mx_aload_n (pc' := 22) dX8_lane_21 rfl rfl ?_
      refine mx_iload_n (pc' := 23) dX8_lane_22 rfl rfl ?_
      refine mx_bipush (pc' := 25) (v := (-4)) dX8_lane_23 (by decide) rfl ?_
      refine mx_callV (pc' := 28) dX8_lane_25 cl_X8_157 (rfl) (t_X8_forecasts M Y hC (-4) Y.1 FcP.n ht T (by omega)) rfl (by decide) rfl (Nat.le_of_ble_eq_true rfl) rfl (fun v N25 hv => ?_)
      obtain ⟨rfl, hL, hC2, hO⟩ := hv
      refine mx_iconst (pc' := 29) (v := nI 0) dX8_lane_28 (by decide) rfl ?_
      refine mx_istore_n (pc' := 30) (ls' := [_, _, _, _, _, _, _, _]) dX8_lane_29 (by decide) (rfl) rfl rfl ?_
      refine mx_iconst (pc' := 31) (v := nI 0) dX8_lane_30 (by decide) rfl ?_
      refine mx_istore (pc' := 33) (ls' := [_, _, _, _, _, _, _, _]) dX8_lane_31 (by decide) (rfl) rfl rfl ?_
      refine mx_bipush (pc' := 35) (v := (-4)) dX8_lane_33 (by decide) rfl ?_
      refine mx_istore (pc' := 37) (ls' := [_, _, _, _, _, _, _, _]) dX8_lane_35 (by decide) (rfl) rfl rfl ?_
      refine mx_iconst (pc' := 38) (v := nI 0) dX8_lane_37 (by decide) rfl ?_
      refine mx_istore (pc' := 40) (ls' := [_, _, _, _, _, _, _, _]) dX8_lane_38 (by decide) (rfl) rfl rfl ?_
      refine mx_iconst (pc' := 41) (v := nI 0) dX8_lane_40 (by decide) rfl ?_
      refine mx_istore (pc' := 43) (ls' := [_, _, _, _, _, _, _, _]) dX8_lane_41 (by decide) (rfl) rfl rfl ?_
      refine ((l_X8_lane N25 T (fFr Y.1 T) hT (hL T (Nat.le_refl T)) (fFr_lt _ _) y 11 0 (by omega) (by omega)).mono (by decide)).post fun v M' hv => ?_
      obtain ⟨rfl, hv⟩ := hv
      rw [hv]
      exact ⟨rfl, hC2, hO.cl⟩
    · have c16 : ¬ (nI 0 ≤ y ∧ y ≤ nI 2) := bI_0.mp c16
      refine mx_iconst (pc' := 20) (v := (-1)) dX8_lane_19 (by decide) rfl ?_
      refine mx_iret dX8_lane_20 (Or.inl rfl) ?_
      have e : oLane x y Y = (-1) := if_neg (fun z => c16 z.2)
      rw [e]
      exact ⟨rfl, hC, Cl.rf⟩

set_option maxHeartbeats 1000000 in
set_option maxRecDepth 10000 in
theorem l_X8_endsOf (M : mx_M) (g : Nat → Nat) (p T : Nat) (hT : T ≤ 30) (hp : p < 10) (hg : ∀ t, g t < 1024) (hL : ∀ t, t ≤ T → M 151 t = nI (g t)) : ∀ (k : Nat) (n : Nat), T < n + k → n ≤ T → mx_V cX8_endsOf RX8 4 (some .int) 1 11 [some (.ref 143), some (.int (nI T)), some (.int (nI (rch g p n))), some (.int (nI (n + 1)))] [] M (fun v M' => v = some (.int (nI (rch g p T))) ∧ M' = M) := by
  intro k
  induction k with
  | zero =>
    intro n hk hi
    exact absurd hk (by omega)
  | succ k ih =>
    intro n hk hi
    refine mx_iload_n (pc' := 12) dX8_endsOf_11 rfl rfl ?_
    refine mx_iload_n (pc' := 13) dX8_endsOf_12 rfl rfl ?_
    refine mx_icmp_gt (tgt := 39) (pc' := 16) dX8_endsOf_13 (by decide) rfl (fun c13 => ?_) (fun c13 => ?_)
    · have c13 := (nI_ltI (by omega) (by omega)).mp c13
      obtain rfl : n = T := by omega
      refine mx_iload_n (pc' := 40) dX8_endsOf_39 rfl rfl ?_
      refine mx_iret dX8_endsOf_40 (Or.inl rfl) ?_
      exact ⟨rfl, rfl⟩
    · have c13 := Nat.not_lt.mp (fun z => c13 ((nI_ltI (by omega) (by omega)).mpr z))
      refine mx_iload_n (pc' := 17) dX8_endsOf_16 rfl rfl ?_
      refine mx_iload_n (pc' := 18) dX8_endsOf_17 rfl rfl ?_
      refine mx_iconst (pc' := 19) (v := nI 1) dX8_endsOf_18 (by decide) rfl ?_
      refine mx_ishl (pc' := 20) dX8_endsOf_19 (rfl) rfl ?_
      refine mx_ior (pc' := 21) dX8_endsOf_20 (rfl) rfl ?_
      refine mx_iload_n (pc' := 22) dX8_endsOf_21 rfl rfl ?_
      refine mx_iconst (pc' := 23) (v := nI 1) dX8_endsOf_22 (by decide) rfl ?_
      refine mx_ishr (pc' := 24) dX8_endsOf_23 (rfl) rfl ?_
      refine mx_ior (pc' := 25) (v := nI (spr (rch g p n))) dX8_endsOf_24 (spr_1 _ (rch_lt hp hg n)) rfl ?_
      refine mx_aload_n (pc' := 26) dX8_endsOf_25 rfl rfl ?_
      refine mx_getr (pc' := 29) dX8_endsOf_26 fl_X8_32 (rfl) (by rfl) rfl ?_
      refine mx_iload_n (pc' := 30) dX8_endsOf_29 rfl rfl ?_
      refine mx_iald (pc' := 31) (v := nI (g (n + 1))) dX8_endsOf_30 (rfl) (rfl) (by omega) (hL _ c13) rfl ?_
      refine mx_iand (pc' := 32) (v := nI (rch g p (n + 1))) dX8_endsOf_31 (nI_and _ _) rfl ?_
      refine mx_istore_n (pc' := 33) (ls' := [_, _, _, _]) dX8_endsOf_32 (by decide) (rfl) rfl rfl ?_
      refine mx_iinc (pc' := 36) (ls' := [_, _, _, _]) (v := nI (n + 1 + 1)) dX8_endsOf_33 rfl (nI_add (n + 1) 1) (by decide) (rfl) rfl rfl ?_
      refine mx_goto (pc' := 11) dX8_endsOf_36 (by decide) ?_
      exact ih (n + 1) (by omega) (by omega)

set_option maxHeartbeats 1000000 in
set_option maxRecDepth 10000 in
theorem t_X8_endsOf (M : mx_M) (g : Nat → Nat) (p T : Nat) (hT : T ≤ 30) (hp : p < 10) (hg : ∀ t, g t < 1024) (hL : ∀ t, t ≤ T → M 151 t = nI (g t)) (hs : M 144 2 = nI p) : mx_T yX8_endsOf cX8_endsOf 4 (some .int) 1 [.ref 143, .int (nI T)] M (fun v M' => v = some (.int (nI (rch g p T))) ∧ M' = M) := by
  refine mx_T.of1 (own := RX8) (ls := [some (.ref 143), some (.int (nI T)), none, none]) (by decide +kernel) rfl (Nat.le_of_ble_eq_true rfl) rfl rfl ?_
  refine mx_iconst (pc' := 1) (v := nI 1) dX8_endsOf_0 (by decide) rfl ?_
  refine mx_aload_n (pc' := 2) dX8_endsOf_1 rfl rfl ?_
  refine mx_getr (pc' := 5) dX8_endsOf_2 fl_X8_7 (rfl) (by rfl) rfl ?_
  refine mx_iconst (pc' := 6) (v := nI 2) dX8_endsOf_5 (by decide) rfl ?_
  refine mx_iald (pc' := 7) (v := nI p) dX8_endsOf_6 (rfl) (rfl) (by decide) (hs) rfl ?_
  refine mx_ishl (pc' := 8) (v := nI (2 ^ p)) dX8_endsOf_7 (p2_1 p hp) rfl ?_
  refine mx_istore_n (pc' := 9) (ls' := [_, _, _, _]) dX8_endsOf_8 (by decide) (rfl) rfl rfl ?_
  refine mx_iconst (pc' := 10) (v := nI 1) dX8_endsOf_9 (by decide) rfl ?_
  refine mx_istore_n (pc' := 11) (ls' := [_, _, _, _]) dX8_endsOf_10 (by decide) (rfl) rfl rfl ?_
  exact l_X8_endsOf M g p T hT hp hg hL (T + 1) 0 (by omega) (by omega)

set_option maxHeartbeats 1000000 in
set_option maxRecDepth 10000 in
theorem t_X8_ends (M : mx_M) (Y : Sy) (hC : MoA M Y) (ht : Y.1.2.2.1 3 + 100 < 2147483648) (x y : Int32) : mx_T yX8_ends cX8_ends 3 (some .int) 7 [.ref 143, .int x, .int y] M (fun v M' => v = some (.int (oEnds x y Y)) ∧ MoA M' Y ∧ Cl M M') := by
  refine mx_T.of1 (own := RX8) (ls := [some (.ref 143), some (.int x), some (.int y)]) (by decide +kernel) rfl (Nat.le_of_ble_eq_true rfl) rfl rfl ?_
  refine mx_iload_n (pc' := 1) dX8_ends_0 rfl rfl ?_
  refine mx_iconst (pc' := 2) (v := nI 1) dX8_ends_1 (by decide) rfl ?_
  refine mx_bipush (pc' := 4) (v := nI 30) dX8_ends_2 (by decide) rfl ?_
  refine mx_callS (pc' := 7) dX8_ends_4 cl_X8_49 (t_X8_in M x (nI 1) (nI 30)) rfl (by decide) rfl (Nat.le_of_ble_eq_true rfl) rfl (fun v N4 hv => ?_)
  obtain ⟨rfl, hv⟩ := hv
  rw [hv]
  refine mx_if_eq (tgt := 19) (pc' := 10) dX8_ends_7 (by decide) rfl (fun c7 => ?_) (fun c7 => ?_)
  · have c7 : ¬ (nI 1 ≤ x ∧ x ≤ nI 30) := bI_0.mp c7
    refine mx_iconst (pc' := 20) (v := (-1)) dX8_ends_19 (by decide) rfl ?_
    refine mx_iret dX8_ends_20 (Or.inl rfl) ?_
    have e : oEnds x y Y = (-1) := if_neg (fun z => c7 z.1)
    rw [e]
    exact ⟨rfl, hC, Cl.rf⟩
  · have c7 := bI_n.mp c7
    refine mx_iload_n (pc' := 11) dX8_ends_10 rfl rfl ?_
    refine mx_iconst (pc' := 12) (v := nI 0) dX8_ends_11 (by decide) rfl ?_
    refine mx_iconst (pc' := 13) (v := nI 1) dX8_ends_12 (by decide) rfl ?_
    refine mx_callS (pc' := 16) dX8_ends_13 cl_X8_49 (t_X8_in M y (nI 0) (nI 1)) rfl (by decide) rfl (Nat.le_of_ble_eq_true rfl) rfl (fun v N13 hv => ?_)
    obtain ⟨rfl, hv⟩ := hv
    rw [hv]
    refine mx_if_ne (tgt := 21) (pc' := 19) dX8_ends_16 (by decide) rfl (fun c16 => ?_) (fun c16 => ?_)
    · have c16 := bI_n.mp c16
      have ea : oEnds x y Y = nI (pop10 (rch (fFr Y.1) (Y.1.2.2.1 0) (tN x))) := if_pos ⟨c7, c16⟩
      rw [ea]
      obtain ⟨T, -, hT, rfl⟩ := ge_of2 c7.1 c7.2 (by decide) (by decide)
      rw [tN_n (by omega)]
      refine mx_aload_n (pc' := 22) dX8_ends_21 rfl rfl ?_
      refine mx_iload_n (pc' := 23) dX8_ends_22 rfl rfl ?_
      refine mx_bipush (pc' := 25) (v := (-4)) dX8_ends_23 (by decide) rfl ?_
      refine mx_callV (pc' := 28) dX8_ends_25 cl_X8_157 (rfl) (t_X8_forecasts M Y hC (-4) Y.1 FcP.n ht T (by omega)) rfl (by decide) rfl (Nat.le_of_ble_eq_true rfl) rfl (fun v N25 hv => ?_)
      obtain ⟨rfl, hL, hC2, hO⟩ := hv
      refine mx_aload_n (pc' := 29) dX8_ends_28 rfl rfl ?_
      refine mx_iload_n (pc' := 30) dX8_ends_29 rfl rfl ?_
      refine mx_callV (pc' := 33) dX8_ends_30 cl_X8_160 (rfl) (t_X8_endsOf N25 (fFr Y.1) (Y.1.2.2.1 0) T hT hC.2.1.1 (fFr_lt _) hL (hC2.1.sc 0 (by decide))) rfl (by decide) rfl (Nat.le_of_ble_eq_true rfl) rfl (fun v N30 hv => ?_)
      obtain ⟨rfl, hv⟩ := hv
      rw [hv]
      refine mx_callS (pc' := 36) dX8_ends_33 cl_X8_163 (t_X8_ones N25 _ (rch_lt hC.2.1.1 (fFr_lt _) T)) rfl (by decide) rfl (Nat.le_of_ble_eq_true rfl) rfl (fun v N33 hv => ?_)
      obtain ⟨rfl, hv⟩ := hv
      rw [hv]
      refine mx_iret dX8_ends_36 (Or.inl rfl) ?_
      exact ⟨rfl, hC2, hO.cl⟩
    · have c16 : ¬ (nI 0 ≤ y ∧ y ≤ nI 1) := bI_0.mp c16
      refine mx_iconst (pc' := 20) (v := (-1)) dX8_ends_19 (by decide) rfl ?_
      refine mx_iret dX8_ends_20 (Or.inl rfl) ?_
      have e : oEnds x y Y = (-1) := if_neg (fun z => c16 z.2)
      rw [e]
      exact ⟨rfl, hC, Cl.rf⟩

