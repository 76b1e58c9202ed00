/-! THE SYSTEM: field, history, snapshot, pad; and what each call answers and makes of it -/
abbrev Sy : Type := FS × List FS × Option FS × List Nat
def SnA (M : mx_M) (S : Option FS) : Prop := match S with
  | none => M 0 3 = nI 0
  | some G => M 0 3 = nI 1 ∧ FiA M 29 G ∧ FV G
def CoA (M : mx_M) (Y : Sy) : Prop := FiA M 1 Y.1 ∧ FV Y.1 ∧ HiA M Y.2.1 ∧ SnA M Y.2.2.1 ∧ PaA M Y.2.2.2
/-- the model's part stays -/
def Mo (M M' : mx_M) : Prop := ∀ q, 143 ≤ q → M' q = M q
theorem Mo.rf {M : mx_M} : Mo M M := fun _ _ => rfl
theorem Mo.tr {M M1 M2 : mx_M} (h1 : Mo M M1) (h2 : Mo M1 M2) : Mo M M2 := fun q h => (h2 q h).trans (h1 q h)
theorem SnA.fr {M M' : mx_M} {S : Option FS} (h : SnA M S) (h0 : M' 0 = M 0) (hf : ∀ q, 29 ≤ q → q < 43 → M' q = M q) : SnA M' S := by
  cases S with
  | none => exact (congrFun h0 3).trans h
  | some G => exact ⟨(congrFun h0 3).trans h.1, h.2.1.fr fun q h1 h2 => hf q h1 (by omega), h.2.2⟩
theorem CoA.fr {M M' : mx_M} {Y : Sy} (h : CoA M Y) (hf : ∀ q, (q < 15 ∨ (29 ≤ q ∧ q < 103)) → M' q = M q) : CoA M' Y :=
  ⟨h.1.fr fun q h1 h2 => hf q (by omega), h.2.1, h.2.2.1.fr fun q h1 h2 => hf q (by omega), h.2.2.2.1.fr (hf 0 (by omega)) fun q h1 h2 => hf q (by omega), h.2.2.2.2.fr (hf 101 (by omega)) (hf 102 (by omega))⟩
theorem CoA.fld {M M' : mx_M} {Y : Sy} {F : FS} (h : CoA M Y) (hF : FiA M' 1 F) (hV : FV F) (hO : Out M M' 1 15) : CoA M' (F, Y.2.1, Y.2.2.1, Y.2.2.2) :=
  ⟨hF, hV, h.2.2.1.fr fun q h1 h2 => hO q (by omega), h.2.2.2.1.fr (hO 0 (by omega)) fun q h1 h2 => hO q (by omega), h.2.2.2.2.fr (hO 101 (by omega)) (hO 102 (by omega))⟩
theorem CoA.his {M M' : mx_M} {Y : Sy} {H : List FS} (h : CoA M Y) (hH : HiA M' H) (hO : Out M M' 43 101) : CoA M' (Y.1, H, Y.2.2.1, Y.2.2.2) :=
  ⟨h.1.fr fun q h1 h2 => hO q (by omega), h.2.1, hH, h.2.2.2.1.fr (hO 0 (by omega)) fun q h1 h2 => hO q (by omega), h.2.2.2.2.fr (hO 101 (by omega)) (hO 102 (by omega))⟩
theorem CoA.pad {M M' : mx_M} {Y : Sy} {L : List Nat} (h : CoA M Y) (hL : PaA M' L) (hO : Out M M' 101 103) : CoA M' (Y.1, Y.2.1, Y.2.2.1, L) :=
  ⟨h.1.fr fun q h1 h2 => hO q (by omega), h.2.1, h.2.2.1.fr fun q h1 h2 => hO q (by omega), h.2.2.2.1.fr (hO 0 (by omega)) fun q h1 h2 => hO q (by omega), hL⟩
theorem Out.mo {M M' : mx_M} {a b : Nat} (h : Out M M' a b) (hb : b ≤ 143) : Mo M M' := fun q hq => h q (by omega)
theorem ge_of {x : Int32} {n : Nat} (h0 : 0 ≤ x) (h : x < nI n) (hn : n < 2147483648) : ∃ j, j < n ∧ x = nI j := by
  obtain ⟨j, hj, rfl⟩ := nI_of (x := x) (Int32.not_lt.mpr h0)
  exact ⟨j, (nI_ltI hj hn).mp h, rfl⟩
theorem ge_of2 {x : Int32} {m n : Nat} (h0 : nI m ≤ x) (h : x ≤ nI n) (hm : m < 2147483648) (hn : n < 2147483648) : ∃ j, m ≤ j ∧ j ≤ n ∧ x = nI j := by
  have h1 : ¬ x < 0 := by
    intro z
    rw [Int32.lt_iff_toInt_lt] at z
    rw [Int32.le_iff_toInt_le, nI_t m hm] at h0
    have : (0 : Int32).toInt = 0 := rfl
    omega
  obtain ⟨j, hj, rfl⟩ := nI_of h1
  exact ⟨j, (nI_leI hm hj).mp h0, (nI_leI hj hn).mp h, rfl⟩
theorem st_of {x : Int32} (h0 : (-1) ≤ x) (h : x ≤ nI 1) : ∃ k, k < 3 ∧ x = dr k := by
  have h1 : -1 ≤ x.toInt := by rw [Int32.le_iff_toInt_le] at h0; exact h0
  have h2 : x.toInt ≤ 1 := by rw [Int32.le_iff_toInt_le] at h; exact h
  rcases (show x.toInt = -1 ∨ x.toInt = 0 ∨ x.toInt = 1 by omega) with h | h | h
  · exact ⟨0, by decide, Int32.toInt_inj.mp (h.trans (by decide))⟩
  · exact ⟨1, by decide, Int32.toInt_inj.mp (h.trans (by decide))⟩
  · exact ⟨2, by decide, Int32.toInt_inj.mp (h.trans (by decide))⟩
def tN (x : Int32) : Nat := x.toNatClampNeg
theorem tN_n {n : Nat} (h : n < 2147483648) : tN (nI n) = n := nI_clamp h
theorem tN_d : ∀ k, k < 3 → tN (dr k + nI 1) = k := by decide
def pushY (Y : Sy) (F : FS) : Sy := (F, hPush Y.1 Y.2.1, Y.2.2.1, Y.2.2.2)
def oEmitter (x1 x2 x3 x4 : Int32) (Y : Sy) : Int32 × Sy :=
  if (0 ≤ x1 ∧ x1 < nI 10) ∧ (0 ≤ x2 ∧ x2 ≤ nI 5) ∧ (nI 1 ≤ x3 ∧ x3 ≤ nI 9) ∧ 0 ≤ x4 ∧ x4 < x3 then
    (if Y.1.1.length = 4 then ((-3), Y) else (nI Y.1.1.length, pushY Y (Y.1.1 ++ [(tN x1, tN x2, tN x3, tN x4)], Y.1.2.1, Y.1.2.2.1, Y.1.2.2.2)))
  else ((-1), Y)
def oTakeAway (x : Int32) (Y : Sy) : Int32 × Sy :=
  if 0 ≤ x ∧ x < nI Y.1.1.length then (nI (Y.1.1.eraseIdx (tN x)).length, pushY Y (Y.1.1.eraseIdx (tN x), Y.1.2.1, Y.1.2.2.1, Y.1.2.2.2)) else ((-1), Y)
def oTick (x : Int32) (Y : Sy) : Int32 × Sy :=
  if (-1) ≤ x ∧ x ≤ nI 1 then (if Y.1.2.2.1 4 = 0 then (nI (fPass (tN (x + nI 1)) Y.1).1, pushY Y (fPass (tN (x + nI 1)) Y.1).2) else ((-2), Y)) else ((-1), Y)
def oBomb (Y : Sy) : Int32 × Sy := if Y.1.2.2.1 4 = 0 ∧ 0 < Y.1.2.2.1 2 then (nI (fBomb Y.1).1, pushY Y (fBomb Y.1).2) else ((-2), Y)
def oClearField (Y : Sy) : Int32 × Sy := (nI (fSweep Y.1).1, pushY Y (fSweep Y.1).2)
def oSet (x y : Int32) (Y : Sy) : Int32 × Sy :=
  if (x = 0 ∧ (y = 0 ∨ y = nI 1)) ∨ (x = nI 1 ∧ nI 1 ≤ y ∧ y ≤ nI 5) then (nI (Y.1.2.2.1 (5 + tN x)), pushY Y (Y.1.1, Y.1.2.1, va_up Y.1.2.2.1 (5 + tN x) (tN y), Y.1.2.2.2)) else ((-1), Y)
def oAppend (x : Int32) (Y : Sy) : Int32 × Sy :=
  if nI 33 ≤ x ∧ x ≤ nI 126 then (if Y.2.2.2.length = 60 then ((-3), Y) else (nI (Y.2.2.2.length + 1), (Y.1, Y.2.1, Y.2.2.1, Y.2.2.2 ++ [tN x]))) else ((-1), Y)
def oClear (Y : Sy) : Int32 × Sy := (nI Y.2.2.2.length, (Y.1, Y.2.1, Y.2.2.1, []))
def oFault (x : Int32) (Y : Sy) : Int32 := if x = 0 then crF Y.2.2.2 else if x = nI 1 then stF Y.2.2.2 else (-1)
def crE (L : List Nat) : List Em := match (crR cr0 L).2 with
  | some s => s.2.2.2
  | none => []
def oHang (Y : Sy) : Int32 × Sy :=
  if crF Y.2.2.2 = (-4) then (nI (crE Y.2.2.2).length, ((crE Y.2.2.2, Y.1.2.1, Y.1.2.2.1, Y.1.2.2.2), hPush Y.1 Y.2.1, Y.2.2.1, [])) else ((-2), Y)
def stK (c : Nat) : Nat := if c = 108 then 0 else if c = 114 then 2 else 1
/-- one step of the pad: whether it is possible, and the field behind it -/
def plS (c : Nat) (F : FS) : Option FS :=
  if c = 98 then (if F.2.2.1 4 = 0 ∧ 0 < F.2.2.1 2 then some (fBomb F).2 else none)
  else (if F.2.2.1 4 = 0 then some (fPass (stK c) F).2 else none)
def plR : List Nat → FS → Nat × FS
  | [], F => (0, F)
  | c :: L, F => match plS c F with
    | some G => ((plR L G).1 + 1, (plR L G).2)
    | none => (0, F)
def oPlay (Y : Sy) : Int32 × Sy :=
  if stF Y.2.2.2 = (-4) then (nI (plR Y.2.2.2 Y.1).1, ((plR Y.2.2.2 Y.1).2, hPush Y.1 Y.2.1, Y.2.2.1, [])) else ((-2), Y)
def oUndo (Y : Sy) : Int32 × Sy := match Y.2.1.getLast? with
  | some G => (nI Y.2.1.dropLast.length, (G, Y.2.1.dropLast, Y.2.2.1, Y.2.2.2))
  | none => ((-2), Y)
def oSave (Y : Sy) : Int32 × Sy := (nI (Y.1.2.2.1 3), (Y.1, Y.2.1, some Y.1, Y.2.2.2))
def oRestore (Y : Sy) : Int32 × Sy := match Y.2.2.1 with
  | some G => (nI (G.2.2.1 3), (G, hPush Y.1 Y.2.1, some G, Y.2.2.2))
  | none => ((-2), Y)
theorem crR_le : ∀ (L : List Nat) (s : Cr), (crR s L).1 ≤ L.length
  | [], _ => Nat.le_refl 0
  | c :: L, s => by
    unfold crR
    split
    · exact Nat.succ_le_succ (crR_le L _)
    · exact Nat.zero_le _
theorem n4_ne : ∀ n, n < 61 → nI n ≠ (-4) := by decide
theorem crF_4 {L : List Nat} (hl : L.length ≤ 60) (h : crF L = (-4)) : ∃ s, (crR cr0 L).2 = some s ∧ (s.1 = 3 ∨ s.1 = 5) ∧ crE L = s.2.2.2 := by
  have hle := crR_le L cr0
  unfold crF at h
  cases hz : (crR cr0 L).2 with
  | none =>
    rw [hz] at h
    exact absurd h (n4_ne _ (by omega))
  | some s =>
    rw [hz] at h
    dsimp only at h
    refine ⟨s, rfl, ?_, by unfold crE; rw [hz]⟩
    by_cases z : s.1 = 3 ∨ s.1 = 5
    · exact z
    · rw [if_neg z] at h
      exact absurd h (n4_ne _ (by omega))
set_option maxHeartbeats 1000000 in
set_option maxRecDepth 10000 in
theorem t_X7_emitter (M : mx_M) (Y : Sy) (hC : CoA M Y) (x1 x2 x3 x4 : Int32) : mx_T yX7_emitter cX7_emitter 5 (some .int) 5 [.ref 0, .int x1, .int x2, .int x3, .int x4] M (fun v M' => v = some (.int (oEmitter x1 x2 x3 x4 Y).1) ∧ CoA M' (oEmitter x1 x2 x3 x4 Y).2 ∧ Mo M M') := by
  refine mx_T.of1 (own := RX7) (ls := [some (.ref 0), some (.int x1), some (.int x2), some (.int x3), some (.int x4)]) (by decide +kernel) rfl (Nat.le_of_ble_eq_true rfl) rfl rfl ?_
  refine mx_iload_n (pc' := 1) dX7_emitter_0 rfl rfl ?_
  refine mx_callS (pc' := 4) dX7_emitter_1 cl_X7_54 (t_X7_isColumn M x1) rfl (by decide) rfl (Nat.le_of_ble_eq_true rfl) rfl (fun v N1 hv => ?_)
  obtain ⟨rfl, hv⟩ := hv
  rw [hv]
  refine mx_if_eq (tgt := 21) (pc' := 7) dX7_emitter_4 (by decide) rfl (fun c4 => ?_) (fun c4 => ?_)
  · refine mx_iconst (pc' := 22) (v := (-1)) dX7_emitter_21 (by decide) rfl ?_
    refine mx_iret dX7_emitter_22 (Or.inl rfl) ?_
    have e : oEmitter x1 x2 x3 x4 Y = ((-1), Y) := if_neg (fun z => bI_0.mp c4 z.1)
    rw [e]
    exact ⟨rfl, hC, Mo.rf⟩
  · have c4 := bI_n.mp c4
    refine mx_iload_n (pc' := 8) dX7_emitter_7 rfl rfl ?_
    refine mx_callS (pc' := 11) dX7_emitter_8 cl_X7_58 (t_X7_isPattern M x2) rfl (by decide) rfl (Nat.le_of_ble_eq_true rfl) rfl (fun v N8 hv => ?_)
    obtain ⟨rfl, hv⟩ := hv
    rw [hv]
    refine mx_if_eq (tgt := 21) (pc' := 14) dX7_emitter_11 (by decide) rfl (fun c11 => ?_) (fun c11 => ?_)
    · refine mx_iconst (pc' := 22) (v := (-1)) dX7_emitter_21 (by decide) rfl ?_
      refine mx_iret dX7_emitter_22 (Or.inl rfl) ?_
      have e : oEmitter x1 x2 x3 x4 Y = ((-1), Y) := if_neg (fun z => bI_0.mp c11 z.2.1)
      rw [e]
      exact ⟨rfl, hC, Mo.rf⟩
    · have c11 := bI_n.mp c11
      refine mx_iload_n (pc' := 15) dX7_emitter_14 rfl rfl ?_
      refine mx_callS (pc' := 18) dX7_emitter_15 cl_X7_61 (t_X7_isPeriod M x3) rfl (by decide) rfl (Nat.le_of_ble_eq_true rfl) rfl (fun v N15 hv => ?_)
      obtain ⟨rfl, hv⟩ := hv
      rw [hv]
      refine mx_if_ne (tgt := 23) (pc' := 21) dX7_emitter_18 (by decide) rfl (fun c18 => ?_) (fun c18 => ?_)
      · have c18 := bI_n.mp c18
        refine mx_iload (pc' := 25) dX7_emitter_23 rfl rfl ?_
        refine mx_if_lt (tgt := 34) (pc' := 28) dX7_emitter_25 (by decide) rfl (fun c25 => ?_) (fun c25 => ?_)
        · refine mx_iconst (pc' := 35) (v := (-1)) dX7_emitter_34 (by decide) rfl ?_
          refine mx_iret dX7_emitter_35 (Or.inl rfl) ?_
          have e : oEmitter x1 x2 x3 x4 Y = ((-1), Y) := if_neg (fun z => Int32.not_lt.mpr z.2.2.2.1 c25)
          rw [e]
          exact ⟨rfl, hC, Mo.rf⟩
        · have c25 := Int32.not_lt.mp c25
          refine mx_iload (pc' := 30) dX7_emitter_28 rfl rfl ?_
          refine mx_iload_n (pc' := 31) dX7_emitter_30 rfl rfl ?_
          refine mx_icmp_lt (tgt := 36) (pc' := 34) dX7_emitter_31 (by decide) rfl (fun c31 => ?_) (fun c31 => ?_)
          · obtain ⟨n1, hn1, rfl⟩ := ge_of c4.1 c4.2 (by decide)
            obtain ⟨n2, -, hn2, rfl⟩ := ge_of2 (m := 0) c11.1 c11.2 (by decide) (by decide)
            obtain ⟨n3, hn3, hn3', rfl⟩ := ge_of2 c18.1 c18.2 (by decide) (by decide)
            obtain ⟨n4, hn4, rfl⟩ := ge_of c25 c31 (by omega)
            have e0 : oEmitter (nI n1) (nI n2) (nI n3) (nI n4) Y = (if Y.1.1.length = 4 then ((-3), Y) else (nI Y.1.1.length, pushY Y (Y.1.1 ++ [(n1, n2, n3, n4)], Y.1.2.1, Y.1.2.2.1, Y.1.2.2.2))) := by
              unfold oEmitter
              rw [if_pos ⟨c4, c11, c18, c25, c31⟩, tN_n (by omega), tN_n (by omega), tN_n (by omega), tN_n (by omega)]
            rw [e0]
            have h4 := hC.1.1.2.1.1
            refine mx_aload_n (pc' := 37) dX7_emitter_36 rfl rfl ?_
            refine mx_getr (pc' := 40) dX7_emitter_37 fl_X7_10 (rfl) (by rfl) rfl ?_
            refine mx_getr (pc' := 43) dX7_emitter_40 fl_X7_64 (rfl) (by rfl) rfl ?_
            refine mx_callV (pc' := 46) dX7_emitter_43 cl_X7_68 (rfl) (t_X2_isFull M 2 Y.1.1.length (FB.s (Or.inl rfl)).2.1 hC.1.1.1 h4) rfl (by decide) rfl (Nat.le_of_ble_eq_true rfl) rfl (fun v N43 hv => ?_)
            obtain ⟨rfl, hv⟩ := hv
            rw [hv]
            refine mx_if_eq (tgt := 52) (pc' := 49) dX7_emitter_46 (by decide) rfl (fun c46 => ?_) (fun c46 => ?_)
            · have c46 := bI_0.mp c46
              rw [if_neg c46]
              refine mx_aload_n (pc' := 53) dX7_emitter_52 rfl rfl ?_
              refine mx_getr (pc' := 56) dX7_emitter_53 fl_X7_29 (rfl) (by rfl) rfl ?_
              refine mx_aload_n (pc' := 57) dX7_emitter_56 rfl rfl ?_
              refine mx_getr (pc' := 60) dX7_emitter_57 fl_X7_10 (rfl) (by rfl) rfl ?_
              refine mx_callV (pc' := 63) dX7_emitter_60 cl_X7_74 (rfl) (t_X4_record _ 1 (Or.inl rfl) (by decide) Y.1 hC.1 hC.2.1 Y.2.1 hC.2.2.1) rfl (by decide) rfl (Nat.le_of_ble_eq_true rfl) rfl (fun v N60 hv => ?_)
              obtain ⟨rfl, hH, hO⟩ := hv
              have hC1 := hC.his hH hO
              have hM1 := hO.mo (by decide)
              refine mx_aload_n (pc' := 64) dX7_emitter_63 rfl rfl ?_
              refine mx_getr (pc' := 67) dX7_emitter_64 fl_X7_10 (rfl) (by rfl) rfl ?_
              refine mx_getr (pc' := 70) dX7_emitter_67 fl_X7_64 (rfl) (by rfl) rfl ?_
              refine mx_iload_n (pc' := 71) dX7_emitter_70 rfl rfl ?_
              refine mx_iload_n (pc' := 72) dX7_emitter_71 rfl rfl ?_
              refine mx_iload_n (pc' := 73) dX7_emitter_72 rfl rfl ?_
              refine mx_iload (pc' := 75) dX7_emitter_73 rfl rfl ?_
              refine mx_callV (pc' := 78) dX7_emitter_75 cl_X7_78 (rfl) (t_X2_add N60 2 (FB.s (Or.inl rfl)).2.1 Y.1.1 hC1.1.1 (by omega) (n1, n2, n3, n4) ⟨hn1, by show n2 < 6; omega, hn3, hn3', hn4⟩) rfl (by decide) rfl (Nat.le_of_ble_eq_true rfl) rfl (fun v N75 hv => ?_)
              obtain ⟨rfl, hE, hO2⟩ := hv
              have hF2 := hC1.1.em hE hO2
              refine mx_aload_n (pc' := 79) dX7_emitter_78 rfl rfl ?_
              refine mx_getr (pc' := 82) dX7_emitter_79 fl_X7_10 (rfl) (by rfl) rfl ?_
              refine mx_getr (pc' := 85) dX7_emitter_82 fl_X7_64 (rfl) (by rfl) rfl ?_
              refine mx_getf (pc' := 88) (v := nI (Y.1.1.length + 1)) dX7_emitter_85 fl_X7_82 (rfl) (by rfl) (hE.1.trans (congrArg nI (by rw [List.length_append]; rfl))) rfl ?_
              refine mx_iconst (pc' := 89) (v := nI 1) dX7_emitter_88 (by decide) rfl ?_
              refine mx_isub (pc' := 90) (v := nI Y.1.1.length) dX7_emitter_89 (pk_sub (b := 1) (by omega)) rfl ?_
              refine mx_iret dX7_emitter_90 (Or.inl rfl) ?_
              exact ⟨rfl, hC1.fld hF2 hC.2.1 (hO2.wd (by decide) (by decide)), hM1.tr (hO2.mo (by decide))⟩
            · have c46 := bI_n.mp c46
              rw [if_pos c46]
              refine mx_bipush (pc' := 51) (v := (-3)) dX7_emitter_49 (by decide) rfl ?_
              refine mx_iret dX7_emitter_51 (Or.inl rfl) ?_
              exact ⟨rfl, hC, Mo.rf⟩
          · refine mx_iconst (pc' := 35) (v := (-1)) dX7_emitter_34 (by decide) rfl ?_
            refine mx_iret dX7_emitter_35 (Or.inl rfl) ?_
            have e : oEmitter x1 x2 x3 x4 Y = ((-1), Y) := if_neg (fun z => c31 z.2.2.2.2)
            rw [e]
            exact ⟨rfl, hC, Mo.rf⟩
      · refine mx_iconst (pc' := 22) (v := (-1)) dX7_emitter_21 (by decide) rfl ?_
        refine mx_iret dX7_emitter_22 (Or.inl rfl) ?_
        have e : oEmitter x1 x2 x3 x4 Y = ((-1), Y) := if_neg (fun z => bI_0.mp c18 z.2.2.1)
        rw [e]
        exact ⟨rfl, hC, Mo.rf⟩

set_option maxHeartbeats 1000000 in
set_option maxRecDepth 10000 in
theorem t_X7_takeAway (M : mx_M) (Y : Sy) (hC : CoA M Y) (x : Int32) : mx_T yX7_takeAway cX7_takeAway 2 (some .int) 5 [.ref 0, .int x] M (fun v M' => v = some (.int (oTakeAway x Y).1) ∧ CoA M' (oTakeAway x Y).2 ∧ Mo M M') := by
  refine mx_T.of1 (own := RX7) (ls := [some (.ref 0), some (.int x)]) (by decide +kernel) rfl (Nat.le_of_ble_eq_true rfl) rfl rfl ?_
  refine mx_aload_n (pc' := 1) dX7_takeAway_0 rfl rfl ?_
  refine mx_getr (pc' := 4) dX7_takeAway_1 fl_X7_10 (rfl) (by rfl) rfl ?_
  refine mx_getr (pc' := 7) dX7_takeAway_4 fl_X7_64 (rfl) (by rfl) rfl ?_
  refine mx_iload_n (pc' := 8) dX7_takeAway_7 rfl rfl ?_
  refine mx_callV (pc' := 11) dX7_takeAway_8 cl_X7_86 (rfl) (t_X2_has M 2 Y.1.1.length (FB.s (Or.inl rfl)).2.1 hC.1.1.1 hC.1.1.2.1.1 x) rfl (by decide) rfl (Nat.le_of_ble_eq_true rfl) rfl (fun v N8 hv => ?_)
  obtain ⟨rfl, hv⟩ := hv
  rw [hv]
  refine mx_if_ne (tgt := 16) (pc' := 14) dX7_takeAway_11 (by decide) rfl (fun c11 => ?_) (fun c11 => ?_)
  · have c11 := bI_n.mp c11
    have h4 := hC.1.1.2.1.1
    have e0 : oTakeAway x Y = (nI (Y.1.1.eraseIdx (tN x)).length, pushY Y (Y.1.1.eraseIdx (tN x), Y.1.2.1, Y.1.2.2.1, Y.1.2.2.2)) := if_pos c11
    rw [e0]
    obtain ⟨r, hr, rfl⟩ := ge_of c11.1 c11.2 (by omega)
    rw [tN_n (by omega)]
    refine mx_aload_n (pc' := 17) dX7_takeAway_16 rfl rfl ?_
    refine mx_getr (pc' := 20) dX7_takeAway_17 fl_X7_29 (rfl) (by rfl) rfl ?_
    refine mx_aload_n (pc' := 21) dX7_takeAway_20 rfl rfl ?_
    refine mx_getr (pc' := 24) dX7_takeAway_21 fl_X7_10 (rfl) (by rfl) rfl ?_
    refine mx_callV (pc' := 27) dX7_takeAway_24 cl_X7_74 (rfl) (t_X4_record _ 1 (Or.inl rfl) (by decide) Y.1 hC.1 hC.2.1 Y.2.1 hC.2.2.1) rfl (by decide) rfl (Nat.le_of_ble_eq_true rfl) rfl (fun v N24 hv => ?_)
    obtain ⟨rfl, hH, hO⟩ := hv
    have hC1 := hC.his hH hO
    have hM1 := hO.mo (by decide)
    refine mx_aload_n (pc' := 28) dX7_takeAway_27 rfl rfl ?_
    refine mx_getr (pc' := 31) dX7_takeAway_28 fl_X7_10 (rfl) (by rfl) rfl ?_
    refine mx_getr (pc' := 34) dX7_takeAway_31 fl_X7_64 (rfl) (by rfl) rfl ?_
    refine mx_iload_n (pc' := 35) dX7_takeAway_34 rfl rfl ?_
    refine mx_callV (pc' := 38) dX7_takeAway_35 cl_X7_89 (rfl) (t_X2_remove N24 2 r (FB.s (Or.inl rfl)).2.1 Y.1.1 hC1.1.1 hr) rfl (by decide) rfl (Nat.le_of_ble_eq_true rfl) rfl (fun v N35 hv => ?_)
    obtain ⟨rfl, hE, hO2⟩ := hv
    have hF2 := hC1.1.em hE hO2
    refine mx_aload_n (pc' := 39) dX7_takeAway_38 rfl rfl ?_
    refine mx_getr (pc' := 42) dX7_takeAway_39 fl_X7_10 (rfl) (by rfl) rfl ?_
    refine mx_getr (pc' := 45) dX7_takeAway_42 fl_X7_64 (rfl) (by rfl) rfl ?_
    refine mx_getf (pc' := 48) (v := nI (Y.1.1.eraseIdx r).length) dX7_takeAway_45 fl_X7_82 (rfl) (by rfl) (hE.1) rfl ?_
    refine mx_iret dX7_takeAway_48 (Or.inl rfl) ?_
    exact ⟨rfl, hC1.fld hF2 hC.2.1 (hO2.wd (by decide) (by decide)), hM1.tr (hO2.mo (by decide))⟩
  · have c11 := bI_0.mp c11
    refine mx_iconst (pc' := 15) (v := (-1)) dX7_takeAway_14 (by decide) rfl ?_
    refine mx_iret dX7_takeAway_15 (Or.inl rfl) ?_
    have e : oTakeAway x Y = ((-1), Y) := if_neg c11
    rw [e]
    exact ⟨rfl, hC, Mo.rf⟩

set_option maxHeartbeats 1000000 in
set_option maxRecDepth 10000 in
theorem t_X7_tick (M : mx_M) (Y : Sy) (hC : CoA M Y) (ht : Y.1.2.2.1 3 + 100 < 2147483648) (x : Int32) : mx_T yX7_tick cX7_tick 2 (some .int) 6 [.ref 0, .int x] M (fun v M' => v = some (.int (oTick x Y).1) ∧ CoA M' (oTick x Y).2 ∧ Mo M M') := by
  refine mx_T.of1 (own := RX7) (ls := [some (.ref 0), some (.int x)]) (by decide +kernel) rfl (Nat.le_of_ble_eq_true rfl) rfl rfl ?_
  refine mx_iload_n (pc' := 1) dX7_tick_0 rfl rfl ?_
  refine mx_callS (pc' := 4) dX7_tick_1 cl_X7_93 (t_X7_isStep M x) rfl (by decide) rfl (Nat.le_of_ble_eq_true rfl) rfl (fun v N1 hv => ?_)
  obtain ⟨rfl, hv⟩ := hv
  rw [hv]
  refine mx_if_ne (tgt := 9) (pc' := 7) dX7_tick_4 (by decide) rfl (fun c4 => ?_) (fun c4 => ?_)
  · have c4 := bI_n.mp c4
    have h4 := hC.2.1.2.2.2.1
    have e0 : oTick x Y = (if Y.1.2.2.1 4 = 0 then (nI (fPass (tN (x + nI 1)) Y.1).1, pushY Y (fPass (tN (x + nI 1)) Y.1).2) else ((-2), Y)) := if_pos c4
    rw [e0]
    obtain ⟨k, hk, rfl⟩ := st_of c4.1 c4.2
    rw [tN_d k hk]
    refine mx_aload_n (pc' := 10) dX7_tick_9 rfl rfl ?_
    refine mx_getr (pc' := 13) dX7_tick_10 fl_X7_10 (rfl) (by rfl) rfl ?_
    refine mx_getf (pc' := 16) (v := nI (Y.1.2.2.1 4)) dX7_tick_13 fl_X7_96 (rfl) (by rfl) (hC.1.2.2.1 4 (by decide)) rfl ?_
    refine mx_if_eq (tgt := 22) (pc' := 19) dX7_tick_16 (by decide) rfl (fun c16 => ?_) (fun c16 => ?_)
    · have c16 : Y.1.2.2.1 4 = 0 := (nI_eq (a := Y.1.2.2.1 4) (b := 0) (by omega) (by omega)).mp c16
      rw [if_pos c16]
      refine mx_aload_n (pc' := 23) dX7_tick_22 rfl rfl ?_
      refine mx_getr (pc' := 26) dX7_tick_23 fl_X7_29 (rfl) (by rfl) rfl ?_
      refine mx_aload_n (pc' := 27) dX7_tick_26 rfl rfl ?_
      refine mx_getr (pc' := 30) dX7_tick_27 fl_X7_10 (rfl) (by rfl) rfl ?_
      refine mx_callV (pc' := 33) dX7_tick_30 cl_X7_74 (rfl) (t_X4_record _ 1 (Or.inl rfl) (by decide) Y.1 hC.1 hC.2.1 Y.2.1 hC.2.2.1) rfl (by decide) rfl (Nat.le_of_ble_eq_true rfl) rfl (fun v N30 hv => ?_)
      obtain ⟨rfl, hH, hO⟩ := hv
      have hC1 := hC.his hH hO
      have hM1 := hO.mo (by decide)
      refine mx_aload_n (pc' := 34) dX7_tick_33 rfl rfl ?_
      refine mx_getr (pc' := 37) dX7_tick_34 fl_X7_10 (rfl) (by rfl) rfl ?_
      refine mx_iload_n (pc' := 38) dX7_tick_37 rfl rfl ?_
      refine mx_callV (pc' := 41) dX7_tick_38 cl_X7_99 (rfl) (t_X3_passTick N30 1 (Or.inl rfl) Y.1 hC1.1 hC.2.1 (by omega) k hk) rfl (by decide) rfl (Nat.le_of_ble_eq_true rfl) rfl (fun v N38 hv => ?_)
      obtain ⟨rfl, hF2, hO2⟩ := hv
      refine mx_iret dX7_tick_41 (Or.inl rfl) ?_
      exact ⟨rfl, hC1.fld hF2 (hC.2.1.pass k) (hO2.wd (by decide) (by decide)), hM1.tr (hO2.mo (by decide))⟩
    · have c16 : ¬ Y.1.2.2.1 4 = 0 := fun z => c16 (by rw [z]; rfl)
      rw [if_neg c16]
      refine mx_bipush (pc' := 21) (v := (-2)) dX7_tick_19 (by decide) rfl ?_
      refine mx_iret dX7_tick_21 (Or.inl rfl) ?_
      exact ⟨rfl, hC, Mo.rf⟩
  · have c4 := bI_0.mp c4
    refine mx_iconst (pc' := 8) (v := (-1)) dX7_tick_7 (by decide) rfl ?_
    refine mx_iret dX7_tick_8 (Or.inl rfl) ?_
    have e : oTick x Y = ((-1), Y) := if_neg c4
    rw [e]
    exact ⟨rfl, hC, Mo.rf⟩

set_option maxHeartbeats 1000000 in
set_option maxRecDepth 10000 in
theorem t_X7_bomb (M : mx_M) (Y : Sy) (hC : CoA M Y) : mx_T yX7_bomb cX7_bomb 1 (some .int) 5 [.ref 0] M (fun v M' => v = some (.int (oBomb Y).1) ∧ CoA M' (oBomb Y).2 ∧ Mo M M') := by
  refine mx_T.of1 (own := RX7) (ls := [some (.ref 0)]) (by decide +kernel) rfl (Nat.le_of_ble_eq_true rfl) rfl rfl ?_
  refine mx_aload_n (pc' := 1) dX7_bomb_0 rfl rfl ?_
  refine mx_getr (pc' := 4) dX7_bomb_1 fl_X7_10 (rfl) (by rfl) rfl ?_
  refine mx_callV (pc' := 7) dX7_bomb_4 cl_X7_103 (rfl) (t_X3_canBomb M 1 (Or.inl rfl) Y.1 hC.1 hC.2.1) rfl (by decide) rfl (Nat.le_of_ble_eq_true rfl) rfl (fun v N4 hv => ?_)
  obtain ⟨rfl, hv⟩ := hv
  rw [hv]
  refine mx_if_ne (tgt := 13) (pc' := 10) dX7_bomb_7 (by decide) rfl (fun c7 => ?_) (fun c7 => ?_)
  · have c7 := bI_n.mp c7
    have e0 : oBomb Y = (nI (fBomb Y.1).1, pushY Y (fBomb Y.1).2) := if_pos c7
    rw [e0]
    refine mx_aload_n (pc' := 14) dX7_bomb_13 rfl rfl ?_
    refine mx_getr (pc' := 17) dX7_bomb_14 fl_X7_29 (rfl) (by rfl) rfl ?_
    refine mx_aload_n (pc' := 18) dX7_bomb_17 rfl rfl ?_
    refine mx_getr (pc' := 21) dX7_bomb_18 fl_X7_10 (rfl) (by rfl) rfl ?_
    refine mx_callV (pc' := 24) dX7_bomb_21 cl_X7_74 (rfl) (t_X4_record _ 1 (Or.inl rfl) (by decide) Y.1 hC.1 hC.2.1 Y.2.1 hC.2.2.1) rfl (by decide) rfl (Nat.le_of_ble_eq_true rfl) rfl (fun v N21 hv => ?_)
    obtain ⟨rfl, hH, hO⟩ := hv
    have hC1 := hC.his hH hO
    have hM1 := hO.mo (by decide)
    refine mx_aload_n (pc' := 25) dX7_bomb_24 rfl rfl ?_
    refine mx_getr (pc' := 28) dX7_bomb_25 fl_X7_10 (rfl) (by rfl) rfl ?_
    refine mx_callV (pc' := 31) dX7_bomb_28 cl_X7_106 (rfl) (t_X3_throwBomb N21 1 (Or.inl rfl) Y.1 hC1.1 hC.2.1 c7.2) rfl (by decide) rfl (Nat.le_of_ble_eq_true rfl) rfl (fun v N28 hv => ?_)
    obtain ⟨rfl, hF2, hO2⟩ := hv
    refine mx_iret dX7_bomb_31 (Or.inl rfl) ?_
    exact ⟨rfl, hC1.fld hF2 hC.2.1.bomb (hO2.wd (by decide) (by decide)), hM1.tr (hO2.mo (by decide))⟩
  · have c7 := bI_0.mp c7
    refine mx_bipush (pc' := 12) (v := (-2)) dX7_bomb_10 (by decide) rfl ?_
    refine mx_iret dX7_bomb_12 (Or.inl rfl) ?_
    have e : oBomb Y = ((-2), Y) := if_neg c7
    rw [e]
    exact ⟨rfl, hC, Mo.rf⟩

set_option maxHeartbeats 1000000 in
set_option maxRecDepth 10000 in
theorem t_X7_clearField (M : mx_M) (Y : Sy) (hC : CoA M Y) : mx_T yX7_clearField cX7_clearField 1 (some .int) 5 [.ref 0] M (fun v M' => v = some (.int (oClearField Y).1) ∧ CoA M' (oClearField Y).2 ∧ Mo M M') := by
  refine mx_T.of1 (own := RX7) (ls := [some (.ref 0)]) (by decide +kernel) rfl (Nat.le_of_ble_eq_true rfl) rfl rfl ?_
  refine mx_aload_n (pc' := 1) dX7_clearField_0 rfl rfl ?_
  refine mx_getr (pc' := 4) dX7_clearField_1 fl_X7_29 (rfl) (by rfl) rfl ?_
  refine mx_aload_n (pc' := 5) dX7_clearField_4 rfl rfl ?_
  refine mx_getr (pc' := 8) dX7_clearField_5 fl_X7_10 (rfl) (by rfl) rfl ?_
  refine mx_callV (pc' := 11) dX7_clearField_8 cl_X7_74 (rfl) (t_X4_record _ 1 (Or.inl rfl) (by decide) Y.1 hC.1 hC.2.1 Y.2.1 hC.2.2.1) rfl (by decide) rfl (Nat.le_of_ble_eq_true rfl) rfl (fun v N8 hv => ?_)
  obtain ⟨rfl, hH, hO⟩ := hv
  have hC1 := hC.his hH hO
  have hM1 := hO.mo (by decide)
  refine mx_aload_n (pc' := 12) dX7_clearField_11 rfl rfl ?_
  refine mx_getr (pc' := 15) dX7_clearField_12 fl_X7_10 (rfl) (by rfl) rfl ?_
  refine mx_callV (pc' := 18) dX7_clearField_15 cl_X7_110 (rfl) (t_X3_sweep N8 1 (Or.inl rfl) Y.1 hC1.1) rfl (by decide) rfl (Nat.le_of_ble_eq_true rfl) rfl (fun v N15 hv => ?_)
  obtain ⟨rfl, hF2, hO2⟩ := hv
  refine mx_iret dX7_clearField_18 (Or.inl rfl) ?_
  exact ⟨rfl, hC1.fld hF2 hC.2.1.sweep (hO2.wd (by decide) (by decide)), hM1.tr (hO2.mo (by decide))⟩

set_option maxHeartbeats 1000000 in
set_option maxRecDepth 10000 in
theorem t_X7_set (M : mx_M) (Y : Sy) (hC : CoA M Y) (x y : Int32) : mx_T yX7_set cX7_set 4 (some .int) 5 [.ref 0, .int x, .int y] M (fun v M' => v = some (.int (oSet x y Y).1) ∧ CoA M' (oSet x y Y).2 ∧ Mo M M') := by
  refine mx_T.of1 (own := RX7) (ls := [some (.ref 0), some (.int x), some (.int y), none]) (by decide +kernel) rfl (Nat.le_of_ble_eq_true rfl) rfl rfl ?_
  refine mx_iload_n (pc' := 1) dX7_set_0 rfl rfl ?_
  refine mx_iload_n (pc' := 2) dX7_set_1 rfl rfl ?_
  refine mx_callS (pc' := 5) dX7_set_2 cl_X7_113 (t_X7_isSetting M x y) rfl (by decide) rfl (Nat.le_of_ble_eq_true rfl) rfl (fun v N2 hv => ?_)
  obtain ⟨rfl, hv⟩ := hv
  rw [hv]
  refine mx_if_ne (tgt := 10) (pc' := 8) dX7_set_5 (by decide) rfl (fun c5 => ?_) (fun c5 => ?_)
  · have c5 := bI_n.mp c5
    have e0 : oSet x y Y = (nI (Y.1.2.2.1 (5 + tN x)), pushY Y (Y.1.1, Y.1.2.1, va_up Y.1.2.2.1 (5 + tN x) (tN y), Y.1.2.2.2)) := if_pos c5
    rw [e0]
    obtain ⟨k, n, hk, rfl, rfl, hkn⟩ : ∃ k n : Nat, k < 2 ∧ x = nI k ∧ y = nI n ∧ ((k = 0 ∧ n < 2) ∨ (k = 1 ∧ 1 ≤ n ∧ n ≤ 5)) := by
      rcases c5 with ⟨rfl, h⟩ | ⟨rfl, h1, h2⟩
      · rcases h with rfl | rfl
        · exact ⟨0, 0, by decide, rfl, rfl, Or.inl ⟨rfl, by decide⟩⟩
        · exact ⟨0, 1, by decide, rfl, rfl, Or.inl ⟨rfl, by decide⟩⟩
      · obtain ⟨j, h3, h4, rfl⟩ := ge_of2 h1 h2 (by decide) (by decide)
        exact ⟨1, j, by decide, rfl, rfl, Or.inr ⟨rfl, h3, h4⟩⟩
    rw [tN_n (by omega), tN_n (by omega)]
    refine mx_aload_n (pc' := 11) dX7_set_10 rfl rfl ?_
    refine mx_getr (pc' := 14) dX7_set_11 fl_X7_29 (rfl) (by rfl) rfl ?_
    refine mx_aload_n (pc' := 15) dX7_set_14 rfl rfl ?_
    refine mx_getr (pc' := 18) dX7_set_15 fl_X7_10 (rfl) (by rfl) rfl ?_
    refine mx_callV (pc' := 21) dX7_set_18 cl_X7_74 (rfl) (t_X4_record _ 1 (Or.inl rfl) (by decide) Y.1 hC.1 hC.2.1 Y.2.1 hC.2.2.1) rfl (by decide) rfl (Nat.le_of_ble_eq_true rfl) rfl (fun v N18 hv => ?_)
    obtain ⟨rfl, hH, hO⟩ := hv
    have hC1 := hC.his hH hO
    have hM1 := hO.mo (by decide)
    refine mx_aload_n (pc' := 22) dX7_set_21 rfl rfl ?_
    refine mx_getr (pc' := 25) dX7_set_22 fl_X7_10 (rfl) (by rfl) rfl ?_
    refine mx_getr (pc' := 28) dX7_set_25 fl_X7_117 (rfl) (by rfl) rfl ?_
    refine mx_iload_n (pc' := 29) dX7_set_28 rfl rfl ?_
    refine mx_iald (pc' := 30) (v := nI (Y.1.2.2.1 (5 + k))) dX7_set_29 (rfl) (rfl) (hk) (hC1.1.2.2.2.1 k hk) rfl ?_
    refine mx_istore_n (pc' := 31) (ls' := [_, _, _, _]) dX7_set_30 (by decide) (rfl) rfl rfl ?_
    refine mx_aload_n (pc' := 32) dX7_set_31 rfl rfl ?_
    refine mx_getr (pc' := 35) dX7_set_32 fl_X7_10 (rfl) (by rfl) rfl ?_
    refine mx_getr (pc' := 38) dX7_set_35 fl_X7_117 (rfl) (by rfl) rfl ?_
    refine mx_iload_n (pc' := 39) dX7_set_38 rfl rfl ?_
    refine mx_iload_n (pc' := 40) dX7_set_39 rfl rfl ?_
    refine mx_iast (pc' := 41) dX7_set_40 (rfl) (rfl) (hk) rfl ?_
    refine mx_iload_n (pc' := 42) dX7_set_41 rfl rfl ?_
    refine mx_iret dX7_set_42 (Or.inl rfl) ?_
    have hF2 := hC1.1.st k hk n
    refine ⟨rfl, hC1.fld hF2 ?_ (Out.rf.up (by decide) (by decide)), hM1.tr ((Out.rf.up (a := 1) (b := 15) (by decide) (by decide)).mo (by decide))⟩
    obtain ⟨v0, v1, v2, v4, v5, v6, v7⟩ := hC.2.1
    rcases hkn with ⟨rfl, hn⟩ | ⟨rfl, hn, hn'⟩
    · exact ⟨v0, v1, v2, v4, hn, v6, v7⟩
    · exact ⟨v0, v1, v2, v4, v5, hn, hn'⟩
  · have c5 := bI_0.mp c5
    refine mx_iconst (pc' := 9) (v := (-1)) dX7_set_8 (by decide) rfl ?_
    refine mx_iret dX7_set_9 (Or.inl rfl) ?_
    have e : oSet x y Y = ((-1), Y) := if_neg c5
    rw [e]
    exact ⟨rfl, hC, Mo.rf⟩

set_option maxHeartbeats 1000000 in
set_option maxRecDepth 10000 in
theorem t_X7_append (M : mx_M) (Y : Sy) (hC : CoA M Y) (x : Int32) : mx_T yX7_append cX7_append 2 (some .int) 3 [.ref 0, .int x] M (fun v M' => v = some (.int (oAppend x Y).1) ∧ CoA M' (oAppend x Y).2 ∧ Mo M M') := by
  refine mx_T.of1 (own := RX7) (ls := [some (.ref 0), some (.int x)]) (by decide +kernel) rfl (Nat.le_of_ble_eq_true rfl) rfl rfl ?_
  refine mx_iload_n (pc' := 1) dX7_append_0 rfl rfl ?_
  refine mx_bipush (pc' := 3) (v := nI 33) dX7_append_1 (by decide) rfl ?_
  refine mx_icmp_lt (tgt := 12) (pc' := 6) dX7_append_3 (by decide) rfl (fun c3 => ?_) (fun c3 => ?_)
  · refine mx_iconst (pc' := 13) (v := (-1)) dX7_append_12 (by decide) rfl ?_
    refine mx_iret dX7_append_13 (Or.inl rfl) ?_
    have e : oAppend x Y = ((-1), Y) := if_neg (fun z => Int32.not_lt.mpr z.1 c3)
    rw [e]
    exact ⟨rfl, hC, Mo.rf⟩
  · have c3 := Int32.not_lt.mp c3
    refine mx_iload_n (pc' := 7) dX7_append_6 rfl rfl ?_
    refine mx_bipush (pc' := 9) (v := nI 126) dX7_append_7 (by decide) rfl ?_
    refine mx_icmp_le (tgt := 14) (pc' := 12) dX7_append_9 (by decide) rfl (fun c9 => ?_) (fun c9 => ?_)
    · have e0 : oAppend x Y = (if Y.2.2.2.length = 60 then ((-3), Y) else (nI (Y.2.2.2.length + 1), (Y.1, Y.2.1, Y.2.2.1, Y.2.2.2 ++ [tN x]))) := if_pos ⟨c3, c9⟩
      rw [e0]
      obtain ⟨c, hc, hc', rfl⟩ := ge_of2 c3 c9 (by decide) (by decide)
      rw [tN_n (by omega)]
      have h60 := hC.2.2.2.2.2.1
      refine mx_aload_n (pc' := 15) dX7_append_14 rfl rfl ?_
      refine mx_getr (pc' := 18) dX7_append_15 fl_X7_36 (rfl) (by rfl) rfl ?_
      refine mx_callV (pc' := 21) dX7_append_18 cl_X7_121 (rfl) (t_X6_isFull M Y.2.2.2 hC.2.2.2.2) rfl (by decide) rfl (Nat.le_of_ble_eq_true rfl) rfl (fun v N18 hv => ?_)
      obtain ⟨rfl, hv⟩ := hv
      rw [hv]
      refine mx_if_eq (tgt := 27) (pc' := 24) dX7_append_21 (by decide) rfl (fun c21 => ?_) (fun c21 => ?_)
      · have c21 := bI_0.mp c21
        rw [if_neg c21]
        refine mx_aload_n (pc' := 28) dX7_append_27 rfl rfl ?_
        refine mx_getr (pc' := 31) dX7_append_28 fl_X7_36 (rfl) (by rfl) rfl ?_
        refine mx_iload_n (pc' := 32) dX7_append_31 rfl rfl ?_
        refine mx_callV (pc' := 35) dX7_append_32 cl_X7_122 (rfl) (t_X6_add M Y.2.2.2 hC.2.2.2.2 (by omega) c (by omega)) rfl (by decide) rfl (Nat.le_of_ble_eq_true rfl) rfl (fun v N32 hv => ?_)
        obtain ⟨rfl, hP, hO⟩ := hv
        refine mx_aload_n (pc' := 36) dX7_append_35 rfl rfl ?_
        refine mx_getr (pc' := 39) dX7_append_36 fl_X7_36 (rfl) (by rfl) rfl ?_
        refine mx_getf (pc' := 42) (v := nI (Y.2.2.2.length + 1)) dX7_append_39 fl_X7_124 (rfl) (by rfl) (hP.1.trans (congrArg nI (by rw [List.length_append]; rfl))) rfl ?_
        refine mx_iret dX7_append_42 (Or.inl rfl) ?_
        exact ⟨rfl, hC.pad hP hO, hO.mo (by decide)⟩
      · have c21 := bI_n.mp c21
        rw [if_pos c21]
        refine mx_bipush (pc' := 26) (v := (-3)) dX7_append_24 (by decide) rfl ?_
        refine mx_iret dX7_append_26 (Or.inl rfl) ?_
        exact ⟨rfl, hC, Mo.rf⟩
    · refine mx_iconst (pc' := 13) (v := (-1)) dX7_append_12 (by decide) rfl ?_
      refine mx_iret dX7_append_13 (Or.inl rfl) ?_
      have e : oAppend x Y = ((-1), Y) := if_neg (fun z => c9 z.2)
      rw [e]
      exact ⟨rfl, hC, Mo.rf⟩

set_option maxHeartbeats 1000000 in
set_option maxRecDepth 10000 in
theorem t_X7_clear (M : mx_M) (Y : Sy) (hC : CoA M Y) : mx_T yX7_clear cX7_clear 2 (some .int) 1 [.ref 0] M (fun v M' => v = some (.int (oClear Y).1) ∧ CoA M' (oClear Y).2 ∧ Mo M M') := by
  refine mx_T.of1 (own := RX7) (ls := [some (.ref 0), none]) (by decide +kernel) rfl (Nat.le_of_ble_eq_true rfl) rfl rfl ?_
  refine mx_aload_n (pc' := 1) dX7_clear_0 rfl rfl ?_
  refine mx_getr (pc' := 4) dX7_clear_1 fl_X7_36 (rfl) (by rfl) rfl ?_
  refine mx_getf (pc' := 7) (v := nI Y.2.2.2.length) dX7_clear_4 fl_X7_124 (rfl) (by rfl) (hC.2.2.2.2.1) rfl ?_
  refine mx_istore_n (pc' := 8) (ls' := [_, _]) dX7_clear_7 (by decide) (rfl) rfl rfl ?_
  refine mx_aload_n (pc' := 9) dX7_clear_8 rfl rfl ?_
  refine mx_getr (pc' := 12) dX7_clear_9 fl_X7_36 (rfl) (by rfl) rfl ?_
  refine mx_iconst (pc' := 13) (v := nI 0) dX7_clear_12 (by decide) rfl ?_
  refine mx_putf (pc' := 16) dX7_clear_13 fl_X7_124 (rfl) (by rfl) (⟨rfl, rfl⟩) rfl ?_
  refine mx_iload_n (pc' := 17) dX7_clear_16 rfl rfl ?_
  refine mx_iret dX7_clear_17 (Or.inl rfl) ?_
  exact ⟨rfl, hC.pad (L := []) ⟨mx_up_eq _ _ _ _, by decide, fun c h => by simp at h, fun j c h => by simp at h⟩ (Out.rf.up (by decide) (by decide)), (Out.rf.up (a := 101) (b := 103) (by decide) (by decide)).mo (by decide)⟩

set_option maxHeartbeats 1000000 in
set_option maxRecDepth 10000 in
theorem t_X7_fault (M : mx_M) (Y : Sy) (hC : CoA M Y) (x : Int32) : mx_T yX7_fault cX7_fault 2 (some .int) 6 [.ref 0, .int x] M (fun v M' => v = some (.int (oFault x Y)) ∧ CoA M' Y ∧ Mo M M') := by
  refine mx_T.of1 (own := RX7) (ls := [some (.ref 0), some (.int x)]) (by decide +kernel) rfl (Nat.le_of_ble_eq_true rfl) rfl rfl ?_
  refine mx_iload_n (pc' := 1) dX7_fault_0 rfl rfl ?_
  refine mx_if_ne (tgt := 16) (pc' := 4) dX7_fault_1 (by decide) rfl (fun c1 => ?_) (fun c1 => ?_)
  · refine mx_iload_n (pc' := 17) dX7_fault_16 rfl rfl ?_
    refine mx_iconst (pc' := 18) (v := nI 1) dX7_fault_17 (by decide) rfl ?_
    refine mx_icmp_ne (tgt := 29) (pc' := 21) dX7_fault_18 (by decide) rfl (fun c18 => ?_) (fun c18 => ?_)
    · refine mx_iconst (pc' := 30) (v := (-1)) dX7_fault_29 (by decide) rfl ?_
      refine mx_iret dX7_fault_30 (Or.inl rfl) ?_
      exact ⟨congrArg (fun z => some (Value.int z)) ((if_neg c1).trans (if_neg c18)).symm, hC, Mo.rf⟩
    · refine mx_aload_n (pc' := 22) dX7_fault_21 rfl rfl ?_
      refine mx_getr (pc' := 25) dX7_fault_22 fl_X7_36 (rfl) (by rfl) rfl ?_
      refine mx_callV (pc' := 28) dX7_fault_25 cl_X7_131 (rfl) (t_X6_faultInSteps M Y.2.2.2 hC.2.2.2.2) rfl (by decide) rfl (Nat.le_of_ble_eq_true rfl) rfl (fun v N25 hv => ?_)
      obtain ⟨rfl, hv⟩ := hv
      rw [hv]
      refine mx_iret dX7_fault_28 (Or.inl rfl) ?_
      exact ⟨congrArg (fun z => some (Value.int z)) ((if_neg c1).trans (if_pos c18)).symm, hC, Mo.rf⟩
  · refine mx_aload_n (pc' := 5) dX7_fault_4 rfl rfl ?_
    refine mx_getr (pc' := 8) dX7_fault_5 fl_X7_43 (rfl) (by rfl) rfl ?_
    refine mx_aload_n (pc' := 9) dX7_fault_8 rfl rfl ?_
    refine mx_getr (pc' := 12) dX7_fault_9 fl_X7_36 (rfl) (by rfl) rfl ?_
    refine mx_callV (pc' := 15) dX7_fault_12 cl_X7_127 (rfl) (t_X1_faultIn M Y.2.2.2 hC.2.2.2.2) rfl (by decide) rfl (Nat.le_of_ble_eq_true rfl) rfl (fun v N12 hv => ?_)
    obtain ⟨rfl, -, hO⟩ := hv
    refine mx_iret dX7_fault_15 (Or.inl rfl) ?_
    exact ⟨congrArg (fun z => some (Value.int z)) (if_pos c1).symm, hC.fr fun q hq => hO q (by omega), hO.mo (by decide)⟩

set_option maxHeartbeats 1000000 in
set_option maxRecDepth 10000 in
theorem t_X7_hang (M : mx_M) (Y : Sy) (hC : CoA M Y) : mx_T yX7_hang cX7_hang 1 (some .int) 6 [.ref 0] M (fun v M' => v = some (.int (oHang Y).1) ∧ CoA M' (oHang Y).2 ∧ Mo M M') := by
  refine mx_T.of1 (own := RX7) (ls := [some (.ref 0)]) (by decide +kernel) rfl (Nat.le_of_ble_eq_true rfl) rfl rfl ?_
  refine mx_aload_n (pc' := 1) dX7_hang_0 rfl rfl ?_
  refine mx_getr (pc' := 4) dX7_hang_1 fl_X7_43 (rfl) (by rfl) rfl ?_
  refine mx_aload_n (pc' := 5) dX7_hang_4 rfl rfl ?_
  refine mx_getr (pc' := 8) dX7_hang_5 fl_X7_36 (rfl) (by rfl) rfl ?_
  refine mx_callV (pc' := 11) dX7_hang_8 cl_X7_127 (rfl) (t_X1_faultIn M Y.2.2.2 hC.2.2.2.2) rfl (by decide) rfl (Nat.le_of_ble_eq_true rfl) rfl (fun v N8 hv => ?_)
  obtain ⟨rfl, hE, hO⟩ := hv
  have hC0 : CoA N8 Y := hC.fr fun q hq => hO q (by omega)
  have hM0 : Mo M N8 := hO.mo (by decide)
  refine mx_bipush (pc' := 13) (v := (-4)) dX7_hang_11 (by decide) rfl ?_
  refine mx_icmp_eq (tgt := 19) (pc' := 16) dX7_hang_13 (by decide) rfl (fun c13 => ?_) (fun c13 => ?_)
  · obtain ⟨s, hs1, hs2, hs3⟩ := crF_4 hC.2.2.2.2.2.1 c13
    have hE := hE s hs1
    have e0 : oHang Y = (nI (crE Y.2.2.2).length, ((crE Y.2.2.2, Y.1.2.1, Y.1.2.2.1, Y.1.2.2.2), hPush Y.1 Y.2.1, Y.2.2.1, [])) := if_pos c13
    rw [e0, hs3]
    refine mx_aload_n (pc' := 20) dX7_hang_19 rfl rfl ?_
    refine mx_getr (pc' := 23) dX7_hang_20 fl_X7_29 (rfl) (by rfl) rfl ?_
    refine mx_aload_n (pc' := 24) dX7_hang_23 rfl rfl ?_
    refine mx_getr (pc' := 27) dX7_hang_24 fl_X7_10 (rfl) (by rfl) rfl ?_
    refine mx_callV (pc' := 30) dX7_hang_27 cl_X7_74 (rfl) (t_X4_record _ 1 (Or.inl rfl) (by decide) Y.1 hC0.1 hC0.2.1 Y.2.1 hC0.2.2.1) rfl (by decide) rfl (Nat.le_of_ble_eq_true rfl) rfl (fun v N27 hv => ?_)
    obtain ⟨rfl, hH, hO⟩ := hv
    have hC1 := hC0.his hH hO
    have hM1 := hO.mo (by decide)
    refine mx_aload_n (pc' := 31) dX7_hang_30 rfl rfl ?_
    refine mx_getr (pc' := 34) dX7_hang_31 fl_X7_10 (rfl) (by rfl) rfl ?_
    refine mx_getr (pc' := 37) dX7_hang_34 fl_X7_64 (rfl) (by rfl) rfl ?_
    refine mx_aload_n (pc' := 38) dX7_hang_37 rfl rfl ?_
    refine mx_getr (pc' := 41) dX7_hang_38 fl_X7_43 (rfl) (by rfl) rfl ?_
    refine mx_getr (pc' := 44) dX7_hang_41 fl_X7_134 (rfl) (by rfl) rfl ?_
    refine mx_callV (pc' := 47) dX7_hang_44 cl_X7_135 (rfl) (t_X2_copyFrom N27 2 104 (FB.s (Or.inl rfl)).2.1 EmS104 (by decide) s.2.2.2 (hE.fr fun q z1 z2 => hO q (by omega))) rfl (by decide) rfl (Nat.le_of_ble_eq_true rfl) rfl (fun v N44 hv => ?_)
    obtain ⟨rfl, hE2, hO2⟩ := hv
    have hF2 := hC1.1.em hE2 hO2
    have hC2 := hC1.fld hF2 hC.2.1 (hO2.wd (by decide) (by decide))
    have hO3 : Out N44 (mx_up N44 101 1 (nI 0)) 101 103 := Out.rf.up (by decide) (by decide)
    refine mx_aload_n (pc' := 48) dX7_hang_47 rfl rfl ?_
    refine mx_getr (pc' := 51) dX7_hang_48 fl_X7_36 (rfl) (by rfl) rfl ?_
    refine mx_iconst (pc' := 52) (v := nI 0) dX7_hang_51 (by decide) rfl ?_
    refine mx_putf (pc' := 55) dX7_hang_52 fl_X7_124 (rfl) (by rfl) (⟨rfl, rfl⟩) rfl ?_
    refine mx_aload_n (pc' := 56) dX7_hang_55 rfl rfl ?_
    refine mx_getr (pc' := 59) dX7_hang_56 fl_X7_10 (rfl) (by rfl) rfl ?_
    refine mx_getr (pc' := 62) dX7_hang_59 fl_X7_64 (rfl) (by rfl) rfl ?_
    refine mx_getf (pc' := 65) (v := nI s.2.2.2.length) dX7_hang_62 fl_X7_82 (rfl) (by rfl) (((by simp [mx_up]) : _ = N44 2 4).trans hE2.1) rfl ?_
    refine mx_iret dX7_hang_65 (Or.inl rfl) ?_
    exact ⟨rfl, hC2.pad (L := []) ⟨mx_up_eq _ _ _ _, by decide, fun c h => by simp at h, fun j c h => by simp at h⟩ hO3, ((hM0.tr hM1).tr (hO2.mo (by decide))).tr (hO3.mo (by decide))⟩
  · refine mx_bipush (pc' := 18) (v := (-2)) dX7_hang_16 (by decide) rfl ?_
    refine mx_iret dX7_hang_18 (Or.inl rfl) ?_
    have e : oHang Y = ((-2), Y) := if_neg c13
    rw [e]
    exact ⟨rfl, hC0, hM0⟩

