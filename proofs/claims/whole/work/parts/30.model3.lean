def dDr (t : Nat) (x : Bu) : Nat := if (x.2.1 + x.2.2.1 < 1 ∨ 10 < x.2.1 + x.2.2.1) ∧ t = 1 then 2 - x.2.2.1 else x.2.2.1
def flB (t : Nat) (x : Bu) : Bool := decide (x.1 = 11 ∨ ((x.2.1 + x.2.2.1 < 1 ∨ 10 < x.2.1 + x.2.2.1) ∧ t = 0))
def mvW (t : Nat) (x : Bu) : Nat → Int32
  | 0 => nI (x.1 + 1)
  | 1 => nI x.2.1 + dr (dDr t x)
  | 2 => nI (if x.2.2.2.1 = 1 then 2 - dDr t x else dDr t x)
  | 3 => nI x.2.2.2.1
  | _ => nI x.2.2.2.2
def encW (x : Bu) : Nat → Int32
  | 0 => nI x.1
  | 1 => nI x.2.1
  | 2 => nI x.2.2.1
  | 3 => nI x.2.2.2.1
  | _ => nI x.2.2.2.2
theorem BuR.of {f : Nat → Int32} {p : Nat} {x : Bu} (h : ∀ w, w < 5 → f (p + w) = encW x w) : BuR f p x := ⟨h 0 (by decide), h 1 (by decide), h 2 (by decide), h 3 (by decide), h 4 (by decide)⟩
theorem BuR.w {f : Nat → Int32} {p : Nat} {x : Bu} (h : BuR f p x) : ∀ w, w < 5 → f (p + w) = encW x w := by
  intro w hw
  rcases (show w = 0 ∨ w = 1 ∨ w = 2 ∨ w = 3 ∨ w = 4 by omega) with rfl | rfl | rfl | rfl | rfl
  · exact h.1
  · exact h.2.1
  · exact h.2.2.1
  · exact h.2.2.2.1
  · exact h.2.2.2.2
theorem dDr_lt {t : Nat} {x : Bu} (hV : BuV x) : dDr t x < 3 := by
  have := hV.2.2.1
  unfold dDr; split <;> omega
theorem fl_none {t : Nat} {x : Bu} (h : flB t x = true) : fallB t x = none := by
  have h := of_decide_eq_true h
  refine if_pos ?_
  rcases h with h | ⟨h1, h2⟩
  · exact Or.inl (by omega)
  · exact Or.inr ⟨h1, by omega⟩
theorem fl_some {t : Nat} {x : Bu} (hV : BuV x) (ht : t < 2) (h : flB t x = false) : ∃ y, fallB t x = some y ∧ ∀ w, w < 5 → mvW t x w = encW y w := by
  have h := of_decide_eq_false h
  obtain ⟨r, c, d, w, g⟩ := x
  obtain ⟨v1, v2, v3, v4, v5⟩ := hV
  dsimp only at h v1 v2 v3 v4 v5
  have hn : ¬ (11 ≤ r ∨ ((c + d < 1 ∨ 10 < c + d) ∧ t ≠ 1)) := by omega
  have hd : dDr t (r, c, d, w, g) = (if c + d < 1 ∨ 10 < c + d then 2 - d else d) := by
    unfold dDr
    dsimp only
    by_cases h1 : c + d < 1 ∨ 10 < c + d
    · rw [if_pos h1, if_pos ⟨h1, by omega⟩]
    · rw [if_neg h1, if_neg (fun z => h1 z.1)]
  refine ⟨_, if_neg hn, fun k hk => ?_⟩
  have hlt : dDr t (r, c, d, w, g) < 3 := dDr_lt (x := (r, c, d, w, g)) ⟨v1, v2, v3, v4, v5⟩
  rcases (show k = 0 ∨ k = 1 ∨ k = 2 ∨ k = 3 ∨ k = 4 by omega) with rfl | rfl | rfl | rfl | rfl
  · rfl
  · show nI c + dr (dDr t (r, c, d, w, g)) = nI (c + (if c + d < 1 ∨ 10 < c + d then 2 - d else d) - 1)
    rw [← hd]
    refine dr_add c (by omega) _ hlt ?_
    rw [hd]
    split <;> omega
  · show nI (if w = 1 then 2 - dDr t (r, c, d, w, g) else dDr t (r, c, d, w, g)) = _
    rw [hd]; rfl
  · rfl
  · rfl
theorem keptR_cons (q : Rb) (L : List Rb) : keptR (q :: L) = if q.1 = true then keptR L else q :: keptR L := by
  unfold keptR
  cases h : q.1 <;> simp [h]
/-- what is kept is the list K, by its words -/
def KeR (L : List Rb) (K : List Bu) : Prop := L.length = K.length ∧ ∀ (j : Nat) (y : Bu), K[j]? = some y → ∃ q, L[j]? = some q ∧ ∀ w, w < 5 → q.2 w = encW y w
theorem KeR.cons {L : List Rb} {K : List Bu} {q : Rb} {y : Bu} (h : KeR L K) (hq : ∀ w, w < 5 → q.2 w = encW y w) : KeR (q :: L) (y :: K) := by
  refine ⟨by rw [List.length_cons, List.length_cons, h.1], fun j z hz => ?_⟩
  cases j with
  | zero => cases hz; exact ⟨q, rfl, hq⟩
  | succ j =>
    obtain ⟨r, h1, h2⟩ := h.2 j z (by simpa using hz)
    exact ⟨r, by simpa using h1, h2⟩
theorem kept_fall (t : Nat) (ht : t < 2) : ∀ B : List Bu, (∀ x ∈ B, BuV x) → KeR (keptR (B.map (fun x => (flB t x, mvW t x)))) (B.filterMap (fallB t))
  | [], _ => ⟨rfl, fun j y h => by simp at h⟩
  | x :: B, hV => by
    have ih := kept_fall t ht B (fun y hy => hV y (List.mem_cons_of_mem _ hy))
    rw [List.map_cons, keptR_cons]
    cases h : flB t x with
    | true =>
      rw [if_pos rfl, List.filterMap_cons_none (fl_none h)]
      exact ih
    | false =>
      obtain ⟨y, hy, hw⟩ := fl_some (hV x List.mem_cons_self) ht h
      rw [if_neg Bool.false_ne_true, List.filterMap_cons_some hy]
      exact ih.cons hw
theorem kept_flt (p : Bu → Bool) : ∀ B : List Bu, KeR (keptR (B.map (fun x => (p x, encW x)))) (B.filter (fun x => !p x))
  | [] => ⟨rfl, fun j y h => by simp at h⟩
  | x :: B => by
    have ih := kept_flt p B
    rw [List.map_cons, keptR_cons]
    cases h : p x with
    | true =>
      rw [if_pos rfl, List.filter_cons_of_neg (by simp [h])]
      exact ih
    | false =>
      rw [if_neg Bool.false_ne_true, List.filter_cons_of_pos (by simp [h])]
      exact ih.cons (fun _ _ => rfl)
/-- behind takesAway -/
theorem MF.took {M M1 M' : mx_M} {F : FS} {L : List Rb} {K : List Bu} (h : MF M F) (hM1 : ∀ j, j < 33 → M1 144 j = M 144 j) (hK : KeR (keptR L) K) (hKL : BuL K) (h1 : M' 144 1 = nI (keptR L).length) (hW : WoA M' 0 (keptR L)) (hj : ∀ j, j < 33 → j ≠ 1 → M' 144 j = M1 144 j) : MF M' (F.1, K, F.2.2.1, F.2.2.2) := by
  have hz : ∀ j, j < 33 → j ≠ 1 → M' 144 j = M 144 j := fun j a b => (hj j a b).trans (hM1 j a)
  have h4 := h.eL.1
  refine MF.mk (F := (F.1, K, F.2.2.1, F.2.2.2)) ((hz 0 (by omega) (by omega)).trans h.E) (h1.trans (congrArg nI hK.1)) (fun j hj => (hz _ (by omega) (by omega)).trans (h.sc j hj)) (fun j hj => (hz _ (by omega) (by omega)).trans (h.ac j hj)) (fun j hj => (hz _ (by omega) (by omega)).trans (h.st j hj)) h.eL hKL (fun i e he => (h.em he).fr fun j hj => hz _ (by have hl : i < F.1.length := len_lt he; omega) (by omega)) (fun i y hy => ?_)
  obtain ⟨q, h2, h3⟩ := hK.2 i y hy
  exact BuR.of fun w hw => (hW i q h2 (Nat.zero_le _) w hw).trans (h3 w hw)
theorem dr_le : ∀ c, c < 12 → ∀ d, d < 3 → (nI c + dr d ≤ nI 9 ↔ c + d ≤ 10) := by decide +kernel
set_option maxHeartbeats 1000000 in
set_option maxRecDepth 10000 in
theorem l_X8_falls (M : mx_M) (F : FS) (hF : MF M F) (t : Nat) (ht5 : F.2.2.1 5 = t) (ht : t < 2) : ∀ (k : Nat) (i : Nat) (M1 : mx_M) (z1 z2 : Option Value), mx_c1 [z1, z2] = true → F.2.1.length < i + k → i ≤ F.2.1.length → MoS M M1 → (∀ j, j < 33 → M1 144 j = M 144 j) → (∀ (j : Nat) (y : Bu), F.2.1[j]? = some y → j < i → M1 149 j = nI (flB t y).toNat ∧ ∀ k, k < 5 → M1 144 (33 + 5 * j + k) = mvW t y k) → (∀ (j : Nat) (y : Bu), F.2.1[j]? = some y → i ≤ j → BuR (M1 144) (33 + 5 * j) y) → mx_V cX8_falls RX8 4 none 4 2 [some (.ref 143), some (.int (nI i)), z1, z2] [] M1 (fun v M' => v = none ∧ MF M' (fFalls F) ∧ MoS M M') := by
  have h60 := hF.bL.1
  intro k
  induction k with
  | zero =>
    intro i M1 z1 z2 hz hk hi hO hj2 hlo hhi
    exact absurd hk (by omega)
  | succ k ih =>
    intro i M1 z1 z2 hz hk hi hO hj2 hlo hhi
    refine mx_iload_n (pc' := 3) dX8_falls_2 rfl rfl ?_
    refine mx_aload_n (pc' := 4) dX8_falls_3 rfl rfl ?_
    refine mx_getr (pc' := 7) dX8_falls_4 fl_X8_7 (rfl) (by rfl) rfl ?_
    refine mx_iconst (pc' := 8) (v := nI 1) dX8_falls_7 (by decide) rfl ?_
    refine mx_iald (pc' := 9) (v := nI F.2.1.length) dX8_falls_8 (rfl) (rfl) (by decide) ((hj2 1 (by decide)).trans hF.B) rfl ?_
    refine mx_icmp_ge (tgt := 160) (pc' := 12) dX8_falls_9 (by decide) rfl (fun c9 => ?_) (fun c9 => ?_)
    · have c9 := (nI_leI (by omega) (by omega)).mp c9
      refine mx_aload_n (pc' := 161) dX8_falls_160 rfl rfl ?_
      refine mx_getr (pc' := 164) dX8_falls_161 fl_X8_7 (rfl) (by rfl) rfl ?_
      refine mx_bipush (pc' := 166) (v := nI 9) dX8_falls_164 (by decide) rfl ?_
      refine mx_dup2 (pc' := 167) dX8_falls_166 rfl rfl rfl ?_
      refine mx_iald (pc' := 168) (v := F.2.2.2 2) dX8_falls_167 (rfl) (rfl) (by decide) ((hj2 9 (by decide)).trans (hF.ac 2 (by decide))) rfl ?_
      refine mx_aload_n (pc' := 169) dX8_falls_168 rfl rfl ?_
      refine mx_callV (pc' := 172) dX8_falls_169 cl_X8_61 (rfl) (t_X8_takesAway M1 (F.2.1.map (fun x => (flB t x, mvW t x))) ⟨by rw [List.length_map]; exact (hj2 1 (by decide)).trans hF.B, by rw [List.length_map]; exact hF.bL.1, fun j q hq => by
    rw [List.getElem?_map, Option.map_eq_some_iff] at hq
    obtain ⟨y, hy, rfl⟩ := hq
    exact hlo j y hy (by have := len_lt hy; omega)⟩) rfl (by decide) rfl (Nat.le_of_ble_eq_true rfl) rfl (fun v N169 hv => ?_)
      obtain ⟨rfl, h1, hW, h3, hO3⟩ := hv
      have hK := kept_fall t ht F.2.1 hF.bL.2
      have hF2 := hF.took hj2 hK ⟨Nat.le_trans (List.length_filterMap_le _ _) hF.bL.1, fun y hy => by obtain ⟨z, hz, hzy⟩ := List.mem_filterMap.mp hy; exact fallB_V (hF.bL.2 z hz) hzy⟩ h1 hW h3
      rw [List.length_map, hK.1]
      have hO4 : MoS M N169 := hO.tr (fun q a b => hO3 q (by omega))
      refine mx_iadd (pc' := 173) dX8_falls_172 (rfl) rfl ?_
      refine mx_iast (pc' := 174) dX8_falls_173 (rfl) (rfl) (by decide) rfl ?_
      refine mx_vret dX8_falls_174 rfl ?_
      exact ⟨rfl, by unfold fFalls; rw [ht5]; exact hF2.uac 2 (by decide) _, hO4.up (Or.inl rfl)⟩
    · have c9 := Nat.not_le.mp (fun z => c9 ((nI_leI (by omega) (by omega)).mpr z))
      obtain ⟨x, hx⟩ := get_lt c9
      have hV := hF.bL.2 x (List.mem_of_getElem? hx)
      have hw := hhi i x hx (Nat.le_refl i)
      obtain ⟨r, c, d, w, g⟩ := x
      obtain ⟨v1, v2, v3, v4, v5⟩ := id hV
      obtain ⟨w1, w2, w3, w4, w5⟩ := id hw
      dsimp only at v1 v2 v3 v4 v5 w1 w2 w3 w4 w5
      have hd3 : dDr t (r, c, d, w, g) < 3 := dDr_lt hV
      have hz2 : mx_c1 [z2] = true := by
        simp only [mx_c1, List.all_cons, List.all_nil, Bool.and_true, Bool.and_eq_true] at hz ⊢
        exact hz.2
      have J66 : mx_V cX8_falls RX8 4 none 4 66 [some (.ref 143), some (.int (nI i)), some (.int (dr (dDr t (r, c, d, w, g)))), some (.int (bI (c + d < 1 ∨ 10 < c + d)))] [] M1 (fun v M' => v = none ∧ MF M' (fFalls F) ∧ MoS M M') := by
        refine mx_aload_n (pc' := 67) dX8_falls_66 rfl rfl ?_
        refine mx_getr (pc' := 70) dX8_falls_67 fl_X8_25 (rfl) (by rfl) rfl ?_
        refine mx_iload_n (pc' := 71) dX8_falls_70 rfl rfl ?_
        refine mx_aload_n (pc' := 72) dX8_falls_71 rfl rfl ?_
        refine mx_iload_n (pc' := 73) dX8_falls_72 rfl rfl ?_
        refine mx_iconst (pc' := 74) (v := nI 0) dX8_falls_73 (by decide) rfl ?_
        refine mx_callV (pc' := 77) dX8_falls_74 cl_X8_53 (rfl) (t_X8_of M1 i 0 (by omega) (by decide)) rfl (by decide) rfl (Nat.le_of_ble_eq_true rfl) rfl (fun v N74 hv => ?_)
        obtain ⟨rfl, hv⟩ := hv
        rw [hv, show M1 144 (33 + 5 * i + 0) = nI r from w1]
        refine mx_bipush (pc' := 79) (v := nI 11) dX8_falls_77 (by decide) rfl ?_
        refine mx_icmp_eq (tgt := 96) (pc' := 82) dX8_falls_79 (by decide) rfl (fun c79 => ?_) (fun c79 => ?_)
        · have c79 := (nI_eq (by omega) (by omega)).mp c79
          have hf : flB t (r, c, d, w, g) = true := decide_eq_true (Or.inl c79)
          refine mx_iconst (pc' := 97) (v := nI (flB t (r, c, d, w, g)).toNat) dX8_falls_96 (by rw [hf]; decide) rfl ?_
          refine mx_goto (pc' := 101) dX8_falls_97 (by decide) ?_
          refine mx_bast (pc' := 102) dX8_falls_101 (rfl) (rfl) (by omega) (nI_vb (by cases flB t (r, c, d, w, g) <;> decide)) rfl ?_
          generalize hN : mx_up M1 149 i (nI (flB t (r, c, d, w, g)).toNat) = N
          have g0 : ∀ x, N 144 x = M1 144 x := fun x => by rw [← hN, mx_up_ne (by decide)]
          have g1 : ∀ x, N 149 x = if x = i then nI (flB t (r, c, d, w, g)).toNat else M1 149 x := fun x => by rw [← hN, mx_up_fn]; rfl
          have g2 : MoS M N := by rw [← hN]; exact hO.up (Or.inr rfl)
          refine mx_aload_n (pc' := 103) dX8_falls_102 rfl rfl ?_
          refine mx_iload_n (pc' := 104) dX8_falls_103 rfl rfl ?_
          refine mx_iconst (pc' := 105) (v := nI 0) dX8_falls_104 (by decide) rfl ?_
          refine mx_aload_n (pc' := 106) dX8_falls_105 rfl rfl ?_
          refine mx_iload_n (pc' := 107) dX8_falls_106 rfl rfl ?_
          refine mx_iconst (pc' := 108) (v := nI 0) dX8_falls_107 (by decide) rfl ?_
          refine mx_callV (pc' := 111) dX8_falls_108 cl_X8_53 (rfl) (t_X8_of N i 0 (by omega) (by decide)) rfl (by decide) rfl (Nat.le_of_ble_eq_true rfl) rfl (fun v N108 hv => ?_)
          obtain ⟨rfl, hv⟩ := hv
          rw [hv, show N 144 (33 + 5 * i + 0) = nI r from (g0 _).trans w1]
          refine mx_iconst (pc' := 112) (v := nI 1) dX8_falls_111 (by decide) rfl ?_
          refine mx_iadd (pc' := 113) (v := nI (r + 1)) dX8_falls_112 (nI_add r 1) rfl ?_
          refine mx_callV (pc' := 116) dX8_falls_113 cl_X8_57 (rfl) (t_X8_lays N i 0 (by omega) (by decide) _) rfl (by decide) rfl (Nat.le_of_ble_eq_true rfl) rfl (fun v N113 hv => ?_)
          obtain ⟨rfl, e113⟩ := hv
          refine mx_aload_n (pc' := 117) dX8_falls_116 rfl rfl ?_
          refine mx_iload_n (pc' := 118) dX8_falls_117 rfl rfl ?_
          refine mx_iconst (pc' := 119) (v := nI 1) dX8_falls_118 (by decide) rfl ?_
          refine mx_aload_n (pc' := 120) dX8_falls_119 rfl rfl ?_
          refine mx_iload_n (pc' := 121) dX8_falls_120 rfl rfl ?_
          refine mx_iconst (pc' := 122) (v := nI 1) dX8_falls_121 (by decide) rfl ?_
          refine mx_callV (pc' := 125) dX8_falls_122 cl_X8_53 (rfl) (t_X8_of N113 i 1 (by omega) (by decide)) rfl (by decide) rfl (Nat.le_of_ble_eq_true rfl) rfl (fun v N122 hv => ?_)
          obtain ⟨rfl, hv⟩ := hv
          rw [hv, show N113 144 (33 + 5 * i + 1) = nI c from by rw [e113, mx_up_fn, upd_ne _ _ (by omega)]; exact (g0 _).trans w2]
          refine mx_iload_n (pc' := 126) dX8_falls_125 rfl rfl ?_
          refine mx_iadd (pc' := 127) dX8_falls_126 (rfl) rfl ?_
          refine mx_callV (pc' := 130) dX8_falls_127 cl_X8_57 (rfl) (t_X8_lays N113 i 1 (by omega) (by decide) _) rfl (by decide) rfl (Nat.le_of_ble_eq_true rfl) rfl (fun v N127 hv => ?_)
          obtain ⟨rfl, e127⟩ := hv
          refine mx_aload_n (pc' := 131) dX8_falls_130 rfl rfl ?_
          refine mx_iload_n (pc' := 132) dX8_falls_131 rfl rfl ?_
          refine mx_iconst (pc' := 133) (v := nI 2) dX8_falls_132 (by decide) rfl ?_
          refine mx_iconst (pc' := 134) (v := nI 1) dX8_falls_133 (by decide) rfl ?_
          refine mx_aload_n (pc' := 135) dX8_falls_134 rfl rfl ?_
          refine mx_iload_n (pc' := 136) dX8_falls_135 rfl rfl ?_
          refine mx_iconst (pc' := 137) (v := nI 3) dX8_falls_136 (by decide) rfl ?_
          refine mx_callV (pc' := 140) dX8_falls_137 cl_X8_53 (rfl) (t_X8_of N127 i 3 (by omega) (by decide)) rfl (by decide) rfl (Nat.le_of_ble_eq_true rfl) rfl (fun v N137 hv => ?_)
          obtain ⟨rfl, hv⟩ := hv
          rw [hv, show N127 144 (33 + 5 * i + 3) = nI w from by rw [e127, mx_up_fn, upd_ne _ _ (by omega), e113, mx_up_fn, upd_ne _ _ (by omega)]; exact (g0 _).trans w4]
          refine mx_iconst (pc' := 141) (v := nI 1) dX8_falls_140 (by decide) rfl ?_
          refine mx_icmp_ne (tgt := 149) (pc' := 144) dX8_falls_141 (by decide) rfl (fun c141 => ?_) (fun c141 => ?_)
          · have c141 : ¬ _ := fun z => c141 ((nI_eq (by omega) (by omega)).mpr z)
            refine mx_iload_n (pc' := 150) dX8_falls_149 rfl rfl ?_
            refine mx_iadd (pc' := 151) (v := nI (if w = 1 then 2 - dDr t (r, c, d, w, g) else dDr t (r, c, d, w, g))) dX8_falls_150 (by rw [if_neg c141]; exact dr_1 _) rfl ?_
            refine mx_callV (pc' := 154) dX8_falls_151 cl_X8_57 (rfl) (t_X8_lays N127 i 2 (by omega) (by decide) _) rfl (by decide) rfl (Nat.le_of_ble_eq_true rfl) rfl (fun v N151 hv => ?_)
            obtain ⟨rfl, e151⟩ := hv
            refine mx_iinc (pc' := 157) (ls' := [_, _, _, _]) (v := nI (i + 1)) dX8_falls_154 rfl (nI_add i 1) (by decide) (rfl) rfl rfl ?_
            refine mx_goto (pc' := 2) dX8_falls_157 (by decide) ?_
            have hz : ∀ x, N151 144 x = if x = 33 + 5 * i + 2 then nI (if w = 1 then 2 - dDr t (r, c, d, w, g) else dDr t (r, c, d, w, g)) else if x = 33 + 5 * i + 1 then nI c + dr (dDr t (r, c, d, w, g)) else if x = 33 + 5 * i + 0 then nI (r + 1) else M1 144 x := by
              intro x
              rw [e151, mx_up_fn]
              by_cases h2 : x = 33 + 5 * i + 2
              · rw [h2, upd_eq, if_pos rfl]
              · rw [upd_ne _ _ h2, if_neg h2, e127, mx_up_fn]
                by_cases h1 : x = 33 + 5 * i + 1
                · rw [h1, upd_eq, if_pos rfl]
                · rw [upd_ne _ _ h1, if_neg h1, e113, mx_up_fn]
                  by_cases h0 : x = 33 + 5 * i + 0
                  · rw [h0, upd_eq, if_pos rfl]
                  · rw [upd_ne _ _ h0, if_neg h0]; exact g0 x
            have hz9 : ∀ x, N151 149 x = if x = i then nI (flB t (r, c, d, w, g)).toNat else M1 149 x := by
              intro x
              rw [e151, mx_up_ne (by decide), e127, mx_up_ne (by decide), e113, mx_up_ne (by decide)]
              exact g1 x
            refine ih (i + 1) N151 _ _ (by simp [mx_c1, Value.category]) (by omega) (by omega) (by rw [e151, e127, e113]; exact ((g2.up (Or.inl rfl)).up (Or.inl rfl)).up (Or.inl rfl)) (fun j h => ?_) (fun j y hy h => ?_) (fun j y hy h => ?_)
            · rw [hz, if_neg (by omega), if_neg (by omega), if_neg (by omega)]; exact hj2 j h
            · by_cases e : j = i
              · subst e
                rw [hx] at hy
                cases hy
                refine ⟨by rw [hz9, if_pos rfl], fun k hk => ?_⟩
                rcases (show k = 0 ∨ k = 1 ∨ k = 2 ∨ k = 3 ∨ k = 4 by omega) with rfl | rfl | rfl | rfl | rfl
                · rw [hz, if_neg (by omega), if_neg (by omega), if_pos rfl]; rfl
                · rw [hz, if_neg (by omega), if_pos rfl]; rfl
                · rw [hz, if_pos rfl]; rfl
                · rw [hz, if_neg (by omega), if_neg (by omega), if_neg (by omega)]; exact w4
                · rw [hz, if_neg (by omega), if_neg (by omega), if_neg (by omega)]; exact w5
              · obtain ⟨h1, h2⟩ := hlo j y hy (by omega)
                refine ⟨by rw [hz9, if_neg e]; exact h1, fun k hk => ?_⟩
                rw [hz, if_neg (by omega), if_neg (by omega), if_neg (by omega)]; exact h2 k hk
            · refine (hhi j y hy (by omega)).fr fun k hk => ?_
              rw [hz, if_neg (by omega), if_neg (by omega), if_neg (by omega)]
          · have c141 := (nI_eq (by omega) (by omega)).mp c141
            refine mx_iload_n (pc' := 145) dX8_falls_144 rfl rfl ?_
            refine mx_ineg (pc' := 146) (v := dr (2 - dDr t (r, c, d, w, g))) dX8_falls_145 (dr_neg _ hd3) rfl ?_
            refine mx_goto (pc' := 150) dX8_falls_146 (by decide) ?_
            refine mx_iadd (pc' := 151) (v := nI (if w = 1 then 2 - dDr t (r, c, d, w, g) else dDr t (r, c, d, w, g))) dX8_falls_150 (by rw [if_pos c141]; exact dr_1 _) rfl ?_
            refine mx_callV (pc' := 154) dX8_falls_151 cl_X8_57 (rfl) (t_X8_lays N127 i 2 (by omega) (by decide) _) rfl (by decide) rfl (Nat.le_of_ble_eq_true rfl) rfl (fun v N151 hv => ?_)
            obtain ⟨rfl, e151⟩ := hv
            refine mx_iinc (pc' := 157) (ls' := [_, _, _, _]) (v := nI (i + 1)) dX8_falls_154 rfl (nI_add i 1) (by decide) (rfl) rfl rfl ?_
            refine mx_goto (pc' := 2) dX8_falls_157 (by decide) ?_
            have hz : ∀ x, N151 144 x = if x = 33 + 5 * i + 2 then nI (if w = 1 then 2 - dDr t (r, c, d, w, g) else dDr t (r, c, d, w, g)) else if x = 33 + 5 * i + 1 then nI c + dr (dDr t (r, c, d, w, g)) else if x = 33 + 5 * i + 0 then nI (r + 1) else M1 144 x := by
              intro x
              rw [e151, mx_up_fn]
              by_cases h2 : x = 33 + 5 * i + 2
              · rw [h2, upd_eq, if_pos rfl]
              · rw [upd_ne _ _ h2, if_neg h2, e127, mx_up_fn]
                by_cases h1 : x = 33 + 5 * i + 1
                · rw [h1, upd_eq, if_pos rfl]
                · rw [upd_ne _ _ h1, if_neg h1, e113, mx_up_fn]
                  by_cases h0 : x = 33 + 5 * i + 0
                  · rw [h0, upd_eq, if_pos rfl]
                  · rw [upd_ne _ _ h0, if_neg h0]; exact g0 x
            have hz9 : ∀ x, N151 149 x = if x = i then nI (flB t (r, c, d, w, g)).toNat else M1 149 x := by
              intro x
              rw [e151, mx_up_ne (by decide), e127, mx_up_ne (by decide), e113, mx_up_ne (by decide)]
              exact g1 x
            refine ih (i + 1) N151 _ _ (by simp [mx_c1, Value.category]) (by omega) (by omega) (by rw [e151, e127, e113]; exact ((g2.up (Or.inl rfl)).up (Or.inl rfl)).up (Or.inl rfl)) (fun j h => ?_) (fun j y hy h => ?_) (fun j y hy h => ?_)
            · rw [hz, if_neg (by omega), if_neg (by omega), if_neg (by omega)]; exact hj2 j h
            · by_cases e : j = i
              · subst e
                rw [hx] at hy
                cases hy
                refine ⟨by rw [hz9, if_pos rfl], fun k hk => ?_⟩
                rcases (show k = 0 ∨ k = 1 ∨ k = 2 ∨ k = 3 ∨ k = 4 by omega) with rfl | rfl | rfl | rfl | rfl
                · rw [hz, if_neg (by omega), if_neg (by omega), if_pos rfl]; rfl
                · rw [hz, if_neg (by omega), if_pos rfl]; rfl
                · rw [hz, if_pos rfl]; rfl
                · rw [hz, if_neg (by omega), if_neg (by omega), if_neg (by omega)]; exact w4
                · rw [hz, if_neg (by omega), if_neg (by omega), if_neg (by omega)]; exact w5
              · obtain ⟨h1, h2⟩ := hlo j y hy (by omega)
                refine ⟨by rw [hz9, if_neg e]; exact h1, fun k hk => ?_⟩
                rw [hz, if_neg (by omega), if_neg (by omega), if_neg (by omega)]; exact h2 k hk
            · refine (hhi j y hy (by omega)).fr fun k hk => ?_
              rw [hz, if_neg (by omega), if_neg (by omega), if_neg (by omega)]
        · have c79 : ¬ _ := fun z => c79 ((nI_eq (by omega) (by omega)).mpr z)
          refine mx_iload_n (pc' := 83) dX8_falls_82 rfl rfl ?_
          refine mx_if_eq (tgt := 100) (pc' := 86) dX8_falls_83 (by decide) rfl (fun c83 => ?_) (fun c83 => ?_)
          · have c83 := bI_0.mp c83
            have hf : flB t (r, c, d, w, g) = false := decide_eq_false (fun z => z.elim c79 (fun z => c83 z.1))
            refine mx_iconst (pc' := 101) (v := nI (flB t (r, c, d, w, g)).toNat) dX8_falls_100 (by rw [hf]; decide) rfl ?_
            refine mx_bast (pc' := 102) dX8_falls_101 (rfl) (rfl) (by omega) (nI_vb (by cases flB t (r, c, d, w, g) <;> decide)) rfl ?_
            generalize hN : mx_up M1 149 i (nI (flB t (r, c, d, w, g)).toNat) = N
            have g0 : ∀ x, N 144 x = M1 144 x := fun x => by rw [← hN, mx_up_ne (by decide)]
            have g1 : ∀ x, N 149 x = if x = i then nI (flB t (r, c, d, w, g)).toNat else M1 149 x := fun x => by rw [← hN, mx_up_fn]; rfl
            have g2 : MoS M N := by rw [← hN]; exact hO.up (Or.inr rfl)
            refine mx_aload_n (pc' := 103) dX8_falls_102 rfl rfl ?_
            refine mx_iload_n (pc' := 104) dX8_falls_103 rfl rfl ?_
            refine mx_iconst (pc' := 105) (v := nI 0) dX8_falls_104 (by decide) rfl ?_
            refine mx_aload_n (pc' := 106) dX8_falls_105 rfl rfl ?_
            refine mx_iload_n (pc' := 107) dX8_falls_106 rfl rfl ?_
            refine mx_iconst (pc' := 108) (v := nI 0) dX8_falls_107 (by decide) rfl ?_
            refine mx_callV (pc' := 111) dX8_falls_108 cl_X8_53 (rfl) (t_X8_of N i 0 (by omega) (by decide)) rfl (by decide) rfl (Nat.le_of_ble_eq_true rfl) rfl (fun v N108 hv => ?_)
            obtain ⟨rfl, hv⟩ := hv
            rw [hv, show N 144 (33 + 5 * i + 0) = nI r from (g0 _).trans w1]
            refine mx_iconst (pc' := 112) (v := nI 1) dX8_falls_111 (by decide) rfl ?_
            refine mx_iadd (pc' := 113) (v := nI (r + 1)) dX8_falls_112 (nI_add r 1) rfl ?_
            refine mx_callV (pc' := 116) dX8_falls_113 cl_X8_57 (rfl) (t_X8_lays N i 0 (by omega) (by decide) _) rfl (by decide) rfl (Nat.le_of_ble_eq_true rfl) rfl (fun v N113 hv => ?_)
            obtain ⟨rfl, e113⟩ := hv
            refine mx_aload_n (pc' := 117) dX8_falls_116 rfl rfl ?_
            refine mx_iload_n (pc' := 118) dX8_falls_117 rfl rfl ?_
            refine mx_iconst (pc' := 119) (v := nI 1) dX8_falls_118 (by decide) rfl ?_
            refine mx_aload_n (pc' := 120) dX8_falls_119 rfl rfl ?_
            refine mx_iload_n (pc' := 121) dX8_falls_120 rfl rfl ?_
            refine mx_iconst (pc' := 122) (v := nI 1) dX8_falls_121 (by decide) rfl ?_
            refine mx_callV (pc' := 125) dX8_falls_122 cl_X8_53 (rfl) (t_X8_of N113 i 1 (by omega) (by decide)) rfl (by decide) rfl (Nat.le_of_ble_eq_true rfl) rfl (fun v N122 hv => ?_)
            obtain ⟨rfl, hv⟩ := hv
            rw [hv, show N113 144 (33 + 5 * i + 1) = nI c from by rw [e113, mx_up_fn, upd_ne _ _ (by omega)]; exact (g0 _).trans w2]
            refine mx_iload_n (pc' := 126) dX8_falls_125 rfl rfl ?_
            refine mx_iadd (pc' := 127) dX8_falls_126 (rfl) rfl ?_
            refine mx_callV (pc' := 130) dX8_falls_127 cl_X8_57 (rfl) (t_X8_lays N113 i 1 (by omega) (by decide) _) rfl (by decide) rfl (Nat.le_of_ble_eq_true rfl) rfl (fun v N127 hv => ?_)
            obtain ⟨rfl, e127⟩ := hv
            refine mx_aload_n (pc' := 131) dX8_falls_130 rfl rfl ?_
            refine mx_iload_n (pc' := 132) dX8_falls_131 rfl rfl ?_
            refine mx_iconst (pc' := 133) (v := nI 2) dX8_falls_132 (by decide) rfl ?_
            refine mx_iconst (pc' := 134) (v := nI 1) dX8_falls_133 (by decide) rfl ?_
            refine mx_aload_n (pc' := 135) dX8_falls_134 rfl rfl ?_
            refine mx_iload_n (pc' := 136) dX8_falls_135 rfl rfl ?_
            refine mx_iconst (pc' := 137) (v := nI 3) dX8_falls_136 (by decide) rfl ?_
            refine mx_callV (pc' := 140) dX8_falls_137 cl_X8_53 (rfl) (t_X8_of N127 i 3 (by omega) (by decide)) rfl (by decide) rfl (Nat.le_of_ble_eq_true rfl) rfl (fun v N137 hv => ?_)
            obtain ⟨rfl, hv⟩ := hv
            rw [hv, show N127 144 (33 + 5 * i + 3) = nI w from by rw [e127, mx_up_fn, upd_ne _ _ (by omega), e113, mx_up_fn, upd_ne _ _ (by omega)]; exact (g0 _).trans w4]
            refine mx_iconst (pc' := 141) (v := nI 1) dX8_falls_140 (by decide) rfl ?_
            refine mx_icmp_ne (tgt := 149) (pc' := 144) dX8_falls_141 (by decide) rfl (fun c141 => ?_) (fun c141 => ?_)
            · have c141 : ¬ _ := fun z => c141 ((nI_eq (by omega) (by omega)).mpr z)
              refine mx_iload_n (pc' := 150) dX8_falls_149 rfl rfl ?_
              refine mx_iadd (pc' := 151) (v := nI (if w = 1 then 2 - dDr t (r, c, d, w, g) else dDr t (r, c, d, w, g))) dX8_falls_150 (by rw [if_neg c141]; exact dr_1 _) rfl ?_
              refine mx_callV (pc' := 154) dX8_falls_151 cl_X8_57 (rfl) (t_X8_lays N127 i 2 (by omega) (by decide) _) rfl (by decide) rfl (Nat.le_of_ble_eq_true rfl) rfl (fun v N151 hv => ?_)
              obtain ⟨rfl, e151⟩ := hv
              refine mx_iinc (pc' := 157) (ls' := [_, _, _, _]) (v := nI (i + 1)) dX8_falls_154 rfl (nI_add i 1) (by decide) (rfl) rfl rfl ?_
              refine mx_goto (pc' := 2) dX8_falls_157 (by decide) ?_
              have hz : ∀ x, N151 144 x = if x = 33 + 5 * i + 2 then nI (if w = 1 then 2 - dDr t (r, c, d, w, g) else dDr t (r, c, d, w, g)) else if x = 33 + 5 * i + 1 then nI c + dr (dDr t (r, c, d, w, g)) else if x = 33 + 5 * i + 0 then nI (r + 1) else M1 144 x := by
                intro x
                rw [e151, mx_up_fn]
                by_cases h2 : x = 33 + 5 * i + 2
                · rw [h2, upd_eq, if_pos rfl]
                · rw [upd_ne _ _ h2, if_neg h2, e127, mx_up_fn]
                  by_cases h1 : x = 33 + 5 * i + 1
                  · rw [h1, upd_eq, if_pos rfl]
                  · rw [upd_ne _ _ h1, if_neg h1, e113, mx_up_fn]
                    by_cases h0 : x = 33 + 5 * i + 0
                    · rw [h0, upd_eq, if_pos rfl]
                    · rw [upd_ne _ _ h0, if_neg h0]; exact g0 x
              have hz9 : ∀ x, N151 149 x = if x = i then nI (flB t (r, c, d, w, g)).toNat else M1 149 x := by
                intro x
                rw [e151, mx_up_ne (by decide), e127, mx_up_ne (by decide), e113, mx_up_ne (by decide)]
                exact g1 x
              refine ih (i + 1) N151 _ _ (by simp [mx_c1, Value.category]) (by omega) (by omega) (by rw [e151, e127, e113]; exact ((g2.up (Or.inl rfl)).up (Or.inl rfl)).up (Or.inl rfl)) (fun j h => ?_) (fun j y hy h => ?_) (fun j y hy h => ?_)
              · rw [hz, if_neg (by omega), if_neg (by omega), if_neg (by omega)]; exact hj2 j h
              · by_cases e : j = i
                · subst e
                  rw [hx] at hy
                  cases hy
                  refine ⟨by rw [hz9, if_pos rfl], fun k hk => ?_⟩
                  rcases (show k = 0 ∨ k = 1 ∨ k = 2 ∨ k = 3 ∨ k = 4 by omega) with rfl | rfl | rfl | rfl | rfl
                  · rw [hz, if_neg (by omega), if_neg (by omega), if_pos rfl]; rfl
                  · rw [hz, if_neg (by omega), if_pos rfl]; rfl
                  · rw [hz, if_pos rfl]; rfl
                  · rw [hz, if_neg (by omega), if_neg (by omega), if_neg (by omega)]; exact w4
                  · rw [hz, if_neg (by omega), if_neg (by omega), if_neg (by omega)]; exact w5
                · obtain ⟨h1, h2⟩ := hlo j y hy (by omega)
                  refine ⟨by rw [hz9, if_neg e]; exact h1, fun k hk => ?_⟩
                  rw [hz, if_neg (by omega), if_neg (by omega), if_neg (by omega)]; exact h2 k hk
              · refine (hhi j y hy (by omega)).fr fun k hk => ?_
                rw [hz, if_neg (by omega), if_neg (by omega), if_neg (by omega)]
            · have c141 := (nI_eq (by omega) (by omega)).mp c141
              refine mx_iload_n (pc' := 145) dX8_falls_144 rfl rfl ?_
              refine mx_ineg (pc' := 146) (v := dr (2 - dDr t (r, c, d, w, g))) dX8_falls_145 (dr_neg _ hd3) rfl ?_
              refine mx_goto (pc' := 150) dX8_falls_146 (by decide) ?_
              refine mx_iadd (pc' := 151) (v := nI (if w = 1 then 2 - dDr t (r, c, d, w, g) else dDr t (r, c, d, w, g))) dX8_falls_150 (by rw [if_pos c141]; exact dr_1 _) rfl ?_
              refine mx_callV (pc' := 154) dX8_falls_151 cl_X8_57 (rfl) (t_X8_lays N127 i 2 (by omega) (by decide) _) rfl (by decide) rfl (Nat.le_of_ble_eq_true rfl) rfl (fun v N151 hv => ?_)
              obtain ⟨rfl, e151⟩ := hv
              refine mx_iinc (pc' := 157) (ls' := [_, _, _, _]) (v := nI (i + 1)) dX8_falls_154 rfl (nI_add i 1) (by decide) (rfl) rfl rfl ?_
              refine mx_goto (pc' := 2) dX8_falls_157 (by decide) ?_
              have hz : ∀ x, N151 144 x = if x = 33 + 5 * i + 2 then nI (if w = 1 then 2 - dDr t (r, c, d, w, g) else dDr t (r, c, d, w, g)) else if x = 33 + 5 * i + 1 then nI c + dr (dDr t (r, c, d, w, g)) else if x = 33 + 5 * i + 0 then nI (r + 1) else M1 144 x := by
                intro x
                rw [e151, mx_up_fn]
                by_cases h2 : x = 33 + 5 * i + 2
                · rw [h2, upd_eq, if_pos rfl]
                · rw [upd_ne _ _ h2, if_neg h2, e127, mx_up_fn]
                  by_cases h1 : x = 33 + 5 * i + 1
                  · rw [h1, upd_eq, if_pos rfl]
                  · rw [upd_ne _ _ h1, if_neg h1, e113, mx_up_fn]
                    by_cases h0 : x = 33 + 5 * i + 0
                    · rw [h0, upd_eq, if_pos rfl]
                    · rw [upd_ne _ _ h0, if_neg h0]; exact g0 x
              have hz9 : ∀ x, N151 149 x = if x = i then nI (flB t (r, c, d, w, g)).toNat else M1 149 x := by
                intro x
                rw [e151, mx_up_ne (by decide), e127, mx_up_ne (by decide), e113, mx_up_ne (by decide)]
                exact g1 x
              refine ih (i + 1) N151 _ _ (by simp [mx_c1, Value.category]) (by omega) (by omega) (by rw [e151, e127, e113]; exact ((g2.up (Or.inl rfl)).up (Or.inl rfl)).up (Or.inl rfl)) (fun j h => ?_) (fun j y hy h => ?_) (fun j y hy h => ?_)
              · rw [hz, if_neg (by omega), if_neg (by omega), if_neg (by omega)]; exact hj2 j h
              · by_cases e : j = i
                · subst e
                  rw [hx] at hy
                  cases hy
                  refine ⟨by rw [hz9, if_pos rfl], fun k hk => ?_⟩
                  rcases (show k = 0 ∨ k = 1 ∨ k = 2 ∨ k = 3 ∨ k = 4 by omega) with rfl | rfl | rfl | rfl | rfl
                  · rw [hz, if_neg (by omega), if_neg (by omega), if_pos rfl]; rfl
                  · rw [hz, if_neg (by omega), if_pos rfl]; rfl
                  · rw [hz, if_pos rfl]; rfl
                  · rw [hz, if_neg (by omega), if_neg (by omega), if_neg (by omega)]; exact w4
                  · rw [hz, if_neg (by omega), if_neg (by omega), if_neg (by omega)]; exact w5
                · obtain ⟨h1, h2⟩ := hlo j y hy (by omega)
                  refine ⟨by rw [hz9, if_neg e]; exact h1, fun k hk => ?_⟩
                  rw [hz, if_neg (by omega), if_neg (by omega), if_neg (by omega)]; exact h2 k hk
              · refine (hhi j y hy (by omega)).fr fun k hk => ?_
                rw [hz, if_neg (by omega), if_neg (by omega), if_neg (by omega)]
          · have c83 := bI_n.mp c83
            refine mx_aload_n (pc' := 87) dX8_falls_86 rfl rfl ?_
            refine mx_getr (pc' := 90) dX8_falls_87 fl_X8_7 (rfl) (by rfl) rfl ?_
            refine mx_bipush (pc' := 92) (v := nI 15) dX8_falls_90 (by decide) rfl ?_
            refine mx_iald (pc' := 93) (v := nI t) dX8_falls_92 (rfl) (rfl) (by decide) ((hj2 15 (by omega)).trans ((hF.st 0 (by decide)).trans (congrArg nI ht5))) rfl ?_
            refine mx_if_ne (tgt := 100) (pc' := 96) dX8_falls_93 (by decide) rfl (fun c93 => ?_) (fun c93 => ?_)
            · have c93 : ¬ t = 0 := fun z => c93 (by rw [z]; rfl)
              have hf : flB t (r, c, d, w, g) = false := decide_eq_false (fun z => z.elim c79 (fun z => c93 z.2))
              refine mx_iconst (pc' := 101) (v := nI (flB t (r, c, d, w, g)).toNat) dX8_falls_100 (by rw [hf]; decide) rfl ?_
              refine mx_bast (pc' := 102) dX8_falls_101 (rfl) (rfl) (by omega) (nI_vb (by cases flB t (r, c, d, w, g) <;> decide)) rfl ?_
              generalize hN : mx_up M1 149 i (nI (flB t (r, c, d, w, g)).toNat) = N
              have g0 : ∀ x, N 144 x = M1 144 x := fun x => by rw [← hN, mx_up_ne (by decide)]
              have g1 : ∀ x, N 149 x = if x = i then nI (flB t (r, c, d, w, g)).toNat else M1 149 x := fun x => by rw [← hN, mx_up_fn]; rfl
              have g2 : MoS M N := by rw [← hN]; exact hO.up (Or.inr rfl)
              refine mx_aload_n (pc' := 103) dX8_falls_102 rfl rfl ?_
              refine mx_iload_n (pc' := 104) dX8_falls_103 rfl rfl ?_
              refine mx_iconst (pc' := 105) (v := nI 0) dX8_falls_104 (by decide) rfl ?_
              refine mx_aload_n (pc' := 106) dX8_falls_105 rfl rfl ?_
              refine mx_iload_n (pc' := 107) dX8_falls_106 rfl rfl ?_
              refine mx_iconst (pc' := 108) (v := nI 0) dX8_falls_107 (by decide) rfl ?_
              refine mx_callV (pc' := 111) dX8_falls_108 cl_X8_53 (rfl) (t_X8_of N i 0 (by omega) (by decide)) rfl (by decide) rfl (Nat.le_of_ble_eq_true rfl) rfl (fun v N108 hv => ?_)
              obtain ⟨rfl, hv⟩ := hv
              rw [hv, show N 144 (33 + 5 * i + 0) = nI r from (g0 _).trans w1]
              refine mx_iconst (pc' := 112) (v := nI 1) dX8_falls_111 (by decide) rfl ?_
              refine mx_iadd (pc' := 113) (v := nI (r + 1)) dX8_falls_112 (nI_add r 1) rfl ?_
              refine mx_callV (pc' := 116) dX8_falls_113 cl_X8_57 (rfl) (t_X8_lays N i 0 (by omega) (by decide) _) rfl (by decide) rfl (Nat.le_of_ble_eq_true rfl) rfl (fun v N113 hv => ?_)
              obtain ⟨rfl, e113⟩ := hv
              refine mx_aload_n (pc' := 117) dX8_falls_116 rfl rfl ?_
              refine mx_iload_n (pc' := 118) dX8_falls_117 rfl rfl ?_
              refine mx_iconst (pc' := 119) (v := nI 1) dX8_falls_118 (by decide) rfl ?_
              refine mx_aload_n (pc' := 120) dX8_falls_119 rfl rfl ?_
              refine mx_iload_n (pc' := 121) dX8_falls_120 rfl rfl ?_
              refine mx_iconst (pc' := 122) (v := nI 1) dX8_falls_121 (by decide) rfl ?_
              refine mx_callV (pc' := 125) dX8_falls_122 cl_X8_53 (rfl) (t_X8_of N113 i 1 (by omega) (by decide)) rfl (by decide) rfl (Nat.le_of_ble_eq_true rfl) rfl (fun v N122 hv => ?_)
              obtain ⟨rfl, hv⟩ := hv
              rw [hv, show N113 144 (33 + 5 * i + 1) = nI c from by rw [e113, mx_up_fn, upd_ne _ _ (by omega)]; exact (g0 _).trans w2]
              refine mx_iload_n (pc' := 126) dX8_falls_125 rfl rfl ?_
              refine mx_iadd (pc' := 127) dX8_falls_126 (rfl) rfl ?_
              refine mx_callV (pc' := 130) dX8_falls_127 cl_X8_57 (rfl) (t_X8_lays N113 i 1 (by omega) (by decide) _) rfl (by decide) rfl (Nat.le_of_ble_eq_true rfl) rfl (fun v N127 hv => ?_)
              obtain ⟨rfl, e127⟩ := hv
              refine mx_aload_n (pc' := 131) dX8_falls_130 rfl rfl ?_
              refine mx_iload_n (pc' := 132) dX8_falls_131 rfl rfl ?_
              refine mx_iconst (pc' := 133) (v := nI 2) dX8_falls_132 (by decide) rfl ?_
              refine mx_iconst (pc' := 134) (v := nI 1) dX8_falls_133 (by decide) rfl ?_
              refine mx_aload_n (pc' := 135) dX8_falls_134 rfl rfl ?_
              refine mx_iload_n (pc' := 136) dX8_falls_135 rfl rfl ?_
              refine mx_iconst (pc' := 137) (v := nI 3) dX8_falls_136 (by decide) rfl ?_
              refine mx_callV (pc' := 140) dX8_falls_137 cl_X8_53 (rfl) (t_X8_of N127 i 3 (by omega) (by decide)) rfl (by decide) rfl (Nat.le_of_ble_eq_true rfl) rfl (fun v N137 hv => ?_)
              obtain ⟨rfl, hv⟩ := hv
              rw [hv, show N127 144 (33 + 5 * i + 3) = nI w from by rw [e127, mx_up_fn, upd_ne _ _ (by omega), e113, mx_up_fn, upd_ne _ _ (by omega)]; exact (g0 _).trans w4]
              refine mx_iconst (pc' := 141) (v := nI 1) dX8_falls_140 (by decide) rfl ?_
              refine mx_icmp_ne (tgt := 149) (pc' := 144) dX8_falls_141 (by decide) rfl (fun c141 => ?_) (fun c141 => ?_)
              · have c141 : ¬ _ := fun z => c141 ((nI_eq (by omega) (by omega)).mpr z)
                refine mx_iload_n (pc' := 150) dX8_falls_149 rfl rfl ?_
                refine mx_iadd (pc' := 151) (v := nI (if w = 1 then 2 - dDr t (r, c, d, w, g) else dDr t (r, c, d, w, g))) dX8_falls_150 (by rw [if_neg c141]; exact dr_1 _) rfl ?_
                refine mx_callV (pc' := 154) dX8_falls_151 cl_X8_57 (rfl) (t_X8_lays N127 i 2 (by omega) (by decide) _) rfl (by decide) rfl (Nat.le_of_ble_eq_true rfl) rfl (fun v N151 hv => ?_)
                obtain ⟨rfl, e151⟩ := hv
                refine mx_iinc (pc' := 157) (ls' := [_, _, _, _]) (v := nI (i + 1)) dX8_falls_154 rfl (nI_add i 1) (by decide) (rfl) rfl rfl ?_
                refine mx_goto (pc' := 2) dX8_falls_157 (by decide) ?_
                have hz : ∀ x, N151 144 x = if x = 33 + 5 * i + 2 then nI (if w = 1 then 2 - dDr t (r, c, d, w, g) else dDr t (r, c, d, w, g)) else if x = 33 + 5 * i + 1 then nI c + dr (dDr t (r, c, d, w, g)) else if x = 33 + 5 * i + 0 then nI (r + 1) else M1 144 x := by
                  intro x
                  rw [e151, mx_up_fn]
                  by_cases h2 : x = 33 + 5 * i + 2
                  · rw [h2, upd_eq, if_pos rfl]
                  · rw [upd_ne _ _ h2, if_neg h2, e127, mx_up_fn]
                    by_cases h1 : x = 33 + 5 * i + 1
                    · rw [h1, upd_eq, if_pos rfl]
                    · rw [upd_ne _ _ h1, if_neg h1, e113, mx_up_fn]
                      by_cases h0 : x = 33 + 5 * i + 0
                      · rw [h0, upd_eq, if_pos rfl]
                      · rw [upd_ne _ _ h0, if_neg h0]; exact g0 x
                have hz9 : ∀ x, N151 149 x = if x = i then nI (flB t (r, c, d, w, g)).toNat else M1 149 x := by
                  intro x
                  rw [e151, mx_up_ne (by decide), e127, mx_up_ne (by decide), e113, mx_up_ne (by decide)]
                  exact g1 x
                refine ih (i + 1) N151 _ _ (by simp [mx_c1, Value.category]) (by omega) (by omega) (by rw [e151, e127, e113]; exact ((g2.up (Or.inl rfl)).up (Or.inl rfl)).up (Or.inl rfl)) (fun j h => ?_) (fun j y hy h => ?_) (fun j y hy h => ?_)
                · rw [hz, if_neg (by omega), if_neg (by omega), if_neg (by omega)]; exact hj2 j h
                · by_cases e : j = i
                  · subst e
                    rw [hx] at hy
                    cases hy
                    refine ⟨by rw [hz9, if_pos rfl], fun k hk => ?_⟩
                    rcases (show k = 0 ∨ k = 1 ∨ k = 2 ∨ k = 3 ∨ k = 4 by omega) with rfl | rfl | rfl | rfl | rfl
                    · rw [hz, if_neg (by omega), if_neg (by omega), if_pos rfl]; rfl
                    · rw [hz, if_neg (by omega), if_pos rfl]; rfl
                    · rw [hz, if_pos rfl]; rfl
                    · rw [hz, if_neg (by omega), if_neg (by omega), if_neg (by omega)]; exact w4
                    · rw [hz, if_neg (by omega), if_neg (by omega), if_neg (by omega)]; exact w5
                  · obtain ⟨h1, h2⟩ := hlo j y hy (by omega)
                    refine ⟨by rw [hz9, if_neg e]; exact h1, fun k hk => ?_⟩
                    rw [hz, if_neg (by omega), if_neg (by omega), if_neg (by omega)]; exact h2 k hk
                · refine (hhi j y hy (by omega)).fr fun k hk => ?_
                  rw [hz, if_neg (by omega), if_neg (by omega), if_neg (by omega)]
              · have c141 := (nI_eq (by omega) (by omega)).mp c141
                refine mx_iload_n (pc' := 145) dX8_falls_144 rfl rfl ?_
                refine mx_ineg (pc' := 146) (v := dr (2 - dDr t (r, c, d, w, g))) dX8_falls_145 (dr_neg _ hd3) rfl ?_
                refine mx_goto (pc' := 150) dX8_falls_146 (by decide) ?_
                refine mx_iadd (pc' := 151) (v := nI (if w = 1 then 2 - dDr t (r, c, d, w, g) else dDr t (r, c, d, w, g))) dX8_falls_150 (by rw [if_pos c141]; exact dr_1 _) rfl ?_
                refine mx_callV (pc' := 154) dX8_falls_151 cl_X8_57 (rfl) (t_X8_lays N127 i 2 (by omega) (by decide) _) rfl (by decide) rfl (Nat.le_of_ble_eq_true rfl) rfl (fun v N151 hv => ?_)
                obtain ⟨rfl, e151⟩ := hv
                refine mx_iinc (pc' := 157) (ls' := [_, _, _, _]) (v := nI (i + 1)) dX8_falls_154 rfl (nI_add i 1) (by decide) (rfl) rfl rfl ?_
                refine mx_goto (pc' := 2) dX8_falls_157 (by decide) ?_
                have hz : ∀ x, N151 144 x = if x = 33 + 5 * i + 2 then nI (if w = 1 then 2 - dDr t (r, c, d, w, g) else dDr t (r, c, d, w, g)) else if x = 33 + 5 * i + 1 then nI c + dr (dDr t (r, c, d, w, g)) else if x = 33 + 5 * i + 0 then nI (r + 1) else M1 144 x := by
                  intro x
                  rw [e151, mx_up_fn]
                  by_cases h2 : x = 33 + 5 * i + 2
                  · rw [h2, upd_eq, if_pos rfl]
                  · rw [upd_ne _ _ h2, if_neg h2, e127, mx_up_fn]
                    by_cases h1 : x = 33 + 5 * i + 1
                    · rw [h1, upd_eq, if_pos rfl]
                    · rw [upd_ne _ _ h1, if_neg h1, e113, mx_up_fn]
                      by_cases h0 : x = 33 + 5 * i + 0
                      · rw [h0, upd_eq, if_pos rfl]
                      · rw [upd_ne _ _ h0, if_neg h0]; exact g0 x
                have hz9 : ∀ x, N151 149 x = if x = i then nI (flB t (r, c, d, w, g)).toNat else M1 149 x := by
                  intro x
                  rw [e151, mx_up_ne (by decide), e127, mx_up_ne (by decide), e113, mx_up_ne (by decide)]
                  exact g1 x
                refine ih (i + 1) N151 _ _ (by simp [mx_c1, Value.category]) (by omega) (by omega) (by rw [e151, e127, e113]; exact ((g2.up (Or.inl rfl)).up (Or.inl rfl)).up (Or.inl rfl)) (fun j h => ?_) (fun j y hy h => ?_) (fun j y hy h => ?_)
                · rw [hz, if_neg (by omega), if_neg (by omega), if_neg (by omega)]; exact hj2 j h
                · by_cases e : j = i
                  · subst e
                    rw [hx] at hy
                    cases hy
                    refine ⟨by rw [hz9, if_pos rfl], fun k hk => ?_⟩
                    rcases (show k = 0 ∨ k = 1 ∨ k = 2 ∨ k = 3 ∨ k = 4 by omega) with rfl | rfl | rfl | rfl | rfl
                    · rw [hz, if_neg (by omega), if_neg (by omega), if_pos rfl]; rfl
                    · rw [hz, if_neg (by omega), if_pos rfl]; rfl
                    · rw [hz, if_pos rfl]; rfl
                    · rw [hz, if_neg (by omega), if_neg (by omega), if_neg (by omega)]; exact w4
                    · rw [hz, if_neg (by omega), if_neg (by omega), if_neg (by omega)]; exact w5
                  · obtain ⟨h1, h2⟩ := hlo j y hy (by omega)
                    refine ⟨by rw [hz9, if_neg e]; exact h1, fun k hk => ?_⟩
                    rw [hz, if_neg (by omega), if_neg (by omega), if_neg (by omega)]; exact h2 k hk
                · refine (hhi j y hy (by omega)).fr fun k hk => ?_
                  rw [hz, if_neg (by omega), if_neg (by omega), if_neg (by omega)]
            · have c93 : t = 0 := (nI_eq (a := t) (b := 0) (by omega) (by omega)).mp c93
              have hf : flB t (r, c, d, w, g) = true := decide_eq_true (Or.inr ⟨c83, c93⟩)
              refine mx_iconst (pc' := 97) (v := nI (flB t (r, c, d, w, g)).toNat) dX8_falls_96 (by rw [hf]; decide) rfl ?_
              refine mx_goto (pc' := 101) dX8_falls_97 (by decide) ?_
              refine mx_bast (pc' := 102) dX8_falls_101 (rfl) (rfl) (by omega) (nI_vb (by cases flB t (r, c, d, w, g) <;> decide)) rfl ?_
              generalize hN : mx_up M1 149 i (nI (flB t (r, c, d, w, g)).toNat) = N
              have g0 : ∀ x, N 144 x = M1 144 x := fun x => by rw [← hN, mx_up_ne (by decide)]
              have g1 : ∀ x, N 149 x = if x = i then nI (flB t (r, c, d, w, g)).toNat else M1 149 x := fun x => by rw [← hN, mx_up_fn]; rfl
              have g2 : MoS M N := by rw [← hN]; exact hO.up (Or.inr rfl)
              refine mx_aload_n (pc' := 103) dX8_falls_102 rfl rfl ?_
              refine mx_iload_n (pc' := 104) dX8_falls_103 rfl rfl ?_
              refine mx_iconst (pc' := 105) (v := nI 0) dX8_falls_104 (by decide) rfl ?_
              refine mx_aload_n (pc' := 106) dX8_falls_105 rfl rfl ?_
              refine mx_iload_n (pc' := 107) dX8_falls_106 rfl rfl ?_
              refine mx_iconst (pc' := 108) (v := nI 0) dX8_falls_107 (by decide) rfl ?_
              refine mx_callV (pc' := 111) dX8_falls_108 cl_X8_53 (rfl) (t_X8_of N i 0 (by omega) (by decide)) rfl (by decide) rfl (Nat.le_of_ble_eq_true rfl) rfl (fun v N108 hv => ?_)
              obtain ⟨rfl, hv⟩ := hv
              rw [hv, show N 144 (33 + 5 * i + 0) = nI r from (g0 _).trans w1]
              refine mx_iconst (pc' := 112) (v := nI 1) dX8_falls_111 (by decide) rfl ?_
              refine mx_iadd (pc' := 113) (v := nI (r + 1)) dX8_falls_112 (nI_add r 1) rfl ?_
              refine mx_callV (pc' := 116) dX8_falls_113 cl_X8_57 (rfl) (t_X8_lays N i 0 (by omega) (by decide) _) rfl (by decide) rfl (Nat.le_of_ble_eq_true rfl) rfl (fun v N113 hv => ?_)
              obtain ⟨rfl, e113⟩ := hv
              refine mx_aload_n (pc' := 117) dX8_falls_116 rfl rfl ?_
              refine mx_iload_n (pc' := 118) dX8_falls_117 rfl rfl ?_
              refine mx_iconst (pc' := 119) (v := nI 1) dX8_falls_118 (by decide) rfl ?_
              refine mx_aload_n (pc' := 120) dX8_falls_119 rfl rfl ?_
              refine mx_iload_n (pc' := 121) dX8_falls_120 rfl rfl ?_
              refine mx_iconst (pc' := 122) (v := nI 1) dX8_falls_121 (by decide) rfl ?_
              refine mx_callV (pc' := 125) dX8_falls_122 cl_X8_53 (rfl) (t_X8_of N113 i 1 (by omega) (by decide)) rfl (by decide) rfl (Nat.le_of_ble_eq_true rfl) rfl (fun v N122 hv => ?_)
              obtain ⟨rfl, hv⟩ := hv
              rw [hv, show N113 144 (33 + 5 * i + 1) = nI c from by rw [e113, mx_up_fn, upd_ne _ _ (by omega)]; exact (g0 _).trans w2]
              refine mx_iload_n (pc' := 126) dX8_falls_125 rfl rfl ?_
              refine mx_iadd (pc' := 127) dX8_falls_126 (rfl) rfl ?_
              refine mx_callV (pc' := 130) dX8_falls_127 cl_X8_57 (rfl) (t_X8_lays N113 i 1 (by omega) (by decide) _) rfl (by decide) rfl (Nat.le_of_ble_eq_true rfl) rfl (fun v N127 hv => ?_)
              obtain ⟨rfl, e127⟩ := hv
              refine mx_aload_n (pc' := 131) dX8_falls_130 rfl rfl ?_
              refine mx_iload_n (pc' := 132) dX8_falls_131 rfl rfl ?_
              refine mx_iconst (pc' := 133) (v := nI 2) dX8_falls_132 (by decide) rfl ?_
              refine mx_iconst (pc' := 134) (v := nI 1) dX8_falls_133 (by decide) rfl ?_
              refine mx_aload_n (pc' := 135) dX8_falls_134 rfl rfl ?_
              refine mx_iload_n (pc' := 136) dX8_falls_135 rfl rfl ?_
              refine mx_iconst (pc' := 137) (v := nI 3) dX8_falls_136 (by decide) rfl ?_
              refine mx_callV (pc' := 140) dX8_falls_137 cl_X8_53 (rfl) (t_X8_of N127 i 3 (by omega) (by decide)) rfl (by decide) rfl (Nat.le_of_ble_eq_true rfl) rfl (fun v N137 hv => ?_)
              obtain ⟨rfl, hv⟩ := hv
              rw [hv, show N127 144 (33 + 5 * i + 3) = nI w from by rw [e127, mx_up_fn, upd_ne _ _ (by omega), e113, mx_up_fn, upd_ne _ _ (by omega)]; exact (g0 _).trans w4]
              refine mx_iconst (pc' := 141) (v := nI 1) dX8_falls_140 (by decide) rfl ?_
              refine mx_icmp_ne (tgt := 149) (pc' := 144) dX8_falls_141 (by decide) rfl (fun c141 => ?_) (fun c141 => ?_)
              · have c141 : ¬ _ := fun z => c141 ((nI_eq (by omega) (by omega)).mpr z)
                refine mx_iload_n (pc' := 150) dX8_falls_149 rfl rfl ?_
                refine mx_iadd (pc' := 151) (v := nI (if w = 1 then 2 - dDr t (r, c, d, w, g) else dDr t (r, c, d, w, g))) dX8_falls_150 (by rw [if_neg c141]; exact dr_1 _) rfl ?_
                refine mx_callV (pc' := 154) dX8_falls_151 cl_X8_57 (rfl) (t_X8_lays N127 i 2 (by omega) (by decide) _) rfl (by decide) rfl (Nat.le_of_ble_eq_true rfl) rfl (fun v N151 hv => ?_)
                obtain ⟨rfl, e151⟩ := hv
                refine mx_iinc (pc' := 157) (ls' := [_, _, _, _]) (v := nI (i + 1)) dX8_falls_154 rfl (nI_add i 1) (by decide) (rfl) rfl rfl ?_
                refine mx_goto (pc' := 2) dX8_falls_157 (by decide) ?_
                have hz : ∀ x, N151 144 x = if x = 33 + 5 * i + 2 then nI (if w = 1 then 2 - dDr t (r, c, d, w, g) else dDr t (r, c, d, w, g)) else if x = 33 + 5 * i + 1 then nI c + dr (dDr t (r, c, d, w, g)) else if x = 33 + 5 * i + 0 then nI (r + 1) else M1 144 x := by
                  intro x
                  rw [e151, mx_up_fn]
                  by_cases h2 : x = 33 + 5 * i + 2
                  · rw [h2, upd_eq, if_pos rfl]
                  · rw [upd_ne _ _ h2, if_neg h2, e127, mx_up_fn]
                    by_cases h1 : x = 33 + 5 * i + 1
                    · rw [h1, upd_eq, if_pos rfl]
                    · rw [upd_ne _ _ h1, if_neg h1, e113, mx_up_fn]
                      by_cases h0 : x = 33 + 5 * i + 0
                      · rw [h0, upd_eq, if_pos rfl]
                      · rw [upd_ne _ _ h0, if_neg h0]; exact g0 x
                have hz9 : ∀ x, N151 149 x = if x = i then nI (flB t (r, c, d, w, g)).toNat else M1 149 x := by
                  intro x
                  rw [e151, mx_up_ne (by decide), e127, mx_up_ne (by decide), e113, mx_up_ne (by decide)]
                  exact g1 x
                refine ih (i + 1) N151 _ _ (by simp [mx_c1, Value.category]) (by omega) (by omega) (by rw [e151, e127, e113]; exact ((g2.up (Or.inl rfl)).up (Or.inl rfl)).up (Or.inl rfl)) (fun j h => ?_) (fun j y hy h => ?_) (fun j y hy h => ?_)
                · rw [hz, if_neg (by omega), if_neg (by omega), if_neg (by omega)]; exact hj2 j h
                · by_cases e : j = i
                  · subst e
                    rw [hx] at hy
                    cases hy
                    refine ⟨by rw [hz9, if_pos rfl], fun k hk => ?_⟩
                    rcases (show k = 0 ∨ k = 1 ∨ k = 2 ∨ k = 3 ∨ k = 4 by omega) with rfl | rfl | rfl | rfl | rfl
                    · rw [hz, if_neg (by omega), if_neg (by omega), if_pos rfl]; rfl
                    · rw [hz, if_neg (by omega), if_pos rfl]; rfl
                    · rw [hz, if_pos rfl]; rfl
                    · rw [hz, if_neg (by omega), if_neg (by omega), if_neg (by omega)]; exact w4
                    · rw [hz, if_neg (by omega), if_neg (by omega), if_neg (by omega)]; exact w5
                  · obtain ⟨h1, h2⟩ := hlo j y hy (by omega)
                    refine ⟨by rw [hz9, if_neg e]; exact h1, fun k hk => ?_⟩
                    rw [hz, if_neg (by omega), if_neg (by omega), if_neg (by omega)]; exact h2 k hk
                · refine (hhi j y hy (by omega)).fr fun k hk => ?_
                  rw [hz, if_neg (by omega), if_neg (by omega), if_neg (by omega)]
              · have c141 := (nI_eq (by omega) (by omega)).mp c141
                refine mx_iload_n (pc' := 145) dX8_falls_144 rfl rfl ?_
                refine mx_ineg (pc' := 146) (v := dr (2 - dDr t (r, c, d, w, g))) dX8_falls_145 (dr_neg _ hd3) rfl ?_
                refine mx_goto (pc' := 150) dX8_falls_146 (by decide) ?_
                refine mx_iadd (pc' := 151) (v := nI (if w = 1 then 2 - dDr t (r, c, d, w, g) else dDr t (r, c, d, w, g))) dX8_falls_150 (by rw [if_pos c141]; exact dr_1 _) rfl ?_
                refine mx_callV (pc' := 154) dX8_falls_151 cl_X8_57 (rfl) (t_X8_lays N127 i 2 (by omega) (by decide) _) rfl (by decide) rfl (Nat.le_of_ble_eq_true rfl) rfl (fun v N151 hv => ?_)
                obtain ⟨rfl, e151⟩ := hv
                refine mx_iinc (pc' := 157) (ls' := [_, _, _, _]) (v := nI (i + 1)) dX8_falls_154 rfl (nI_add i 1) (by decide) (rfl) rfl rfl ?_
                refine mx_goto (pc' := 2) dX8_falls_157 (by decide) ?_
                have hz : ∀ x, N151 144 x = if x = 33 + 5 * i + 2 then nI (if w = 1 then 2 - dDr t (r, c, d, w, g) else dDr t (r, c, d, w, g)) else if x = 33 + 5 * i + 1 then nI c + dr (dDr t (r, c, d, w, g)) else if x = 33 + 5 * i + 0 then nI (r + 1) else M1 144 x := by
                  intro x
                  rw [e151, mx_up_fn]
                  by_cases h2 : x = 33 + 5 * i + 2
                  · rw [h2, upd_eq, if_pos rfl]
                  · rw [upd_ne _ _ h2, if_neg h2, e127, mx_up_fn]
                    by_cases h1 : x = 33 + 5 * i + 1
                    · rw [h1, upd_eq, if_pos rfl]
                    · rw [upd_ne _ _ h1, if_neg h1, e113, mx_up_fn]
                      by_cases h0 : x = 33 + 5 * i + 0
                      · rw [h0, upd_eq, if_pos rfl]
                      · rw [upd_ne _ _ h0, if_neg h0]; exact g0 x
                have hz9 : ∀ x, N151 149 x = if x = i then nI (flB t (r, c, d, w, g)).toNat else M1 149 x := by
                  intro x
                  rw [e151, mx_up_ne (by decide), e127, mx_up_ne (by decide), e113, mx_up_ne (by decide)]
                  exact g1 x
                refine ih (i + 1) N151 _ _ (by simp [mx_c1, Value.category]) (by omega) (by omega) (by rw [e151, e127, e113]; exact ((g2.up (Or.inl rfl)).up (Or.inl rfl)).up (Or.inl rfl)) (fun j h => ?_) (fun j y hy h => ?_) (fun j y hy h => ?_)
                · rw [hz, if_neg (by omega), if_neg (by omega), if_neg (by omega)]; exact hj2 j h
                · by_cases e : j = i
                  · subst e
                    rw [hx] at hy
                    cases hy
                    refine ⟨by rw [hz9, if_pos rfl], fun k hk => ?_⟩
                    rcases (show k = 0 ∨ k = 1 ∨ k = 2 ∨ k = 3 ∨ k = 4 by omega) with rfl | rfl | rfl | rfl | rfl
                    · rw [hz, if_neg (by omega), if_neg (by omega), if_pos rfl]; rfl
                    · rw [hz, if_neg (by omega), if_pos rfl]; rfl
                    · rw [hz, if_pos rfl]; rfl
                    · rw [hz, if_neg (by omega), if_neg (by omega), if_neg (by omega)]; exact w4
                    · rw [hz, if_neg (by omega), if_neg (by omega), if_neg (by omega)]; exact w5
                  · obtain ⟨h1, h2⟩ := hlo j y hy (by omega)
                    refine ⟨by rw [hz9, if_neg e]; exact h1, fun k hk => ?_⟩
                    rw [hz, if_neg (by omega), if_neg (by omega), if_neg (by omega)]; exact h2 k hk
                · refine (hhi j y hy (by omega)).fr fun k hk => ?_
                  rw [hz, if_neg (by omega), if_neg (by omega), if_neg (by omega)]
      refine mx_aload_n (pc' := 13) dX8_falls_12 rfl rfl ?_
      refine mx_iload_n (pc' := 14) dX8_falls_13 rfl rfl ?_
      refine mx_iconst (pc' := 15) (v := nI 2) dX8_falls_14 (by decide) rfl ?_
      refine mx_callV (pc' := 18) dX8_falls_15 cl_X8_53 (rfl) (t_X8_of M1 i 2 (by omega) (by decide)) rfl (by decide) rfl (Nat.le_of_ble_eq_true rfl) rfl (fun v N15 hv => ?_)
      obtain ⟨rfl, hv⟩ := hv
      rw [hv, show M1 144 (33 + 5 * i + 2) = nI d from w3]
      refine mx_iconst (pc' := 19) (v := nI 1) dX8_falls_18 (by decide) rfl ?_
      refine mx_isub (pc' := 20) (v := dr d) dX8_falls_19 (rfl) rfl ?_
      refine mx_istore_n (pc' := 21) (ls' := [_, _, _, _]) dX8_falls_20 (by decide) (by simpa [mx_c1, Value.category] using hz) rfl rfl ?_
      refine mx_aload_n (pc' := 22) dX8_falls_21 rfl rfl ?_
      refine mx_iload_n (pc' := 23) dX8_falls_22 rfl rfl ?_
      refine mx_iconst (pc' := 24) (v := nI 1) dX8_falls_23 (by decide) rfl ?_
      refine mx_callV (pc' := 27) dX8_falls_24 cl_X8_53 (rfl) (t_X8_of M1 i 1 (by omega) (by decide)) rfl (by decide) rfl (Nat.le_of_ble_eq_true rfl) rfl (fun v N24 hv => ?_)
      obtain ⟨rfl, hv⟩ := hv
      rw [hv, show M1 144 (33 + 5 * i + 1) = nI c from w2]
      refine mx_iload_n (pc' := 28) dX8_falls_27 rfl rfl ?_
      refine mx_iadd (pc' := 29) dX8_falls_28 (rfl) rfl ?_
      refine mx_iconst (pc' := 30) (v := nI 0) dX8_falls_29 (by decide) rfl ?_
      refine mx_bipush (pc' := 32) (v := nI 9) dX8_falls_30 (by decide) rfl ?_
      refine mx_callS (pc' := 35) dX8_falls_32 cl_X8_49 (t_X8_in M1 _ _ _) rfl (by decide) rfl (Nat.le_of_ble_eq_true rfl) rfl (fun v N32 hv => ?_)
      obtain ⟨rfl, hv⟩ := hv
      rw [hv]
      refine mx_if_ne (tgt := 42) (pc' := 38) dX8_falls_35 (by decide) rfl (fun c35 => ?_) (fun c35 => ?_)
      · have c35 : 1 ≤ c + d ∧ c + d ≤ 10 := by
          have z := bI_n.mp c35
          have z2 := (dr_le c (by omega) d v3).mp z.2
          have z1 : 1 ≤ c + d := Decidable.byContradiction (fun y => by
            obtain ⟨rfl, rfl⟩ : c = 0 ∧ d = 0 := by omega
            exact absurd z.1 (by decide))
          exact ⟨z1, z2⟩
        refine mx_iconst (pc' := 43) (v := bI (c + d < 1 ∨ 10 < c + d)) dX8_falls_42 ((show Int32.ofInt 0 = nI 0 by decide).trans (bI_f (by omega))) rfl ?_
        refine mx_istore_n (pc' := 44) (ls' := [_, _, _, _]) dX8_falls_43 (by decide) (by simpa [mx_c1, Value.category] using hz2) rfl rfl ?_
        refine mx_iload_n (pc' := 45) dX8_falls_44 rfl rfl ?_
        refine mx_if_eq (tgt := 64) (pc' := 48) dX8_falls_45 (by decide) rfl (fun c45 => ?_) (fun c45 => ?_)
        · have c45 := bI_0.mp c45
          have e : dDr t (r, c, d, w, g) = d := if_neg (fun z => c45 z.1)
          rw [e] at J66
          refine mx_iload_n (pc' := 65) dX8_falls_64 rfl rfl ?_
          refine mx_istore_n (pc' := 66) (ls' := [_, _, _, _]) dX8_falls_65 (by decide) (rfl) rfl rfl ?_
          exact J66
        · have c45 := bI_n.mp c45
          refine mx_aload_n (pc' := 49) dX8_falls_48 rfl rfl ?_
          refine mx_getr (pc' := 52) dX8_falls_49 fl_X8_7 (rfl) (by rfl) rfl ?_
          refine mx_bipush (pc' := 54) (v := nI 15) dX8_falls_52 (by decide) rfl ?_
          refine mx_iald (pc' := 55) (v := nI t) dX8_falls_54 (rfl) (rfl) (by decide) ((hj2 15 (by omega)).trans ((hF.st 0 (by decide)).trans (congrArg nI ht5))) rfl ?_
          refine mx_iconst (pc' := 56) (v := nI 1) dX8_falls_55 (by decide) rfl ?_
          refine mx_icmp_ne (tgt := 64) (pc' := 59) dX8_falls_56 (by decide) rfl (fun c56 => ?_) (fun c56 => ?_)
          · have c56 : ¬ _ := fun z => c56 ((nI_eq (by omega) (by omega)).mpr z)
            have e : dDr t (r, c, d, w, g) = d := if_neg (fun z => c56 z.2)
            rw [e] at J66
            refine mx_iload_n (pc' := 65) dX8_falls_64 rfl rfl ?_
            refine mx_istore_n (pc' := 66) (ls' := [_, _, _, _]) dX8_falls_65 (by decide) (rfl) rfl rfl ?_
            exact J66
          · have c56 := (nI_eq (by omega) (by omega)).mp c56
            have e : dDr t (r, c, d, w, g) = 2 - d := if_pos ⟨c45, c56⟩
            rw [e] at J66
            refine mx_iload_n (pc' := 60) dX8_falls_59 rfl rfl ?_
            refine mx_ineg (pc' := 61) (v := dr (2 - d)) dX8_falls_60 (dr_neg d v3) rfl ?_
            refine mx_goto (pc' := 65) dX8_falls_61 (by decide) ?_
            refine mx_istore_n (pc' := 66) (ls' := [_, _, _, _]) dX8_falls_65 (by decide) (rfl) rfl rfl ?_
            exact J66
      · have c35 : ¬ (1 ≤ c + d ∧ c + d ≤ 10) := fun z => bI_0.mp c35 ⟨((dr_in c (by omega) d v3).mpr z).1, (dr_le c (by omega) d v3).mpr z.2⟩
        refine mx_iconst (pc' := 39) (v := bI (c + d < 1 ∨ 10 < c + d)) dX8_falls_38 ((show Int32.ofInt 1 = nI 1 by decide).trans (bI_t (by omega))) rfl ?_
        refine mx_goto (pc' := 43) dX8_falls_39 (by decide) ?_
        refine mx_istore_n (pc' := 44) (ls' := [_, _, _, _]) dX8_falls_43 (by decide) (by simpa [mx_c1, Value.category] using hz2) rfl rfl ?_
        refine mx_iload_n (pc' := 45) dX8_falls_44 rfl rfl ?_
        refine mx_if_eq (tgt := 64) (pc' := 48) dX8_falls_45 (by decide) rfl (fun c45 => ?_) (fun c45 => ?_)
        · have c45 := bI_0.mp c45
          have e : dDr t (r, c, d, w, g) = d := if_neg (fun z => c45 z.1)
          rw [e] at J66
          refine mx_iload_n (pc' := 65) dX8_falls_64 rfl rfl ?_
          refine mx_istore_n (pc' := 66) (ls' := [_, _, _, _]) dX8_falls_65 (by decide) (rfl) rfl rfl ?_
          exact J66
        · have c45 := bI_n.mp c45
          refine mx_aload_n (pc' := 49) dX8_falls_48 rfl rfl ?_
          refine mx_getr (pc' := 52) dX8_falls_49 fl_X8_7 (rfl) (by rfl) rfl ?_
          refine mx_bipush (pc' := 54) (v := nI 15) dX8_falls_52 (by decide) rfl ?_
          refine mx_iald (pc' := 55) (v := nI t) dX8_falls_54 (rfl) (rfl) (by decide) ((hj2 15 (by omega)).trans ((hF.st 0 (by decide)).trans (congrArg nI ht5))) rfl ?_
          refine mx_iconst (pc' := 56) (v := nI 1) dX8_falls_55 (by decide) rfl ?_
          refine mx_icmp_ne (tgt := 64) (pc' := 59) dX8_falls_56 (by decide) rfl (fun c56 => ?_) (fun c56 => ?_)
          · have c56 : ¬ _ := fun z => c56 ((nI_eq (by omega) (by omega)).mpr z)
            have e : dDr t (r, c, d, w, g) = d := if_neg (fun z => c56 z.2)
            rw [e] at J66
            refine mx_iload_n (pc' := 65) dX8_falls_64 rfl rfl ?_
            refine mx_istore_n (pc' := 66) (ls' := [_, _, _, _]) dX8_falls_65 (by decide) (rfl) rfl rfl ?_
            exact J66
          · have c56 := (nI_eq (by omega) (by omega)).mp c56
            have e : dDr t (r, c, d, w, g) = 2 - d := if_pos ⟨c45, c56⟩
            rw [e] at J66
            refine mx_iload_n (pc' := 60) dX8_falls_59 rfl rfl ?_
            refine mx_ineg (pc' := 61) (v := dr (2 - d)) dX8_falls_60 (dr_neg d v3) rfl ?_
            refine mx_goto (pc' := 65) dX8_falls_61 (by decide) ?_
            refine mx_istore_n (pc' := 66) (ls' := [_, _, _, _]) dX8_falls_65 (by decide) (rfl) rfl rfl ?_
            exact J66

set_option maxHeartbeats 1000000 in
set_option maxRecDepth 10000 in
theorem t_X8_falls (M : mx_M) (F : FS) (hF : MF M F) (hV : FV F) : mx_T yX8_falls cX8_falls 4 none 4 [.ref 143] M (fun v M' => v = none ∧ MF M' (fFalls F) ∧ MoS M M') := by
  refine mx_T.of1 (own := RX8) (ls := [some (.ref 143), none, none, none]) (by decide +kernel) rfl (Nat.le_of_ble_eq_true rfl) rfl rfl ?_
  refine mx_iconst (pc' := 1) (v := nI 0) dX8_falls_0 (by decide) rfl ?_
  refine mx_istore_n (pc' := 2) (ls' := [_, _, _, _]) dX8_falls_1 (by decide) (rfl) rfl rfl ?_
  exact l_X8_falls M F hF _ rfl hV.2.2.2.2.1 (F.2.1.length + 1) 0 M none none rfl (by omega) (by omega) MoS.rf (fun _ _ => rfl) (fun j y _ h => by omega) (fun j y hy _ => hF.bu hy)

