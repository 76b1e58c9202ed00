def ZA (M : mx_M) (g : Nat → Nat) (T t : Nat) : Prop := ∀ c, c < 10 → M 152 (10 * t + c) = nI (mcap (zrow g T t c))
theorem mcap_lt (x : Nat) : mcap x < 1000 := by unfold mcap; split <;> omega
theorem nbL_lt (R : Nat → Nat) (c : Nat) : nbL R c < 1000 := by
  unfold nbL; split
  · exact mcap_lt _
  · decide
theorem nbR_lt (R : Nat → Nat) (c : Nat) : nbR R c < 1000 := by
  unfold nbR; split
  · exact mcap_lt _
  · decide
def FW (M : mx_M) (t : Nat) (x : Int32) (w : Nat) : Prop := (∃ c, c < 10 ∧ x = nI c ∧ M 152 (10 * t + c) = nI w) ∨ (¬ (nI 0 ≤ x ∧ x ≤ nI 9) ∧ w = 100)
theorem FW.c {M : mx_M} {g : Nat → Nat} {T t c : Nat} (h : ZA M g T t) (hc : c < 10) : FW M t (nI c) (mcap (zrow g T t c)) := Or.inl ⟨c, hc, rfl, h c hc⟩
theorem FW.l {M : mx_M} {g : Nat → Nat} {T t c : Nat} (h : ZA M g T t) (hc : c < 10) : FW M t (nI c - nI 1) (nbL (zrow g T t) c) := by
  unfold nbL
  by_cases h1 : 1 ≤ c
  · rw [if_pos h1]; exact Or.inl ⟨c - 1, by omega, pk_sub (b := 1) h1, h _ (by omega)⟩
  · rw [if_neg h1]
    obtain rfl : c = 0 := by omega
    exact Or.inr ⟨by decide, rfl⟩
theorem FW.r {M : mx_M} {g : Nat → Nat} {T t c : Nat} (h : ZA M g T t) (hc : c < 10) : FW M t (nI (c + 1)) (nbR (zrow g T t) c) := by
  unfold nbR
  by_cases h1 : c ≤ 8
  · rw [if_pos h1]; exact Or.inl ⟨c + 1, by omega, rfl, h _ (by omega)⟩
  · rw [if_neg h1]
    obtain rfl : c = 9 := by omega
    exact Or.inr ⟨by decide, rfl⟩
set_option maxHeartbeats 1000000 in
set_option maxRecDepth 10000 in
theorem t_X8_fewestAt (M : mx_M) (t : Nat) (ht : t ≤ 30) (x : Int32) (w : Nat) (hw : FW M t x w) : mx_T yX8_fewestAt cX8_fewestAt 3 (some .int) 2 [.ref 143, .int (nI t), .int x] M (fun v M' => v = some (.int (nI w)) ∧ M' = M) := by
  refine mx_T.of1 (own := RX8) (ls := [some (.ref 143), some (.int (nI t)), some (.int x)]) (by decide +kernel) rfl (Nat.le_of_ble_eq_true rfl) rfl rfl ?_
  refine mx_iload_n (pc' := 1) dX8_fewestAt_0 rfl rfl ?_
  refine mx_iconst (pc' := 2) (v := nI 0) dX8_fewestAt_1 (by decide) rfl ?_
  refine mx_bipush (pc' := 4) (v := nI 9) dX8_fewestAt_2 (by decide) rfl ?_
  refine mx_callS (pc' := 7) dX8_fewestAt_4 cl_X8_49 (t_X8_in M x (nI 0) (nI 9)) rfl (by decide) rfl (Nat.le_of_ble_eq_true rfl) rfl (fun v N4 hv => ?_)
  obtain ⟨rfl, hv⟩ := hv
  rw [hv]
  refine mx_if_eq (tgt := 24) (pc' := 10) dX8_fewestAt_7 (by decide) rfl (fun c7 => ?_) (fun c7 => ?_)
  · have c7 : ¬ (nI 0 ≤ x ∧ x ≤ nI 9) := bI_0.mp c7
    refine mx_bipush (pc' := 26) (v := nI 100) dX8_fewestAt_24 (by decide) rfl ?_
    refine mx_iret dX8_fewestAt_26 (Or.inl rfl) ?_
    rcases hw with ⟨c, hc, rfl, -⟩ | h
    · exact absurd ⟨(nI_leI (by omega) (by omega)).mpr (Nat.zero_le _), (nI_leI (by omega) (by omega)).mpr (by omega)⟩ c7
    · rw [h.2]; exact ⟨rfl, rfl⟩
  · have c7 := bI_n.mp c7
    obtain ⟨c, hc, rfl, hM⟩ : ∃ c, c < 10 ∧ x = nI c ∧ M 152 (10 * t + c) = nI w := by
      rcases hw with h | h
      · exact h
      · exact absurd c7 h.1
    refine mx_aload_n (pc' := 11) dX8_fewestAt_10 rfl rfl ?_
    refine mx_getr (pc' := 14) dX8_fewestAt_11 fl_X8_35 (rfl) (by rfl) rfl ?_
    refine mx_bipush (pc' := 16) (v := nI 10) dX8_fewestAt_14 (by decide) rfl ?_
    refine mx_iload_n (pc' := 17) dX8_fewestAt_16 rfl rfl ?_
    refine mx_imul (pc' := 18) (v := nI (10 * t)) dX8_fewestAt_17 (pk_mul 10 t) rfl ?_
    refine mx_iload_n (pc' := 19) dX8_fewestAt_18 rfl rfl ?_
    refine mx_iadd (pc' := 20) (v := nI (10 * t + c)) dX8_fewestAt_19 (nI_add _ c) rfl ?_
    refine mx_iald (pc' := 21) (v := nI w) dX8_fewestAt_20 (rfl) (rfl) (by omega) (hM) rfl ?_
    refine mx_goto (pc' := 26) dX8_fewestAt_21 (by decide) ?_
    refine mx_iret dX8_fewestAt_26 (Or.inl rfl) ?_
    exact ⟨rfl, rfl⟩

set_option maxHeartbeats 1000000 in
set_option maxRecDepth 10000 in
theorem l_X8_find1 (M : mx_M) (g : Nat → Nat) (T : Nat) (hT1 : 1 ≤ T) (hT : T ≤ 30) (hg : ∀ u, g u < 1024) (hL : ∀ u, u ≤ T → M 151 u = nI (g u)) (Q : Option Value → mx_M → Prop) (t : Nat) (ht : t ≤ T) (KO : ∀ (M1 : mx_M) (b3 b4 b5 b6 b7 : Option Value), mx_c1 [b3, b4, b5, b6, b7] = true → (∀ q, q ≠ 152 → M1 q = M q) → (∀ u, t ≤ u → u ≤ T → ZA M1 g T u) → mx_V cX8_findsWay RX8 8 (some .int) 7 168 [some (.ref 143), some (.int (nI T)), some (.int (nI t)), b3, b4, b5, b6, b7] [] M1 Q) : ∀ (k : Nat) (c : Nat) (M1 : mx_M) (z4 z5 z6 z7 : Option Value), 10 < c + k → c ≤ 10 → mx_c1 [z4, z5, z6, z7] = true → (∀ q, q ≠ 152 → M1 q = M q) → (∀ u, t < u → u ≤ T → ZA M1 g T u) → (∀ j, j < c → M1 152 (10 * t + j) = nI (mcap (zrow g T t j))) → mx_V cX8_findsWay RX8 8 (some .int) 7 15 [some (.ref 143), some (.int (nI T)), some (.int (nI t)), some (.int (nI c)), z4, z5, z6, z7] [] M1 Q := by
  intro k
  induction k with
  | zero =>
    intro c M1 z4 z5 z6 z7 hk hi hzz hO hZ hz
    exact absurd hk (by omega)
  | succ k ih =>
    intro c M1 z4 z5 z6 z7 hk hi hzz hO hZ hz
    refine mx_iload_n (pc' := 16) dX8_findsWay_15 rfl rfl ?_
    refine mx_bipush (pc' := 18) (v := nI 10) dX8_findsWay_16 (by decide) rfl ?_
    refine mx_icmp_ge (tgt := 168) (pc' := 21) dX8_findsWay_18 (by decide) rfl (fun c18 => ?_) (fun c18 => ?_)
    · have c18 := (nI_leI (by omega) (by omega)).mp c18
      obtain rfl : c = 10 := by omega
      refine KO M1 _ _ _ _ _ (by simpa [mx_c1, Value.category] using hzz) hO (fun u h1 h2 => ?_)
      by_cases e : u = t
      · subst e; exact hz
      · exact hZ u (by omega) h2
    · have c18 := Nat.not_le.mp (fun z => c18 ((nI_leI (by omega) (by omega)).mpr z))
      have J120 : ∀ (m : Nat) (x4 x5 x6 : Int32), m < 2000 → mval g t c m = mcap (zrow g T t c) → mx_V cX8_findsWay RX8 8 (some .int) 7 120 [some (.ref 143), some (.int (nI T)), some (.int (nI t)), some (.int (nI c)), some (.int x4), some (.int x5), some (.int x6), some (.int (nI m))] [] M1 Q := by
        intro m x4 x5 x6 hm hmv
        refine mx_aload_n (pc' := 121) dX8_findsWay_120 rfl rfl ?_
        refine mx_getr (pc' := 124) dX8_findsWay_121 fl_X8_35 (rfl) (by rfl) rfl ?_
        refine mx_bipush (pc' := 126) (v := nI 10) dX8_findsWay_124 (by decide) rfl ?_
        refine mx_iload_n (pc' := 127) dX8_findsWay_126 rfl rfl ?_
        refine mx_imul (pc' := 128) (v := nI (10 * t)) dX8_findsWay_127 (pk_mul 10 t) rfl ?_
        refine mx_iload_n (pc' := 129) dX8_findsWay_128 rfl rfl ?_
        refine mx_iadd (pc' := 130) (v := nI (10 * t + c)) dX8_findsWay_129 (nI_add _ c) rfl ?_
        refine mx_iload_n (pc' := 131) dX8_findsWay_130 rfl rfl ?_
        refine mx_if_le (tgt := 147) (pc' := 134) dX8_findsWay_131 (by decide) rfl (fun c131 => ?_) (fun c131 => ?_)
        · have c131 : t = 0 := Nat.le_zero.mp ((nI_leI (a := t) (b := 0) (by omega) (by omega)).mp c131)
          refine mx_iload (pc' := 149) dX8_findsWay_147 rfl rfl ?_
          refine mx_bipush (pc' := 151) (v := nI 99) dX8_findsWay_149 (by decide) rfl ?_
          refine mx_icmp_le (tgt := 159) (pc' := 154) dX8_findsWay_151 (by decide) rfl (fun c151 => ?_) (fun c151 => ?_)
          · have c151 := (nI_leI (by omega) (by omega)).mp c151
            refine mx_iload (pc' := 161) dX8_findsWay_159 rfl rfl ?_
            have e : mcap (zrow g T t c) = m := by
              rw [← hmv]
              unfold mval
              rw [if_neg (fun z => by rcases z with z | z; exact absurd z.1 (by omega); omega)]
            refine mx_iast (pc' := 162) dX8_findsWay_161 (rfl) (rfl) (by omega) rfl ?_
            refine mx_iinc (pc' := 165) (ls' := [_, _, _, _, _, _, _, _]) (v := nI (c + 1)) dX8_findsWay_162 rfl (nI_add c 1) (by decide) (rfl) rfl rfl ?_
            refine mx_goto (pc' := 15) dX8_findsWay_165 (by decide) ?_
            refine ih (c + 1) _ _ _ _ _ (by omega) (by omega) rfl (fun q h => by rw [mx_up_ne h]; exact hO q h) (fun u h1 h2 j hj => ?_) (fun j hj => ?_)
            · rw [mx_up_fn, upd_ne _ _ (by omega)]; exact hZ u h1 h2 j hj
            · rw [mx_up_fn]
              by_cases ej : j = c
              · subst ej; rw [upd_eq, e]
              · rw [upd_ne _ _ (by omega)]; exact hz j (by omega)
          · have c151 := Nat.not_le.mp (fun z => c151 ((nI_leI (by omega) (by omega)).mpr z))
            refine mx_bipush (pc' := 156) (v := nI 100) dX8_findsWay_154 (by decide) rfl ?_
            refine mx_goto (pc' := 161) dX8_findsWay_156 (by decide) ?_
            have e : mcap (zrow g T t c) = 100 := by
              rw [← hmv]
              unfold mval
              rw [if_pos (Or.inr c151)]
            refine mx_iast (pc' := 162) dX8_findsWay_161 (rfl) (rfl) (by omega) rfl ?_
            refine mx_iinc (pc' := 165) (ls' := [_, _, _, _, _, _, _, _]) (v := nI (c + 1)) dX8_findsWay_162 rfl (nI_add c 1) (by decide) (rfl) rfl rfl ?_
            refine mx_goto (pc' := 15) dX8_findsWay_165 (by decide) ?_
            refine ih (c + 1) _ _ _ _ _ (by omega) (by omega) rfl (fun q h => by rw [mx_up_ne h]; exact hO q h) (fun u h1 h2 j hj => ?_) (fun j hj => ?_)
            · rw [mx_up_fn, upd_ne _ _ (by omega)]; exact hZ u h1 h2 j hj
            · rw [mx_up_fn]
              by_cases ej : j = c
              · subst ej; rw [upd_eq, e]
              · rw [upd_ne _ _ (by omega)]; exact hz j (by omega)
        · have c131 : 0 < t := Nat.pos_of_ne_zero (fun z => c131 (by rw [z]; decide))
          refine mx_aload_n (pc' := 135) dX8_findsWay_134 rfl rfl ?_
          refine mx_getr (pc' := 138) dX8_findsWay_135 fl_X8_32 (rfl) (by rfl) rfl ?_
          refine mx_iload_n (pc' := 139) dX8_findsWay_138 rfl rfl ?_
          refine mx_iald (pc' := 140) (v := nI (g t)) dX8_findsWay_139 (rfl) (rfl) (by omega) (by rw [hO 151 (by decide)]; exact hL t ht) rfl ?_
          refine mx_iload_n (pc' := 141) dX8_findsWay_140 rfl rfl ?_
          refine mx_ishr (pc' := 142) dX8_findsWay_141 (rfl) rfl ?_
          refine mx_iconst (pc' := 143) (v := nI 1) dX8_findsWay_142 (by decide) rfl ?_
          refine mx_iand (pc' := 144) (v := nI ((g t).testBit c).toNat) dX8_findsWay_143 (tb_1 _ (by have := hg t; omega) c c18) rfl ?_
          refine mx_if_eq (tgt := 154) (pc' := 147) dX8_findsWay_144 (by decide) rfl (fun c144 => ?_) (fun c144 => ?_)
          · have c144 : ¬ (g t).testBit c = true := fun z => by rw [z] at c144; exact absurd c144 (by decide)
            refine mx_bipush (pc' := 156) (v := nI 100) dX8_findsWay_154 (by decide) rfl ?_
            refine mx_goto (pc' := 161) dX8_findsWay_156 (by decide) ?_
            have e : mcap (zrow g T t c) = 100 := by
              rw [← hmv]
              unfold mval
              rw [if_pos (Or.inl ⟨c131, c144⟩)]
            refine mx_iast (pc' := 162) dX8_findsWay_161 (rfl) (rfl) (by omega) rfl ?_
            refine mx_iinc (pc' := 165) (ls' := [_, _, _, _, _, _, _, _]) (v := nI (c + 1)) dX8_findsWay_162 rfl (nI_add c 1) (by decide) (rfl) rfl rfl ?_
            refine mx_goto (pc' := 15) dX8_findsWay_165 (by decide) ?_
            refine ih (c + 1) _ _ _ _ _ (by omega) (by omega) rfl (fun q h => by rw [mx_up_ne h]; exact hO q h) (fun u h1 h2 j hj => ?_) (fun j hj => ?_)
            · rw [mx_up_fn, upd_ne _ _ (by omega)]; exact hZ u h1 h2 j hj
            · rw [mx_up_fn]
              by_cases ej : j = c
              · subst ej; rw [upd_eq, e]
              · rw [upd_ne _ _ (by omega)]; exact hz j (by omega)
          · have c144 : (g t).testBit c = true := by
              cases hz : (g t).testBit c with
              | true => rfl
              | false => rw [hz] at c144; exact absurd rfl c144
            refine mx_iload (pc' := 149) dX8_findsWay_147 rfl rfl ?_
            refine mx_bipush (pc' := 151) (v := nI 99) dX8_findsWay_149 (by decide) rfl ?_
            refine mx_icmp_le (tgt := 159) (pc' := 154) dX8_findsWay_151 (by decide) rfl (fun c151 => ?_) (fun c151 => ?_)
            · have c151 := (nI_leI (by omega) (by omega)).mp c151
              refine mx_iload (pc' := 161) dX8_findsWay_159 rfl rfl ?_
              have e : mcap (zrow g T t c) = m := by
                rw [← hmv]
                unfold mval
                rw [if_neg (fun z => by rcases z with z | z; exact z.2 c144; omega)]
              refine mx_iast (pc' := 162) dX8_findsWay_161 (rfl) (rfl) (by omega) rfl ?_
              refine mx_iinc (pc' := 165) (ls' := [_, _, _, _, _, _, _, _]) (v := nI (c + 1)) dX8_findsWay_162 rfl (nI_add c 1) (by decide) (rfl) rfl rfl ?_
              refine mx_goto (pc' := 15) dX8_findsWay_165 (by decide) ?_
              refine ih (c + 1) _ _ _ _ _ (by omega) (by omega) rfl (fun q h => by rw [mx_up_ne h]; exact hO q h) (fun u h1 h2 j hj => ?_) (fun j hj => ?_)
              · rw [mx_up_fn, upd_ne _ _ (by omega)]; exact hZ u h1 h2 j hj
              · rw [mx_up_fn]
                by_cases ej : j = c
                · subst ej; rw [upd_eq, e]
                · rw [upd_ne _ _ (by omega)]; exact hz j (by omega)
            · have c151 := Nat.not_le.mp (fun z => c151 ((nI_leI (by omega) (by omega)).mpr z))
              refine mx_bipush (pc' := 156) (v := nI 100) dX8_findsWay_154 (by decide) rfl ?_
              refine mx_goto (pc' := 161) dX8_findsWay_156 (by decide) ?_
              have e : mcap (zrow g T t c) = 100 := by
                rw [← hmv]
                unfold mval
                rw [if_pos (Or.inr c151)]
              refine mx_iast (pc' := 162) dX8_findsWay_161 (rfl) (rfl) (by omega) rfl ?_
              refine mx_iinc (pc' := 165) (ls' := [_, _, _, _, _, _, _, _]) (v := nI (c + 1)) dX8_findsWay_162 rfl (nI_add c 1) (by decide) (rfl) rfl rfl ?_
              refine mx_goto (pc' := 15) dX8_findsWay_165 (by decide) ?_
              refine ih (c + 1) _ _ _ _ _ (by omega) (by omega) rfl (fun q h => by rw [mx_up_ne h]; exact hO q h) (fun u h1 h2 j hj => ?_) (fun j hj => ?_)
              · rw [mx_up_fn, upd_ne _ _ (by omega)]; exact hZ u h1 h2 j hj
              · rw [mx_up_fn]
                by_cases ej : j = c
                · subst ej; rw [upd_eq, e]
                · rw [upd_ne _ _ (by omega)]; exact hz j (by omega)
      have J88 : ∀ (a4 a5 a6 : Nat) (z7 : Option Value), mx_c1 [z7] = true → a4 < 2000 → a5 < 2000 → a6 < 2000 → mval g t c (min a4 (min a5 a6)) = mcap (zrow g T t c) → mx_V cX8_findsWay RX8 8 (some .int) 7 88 [some (.ref 143), some (.int (nI T)), some (.int (nI t)), some (.int (nI c)), some (.int (nI a4)), some (.int (nI a5)), some (.int (nI a6)), z7] [] M1 Q := by
        intro a4 a5 a6 z7 hz7 h4 h5 h6 hmv
        refine mx_iload (pc' := 90) dX8_findsWay_88 rfl rfl ?_
        refine mx_iload (pc' := 92) dX8_findsWay_90 rfl rfl ?_
        refine mx_icmp_ge (tgt := 100) (pc' := 95) dX8_findsWay_92 (by decide) rfl (fun c92 => ?_) (fun c92 => ?_)
        · have c92 := (nI_leI (by omega) (by omega)).mp c92
          refine mx_iload (pc' := 102) dX8_findsWay_100 rfl rfl ?_
          refine mx_istore (pc' := 104) (ls' := [_, _, _, _, _, _, _, _]) dX8_findsWay_102 (by decide) (by simp_all [mx_c1, Value.category]) rfl rfl ?_
          refine mx_iload (pc' := 106) dX8_findsWay_104 rfl rfl ?_
          refine mx_iload (pc' := 108) dX8_findsWay_106 rfl rfl ?_
          refine mx_icmp_ge (tgt := 116) (pc' := 111) dX8_findsWay_108 (by decide) rfl (fun c108 => ?_) (fun c108 => ?_)
          · have c108 := (nI_leI (by omega) (by omega)).mp c108
            refine mx_iload (pc' := 118) dX8_findsWay_116 rfl rfl ?_
            refine mx_istore (pc' := 120) (ls' := [_, _, _, _, _, _, _, _]) dX8_findsWay_118 (by decide) (rfl) rfl rfl ?_
            exact J120 a6 _ _ _ (by omega) (by rw [← hmv]; congr 1; omega)
          · have c108 := Nat.not_le.mp (fun z => c108 ((nI_leI (by omega) (by omega)).mpr z))
            refine mx_iload (pc' := 113) dX8_findsWay_111 rfl rfl ?_
            refine mx_goto (pc' := 118) dX8_findsWay_113 (by decide) ?_
            refine mx_istore (pc' := 120) (ls' := [_, _, _, _, _, _, _, _]) dX8_findsWay_118 (by decide) (rfl) rfl rfl ?_
            exact J120 a4 _ _ _ (by omega) (by rw [← hmv]; congr 1; omega)
        · have c92 := Nat.not_le.mp (fun z => c92 ((nI_leI (by omega) (by omega)).mpr z))
          refine mx_iload (pc' := 97) dX8_findsWay_95 rfl rfl ?_
          refine mx_goto (pc' := 102) dX8_findsWay_97 (by decide) ?_
          refine mx_istore (pc' := 104) (ls' := [_, _, _, _, _, _, _, _]) dX8_findsWay_102 (by decide) (by simp_all [mx_c1, Value.category]) rfl rfl ?_
          refine mx_iload (pc' := 106) dX8_findsWay_104 rfl rfl ?_
          refine mx_iload (pc' := 108) dX8_findsWay_106 rfl rfl ?_
          refine mx_icmp_ge (tgt := 116) (pc' := 111) dX8_findsWay_108 (by decide) rfl (fun c108 => ?_) (fun c108 => ?_)
          · have c108 := (nI_leI (by omega) (by omega)).mp c108
            refine mx_iload (pc' := 118) dX8_findsWay_116 rfl rfl ?_
            refine mx_istore (pc' := 120) (ls' := [_, _, _, _, _, _, _, _]) dX8_findsWay_118 (by decide) (rfl) rfl rfl ?_
            exact J120 a5 _ _ _ (by omega) (by rw [← hmv]; congr 1; omega)
          · have c108 := Nat.not_le.mp (fun z => c108 ((nI_leI (by omega) (by omega)).mpr z))
            refine mx_iload (pc' := 113) dX8_findsWay_111 rfl rfl ?_
            refine mx_goto (pc' := 118) dX8_findsWay_113 (by decide) ?_
            refine mx_istore (pc' := 120) (ls' := [_, _, _, _, _, _, _, _]) dX8_findsWay_118 (by decide) (rfl) rfl rfl ?_
            exact J120 a4 _ _ _ (by omega) (by rw [← hmv]; congr 1; omega)
      refine mx_iload_n (pc' := 22) dX8_findsWay_21 rfl rfl ?_
      refine mx_iload_n (pc' := 23) dX8_findsWay_22 rfl rfl ?_
      refine mx_icmp_ne (tgt := 30) (pc' := 26) dX8_findsWay_23 (by decide) rfl (fun c23 => ?_) (fun c23 => ?_)
      · have c23 : ¬ _ := fun z => c23 ((nI_eq (by omega) (by omega)).mpr z)
        have c23 : t < T := by omega
        have hZ1 := hZ (t + 1) (by omega) (by omega)
        refine mx_aload_n (pc' := 31) dX8_findsWay_30 rfl rfl ?_
        refine mx_iload_n (pc' := 32) dX8_findsWay_31 rfl rfl ?_
        refine mx_iconst (pc' := 33) (v := nI 1) dX8_findsWay_32 (by decide) rfl ?_
        refine mx_iadd (pc' := 34) (v := nI (t + 1)) dX8_findsWay_33 (nI_add t 1) rfl ?_
        refine mx_iload_n (pc' := 35) dX8_findsWay_34 rfl rfl ?_
        refine mx_callV (pc' := 38) dX8_findsWay_35 cl_X8_166 (rfl) (t_X8_fewestAt M1 (t + 1) (by omega) _ _ (FW.c hZ1 c18)) rfl (by decide) rfl (Nat.le_of_ble_eq_true rfl) rfl (fun v N35 hv => ?_)
        obtain ⟨rfl, hv⟩ := hv
        rw [hv]
        refine mx_istore (pc' := 40) (ls' := [_, _, _, _, _, _, _, _]) dX8_findsWay_38 (by decide) (by simp_all [mx_c1, Value.category]) rfl rfl ?_
        refine mx_iload_n (pc' := 41) dX8_findsWay_40 rfl rfl ?_
        refine mx_iload_n (pc' := 42) dX8_findsWay_41 rfl rfl ?_
        refine mx_icmp_ne (tgt := 50) (pc' := 45) dX8_findsWay_42 (by decide) rfl (fun c42 => ?_) (fun c42 => ?_)
        · refine mx_iconst (pc' := 51) (v := nI 1) dX8_findsWay_50 (by decide) rfl ?_
          refine mx_aload_n (pc' := 52) dX8_findsWay_51 rfl rfl ?_
          refine mx_iload_n (pc' := 53) dX8_findsWay_52 rfl rfl ?_
          refine mx_iconst (pc' := 54) (v := nI 1) dX8_findsWay_53 (by decide) rfl ?_
          refine mx_iadd (pc' := 55) (v := nI (t + 1)) dX8_findsWay_54 (nI_add t 1) rfl ?_
          refine mx_iload_n (pc' := 56) dX8_findsWay_55 rfl rfl ?_
          refine mx_iconst (pc' := 57) (v := nI 1) dX8_findsWay_56 (by decide) rfl ?_
          refine mx_isub (pc' := 58) dX8_findsWay_57 (rfl) rfl ?_
          refine mx_callV (pc' := 61) dX8_findsWay_58 cl_X8_166 (rfl) (t_X8_fewestAt M1 (t + 1) (by omega) _ _ (FW.l hZ1 c18)) rfl (by decide) rfl (Nat.le_of_ble_eq_true rfl) rfl (fun v N58 hv => ?_)
          obtain ⟨rfl, hv⟩ := hv
          rw [hv]
          refine mx_iadd (pc' := 62) (v := nI (1 + nbL (zrow g T (t + 1)) c)) dX8_findsWay_61 (nI_add 1 _) rfl ?_
          refine mx_istore (pc' := 64) (ls' := [_, _, _, _, _, _, _, _]) dX8_findsWay_62 (by decide) (by simp_all [mx_c1, Value.category]) rfl rfl ?_
          refine mx_iload_n (pc' := 65) dX8_findsWay_64 rfl rfl ?_
          refine mx_iload_n (pc' := 66) dX8_findsWay_65 rfl rfl ?_
          refine mx_icmp_ne (tgt := 74) (pc' := 69) dX8_findsWay_66 (by decide) rfl (fun c66 => ?_) (fun c66 => ?_)
          · refine mx_iconst (pc' := 75) (v := nI 1) dX8_findsWay_74 (by decide) rfl ?_
            refine mx_aload_n (pc' := 76) dX8_findsWay_75 rfl rfl ?_
            refine mx_iload_n (pc' := 77) dX8_findsWay_76 rfl rfl ?_
            refine mx_iconst (pc' := 78) (v := nI 1) dX8_findsWay_77 (by decide) rfl ?_
            refine mx_iadd (pc' := 79) (v := nI (t + 1)) dX8_findsWay_78 (nI_add t 1) rfl ?_
            refine mx_iload_n (pc' := 80) dX8_findsWay_79 rfl rfl ?_
            refine mx_iconst (pc' := 81) (v := nI 1) dX8_findsWay_80 (by decide) rfl ?_
            refine mx_iadd (pc' := 82) (v := nI (c + 1)) dX8_findsWay_81 (nI_add c 1) rfl ?_
            refine mx_callV (pc' := 85) dX8_findsWay_82 cl_X8_166 (rfl) (t_X8_fewestAt M1 (t + 1) (by omega) _ _ (FW.r hZ1 c18)) rfl (by decide) rfl (Nat.le_of_ble_eq_true rfl) rfl (fun v N82 hv => ?_)
            obtain ⟨rfl, hv⟩ := hv
            rw [hv]
            refine mx_iadd (pc' := 86) (v := nI (1 + nbR (zrow g T (t + 1)) c)) dX8_findsWay_85 (nI_add 1 _) rfl ?_
            refine mx_istore (pc' := 88) (ls' := [_, _, _, _, _, _, _, _]) dX8_findsWay_86 (by decide) (by simp_all [mx_c1, Value.category]) rfl rfl ?_
            have q1 := mcap_lt (zrow g T (t + 1) c)
            have q2 := nbL_lt (zrow g T (t + 1)) c
            have q3 := nbR_lt (zrow g T (t + 1)) c
            exact J88 _ _ _ _ (by simp_all [mx_c1, Value.category]) (by omega) (by omega) (by omega) (mval_s hT c23 c18)
          · have c66 := (nI_eq (by omega) (by omega)).mp c66
            exact absurd c66 (by omega)
        · have c42 := (nI_eq (by omega) (by omega)).mp c42
          exact absurd c42 (by omega)
      · have c23 := (nI_eq (by omega) (by omega)).mp c23
        refine mx_iconst (pc' := 27) (v := nI 0) dX8_findsWay_26 (by decide) rfl ?_
        refine mx_goto (pc' := 38) dX8_findsWay_27 (by decide) ?_
        refine mx_istore (pc' := 40) (ls' := [_, _, _, _, _, _, _, _]) dX8_findsWay_38 (by decide) (by simp_all [mx_c1, Value.category]) rfl rfl ?_
        refine mx_iload_n (pc' := 41) dX8_findsWay_40 rfl rfl ?_
        refine mx_iload_n (pc' := 42) dX8_findsWay_41 rfl rfl ?_
        refine mx_icmp_ne (tgt := 50) (pc' := 45) dX8_findsWay_42 (by decide) rfl (fun c42 => ?_) (fun c42 => ?_)
        · exact absurd (by rw [c23]) c42
        · refine mx_bipush (pc' := 47) (v := nI 100) dX8_findsWay_45 (by decide) rfl ?_
          refine mx_goto (pc' := 62) dX8_findsWay_47 (by decide) ?_
          refine mx_istore (pc' := 64) (ls' := [_, _, _, _, _, _, _, _]) dX8_findsWay_62 (by decide) (by simp_all [mx_c1, Value.category]) rfl rfl ?_
          refine mx_iload_n (pc' := 65) dX8_findsWay_64 rfl rfl ?_
          refine mx_iload_n (pc' := 66) dX8_findsWay_65 rfl rfl ?_
          refine mx_icmp_ne (tgt := 74) (pc' := 69) dX8_findsWay_66 (by decide) rfl (fun c66 => ?_) (fun c66 => ?_)
          · exact absurd (by rw [c23]) c66
          · refine mx_bipush (pc' := 71) (v := nI 100) dX8_findsWay_69 (by decide) rfl ?_
            refine mx_goto (pc' := 86) dX8_findsWay_71 (by decide) ?_
            refine mx_istore (pc' := 88) (ls' := [_, _, _, _, _, _, _, _]) dX8_findsWay_86 (by decide) (by simp_all [mx_c1, Value.category]) rfl rfl ?_
            subst c23
            exact J88 0 100 100 _ (by simp_all [mx_c1, Value.category]) (by decide) (by decide) (by decide) (mval_T hT1)

