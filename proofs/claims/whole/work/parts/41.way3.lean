theorem c1_t {b : Option Value} {l : List (Option Value)} (h : mx_c1 (b :: l) = true) : mx_c1 l = true := by
  unfold mx_c1 at *
  rw [List.all_cons, Bool.and_eq_true] at h
  exact h.2
set_option maxHeartbeats 1000000 in
set_option maxRecDepth 10000 in
theorem l_X8_find2 (M : mx_M) (g : Nat → Nat) (T : Nat) (hT1 : 1 ≤ T) (hT : T ≤ 30) (hg : ∀ u, g u < 1024) (hL : ∀ u, u ≤ T → M 151 u = nI (g u)) (Q : Option Value → mx_M → Prop) (KW : ∀ (M1 : mx_M) (b2 b3 b4 b5 b6 b7 : Option Value), mx_c1 [b2, b3, b4, b5, b6, b7] = true → (∀ q, q ≠ 152 → M1 q = M q) → (∀ u, u ≤ T → ZA M1 g T u) → mx_V cX8_findsWay RX8 8 (some .int) 7 174 [some (.ref 143), some (.int (nI T)), b2, b3, b4, b5, b6, b7] [] M1 Q) : ∀ (n : Nat), n ≤ T + 1 → ∀ (M1 : mx_M) (x : Int32) (b3 b4 b5 b6 b7 : Option Value), x = dr n → mx_c1 [b3, b4, b5, b6, b7] = true → (∀ q, q ≠ 152 → M1 q = M q) → (∀ u, n ≤ u → u ≤ T → ZA M1 g T u) → mx_V cX8_findsWay RX8 8 (some .int) 7 9 [some (.ref 143), some (.int (nI T)), some (.int x), b3, b4, b5, b6, b7] [] M1 Q := by
  intro n
  induction n with
  | zero =>
    intro hn M1 x b3 b4 b5 b6 b7 hx hc hO hZ
    subst hx
    refine mx_iload_n (pc' := 10) dX8_findsWay_9 rfl rfl ?_
    refine mx_if_lt (tgt := 174) (pc' := 13) dX8_findsWay_10 (by decide) rfl (fun c10 => ?_) (fun c10 => ?_)
    · exact KW M1 _ _ _ _ _ _ (by simpa [mx_c1, Value.category] using hc) hO (fun u h => hZ u (Nat.zero_le _) h)
    · exact absurd (by decide) c10
  | succ n ih =>
    intro hn M1 x b3 b4 b5 b6 b7 hx hc hO hZ
    rw [dr_s] at hx
    subst hx
    have KO : ∀ (N : mx_M) (b3 b4 b5 b6 b7 : Option Value), mx_c1 [b3, b4, b5, b6, b7] = true → (∀ q, q ≠ 152 → N q = M q) → (∀ u, n ≤ u → u ≤ T → ZA N g T u) → mx_V cX8_findsWay RX8 8 (some .int) 7 168 [some (.ref 143), some (.int (nI T)), some (.int (nI n)), b3, b4, b5, b6, b7] [] N Q := by
      intro N b3 b4 b5 b6 b7 hc hO hZ
      refine mx_iinc (pc' := 171) (ls' := [_, _, _, _, _, _, _, _]) (v := dr n) dX8_findsWay_168 rfl (by unfold dr; rw [Int32.sub_eq_add_neg]; rfl) (by decide) (by simpa [mx_c1, Value.category] using hc) rfl rfl ?_
      refine mx_goto (pc' := 9) dX8_findsWay_171 (by decide) ?_
      exact ih (by omega) N _ b3 b4 b5 b6 b7 rfl hc hO hZ
    refine mx_iload_n (pc' := 10) dX8_findsWay_9 rfl rfl ?_
    refine mx_if_lt (tgt := 174) (pc' := 13) dX8_findsWay_10 (by decide) rfl (fun c10 => ?_) (fun c10 => ?_)
    · exact absurd c10 (nI_pos (by omega))
    · refine mx_iconst (pc' := 14) (v := nI 0) dX8_findsWay_13 (by decide) rfl ?_
      refine mx_istore_n (pc' := 15) (ls' := [_, _, _, _, _, _, _, _]) dX8_findsWay_14 (by decide) (by simpa [mx_c1, Value.category] using hc) rfl rfl ?_
      exact l_X8_find1 M g T hT1 hT hg hL Q n (by omega) KO 11 0 M1 b4 b5 b6 b7 (by omega) (by omega) (by simp_all [mx_c1, Value.category]) hO (fun u h1 h2 => hZ u (by omega) h2) (fun j hj => by omega)

set_option maxHeartbeats 1000000 in
set_option maxRecDepth 10000 in
theorem l_X8_find3 (M : mx_M) (g : Nat → Nat) (T p : Nat) (hT1 : 1 ≤ T) (hT : T ≤ 30) (hp : p < 10) (hZ0 : ∀ u, u ≤ T → ZA M g T u) (hf : zrow g T 0 p ≤ 30) : ∀ (k : Nat) (n : Nat) (M1 : mx_M) (b4 b5 b6 b7 : Option Value), T < n + k → n ≤ T → mx_c1 [b4, b5, b6, b7] = true → (∀ q, q ≠ 153 → M1 q = M q) → (∀ t, t ≤ n → M1 153 t = nI (cway g p T t)) → zrow g T n (cway g p T n) < 1000 → mx_V cX8_findsWay RX8 8 (some .int) 7 200 [some (.ref 143), some (.int (nI T)), some (.int (nI (zrow g T 0 p))), some (.int (nI (n + 1))), b4, b5, b6, b7] [] M1 (fun v M' => v = some (.int (nI (zrow g T 0 p))) ∧ (∀ q, q ≠ 153 → M' q = M q) ∧ ∀ t, t ≤ T → M' 153 t = nI (cway g p T t)) := by
  intro k
  induction k with
  | zero =>
    intro n M1 b4 b5 b6 b7 hk hi hc hO hw hz
    exact absurd hk (by omega)
  | succ k ih =>
    intro n M1 b4 b5 b6 b7 hk hi hc hO hw hz
    refine mx_iload_n (pc' := 201) dX8_findsWay_200 rfl rfl ?_
    refine mx_iload_n (pc' := 202) dX8_findsWay_201 rfl rfl ?_
    refine mx_icmp_gt (tgt := 288) (pc' := 205) dX8_findsWay_202 (by decide) rfl (fun c202 => ?_) (fun c202 => ?_)
    · have c202 := (nI_ltI (by omega) (by omega)).mp c202
      obtain rfl : n = T := by omega
      refine mx_iload_n (pc' := 289) dX8_findsWay_288 rfl rfl ?_
      refine mx_bipush (pc' := 291) (v := nI 100) dX8_findsWay_289 (by decide) rfl ?_
      refine mx_icmp_ge (tgt := 298) (pc' := 294) dX8_findsWay_291 (by decide) rfl (fun c291 => ?_) (fun c291 => ?_)
      · have c291 := (nI_leI (by omega) (by omega)).mp c291
        exact absurd c291 (by omega)
      · refine mx_iload_n (pc' := 295) dX8_findsWay_294 rfl rfl ?_
        refine mx_goto (pc' := 300) dX8_findsWay_295 (by decide) ?_
        refine mx_iret dX8_findsWay_300 (Or.inl rfl) ?_
        exact ⟨rfl, hO, hw⟩
    · have c202 := Nat.not_lt.mp (fun z => c202 ((nI_ltI (by omega) (by omega)).mpr z))
      have hpl : cway g p T n < 10 := cway_lt hp n
      have hZn : ZA M1 g T n := fun c hc => by rw [hO 152 (by decide)]; exact hZ0 n (by omega) c hc
      have hZs : ZA M1 g T (n + 1) := fun c hc => by rw [hO 152 (by decide)]; exact hZ0 (n + 1) (by omega) c hc
      have ef : zrow g T n (cway g p T n) = faF (zrow g T (n + 1)) (cway g p T n) := by
        rw [zrow_f (by omega : n < T)]
        by_cases h1 : 0 < n ∧ ¬ (g n).testBit (cway g p T n) = true
        · rw [zrow_f (by omega : n < T), if_pos h1] at hz; exact absurd hz (by decide)
        · rw [if_neg h1]
      have em : mcap (zrow g T n (cway g p T n)) = faF (zrow g T (n + 1)) (cway g p T n) := by
        rw [← ef]; exact if_pos hz
      obtain ⟨w1, w2, w3, w4⟩ := cb_w (R := zrow g T (n + 1)) (B := 30) (by decide) (zrow_le g T _) (fun m hm => zrow_b hT1 hT (by omega) hm) hpl (by rw [← ef]; exact hz)
      have ec : cway g p T (n + 1) = cbN (zrow g T (n + 1)) (cway g p T n) := by
        show cbN (crow g T (n + 1)) _ = _
        rw [show zrow g T (n + 1) = crow g T (n + 1) from if_neg (by omega)]
      rw [← ec] at w1 w2 w3 w4
      have k1 := nbL_lt (zrow g T (n + 1)) (cway g p T n)
      have k2 := mcap_lt (zrow g T (n + 1) (cway g p T n))
      have k3 := faF_le (zrow g T (n + 1)) (cway g p T n)
      refine mx_iload_n (pc' := 206) dX8_findsWay_205 rfl rfl ?_
      refine mx_bipush (pc' := 208) (v := nI 100) dX8_findsWay_206 (by decide) rfl ?_
      refine mx_icmp_ge (tgt := 288) (pc' := 211) dX8_findsWay_208 (by decide) rfl (fun c208 => ?_) (fun c208 => ?_)
      · have c208 := (nI_leI (by omega) (by omega)).mp c208
        exact absurd c208 (by omega)
      · refine mx_aload_n (pc' := 212) dX8_findsWay_211 rfl rfl ?_
        refine mx_getr (pc' := 215) dX8_findsWay_212 fl_X8_38 (rfl) (by rfl) rfl ?_
        refine mx_iload_n (pc' := 216) dX8_findsWay_215 rfl rfl ?_
        refine mx_iconst (pc' := 217) (v := nI 1) dX8_findsWay_216 (by decide) rfl ?_
        refine mx_isub (pc' := 218) (v := nI n) dX8_findsWay_217 (pk_sub (b := 1) (by omega)) rfl ?_
        refine mx_iald (pc' := 219) (v := nI (cway g p T n)) dX8_findsWay_218 (rfl) (rfl) (by omega) (hw n (Nat.le_refl n)) rfl ?_
        refine mx_istore (pc' := 221) (ls' := [_, _, _, _, _, _, _, _]) dX8_findsWay_219 (by decide) (hc) rfl rfl ?_
        refine mx_aload_n (pc' := 222) dX8_findsWay_221 rfl rfl ?_
        refine mx_iload_n (pc' := 223) dX8_findsWay_222 rfl rfl ?_
        refine mx_iconst (pc' := 224) (v := nI 1) dX8_findsWay_223 (by decide) rfl ?_
        refine mx_isub (pc' := 225) (v := nI n) dX8_findsWay_224 (pk_sub (b := 1) (by omega)) rfl ?_
        refine mx_iload (pc' := 227) dX8_findsWay_225 rfl rfl ?_
        refine mx_callV (pc' := 230) dX8_findsWay_227 cl_X8_166 (rfl) (t_X8_fewestAt M1 n (by omega) _ _ (FW.c hZn hpl)) rfl (by decide) rfl (Nat.le_of_ble_eq_true rfl) rfl (fun v N227 hv => ?_)
        obtain ⟨rfl, hv⟩ := hv
        rw [hv, em]
        refine mx_istore (pc' := 232) (ls' := [_, _, _, _, _, _, _, _]) dX8_findsWay_230 (by decide) (c1_t hc) rfl rfl ?_
        refine mx_aload_n (pc' := 233) dX8_findsWay_232 rfl rfl ?_
        refine mx_getr (pc' := 236) dX8_findsWay_233 fl_X8_38 (rfl) (by rfl) rfl ?_
        refine mx_iload_n (pc' := 237) dX8_findsWay_236 rfl rfl ?_
        refine mx_iconst (pc' := 238) (v := nI 1) dX8_findsWay_237 (by decide) rfl ?_
        refine mx_aload_n (pc' := 239) dX8_findsWay_238 rfl rfl ?_
        refine mx_iload_n (pc' := 240) dX8_findsWay_239 rfl rfl ?_
        refine mx_iload (pc' := 242) dX8_findsWay_240 rfl rfl ?_
        refine mx_iconst (pc' := 243) (v := nI 1) dX8_findsWay_242 (by decide) rfl ?_
        refine mx_isub (pc' := 244) dX8_findsWay_243 (rfl) rfl ?_
        refine mx_callV (pc' := 247) dX8_findsWay_244 cl_X8_166 (rfl) (t_X8_fewestAt M1 (n + 1) (by omega) _ _ (FW.l hZs hpl)) rfl (by decide) rfl (Nat.le_of_ble_eq_true rfl) rfl (fun v N244 hv => ?_)
        obtain ⟨rfl, hv⟩ := hv
        rw [hv]
        refine mx_iadd (pc' := 248) (v := nI (nbL (zrow g T (n + 1)) (cway g p T n) + 1)) dX8_findsWay_247 (by rw [Nat.add_comm (nbL (zrow g T (n + 1)) (cway g p T n)) 1]; exact nI_add 1 _) rfl ?_
        refine mx_iload (pc' := 250) dX8_findsWay_248 rfl rfl ?_
        refine mx_icmp_ne (tgt := 260) (pc' := 253) dX8_findsWay_250 (by decide) rfl (fun c250 => ?_) (fun c250 => ?_)
        · have c250 : ¬ _ := fun z => c250 ((nI_eq (by omega) (by omega)).mpr z)
          refine mx_aload_n (pc' := 261) dX8_findsWay_260 rfl rfl ?_
          refine mx_iload_n (pc' := 262) dX8_findsWay_261 rfl rfl ?_
          refine mx_iload (pc' := 264) dX8_findsWay_262 rfl rfl ?_
          refine mx_callV (pc' := 267) dX8_findsWay_264 cl_X8_166 (rfl) (t_X8_fewestAt M1 (n + 1) (by omega) _ _ (FW.c hZs hpl)) rfl (by decide) rfl (Nat.le_of_ble_eq_true rfl) rfl (fun v N264 hv => ?_)
          obtain ⟨rfl, hv⟩ := hv
          rw [hv]
          refine mx_iload (pc' := 269) dX8_findsWay_267 rfl rfl ?_
          refine mx_icmp_ne (tgt := 277) (pc' := 272) dX8_findsWay_269 (by decide) rfl (fun c269 => ?_) (fun c269 => ?_)
          · have c269 : ¬ _ := fun z => c269 ((nI_eq (by omega) (by omega)).mpr z)
            refine mx_iload (pc' := 279) dX8_findsWay_277 rfl rfl ?_
            refine mx_iconst (pc' := 280) (v := nI 1) dX8_findsWay_279 (by decide) rfl ?_
            refine mx_iadd (pc' := 281) (v := nI (cway g p T n + 1)) dX8_findsWay_280 (nI_add _ 1) rfl ?_
            have ew : cway g p T n + 1 = cway g p T (n + 1) := (w3 (by omega) (by omega)).symm
            refine mx_iast (pc' := 282) dX8_findsWay_281 (rfl) (rfl) (by omega) rfl ?_
            refine mx_iinc (pc' := 285) (ls' := [_, _, _, _, _, _, _, _]) (v := nI (n + 1 + 1)) dX8_findsWay_282 rfl (nI_add (n + 1) 1) (by decide) (c1_t (c1_t hc)) rfl rfl ?_
            refine mx_goto (pc' := 200) dX8_findsWay_285 (by decide) ?_
            refine ih (n + 1) _ _ _ _ _ (by omega) (by omega) (c1_t (c1_t hc)) (fun q h => by rw [mx_up_ne h]; exact hO q h) (fun j hj => ?_) w4
            rw [mx_up_fn]
            by_cases ej : j = n + 1
            · subst ej; rw [upd_eq, ew]
            · rw [upd_ne _ _ ej]; exact hw j (by omega)
          · have c269 := (nI_eq (by omega) (by omega)).mp c269
            refine mx_iload (pc' := 274) dX8_findsWay_272 rfl rfl ?_
            refine mx_goto (pc' := 281) dX8_findsWay_274 (by decide) ?_
            have ew : cway g p T n = cway g p T (n + 1) := (w2 (by omega) (by omega)).symm
            refine mx_iast (pc' := 282) dX8_findsWay_281 (rfl) (rfl) (by omega) rfl ?_
            refine mx_iinc (pc' := 285) (ls' := [_, _, _, _, _, _, _, _]) (v := nI (n + 1 + 1)) dX8_findsWay_282 rfl (nI_add (n + 1) 1) (by decide) (c1_t (c1_t hc)) rfl rfl ?_
            refine mx_goto (pc' := 200) dX8_findsWay_285 (by decide) ?_
            refine ih (n + 1) _ _ _ _ _ (by omega) (by omega) (c1_t (c1_t hc)) (fun q h => by rw [mx_up_ne h]; exact hO q h) (fun j hj => ?_) w4
            rw [mx_up_fn]
            by_cases ej : j = n + 1
            · subst ej; rw [upd_eq, ew]
            · rw [upd_ne _ _ ej]; exact hw j (by omega)
        · have c250 := (nI_eq (by omega) (by omega)).mp c250
          refine mx_iload (pc' := 255) dX8_findsWay_253 rfl rfl ?_
          refine mx_iconst (pc' := 256) (v := nI 1) dX8_findsWay_255 (by decide) rfl ?_
          refine mx_isub (pc' := 257) (v := nI (cway g p T n - 1)) dX8_findsWay_256 (pk_sub (b := 1) (w1 (by omega)).1) rfl ?_
          refine mx_goto (pc' := 281) dX8_findsWay_257 (by decide) ?_
          have ew : cway g p T n - 1 = cway g p T (n + 1) := (w1 (by omega)).2.symm
          refine mx_iast (pc' := 282) dX8_findsWay_281 (rfl) (rfl) (by omega) rfl ?_
          refine mx_iinc (pc' := 285) (ls' := [_, _, _, _, _, _, _, _]) (v := nI (n + 1 + 1)) dX8_findsWay_282 rfl (nI_add (n + 1) 1) (by decide) (c1_t (c1_t hc)) rfl rfl ?_
          refine mx_goto (pc' := 200) dX8_findsWay_285 (by decide) ?_
          refine ih (n + 1) _ _ _ _ _ (by omega) (by omega) (c1_t (c1_t hc)) (fun q h => by rw [mx_up_ne h]; exact hO q h) (fun j hj => ?_) w4
          rw [mx_up_fn]
          by_cases ej : j = n + 1
          · subst ej; rw [upd_eq, ew]
          · rw [upd_ne _ _ ej]; exact hw j (by omega)

