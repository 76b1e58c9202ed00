/-! the law's loop -/
set_option maxHeartbeats 2000000 in
set_option maxRecDepth 10000 in
theorem l_law326 {p : Program} {l : Launch} {e : Env} {s : State} {m : MethodId} {below : List Frame} {meth : Method} {c : Code} {b L : Nat} {xs : Nat → Int32} {D : va_G} {ad : Nat → Nat} {cy : Nat → ClassId} {Z : State → Prop} (hX0 : lx_C p s m c b L xs D ad cy) (hL260 : L ≤ 260) (n : Nat) (hn : n < 52) (kx : ∀ (t : Nat) (S : FS) (Y : Sy) (z6 z7 z8 z10 z11 z12 : Option Value) (M1 : mx_M), t ≤ 60 * n + 60 → LI t S Y → CoA M1 Y → lx_V p l e s m below meth c b D ad cy Z M1 62 [some (.ref 143), some (.ref 0), some (.int (nI 1)), some (.long (lkV S)), none, some (.int (nI (n + 1))), z6, z7, z8, none, z10, z11, z12] []) (t : Nat) (ht : t ≤ 60 * n + 60) (S : FS) (Y : Sy) (hLI : LI t S Y) (z6 z7 z8 z10 : Option Value) (w11 : Int32) (z12 : Option Value) {M1 : mx_M} (hC : CoA M1 Y) : lx_V p l e s m below meth c b D ad cy Z M1 326 [some (.ref 143), some (.ref 0), some (.int (nI 1)), some (.long (lkV S)), none, some (.int (nI n)), z6, z7, z8, none, z10, some (.int (w11)), z12] [] := by
  refine lx_iload_n hX0 (pc' := 327) dL_law_326 rfl rfl ?_
  refine lx_if_eq hX0 (tgt := 375) (pc' := 330) dL_law_327 (by decide) rfl (fun c327 => ?_) (fun c327 => ?_)
  · first | exact absurd c327 (by (simp (disch := omega) only [Int32.lt_iff_toInt_lt, Int32.le_iff_toInt_le, ← Int32.toInt_inj, ne_eq, not_true_eq_false, not_false_eq_true, nI_t, z_t, m1_t, m2_t, m3_t, m4_t, m9_t]) <;> omega) | exact absurd rfl c327
  · refine lx_iload hX0 (pc' := 332) dL_law_330 rfl rfl ?_
    refine lx_bipush hX0 (pc' := 334) (v := nI 11) dL_law_332 (by decide) rfl ?_
    refine lx_irem hX0 (pc' := 335) (v := nI (n % 11)) dL_law_334 (by decide) (pk_rem (by omega) (by omega) (by omega)) rfl ?_
    refine lx_bipush hX0 (pc' := 337) (v := nI 10) dL_law_335 (by decide) rfl ?_
    refine lx_icmp_ne hX0 (tgt := 375) (pc' := 340) dL_law_337 (by decide) rfl (fun c337 => ?_) (fun c337 => ?_)
    · 
      refine lx_xiinc hX0 (pc' := 378) (ls' := [_, _, _, _, _, _, _, _, _, _, _, _, _]) (v := nI (n + 1)) dL_law_375 rfl (nI_add n 1) (by decide) (rfl) rfl rfl ?_
      refine lx_goto hX0 (pc' := 62) dL_law_378 (by decide) ?_
      exact kx _ _ Y _ _ _ _ _ _ _ ht hLI hC
    · 
      have hH4 := hC.h4
      by_cases hH : Y.2.1.length ≠ 0
      · refine lx_aload_n hX0 (pc' := 341) dL_law_340 rfl rfl ?_
        refine lx_bipush hX0 (pc' := 343) (v := nI 18) dL_law_341 (by decide) rfl ?_
        refine lx_callV hX0 (pc' := 346) dL_law_343 cl_L_13 (rfl) (t_c18 _ (Y) hC) rfl (by decide) rfl (Nat.le_of_ble_eq_true rfl) rfl (fun v N343 hv => ?_)
        obtain ⟨rfl, hC, -⟩ := hv
        refine lx_xistore hX0 (pc' := 348) (ls' := [_, _, _, _, _, _, _, _, _, _, _, _, _]) dL_law_346 (by decide) rfl rfl rfl ?_
        refine lx_aload_n hX0 (pc' := 349) dL_law_348 rfl rfl ?_
        refine lx_callV hX0 (pc' := 352) dL_law_349 cl_L_125 (rfl) (t_undo1 _ Y hC hH) rfl (by decide) rfl (Nat.le_of_ble_eq_true rfl) rfl (fun v N349 hv => ?_)
        obtain ⟨rfl, G, hG, hC⟩ := hv
        have hH4 := hLI
        refine lx_iload hX0 (pc' := 354) dL_law_352 rfl rfl ?_
        refine lx_if_ne hX0 (tgt := 362) (pc' := 357) dL_law_354 (by decide) rfl (fun c354 => ?_) (fun c354 => ?_)
        · 
          refine lx_iload hX0 (pc' := 364) dL_law_362 rfl rfl ?_
          refine lx_iconst hX0 (pc' := 365) (v := nI 1) dL_law_364 (by decide) rfl ?_
          refine lx_isub hX0 (pc' := 366) (v := nI (Y.2.1.length - 1)) dL_law_365 (pk_sub (by omega)) rfl ?_
          refine lx_icmp_ne hX0 (tgt := 373) (pc' := 369) dL_law_366 (by decide) rfl (fun c366 => ?_) (fun c366 => ?_)
          · first | exact absurd c366 (by (simp (disch := omega) only [Int32.lt_iff_toInt_lt, Int32.le_iff_toInt_le, ← Int32.toInt_inj, ne_eq, not_true_eq_false, not_false_eq_true, nI_t, z_t, m1_t, m2_t, m3_t, m4_t, m9_t]) <;> omega) | exact absurd rfl c366
          · refine lx_iconst hX0 (pc' := 370) (v := nI 1) dL_law_369 (by decide) rfl ?_
            refine lx_goto hX0 (pc' := 374) dL_law_370 (by decide) ?_
            refine lx_xistore_n hX0 (pc' := 375) (ls' := [_, _, _, _, _, _, _, _, _, _, _, _, _]) dL_law_374 (by decide) rfl rfl rfl ?_
            refine lx_xiinc hX0 (pc' := 378) (ls' := [_, _, _, _, _, _, _, _, _, _, _, _, _]) (v := nI (n + 1)) dL_law_375 rfl (nI_add n 1) (by decide) (rfl) rfl rfl ?_
            refine lx_goto hX0 (pc' := 62) dL_law_378 (by decide) ?_
            exact kx _ _ (G, Y.2.1.dropLast, Y.2.2.1, Y.2.2.2) _ _ _ _ _ _ _ ht ⟨(hLI.2.2.1 G hG).1, (hLI.2.2.1 G hG).2, fun F hF => hLI.2.2.1 F ((List.dropLast_sublist _).subset hF), hLI.2.2.2.1, hLI.2.2.2.2⟩ hC
        · exfalso
          first | exact c354 rfl | (revert c354; decide) | ((simp (disch := omega) only [Int32.lt_iff_toInt_lt, Int32.le_iff_toInt_le, ← Int32.toInt_inj, ne_eq, not_true_eq_false, not_false_eq_true, nI_t, z_t, m1_t, m2_t, m3_t, m4_t, m9_t] at c354) <;> omega)
      have hH : Y.2.1 = [] := List.eq_nil_of_length_eq_zero (by omega)
      refine lx_aload_n hX0 (pc' := 341) dL_law_340 rfl rfl ?_
      refine lx_bipush hX0 (pc' := 343) (v := nI 18) dL_law_341 (by decide) rfl ?_
      refine lx_callV hX0 (pc' := 346) dL_law_343 cl_L_13 (rfl) (t_c18 _ (Y) hC) rfl (by decide) rfl (Nat.le_of_ble_eq_true rfl) rfl (fun v N343 hv => ?_)
      obtain ⟨rfl, hC, -⟩ := hv
      refine lx_xistore hX0 (pc' := 348) (ls' := [_, _, _, _, _, _, _, _, _, _, _, _, _]) dL_law_346 (by decide) rfl rfl rfl ?_
      refine lx_aload_n hX0 (pc' := 349) dL_law_348 rfl rfl ?_
      refine lx_callV hX0 (pc' := 352) dL_law_349 cl_L_125 (rfl) (t_undo0 _ Y hC hH) rfl (by decide) rfl (Nat.le_of_ble_eq_true rfl) rfl (fun v N349 hv => ?_)
      obtain ⟨rfl, hC, -⟩ := hv
      have hH0 : Y.2.1.length = 0 := by rw [hH]; rfl
      refine lx_iload hX0 (pc' := 354) dL_law_352 rfl rfl ?_
      refine lx_if_ne hX0 (tgt := 362) (pc' := 357) dL_law_354 (by decide) rfl (fun c354 => ?_) (fun c354 => ?_)
      · exfalso
        first | exact c354 rfl | (revert c354; decide) | ((simp (disch := omega) only [Int32.lt_iff_toInt_lt, Int32.le_iff_toInt_le, ← Int32.toInt_inj, ne_eq, not_true_eq_false, not_false_eq_true, nI_t, z_t, m1_t, m2_t, m3_t, m4_t, m9_t] at c354) <;> omega)
      · 
        refine lx_bipush hX0 (pc' := 359) (v := (-2)) dL_law_357 (by decide) rfl ?_
        refine lx_goto hX0 (pc' := 366) dL_law_359 (by decide) ?_
        refine lx_icmp_ne hX0 (tgt := 373) (pc' := 369) dL_law_366 (by decide) rfl (fun c366 => ?_) (fun c366 => ?_)
        · first | exact absurd c366 (by (simp (disch := omega) only [Int32.lt_iff_toInt_lt, Int32.le_iff_toInt_le, ← Int32.toInt_inj, ne_eq, not_true_eq_false, not_false_eq_true, nI_t, z_t, m1_t, m2_t, m3_t, m4_t, m9_t]) <;> omega) | exact absurd rfl c366
        · refine lx_iconst hX0 (pc' := 370) (v := nI 1) dL_law_369 (by decide) rfl ?_
          refine lx_goto hX0 (pc' := 374) dL_law_370 (by decide) ?_
          refine lx_xistore_n hX0 (pc' := 375) (ls' := [_, _, _, _, _, _, _, _, _, _, _, _, _]) dL_law_374 (by decide) rfl rfl rfl ?_
          refine lx_xiinc hX0 (pc' := 378) (ls' := [_, _, _, _, _, _, _, _, _, _, _, _, _]) (v := nI (n + 1)) dL_law_375 rfl (nI_add n 1) (by decide) (rfl) rfl rfl ?_
          refine lx_goto hX0 (pc' := 62) dL_law_378 (by decide) ?_
          exact kx _ _ Y _ _ _ _ _ _ _ ht hLI hC

set_option maxHeartbeats 2000000 in
set_option maxRecDepth 10000 in
theorem l_law257 {p : Program} {l : Launch} {e : Env} {s : State} {m : MethodId} {below : List Frame} {meth : Method} {c : Code} {b L : Nat} {xs : Nat → Int32} {D : va_G} {ad : Nat → Nat} {cy : Nat → ClassId} {Z : State → Prop} (hX0 : lx_C p s m c b L xs D ad cy) (hL260 : L ≤ 260) (n : Nat) (hn : n < 52) (kx : ∀ (t : Nat) (S : FS) (Y : Sy) (z6 z7 z8 z10 z11 z12 : Option Value) (M1 : mx_M), t ≤ 60 * n + 60 → LI t S Y → CoA M1 Y → lx_V p l e s m below meth c b D ad cy Z M1 62 [some (.ref 143), some (.ref 0), some (.int (nI 1)), some (.long (lkV S)), none, some (.int (nI (n + 1))), z6, z7, z8, none, z10, z11, z12] []) (t : Nat) (ht : t ≤ 60 * n + 60) (S : FS) (Y : Sy) (hLI : LI t S Y) (z6 z7 z8 z10 : Option Value) (w11 : Int32) (z12 : Option Value) {M1 : mx_M} (hC : CoA M1 Y) : lx_V p l e s m below meth c b D ad cy Z M1 257 [some (.ref 143), some (.ref 0), some (.int (nI 1)), some (.long (lkV S)), none, some (.int (nI n)), z6, z7, z8, none, z10, some (.int (w11)), z12] [] := by
  refine lx_iload_n hX0 (pc' := 258) dL_law_257 rfl rfl ?_
  refine lx_if_eq hX0 (tgt := 326) (pc' := 261) dL_law_258 (by decide) rfl (fun c258 => ?_) (fun c258 => ?_)
  · first | exact absurd c258 (by (simp (disch := omega) only [Int32.lt_iff_toInt_lt, Int32.le_iff_toInt_le, ← Int32.toInt_inj, ne_eq, not_true_eq_false, not_false_eq_true, nI_t, z_t, m1_t, m2_t, m3_t, m4_t, m9_t]) <;> omega) | exact absurd rfl c258
  · refine lx_iload hX0 (pc' := 263) dL_law_261 rfl rfl ?_
    refine lx_bipush hX0 (pc' := 265) (v := nI 15) dL_law_263 (by decide) rfl ?_
    refine lx_irem hX0 (pc' := 266) (v := nI (n % 15)) dL_law_265 (by decide) (pk_rem (by omega) (by omega) (by omega)) rfl ?_
    refine lx_bipush hX0 (pc' := 268) (v := nI 14) dL_law_266 (by decide) rfl ?_
    refine lx_icmp_ne hX0 (tgt := 326) (pc' := 271) dL_law_268 (by decide) rfl (fun c268 => ?_) (fun c268 => ?_)
    · 
      exact l_law326 hX0 hL260 n hn kx t ht S Y hLI _ _ _ _ _ _ hC
    · 
      refine lx_aload_n hX0 (pc' := 272) dL_law_271 rfl rfl ?_
      refine lx_callV hX0 (pc' := 275) dL_law_272 cl_L_128 (rfl) (t_rest1 _ Y hC hLI.2.2.2.1) rfl (by decide) rfl (Nat.le_of_ble_eq_true rfl) rfl (fun v N272 hv => ?_)
      obtain ⟨rfl, hC, -⟩ := hv
      refine lx_xistore hX0 (pc' := 277) (ls' := [_, _, _, _, _, _, _, _, _, _, _, _, _]) dL_law_275 (by decide) rfl rfl rfl ?_
      refine lx_iload hX0 (pc' := 279) dL_law_277 rfl rfl ?_
      refine lx_aload_n hX0 (pc' := 280) dL_law_279 rfl rfl ?_
      refine lx_iconst hX0 (pc' := 281) (v := nI 5) dL_law_280 (by decide) rfl ?_
      refine lx_callV hX0 (pc' := 284) dL_law_281 cl_L_13 (rfl) (t_c5 _ (S, hPush Y.1 Y.2.1, some S, Y.2.2.2) hC) rfl (by decide) rfl (Nat.le_of_ble_eq_true rfl) rfl (fun v N281 hv => ?_)
      obtain ⟨rfl, hC, -⟩ := hv
      refine lx_icmp_ne hX0 (tgt := 319) (pc' := 287) dL_law_284 (by decide) rfl (fun c284 => ?_) (fun c284 => ?_)
      · exact absurd rfl c284
      · refine lx_aload_n hX0 (pc' := 288) dL_law_287 rfl rfl ?_
        refine lx_callS hX0 (pc' := 291) dL_law_288 cl_L_82 (t_L_look _ (S, hPush Y.1 Y.2.1, some S, Y.2.2.2) hC (show S.2.2.1 3 + 100 < 2147483648 by have := hLI.2.2.2.2.2; omega)) rfl (by decide) rfl (Nat.le_of_ble_eq_true rfl) rfl (fun v N288 hv => ?_)
        obtain ⟨rfl, hC⟩ := hv
        refine lx_lload_n hX0 (pc' := 292) dL_law_291 rfl rfl ?_
        refine lx_lcmp hX0 (pc' := 293) dL_law_292 rfl ?_
        refine lx_if_ne hX0 (tgt := 319) (pc' := 296) dL_law_293 (by decide) rfl (fun c293 => ?_) (fun c293 => ?_)
        · first | exact absurd c293 (by (simp (disch := omega) only [Int32.lt_iff_toInt_lt, Int32.le_iff_toInt_le, ← Int32.toInt_inj, ne_eq, not_true_eq_false, not_false_eq_true, nI_t, z_t, m1_t, m2_t, m3_t, m4_t, m9_t]) <;> omega) | exact absurd rfl c293
        · refine lx_aload_n hX0 (pc' := 297) dL_law_296 rfl rfl ?_
          refine lx_callV hX0 (pc' := 300) dL_law_297 cl_L_125 (rfl) (t_undoP _ (S, hPush Y.1 Y.2.1, some S, Y.2.2.2) hC rfl) rfl (by decide) rfl (Nat.le_of_ble_eq_true rfl) rfl (fun v N297 hv => ?_)
          obtain ⟨rfl, hC, -⟩ := hv
          have hb4 : (hBase Y.2.1).length ≤ 4 := hC.h4
          refine lx_if_lt hX0 (tgt := 319) (pc' := 303) dL_law_300 (by decide) rfl (fun c300 => ?_) (fun c300 => ?_)
          · first | exact absurd c300 (by (simp (disch := omega) only [Int32.lt_iff_toInt_lt, Int32.le_iff_toInt_le, ← Int32.toInt_inj, ne_eq, not_true_eq_false, not_false_eq_true, nI_t, z_t, m1_t, m2_t, m3_t, m4_t, m9_t]) <;> omega) | exact absurd rfl c300
          · refine lx_aload_n hX0 (pc' := 304) dL_law_303 rfl rfl ?_
            refine lx_callV hX0 (pc' := 307) dL_law_304 cl_L_131 (rfl) (t_sav _ (Y.1, hBase Y.2.1, some S, Y.2.2.2) hC) rfl (by decide) rfl (Nat.le_of_ble_eq_true rfl) rfl (fun v N304 hv => ?_)
            obtain ⟨rfl, hC, -⟩ := hv
            refine lx_aload_n hX0 (pc' := 308) dL_law_307 rfl rfl ?_
            refine lx_iconst hX0 (pc' := 309) (v := nI 5) dL_law_308 (by decide) rfl ?_
            refine lx_callV hX0 (pc' := 312) dL_law_309 cl_L_13 (rfl) (t_c5 _ (Y.1, hBase Y.2.1, some Y.1, Y.2.2.2) hC) rfl (by decide) rfl (Nat.le_of_ble_eq_true rfl) rfl (fun v N309 hv => ?_)
            obtain ⟨rfl, hC, -⟩ := hv
            refine lx_icmp_ne hX0 (tgt := 319) (pc' := 315) dL_law_312 (by decide) rfl (fun c312 => ?_) (fun c312 => ?_)
            · exact absurd rfl c312
            · refine lx_iconst hX0 (pc' := 316) (v := nI 1) dL_law_315 (by decide) rfl ?_
              refine lx_goto hX0 (pc' := 320) dL_law_316 (by decide) ?_
              refine lx_xistore_n hX0 (pc' := 321) (ls' := [_, _, _, _, _, _, _, _, _, _, _, _, _]) dL_law_320 (by decide) rfl rfl rfl ?_
              refine lx_aload_n hX0 (pc' := 322) dL_law_321 rfl rfl ?_
              refine lx_callS hX0 (pc' := 325) dL_law_322 cl_L_82 (t_L_look _ (Y.1, hBase Y.2.1, some Y.1, Y.2.2.2) hC (show Y.1.2.2.1 3 + 100 < 2147483648 by have := hLI.2.1; omega)) rfl (by decide) rfl (Nat.le_of_ble_eq_true rfl) rfl (fun v N322 hv => ?_)
              obtain ⟨rfl, hC⟩ := hv
              refine lx_lstore_n hX0 (pc' := 326) (ls' := [_, _, _, _, _, _, _, _, _, _, _, _, _]) dL_law_325 (by decide) rfl rfl rfl ?_
              exact l_law326 hX0 hL260 n hn kx t ht Y.1 (Y.1, hBase Y.2.1, some Y.1, Y.2.2.2) ⟨hLI.1, hLI.2.1, fun F hF => hLI.2.2.1 F (mem_hBase hF), rfl, hLI.1, hLI.2.1⟩ _ _ _ _ _ _ hC

set_option maxHeartbeats 2000000 in
set_option maxRecDepth 10000 in
theorem l_law157 {p : Program} {l : Launch} {e : Env} {s : State} {m : MethodId} {below : List Frame} {meth : Method} {c : Code} {b L : Nat} {xs : Nat → Int32} {D : va_G} {ad : Nat → Nat} {cy : Nat → ClassId} {Z : State → Prop} (hX0 : lx_C p s m c b L xs D ad cy) (hL260 : L ≤ 260) (n : Nat) (hn : n < 52) (kx : ∀ (t : Nat) (S : FS) (Y : Sy) (z6 z7 z8 z10 z11 z12 : Option Value) (M1 : mx_M), t ≤ 60 * n + 60 → LI t S Y → CoA M1 Y → lx_V p l e s m below meth c b D ad cy Z M1 62 [some (.ref 143), some (.ref 0), some (.int (nI 1)), some (.long (lkV S)), none, some (.int (nI (n + 1))), z6, z7, z8, none, z10, z11, z12] []) (t : Nat) (ht : t ≤ 60 * n) (S : FS) (Y Y1 : Sy) (hLI : LI t S Y) (hT : Tr Y Y1) (x y : Int32) (z11 z12 : Option Value) {M1 : mx_M} (hH4 : Y.2.1.length ≤ 4) (hC : CoA M1 Y1) : lx_V p l e s m below meth c b D ad cy Z M1 157 [some (.ref 143), some (.ref 0), some (.int (nI 1)), some (.long (lkV S)), none, some (.int (nI n)), some (.int (x)), some (.int (y)), some (.long (lkV Y.1)), none, some (.int (nI Y.2.1.length)), z11, z12] [] := by
  have hLI1 := hLI.tr hT
  have hN := fun (_ : Unit) => tr_now hH4 hT
  have hH5 := hC.h4
  have k206 : ∀ {M1}, CoA M1 Y1 → lx_V p l e s m below meth c b D ad cy Z M1 206 [some (.ref 143), some (.ref 0), some (.int (nI 1)), some (.long (lkV S)), none, some (.int (nI n)), some (.int (x)), some (.int (y)), some (.long (lkV Y.1)), none, some (.int (nI Y.2.1.length)), some (.int (nI Y1.2.1.length)), z12] [.int (nI 1)] := by
    intro M1 hC
    refine lx_xistore_n hX0 (pc' := 207) (ls' := [_, _, _, _, _, _, _, _, _, _, _, _, _]) dL_law_206 (by decide) rfl rfl rfl ?_
    refine lx_iload_n hX0 (pc' := 208) dL_law_207 rfl rfl ?_
    refine lx_if_eq hX0 (tgt := 257) (pc' := 211) dL_law_208 (by decide) rfl (fun c208 => ?_) (fun c208 => ?_)
    · first | exact absurd c208 (by (simp (disch := omega) only [Int32.lt_iff_toInt_lt, Int32.le_iff_toInt_le, ← Int32.toInt_inj, ne_eq, not_true_eq_false, not_false_eq_true, nI_t, z_t, m1_t, m2_t, m3_t, m4_t, m9_t]) <;> omega) | exact absurd rfl c208
    · refine lx_iload hX0 (pc' := 213) dL_law_211 rfl rfl ?_
      refine lx_iload hX0 (pc' := 215) dL_law_213 rfl rfl ?_
      refine lx_iconst hX0 (pc' := 216) (v := nI 1) dL_law_215 (by decide) rfl ?_
      refine lx_iadd hX0 (pc' := 217) (v := nI (Y.2.1.length + 1)) dL_law_216 (nI_add _ 1) rfl ?_
      refine lx_icmp_ne hX0 (tgt := 257) (pc' := 220) dL_law_217 (by decide) rfl (fun c217 => ?_) (fun c217 => ?_)
      · 
        exact l_law257 hX0 hL260 n hn kx (t + 60) (by omega) S Y1 hLI1 _ _ _ _ _ _ hC
      · try (simp (disch := omega) only [Int32.lt_iff_toInt_lt, Int32.le_iff_toInt_le, ← Int32.toInt_inj, ne_eq, nI_t, z_t, m1_t, m2_t, m3_t, m4_t, m9_t] at c217)
        have hP : Y1.2.1 = hPush Y.1 Y.2.1 ∧ Y.2.1.length ≠ 4 := by
          rcases hN () with ⟨q1, -⟩ | ⟨q1, q2, q3⟩
          · omega
          · exact ⟨q3, q2⟩
        have hBs : hBase Y.2.1 = Y.2.1 := if_neg hP.2
        refine lx_iload hX0 (pc' := 222) dL_law_220 rfl rfl ?_
        refine lx_bipush hX0 (pc' := 224) (v := nI 8) dL_law_222 (by decide) rfl ?_
        refine lx_ishr hX0 (pc' := 225) dL_law_224 (rfl) rfl ?_
        refine lx_iconst hX0 (pc' := 226) (v := nI 3) dL_law_225 (by decide) rfl ?_
        refine lx_callS hX0 (pc' := 229) dL_law_226 cl_L_34 (t_L_low _ _ _ ⟨by omega, by omega⟩) rfl (by decide) rfl (Nat.le_of_ble_eq_true rfl) rfl (fun v N226 hv => ?_)
        obtain ⟨j226, hj226, rfl, rfl⟩ := hv
        refine lx_if_ne hX0 (tgt := 257) (pc' := 232) dL_law_229 (by decide) rfl (fun c229 => ?_) (fun c229 => ?_)
        · 
          exact l_law257 hX0 hL260 n hn kx (t + 60) (by omega) S Y1 hLI1 _ _ _ _ _ _ hC
        · 
          refine lx_aload_n hX0 (pc' := 233) dL_law_232 rfl rfl ?_
          refine lx_callV hX0 (pc' := 236) dL_law_233 cl_L_125 (rfl) (t_undoP _ Y1 hC hP.1) rfl (by decide) rfl (Nat.le_of_ble_eq_true rfl) rfl (fun v N233 hv => ?_)
          obtain ⟨rfl, hC, -⟩ := hv
          rw [hBs] at hC ⊢
          refine lx_iload hX0 (pc' := 238) dL_law_236 rfl rfl ?_
          refine lx_icmp_ne hX0 (tgt := 255) (pc' := 241) dL_law_238 (by decide) rfl (fun c238 => ?_) (fun c238 => ?_)
          · first | exact absurd c238 (by (simp (disch := omega) only [Int32.lt_iff_toInt_lt, Int32.le_iff_toInt_le, ← Int32.toInt_inj, ne_eq, not_true_eq_false, not_false_eq_true, nI_t, z_t, m1_t, m2_t, m3_t, m4_t, m9_t]) <;> omega) | exact absurd rfl c238
          · refine lx_aload_n hX0 (pc' := 242) dL_law_241 rfl rfl ?_
            refine lx_callS hX0 (pc' := 245) dL_law_242 cl_L_82 (t_L_look _ (Y.1, Y.2.1, Y1.2.2.1, Y1.2.2.2) hC (show Y.1.2.2.1 3 + 100 < 2147483648 by have := hLI.2.1; omega)) rfl (by decide) rfl (Nat.le_of_ble_eq_true rfl) rfl (fun v N242 hv => ?_)
            obtain ⟨rfl, hC⟩ := hv
            refine lx_lload hX0 (pc' := 247) dL_law_245 rfl rfl ?_
            refine lx_lcmp hX0 (pc' := 248) dL_law_247 rfl ?_
            refine lx_if_ne hX0 (tgt := 255) (pc' := 251) dL_law_248 (by decide) rfl (fun c248 => ?_) (fun c248 => ?_)
            · first | exact absurd c248 (by (simp (disch := omega) only [Int32.lt_iff_toInt_lt, Int32.le_iff_toInt_le, ← Int32.toInt_inj, ne_eq, not_true_eq_false, not_false_eq_true, nI_t, z_t, m1_t, m2_t, m3_t, m4_t, m9_t]) <;> omega) | exact absurd rfl c248
            · refine lx_iconst hX0 (pc' := 252) (v := nI 1) dL_law_251 (by decide) rfl ?_
              refine lx_goto hX0 (pc' := 256) dL_law_252 (by decide) ?_
              refine lx_xistore_n hX0 (pc' := 257) (ls' := [_, _, _, _, _, _, _, _, _, _, _, _, _]) dL_law_256 (by decide) rfl rfl rfl ?_
              exact l_law257 hX0 hL260 n hn kx (t + 60) (by omega) S (Y.1, Y.2.1, Y1.2.2.1, Y1.2.2.2) ⟨hLI.1, by have := hLI.2.1; show Y.1.2.2.1 3 ≤ _; omega, fun F hF => ⟨(hLI.2.2.1 F hF).1, by have := (hLI.2.2.1 F hF).2; omega⟩, hLI1.2.2.2.1, hLI1.2.2.2.2⟩ _ _ _ _ _ _ hC
  refine lx_aload_n hX0 (pc' := 158) dL_law_157 rfl rfl ?_
  refine lx_bipush hX0 (pc' := 160) (v := nI 18) dL_law_158 (by decide) rfl ?_
  refine lx_callV hX0 (pc' := 163) dL_law_160 cl_L_13 (rfl) (t_c18 _ (Y1) hC) rfl (by decide) rfl (Nat.le_of_ble_eq_true rfl) rfl (fun v N160 hv => ?_)
  obtain ⟨rfl, hC, -⟩ := hv
  refine lx_xistore hX0 (pc' := 165) (ls' := [_, _, _, _, _, _, _, _, _, _, _, _, _]) dL_law_163 (by decide) rfl rfl rfl ?_
  refine lx_iload_n hX0 (pc' := 166) dL_law_165 rfl rfl ?_
  refine lx_if_eq hX0 (tgt := 205) (pc' := 169) dL_law_166 (by decide) rfl (fun c166 => ?_) (fun c166 => ?_)
  · first | exact absurd c166 (by (simp (disch := omega) only [Int32.lt_iff_toInt_lt, Int32.le_iff_toInt_le, ← Int32.toInt_inj, ne_eq, not_true_eq_false, not_false_eq_true, nI_t, z_t, m1_t, m2_t, m3_t, m4_t, m9_t]) <;> omega) | exact absurd rfl c166
  · refine lx_iload hX0 (pc' := 171) dL_law_169 rfl rfl ?_
    refine lx_iload hX0 (pc' := 173) dL_law_171 rfl rfl ?_
    refine lx_icmp_ne hX0 (tgt := 192) (pc' := 176) dL_law_173 (by decide) rfl (fun c173 => ?_) (fun c173 => ?_)
    · try (simp (disch := omega) only [Int32.lt_iff_toInt_lt, Int32.le_iff_toInt_le, ← Int32.toInt_inj, ne_eq, nI_t, z_t, m1_t, m2_t, m3_t, m4_t, m9_t] at c173)
      have hN1 : Y1.2.1.length = Y.2.1.length + 1 := by
        rcases hN () with ⟨q1, -⟩ | ⟨q1, -⟩
        · omega
        · exact q1
      refine lx_iload hX0 (pc' := 194) dL_law_192 rfl rfl ?_
      refine lx_iload hX0 (pc' := 196) dL_law_194 rfl rfl ?_
      refine lx_iconst hX0 (pc' := 197) (v := nI 1) dL_law_196 (by decide) rfl ?_
      refine lx_iadd hX0 (pc' := 198) (v := nI (Y.2.1.length + 1)) dL_law_197 (nI_add _ 1) rfl ?_
      refine lx_icmp_ne hX0 (tgt := 205) (pc' := 201) dL_law_198 (by decide) rfl (fun c198 => ?_) (fun c198 => ?_)
      · first | exact absurd c198 (by (simp (disch := omega) only [Int32.lt_iff_toInt_lt, Int32.le_iff_toInt_le, ← Int32.toInt_inj, ne_eq, not_true_eq_false, not_false_eq_true, nI_t, z_t, m1_t, m2_t, m3_t, m4_t, m9_t]) <;> omega) | exact absurd rfl c198
      · refine lx_iconst hX0 (pc' := 202) (v := nI 1) dL_law_201 (by decide) rfl ?_
        refine lx_goto hX0 (pc' := 206) dL_law_202 (by decide) ?_
        exact k206 hC
    · try (simp (disch := omega) only [Int32.lt_iff_toInt_lt, Int32.le_iff_toInt_le, ← Int32.toInt_inj, ne_eq, nI_t, z_t, m1_t, m2_t, m3_t, m4_t, m9_t] at c173)
      refine lx_iload hX0 (pc' := 178) dL_law_176 rfl rfl ?_
      refine lx_iconst hX0 (pc' := 179) (v := nI 4) dL_law_178 (by decide) rfl ?_
      refine lx_icmp_eq hX0 (tgt := 201) (pc' := 182) dL_law_179 (by decide) rfl (fun c179 => ?_) (fun c179 => ?_)
      · try (simp (disch := omega) only [Int32.lt_iff_toInt_lt, Int32.le_iff_toInt_le, ← Int32.toInt_inj, ne_eq, nI_t, z_t, m1_t, m2_t, m3_t, m4_t, m9_t] at c179)
        refine lx_iconst hX0 (pc' := 202) (v := nI 1) dL_law_201 (by decide) rfl ?_
        refine lx_goto hX0 (pc' := 206) dL_law_202 (by decide) ?_
        exact k206 hC
      · try (simp (disch := omega) only [Int32.lt_iff_toInt_lt, Int32.le_iff_toInt_le, ← Int32.toInt_inj, ne_eq, nI_t, z_t, m1_t, m2_t, m3_t, m4_t, m9_t] at c179)
        have hE : Y1.1 = Y.1 := by
          rcases hN () with ⟨q1, q2 | q2⟩ | ⟨q1, q2, -⟩
          · omega
          · exact q2
          · omega
        rw [← hE]
        refine lx_aload_n hX0 (pc' := 183) dL_law_182 rfl rfl ?_
        refine lx_callS hX0 (pc' := 186) dL_law_183 cl_L_82 (t_L_look _ (Y1) hC (by have := hLI1.2.1; omega)) rfl (by decide) rfl (Nat.le_of_ble_eq_true rfl) rfl (fun v N183 hv => ?_)
        obtain ⟨rfl, hC⟩ := hv
        refine lx_lload hX0 (pc' := 188) dL_law_186 rfl rfl ?_
        refine lx_lcmp hX0 (pc' := 189) dL_law_188 rfl ?_
        refine lx_if_eq hX0 (tgt := 201) (pc' := 192) dL_law_189 (by decide) rfl (fun c189 => ?_) (fun c189 => ?_)
        · rw [hE]
          refine lx_iconst hX0 (pc' := 202) (v := nI 1) dL_law_201 (by decide) rfl ?_
          refine lx_goto hX0 (pc' := 206) dL_law_202 (by decide) ?_
          exact k206 hC
        · exact absurd rfl c189

set_option maxHeartbeats 2000000 in
set_option maxRecDepth 10000 in
theorem l_law62 {p : Program} {l : Launch} {e : Env} {s : State} {m : MethodId} {below : List Frame} {meth : Method} {c : Code} {b L : Nat} {xs : Nat → Int32} {D : va_G} {ad : Nat → Nat} {cy : Nat → ClassId} {Z : State → Prop} (hX0 : lx_C p s m c b L xs D ad cy) (hL260 : L ≤ 260) (kend : ∀ (M1 : mx_M) (Y : Sy) (ls : List (Option Value)), CoA M1 Y → lx_V p l e s m below meth c b D ad cy Z M1 397 ls [.int (nI 1)]) : ∀ (k n t : Nat) (S : FS) (Y : Sy) (z6 z7 z8 z10 z11 z12 : Option Value) (M1 : mx_M), 52 < n + k → n ≤ 52 → t ≤ 60 * n → LI t S Y → CoA M1 Y → lx_V p l e s m below meth c b D ad cy Z M1 62 [some (.ref 143), some (.ref 0), some (.int (nI 1)), some (.long (lkV S)), none, some (.int (nI n)), z6, z7, z8, none, z10, z11, z12] [] := by
  intro k
  induction k with
  | zero =>
    intro n t S Y z6 z7 z8 z10 z11 z12 M1 hk hn52 ht hLI hC
    exact absurd hk (by omega)
  | succ k ih =>
    intro n t S Y z6 z7 z8 z10 z11 z12 M1 hk hn52 ht hLI hC
    refine lx_iload hX0 (pc' := 64) dL_law_62 rfl rfl ?_
    refine lx_bipush hX0 (pc' := 66) (v := nI 52) dL_law_64 (by decide) rfl ?_
    refine lx_icmp_ge hX0 (tgt := 381) (pc' := 69) dL_law_66 (by decide) rfl (fun c66 => ?_) (fun c66 => ?_)
    · refine lx_iload_n hX0 (pc' := 382) dL_law_381 rfl rfl ?_
      refine lx_if_eq hX0 (tgt := 396) (pc' := 385) dL_law_382 (by decide) rfl (fun c382 => ?_) (fun c382 => ?_)
      · first | exact absurd c382 (by (simp (disch := omega) only [Int32.lt_iff_toInt_lt, Int32.le_iff_toInt_le, ← Int32.toInt_inj, ne_eq, not_true_eq_false, not_false_eq_true, nI_t, z_t, m1_t, m2_t, m3_t, m4_t, m9_t]) <;> omega) | exact absurd rfl c382
      · refine lx_aload_n hX0 (pc' := 386) dL_law_385 rfl rfl ?_
        refine lx_callS hX0 (pc' := 389) dL_law_386 cl_L_118 (t_L_holds _ (Y) hC (by have := hLI.2.1; omega) hLI.1) rfl (by decide) rfl (Nat.le_of_ble_eq_true rfl) rfl (fun v N386 hv => ?_)
        obtain ⟨rfl, hC⟩ := hv
        refine lx_if_eq hX0 (tgt := 396) (pc' := 392) dL_law_389 (by decide) rfl (fun c389 => ?_) (fun c389 => ?_)
        · first | exact absurd c389 (by (simp (disch := omega) only [Int32.lt_iff_toInt_lt, Int32.le_iff_toInt_le, ← Int32.toInt_inj, ne_eq, not_true_eq_false, not_false_eq_true, nI_t, z_t, m1_t, m2_t, m3_t, m4_t, m9_t]) <;> omega) | exact absurd rfl c389
        · refine lx_iconst hX0 (pc' := 393) (v := nI 1) dL_law_392 (by decide) rfl ?_
          refine lx_goto hX0 (pc' := 397) dL_law_393 (by decide) ?_
          exact kend _ Y _ hC
    have hn : n < 52 := Nat.not_le.mp (fun z => c66 ((nI_leI (by omega) (by omega)).mpr z))
    have kx : ∀ (t : Nat) (S : FS) (Y : Sy) (z6 z7 z8 z10 z11 z12 : Option Value) (M1 : mx_M), t ≤ 60 * n + 60 → LI t S Y → CoA M1 Y → lx_V p l e s m below meth c b D ad cy Z M1 62 [some (.ref 143), some (.ref 0), some (.int (nI 1)), some (.long (lkV S)), none, some (.int (nI (n + 1))), z6, z7, z8, none, z10, z11, z12] [] := fun t S Y z6 z7 z8 z10 z11 z12 M1 h1 h2 h3 => ih (n + 1) t S Y z6 z7 z8 z10 z11 z12 M1 (by omega) (by omega) (by omega) h2 h3
    refine lx_iload_n hX0 (pc' := 70) dL_law_69 rfl rfl ?_
    refine lx_if_eq hX0 (tgt := 381) (pc' := 73) dL_law_70 (by decide) rfl (fun c70 => ?_) (fun c70 => ?_)
    · first | exact absurd c70 (by (simp (disch := omega) only [Int32.lt_iff_toInt_lt, Int32.le_iff_toInt_le, ← Int32.toInt_inj, ne_eq, not_true_eq_false, not_false_eq_true, nI_t, z_t, m1_t, m2_t, m3_t, m4_t, m9_t]) <;> omega) | exact absurd rfl c70
    · refine lx_aload_n hX0 (pc' := 74) dL_law_73 rfl rfl ?_
      refine lx_iconst hX0 (pc' := 75) (v := nI 2) dL_law_74 (by decide) rfl ?_
      refine lx_iload hX0 (pc' := 77) dL_law_75 rfl rfl ?_
      refine lx_imul hX0 (pc' := 78) (v := nI (2 * n)) dL_law_77 (pk_mul 2 n) rfl ?_
      refine lx_lot hX0 hL260 (pc' := 81) (by omega) dL_law_78 cl_L_134 (Nat.le_of_ble_eq_true rfl) rfl (fun x81 => ?_)
      refine lx_xistore hX0 (pc' := 83) (ls' := [_, _, _, _, _, _, _, _, _, _, _, _, _]) dL_law_81 (by decide) rfl rfl rfl ?_
      refine lx_aload_n hX0 (pc' := 84) dL_law_83 rfl rfl ?_
      refine lx_iconst hX0 (pc' := 85) (v := nI 2) dL_law_84 (by decide) rfl ?_
      refine lx_iload hX0 (pc' := 87) dL_law_85 rfl rfl ?_
      refine lx_imul hX0 (pc' := 88) (v := nI (2 * n)) dL_law_87 (pk_mul 2 n) rfl ?_
      refine lx_iconst hX0 (pc' := 89) (v := nI 1) dL_law_88 (by decide) rfl ?_
      refine lx_iadd hX0 (pc' := 90) (v := nI (2 * n + 1)) dL_law_89 (nI_add _ 1) rfl ?_
      refine lx_lot hX0 hL260 (pc' := 93) (by omega) dL_law_90 cl_L_134 (Nat.le_of_ble_eq_true rfl) rfl (fun x93 => ?_)
      refine lx_xistore hX0 (pc' := 95) (ls' := [_, _, _, _, _, _, _, _, _, _, _, _, _]) dL_law_93 (by decide) rfl rfl rfl ?_
      refine lx_aload_n hX0 (pc' := 96) dL_law_95 rfl rfl ?_
      refine lx_callS hX0 (pc' := 99) dL_law_96 cl_L_82 (t_L_look _ (Y) hC (by have := hLI.2.1; omega)) rfl (by decide) rfl (Nat.le_of_ble_eq_true rfl) rfl (fun v N96 hv => ?_)
      obtain ⟨rfl, hC⟩ := hv
      refine lx_lstore hX0 (pc' := 101) (ls' := [_, _, _, _, _, _, _, _, _, _, _, _, _]) dL_law_99 (by decide) rfl rfl rfl ?_
      refine lx_aload_n hX0 (pc' := 102) dL_law_101 rfl rfl ?_
      refine lx_bipush hX0 (pc' := 104) (v := nI 18) dL_law_102 (by decide) rfl ?_
      refine lx_callV hX0 (pc' := 107) dL_law_104 cl_L_13 (rfl) (t_c18 _ (Y) hC) rfl (by decide) rfl (Nat.le_of_ble_eq_true rfl) rfl (fun v N104 hv => ?_)
      obtain ⟨rfl, hC, -⟩ := hv
      have hH4 := hC.h4
      refine lx_xistore hX0 (pc' := 109) (ls' := [_, _, _, _, _, _, _, _, _, _, _, _, _]) dL_law_107 (by decide) rfl rfl rfl ?_
      refine lx_aload_n hX0 (pc' := 110) dL_law_109 rfl rfl ?_
      refine lx_iload hX0 (pc' := 112) dL_law_110 rfl rfl ?_
      refine lx_iload hX0 (pc' := 114) dL_law_112 rfl rfl ?_
      refine lx_callS hX0 (pc' := 117) dL_law_114 cl_L_138 (t_L_acts _ (Y) hC (by have := hLI.2.1; omega) hLI.1 _ _) rfl (by decide) rfl (Nat.le_of_ble_eq_true rfl) rfl (fun v N114 hv => ?_)
      obtain ⟨rfl, Y1, hC, hT⟩ := hv
      refine lx_if_eq hX0 (tgt := 155) (pc' := 120) dL_law_117 (by decide) rfl (fun c117 => ?_) (fun c117 => ?_)
      · first | exact absurd c117 (by (simp (disch := omega) only [Int32.lt_iff_toInt_lt, Int32.le_iff_toInt_le, ← Int32.toInt_inj, ne_eq, not_true_eq_false, not_false_eq_true, nI_t, z_t, m1_t, m2_t, m3_t, m4_t, m9_t]) <;> omega) | exact absurd rfl c117
      · have hLI1 := hLI.tr hT
        refine lx_iload hX0 (pc' := 122) dL_law_120 rfl rfl ?_
        refine lx_iconst hX0 (pc' := 123) (v := nI 3) dL_law_122 (by decide) rfl ?_
        refine lx_irem hX0 (pc' := 124) (v := nI (n % 3)) dL_law_123 (by decide) (pk_rem (by omega) (by omega) (by omega)) rfl ?_
        refine lx_if_gt hX0 (tgt := 134) (pc' := 127) dL_law_124 (by decide) rfl (fun c124 => ?_) (fun c124 => ?_)
        · 
          refine lx_iload hX0 (pc' := 136) dL_law_134 rfl rfl ?_
          refine lx_iconst hX0 (pc' := 137) (v := nI 4) dL_law_136 (by decide) rfl ?_
          refine lx_irem hX0 (pc' := 138) (v := nI (n % 4)) dL_law_137 (by decide) (pk_rem (by omega) (by omega) (by omega)) rfl ?_
          refine lx_iconst hX0 (pc' := 139) (v := nI 2) dL_law_138 (by decide) rfl ?_
          refine lx_icmp_ne hX0 (tgt := 151) (pc' := 142) dL_law_139 (by decide) rfl (fun c139 => ?_) (fun c139 => ?_)
          · 
            refine lx_iconst hX0 (pc' := 152) (v := nI 1) dL_law_151 (by decide) rfl ?_
            refine lx_goto hX0 (pc' := 156) dL_law_152 (by decide) ?_
            refine lx_xistore_n hX0 (pc' := 157) (ls' := [_, _, _, _, _, _, _, _, _, _, _, _, _]) dL_law_156 (by decide) rfl rfl rfl ?_
            exact l_law157 hX0 hL260 n hn kx t ht S Y Y1 hLI hT _ _ _ _ hH4 hC
          · 
            refine lx_aload_n hX0 (pc' := 143) dL_law_142 rfl rfl ?_
            refine lx_iload hX0 (pc' := 145) dL_law_143 rfl rfl ?_
            refine lx_callS hX0 (pc' := 148) dL_law_145 cl_L_122 (t_L_would _ (Y1) hC (by have := hLI1.2.1; omega) hLI1.1 _) rfl (by decide) rfl (Nat.le_of_ble_eq_true rfl) rfl (fun v N145 hv => ?_)
            obtain ⟨rfl, hC⟩ := hv
            refine lx_if_eq hX0 (tgt := 155) (pc' := 151) dL_law_148 (by decide) rfl (fun c148 => ?_) (fun c148 => ?_)
            · first | exact absurd c148 (by (simp (disch := omega) only [Int32.lt_iff_toInt_lt, Int32.le_iff_toInt_le, ← Int32.toInt_inj, ne_eq, not_true_eq_false, not_false_eq_true, nI_t, z_t, m1_t, m2_t, m3_t, m4_t, m9_t]) <;> omega) | exact absurd rfl c148
            · refine lx_iconst hX0 (pc' := 152) (v := nI 1) dL_law_151 (by decide) rfl ?_
              refine lx_goto hX0 (pc' := 156) dL_law_152 (by decide) ?_
              refine lx_xistore_n hX0 (pc' := 157) (ls' := [_, _, _, _, _, _, _, _, _, _, _, _, _]) dL_law_156 (by decide) rfl rfl rfl ?_
              exact l_law157 hX0 hL260 n hn kx t ht S Y Y1 hLI hT _ _ _ _ hH4 hC
        · 
          refine lx_aload_n hX0 (pc' := 128) dL_law_127 rfl rfl ?_
          refine lx_callS hX0 (pc' := 131) dL_law_128 cl_L_118 (t_L_holds _ (Y1) hC (by have := hLI1.2.1; omega) hLI1.1) rfl (by decide) rfl (Nat.le_of_ble_eq_true rfl) rfl (fun v N128 hv => ?_)
          obtain ⟨rfl, hC⟩ := hv
          refine lx_if_eq hX0 (tgt := 155) (pc' := 134) dL_law_131 (by decide) rfl (fun c131 => ?_) (fun c131 => ?_)
          · first | exact absurd c131 (by (simp (disch := omega) only [Int32.lt_iff_toInt_lt, Int32.le_iff_toInt_le, ← Int32.toInt_inj, ne_eq, not_true_eq_false, not_false_eq_true, nI_t, z_t, m1_t, m2_t, m3_t, m4_t, m9_t]) <;> omega) | exact absurd rfl c131
          · refine lx_iload hX0 (pc' := 136) dL_law_134 rfl rfl ?_
            refine lx_iconst hX0 (pc' := 137) (v := nI 4) dL_law_136 (by decide) rfl ?_
            refine lx_irem hX0 (pc' := 138) (v := nI (n % 4)) dL_law_137 (by decide) (pk_rem (by omega) (by omega) (by omega)) rfl ?_
            refine lx_iconst hX0 (pc' := 139) (v := nI 2) dL_law_138 (by decide) rfl ?_
            refine lx_icmp_ne hX0 (tgt := 151) (pc' := 142) dL_law_139 (by decide) rfl (fun c139 => ?_) (fun c139 => ?_)
            · 
              refine lx_iconst hX0 (pc' := 152) (v := nI 1) dL_law_151 (by decide) rfl ?_
              refine lx_goto hX0 (pc' := 156) dL_law_152 (by decide) ?_
              refine lx_xistore_n hX0 (pc' := 157) (ls' := [_, _, _, _, _, _, _, _, _, _, _, _, _]) dL_law_156 (by decide) rfl rfl rfl ?_
              exact l_law157 hX0 hL260 n hn kx t ht S Y Y1 hLI hT _ _ _ _ hH4 hC
            · 
              refine lx_aload_n hX0 (pc' := 143) dL_law_142 rfl rfl ?_
              refine lx_iload hX0 (pc' := 145) dL_law_143 rfl rfl ?_
              refine lx_callS hX0 (pc' := 148) dL_law_145 cl_L_122 (t_L_would _ (Y1) hC (by have := hLI1.2.1; omega) hLI1.1 _) rfl (by decide) rfl (Nat.le_of_ble_eq_true rfl) rfl (fun v N145 hv => ?_)
              obtain ⟨rfl, hC⟩ := hv
              refine lx_if_eq hX0 (tgt := 155) (pc' := 151) dL_law_148 (by decide) rfl (fun c148 => ?_) (fun c148 => ?_)
              · first | exact absurd c148 (by (simp (disch := omega) only [Int32.lt_iff_toInt_lt, Int32.le_iff_toInt_le, ← Int32.toInt_inj, ne_eq, not_true_eq_false, not_false_eq_true, nI_t, z_t, m1_t, m2_t, m3_t, m4_t, m9_t]) <;> omega) | exact absurd rfl c148
              · refine lx_iconst hX0 (pc' := 152) (v := nI 1) dL_law_151 (by decide) rfl ?_
                refine lx_goto hX0 (pc' := 156) dL_law_152 (by decide) ?_
                refine lx_xistore_n hX0 (pc' := 157) (ls' := [_, _, _, _, _, _, _, _, _, _, _, _, _]) dL_law_156 (by decide) rfl rfl rfl ?_
                exact l_law157 hX0 hL260 n hn kx t ht S Y Y1 hLI hT _ _ _ _ hH4 hC

