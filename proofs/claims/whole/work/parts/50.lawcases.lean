/-! THE LAW'S CASES: one call of each side, one answer -/
theorem lc_emitter {p : Program} {l : Launch} {e : Env} {s : State} {m : MethodId} {below : List Frame} {meth : Method} {c : Code} {b L : Nat} {xs : Nat → Int32} {D : va_G} {ad : Nat → Nat} {cy : Nat → ClassId} {Z : State → Prop} {M : mx_M} {i : Nat} {Y : Sy} (hC : lx_C p s m c b L xs D ad cy) (hi : i + 5 ≤ L) (hL : L ≤ 2560) (hA : CoA M Y) (hB : MoA M Y) (ht : Y.1.2.2.1 3 + 100 < 2147483648) (kk : ∀ M2 : mx_M, CoA M2 (oEmitter (xs (i + 1)) (xs (i + 2)) (xs (i + 3)) (xs (i + 4)) Y).2 → MoA M2 (oEmitter (xs (i + 1)) (xs (i + 2)) (xs (i + 3)) (xs (i + 4)) Y).2 → lx_V p l e s m below meth c b D ad cy Z M2 835 (lx_l b ad (nI i)) []) : lx_V p l e s m below meth c b D ad cy Z M 156 (lx_l b ad (nI i)) [] := by
  refine lx_aload hC 1 dL_law_156 rfl ?_
  refine lx_arg hC 1 hi hL (by decide) (by decide) dL_law_157 dL_law_158 dL_law_159 dL_law_160 dL_law_161 ?_
  refine lx_arg hC 2 hi hL (by decide) (by decide) dL_law_162 dL_law_163 dL_law_164 dL_law_165 dL_law_166 ?_
  refine lx_arg hC 3 hi hL (by decide) (by decide) dL_law_167 dL_law_168 dL_law_169 dL_law_170 dL_law_171 ?_
  refine lx_arg hC 4 hi hL (by decide) (by decide) dL_law_172 dL_law_173 dL_law_174 dL_law_175 dL_law_176 ?_
  refine lx_call hC dL_law_177 cl_L_13 rfl (t_X7_emitter M Y hA (xs (i + 1)) (xs (i + 2)) (xs (i + 3)) (xs (i + 4))) rfl (by decide) rfl (Nat.le_of_ble_eq_true rfl) (fun v M1 hv => ?_)
  obtain ⟨rfl, hA1, hM1⟩ := hv
  have hB1 := hB.mo hM1
  refine lx_aload hC 2 dL_law_180 rfl ?_
  refine lx_arg hC 1 hi hL (by decide) (by decide) dL_law_181 dL_law_182 dL_law_183 dL_law_184 dL_law_185 ?_
  refine lx_arg hC 2 hi hL (by decide) (by decide) dL_law_186 dL_law_187 dL_law_188 dL_law_189 dL_law_190 ?_
  refine lx_arg hC 3 hi hL (by decide) (by decide) dL_law_191 dL_law_192 dL_law_193 dL_law_194 dL_law_195 ?_
  refine lx_arg hC 4 hi hL (by decide) (by decide) dL_law_196 dL_law_197 dL_law_198 dL_law_199 dL_law_200 ?_
  refine lx_call hC dL_law_201 cl_L_17 rfl (t_X8_emitter M1 Y hB1 (xs (i + 1)) (xs (i + 2)) (xs (i + 3)) (xs (i + 4))) rfl (by decide) rfl (Nat.le_of_ble_eq_true rfl) (fun v M2 hv => ?_)
  obtain ⟨rfl, hB2, hM2⟩ := hv
  exact lx_same hC dL_law_204 (by decide) (kk M2 (hA1.cl hM2) hB2)
theorem lc_takeAway {p : Program} {l : Launch} {e : Env} {s : State} {m : MethodId} {below : List Frame} {meth : Method} {c : Code} {b L : Nat} {xs : Nat → Int32} {D : va_G} {ad : Nat → Nat} {cy : Nat → ClassId} {Z : State → Prop} {M : mx_M} {i : Nat} {Y : Sy} (hC : lx_C p s m c b L xs D ad cy) (hi : i + 5 ≤ L) (hL : L ≤ 2560) (hA : CoA M Y) (hB : MoA M Y) (ht : Y.1.2.2.1 3 + 100 < 2147483648) (kk : ∀ M2 : mx_M, CoA M2 (oTakeAway (xs (i + 1)) Y).2 → MoA M2 (oTakeAway (xs (i + 1)) Y).2 → lx_V p l e s m below meth c b D ad cy Z M2 835 (lx_l b ad (nI i)) []) : lx_V p l e s m below meth c b D ad cy Z M 209 (lx_l b ad (nI i)) [] := by
  refine lx_aload hC 1 dL_law_209 rfl ?_
  refine lx_arg hC 1 hi hL (by decide) (by decide) dL_law_210 dL_law_211 dL_law_212 dL_law_213 dL_law_214 ?_
  refine lx_call hC dL_law_215 cl_L_18 rfl (t_X7_takeAway M Y hA (xs (i + 1))) rfl (by decide) rfl (Nat.le_of_ble_eq_true rfl) (fun v M1 hv => ?_)
  obtain ⟨rfl, hA1, hM1⟩ := hv
  have hB1 := hB.mo hM1
  refine lx_aload hC 2 dL_law_218 rfl ?_
  refine lx_arg hC 1 hi hL (by decide) (by decide) dL_law_219 dL_law_220 dL_law_221 dL_law_222 dL_law_223 ?_
  refine lx_call hC dL_law_224 cl_L_22 rfl (t_X8_takeAway M1 Y hB1 (xs (i + 1))) rfl (by decide) rfl (Nat.le_of_ble_eq_true rfl) (fun v M2 hv => ?_)
  obtain ⟨rfl, hB2, hM2⟩ := hv
  exact lx_same hC dL_law_227 (by decide) (kk M2 (hA1.cl hM2) hB2)
theorem lc_tick {p : Program} {l : Launch} {e : Env} {s : State} {m : MethodId} {below : List Frame} {meth : Method} {c : Code} {b L : Nat} {xs : Nat → Int32} {D : va_G} {ad : Nat → Nat} {cy : Nat → ClassId} {Z : State → Prop} {M : mx_M} {i : Nat} {Y : Sy} (hC : lx_C p s m c b L xs D ad cy) (hi : i + 5 ≤ L) (hL : L ≤ 2560) (hA : CoA M Y) (hB : MoA M Y) (ht : Y.1.2.2.1 3 + 100 < 2147483648) (kk : ∀ M2 : mx_M, CoA M2 (oTick (xs (i + 1)) Y).2 → MoA M2 (oTick (xs (i + 1)) Y).2 → lx_V p l e s m below meth c b D ad cy Z M2 835 (lx_l b ad (nI i)) []) : lx_V p l e s m below meth c b D ad cy Z M 232 (lx_l b ad (nI i)) [] := by
  refine lx_aload hC 1 dL_law_232 rfl ?_
  refine lx_arg hC 1 hi hL (by decide) (by decide) dL_law_233 dL_law_234 dL_law_235 dL_law_236 dL_law_237 ?_
  refine lx_call hC dL_law_238 cl_L_23 rfl (t_X7_tick M Y hA ht (xs (i + 1))) rfl (by decide) rfl (Nat.le_of_ble_eq_true rfl) (fun v M1 hv => ?_)
  obtain ⟨rfl, hA1, hM1⟩ := hv
  have hB1 := hB.mo hM1
  refine lx_aload hC 2 dL_law_241 rfl ?_
  refine lx_arg hC 1 hi hL (by decide) (by decide) dL_law_242 dL_law_243 dL_law_244 dL_law_245 dL_law_246 ?_
  refine lx_call hC dL_law_247 cl_L_26 rfl (t_X8_tick M1 Y hB1 ht (xs (i + 1))) rfl (by decide) rfl (Nat.le_of_ble_eq_true rfl) (fun v M2 hv => ?_)
  obtain ⟨rfl, hB2, hM2⟩ := hv
  exact lx_same hC dL_law_250 (by decide) (kk M2 (hA1.cl hM2) hB2)
theorem lc_bomb {p : Program} {l : Launch} {e : Env} {s : State} {m : MethodId} {below : List Frame} {meth : Method} {c : Code} {b L : Nat} {xs : Nat → Int32} {D : va_G} {ad : Nat → Nat} {cy : Nat → ClassId} {Z : State → Prop} {M : mx_M} {i : Nat} {Y : Sy} (hC : lx_C p s m c b L xs D ad cy) (hi : i + 5 ≤ L) (hL : L ≤ 2560) (hA : CoA M Y) (hB : MoA M Y) (ht : Y.1.2.2.1 3 + 100 < 2147483648) (kk : ∀ M2 : mx_M, CoA M2 (oBomb Y).2 → MoA M2 (oBomb Y).2 → lx_V p l e s m below meth c b D ad cy Z M2 835 (lx_l b ad (nI i)) []) : lx_V p l e s m below meth c b D ad cy Z M 255 (lx_l b ad (nI i)) [] := by
  refine lx_aload hC 1 dL_law_255 rfl ?_
  refine lx_call hC dL_law_256 cl_L_27 rfl (t_X7_bomb M Y hA ) rfl (by decide) rfl (Nat.le_of_ble_eq_true rfl) (fun v M1 hv => ?_)
  obtain ⟨rfl, hA1, hM1⟩ := hv
  have hB1 := hB.mo hM1
  refine lx_aload hC 2 dL_law_259 rfl ?_
  refine lx_call hC dL_law_260 cl_L_31 rfl (t_X8_bomb M1 Y hB1 ) rfl (by decide) rfl (Nat.le_of_ble_eq_true rfl) (fun v M2 hv => ?_)
  obtain ⟨rfl, hB2, hM2⟩ := hv
  exact lx_same hC dL_law_263 (by decide) (kk M2 (hA1.cl hM2) hB2)
theorem lc_clearField {p : Program} {l : Launch} {e : Env} {s : State} {m : MethodId} {below : List Frame} {meth : Method} {c : Code} {b L : Nat} {xs : Nat → Int32} {D : va_G} {ad : Nat → Nat} {cy : Nat → ClassId} {Z : State → Prop} {M : mx_M} {i : Nat} {Y : Sy} (hC : lx_C p s m c b L xs D ad cy) (hi : i + 5 ≤ L) (hL : L ≤ 2560) (hA : CoA M Y) (hB : MoA M Y) (ht : Y.1.2.2.1 3 + 100 < 2147483648) (kk : ∀ M2 : mx_M, CoA M2 (oClearField Y).2 → MoA M2 (oClearField Y).2 → lx_V p l e s m below meth c b D ad cy Z M2 835 (lx_l b ad (nI i)) []) : lx_V p l e s m below meth c b D ad cy Z M 268 (lx_l b ad (nI i)) [] := by
  refine lx_aload hC 1 dL_law_268 rfl ?_
  refine lx_call hC dL_law_269 cl_L_32 rfl (t_X7_clearField M Y hA ) rfl (by decide) rfl (Nat.le_of_ble_eq_true rfl) (fun v M1 hv => ?_)
  obtain ⟨rfl, hA1, hM1⟩ := hv
  have hB1 := hB.mo hM1
  refine lx_aload hC 2 dL_law_272 rfl ?_
  refine lx_call hC dL_law_273 cl_L_35 rfl (t_X8_clearField M1 Y hB1 ) rfl (by decide) rfl (Nat.le_of_ble_eq_true rfl) (fun v M2 hv => ?_)
  obtain ⟨rfl, hB2, hM2⟩ := hv
  exact lx_same hC dL_law_276 (by decide) (kk M2 (hA1.cl hM2) hB2)
theorem lc_set {p : Program} {l : Launch} {e : Env} {s : State} {m : MethodId} {below : List Frame} {meth : Method} {c : Code} {b L : Nat} {xs : Nat → Int32} {D : va_G} {ad : Nat → Nat} {cy : Nat → ClassId} {Z : State → Prop} {M : mx_M} {i : Nat} {Y : Sy} (hC : lx_C p s m c b L xs D ad cy) (hi : i + 5 ≤ L) (hL : L ≤ 2560) (hA : CoA M Y) (hB : MoA M Y) (ht : Y.1.2.2.1 3 + 100 < 2147483648) (kk : ∀ M2 : mx_M, CoA M2 (oSet (xs (i + 1)) (xs (i + 2)) Y).2 → MoA M2 (oSet (xs (i + 1)) (xs (i + 2)) Y).2 → lx_V p l e s m below meth c b D ad cy Z M2 835 (lx_l b ad (nI i)) []) : lx_V p l e s m below meth c b D ad cy Z M 281 (lx_l b ad (nI i)) [] := by
  refine lx_aload hC 1 dL_law_281 rfl ?_
  refine lx_arg hC 1 hi hL (by decide) (by decide) dL_law_282 dL_law_283 dL_law_284 dL_law_285 dL_law_286 ?_
  refine lx_arg hC 2 hi hL (by decide) (by decide) dL_law_287 dL_law_288 dL_law_289 dL_law_290 dL_law_291 ?_
  refine lx_call hC dL_law_292 cl_L_36 rfl (t_X7_set M Y hA (xs (i + 1)) (xs (i + 2))) rfl (by decide) rfl (Nat.le_of_ble_eq_true rfl) (fun v M1 hv => ?_)
  obtain ⟨rfl, hA1, hM1⟩ := hv
  have hB1 := hB.mo hM1
  refine lx_aload hC 2 dL_law_295 rfl ?_
  refine lx_arg hC 1 hi hL (by decide) (by decide) dL_law_296 dL_law_297 dL_law_298 dL_law_299 dL_law_300 ?_
  refine lx_arg hC 2 hi hL (by decide) (by decide) dL_law_301 dL_law_302 dL_law_303 dL_law_304 dL_law_305 ?_
  refine lx_call hC dL_law_306 cl_L_40 rfl (t_X8_set M1 Y hB1 (xs (i + 1)) (xs (i + 2))) rfl (by decide) rfl (Nat.le_of_ble_eq_true rfl) (fun v M2 hv => ?_)
  obtain ⟨rfl, hB2, hM2⟩ := hv
  exact lx_same hC dL_law_309 (by decide) (kk M2 (hA1.cl hM2) hB2)
theorem lc_append {p : Program} {l : Launch} {e : Env} {s : State} {m : MethodId} {below : List Frame} {meth : Method} {c : Code} {b L : Nat} {xs : Nat → Int32} {D : va_G} {ad : Nat → Nat} {cy : Nat → ClassId} {Z : State → Prop} {M : mx_M} {i : Nat} {Y : Sy} (hC : lx_C p s m c b L xs D ad cy) (hi : i + 5 ≤ L) (hL : L ≤ 2560) (hA : CoA M Y) (hB : MoA M Y) (ht : Y.1.2.2.1 3 + 100 < 2147483648) (kk : ∀ M2 : mx_M, CoA M2 (oAppend (xs (i + 1)) Y).2 → MoA M2 (oAppend (xs (i + 1)) Y).2 → lx_V p l e s m below meth c b D ad cy Z M2 835 (lx_l b ad (nI i)) []) : lx_V p l e s m below meth c b D ad cy Z M 314 (lx_l b ad (nI i)) [] := by
  refine lx_aload hC 1 dL_law_314 rfl ?_
  refine lx_arg hC 1 hi hL (by decide) (by decide) dL_law_315 dL_law_316 dL_law_317 dL_law_318 dL_law_319 ?_
  refine lx_call hC dL_law_320 cl_L_41 rfl (t_X7_append M Y hA (xs (i + 1))) rfl (by decide) rfl (Nat.le_of_ble_eq_true rfl) (fun v M1 hv => ?_)
  obtain ⟨rfl, hA1, hM1⟩ := hv
  have hB1 := hB.mo hM1
  refine lx_aload hC 2 dL_law_323 rfl ?_
  refine lx_arg hC 1 hi hL (by decide) (by decide) dL_law_324 dL_law_325 dL_law_326 dL_law_327 dL_law_328 ?_
  refine lx_call hC dL_law_329 cl_L_44 rfl (t_X8_append M1 Y hB1 (xs (i + 1))) rfl (by decide) rfl (Nat.le_of_ble_eq_true rfl) (fun v M2 hv => ?_)
  obtain ⟨rfl, hB2, hM2⟩ := hv
  exact lx_same hC dL_law_332 (by decide) (kk M2 (hA1.cl hM2) hB2)
theorem lc_clear {p : Program} {l : Launch} {e : Env} {s : State} {m : MethodId} {below : List Frame} {meth : Method} {c : Code} {b L : Nat} {xs : Nat → Int32} {D : va_G} {ad : Nat → Nat} {cy : Nat → ClassId} {Z : State → Prop} {M : mx_M} {i : Nat} {Y : Sy} (hC : lx_C p s m c b L xs D ad cy) (hi : i + 5 ≤ L) (hL : L ≤ 2560) (hA : CoA M Y) (hB : MoA M Y) (ht : Y.1.2.2.1 3 + 100 < 2147483648) (kk : ∀ M2 : mx_M, CoA M2 (oClear Y).2 → MoA M2 (oClear Y).2 → lx_V p l e s m below meth c b D ad cy Z M2 835 (lx_l b ad (nI i)) []) : lx_V p l e s m below meth c b D ad cy Z M 337 (lx_l b ad (nI i)) [] := by
  refine lx_aload hC 1 dL_law_337 rfl ?_
  refine lx_call hC dL_law_338 cl_L_45 rfl (t_X7_clear M Y hA ) rfl (by decide) rfl (Nat.le_of_ble_eq_true rfl) (fun v M1 hv => ?_)
  obtain ⟨rfl, hA1, hM1⟩ := hv
  have hB1 := hB.mo hM1
  refine lx_aload hC 2 dL_law_341 rfl ?_
  refine lx_call hC dL_law_342 cl_L_48 rfl (t_X8_clear M1 Y hB1 ) rfl (by decide) rfl (Nat.le_of_ble_eq_true rfl) (fun v M2 hv => ?_)
  obtain ⟨rfl, hB2, hM2⟩ := hv
  exact lx_same hC dL_law_345 (by decide) (kk M2 (hA1.cl hM2) hB2)
theorem lc_fault {p : Program} {l : Launch} {e : Env} {s : State} {m : MethodId} {below : List Frame} {meth : Method} {c : Code} {b L : Nat} {xs : Nat → Int32} {D : va_G} {ad : Nat → Nat} {cy : Nat → ClassId} {Z : State → Prop} {M : mx_M} {i : Nat} {Y : Sy} (hC : lx_C p s m c b L xs D ad cy) (hi : i + 5 ≤ L) (hL : L ≤ 2560) (hA : CoA M Y) (hB : MoA M Y) (ht : Y.1.2.2.1 3 + 100 < 2147483648) (kk : ∀ M2 : mx_M, CoA M2 Y → MoA M2 Y → lx_V p l e s m below meth c b D ad cy Z M2 835 (lx_l b ad (nI i)) []) : lx_V p l e s m below meth c b D ad cy Z M 350 (lx_l b ad (nI i)) [] := by
  refine lx_aload hC 1 dL_law_350 rfl ?_
  refine lx_arg hC 1 hi hL (by decide) (by decide) dL_law_351 dL_law_352 dL_law_353 dL_law_354 dL_law_355 ?_
  refine lx_call hC dL_law_356 cl_L_49 rfl (t_X7_fault M Y hA (xs (i + 1))) rfl (by decide) rfl (Nat.le_of_ble_eq_true rfl) (fun v M1 hv => ?_)
  obtain ⟨rfl, hA1, hM1⟩ := hv
  have hB1 := hB.mo hM1
  refine lx_aload hC 2 dL_law_359 rfl ?_
  refine lx_arg hC 1 hi hL (by decide) (by decide) dL_law_360 dL_law_361 dL_law_362 dL_law_363 dL_law_364 ?_
  refine lx_call hC dL_law_365 cl_L_52 rfl (t_X8_fault M1 Y hB1 (xs (i + 1))) rfl (by decide) rfl (Nat.le_of_ble_eq_true rfl) (fun v M2 hv => ?_)
  obtain ⟨rfl, hB2, hM2⟩ := hv
  exact lx_same hC dL_law_368 (by decide) (kk M2 (hA1.cl hM2) hB2)
theorem lc_hang {p : Program} {l : Launch} {e : Env} {s : State} {m : MethodId} {below : List Frame} {meth : Method} {c : Code} {b L : Nat} {xs : Nat → Int32} {D : va_G} {ad : Nat → Nat} {cy : Nat → ClassId} {Z : State → Prop} {M : mx_M} {i : Nat} {Y : Sy} (hC : lx_C p s m c b L xs D ad cy) (hi : i + 5 ≤ L) (hL : L ≤ 2560) (hA : CoA M Y) (hB : MoA M Y) (ht : Y.1.2.2.1 3 + 100 < 2147483648) (kk : ∀ M2 : mx_M, CoA M2 (oHang Y).2 → MoA M2 (oHang Y).2 → lx_V p l e s m below meth c b D ad cy Z M2 835 (lx_l b ad (nI i)) []) : lx_V p l e s m below meth c b D ad cy Z M 373 (lx_l b ad (nI i)) [] := by
  refine lx_aload hC 1 dL_law_373 rfl ?_
  refine lx_call hC dL_law_374 cl_L_53 rfl (t_X7_hang M Y hA ) rfl (by decide) rfl (Nat.le_of_ble_eq_true rfl) (fun v M1 hv => ?_)
  obtain ⟨rfl, hA1, hM1⟩ := hv
  have hB1 := hB.mo hM1
  refine lx_aload hC 2 dL_law_377 rfl ?_
  refine lx_call hC dL_law_378 cl_L_56 rfl (t_X8_hang M1 Y hB1 ) rfl (by decide) rfl (Nat.le_of_ble_eq_true rfl) (fun v M2 hv => ?_)
  obtain ⟨rfl, hB2, hM2⟩ := hv
  exact lx_same hC dL_law_381 (by decide) (kk M2 (hA1.cl hM2) hB2)
theorem lc_play {p : Program} {l : Launch} {e : Env} {s : State} {m : MethodId} {below : List Frame} {meth : Method} {c : Code} {b L : Nat} {xs : Nat → Int32} {D : va_G} {ad : Nat → Nat} {cy : Nat → ClassId} {Z : State → Prop} {M : mx_M} {i : Nat} {Y : Sy} (hC : lx_C p s m c b L xs D ad cy) (hi : i + 5 ≤ L) (hL : L ≤ 2560) (hA : CoA M Y) (hB : MoA M Y) (ht : Y.1.2.2.1 3 + 100 < 2147483648) (kk : ∀ M2 : mx_M, CoA M2 (oPlay Y).2 → MoA M2 (oPlay Y).2 → lx_V p l e s m below meth c b D ad cy Z M2 835 (lx_l b ad (nI i)) []) : lx_V p l e s m below meth c b D ad cy Z M 386 (lx_l b ad (nI i)) [] := by
  refine lx_aload hC 1 dL_law_386 rfl ?_
  refine lx_call hC dL_law_387 cl_L_57 rfl (t_X7_play M Y hA ht ) rfl (by decide) rfl (Nat.le_of_ble_eq_true rfl) (fun v M1 hv => ?_)
  obtain ⟨rfl, hA1, hM1⟩ := hv
  have hB1 := hB.mo hM1
  refine lx_aload hC 2 dL_law_390 rfl ?_
  refine lx_call hC dL_law_391 cl_L_60 rfl (t_X8_play M1 Y hB1 ht ) rfl (by decide) rfl (Nat.le_of_ble_eq_true rfl) (fun v M2 hv => ?_)
  obtain ⟨rfl, hB2, hM2⟩ := hv
  exact lx_same hC dL_law_394 (by decide) (kk M2 (hA1.cl hM2) hB2)
theorem lc_emitterOf {p : Program} {l : Launch} {e : Env} {s : State} {m : MethodId} {below : List Frame} {meth : Method} {c : Code} {b L : Nat} {xs : Nat → Int32} {D : va_G} {ad : Nat → Nat} {cy : Nat → ClassId} {Z : State → Prop} {M : mx_M} {i : Nat} {Y : Sy} (hC : lx_C p s m c b L xs D ad cy) (hi : i + 5 ≤ L) (hL : L ≤ 2560) (hA : CoA M Y) (hB : MoA M Y) (ht : Y.1.2.2.1 3 + 100 < 2147483648) (kk : ∀ M2 : mx_M, CoA M2 Y → MoA M2 Y → lx_V p l e s m below meth c b D ad cy Z M2 835 (lx_l b ad (nI i)) []) : lx_V p l e s m below meth c b D ad cy Z M 399 (lx_l b ad (nI i)) [] := by
  refine lx_aload hC 1 dL_law_399 rfl ?_
  refine lx_arg hC 1 hi hL (by decide) (by decide) dL_law_400 dL_law_401 dL_law_402 dL_law_403 dL_law_404 ?_
  refine lx_arg hC 2 hi hL (by decide) (by decide) dL_law_405 dL_law_406 dL_law_407 dL_law_408 dL_law_409 ?_
  refine lx_call hC dL_law_410 cl_L_61 rfl (t_X7_emitterOf M Y hA ht (xs (i + 1)) (xs (i + 2))) rfl (by decide) rfl (Nat.le_of_ble_eq_true rfl) (fun v M1 hv => ?_)
  obtain ⟨rfl, hA1, hM1⟩ := hv
  have hB1 := hB.mo hM1
  refine lx_aload hC 2 dL_law_413 rfl ?_
  refine lx_arg hC 1 hi hL (by decide) (by decide) dL_law_414 dL_law_415 dL_law_416 dL_law_417 dL_law_418 ?_
  refine lx_arg hC 2 hi hL (by decide) (by decide) dL_law_419 dL_law_420 dL_law_421 dL_law_422 dL_law_423 ?_
  refine lx_call hC dL_law_424 cl_L_64 rfl (t_X8_emitterOf M1 Y hB1 ht (xs (i + 1)) (xs (i + 2))) rfl (by decide) rfl (Nat.le_of_ble_eq_true rfl) (fun v M2 hv => ?_)
  obtain ⟨rfl, hB2, hM2⟩ := hv
  exact lx_same hC dL_law_427 (by decide) (kk M2 (hA1.cl hM2) hB2)
theorem lc_bullet {p : Program} {l : Launch} {e : Env} {s : State} {m : MethodId} {below : List Frame} {meth : Method} {c : Code} {b L : Nat} {xs : Nat → Int32} {D : va_G} {ad : Nat → Nat} {cy : Nat → ClassId} {Z : State → Prop} {M : mx_M} {i : Nat} {Y : Sy} (hC : lx_C p s m c b L xs D ad cy) (hi : i + 5 ≤ L) (hL : L ≤ 2560) (hA : CoA M Y) (hB : MoA M Y) (ht : Y.1.2.2.1 3 + 100 < 2147483648) (kk : ∀ M2 : mx_M, CoA M2 Y → MoA M2 Y → lx_V p l e s m below meth c b D ad cy Z M2 835 (lx_l b ad (nI i)) []) : lx_V p l e s m below meth c b D ad cy Z M 432 (lx_l b ad (nI i)) [] := by
  refine lx_aload hC 1 dL_law_432 rfl ?_
  refine lx_arg hC 1 hi hL (by decide) (by decide) dL_law_433 dL_law_434 dL_law_435 dL_law_436 dL_law_437 ?_
  refine lx_arg hC 2 hi hL (by decide) (by decide) dL_law_438 dL_law_439 dL_law_440 dL_law_441 dL_law_442 ?_
  refine lx_call hC dL_law_443 cl_L_65 rfl (t_X7_bullet M Y hA (xs (i + 1)) (xs (i + 2))) rfl (by decide) rfl (Nat.le_of_ble_eq_true rfl) (fun v M1 hv => ?_)
  obtain ⟨rfl, hA1, hM1⟩ := hv
  have hB1 := hB.mo hM1
  refine lx_aload hC 2 dL_law_446 rfl ?_
  refine lx_arg hC 1 hi hL (by decide) (by decide) dL_law_447 dL_law_448 dL_law_449 dL_law_450 dL_law_451 ?_
  refine lx_arg hC 2 hi hL (by decide) (by decide) dL_law_452 dL_law_453 dL_law_454 dL_law_455 dL_law_456 ?_
  refine lx_call hC dL_law_457 cl_L_68 rfl (t_X8_bullet M1 Y hB1 (xs (i + 1)) (xs (i + 2))) rfl (by decide) rfl (Nat.le_of_ble_eq_true rfl) (fun v M2 hv => ?_)
  obtain ⟨rfl, hB2, hM2⟩ := hv
  exact lx_same hC dL_law_460 (by decide) (kk M2 (hA1.cl hM2) hB2)
theorem lc_at {p : Program} {l : Launch} {e : Env} {s : State} {m : MethodId} {below : List Frame} {meth : Method} {c : Code} {b L : Nat} {xs : Nat → Int32} {D : va_G} {ad : Nat → Nat} {cy : Nat → ClassId} {Z : State → Prop} {M : mx_M} {i : Nat} {Y : Sy} (hC : lx_C p s m c b L xs D ad cy) (hi : i + 5 ≤ L) (hL : L ≤ 2560) (hA : CoA M Y) (hB : MoA M Y) (ht : Y.1.2.2.1 3 + 100 < 2147483648) (kk : ∀ M2 : mx_M, CoA M2 Y → MoA M2 Y → lx_V p l e s m below meth c b D ad cy Z M2 835 (lx_l b ad (nI i)) []) : lx_V p l e s m below meth c b D ad cy Z M 465 (lx_l b ad (nI i)) [] := by
  refine lx_aload hC 1 dL_law_465 rfl ?_
  refine lx_arg hC 1 hi hL (by decide) (by decide) dL_law_466 dL_law_467 dL_law_468 dL_law_469 dL_law_470 ?_
  refine lx_arg hC 2 hi hL (by decide) (by decide) dL_law_471 dL_law_472 dL_law_473 dL_law_474 dL_law_475 ?_
  refine lx_call hC dL_law_476 cl_L_69 rfl (t_X7_at M Y hA (xs (i + 1)) (xs (i + 2))) rfl (by decide) rfl (Nat.le_of_ble_eq_true rfl) (fun v M1 hv => ?_)
  obtain ⟨rfl, hA1, hM1⟩ := hv
  have hB1 := hB.mo hM1
  refine lx_aload hC 2 dL_law_479 rfl ?_
  refine lx_arg hC 1 hi hL (by decide) (by decide) dL_law_480 dL_law_481 dL_law_482 dL_law_483 dL_law_484 ?_
  refine lx_arg hC 2 hi hL (by decide) (by decide) dL_law_485 dL_law_486 dL_law_487 dL_law_488 dL_law_489 ?_
  refine lx_call hC dL_law_490 cl_L_72 rfl (t_X8_at M1 Y hB1 (xs (i + 1)) (xs (i + 2))) rfl (by decide) rfl (Nat.le_of_ble_eq_true rfl) (fun v M2 hv => ?_)
  obtain ⟨rfl, hB2, hM2⟩ := hv
  exact lx_same hC dL_law_493 (by decide) (kk M2 (hA1.cl hM2) hB2)
theorem lc_count {p : Program} {l : Launch} {e : Env} {s : State} {m : MethodId} {below : List Frame} {meth : Method} {c : Code} {b L : Nat} {xs : Nat → Int32} {D : va_G} {ad : Nat → Nat} {cy : Nat → ClassId} {Z : State → Prop} {M : mx_M} {i : Nat} {Y : Sy} (hC : lx_C p s m c b L xs D ad cy) (hi : i + 5 ≤ L) (hL : L ≤ 2560) (hA : CoA M Y) (hB : MoA M Y) (ht : Y.1.2.2.1 3 + 100 < 2147483648) (kk : ∀ M2 : mx_M, CoA M2 Y → MoA M2 Y → lx_V p l e s m below meth c b D ad cy Z M2 835 (lx_l b ad (nI i)) []) : lx_V p l e s m below meth c b D ad cy Z M 498 (lx_l b ad (nI i)) [] := by
  refine lx_aload hC 1 dL_law_498 rfl ?_
  refine lx_arg hC 1 hi hL (by decide) (by decide) dL_law_499 dL_law_500 dL_law_501 dL_law_502 dL_law_503 ?_
  refine lx_call hC dL_law_504 cl_L_73 rfl (t_X7_count M Y hA (xs (i + 1))) rfl (by decide) rfl (Nat.le_of_ble_eq_true rfl) (fun v M1 hv => ?_)
  obtain ⟨rfl, hA1, hM1⟩ := hv
  have hB1 := hB.mo hM1
  refine lx_aload hC 2 dL_law_507 rfl ?_
  refine lx_arg hC 1 hi hL (by decide) (by decide) dL_law_508 dL_law_509 dL_law_510 dL_law_511 dL_law_512 ?_
  refine lx_call hC dL_law_513 cl_L_76 rfl (t_X8_count M1 Y hB1 (xs (i + 1))) rfl (by decide) rfl (Nat.le_of_ble_eq_true rfl) (fun v M2 hv => ?_)
  obtain ⟨rfl, hB2, hM2⟩ := hv
  exact lx_same hC dL_law_516 (by decide) (kk M2 (hA1.cl hM2) hB2)
theorem lc_free {p : Program} {l : Launch} {e : Env} {s : State} {m : MethodId} {below : List Frame} {meth : Method} {c : Code} {b L : Nat} {xs : Nat → Int32} {D : va_G} {ad : Nat → Nat} {cy : Nat → ClassId} {Z : State → Prop} {M : mx_M} {i : Nat} {Y : Sy} (hC : lx_C p s m c b L xs D ad cy) (hi : i + 5 ≤ L) (hL : L ≤ 2560) (hA : CoA M Y) (hB : MoA M Y) (ht : Y.1.2.2.1 3 + 100 < 2147483648) (kk : ∀ M2 : mx_M, CoA M2 Y → MoA M2 Y → lx_V p l e s m below meth c b D ad cy Z M2 835 (lx_l b ad (nI i)) []) : lx_V p l e s m below meth c b D ad cy Z M 521 (lx_l b ad (nI i)) [] := by
  refine lx_aload hC 1 dL_law_521 rfl ?_
  refine lx_arg hC 1 hi hL (by decide) (by decide) dL_law_522 dL_law_523 dL_law_524 dL_law_525 dL_law_526 ?_
  refine lx_call hC dL_law_527 cl_L_77 rfl (t_X7_free M Y hA ht (xs (i + 1))) rfl (by decide) rfl (Nat.le_of_ble_eq_true rfl) (fun v M1 hv => ?_)
  obtain ⟨rfl, hA1, hM1⟩ := hv
  have hB1 := hB.mo hM1
  refine lx_aload hC 2 dL_law_530 rfl ?_
  refine lx_arg hC 1 hi hL (by decide) (by decide) dL_law_531 dL_law_532 dL_law_533 dL_law_534 dL_law_535 ?_
  refine lx_call hC dL_law_536 cl_L_80 rfl (t_X8_free M1 Y hB1 ht (xs (i + 1))) rfl (by decide) rfl (Nat.le_of_ble_eq_true rfl) (fun v M2 hv => ?_)
  obtain ⟨rfl, hB2, hM2⟩ := hv
  exact lx_same hC dL_law_539 (by decide) (kk M2 (hA1.cl hM2) hB2)
theorem lc_lane {p : Program} {l : Launch} {e : Env} {s : State} {m : MethodId} {below : List Frame} {meth : Method} {c : Code} {b L : Nat} {xs : Nat → Int32} {D : va_G} {ad : Nat → Nat} {cy : Nat → ClassId} {Z : State → Prop} {M : mx_M} {i : Nat} {Y : Sy} (hC : lx_C p s m c b L xs D ad cy) (hi : i + 5 ≤ L) (hL : L ≤ 2560) (hA : CoA M Y) (hB : MoA M Y) (ht : Y.1.2.2.1 3 + 100 < 2147483648) (kk : ∀ M2 : mx_M, CoA M2 Y → MoA M2 Y → lx_V p l e s m below meth c b D ad cy Z M2 835 (lx_l b ad (nI i)) []) : lx_V p l e s m below meth c b D ad cy Z M 544 (lx_l b ad (nI i)) [] := by
  refine lx_aload hC 1 dL_law_544 rfl ?_
  refine lx_arg hC 1 hi hL (by decide) (by decide) dL_law_545 dL_law_546 dL_law_547 dL_law_548 dL_law_549 ?_
  refine lx_arg hC 2 hi hL (by decide) (by decide) dL_law_550 dL_law_551 dL_law_552 dL_law_553 dL_law_554 ?_
  refine lx_call hC dL_law_555 cl_L_81 rfl (t_X7_lane M Y hA ht (xs (i + 1)) (xs (i + 2))) rfl (by decide) rfl (Nat.le_of_ble_eq_true rfl) (fun v M1 hv => ?_)
  obtain ⟨rfl, hA1, hM1⟩ := hv
  have hB1 := hB.mo hM1
  refine lx_aload hC 2 dL_law_558 rfl ?_
  refine lx_arg hC 1 hi hL (by decide) (by decide) dL_law_559 dL_law_560 dL_law_561 dL_law_562 dL_law_563 ?_
  refine lx_arg hC 2 hi hL (by decide) (by decide) dL_law_564 dL_law_565 dL_law_566 dL_law_567 dL_law_568 ?_
  refine lx_call hC dL_law_569 cl_L_84 rfl (t_X8_lane M1 Y hB1 ht (xs (i + 1)) (xs (i + 2))) rfl (by decide) rfl (Nat.le_of_ble_eq_true rfl) (fun v M2 hv => ?_)
  obtain ⟨rfl, hB2, hM2⟩ := hv
  exact lx_same hC dL_law_572 (by decide) (kk M2 (hA1.cl hM2) hB2)
theorem lc_ends {p : Program} {l : Launch} {e : Env} {s : State} {m : MethodId} {below : List Frame} {meth : Method} {c : Code} {b L : Nat} {xs : Nat → Int32} {D : va_G} {ad : Nat → Nat} {cy : Nat → ClassId} {Z : State → Prop} {M : mx_M} {i : Nat} {Y : Sy} (hC : lx_C p s m c b L xs D ad cy) (hi : i + 5 ≤ L) (hL : L ≤ 2560) (hA : CoA M Y) (hB : MoA M Y) (ht : Y.1.2.2.1 3 + 100 < 2147483648) (kk : ∀ M2 : mx_M, CoA M2 Y → MoA M2 Y → lx_V p l e s m below meth c b D ad cy Z M2 835 (lx_l b ad (nI i)) []) : lx_V p l e s m below meth c b D ad cy Z M 577 (lx_l b ad (nI i)) [] := by
  refine lx_aload hC 1 dL_law_577 rfl ?_
  refine lx_arg hC 1 hi hL (by decide) (by decide) dL_law_578 dL_law_579 dL_law_580 dL_law_581 dL_law_582 ?_
  refine lx_arg hC 2 hi hL (by decide) (by decide) dL_law_583 dL_law_584 dL_law_585 dL_law_586 dL_law_587 ?_
  refine lx_call hC dL_law_588 cl_L_85 rfl (t_X7_ends M Y hA ht (xs (i + 1)) (xs (i + 2))) rfl (by decide) rfl (Nat.le_of_ble_eq_true rfl) (fun v M1 hv => ?_)
  obtain ⟨rfl, hA1, hM1⟩ := hv
  have hB1 := hB.mo hM1
  refine lx_aload hC 2 dL_law_591 rfl ?_
  refine lx_arg hC 1 hi hL (by decide) (by decide) dL_law_592 dL_law_593 dL_law_594 dL_law_595 dL_law_596 ?_
  refine lx_arg hC 2 hi hL (by decide) (by decide) dL_law_597 dL_law_598 dL_law_599 dL_law_600 dL_law_601 ?_
  refine lx_call hC dL_law_602 cl_L_88 rfl (t_X8_ends M1 Y hB1 ht (xs (i + 1)) (xs (i + 2))) rfl (by decide) rfl (Nat.le_of_ble_eq_true rfl) (fun v M2 hv => ?_)
  obtain ⟨rfl, hB2, hM2⟩ := hv
  exact lx_same hC dL_law_605 (by decide) (kk M2 (hA1.cl hM2) hB2)
theorem lc_way {p : Program} {l : Launch} {e : Env} {s : State} {m : MethodId} {below : List Frame} {meth : Method} {c : Code} {b L : Nat} {xs : Nat → Int32} {D : va_G} {ad : Nat → Nat} {cy : Nat → ClassId} {Z : State → Prop} {M : mx_M} {i : Nat} {Y : Sy} (hC : lx_C p s m c b L xs D ad cy) (hi : i + 5 ≤ L) (hL : L ≤ 2560) (hA : CoA M Y) (hB : MoA M Y) (ht : Y.1.2.2.1 3 + 100 < 2147483648) (kk : ∀ M2 : mx_M, CoA M2 Y → MoA M2 Y → lx_V p l e s m below meth c b D ad cy Z M2 835 (lx_l b ad (nI i)) []) : lx_V p l e s m below meth c b D ad cy Z M 610 (lx_l b ad (nI i)) [] := by
  refine lx_aload hC 1 dL_law_610 rfl ?_
  refine lx_arg hC 1 hi hL (by decide) (by decide) dL_law_611 dL_law_612 dL_law_613 dL_law_614 dL_law_615 ?_
  refine lx_arg hC 2 hi hL (by decide) (by decide) dL_law_616 dL_law_617 dL_law_618 dL_law_619 dL_law_620 ?_
  refine lx_call hC dL_law_621 cl_L_89 rfl (t_X7_way M Y hA ht (xs (i + 1)) (xs (i + 2))) rfl (by decide) rfl (Nat.le_of_ble_eq_true rfl) (fun v M1 hv => ?_)
  obtain ⟨rfl, hA1, hM1⟩ := hv
  have hB1 := hB.mo hM1
  refine lx_aload hC 2 dL_law_624 rfl ?_
  refine lx_arg hC 1 hi hL (by decide) (by decide) dL_law_625 dL_law_626 dL_law_627 dL_law_628 dL_law_629 ?_
  refine lx_arg hC 2 hi hL (by decide) (by decide) dL_law_630 dL_law_631 dL_law_632 dL_law_633 dL_law_634 ?_
  refine lx_call hC dL_law_635 cl_L_92 rfl (t_X8_way M1 Y hB1 ht (xs (i + 1)) (xs (i + 2))) rfl (by decide) rfl (Nat.le_of_ble_eq_true rfl) (fun v M2 hv => ?_)
  obtain ⟨rfl, hB2, hM2⟩ := hv
  exact lx_same hC dL_law_638 (by decide) (kk M2 (hA1.cl hM2) hB2)
theorem lc_asides {p : Program} {l : Launch} {e : Env} {s : State} {m : MethodId} {below : List Frame} {meth : Method} {c : Code} {b L : Nat} {xs : Nat → Int32} {D : va_G} {ad : Nat → Nat} {cy : Nat → ClassId} {Z : State → Prop} {M : mx_M} {i : Nat} {Y : Sy} (hC : lx_C p s m c b L xs D ad cy) (hi : i + 5 ≤ L) (hL : L ≤ 2560) (hA : CoA M Y) (hB : MoA M Y) (ht : Y.1.2.2.1 3 + 100 < 2147483648) (kk : ∀ M2 : mx_M, CoA M2 Y → MoA M2 Y → lx_V p l e s m below meth c b D ad cy Z M2 835 (lx_l b ad (nI i)) []) : lx_V p l e s m below meth c b D ad cy Z M 643 (lx_l b ad (nI i)) [] := by
  refine lx_aload hC 1 dL_law_643 rfl ?_
  refine lx_arg hC 1 hi hL (by decide) (by decide) dL_law_644 dL_law_645 dL_law_646 dL_law_647 dL_law_648 ?_
  refine lx_call hC dL_law_649 cl_L_93 rfl (t_X7_asides M Y hA ht (xs (i + 1))) rfl (by decide) rfl (Nat.le_of_ble_eq_true rfl) (fun v M1 hv => ?_)
  obtain ⟨rfl, hA1, hM1⟩ := hv
  have hB1 := hB.mo hM1
  refine lx_aload hC 2 dL_law_652 rfl ?_
  refine lx_arg hC 1 hi hL (by decide) (by decide) dL_law_653 dL_law_654 dL_law_655 dL_law_656 dL_law_657 ?_
  refine lx_call hC dL_law_658 cl_L_96 rfl (t_X8_asides M1 Y hB1 ht (xs (i + 1))) rfl (by decide) rfl (Nat.le_of_ble_eq_true rfl) (fun v M2 hv => ?_)
  obtain ⟨rfl, hB2, hM2⟩ := hv
  exact lx_same hC dL_law_661 (by decide) (kk M2 (hA1.cl hM2) hB2)
theorem lc_fair {p : Program} {l : Launch} {e : Env} {s : State} {m : MethodId} {below : List Frame} {meth : Method} {c : Code} {b L : Nat} {xs : Nat → Int32} {D : va_G} {ad : Nat → Nat} {cy : Nat → ClassId} {Z : State → Prop} {M : mx_M} {i : Nat} {Y : Sy} (hC : lx_C p s m c b L xs D ad cy) (hi : i + 5 ≤ L) (hL : L ≤ 2560) (hA : CoA M Y) (hB : MoA M Y) (ht : Y.1.2.2.1 3 + 100 < 2147483648) (kk : ∀ M2 : mx_M, CoA M2 Y → MoA M2 Y → lx_V p l e s m below meth c b D ad cy Z M2 835 (lx_l b ad (nI i)) []) : lx_V p l e s m below meth c b D ad cy Z M 666 (lx_l b ad (nI i)) [] := by
  refine lx_aload hC 1 dL_law_666 rfl ?_
  refine lx_call hC dL_law_667 cl_L_97 rfl (t_X7_fair M Y hA ht ) rfl (by decide) rfl (Nat.le_of_ble_eq_true rfl) (fun v M1 hv => ?_)
  obtain ⟨rfl, hA1, hM1⟩ := hv
  have hB1 := hB.mo hM1
  refine lx_aload hC 2 dL_law_670 rfl ?_
  refine lx_call hC dL_law_671 cl_L_100 rfl (t_X8_fair M1 Y hB1 ht ) rfl (by decide) rfl (Nat.le_of_ble_eq_true rfl) (fun v M2 hv => ?_)
  obtain ⟨rfl, hB2, hM2⟩ := hv
  exact lx_same hC dL_law_674 (by decide) (kk M2 (hA1.cl hM2) hB2)
theorem lc_shuts {p : Program} {l : Launch} {e : Env} {s : State} {m : MethodId} {below : List Frame} {meth : Method} {c : Code} {b L : Nat} {xs : Nat → Int32} {D : va_G} {ad : Nat → Nat} {cy : Nat → ClassId} {Z : State → Prop} {M : mx_M} {i : Nat} {Y : Sy} (hC : lx_C p s m c b L xs D ad cy) (hi : i + 5 ≤ L) (hL : L ≤ 2560) (hA : CoA M Y) (hB : MoA M Y) (ht : Y.1.2.2.1 3 + 100 < 2147483648) (kk : ∀ M2 : mx_M, CoA M2 Y → MoA M2 Y → lx_V p l e s m below meth c b D ad cy Z M2 835 (lx_l b ad (nI i)) []) : lx_V p l e s m below meth c b D ad cy Z M 679 (lx_l b ad (nI i)) [] := by
  refine lx_aload hC 1 dL_law_679 rfl ?_
  refine lx_arg hC 1 hi hL (by decide) (by decide) dL_law_680 dL_law_681 dL_law_682 dL_law_683 dL_law_684 ?_
  refine lx_call hC dL_law_685 cl_L_101 rfl (t_X7_shuts M Y hA ht (xs (i + 1))) rfl (by decide) rfl (Nat.le_of_ble_eq_true rfl) (fun v M1 hv => ?_)
  obtain ⟨rfl, hA1, hM1⟩ := hv
  have hB1 := hB.mo hM1
  refine lx_aload hC 2 dL_law_688 rfl ?_
  refine lx_arg hC 1 hi hL (by decide) (by decide) dL_law_689 dL_law_690 dL_law_691 dL_law_692 dL_law_693 ?_
  refine lx_call hC dL_law_694 cl_L_104 rfl (t_X8_shuts M1 Y hB1 ht (xs (i + 1))) rfl (by decide) rfl (Nat.le_of_ble_eq_true rfl) (fun v M2 hv => ?_)
  obtain ⟨rfl, hB2, hM2⟩ := hv
  exact lx_same hC dL_law_697 (by decide) (kk M2 (hA1.cl hM2) hB2)
theorem lc_ifStepped {p : Program} {l : Launch} {e : Env} {s : State} {m : MethodId} {below : List Frame} {meth : Method} {c : Code} {b L : Nat} {xs : Nat → Int32} {D : va_G} {ad : Nat → Nat} {cy : Nat → ClassId} {Z : State → Prop} {M : mx_M} {i : Nat} {Y : Sy} (hC : lx_C p s m c b L xs D ad cy) (hi : i + 5 ≤ L) (hL : L ≤ 2560) (hA : CoA M Y) (hB : MoA M Y) (ht : Y.1.2.2.1 3 + 100 < 2147483648) (kk : ∀ M2 : mx_M, CoA M2 Y → MoA M2 Y → lx_V p l e s m below meth c b D ad cy Z M2 835 (lx_l b ad (nI i)) []) : lx_V p l e s m below meth c b D ad cy Z M 702 (lx_l b ad (nI i)) [] := by
  refine lx_aload hC 1 dL_law_702 rfl ?_
  refine lx_arg hC 1 hi hL (by decide) (by decide) dL_law_703 dL_law_704 dL_law_705 dL_law_706 dL_law_707 ?_
  refine lx_arg hC 2 hi hL (by decide) (by decide) dL_law_708 dL_law_709 dL_law_710 dL_law_711 dL_law_712 ?_
  refine lx_arg hC 3 hi hL (by decide) (by decide) dL_law_713 dL_law_714 dL_law_715 dL_law_716 dL_law_717 ?_
  refine lx_call hC dL_law_718 cl_L_105 rfl (t_X7_ifStepped M Y hA ht (xs (i + 1)) (xs (i + 2)) (xs (i + 3))) rfl (by decide) rfl (Nat.le_of_ble_eq_true rfl) (fun v M1 hv => ?_)
  obtain ⟨rfl, hA1, hM1⟩ := hv
  have hB1 := hB.mo hM1
  refine lx_aload hC 2 dL_law_721 rfl ?_
  refine lx_arg hC 1 hi hL (by decide) (by decide) dL_law_722 dL_law_723 dL_law_724 dL_law_725 dL_law_726 ?_
  refine lx_arg hC 2 hi hL (by decide) (by decide) dL_law_727 dL_law_728 dL_law_729 dL_law_730 dL_law_731 ?_
  refine lx_arg hC 3 hi hL (by decide) (by decide) dL_law_732 dL_law_733 dL_law_734 dL_law_735 dL_law_736 ?_
  refine lx_call hC dL_law_737 cl_L_109 rfl (t_X8_ifStepped M1 Y hB1 ht (xs (i + 1)) (xs (i + 2)) (xs (i + 3))) rfl (by decide) rfl (Nat.le_of_ble_eq_true rfl) (fun v M2 hv => ?_)
  obtain ⟨rfl, hB2, hM2⟩ := hv
  exact lx_same hC dL_law_740 (by decide) (kk M2 (hA1.cl hM2) hB2)
theorem lc_undo {p : Program} {l : Launch} {e : Env} {s : State} {m : MethodId} {below : List Frame} {meth : Method} {c : Code} {b L : Nat} {xs : Nat → Int32} {D : va_G} {ad : Nat → Nat} {cy : Nat → ClassId} {Z : State → Prop} {M : mx_M} {i : Nat} {Y : Sy} (hC : lx_C p s m c b L xs D ad cy) (hi : i + 5 ≤ L) (hL : L ≤ 2560) (hA : CoA M Y) (hB : MoA M Y) (ht : Y.1.2.2.1 3 + 100 < 2147483648) (kk : ∀ M2 : mx_M, CoA M2 (oUndo Y).2 → MoA M2 (oUndo Y).2 → lx_V p l e s m below meth c b D ad cy Z M2 835 (lx_l b ad (nI i)) []) : lx_V p l e s m below meth c b D ad cy Z M 796 (lx_l b ad (nI i)) [] := by
  refine lx_aload hC 1 dL_law_796 rfl ?_
  refine lx_call hC dL_law_797 cl_L_115 rfl (t_X7_undo M Y hA ) rfl (by decide) rfl (Nat.le_of_ble_eq_true rfl) (fun v M1 hv => ?_)
  obtain ⟨rfl, hA1, hM1⟩ := hv
  have hB1 := hB.mo hM1
  refine lx_aload hC 2 dL_law_800 rfl ?_
  refine lx_call hC dL_law_801 cl_L_118 rfl (t_X8_undo M1 Y hB1 ) rfl (by decide) rfl (Nat.le_of_ble_eq_true rfl) (fun v M2 hv => ?_)
  obtain ⟨rfl, hB2, hM2⟩ := hv
  exact lx_same hC dL_law_804 (by decide) (kk M2 (hA1.cl hM2) hB2)
theorem lc_save {p : Program} {l : Launch} {e : Env} {s : State} {m : MethodId} {below : List Frame} {meth : Method} {c : Code} {b L : Nat} {xs : Nat → Int32} {D : va_G} {ad : Nat → Nat} {cy : Nat → ClassId} {Z : State → Prop} {M : mx_M} {i : Nat} {Y : Sy} (hC : lx_C p s m c b L xs D ad cy) (hi : i + 5 ≤ L) (hL : L ≤ 2560) (hA : CoA M Y) (hB : MoA M Y) (ht : Y.1.2.2.1 3 + 100 < 2147483648) (kk : ∀ M2 : mx_M, CoA M2 (oSave Y).2 → MoA M2 (oSave Y).2 → lx_V p l e s m below meth c b D ad cy Z M2 835 (lx_l b ad (nI i)) []) : lx_V p l e s m below meth c b D ad cy Z M 809 (lx_l b ad (nI i)) [] := by
  refine lx_aload hC 1 dL_law_809 rfl ?_
  refine lx_call hC dL_law_810 cl_L_119 rfl (t_X7_save M Y hA ) rfl (by decide) rfl (Nat.le_of_ble_eq_true rfl) (fun v M1 hv => ?_)
  obtain ⟨rfl, hA1, hM1⟩ := hv
  have hB1 := hB.mo hM1
  refine lx_aload hC 2 dL_law_813 rfl ?_
  refine lx_call hC dL_law_814 cl_L_122 rfl (t_X8_save M1 Y hB1 ) rfl (by decide) rfl (Nat.le_of_ble_eq_true rfl) (fun v M2 hv => ?_)
  obtain ⟨rfl, hB2, hM2⟩ := hv
  exact lx_same hC dL_law_817 (by decide) (kk M2 (hA1.cl hM2) hB2)
theorem lc_restore {p : Program} {l : Launch} {e : Env} {s : State} {m : MethodId} {below : List Frame} {meth : Method} {c : Code} {b L : Nat} {xs : Nat → Int32} {D : va_G} {ad : Nat → Nat} {cy : Nat → ClassId} {Z : State → Prop} {M : mx_M} {i : Nat} {Y : Sy} (hC : lx_C p s m c b L xs D ad cy) (hi : i + 5 ≤ L) (hL : L ≤ 2560) (hA : CoA M Y) (hB : MoA M Y) (ht : Y.1.2.2.1 3 + 100 < 2147483648) (kk : ∀ M2 : mx_M, CoA M2 (oRestore Y).2 → MoA M2 (oRestore Y).2 → lx_V p l e s m below meth c b D ad cy Z M2 835 (lx_l b ad (nI i)) []) : lx_V p l e s m below meth c b D ad cy Z M 822 (lx_l b ad (nI i)) [] := by
  refine lx_aload hC 1 dL_law_822 rfl ?_
  refine lx_call hC dL_law_823 cl_L_123 rfl (t_X7_restore M Y hA ) rfl (by decide) rfl (Nat.le_of_ble_eq_true rfl) (fun v M1 hv => ?_)
  obtain ⟨rfl, hA1, hM1⟩ := hv
  have hB1 := hB.mo hM1
  refine lx_aload hC 2 dL_law_826 rfl ?_
  refine lx_call hC dL_law_827 cl_L_126 rfl (t_X8_restore M1 Y hB1 ) rfl (by decide) rfl (Nat.le_of_ble_eq_true rfl) (fun v M2 hv => ?_)
  obtain ⟨rfl, hB2, hM2⟩ := hv
  exact lx_same hC dL_law_830 (by decide) (kk M2 (hA1.cl hM2) hB2)
