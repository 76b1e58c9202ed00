/-! from the constructor to the law's loop -/
set_option maxHeartbeats 2000000 in
set_option maxRecDepth 10000 in
theorem l_law8 {p : Program} {l : Launch} {e : Env} {s : State} {m : MethodId} {below : List Frame} {meth : Method} {c : Code} {b L : Nat} {xs : Nat → Int32} {D : va_G} {ad : Nat → Nat} {cy : Nat → ClassId} {Z : State → Prop} (hX0 : lx_C p s m c b L xs D ad cy) (hL260 : L ≤ 260) (kend : ∀ (M1 : mx_M) (Y : Sy) (ls : List (Option Value)), CoA M1 Y → lx_V p l e s m below meth c b D ad cy Z M1 397 ls [.int (nI 1)]) {M1 : mx_M} (hC : CoA M1 Y0s) : lx_V p l e s m below meth c b D ad cy Z M1 8 [some (.ref 143), some (.ref 0), none, none, none, none, none, none, none, none, none, none, none] [] := by
  refine lx_aload_n hX0 (pc' := 9) dL_law_8 rfl rfl ?_
  refine lx_callS hX0 (pc' := 12) dL_law_9 cl_L_118 (t_L_holds _ Y0s hC (Nat.zero_le _) F0s_I) rfl (by decide) rfl (Nat.le_of_ble_eq_true rfl) rfl (fun v N9 hv => ?_)
  obtain ⟨rfl, hC⟩ := hv
  refine lx_if_eq hX0 (tgt := 52) (pc' := 15) dL_law_12 (by decide) rfl (fun c12 => ?_) (fun c12 => ?_)
  · first | exact absurd c12 (by (simp (disch := omega) only [Int32.lt_iff_toInt_lt, Int32.le_iff_toInt_le, ← Int32.toInt_inj, ne_eq, not_true_eq_false, not_false_eq_true, nI_t, z_t, m1_t, m2_t, m3_t, m4_t, m9_t]) <;> omega) | exact absurd rfl c12
  · refine lx_aload_n hX0 (pc' := 16) dL_law_15 rfl rfl ?_
    refine lx_iconst hX0 (pc' := 17) (v := nI 0) dL_law_16 (by decide) rfl ?_
    refine lx_callS hX0 (pc' := 20) dL_law_17 cl_L_122 (t_L_would _ Y0s hC (Nat.zero_le _) F0s_I _) rfl (by decide) rfl (Nat.le_of_ble_eq_true rfl) rfl (fun v N17 hv => ?_)
    obtain ⟨rfl, hC⟩ := hv
    refine lx_if_eq hX0 (tgt := 52) (pc' := 23) dL_law_20 (by decide) rfl (fun c20 => ?_) (fun c20 => ?_)
    · first | exact absurd c20 (by (simp (disch := omega) only [Int32.lt_iff_toInt_lt, Int32.le_iff_toInt_le, ← Int32.toInt_inj, ne_eq, not_true_eq_false, not_false_eq_true, nI_t, z_t, m1_t, m2_t, m3_t, m4_t, m9_t]) <;> omega) | exact absurd rfl c20
    · refine lx_aload_n hX0 (pc' := 24) dL_law_23 rfl rfl ?_
      refine lx_callV hX0 (pc' := 27) dL_law_24 cl_L_125 (rfl) (t_undo0 _ Y0s hC rfl) rfl (by decide) rfl (Nat.le_of_ble_eq_true rfl) rfl (fun v N24 hv => ?_)
      obtain ⟨rfl, hC, -⟩ := hv
      refine lx_bipush hX0 (pc' := 29) (v := (-2)) dL_law_27 (by decide) rfl ?_
      refine lx_icmp_ne hX0 (tgt := 52) (pc' := 32) dL_law_29 (by decide) rfl (fun c29 => ?_) (fun c29 => ?_)
      · first | exact absurd c29 (by (simp (disch := omega) only [Int32.lt_iff_toInt_lt, Int32.le_iff_toInt_le, ← Int32.toInt_inj, ne_eq, not_true_eq_false, not_false_eq_true, nI_t, z_t, m1_t, m2_t, m3_t, m4_t, m9_t]) <;> omega) | exact absurd rfl c29
      · refine lx_aload_n hX0 (pc' := 33) dL_law_32 rfl rfl ?_
        refine lx_callV hX0 (pc' := 36) dL_law_33 cl_L_128 (rfl) (t_rest0 _ Y0s hC rfl) rfl (by decide) rfl (Nat.le_of_ble_eq_true rfl) rfl (fun v N33 hv => ?_)
        obtain ⟨rfl, hC, -⟩ := hv
        refine lx_bipush hX0 (pc' := 38) (v := (-2)) dL_law_36 (by decide) rfl ?_
        refine lx_icmp_ne hX0 (tgt := 52) (pc' := 41) dL_law_38 (by decide) rfl (fun c38 => ?_) (fun c38 => ?_)
        · first | exact absurd c38 (by (simp (disch := omega) only [Int32.lt_iff_toInt_lt, Int32.le_iff_toInt_le, ← Int32.toInt_inj, ne_eq, not_true_eq_false, not_false_eq_true, nI_t, z_t, m1_t, m2_t, m3_t, m4_t, m9_t]) <;> omega) | exact absurd rfl c38
        · refine lx_aload_n hX0 (pc' := 42) dL_law_41 rfl rfl ?_
          refine lx_callV hX0 (pc' := 45) dL_law_42 cl_L_131 (rfl) (t_sav _ Y0s hC) rfl (by decide) rfl (Nat.le_of_ble_eq_true rfl) rfl (fun v N42 hv => ?_)
          obtain ⟨rfl, hC, -⟩ := hv
          refine lx_if_ne hX0 (tgt := 52) (pc' := 48) dL_law_45 (by decide) rfl (fun c45 => ?_) (fun c45 => ?_)
          · exact absurd rfl c45
          · refine lx_iconst hX0 (pc' := 49) (v := nI 1) dL_law_48 (by decide) rfl ?_
            refine lx_goto hX0 (pc' := 53) dL_law_49 (by decide) ?_
            refine lx_xistore_n hX0 (pc' := 54) (ls' := [_, _, _, _, _, _, _, _, _, _, _, _, _]) dL_law_53 (by decide) rfl rfl rfl ?_
            refine lx_aload_n hX0 (pc' := 55) dL_law_54 rfl rfl ?_
            refine lx_callS hX0 (pc' := 58) dL_law_55 cl_L_82 (t_L_look _ (F0s, [], some F0s, []) hC (Nat.le_of_ble_eq_true rfl)) rfl (by decide) rfl (Nat.le_of_ble_eq_true rfl) rfl (fun v N55 hv => ?_)
            obtain ⟨rfl, hC⟩ := hv
            refine lx_lstore_n hX0 (pc' := 59) (ls' := [_, _, _, _, _, _, _, _, _, _, _, _, _]) dL_law_58 (by decide) rfl rfl rfl ?_
            refine lx_iconst hX0 (pc' := 60) (v := nI 0) dL_law_59 (by decide) rfl ?_
            refine lx_xistore hX0 (pc' := 62) (ls' := [_, _, _, _, _, _, _, _, _, _, _, _, _]) dL_law_60 (by decide) rfl rfl rfl ?_
            exact l_law62 hX0 hL260 kend 53 0 0 F0s (F0s, [], some F0s, []) none none none none none none _ (by omega) (by omega) (Nat.le_refl 0) ⟨F0s_I, Nat.le_refl 0, fun F hF => absurd hF List.not_mem_nil, rfl, F0s_I, Nat.le_refl 0⟩ hC

