/-! holds -/
theorem take_s {α : Type} {L : List α} {n : Nat} {x : α} (hx : L[n]? = some x) : L.take (n + 1) = L.take n ++ [x] := by
  rw [List.take_succ, hx]; rfl
theorem cnt_s {α : Type} {L : List α} {n : Nat} {x : α} (p : α → Bool) (hx : L[n]? = some x) : (L.take (n + 1)).countP p = (L.take n).countP p + (if p x = true then 1 else 0) := by
  rw [take_s hx, List.countP_append, List.countP_singleton]
theorem cnt_t {α : Type} {L : List α} {n : Nat} {x : α} (p : α → Bool) (hx : L[n]? = some x) (h : p x = true) : nI ((L.take n).countP p) + nI 1 = nI ((L.take (n + 1)).countP p) := by
  rw [cnt_s p hx, if_pos h, nI_add]
theorem cnt_f {α : Type} {L : List α} {n : Nat} {x : α} (p : α → Bool) (hx : L[n]? = some x) (h : ¬ p x = true) : nI ((L.take n).countP p) + nI 0 = nI ((L.take (n + 1)).countP p) := by
  rw [cnt_s p hx, if_neg h, nI_add]
theorem frB_t {L : List Bu} {n : Nat} {x : Bu} (hx : L[n]? = some x) (hv : BuV x) (h : ¬ x.1 = 11) : nI (frB (L.take n)) &&& nI 1023 = nI (frB (L.take (n + 1))) := by
  have := frB_s (L.take n) x ⟨hv.1, hv.2.1⟩
  rw [if_neg h] at this
  rw [this, take_s hx]
theorem frB_u {L : List Bu} {n : Nat} {x : Bu} (hx : L[n]? = some x) (hv : BuV x) (h : x.1 = 11) : nI (frB (L.take n)) &&& ((nI 1 <<< (nI x.2.1 &&& 31)) ^^^ (-1)) = nI (frB (L.take (n + 1))) := by
  have := frB_s (L.take n) x ⟨hv.1, hv.2.1⟩
  rw [if_pos h] at this
  rw [this, take_s hx]
theorem t_atx (M : mx_M) (Y : Sy) (hC : CoA M Y) {x : Bu} (hv : BuV x) : mx_T yX7_at cX7_at 3 (some .int) 2 [.ref 0, .int (nI x.1), .int (nI x.2.1)] M (fun v M' => v = some (.int (nI (Y.1.2.1.countP (atB x.1 x.2.1)))) ∧ CoA M' Y ∧ Mo M M') := by
  have h1 := hv.1
  have h2 := hv.2.1
  refine (t_X7_at M Y hC (nI x.1) (nI x.2.1)).post fun v M' h => ⟨h.1.trans ?_, h.2⟩
  unfold oAt
  rw [if_pos ⟨⟨nI_p0 (by omega), (nI_leI (by omega) (by omega)).mpr (by omega)⟩, nI_p0 (by omega), (nI_ltI (by omega) (by omega)).mpr h2⟩, tN_n (by omega), tN_n (by omega)]
theorem t_free0 (M : mx_M) (Y : Sy) (hC : CoA M Y) (ht : Y.1.2.2.1 3 + 100 < 2147483648) : mx_T yX7_free cX7_free 2 (some .int) 7 [.ref 0, .int (nI 0)] M (fun v M' => v = some (.int (nI (frB Y.1.2.1))) ∧ CoA M' Y ∧ Mo M M') :=
  (t_X7_free M Y hC ht (nI 0)).post fun v M' h => ⟨h.1, h.2⟩
set_option maxHeartbeats 2000000 in
set_option maxRecDepth 10000 in
theorem l_holdsE (Y : Sy) (ht : Y.1.2.2.1 3 ≤ 100000) (hF : FI Y.1) (Q : Option Value → mx_M → Prop) (kq : ∀ M1, CoA M1 Y → Q (some (.int (nI 1))) M1) (deep : Int32) (z5 z6 z7 z8 : Option Value) : ∀ (k : Nat) (i : Nat) (M1 : mx_M), Y.1.1.length < i + k → i ≤ Y.1.1.length → CoA M1 Y → mx_V cL_holds RL 9 (some .boolean) 8 396 [some (.ref 0), some (.int (nI (frB Y.1.2.1))), some (.int (deep)), some (.int (nI 1)), some (.int (nI i)), z5, z6, z7, z8] [] M1 Q := by
  obtain ⟨⟨⟨hE, hB, hV⟩, hs, hg, hd, hb, h7, h3, e7, e3, hab, hbt⟩, hcl⟩ := id hF
  obtain ⟨v0, v1, v2, v4, v5, v6, v7⟩ := id hV
  have hB60 := hB.1
  have hE4 := hE.1
  intro k
  induction k with
  | zero =>
    intro i M1 hk hi hC
    exact absurd hk (by omega)
  | succ k ih =>
    intro i M1 hk hi hC
    refine mx_iload (pc' := 398) dL_holds_396 rfl rfl ?_
    refine mx_aload_n (pc' := 399) dL_holds_398 rfl rfl ?_
    refine mx_iconst (pc' := 400) (v := nI 0) dL_holds_399 (by decide) rfl ?_
    refine mx_callV (pc' := 403) dL_holds_400 cl_L_13 (rfl) (t_c0 _ Y hC) rfl (by decide) rfl (Nat.le_of_ble_eq_true rfl) rfl (fun v N400 hv => ?_)
    obtain ⟨rfl, hC, -⟩ := hv
    refine mx_icmp_ge (tgt := 514) (pc' := 406) dL_holds_403 (by decide) rfl (fun c403 => ?_) (fun c403 => ?_)
    · have c403 := (nI_leI (by omega) (by omega)).mp c403
      refine mx_iload_n (pc' := 515) dL_holds_514 rfl rfl ?_
      refine mx_if_eq (tgt := 531) (pc' := 518) dL_holds_515 (by decide) rfl (fun c515 => ?_) (fun c515 => ?_)
      · exact absurd c515 (by simp (disch := omega) only [Int32.lt_iff_toInt_lt, Int32.le_iff_toInt_le, ← Int32.toInt_inj, ne_eq, nI_t, z_t, m1_t, m2_t, m3_t, m4_t, m9_t]; omega)
      · refine mx_aload_n (pc' := 519) dL_holds_518 rfl rfl ?_
        refine mx_iconst (pc' := 520) (v := nI 0) dL_holds_519 (by decide) rfl ?_
        refine mx_callV (pc' := 523) dL_holds_520 cl_L_31 (rfl) (t_free0 _ Y hC (Nat.lt_of_le_of_lt (Nat.add_le_add_right ht 100) (Nat.le_of_ble_eq_true rfl))) rfl (by decide) rfl (Nat.le_of_ble_eq_true rfl) rfl (fun v N520 hv => ?_)
        obtain ⟨rfl, hC, -⟩ := hv
        refine mx_iload_n (pc' := 524) dL_holds_523 rfl rfl ?_
        refine mx_icmp_ne (tgt := 531) (pc' := 527) dL_holds_524 (by decide) rfl (fun c524 => ?_) (fun c524 => ?_)
        · exact absurd rfl c524
        · refine mx_iconst (pc' := 528) (v := nI 1) dL_holds_527 (by decide) rfl ?_
          refine mx_goto (pc' := 532) dL_holds_528 (by decide) ?_
          refine mx_iret dL_holds_532 (Or.inr ⟨rfl, by decide⟩) ?_
          exact kq _ hC
    · have c403 := Nat.not_le.mp (fun z => c403 ((nI_leI (by omega) (by omega)).mpr z))
      obtain ⟨x, hx⟩ := get_lt c403
      obtain ⟨x1, x2, x3, x4, x5⟩ := hE.2 x (List.mem_of_getElem? hx)
      obtain ⟨w1, w2⟩ := wt_mod (t := Y.1.2.2.1 3) (show x.2.2.1 < 10 by omega) x5
      refine mx_iload_n (pc' := 407) dL_holds_406 rfl rfl ?_
      refine mx_if_eq (tgt := 514) (pc' := 410) dL_holds_407 (by decide) rfl (fun c407 => ?_) (fun c407 => ?_)
      · exact absurd c407 (by simp (disch := omega) only [Int32.lt_iff_toInt_lt, Int32.le_iff_toInt_le, ← Int32.toInt_inj, ne_eq, nI_t, z_t, m1_t, m2_t, m3_t, m4_t, m9_t]; omega)
      · refine mx_aload_n (pc' := 411) dL_holds_410 rfl rfl ?_
        refine mx_iload (pc' := 413) dL_holds_411 rfl rfl ?_
        refine mx_iconst (pc' := 414) (v := nI 0) dL_holds_413 (by decide) rfl ?_
        refine mx_callV (pc' := 417) dL_holds_414 cl_L_19 (rfl) (t_em0 _ Y hC (Nat.lt_of_le_of_lt (Nat.add_le_add_right ht 100) (Nat.le_of_ble_eq_true rfl)) hE4 hx) rfl (by decide) rfl (Nat.le_of_ble_eq_true rfl) rfl (fun v N414 hv => ?_)
        obtain ⟨rfl, hC, -⟩ := hv
        refine mx_if_lt (tgt := 506) (pc' := 420) dL_holds_417 (by decide) rfl (fun c417 => ?_) (fun c417 => ?_)
        · exact absurd c417 (by simp (disch := omega) only [Int32.lt_iff_toInt_lt, Int32.le_iff_toInt_le, ← Int32.toInt_inj, ne_eq, nI_t, z_t, m1_t, m2_t, m3_t, m4_t, m9_t]; omega)
        · refine mx_aload_n (pc' := 421) dL_holds_420 rfl rfl ?_
          refine mx_iload (pc' := 423) dL_holds_421 rfl rfl ?_
          refine mx_iconst (pc' := 424) (v := nI 0) dL_holds_423 (by decide) rfl ?_
          refine mx_callV (pc' := 427) dL_holds_424 cl_L_19 (rfl) (t_em0 _ Y hC (Nat.lt_of_le_of_lt (Nat.add_le_add_right ht 100) (Nat.le_of_ble_eq_true rfl)) hE4 hx) rfl (by decide) rfl (Nat.le_of_ble_eq_true rfl) rfl (fun v N424 hv => ?_)
          obtain ⟨rfl, hC, -⟩ := hv
          refine mx_bipush (pc' := 429) (v := nI 10) dL_holds_427 (by decide) rfl ?_
          refine mx_icmp_ge (tgt := 506) (pc' := 432) dL_holds_429 (by decide) rfl (fun c429 => ?_) (fun c429 => ?_)
          · exact absurd c429 (by simp (disch := omega) only [Int32.lt_iff_toInt_lt, Int32.le_iff_toInt_le, ← Int32.toInt_inj, ne_eq, nI_t, z_t, m1_t, m2_t, m3_t, m4_t, m9_t]; omega)
          · refine mx_aload_n (pc' := 433) dL_holds_432 rfl rfl ?_
            refine mx_iload (pc' := 435) dL_holds_433 rfl rfl ?_
            refine mx_iconst (pc' := 436) (v := nI 1) dL_holds_435 (by decide) rfl ?_
            refine mx_callV (pc' := 439) dL_holds_436 cl_L_19 (rfl) (t_em1 _ Y hC (Nat.lt_of_le_of_lt (Nat.add_le_add_right ht 100) (Nat.le_of_ble_eq_true rfl)) hE4 hx) rfl (by decide) rfl (Nat.le_of_ble_eq_true rfl) rfl (fun v N436 hv => ?_)
            obtain ⟨rfl, hC, -⟩ := hv
            refine mx_if_lt (tgt := 506) (pc' := 442) dL_holds_439 (by decide) rfl (fun c439 => ?_) (fun c439 => ?_)
            · exact absurd c439 (by simp (disch := omega) only [Int32.lt_iff_toInt_lt, Int32.le_iff_toInt_le, ← Int32.toInt_inj, ne_eq, nI_t, z_t, m1_t, m2_t, m3_t, m4_t, m9_t]; omega)
            · refine mx_aload_n (pc' := 443) dL_holds_442 rfl rfl ?_
              refine mx_iload (pc' := 445) dL_holds_443 rfl rfl ?_
              refine mx_iconst (pc' := 446) (v := nI 1) dL_holds_445 (by decide) rfl ?_
              refine mx_callV (pc' := 449) dL_holds_446 cl_L_19 (rfl) (t_em1 _ Y hC (Nat.lt_of_le_of_lt (Nat.add_le_add_right ht 100) (Nat.le_of_ble_eq_true rfl)) hE4 hx) rfl (by decide) rfl (Nat.le_of_ble_eq_true rfl) rfl (fun v N446 hv => ?_)
              obtain ⟨rfl, hC, -⟩ := hv
              refine mx_bipush (pc' := 451) (v := nI 6) dL_holds_449 (by decide) rfl ?_
              refine mx_icmp_ge (tgt := 506) (pc' := 454) dL_holds_451 (by decide) rfl (fun c451 => ?_) (fun c451 => ?_)
              · exact absurd c451 (by simp (disch := omega) only [Int32.lt_iff_toInt_lt, Int32.le_iff_toInt_le, ← Int32.toInt_inj, ne_eq, nI_t, z_t, m1_t, m2_t, m3_t, m4_t, m9_t]; omega)
              · refine mx_aload_n (pc' := 455) dL_holds_454 rfl rfl ?_
                refine mx_iload (pc' := 457) dL_holds_455 rfl rfl ?_
                refine mx_iconst (pc' := 458) (v := nI 3) dL_holds_457 (by decide) rfl ?_
                refine mx_callV (pc' := 461) dL_holds_458 cl_L_19 (rfl) (t_em3 _ Y hC (Nat.lt_of_le_of_lt (Nat.add_le_add_right ht 100) (Nat.le_of_ble_eq_true rfl)) hE4 hx) rfl (by decide) rfl (Nat.le_of_ble_eq_true rfl) rfl (fun v N458 hv => ?_)
                obtain ⟨rfl, hC, -⟩ := hv
                refine mx_aload_n (pc' := 462) dL_holds_461 rfl rfl ?_
                refine mx_iload (pc' := 464) dL_holds_462 rfl rfl ?_
                refine mx_iconst (pc' := 465) (v := nI 2) dL_holds_464 (by decide) rfl ?_
                refine mx_callV (pc' := 468) dL_holds_465 cl_L_19 (rfl) (t_em2 _ Y hC (Nat.lt_of_le_of_lt (Nat.add_le_add_right ht 100) (Nat.le_of_ble_eq_true rfl)) hE4 hx) rfl (by decide) rfl (Nat.le_of_ble_eq_true rfl) rfl (fun v N465 hv => ?_)
                obtain ⟨rfl, hC, -⟩ := hv
                refine mx_icmp_ge (tgt := 506) (pc' := 471) dL_holds_468 (by decide) rfl (fun c468 => ?_) (fun c468 => ?_)
                · exact absurd c468 (by simp (disch := omega) only [Int32.lt_iff_toInt_lt, Int32.le_iff_toInt_le, ← Int32.toInt_inj, ne_eq, nI_t, z_t, m1_t, m2_t, m3_t, m4_t, m9_t]; omega)
                · refine mx_aload_n (pc' := 472) dL_holds_471 rfl rfl ?_
                  refine mx_iconst (pc' := 473) (v := nI 5) dL_holds_472 (by decide) rfl ?_
                  refine mx_callV (pc' := 476) dL_holds_473 cl_L_13 (rfl) (t_c5 _ Y hC) rfl (by decide) rfl (Nat.le_of_ble_eq_true rfl) rfl (fun v N473 hv => ?_)
                  obtain ⟨rfl, hC, -⟩ := hv
                  refine mx_aload_n (pc' := 477) dL_holds_476 rfl rfl ?_
                  refine mx_iload (pc' := 479) dL_holds_477 rfl rfl ?_
                  refine mx_iconst (pc' := 480) (v := nI 4) dL_holds_479 (by decide) rfl ?_
                  refine mx_callV (pc' := 483) dL_holds_480 cl_L_19 (rfl) (t_em4 _ Y hC (Nat.lt_of_le_of_lt (Nat.add_le_add_right ht 100) (Nat.le_of_ble_eq_true rfl)) hE4 hx) rfl (by decide) rfl (Nat.le_of_ble_eq_true rfl) rfl (fun v N480 hv => ?_)
                  obtain ⟨rfl, hC, -⟩ := hv
                  refine mx_iadd (pc' := 484) (v := nI (Y.1.2.2.1 3 + wtF x.2.2.1 x.2.2.2 (Y.1.2.2.1 3))) dL_holds_483 (nI_add _ _) rfl ?_
                  refine mx_aload_n (pc' := 485) dL_holds_484 rfl rfl ?_
                  refine mx_iload (pc' := 487) dL_holds_485 rfl rfl ?_
                  refine mx_iconst (pc' := 488) (v := nI 2) dL_holds_487 (by decide) rfl ?_
                  refine mx_callV (pc' := 491) dL_holds_488 cl_L_19 (rfl) (t_em2 _ Y hC (Nat.lt_of_le_of_lt (Nat.add_le_add_right ht 100) (Nat.le_of_ble_eq_true rfl)) hE4 hx) rfl (by decide) rfl (Nat.le_of_ble_eq_true rfl) rfl (fun v N488 hv => ?_)
                  obtain ⟨rfl, hC, -⟩ := hv
                  refine mx_irem (pc' := 492) (v := nI x.2.2.2) dL_holds_491 (nI_nez (by omega) (by omega)) ((pk_rem (by omega) (by omega) (by omega)).trans (congrArg nI w1)) rfl ?_
                  refine mx_aload_n (pc' := 493) dL_holds_492 rfl rfl ?_
                  refine mx_iload (pc' := 495) dL_holds_493 rfl rfl ?_
                  refine mx_iconst (pc' := 496) (v := nI 3) dL_holds_495 (by decide) rfl ?_
                  refine mx_callV (pc' := 499) dL_holds_496 cl_L_19 (rfl) (t_em3 _ Y hC (Nat.lt_of_le_of_lt (Nat.add_le_add_right ht 100) (Nat.le_of_ble_eq_true rfl)) hE4 hx) rfl (by decide) rfl (Nat.le_of_ble_eq_true rfl) rfl (fun v N496 hv => ?_)
                  obtain ⟨rfl, hC, -⟩ := hv
                  refine mx_icmp_ne (tgt := 506) (pc' := 502) dL_holds_499 (by decide) rfl (fun c499 => ?_) (fun c499 => ?_)
                  · exact absurd rfl c499
                  · refine mx_iconst (pc' := 503) (v := nI 1) dL_holds_502 (by decide) rfl ?_
                    refine mx_goto (pc' := 507) dL_holds_503 (by decide) ?_
                    refine mx_xistore_n (pc' := 508) (ls' := [_, _, _, _, _, _, _, _, _]) dL_holds_507 (by decide) rfl rfl rfl ?_
                    refine mx_xiinc (pc' := 511) (ls' := [_, _, _, _, _, _, _, _, _]) (v := nI (i + 1)) dL_holds_508 rfl (nI_add i 1) (by decide) (rfl) rfl rfl ?_
                    refine mx_goto (pc' := 396) dL_holds_511 (by decide) ?_
                    exact ih (i + 1) _ (by omega) (by omega) hC

set_option maxHeartbeats 2000000 in
set_option maxRecDepth 10000 in
theorem l_holdsN (Y : Sy) (ht : Y.1.2.2.1 3 ≤ 100000) (hF : FI Y.1) (now deep n : Int32) {x : Bu} (Q : Option Value → mx_M → Prop) (kk : ∀ M1, CoA M1 Y → mx_V cL_holds RL 9 (some .boolean) 8 277 [some (.ref 0), some (.int (now)), some (.int (deep)), some (.int (nI 1)), some (.int (n)), some (.int (nI x.1)), some (.int (nI x.2.1)), some (.int (nI (Y.1.2.1.countP (atB x.1 x.2.1)))), some (.int (nI Y.1.2.1.length))] [] M1 Q) (hxV : BuV x) : ∀ (k : Nat) (i : Nat) (M1 : mx_M), Y.1.2.1.length < i + k → i ≤ Y.1.2.1.length → CoA M1 Y → mx_V cL_holds RL 9 (some .boolean) 8 227 [some (.ref 0), some (.int (now)), some (.int (deep)), some (.int (nI 1)), some (.int (n)), some (.int (nI x.1)), some (.int (nI x.2.1)), some (.int (nI ((Y.1.2.1.take i).countP (atB x.1 x.2.1)))), some (.int (nI i))] [] M1 Q := by
  obtain ⟨⟨⟨hE, hB, hV⟩, hs, hg, hd, hb, h7, h3, e7, e3, hab, hbt⟩, hcl⟩ := id hF
  obtain ⟨v0, v1, v2, v4, v5, v6, v7⟩ := id hV
  have hB60 := hB.1
  have hE4 := hE.1
  obtain ⟨x1, x2, -, -, -⟩ := id hxV
  intro k
  induction k with
  | zero =>
    intro i M1 hk hi hC
    exact absurd hk (by omega)
  | succ k ih =>
    intro i M1 hk hi hC
    refine mx_iload (pc' := 229) dL_holds_227 rfl rfl ?_
    refine mx_aload_n (pc' := 230) dL_holds_229 rfl rfl ?_
    refine mx_iconst (pc' := 231) (v := nI 1) dL_holds_230 (by decide) rfl ?_
    refine mx_callV (pc' := 234) dL_holds_231 cl_L_13 (rfl) (t_c1 _ Y hC) rfl (by decide) rfl (Nat.le_of_ble_eq_true rfl) rfl (fun v N231 hv => ?_)
    obtain ⟨rfl, hC, -⟩ := hv
    refine mx_icmp_ge (tgt := 277) (pc' := 237) dL_holds_234 (by decide) rfl (fun c234 => ?_) (fun c234 => ?_)
    · have c234 := (nI_leI (by omega) (by omega)).mp c234
      have hiN : i = Y.1.2.1.length := by omega
      subst hiN
      rw [List.take_length]
      exact kk _ hC
    · have c234 := Nat.not_le.mp (fun z => c234 ((nI_leI (by omega) (by omega)).mpr z))
      obtain ⟨y, hy⟩ := get_lt c234
      obtain ⟨y1, y2, -, -, -⟩ := hB.2 y (List.mem_of_getElem? hy)
      refine mx_iload (pc' := 239) dL_holds_237 rfl rfl ?_
      refine mx_aload_n (pc' := 240) dL_holds_239 rfl rfl ?_
      refine mx_iload (pc' := 242) dL_holds_240 rfl rfl ?_
      refine mx_iconst (pc' := 243) (v := nI 0) dL_holds_242 (by decide) rfl ?_
      refine mx_callV (pc' := 246) dL_holds_243 cl_L_23 (rfl) (t_bu0 _ Y hC hB60 hy) rfl (by decide) rfl (Nat.le_of_ble_eq_true rfl) rfl (fun v N243 hv => ?_)
      obtain ⟨rfl, hC, -⟩ := hv
      refine mx_iload (pc' := 248) dL_holds_246 rfl rfl ?_
      refine mx_icmp_ne (tgt := 267) (pc' := 251) dL_holds_248 (by decide) rfl (fun c248 => ?_) (fun c248 => ?_)
      · have c248 : ¬ y.1 = x.1 := fun z => c248 (by rw [z])
        refine mx_iconst (pc' := 268) (v := nI 0) dL_holds_267 (by decide) rfl ?_
        refine mx_iadd (pc' := 269) (v := nI ((Y.1.2.1.take (i + 1)).countP (atB x.1 x.2.1))) dL_holds_268 (cnt_f _ hy (by simp [atB, c248])) rfl ?_
        refine mx_xistore (pc' := 271) (ls' := [_, _, _, _, _, _, _, _, _]) dL_holds_269 (by decide) rfl rfl rfl ?_
        refine mx_xiinc (pc' := 274) (ls' := [_, _, _, _, _, _, _, _, _]) (v := nI (i + 1)) dL_holds_271 rfl (nI_add i 1) (by decide) (rfl) rfl rfl ?_
        refine mx_goto (pc' := 227) dL_holds_274 (by decide) ?_
        exact ih (i + 1) _ (by omega) (by omega) hC
      · have c248 : y.1 = x.1 := (nI_eq (by omega) (by omega)).mp c248
        refine mx_aload_n (pc' := 252) dL_holds_251 rfl rfl ?_
        refine mx_iload (pc' := 254) dL_holds_252 rfl rfl ?_
        refine mx_iconst (pc' := 255) (v := nI 1) dL_holds_254 (by decide) rfl ?_
        refine mx_callV (pc' := 258) dL_holds_255 cl_L_23 (rfl) (t_bu1 _ Y hC hB60 hy) rfl (by decide) rfl (Nat.le_of_ble_eq_true rfl) rfl (fun v N255 hv => ?_)
        obtain ⟨rfl, hC, -⟩ := hv
        refine mx_iload (pc' := 260) dL_holds_258 rfl rfl ?_
        refine mx_icmp_ne (tgt := 267) (pc' := 263) dL_holds_260 (by decide) rfl (fun c260 => ?_) (fun c260 => ?_)
        · have c260 : ¬ y.2.1 = x.2.1 := fun z => c260 (by rw [z])
          refine mx_iconst (pc' := 268) (v := nI 0) dL_holds_267 (by decide) rfl ?_
          refine mx_iadd (pc' := 269) (v := nI ((Y.1.2.1.take (i + 1)).countP (atB x.1 x.2.1))) dL_holds_268 (cnt_f _ hy (by simp [atB, c260])) rfl ?_
          refine mx_xistore (pc' := 271) (ls' := [_, _, _, _, _, _, _, _, _]) dL_holds_269 (by decide) rfl rfl rfl ?_
          refine mx_xiinc (pc' := 274) (ls' := [_, _, _, _, _, _, _, _, _]) (v := nI (i + 1)) dL_holds_271 rfl (nI_add i 1) (by decide) (rfl) rfl rfl ?_
          refine mx_goto (pc' := 227) dL_holds_274 (by decide) ?_
          exact ih (i + 1) _ (by omega) (by omega) hC
        · have c260 : y.2.1 = x.2.1 := (nI_eq (by omega) (by omega)).mp c260
          refine mx_iconst (pc' := 264) (v := nI 1) dL_holds_263 (by decide) rfl ?_
          refine mx_goto (pc' := 268) dL_holds_264 (by decide) ?_
          refine mx_iadd (pc' := 269) (v := nI ((Y.1.2.1.take (i + 1)).countP (atB x.1 x.2.1))) dL_holds_268 (cnt_t _ hy (by simp [atB, c248, c260])) rfl ?_
          refine mx_xistore (pc' := 271) (ls' := [_, _, _, _, _, _, _, _, _]) dL_holds_269 (by decide) rfl rfl rfl ?_
          refine mx_xiinc (pc' := 274) (ls' := [_, _, _, _, _, _, _, _, _]) (v := nI (i + 1)) dL_holds_271 rfl (nI_add i 1) (by decide) (rfl) rfl rfl ?_
          refine mx_goto (pc' := 227) dL_holds_274 (by decide) ?_
          exact ih (i + 1) _ (by omega) (by omega) hC

set_option maxHeartbeats 2000000 in
set_option maxRecDepth 10000 in
theorem l_holdsB (Y : Sy) (ht : Y.1.2.2.1 3 ≤ 100000) (hF : FI Y.1) (Q : Option Value → mx_M → Prop) (kq : ∀ M1, CoA M1 Y → Q (some (.int (nI 1))) M1) : ∀ (k : Nat) (i deep : Nat) (z5 z6 z7 z8 : Option Value) (M1 : mx_M), Y.1.2.1.length < i + k → i ≤ Y.1.2.1.length → CoA M1 Y → deep < 12 → (∀ (m : Nat) (y : Bu), i ≤ m → Y.1.2.1[m]? = some y → y.1 ≤ deep) → mx_V cL_holds RL 9 (some .boolean) 8 189 [some (.ref 0), some (.int (nI (frB (Y.1.2.1.take i)))), some (.int (nI deep)), some (.int (nI 1)), some (.int (nI i)), z5, z6, z7, z8] [] M1 Q := by
  obtain ⟨⟨⟨hE, hB, hV⟩, hs, hg, hd, hb, h7, h3, e7, e3, hab, hbt⟩, hcl⟩ := id hF
  obtain ⟨v0, v1, v2, v4, v5, v6, v7⟩ := id hV
  have hB60 := hB.1
  have hE4 := hE.1
  intro k
  induction k with
  | zero =>
    intro i deep z5 z6 z7 z8 M1 hk hi hC hdp hdq
    exact absurd hk (by omega)
  | succ k ih =>
    intro i deep z5 z6 z7 z8 M1 hk hi hC hdp hdq
    refine mx_iload (pc' := 191) dL_holds_189 rfl rfl ?_
    refine mx_aload_n (pc' := 192) dL_holds_191 rfl rfl ?_
    refine mx_iconst (pc' := 193) (v := nI 1) dL_holds_192 (by decide) rfl ?_
    refine mx_callV (pc' := 196) dL_holds_193 cl_L_13 (rfl) (t_c1 _ Y hC) rfl (by decide) rfl (Nat.le_of_ble_eq_true rfl) rfl (fun v N193 hv => ?_)
    obtain ⟨rfl, hC, -⟩ := hv
    refine mx_icmp_ge (tgt := 393) (pc' := 199) dL_holds_196 (by decide) rfl (fun c196 => ?_) (fun c196 => ?_)
    · have c196 := (nI_leI (by omega) (by omega)).mp c196
      have hiN : i = Y.1.2.1.length := by omega
      subst hiN
      rw [List.take_length]
      refine mx_iconst (pc' := 394) (v := nI 0) dL_holds_393 (by decide) rfl ?_
      refine mx_xistore (pc' := 396) (ls' := [_, _, _, _, _, _, _, _, _]) dL_holds_394 (by decide) rfl rfl rfl ?_
      exact l_holdsE Y ht hF Q kq _ _ _ _ _ (Y.1.1.length + 1) 0 _ (by omega) (by omega) hC
    · have c196 := Nat.not_le.mp (fun z => c196 ((nI_leI (by omega) (by omega)).mpr z))
      obtain ⟨x, hx⟩ := get_lt c196
      have hxm := List.mem_of_getElem? hx
      have hxV := hB.2 x hxm
      obtain ⟨x1, x2, -, -, x5⟩ := id hxV
      have hdx := hdq i x (Nat.le_refl i) hx
      have hs2 : ∀ (m : Nat) (y : Bu), i < m → Y.1.2.1[m]? = some y → y.1 ≤ x.1 := fun m y hm hy => by
        obtain ⟨q1, rfl⟩ := List.getElem?_eq_some_iff.mp hx
        obtain ⟨q2, rfl⟩ := List.getElem?_eq_some_iff.mp hy
        exact List.pairwise_iff_getElem.mp hs i m q1 q2 hm
      refine mx_iload_n (pc' := 200) dL_holds_199 rfl rfl ?_
      refine mx_if_eq (tgt := 393) (pc' := 203) dL_holds_200 (by decide) rfl (fun c200 => ?_) (fun c200 => ?_)
      · exact absurd c200 (by simp (disch := omega) only [Int32.lt_iff_toInt_lt, Int32.le_iff_toInt_le, ← Int32.toInt_inj, ne_eq, nI_t, z_t, m1_t, m2_t, m3_t, m4_t, m9_t]; omega)
      · refine mx_aload_n (pc' := 204) dL_holds_203 rfl rfl ?_
        refine mx_iload (pc' := 206) dL_holds_204 rfl rfl ?_
        refine mx_iconst (pc' := 207) (v := nI 0) dL_holds_206 (by decide) rfl ?_
        refine mx_callV (pc' := 210) dL_holds_207 cl_L_23 (rfl) (t_bu0 _ Y hC hB60 hx) rfl (by decide) rfl (Nat.le_of_ble_eq_true rfl) rfl (fun v N207 hv => ?_)
        obtain ⟨rfl, hC, -⟩ := hv
        refine mx_xistore (pc' := 212) (ls' := [_, _, _, _, _, _, _, _, _]) dL_holds_210 (by decide) rfl rfl rfl ?_
        refine mx_aload_n (pc' := 213) dL_holds_212 rfl rfl ?_
        refine mx_iload (pc' := 215) dL_holds_213 rfl rfl ?_
        refine mx_iconst (pc' := 216) (v := nI 1) dL_holds_215 (by decide) rfl ?_
        refine mx_callV (pc' := 219) dL_holds_216 cl_L_23 (rfl) (t_bu1 _ Y hC hB60 hx) rfl (by decide) rfl (Nat.le_of_ble_eq_true rfl) rfl (fun v N216 hv => ?_)
        obtain ⟨rfl, hC, -⟩ := hv
        refine mx_xistore (pc' := 221) (ls' := [_, _, _, _, _, _, _, _, _]) dL_holds_219 (by decide) rfl rfl rfl ?_
        refine mx_iconst (pc' := 222) (v := nI 0) dL_holds_221 (by decide) rfl ?_
        refine mx_xistore (pc' := 224) (ls' := [_, _, _, _, _, _, _, _, _]) dL_holds_222 (by decide) rfl rfl rfl ?_
        refine mx_iconst (pc' := 225) (v := nI 0) dL_holds_224 (by decide) rfl ?_
        refine mx_xistore (pc' := 227) (ls' := [_, _, _, _, _, _, _, _, _]) dL_holds_225 (by decide) rfl rfl rfl ?_
        refine l_holdsN Y ht hF _ _ _ Q (fun M2 hC => ?_) hxV (Y.1.2.1.length + 1) 0 _ (by omega) (by omega) hC
        have k298 : ∀ M1, CoA M1 Y → mx_V cL_holds RL 9 (some .boolean) 8 298 [some (.ref 0), some (.int (nI (frB (Y.1.2.1.take i)))), some (.int (nI deep)), some (.int (nI 1)), some (.int (nI i)), some (.int (nI x.1)), some (.int (nI x.2.1)), some (.int (nI (Y.1.2.1.countP (atB x.1 x.2.1)))), some (.int (nI Y.1.2.1.length))] [.int (nI (frB (Y.1.2.1.take (i + 1))))] M1 Q := by
          intro M1 hC
          refine mx_xistore_n (pc' := 299) (ls' := [_, _, _, _, _, _, _, _, _]) dL_holds_298 (by decide) rfl rfl rfl ?_
          refine mx_iload (pc' := 301) dL_holds_299 rfl rfl ?_
          refine mx_if_lt (tgt := 382) (pc' := 304) dL_holds_301 (by decide) rfl (fun c301 => ?_) (fun c301 => ?_)
          · exact absurd c301 (by simp (disch := omega) only [Int32.lt_iff_toInt_lt, Int32.le_iff_toInt_le, ← Int32.toInt_inj, ne_eq, nI_t, z_t, m1_t, m2_t, m3_t, m4_t, m9_t]; omega)
          · refine mx_iload (pc' := 306) dL_holds_304 rfl rfl ?_
            refine mx_iload_n (pc' := 307) dL_holds_306 rfl rfl ?_
            refine mx_icmp_gt (tgt := 382) (pc' := 310) dL_holds_307 (by decide) rfl (fun c307 => ?_) (fun c307 => ?_)
            · exact absurd c307 (by simp (disch := omega) only [Int32.lt_iff_toInt_lt, Int32.le_iff_toInt_le, ← Int32.toInt_inj, ne_eq, nI_t, z_t, m1_t, m2_t, m3_t, m4_t, m9_t]; omega)
            · refine mx_iload (pc' := 312) dL_holds_310 rfl rfl ?_
              refine mx_if_lt (tgt := 382) (pc' := 315) dL_holds_312 (by decide) rfl (fun c312 => ?_) (fun c312 => ?_)
              · exact absurd c312 (by simp (disch := omega) only [Int32.lt_iff_toInt_lt, Int32.le_iff_toInt_le, ← Int32.toInt_inj, ne_eq, nI_t, z_t, m1_t, m2_t, m3_t, m4_t, m9_t]; omega)
              · refine mx_iload (pc' := 317) dL_holds_315 rfl rfl ?_
                refine mx_bipush (pc' := 319) (v := nI 10) dL_holds_317 (by decide) rfl ?_
                refine mx_icmp_ge (tgt := 382) (pc' := 322) dL_holds_319 (by decide) rfl (fun c319 => ?_) (fun c319 => ?_)
                · exact absurd c319 (by simp (disch := omega) only [Int32.lt_iff_toInt_lt, Int32.le_iff_toInt_le, ← Int32.toInt_inj, ne_eq, nI_t, z_t, m1_t, m2_t, m3_t, m4_t, m9_t]; omega)
                · refine mx_aload_n (pc' := 323) dL_holds_322 rfl rfl ?_
                  refine mx_iload (pc' := 325) dL_holds_323 rfl rfl ?_
                  refine mx_iload (pc' := 327) dL_holds_325 rfl rfl ?_
                  refine mx_callV (pc' := 330) dL_holds_327 cl_L_28 (rfl) (t_atx _ Y hC hxV) rfl (by decide) rfl (Nat.le_of_ble_eq_true rfl) rfl (fun v N327 hv => ?_)
                  obtain ⟨rfl, hC, -⟩ := hv
                  refine mx_iload (pc' := 332) dL_holds_330 rfl rfl ?_
                  refine mx_icmp_ne (tgt := 382) (pc' := 335) dL_holds_332 (by decide) rfl (fun c332 => ?_) (fun c332 => ?_)
                  · exact absurd rfl c332
                  · refine mx_aload_n (pc' := 336) dL_holds_335 rfl rfl ?_
                    refine mx_iload (pc' := 338) dL_holds_336 rfl rfl ?_
                    refine mx_iconst (pc' := 339) (v := nI 4) dL_holds_338 (by decide) rfl ?_
                    refine mx_callV (pc' := 342) dL_holds_339 cl_L_23 (rfl) (t_bu4 _ Y hC hB60 hx) rfl (by decide) rfl (Nat.le_of_ble_eq_true rfl) rfl (fun v N339 hv => ?_)
                    obtain ⟨rfl, hC, -⟩ := hv
                    refine mx_if_eq (tgt := 352) (pc' := 345) dL_holds_342 (by decide) rfl (fun c342 => ?_) (fun c342 => ?_)
                    · 
                      refine mx_iload (pc' := 354) dL_holds_352 rfl rfl ?_
                      refine mx_bipush (pc' := 356) (v := nI 11) dL_holds_354 (by decide) rfl ?_
                      refine mx_icmp_lt (tgt := 378) (pc' := 359) dL_holds_356 (by decide) rfl (fun c356 => ?_) (fun c356 => ?_)
                      · 
                        refine mx_iconst (pc' := 379) (v := nI 1) dL_holds_378 (by decide) rfl ?_
                        refine mx_goto (pc' := 383) dL_holds_379 (by decide) ?_
                        refine mx_xistore_n (pc' := 384) (ls' := [_, _, _, _, _, _, _, _, _]) dL_holds_383 (by decide) rfl rfl rfl ?_
                        refine mx_iload (pc' := 386) dL_holds_384 rfl rfl ?_
                        refine mx_xistore_n (pc' := 387) (ls' := [_, _, _, _, _, _, _, _, _]) dL_holds_386 (by decide) rfl rfl rfl ?_
                        refine mx_xiinc (pc' := 390) (ls' := [_, _, _, _, _, _, _, _, _]) (v := nI (i + 1)) dL_holds_387 rfl (nI_add i 1) (by decide) (rfl) rfl rfl ?_
                        refine mx_goto (pc' := 189) dL_holds_390 (by decide) ?_
                        exact ih (i + 1) x.1 _ _ _ _ _ (by omega) (by omega) hC (by omega) (fun m y hm hy => hs2 m y (by omega) hy)
                      · 
                        refine mx_iload (pc' := 361) dL_holds_359 rfl rfl ?_
                        refine mx_aload_n (pc' := 362) dL_holds_361 rfl rfl ?_
                        refine mx_iconst (pc' := 363) (v := nI 2) dL_holds_362 (by decide) rfl ?_
                        refine mx_callV (pc' := 366) dL_holds_363 cl_L_13 (rfl) (t_c2 _ Y hC) rfl (by decide) rfl (Nat.le_of_ble_eq_true rfl) rfl (fun v N363 hv => ?_)
                        obtain ⟨rfl, hC, -⟩ := hv
                        refine mx_icmp_ne (tgt := 378) (pc' := 369) dL_holds_366 (by decide) rfl (fun c366 => ?_) (fun c366 => ?_)
                        · 
                          refine mx_iconst (pc' := 379) (v := nI 1) dL_holds_378 (by decide) rfl ?_
                          refine mx_goto (pc' := 383) dL_holds_379 (by decide) ?_
                          refine mx_xistore_n (pc' := 384) (ls' := [_, _, _, _, _, _, _, _, _]) dL_holds_383 (by decide) rfl rfl rfl ?_
                          refine mx_iload (pc' := 386) dL_holds_384 rfl rfl ?_
                          refine mx_xistore_n (pc' := 387) (ls' := [_, _, _, _, _, _, _, _, _]) dL_holds_386 (by decide) rfl rfl rfl ?_
                          refine mx_xiinc (pc' := 390) (ls' := [_, _, _, _, _, _, _, _, _]) (v := nI (i + 1)) dL_holds_387 rfl (nI_add i 1) (by decide) (rfl) rfl rfl ?_
                          refine mx_goto (pc' := 189) dL_holds_390 (by decide) ?_
                          exact ih (i + 1) x.1 _ _ _ _ _ (by omega) (by omega) hC (by omega) (fun m y hm hy => hs2 m y (by omega) hy)
                        · exact absurd ((nI_eq (by omega) (by omega)).mp c366) (hcl x hxm (by have := Nat.not_lt.mp (fun z => c356 ((nI_ltI (by omega) (by omega)).mpr z)); omega))
                    · have c342 : ¬ x.2.2.2.2 = 0 := fun z => c342 (by rw [z]; rfl)
                      have hgx := hg x hxm
                      refine mx_iload (pc' := 347) dL_holds_345 rfl rfl ?_
                      refine mx_bipush (pc' := 349) (v := nI 9) dL_holds_347 (by decide) rfl ?_
                      refine mx_icmp_le (tgt := 382) (pc' := 352) dL_holds_349 (by decide) rfl (fun c349 => ?_) (fun c349 => ?_)
                      · exact absurd c349 (by simp (disch := omega) only [Int32.lt_iff_toInt_lt, Int32.le_iff_toInt_le, ← Int32.toInt_inj, ne_eq, nI_t, z_t, m1_t, m2_t, m3_t, m4_t, m9_t]; omega)
                      · refine mx_iload (pc' := 354) dL_holds_352 rfl rfl ?_
                        refine mx_bipush (pc' := 356) (v := nI 11) dL_holds_354 (by decide) rfl ?_
                        refine mx_icmp_lt (tgt := 378) (pc' := 359) dL_holds_356 (by decide) rfl (fun c356 => ?_) (fun c356 => ?_)
                        · 
                          refine mx_iconst (pc' := 379) (v := nI 1) dL_holds_378 (by decide) rfl ?_
                          refine mx_goto (pc' := 383) dL_holds_379 (by decide) ?_
                          refine mx_xistore_n (pc' := 384) (ls' := [_, _, _, _, _, _, _, _, _]) dL_holds_383 (by decide) rfl rfl rfl ?_
                          refine mx_iload (pc' := 386) dL_holds_384 rfl rfl ?_
                          refine mx_xistore_n (pc' := 387) (ls' := [_, _, _, _, _, _, _, _, _]) dL_holds_386 (by decide) rfl rfl rfl ?_
                          refine mx_xiinc (pc' := 390) (ls' := [_, _, _, _, _, _, _, _, _]) (v := nI (i + 1)) dL_holds_387 rfl (nI_add i 1) (by decide) (rfl) rfl rfl ?_
                          refine mx_goto (pc' := 189) dL_holds_390 (by decide) ?_
                          exact ih (i + 1) x.1 _ _ _ _ _ (by omega) (by omega) hC (by omega) (fun m y hm hy => hs2 m y (by omega) hy)
                        · 
                          refine mx_iload (pc' := 361) dL_holds_359 rfl rfl ?_
                          refine mx_aload_n (pc' := 362) dL_holds_361 rfl rfl ?_
                          refine mx_iconst (pc' := 363) (v := nI 2) dL_holds_362 (by decide) rfl ?_
                          refine mx_callV (pc' := 366) dL_holds_363 cl_L_13 (rfl) (t_c2 _ Y hC) rfl (by decide) rfl (Nat.le_of_ble_eq_true rfl) rfl (fun v N363 hv => ?_)
                          obtain ⟨rfl, hC, -⟩ := hv
                          refine mx_icmp_ne (tgt := 378) (pc' := 369) dL_holds_366 (by decide) rfl (fun c366 => ?_) (fun c366 => ?_)
                          · 
                            refine mx_iconst (pc' := 379) (v := nI 1) dL_holds_378 (by decide) rfl ?_
                            refine mx_goto (pc' := 383) dL_holds_379 (by decide) ?_
                            refine mx_xistore_n (pc' := 384) (ls' := [_, _, _, _, _, _, _, _, _]) dL_holds_383 (by decide) rfl rfl rfl ?_
                            refine mx_iload (pc' := 386) dL_holds_384 rfl rfl ?_
                            refine mx_xistore_n (pc' := 387) (ls' := [_, _, _, _, _, _, _, _, _]) dL_holds_386 (by decide) rfl rfl rfl ?_
                            refine mx_xiinc (pc' := 390) (ls' := [_, _, _, _, _, _, _, _, _]) (v := nI (i + 1)) dL_holds_387 rfl (nI_add i 1) (by decide) (rfl) rfl rfl ?_
                            refine mx_goto (pc' := 189) dL_holds_390 (by decide) ?_
                            exact ih (i + 1) x.1 _ _ _ _ _ (by omega) (by omega) hC (by omega) (fun m y hm hy => hs2 m y (by omega) hy)
                          · exact absurd ((nI_eq (by omega) (by omega)).mp c366) (hcl x hxm (by have := Nat.not_lt.mp (fun z => c356 ((nI_ltI (by omega) (by omega)).mpr z)); omega))
        refine mx_iload_n (pc' := 278) dL_holds_277 rfl rfl ?_
        refine mx_iload (pc' := 280) dL_holds_278 rfl rfl ?_
        refine mx_bipush (pc' := 282) (v := nI 11) dL_holds_280 (by decide) rfl ?_
        refine mx_icmp_ne (tgt := 294) (pc' := 285) dL_holds_282 (by decide) rfl (fun c282 => ?_) (fun c282 => ?_)
        · have c282 : ¬ x.1 = 11 := fun z => c282 (by rw [z])
          refine mx_sipush (pc' := 297) (v := nI 1023) dL_holds_294 (by decide) rfl ?_
          refine mx_iand (pc' := 298) (v := nI (frB (Y.1.2.1.take (i + 1)))) dL_holds_297 (frB_t hx hxV c282) rfl ?_
          exact k298 _ hC
        · have c282 : x.1 = 11 := (nI_eq (by omega) (by omega)).mp c282
          refine mx_iconst (pc' := 286) (v := nI 1) dL_holds_285 (by decide) rfl ?_
          refine mx_iload (pc' := 288) dL_holds_286 rfl rfl ?_
          refine mx_ishl (pc' := 289) dL_holds_288 (rfl) rfl ?_
          refine mx_iconst (pc' := 290) (v := (-1)) dL_holds_289 (by decide) rfl ?_
          refine mx_ixor (pc' := 291) dL_holds_290 (rfl) rfl ?_
          refine mx_goto (pc' := 297) dL_holds_291 (by decide) ?_
          refine mx_iand (pc' := 298) (v := nI (frB (Y.1.2.1.take (i + 1)))) dL_holds_297 (frB_u hx hxV c282) rfl ?_
          exact k298 _ hC

set_option maxHeartbeats 2000000 in
set_option maxRecDepth 10000 in
theorem t_L_holds (M : mx_M) (Y : Sy) (hC : CoA M Y) (ht : Y.1.2.2.1 3 ≤ 100000) (hF : FI Y.1) : mx_T yL_holds cL_holds 9 (some .boolean) 8 [.ref 0] M (fun v M' => v = some (.int (nI 1)) ∧ CoA M' Y) := by
  obtain ⟨⟨⟨hE, hB, hV⟩, hs, hg, hd, hb, h7, h3, e7, e3, hab, hbt⟩, hcl⟩ := id hF
  obtain ⟨v0, v1, v2, v4, v5, v6, v7⟩ := id hV
  have hB60 := hB.1
  have hE4 := hE.1
  refine mx_T.of1 (own := RL) (ls := [some (.ref 0), none, none, none, none, none, none, none, none]) (by decide +kernel) rfl (Nat.le_of_ble_eq_true rfl) rfl rfl ?_
  refine mx_sipush (pc' := 3) (v := nI 1023) dL_holds_0 (by decide) rfl ?_
  refine mx_xistore_n (pc' := 4) (ls' := [_, _, _, _, _, _, _, _, _]) dL_holds_3 (by decide) rfl rfl rfl ?_
  refine mx_bipush (pc' := 6) (v := nI 11) dL_holds_4 (by decide) rfl ?_
  refine mx_xistore_n (pc' := 7) (ls' := [_, _, _, _, _, _, _, _, _]) dL_holds_6 (by decide) rfl rfl rfl ?_
  refine mx_aload_n (pc' := 8) dL_holds_7 rfl rfl ?_
  refine mx_iconst (pc' := 9) (v := nI 0) dL_holds_8 (by decide) rfl ?_
  refine mx_callV (pc' := 12) dL_holds_9 cl_L_13 (rfl) (t_c0 _ Y hC) rfl (by decide) rfl (Nat.le_of_ble_eq_true rfl) rfl (fun v N9 hv => ?_)
  obtain ⟨rfl, hC, -⟩ := hv
  refine mx_iconst (pc' := 13) (v := nI 4) dL_holds_12 (by decide) rfl ?_
  refine mx_icmp_gt (tgt := 184) (pc' := 16) dL_holds_13 (by decide) rfl (fun c13 => ?_) (fun c13 => ?_)
  · exact absurd c13 (by simp (disch := omega) only [Int32.lt_iff_toInt_lt, Int32.le_iff_toInt_le, ← Int32.toInt_inj, ne_eq, nI_t, z_t, m1_t, m2_t, m3_t, m4_t, m9_t]; omega)
  · refine mx_aload_n (pc' := 17) dL_holds_16 rfl rfl ?_
    refine mx_iconst (pc' := 18) (v := nI 1) dL_holds_17 (by decide) rfl ?_
    refine mx_callV (pc' := 21) dL_holds_18 cl_L_13 (rfl) (t_c1 _ Y hC) rfl (by decide) rfl (Nat.le_of_ble_eq_true rfl) rfl (fun v N18 hv => ?_)
    obtain ⟨rfl, hC, -⟩ := hv
    refine mx_bipush (pc' := 23) (v := nI 60) dL_holds_21 (by decide) rfl ?_
    refine mx_icmp_gt (tgt := 184) (pc' := 26) dL_holds_23 (by decide) rfl (fun c23 => ?_) (fun c23 => ?_)
    · exact absurd c23 (by simp (disch := omega) only [Int32.lt_iff_toInt_lt, Int32.le_iff_toInt_le, ← Int32.toInt_inj, ne_eq, nI_t, z_t, m1_t, m2_t, m3_t, m4_t, m9_t]; omega)
    · refine mx_aload_n (pc' := 27) dL_holds_26 rfl rfl ?_
      refine mx_iconst (pc' := 28) (v := nI 2) dL_holds_27 (by decide) rfl ?_
      refine mx_callV (pc' := 31) dL_holds_28 cl_L_13 (rfl) (t_c2 _ Y hC) rfl (by decide) rfl (Nat.le_of_ble_eq_true rfl) rfl (fun v N28 hv => ?_)
      obtain ⟨rfl, hC, -⟩ := hv
      refine mx_if_lt (tgt := 184) (pc' := 34) dL_holds_31 (by decide) rfl (fun c31 => ?_) (fun c31 => ?_)
      · exact absurd c31 (by simp (disch := omega) only [Int32.lt_iff_toInt_lt, Int32.le_iff_toInt_le, ← Int32.toInt_inj, ne_eq, nI_t, z_t, m1_t, m2_t, m3_t, m4_t, m9_t]; omega)
      · refine mx_aload_n (pc' := 35) dL_holds_34 rfl rfl ?_
        refine mx_iconst (pc' := 36) (v := nI 2) dL_holds_35 (by decide) rfl ?_
        refine mx_callV (pc' := 39) dL_holds_36 cl_L_13 (rfl) (t_c2 _ Y hC) rfl (by decide) rfl (Nat.le_of_ble_eq_true rfl) rfl (fun v N36 hv => ?_)
        obtain ⟨rfl, hC, -⟩ := hv
        refine mx_bipush (pc' := 41) (v := nI 10) dL_holds_39 (by decide) rfl ?_
        refine mx_icmp_ge (tgt := 184) (pc' := 44) dL_holds_41 (by decide) rfl (fun c41 => ?_) (fun c41 => ?_)
        · exact absurd c41 (by simp (disch := omega) only [Int32.lt_iff_toInt_lt, Int32.le_iff_toInt_le, ← Int32.toInt_inj, ne_eq, nI_t, z_t, m1_t, m2_t, m3_t, m4_t, m9_t]; omega)
        · refine mx_aload_n (pc' := 45) dL_holds_44 rfl rfl ?_
          refine mx_iconst (pc' := 46) (v := nI 3) dL_holds_45 (by decide) rfl ?_
          refine mx_callV (pc' := 49) dL_holds_46 cl_L_13 (rfl) (t_c3 _ Y hC) rfl (by decide) rfl (Nat.le_of_ble_eq_true rfl) rfl (fun v N46 hv => ?_)
          obtain ⟨rfl, hC, -⟩ := hv
          refine mx_if_lt (tgt := 184) (pc' := 52) dL_holds_49 (by decide) rfl (fun c49 => ?_) (fun c49 => ?_)
          · exact absurd c49 (by simp (disch := omega) only [Int32.lt_iff_toInt_lt, Int32.le_iff_toInt_le, ← Int32.toInt_inj, ne_eq, nI_t, z_t, m1_t, m2_t, m3_t, m4_t, m9_t]; omega)
          · refine mx_aload_n (pc' := 53) dL_holds_52 rfl rfl ?_
            refine mx_iconst (pc' := 54) (v := nI 3) dL_holds_53 (by decide) rfl ?_
            refine mx_callV (pc' := 57) dL_holds_54 cl_L_13 (rfl) (t_c3 _ Y hC) rfl (by decide) rfl (Nat.le_of_ble_eq_true rfl) rfl (fun v N54 hv => ?_)
            obtain ⟨rfl, hC, -⟩ := hv
            refine mx_iconst (pc' := 58) (v := nI 3) dL_holds_57 (by decide) rfl ?_
            refine mx_icmp_gt (tgt := 184) (pc' := 61) dL_holds_58 (by decide) rfl (fun c58 => ?_) (fun c58 => ?_)
            · exact absurd c58 (by simp (disch := omega) only [Int32.lt_iff_toInt_lt, Int32.le_iff_toInt_le, ← Int32.toInt_inj, ne_eq, nI_t, z_t, m1_t, m2_t, m3_t, m4_t, m9_t]; omega)
            · refine mx_aload_n (pc' := 62) dL_holds_61 rfl rfl ?_
              refine mx_iconst (pc' := 63) (v := nI 4) dL_holds_62 (by decide) rfl ?_
              refine mx_callV (pc' := 66) dL_holds_63 cl_L_13 (rfl) (t_c4 _ Y hC) rfl (by decide) rfl (Nat.le_of_ble_eq_true rfl) rfl (fun v N63 hv => ?_)
              obtain ⟨rfl, hC, -⟩ := hv
              refine mx_if_lt (tgt := 184) (pc' := 69) dL_holds_66 (by decide) rfl (fun c66 => ?_) (fun c66 => ?_)
              · exact absurd c66 (by simp (disch := omega) only [Int32.lt_iff_toInt_lt, Int32.le_iff_toInt_le, ← Int32.toInt_inj, ne_eq, nI_t, z_t, m1_t, m2_t, m3_t, m4_t, m9_t]; omega)
              · refine mx_aload_n (pc' := 70) dL_holds_69 rfl rfl ?_
                refine mx_iconst (pc' := 71) (v := nI 4) dL_holds_70 (by decide) rfl ?_
                refine mx_callV (pc' := 74) dL_holds_71 cl_L_13 (rfl) (t_c4 _ Y hC) rfl (by decide) rfl (Nat.le_of_ble_eq_true rfl) rfl (fun v N71 hv => ?_)
                obtain ⟨rfl, hC, -⟩ := hv
                refine mx_iconst (pc' := 75) (v := nI 2) dL_holds_74 (by decide) rfl ?_
                refine mx_icmp_gt (tgt := 184) (pc' := 78) dL_holds_75 (by decide) rfl (fun c75 => ?_) (fun c75 => ?_)
                · exact absurd c75 (by simp (disch := omega) only [Int32.lt_iff_toInt_lt, Int32.le_iff_toInt_le, ← Int32.toInt_inj, ne_eq, nI_t, z_t, m1_t, m2_t, m3_t, m4_t, m9_t]; omega)
                · refine mx_aload_n (pc' := 79) dL_holds_78 rfl rfl ?_
                  refine mx_bipush (pc' := 81) (v := nI 7) dL_holds_79 (by decide) rfl ?_
                  refine mx_callV (pc' := 84) dL_holds_81 cl_L_13 (rfl) (t_c7 _ Y hC) rfl (by decide) rfl (Nat.le_of_ble_eq_true rfl) rfl (fun v N81 hv => ?_)
                  obtain ⟨rfl, hC, -⟩ := hv
                  refine mx_aload_n (pc' := 85) dL_holds_84 rfl rfl ?_
                  refine mx_iconst (pc' := 86) (v := nI 1) dL_holds_85 (by decide) rfl ?_
                  refine mx_callV (pc' := 89) dL_holds_86 cl_L_13 (rfl) (t_c1 _ Y hC) rfl (by decide) rfl (Nat.le_of_ble_eq_true rfl) rfl (fun v N86 hv => ?_)
                  obtain ⟨rfl, hC, -⟩ := hv
                  refine mx_aload_n (pc' := 90) dL_holds_89 rfl rfl ?_
                  refine mx_bipush (pc' := 92) (v := nI 9) dL_holds_90 (by decide) rfl ?_
                  refine mx_callV (pc' := 95) dL_holds_92 cl_L_13 (rfl) (t_c9 _ Y hC) rfl (by decide) rfl (Nat.le_of_ble_eq_true rfl) rfl (fun v N92 hv => ?_)
                  obtain ⟨rfl, hC, -⟩ := hv
                  refine mx_iadd (pc' := 96) dL_holds_95 (rfl) rfl ?_
                  refine mx_aload_n (pc' := 97) dL_holds_96 rfl rfl ?_
                  refine mx_bipush (pc' := 99) (v := nI 10) dL_holds_97 (by decide) rfl ?_
                  refine mx_callV (pc' := 102) dL_holds_99 cl_L_13 (rfl) (t_c10 _ Y hC) rfl (by decide) rfl (Nat.le_of_ble_eq_true rfl) rfl (fun v N99 hv => ?_)
                  obtain ⟨rfl, hC, -⟩ := hv
                  refine mx_iadd (pc' := 103) dL_holds_102 (rfl) rfl ?_
                  refine mx_aload_n (pc' := 104) dL_holds_103 rfl rfl ?_
                  refine mx_bipush (pc' := 106) (v := nI 11) dL_holds_104 (by decide) rfl ?_
                  refine mx_callV (pc' := 109) dL_holds_106 cl_L_13 (rfl) (t_c11 _ Y hC) rfl (by decide) rfl (Nat.le_of_ble_eq_true rfl) rfl (fun v N106 hv => ?_)
                  obtain ⟨rfl, hC, -⟩ := hv
                  refine mx_iadd (pc' := 110) dL_holds_109 (rfl) rfl ?_
                  refine mx_aload_n (pc' := 111) dL_holds_110 rfl rfl ?_
                  refine mx_bipush (pc' := 113) (v := nI 12) dL_holds_111 (by decide) rfl ?_
                  refine mx_callV (pc' := 116) dL_holds_113 cl_L_13 (rfl) (t_c12 _ Y hC) rfl (by decide) rfl (Nat.le_of_ble_eq_true rfl) rfl (fun v N113 hv => ?_)
                  obtain ⟨rfl, hC, -⟩ := hv
                  refine mx_iadd (pc' := 117) dL_holds_116 (rfl) rfl ?_
                  refine mx_icmp_ne (tgt := 184) (pc' := 120) dL_holds_117 (by decide) rfl (fun c117 => ?_) (fun c117 => ?_)
                  · exact absurd hb c117
                  · have k137 : ∀ M1, CoA M1 Y → mx_V cL_holds RL 9 (some .boolean) 8 137 [some (.ref 0), some (.int (nI 1023)), some (.int (nI 11)), none, none, none, none, none, none] [] M1 (fun v M2 => v = some (.int (nI 1)) ∧ CoA M2 Y) := by
                      intro M1 hC
                      refine mx_aload_n (pc' := 138) dL_holds_137 rfl rfl ?_
                      refine mx_bipush (pc' := 140) (v := nI 14) dL_holds_138 (by decide) rfl ?_
                      refine mx_callV (pc' := 143) dL_holds_140 cl_L_13 (rfl) (t_c14 _ Y hC) rfl (by decide) rfl (Nat.le_of_ble_eq_true rfl) rfl (fun v N140 hv => ?_)
                      obtain ⟨rfl, hC, -⟩ := hv
                      refine mx_aload_n (pc' := 144) dL_holds_143 rfl rfl ?_
                      refine mx_bipush (pc' := 146) (v := nI 10) dL_holds_144 (by decide) rfl ?_
                      refine mx_callV (pc' := 149) dL_holds_146 cl_L_13 (rfl) (t_c10 _ Y hC) rfl (by decide) rfl (Nat.le_of_ble_eq_true rfl) rfl (fun v N146 hv => ?_)
                      obtain ⟨rfl, hC, -⟩ := hv
                      refine mx_icmp_gt (tgt := 184) (pc' := 152) dL_holds_149 (by decide) rfl (fun c149 => ?_) (fun c149 => ?_)
                      · exact absurd c149 (by rw [e7, e3]; simp (disch := omega) only [Int32.lt_iff_toInt_lt, Int32.le_iff_toInt_le, ← Int32.toInt_inj, ne_eq, nI_t, z_t, m1_t, m2_t, m3_t, m4_t, m9_t]; omega)
                      · refine mx_aload_n (pc' := 153) dL_holds_152 rfl rfl ?_
                        refine mx_aload_n (pc' := 154) dL_holds_153 rfl rfl ?_
                        refine mx_iconst (pc' := 155) (v := nI 1) dL_holds_154 (by decide) rfl ?_
                        refine mx_callV (pc' := 158) dL_holds_155 cl_L_13 (rfl) (t_c1 _ Y hC) rfl (by decide) rfl (Nat.le_of_ble_eq_true rfl) rfl (fun v N155 hv => ?_)
                        obtain ⟨rfl, hC, -⟩ := hv
                        refine mx_iconst (pc' := 159) (v := nI 0) dL_holds_158 (by decide) rfl ?_
                        refine mx_callV (pc' := 162) dL_holds_159 cl_L_23 (rfl) (t_X7_bullet _ Y hC _ _) rfl (by decide) rfl (Nat.le_of_ble_eq_true rfl) rfl (fun v N159 hv => ?_)
                        obtain ⟨rfl, hC, -⟩ := hv
                        refine mx_iconst (pc' := 163) (v := (-1)) dL_holds_162 (by decide) rfl ?_
                        refine mx_icmp_ne (tgt := 184) (pc' := 166) dL_holds_163 (by decide) rfl (fun c163 => ?_) (fun c163 => ?_)
                        · exact absurd (oBullet_end hB60 _) c163
                        · refine mx_aload_n (pc' := 167) dL_holds_166 rfl rfl ?_
                          refine mx_aload_n (pc' := 168) dL_holds_167 rfl rfl ?_
                          refine mx_iconst (pc' := 169) (v := nI 0) dL_holds_168 (by decide) rfl ?_
                          refine mx_callV (pc' := 172) dL_holds_169 cl_L_13 (rfl) (t_c0 _ Y hC) rfl (by decide) rfl (Nat.le_of_ble_eq_true rfl) rfl (fun v N169 hv => ?_)
                          obtain ⟨rfl, hC, -⟩ := hv
                          refine mx_iconst (pc' := 173) (v := nI 0) dL_holds_172 (by decide) rfl ?_
                          refine mx_callV (pc' := 176) dL_holds_173 cl_L_19 (rfl) (t_X7_emitterOf _ Y hC (Nat.lt_of_le_of_lt (Nat.add_le_add_right ht 100) (Nat.le_of_ble_eq_true rfl)) _ _) rfl (by decide) rfl (Nat.le_of_ble_eq_true rfl) rfl (fun v N173 hv => ?_)
                          obtain ⟨rfl, hC, -⟩ := hv
                          refine mx_iconst (pc' := 177) (v := (-1)) dL_holds_176 (by decide) rfl ?_
                          refine mx_icmp_ne (tgt := 184) (pc' := 180) dL_holds_177 (by decide) rfl (fun c177 => ?_) (fun c177 => ?_)
                          · exact absurd (oEmitterOf_end hE4 _) c177
                          · refine mx_iconst (pc' := 181) (v := nI 1) dL_holds_180 (by decide) rfl ?_
                            refine mx_goto (pc' := 185) dL_holds_181 (by decide) ?_
                            refine mx_xistore_n (pc' := 186) (ls' := [_, _, _, _, _, _, _, _, _]) dL_holds_185 (by decide) rfl rfl rfl ?_
                            refine mx_iconst (pc' := 187) (v := nI 0) dL_holds_186 (by decide) rfl ?_
                            refine mx_xistore (pc' := 189) (ls' := [_, _, _, _, _, _, _, _, _]) dL_holds_187 (by decide) rfl rfl rfl ?_
                            exact l_holdsB Y ht hF (fun v M2 => v = some (.int (nI 1)) ∧ CoA M2 Y) (fun M2 hC2 => ⟨rfl, hC2⟩) (Y.1.2.1.length + 1) 0 11 _ _ _ _ _ (by omega) (by omega) hC (by omega) (fun m y _ hy => by have := (hB.2 y (List.mem_of_getElem? hy)).1; omega)
                    refine mx_aload_n (pc' := 121) dL_holds_120 rfl rfl ?_
                    refine mx_bipush (pc' := 123) (v := nI 6) dL_holds_121 (by decide) rfl ?_
                    refine mx_callV (pc' := 126) dL_holds_123 cl_L_13 (rfl) (t_c6 _ Y hC) rfl (by decide) rfl (Nat.le_of_ble_eq_true rfl) rfl (fun v N123 hv => ?_)
                    obtain ⟨rfl, hC, -⟩ := hv
                    refine mx_if_eq (tgt := 137) (pc' := 129) dL_holds_126 (by decide) rfl (fun c126 => ?_) (fun c126 => ?_)
                    · exact k137 _ hC
                    · have c126 : ¬ Y.1.2.2.1 4 = 0 := fun z => c126 (by rw [z]; rfl)
                      refine mx_aload_n (pc' := 130) dL_holds_129 rfl rfl ?_
                      refine mx_iconst (pc' := 131) (v := nI 3) dL_holds_130 (by decide) rfl ?_
                      refine mx_callV (pc' := 134) dL_holds_131 cl_L_13 (rfl) (t_c3 _ Y hC) rfl (by decide) rfl (Nat.le_of_ble_eq_true rfl) rfl (fun v N131 hv => ?_)
                      obtain ⟨rfl, hC, -⟩ := hv
                      refine mx_if_ne (tgt := 184) (pc' := 137) dL_holds_134 (by decide) rfl (fun c134 => ?_) (fun c134 => ?_)
                      · exact absurd c134 (by simp (disch := omega) only [Int32.lt_iff_toInt_lt, Int32.le_iff_toInt_le, ← Int32.toInt_inj, ne_eq, nI_t, z_t, m1_t, m2_t, m3_t, m4_t, m9_t]; omega)
                      · exact k137 _ hC

