/-! would -/
set_option maxHeartbeats 2000000 in
set_option maxRecDepth 10000 in
theorem l_wF (Y : Sy) (ht : Y.1.2.2.1 3 ≤ 100000) (hF : FI Y.1) (Q : Option Value → mx_M → Prop) (kq : ∀ M1, CoA M1 Y → Q (some (.int (nI 1))) M1) (x : Int32) (T b nb : Nat) (fr en ad tk wy sh fa wi st wh to : Int32) (op : UInt64) (hT : T < 32)
    (hnb : nb = 0 ∨ nb = 1) (hfa : ∃ f, f ≤ 30 ∧ fa = nI f) (hwh : Unit → nb = 0 → 0 ≤ wh.toInt ∧ wh.toInt ≤ 2) (hto1 : Unit → nb = 1 → to = (-1)) (hto2 : Unit → nb = 0 → (Unit → Y.1.2.2.1 4 ≠ 0 → to = (-2)) ∧ (Unit → Y.1.2.2.1 4 = 0 → (Unit → wh.toInt = 2 → to = (-4) ∨ ∃ m, Y.1.2.2.1 1 < m ∧ m ≤ T ∧ to = nI m) ∧ (Unit → wh.toInt ≠ 2 → ∃ m, m ≤ 1800 ∧ to = nI m)))
    {M1 : mx_M} (hC : CoA M1 Y) : mx_V cL_would RL 19 (some .boolean) 8 497 [some (.ref 0), some (.int (x)), some (.int (nI T)), some (.int (nI b)), some (.int (fr)), some (.int (en)), some (.int (ad)), some (.int (tk)), some (.int (wy)), some (.int (sh)), some (.int (fa)), some (.int (wi)), some (.double op), none, some (.int (st)), some (.int (wh)), some (.int (to)), some (.int (nI nb)), some (.int (nI 1))] [] M1 Q := by
  obtain ⟨v0, v1, v2, v4, v5, v6, v7⟩ := id hF.1.1.2.2
  refine mx_iload (pc' := 499) dL_would_497 rfl rfl ?_
  refine mx_if_eq (tgt := 589) (pc' := 502) dL_would_499 (by decide) rfl (fun c499 => ?_) (fun c499 => ?_)
  · first | exact absurd rfl c499 | exact absurd c499 (by (simp (disch := omega) only [Int32.lt_iff_toInt_lt, Int32.le_iff_toInt_le, ← Int32.toInt_inj, ne_eq, not_true_eq_false, not_false_eq_true, nI_t, z_t, m1_t, m2_t, m3_t, m4_t, m9_t]) <;> omega)
  · obtain ⟨fv, hfv, rfl⟩ := hfa
    have k558 : ∀ (to : Int32), (Unit → to = (-4) ∨ ∃ m, Y.1.2.2.1 1 < m ∧ m ≤ T ∧ to = nI m) → ∀ {M1}, CoA M1 Y → mx_V cL_would RL 19 (some .boolean) 8 554 [some (.ref 0), some (.int (x)), some (.int (nI T)), some (.int (nI b)), some (.int (fr)), some (.int (en)), some (.int (ad)), some (.int (tk)), some (.int (wy)), some (.int (sh)), some (.int (nI fv)), some (.int (wi)), some (.double op), none, some (.int (st)), some (.int (wh)), some (.int (to)), some (.int (nI nb)), some (.int (nI 1))] [] M1 Q := by
      intro to hto M1 hC
      refine mx_iload (pc' := 556) dL_would_554 rfl rfl ?_
      refine mx_bipush (pc' := 558) (v := (-4)) dL_would_556 (by decide) rfl ?_
      refine mx_icmp_eq (tgt := 585) (pc' := 561) dL_would_558 (by decide) rfl (fun c558 => ?_) (fun c558 => ?_)
      · 
        refine mx_iconst (pc' := 586) (v := nI 1) dL_would_585 (by decide) rfl ?_
        refine mx_goto (pc' := 590) dL_would_586 (by decide) ?_
        refine mx_iret dL_would_590 (Or.inr ⟨rfl, by decide⟩) ?_
        exact kq _ hC
      · obtain ⟨m, hm1, hm2, rfl⟩ := (hto ()).resolve_left c558
        refine mx_iload (pc' := 563) dL_would_561 rfl rfl ?_
        refine mx_aload_n (pc' := 564) dL_would_563 rfl rfl ?_
        refine mx_iconst (pc' := 565) (v := nI 3) dL_would_564 (by decide) rfl ?_
        refine mx_callV (pc' := 568) dL_would_565 cl_L_13 (rfl) (t_c3 _ Y hC) rfl (by decide) rfl (Nat.le_of_ble_eq_true rfl) rfl (fun v N565 hv => ?_)
        obtain ⟨rfl, hC, -⟩ := hv
        refine mx_icmp_le (tgt := 589) (pc' := 571) dL_would_568 (by decide) rfl (fun c568 => ?_) (fun c568 => ?_)
        · first | exact absurd rfl c568 | exact absurd c568 (by (simp (disch := omega) only [Int32.lt_iff_toInt_lt, Int32.le_iff_toInt_le, ← Int32.toInt_inj, ne_eq, not_true_eq_false, not_false_eq_true, nI_t, z_t, m1_t, m2_t, m3_t, m4_t, m9_t]) <;> omega)
        · refine mx_iload (pc' := 573) dL_would_571 rfl rfl ?_
          refine mx_iload_n (pc' := 574) dL_would_573 rfl rfl ?_
          refine mx_icmp_gt (tgt := 589) (pc' := 577) dL_would_574 (by decide) rfl (fun c574 => ?_) (fun c574 => ?_)
          · first | exact absurd rfl c574 | exact absurd c574 (by (simp (disch := omega) only [Int32.lt_iff_toInt_lt, Int32.le_iff_toInt_le, ← Int32.toInt_inj, ne_eq, not_true_eq_false, not_false_eq_true, nI_t, z_t, m1_t, m2_t, m3_t, m4_t, m9_t]) <;> omega)
          · refine mx_goto (pc' := 585) dL_would_577 (by decide) ?_
            refine mx_iconst (pc' := 586) (v := nI 1) dL_would_585 (by decide) rfl ?_
            refine mx_goto (pc' := 590) dL_would_586 (by decide) ?_
            refine mx_iret dL_would_590 (Or.inr ⟨rfl, by decide⟩) ?_
            exact kq _ hC
    refine mx_iload (pc' := 504) dL_would_502 rfl rfl ?_
    refine mx_if_lt (tgt := 589) (pc' := 507) dL_would_504 (by decide) rfl (fun c504 => ?_) (fun c504 => ?_)
    · first | exact absurd rfl c504 | exact absurd c504 (by (simp (disch := omega) only [Int32.lt_iff_toInt_lt, Int32.le_iff_toInt_le, ← Int32.toInt_inj, ne_eq, not_true_eq_false, not_false_eq_true, nI_t, z_t, m1_t, m2_t, m3_t, m4_t, m9_t]) <;> omega)
    · refine mx_iload (pc' := 509) dL_would_507 rfl rfl ?_
      refine mx_bipush (pc' := 511) (v := nI 30) dL_would_509 (by decide) rfl ?_
      refine mx_icmp_gt (tgt := 589) (pc' := 514) dL_would_511 (by decide) rfl (fun c511 => ?_) (fun c511 => ?_)
      · first | exact absurd rfl c511 | exact absurd c511 (by (simp (disch := omega) only [Int32.lt_iff_toInt_lt, Int32.le_iff_toInt_le, ← Int32.toInt_inj, ne_eq, not_true_eq_false, not_false_eq_true, nI_t, z_t, m1_t, m2_t, m3_t, m4_t, m9_t]) <;> omega)
      · refine mx_iload (pc' := 516) dL_would_514 rfl rfl ?_
        refine mx_if_eq (tgt := 528) (pc' := 519) dL_would_516 (by decide) rfl (fun c516 => ?_) (fun c516 => ?_)
        · try (simp (disch := omega) only [Int32.lt_iff_toInt_lt, Int32.le_iff_toInt_le, ← Int32.toInt_inj, ne_eq, nI_t, z_t, m1_t, m2_t, m3_t, m4_t, m9_t] at c516)
          have hn0 : nb = 0 := by omega
          obtain ⟨q2, q3⟩ := hto2 () hn0
          have hw9 := hwh () hn0
          refine mx_aload_n (pc' := 529) dL_would_528 rfl rfl ?_
          refine mx_bipush (pc' := 531) (v := nI 6) dL_would_529 (by decide) rfl ?_
          refine mx_callV (pc' := 534) dL_would_531 cl_L_13 (rfl) (t_c6 _ Y hC) rfl (by decide) rfl (Nat.le_of_ble_eq_true rfl) rfl (fun v N531 hv => ?_)
          obtain ⟨rfl, hC, -⟩ := hv
          refine mx_iconst (pc' := 535) (v := nI 1) dL_would_534 (by decide) rfl ?_
          refine mx_icmp_ne (tgt := 548) (pc' := 538) dL_would_535 (by decide) rfl (fun c535 => ?_) (fun c535 => ?_)
          · try (simp (disch := omega) only [Int32.lt_iff_toInt_lt, Int32.le_iff_toInt_le, ← Int32.toInt_inj, ne_eq, nI_t, z_t, m1_t, m2_t, m3_t, m4_t, m9_t] at c535)
            have hd0 : Y.1.2.2.1 4 = 0 := by omega
            obtain ⟨q4, q5⟩ := q3 () hd0
            refine mx_iload (pc' := 550) dL_would_548 rfl rfl ?_
            refine mx_iconst (pc' := 551) (v := nI 2) dL_would_550 (by decide) rfl ?_
            refine mx_icmp_ne (tgt := 580) (pc' := 554) dL_would_551 (by decide) rfl (fun c551 => ?_) (fun c551 => ?_)
            · try (simp (disch := omega) only [Int32.lt_iff_toInt_lt, Int32.le_iff_toInt_le, ← Int32.toInt_inj, ne_eq, nI_t, z_t, m1_t, m2_t, m3_t, m4_t, m9_t] at c551)
              obtain ⟨m, hm, rfl⟩ := q5 () (by omega)
              refine mx_iload (pc' := 582) dL_would_580 rfl rfl ?_
              refine mx_if_lt (tgt := 589) (pc' := 585) dL_would_582 (by decide) rfl (fun c582 => ?_) (fun c582 => ?_)
              · first | exact absurd rfl c582 | exact absurd c582 (by (simp (disch := omega) only [Int32.lt_iff_toInt_lt, Int32.le_iff_toInt_le, ← Int32.toInt_inj, ne_eq, not_true_eq_false, not_false_eq_true, nI_t, z_t, m1_t, m2_t, m3_t, m4_t, m9_t]) <;> omega)
              · refine mx_iconst (pc' := 586) (v := nI 1) dL_would_585 (by decide) rfl ?_
                refine mx_goto (pc' := 590) dL_would_586 (by decide) ?_
                refine mx_iret dL_would_590 (Or.inr ⟨rfl, by decide⟩) ?_
                exact kq _ hC
            · try (simp (disch := omega) only [Int32.lt_iff_toInt_lt, Int32.le_iff_toInt_le, ← Int32.toInt_inj, ne_eq, nI_t, z_t, m1_t, m2_t, m3_t, m4_t, m9_t] at c551)
              rcases q4 () (by omega) with e1 | ⟨m, hm1, hm2, rfl⟩
              · subst e1
                exact k558 _ (fun _ => Or.inl rfl) hC
              exact k558 _ (fun _ => Or.inr ⟨m, hm1, hm2, rfl⟩) hC
          · try (simp (disch := omega) only [Int32.lt_iff_toInt_lt, Int32.le_iff_toInt_le, ← Int32.toInt_inj, ne_eq, nI_t, z_t, m1_t, m2_t, m3_t, m4_t, m9_t] at c535)
            have e1 := q2 () (by omega)
            subst e1
            refine mx_iload (pc' := 540) dL_would_538 rfl rfl ?_
            refine mx_bipush (pc' := 542) (v := (-2)) dL_would_540 (by decide) rfl ?_
            refine mx_icmp_ne (tgt := 589) (pc' := 545) dL_would_542 (by decide) rfl (fun c542 => ?_) (fun c542 => ?_)
            · first | exact absurd rfl c542 | exact absurd c542 (by (simp (disch := omega) only [Int32.lt_iff_toInt_lt, Int32.le_iff_toInt_le, ← Int32.toInt_inj, ne_eq, not_true_eq_false, not_false_eq_true, nI_t, z_t, m1_t, m2_t, m3_t, m4_t, m9_t]) <;> omega)
            · refine mx_goto (pc' := 585) dL_would_545 (by decide) ?_
              refine mx_iconst (pc' := 586) (v := nI 1) dL_would_585 (by decide) rfl ?_
              refine mx_goto (pc' := 590) dL_would_586 (by decide) ?_
              refine mx_iret dL_would_590 (Or.inr ⟨rfl, by decide⟩) ?_
              exact kq _ hC
        · try (simp (disch := omega) only [Int32.lt_iff_toInt_lt, Int32.le_iff_toInt_le, ← Int32.toInt_inj, ne_eq, nI_t, z_t, m1_t, m2_t, m3_t, m4_t, m9_t] at c516)
          have e1 := hto1 () (by omega)
          subst e1
          refine mx_iload (pc' := 521) dL_would_519 rfl rfl ?_
          refine mx_iconst (pc' := 522) (v := (-1)) dL_would_521 (by decide) rfl ?_
          refine mx_icmp_ne (tgt := 589) (pc' := 525) dL_would_522 (by decide) rfl (fun c522 => ?_) (fun c522 => ?_)
          · first | exact absurd rfl c522 | exact absurd c522 (by (simp (disch := omega) only [Int32.lt_iff_toInt_lt, Int32.le_iff_toInt_le, ← Int32.toInt_inj, ne_eq, not_true_eq_false, not_false_eq_true, nI_t, z_t, m1_t, m2_t, m3_t, m4_t, m9_t]) <;> omega)
          · refine mx_goto (pc' := 585) dL_would_525 (by decide) ?_
            refine mx_iconst (pc' := 586) (v := nI 1) dL_would_585 (by decide) rfl ?_
            refine mx_goto (pc' := 590) dL_would_586 (by decide) ?_
            refine mx_iret dL_would_590 (Or.inr ⟨rfl, by decide⟩) ?_
            exact kq _ hC

set_option maxHeartbeats 2000000 in
set_option maxRecDepth 10000 in
theorem l_wE (Y : Sy) (ht : Y.1.2.2.1 3 ≤ 100000) (hF : FI Y.1) (Q : Option Value → mx_M → Prop) (x : Int32) (T b nb : Nat) (fr en ad tk wy sh fa wi st wh to : Int32) (op : UInt64) (hT : T < 32) (hb : (b = 1 ∧ (T = 0 ∨ T = 31)) ∨ (b = 0 ∧ 1 ≤ T ∧ T ≤ 30)) (kk : ∀ M1, CoA M1 Y → mx_V cL_would RL 19 (some .boolean) 8 497 [some (.ref 0), some (.int (x)), some (.int (nI T)), some (.int (nI b)), some (.int (fr)), some (.int (en)), some (.int (ad)), some (.int (tk)), some (.int (wy)), some (.int (sh)), some (.int (fa)), some (.int (wi)), some (.double op), none, some (.int (st)), some (.int (wh)), some (.int (to)), some (.int (nI nb)), some (.int (nI 1))] [] M1 Q)
    (hw1 : Unit → (T = 0 ∨ T = 31 ∨ tk.toInt < 0 ∨ (T : Int) < tk.toInt) → wy = (-1)) (hw2 : ∀ t : Nat, 1 ≤ T → T ≤ 30 → t ≤ T → tk = nI t → (Unit → ad = (-4) → wy = (-4)) ∧ (Unit → ad ≠ (-4) → ∃ w, w < 10 ∧ wy = nI w ∧ (Unit → t = 0 → w = Y.1.2.2.1 0) ∧ (Unit → 1 ≤ t → (fFr Y.1 t).testBit w = true)))
    {M1 : mx_M} (hC : CoA M1 Y) : mx_V cL_would RL 19 (some .boolean) 8 399 [some (.ref 0), some (.int (x)), some (.int (nI T)), some (.int (nI b)), some (.int (fr)), some (.int (en)), some (.int (ad)), some (.int (tk)), some (.int (wy)), some (.int (sh)), some (.int (fa)), some (.int (wi)), some (.double op), none, some (.int (st)), some (.int (wh)), some (.int (to)), some (.int (nI nb)), some (.int (nI 1))] [] M1 Q := by
  obtain ⟨v0, v1, v2, v4, v5, v6, v7⟩ := id hF.1.1.2.2
  have k490 : ∀ {M1}, CoA M1 Y → mx_V cL_would RL 19 (some .boolean) 8 490 [some (.ref 0), some (.int (x)), some (.int (nI T)), some (.int (nI b)), some (.int (fr)), some (.int (en)), some (.int (ad)), some (.int (tk)), some (.int (wy)), some (.int (sh)), some (.int (fa)), some (.int (wi)), some (.double op), none, some (.int (st)), some (.int (wh)), some (.int (to)), some (.int (nI nb)), some (.int (nI 1))] [] M1 Q := by
    intro M1 hC
    refine mx_iconst (pc' := 491) (v := nI 1) dL_would_490 (by decide) rfl ?_
    refine mx_goto (pc' := 495) dL_would_491 (by decide) ?_
    refine mx_xistore (pc' := 497) (ls' := [_, _, _, _, _, _, _, _, _, _, _, _, _, _, _, _, _, _, _]) dL_would_495 (by decide) rfl rfl rfl ?_
    exact kk _ hC
  have k419 : (T = 0 ∨ T = 31 ∨ tk.toInt < 0 ∨ (T : Int) < tk.toInt) → ∀ {M1}, CoA M1 Y → mx_V cL_would RL 19 (some .boolean) 8 419 [some (.ref 0), some (.int (x)), some (.int (nI T)), some (.int (nI b)), some (.int (fr)), some (.int (en)), some (.int (ad)), some (.int (tk)), some (.int (wy)), some (.int (sh)), some (.int (fa)), some (.int (wi)), some (.double op), none, some (.int (st)), some (.int (wh)), some (.int (to)), some (.int (nI nb)), some (.int (nI 1))] [] M1 Q := by
    intro hw M1 hC
    have e1 := hw1 () hw
    refine mx_iload (pc' := 421) dL_would_419 rfl rfl ?_
    refine mx_iconst (pc' := 422) (v := (-1)) dL_would_421 (by decide) rfl ?_
    refine mx_icmp_ne (tgt := 494) (pc' := 425) dL_would_422 (by decide) rfl (fun c422 => ?_) (fun c422 => ?_)
    · exact absurd e1 c422
    · refine mx_goto (pc' := 490) dL_would_425 (by decide) ?_
      exact k490 hC
  refine mx_iload (pc' := 401) dL_would_399 rfl rfl ?_
  refine mx_if_eq (tgt := 494) (pc' := 404) dL_would_401 (by decide) rfl (fun c401 => ?_) (fun c401 => ?_)
  · first | exact absurd rfl c401 | exact absurd c401 (by (simp (disch := omega) only [Int32.lt_iff_toInt_lt, Int32.le_iff_toInt_le, ← Int32.toInt_inj, ne_eq, not_true_eq_false, not_false_eq_true, nI_t, z_t, m1_t, m2_t, m3_t, m4_t, m9_t]) <;> omega)
  · refine mx_iload_n (pc' := 405) dL_would_404 rfl rfl ?_
    refine mx_if_ne (tgt := 419) (pc' := 408) dL_would_405 (by decide) rfl (fun c405 => ?_) (fun c405 => ?_)
    · try (simp (disch := omega) only [Int32.lt_iff_toInt_lt, Int32.le_iff_toInt_le, ← Int32.toInt_inj, ne_eq, nI_t, z_t, m1_t, m2_t, m3_t, m4_t, m9_t] at c405)
      exact k419 (by omega) hC
    · try (simp (disch := omega) only [Int32.lt_iff_toInt_lt, Int32.le_iff_toInt_le, ← Int32.toInt_inj, ne_eq, nI_t, z_t, m1_t, m2_t, m3_t, m4_t, m9_t] at c405)
      refine mx_iload (pc' := 410) dL_would_408 rfl rfl ?_
      refine mx_if_lt (tgt := 419) (pc' := 413) dL_would_410 (by decide) rfl (fun c410 => ?_) (fun c410 => ?_)
      · try (simp (disch := omega) only [Int32.lt_iff_toInt_lt, Int32.le_iff_toInt_le, ← Int32.toInt_inj, ne_eq, nI_t, z_t, m1_t, m2_t, m3_t, m4_t, m9_t] at c410)
        exact k419 (by omega) hC
      · try (simp (disch := omega) only [Int32.lt_iff_toInt_lt, Int32.le_iff_toInt_le, ← Int32.toInt_inj, ne_eq, nI_t, z_t, m1_t, m2_t, m3_t, m4_t, m9_t] at c410)
        refine mx_iload (pc' := 415) dL_would_413 rfl rfl ?_
        refine mx_iload_n (pc' := 416) dL_would_415 rfl rfl ?_
        refine mx_icmp_le (tgt := 428) (pc' := 419) dL_would_416 (by decide) rfl (fun c416 => ?_) (fun c416 => ?_)
        · try (simp (disch := omega) only [Int32.lt_iff_toInt_lt, Int32.le_iff_toInt_le, ← Int32.toInt_inj, ne_eq, nI_t, z_t, m1_t, m2_t, m3_t, m4_t, m9_t] at c416)
          obtain ⟨t, -, rfl, hte⟩ := i32_ge0 (x := tk) (by omega)
          have htT : t ≤ T := by omega
          obtain ⟨q1, q2⟩ := hw2 t (by omega) (by omega) htT rfl
          refine mx_iload (pc' := 430) dL_would_428 rfl rfl ?_
          refine mx_bipush (pc' := 432) (v := (-4)) dL_would_430 (by decide) rfl ?_
          refine mx_icmp_ne (tgt := 445) (pc' := 435) dL_would_432 (by decide) rfl (fun c432 => ?_) (fun c432 => ?_)
          · obtain ⟨w, hw, rfl, qw1, qw2⟩ := q2 () c432
            refine mx_iload (pc' := 447) dL_would_445 rfl rfl ?_
            refine mx_if_lt (tgt := 494) (pc' := 450) dL_would_447 (by decide) rfl (fun c447 => ?_) (fun c447 => ?_)
            · first | exact absurd rfl c447 | exact absurd c447 (by (simp (disch := omega) only [Int32.lt_iff_toInt_lt, Int32.le_iff_toInt_le, ← Int32.toInt_inj, ne_eq, not_true_eq_false, not_false_eq_true, nI_t, z_t, m1_t, m2_t, m3_t, m4_t, m9_t]) <;> omega)
            · refine mx_iload (pc' := 452) dL_would_450 rfl rfl ?_
              refine mx_bipush (pc' := 454) (v := nI 10) dL_would_452 (by decide) rfl ?_
              refine mx_icmp_ge (tgt := 494) (pc' := 457) dL_would_454 (by decide) rfl (fun c454 => ?_) (fun c454 => ?_)
              · first | exact absurd rfl c454 | exact absurd c454 (by (simp (disch := omega) only [Int32.lt_iff_toInt_lt, Int32.le_iff_toInt_le, ← Int32.toInt_inj, ne_eq, not_true_eq_false, not_false_eq_true, nI_t, z_t, m1_t, m2_t, m3_t, m4_t, m9_t]) <;> omega)
              · refine mx_iload (pc' := 459) dL_would_457 rfl rfl ?_
                refine mx_if_ne (tgt := 475) (pc' := 462) dL_would_459 (by decide) rfl (fun c459 => ?_) (fun c459 => ?_)
                · try (simp (disch := omega) only [Int32.lt_iff_toInt_lt, Int32.le_iff_toInt_le, ← Int32.toInt_inj, ne_eq, nI_t, z_t, m1_t, m2_t, m3_t, m4_t, m9_t] at c459)
                  have qb := qw2 () (by omega)
                  refine mx_aload_n (pc' := 476) dL_would_475 rfl rfl ?_
                  refine mx_iload (pc' := 478) dL_would_476 rfl rfl ?_
                  refine mx_callV (pc' := 481) dL_would_478 cl_L_31 (rfl) (t_X7_free _ Y hC (Nat.lt_of_le_of_lt (Nat.add_le_add_right ht 100) (Nat.le_of_ble_eq_true rfl)) _) rfl (by decide) rfl (Nat.le_of_ble_eq_true rfl) rfl (fun v N478 hv => ?_)
                  obtain ⟨rfl, hC, -⟩ := hv
                  rw [(wf_free (Y := Y) (T := t) (by omega)).1]
                  refine mx_iload (pc' := 483) dL_would_481 rfl rfl ?_
                  refine mx_ishr (pc' := 484) dL_would_483 (rfl) rfl ?_
                  refine mx_iconst (pc' := 485) (v := nI 1) dL_would_484 (by decide) rfl ?_
                  refine mx_iand (pc' := 486) (v := nI 1) dL_would_485 ((tb_2 (fFr_lt _ _) hw).trans (by rw [qb]; rfl)) rfl ?_
                  refine mx_iconst (pc' := 487) (v := nI 1) dL_would_486 (by decide) rfl ?_
                  refine mx_icmp_ne (tgt := 494) (pc' := 490) dL_would_487 (by decide) rfl (fun c487 => ?_) (fun c487 => ?_)
                  · first | exact absurd rfl c487 | exact absurd c487 (by (simp (disch := omega) only [Int32.lt_iff_toInt_lt, Int32.le_iff_toInt_le, ← Int32.toInt_inj, ne_eq, not_true_eq_false, not_false_eq_true, nI_t, z_t, m1_t, m2_t, m3_t, m4_t, m9_t]) <;> omega)
                  · exact k490 hC
                · try (simp (disch := omega) only [Int32.lt_iff_toInt_lt, Int32.le_iff_toInt_le, ← Int32.toInt_inj, ne_eq, nI_t, z_t, m1_t, m2_t, m3_t, m4_t, m9_t] at c459)
                  have qb := qw1 () (by omega)
                  refine mx_iload (pc' := 464) dL_would_462 rfl rfl ?_
                  refine mx_aload_n (pc' := 465) dL_would_464 rfl rfl ?_
                  refine mx_iconst (pc' := 466) (v := nI 2) dL_would_465 (by decide) rfl ?_
                  refine mx_callV (pc' := 469) dL_would_466 cl_L_13 (rfl) (t_c2 _ Y hC) rfl (by decide) rfl (Nat.le_of_ble_eq_true rfl) rfl (fun v N466 hv => ?_)
                  obtain ⟨rfl, hC, -⟩ := hv
                  refine mx_icmp_ne (tgt := 494) (pc' := 472) dL_would_469 (by decide) rfl (fun c469 => ?_) (fun c469 => ?_)
                  · first | exact absurd rfl c469 | exact absurd c469 (by (simp (disch := omega) only [Int32.lt_iff_toInt_lt, Int32.le_iff_toInt_le, ← Int32.toInt_inj, ne_eq, not_true_eq_false, not_false_eq_true, nI_t, z_t, m1_t, m2_t, m3_t, m4_t, m9_t]) <;> omega)
                  · refine mx_goto (pc' := 490) dL_would_472 (by decide) ?_
                    exact k490 hC
          · have e1 := q1 () c432
            subst e1
            refine mx_iload (pc' := 437) dL_would_435 rfl rfl ?_
            refine mx_bipush (pc' := 439) (v := (-4)) dL_would_437 (by decide) rfl ?_
            refine mx_icmp_ne (tgt := 494) (pc' := 442) dL_would_439 (by decide) rfl (fun c439 => ?_) (fun c439 => ?_)
            · first | exact absurd rfl c439 | exact absurd c439 (by (simp (disch := omega) only [Int32.lt_iff_toInt_lt, Int32.le_iff_toInt_le, ← Int32.toInt_inj, ne_eq, not_true_eq_false, not_false_eq_true, nI_t, z_t, m1_t, m2_t, m3_t, m4_t, m9_t]) <;> omega)
            · refine mx_goto (pc' := 490) dL_would_442 (by decide) ?_
              exact k490 hC
        · try (simp (disch := omega) only [Int32.lt_iff_toInt_lt, Int32.le_iff_toInt_le, ← Int32.toInt_inj, ne_eq, nI_t, z_t, m1_t, m2_t, m3_t, m4_t, m9_t] at c416)
          exact k419 (by omega) hC

set_option maxHeartbeats 2000000 in
set_option maxRecDepth 10000 in
theorem l_wD (Y : Sy) (ht : Y.1.2.2.1 3 ≤ 100000) (hF : FI Y.1) (Q : Option Value → mx_M → Prop) (x : Int32) (T b nb : Nat) (fr en ad tk wy sh fa wi st wh to : Int32) (op : UInt64) (hT : T < 32) (hb : (b = 1 ∧ (T = 0 ∨ T = 31)) ∨ (b = 0 ∧ 1 ≤ T ∧ T ≤ 30)) (kk : ∀ M1, CoA M1 Y → mx_V cL_would RL 19 (some .boolean) 8 399 [some (.ref 0), some (.int (x)), some (.int (nI T)), some (.int (nI b)), some (.int (fr)), some (.int (en)), some (.int (ad)), some (.int (tk)), some (.int (wy)), some (.int (sh)), some (.int (fa)), some (.int (wi)), some (.double op), none, some (.int (st)), some (.int (wh)), some (.int (to)), some (.int (nI nb)), some (.int (nI 1))] [] M1 Q)
    (F1 : Unit → T = 31 → fr = (-1) ∧ wi = (-1)) (F2 : Unit → T < 31 → ∃ g w, g = fFr Y.1 T ∧ fr = nI g ∧ g < 1024 ∧ w ≤ pop10 g ∧ (w = 0 ↔ g = 0) ∧ wi = nI w ∧ w ≤ 10) (F3 : Unit → (T = 0 ∨ T = 31) → en = (-1) ∧ ad = (-1) ∧ sh = (-1) ∧ op = 13830554455654793216)
    (F4 : Unit → b = 0 → ∃ e f, en = nI e ∧ oEnds (nI T) (nI 1) Y = nI e ∧ e ≤ pop10 (fFr Y.1 T) ∧ (Unit → (ad = (-4) ∧ e = 0) ∨ ∃ a, a ≤ T ∧ ad = nI a) ∧ (Unit → (Y.1.1.length = 0 ∧ sh = (-2)) ∨ ∃ s, s < Y.1.1.length ∧ sh = nI s) ∧ Op.cmpValue (FP.dcmp op FP.dconst0) .l ≥ 0 ∧ Op.cmpValue (FP.dcmp op FP.dconst1) .g ≤ 0 ∧ fa = nI f ∧ (0 < e ↔ T ≤ f) ∧ f ≤ 30)
    {M1 : mx_M} (hC : CoA M1 Y) : mx_V cL_would RL 19 (some .boolean) 8 163 [some (.ref 0), some (.int (x)), some (.int (nI T)), some (.int (nI b)), some (.int (fr)), some (.int (en)), some (.int (ad)), some (.int (tk)), some (.int (wy)), some (.int (sh)), some (.int (fa)), some (.int (wi)), some (.double op), none, some (.int (st)), some (.int (wh)), some (.int (to)), some (.int (nI nb)), none] [] M1 Q := by
  have hE4 := hF.1.1.1.1
  have k392 : ∀ {M1}, CoA M1 Y → mx_V cL_would RL 19 (some .boolean) 8 392 [some (.ref 0), some (.int (x)), some (.int (nI T)), some (.int (nI b)), some (.int (fr)), some (.int (en)), some (.int (ad)), some (.int (tk)), some (.int (wy)), some (.int (sh)), some (.int (fa)), some (.int (wi)), some (.double op), none, some (.int (st)), some (.int (wh)), some (.int (to)), some (.int (nI nb)), none] [] M1 Q := by
    intro M1 hC
    refine mx_iconst (pc' := 393) (v := nI 1) dL_would_392 (by decide) rfl ?_
    refine mx_goto (pc' := 397) dL_would_393 (by decide) ?_
    refine mx_xistore (pc' := 399) (ls' := [_, _, _, _, _, _, _, _, _, _, _, _, _, _, _, _, _, _, _]) dL_would_397 (by decide) rfl rfl rfl ?_
    exact kk _ hC
  have k235 : ∀ {M1}, CoA M1 Y → mx_V cL_would RL 19 (some .boolean) 8 235 [some (.ref 0), some (.int (x)), some (.int (nI T)), some (.int (nI b)), some (.int (fr)), some (.int (en)), some (.int (ad)), some (.int (tk)), some (.int (wy)), some (.int (sh)), some (.int (fa)), some (.int (wi)), some (.double op), none, some (.int (st)), some (.int (wh)), some (.int (to)), some (.int (nI nb)), none] [] M1 Q := by
    intro M1 hC
    refine mx_iload_n (pc' := 236) dL_would_235 rfl rfl ?_
    refine mx_if_eq (tgt := 269) (pc' := 239) dL_would_236 (by decide) rfl (fun c236 => ?_) (fun c236 => ?_)
    · try (simp (disch := omega) only [Int32.lt_iff_toInt_lt, Int32.le_iff_toInt_le, ← Int32.toInt_inj, ne_eq, nI_t, z_t, m1_t, m2_t, m3_t, m4_t, m9_t] at c236)
      have hb0 : b = 0 := by omega
      obtain ⟨e, f, e1, e2, e3, hA, hS, hD1, hD2, e6, e7, hf30⟩ := F4 () hb0
      obtain ⟨g, w, hgf, e8, hg, -, -, e9, hw10⟩ := F2 () (by omega)
      rw [← hgf] at e3
      have hpl := pop10_le g
      subst e1 e6 e8 e9
      have k354 : ∀ {M1}, CoA M1 Y → mx_V cL_would RL 19 (some .boolean) 8 354 [some (.ref 0), some (.int (x)), some (.int (nI T)), some (.int (nI b)), some (.int (nI g)), some (.int (nI e)), some (.int (ad)), some (.int (tk)), some (.int (wy)), some (.int (sh)), some (.int (nI f)), some (.int (nI w)), some (.double op), none, some (.int (st)), some (.int (wh)), some (.int (to)), some (.int (nI nb)), none] [] M1 Q := by
        intro M1 hC
        refine mx_dload (pc' := 356) dL_would_354 rfl rfl ?_
        refine mx_dconst0 (pc' := 357) dL_would_356 rfl ?_
        refine mx_dcmp (pc' := 358) (v := _) dL_would_357 (rfl) rfl ?_
        refine mx_if_lt (tgt := 396) (pc' := 361) dL_would_358 (by decide) rfl (fun c358 => ?_) (fun c358 => ?_)
        · exact absurd c358 (Int32.not_lt.mpr hD1)
        · refine mx_dload (pc' := 363) dL_would_361 rfl rfl ?_
          refine mx_dconst1 (pc' := 364) dL_would_363 rfl ?_
          refine mx_dcmp (pc' := 365) (v := _) dL_would_364 (rfl) rfl ?_
          refine mx_if_gt (tgt := 396) (pc' := 368) dL_would_365 (by decide) rfl (fun c365 => ?_) (fun c365 => ?_)
          · exact absurd c365 (Int32.not_lt.mpr hD2)
          · refine mx_iload (pc' := 370) dL_would_368 rfl rfl ?_
            refine mx_if_le (tgt := 377) (pc' := 373) dL_would_370 (by decide) rfl (fun c370 => ?_) (fun c370 => ?_)
            · try (simp (disch := omega) only [Int32.lt_iff_toInt_lt, Int32.le_iff_toInt_le, ← Int32.toInt_inj, ne_eq, nI_t, z_t, m1_t, m2_t, m3_t, m4_t, m9_t] at c370)
              refine mx_iconst (pc' := 378) (v := nI 0) dL_would_377 (by decide) rfl ?_
              refine mx_iload_n (pc' := 379) dL_would_378 rfl rfl ?_
              refine mx_iload (pc' := 381) dL_would_379 rfl rfl ?_
              refine mx_icmp_gt (tgt := 388) (pc' := 384) dL_would_381 (by decide) rfl (fun c381 => ?_) (fun c381 => ?_)
              · try (simp (disch := omega) only [Int32.lt_iff_toInt_lt, Int32.le_iff_toInt_le, ← Int32.toInt_inj, ne_eq, nI_t, z_t, m1_t, m2_t, m3_t, m4_t, m9_t] at c381)
                refine mx_iconst (pc' := 389) (v := nI 0) dL_would_388 (by decide) rfl ?_
                refine mx_icmp_ne (tgt := 396) (pc' := 392) dL_would_389 (by decide) rfl (fun c389 => ?_) (fun c389 => ?_)
                · first | exact absurd rfl c389 | exact absurd c389 (by (simp (disch := omega) only [Int32.lt_iff_toInt_lt, Int32.le_iff_toInt_le, ← Int32.toInt_inj, ne_eq, not_true_eq_false, not_false_eq_true, nI_t, z_t, m1_t, m2_t, m3_t, m4_t, m9_t]) <;> omega)
                · exact k392 hC
              · try (simp (disch := omega) only [Int32.lt_iff_toInt_lt, Int32.le_iff_toInt_le, ← Int32.toInt_inj, ne_eq, nI_t, z_t, m1_t, m2_t, m3_t, m4_t, m9_t] at c381)
                exfalso
                omega
            · try (simp (disch := omega) only [Int32.lt_iff_toInt_lt, Int32.le_iff_toInt_le, ← Int32.toInt_inj, ne_eq, nI_t, z_t, m1_t, m2_t, m3_t, m4_t, m9_t] at c370)
              refine mx_iconst (pc' := 374) (v := nI 1) dL_would_373 (by decide) rfl ?_
              refine mx_goto (pc' := 378) dL_would_374 (by decide) ?_
              refine mx_iload_n (pc' := 379) dL_would_378 rfl rfl ?_
              refine mx_iload (pc' := 381) dL_would_379 rfl rfl ?_
              refine mx_icmp_gt (tgt := 388) (pc' := 384) dL_would_381 (by decide) rfl (fun c381 => ?_) (fun c381 => ?_)
              · try (simp (disch := omega) only [Int32.lt_iff_toInt_lt, Int32.le_iff_toInt_le, ← Int32.toInt_inj, ne_eq, nI_t, z_t, m1_t, m2_t, m3_t, m4_t, m9_t] at c381)
                exfalso
                omega
              · try (simp (disch := omega) only [Int32.lt_iff_toInt_lt, Int32.le_iff_toInt_le, ← Int32.toInt_inj, ne_eq, nI_t, z_t, m1_t, m2_t, m3_t, m4_t, m9_t] at c381)
                refine mx_iconst (pc' := 385) (v := nI 1) dL_would_384 (by decide) rfl ?_
                refine mx_goto (pc' := 389) dL_would_385 (by decide) ?_
                refine mx_icmp_ne (tgt := 396) (pc' := 392) dL_would_389 (by decide) rfl (fun c389 => ?_) (fun c389 => ?_)
                · first | exact absurd rfl c389 | exact absurd c389 (by (simp (disch := omega) only [Int32.lt_iff_toInt_lt, Int32.le_iff_toInt_le, ← Int32.toInt_inj, ne_eq, not_true_eq_false, not_false_eq_true, nI_t, z_t, m1_t, m2_t, m3_t, m4_t, m9_t]) <;> omega)
                · exact k392 hC
      have k321 : ∀ {M1}, CoA M1 Y → mx_V cL_would RL 19 (some .boolean) 8 321 [some (.ref 0), some (.int (x)), some (.int (nI T)), some (.int (nI b)), some (.int (nI g)), some (.int (nI e)), some (.int (ad)), some (.int (tk)), some (.int (wy)), some (.int (sh)), some (.int (nI f)), some (.int (nI w)), some (.double op), none, some (.int (st)), some (.int (wh)), some (.int (to)), some (.int (nI nb)), none] [] M1 Q := by
        intro M1 hC
        refine mx_aload_n (pc' := 322) dL_would_321 rfl rfl ?_
        refine mx_iconst (pc' := 323) (v := nI 0) dL_would_322 (by decide) rfl ?_
        refine mx_callV (pc' := 326) dL_would_323 cl_L_13 (rfl) (t_c0 _ Y hC) rfl (by decide) rfl (Nat.le_of_ble_eq_true rfl) rfl (fun v N323 hv => ?_)
        obtain ⟨rfl, hC, -⟩ := hv
        refine mx_if_ne (tgt := 339) (pc' := 329) dL_would_326 (by decide) rfl (fun c326 => ?_) (fun c326 => ?_)
        · try (simp (disch := omega) only [Int32.lt_iff_toInt_lt, Int32.le_iff_toInt_le, ← Int32.toInt_inj, ne_eq, nI_t, z_t, m1_t, m2_t, m3_t, m4_t, m9_t] at c326)
          obtain ⟨s, hs, rfl⟩ := (hS ()).resolve_left (fun z => by omega)
          refine mx_iload (pc' := 341) dL_would_339 rfl rfl ?_
          refine mx_if_lt (tgt := 396) (pc' := 344) dL_would_341 (by decide) rfl (fun c341 => ?_) (fun c341 => ?_)
          · first | exact absurd rfl c341 | exact absurd c341 (by (simp (disch := omega) only [Int32.lt_iff_toInt_lt, Int32.le_iff_toInt_le, ← Int32.toInt_inj, ne_eq, not_true_eq_false, not_false_eq_true, nI_t, z_t, m1_t, m2_t, m3_t, m4_t, m9_t]) <;> omega)
          · refine mx_iload (pc' := 346) dL_would_344 rfl rfl ?_
            refine mx_aload_n (pc' := 347) dL_would_346 rfl rfl ?_
            refine mx_iconst (pc' := 348) (v := nI 0) dL_would_347 (by decide) rfl ?_
            refine mx_callV (pc' := 351) dL_would_348 cl_L_13 (rfl) (t_c0 _ Y hC) rfl (by decide) rfl (Nat.le_of_ble_eq_true rfl) rfl (fun v N348 hv => ?_)
            obtain ⟨rfl, hC, -⟩ := hv
            refine mx_icmp_ge (tgt := 396) (pc' := 354) dL_would_351 (by decide) rfl (fun c351 => ?_) (fun c351 => ?_)
            · first | exact absurd rfl c351 | exact absurd c351 (by (simp (disch := omega) only [Int32.lt_iff_toInt_lt, Int32.le_iff_toInt_le, ← Int32.toInt_inj, ne_eq, not_true_eq_false, not_false_eq_true, nI_t, z_t, m1_t, m2_t, m3_t, m4_t, m9_t]) <;> omega)
            · exact k354 hC
        · try (simp (disch := omega) only [Int32.lt_iff_toInt_lt, Int32.le_iff_toInt_le, ← Int32.toInt_inj, ne_eq, nI_t, z_t, m1_t, m2_t, m3_t, m4_t, m9_t] at c326)
          have e1 : sh = (-2) := by
            rcases hS () with ⟨-, h⟩ | ⟨s, hs, -⟩
            · exact h
            · omega
          subst e1
          refine mx_iload (pc' := 331) dL_would_329 rfl rfl ?_
          refine mx_bipush (pc' := 333) (v := (-2)) dL_would_331 (by decide) rfl ?_
          refine mx_icmp_ne (tgt := 396) (pc' := 336) dL_would_333 (by decide) rfl (fun c333 => ?_) (fun c333 => ?_)
          · first | exact absurd rfl c333 | exact absurd c333 (by (simp (disch := omega) only [Int32.lt_iff_toInt_lt, Int32.le_iff_toInt_le, ← Int32.toInt_inj, ne_eq, not_true_eq_false, not_false_eq_true, nI_t, z_t, m1_t, m2_t, m3_t, m4_t, m9_t]) <;> omega)
          · refine mx_goto (pc' := 354) dL_would_336 (by decide) ?_
            exact k354 hC
      refine mx_iload (pc' := 271) dL_would_269 rfl rfl ?_
      refine mx_if_lt (tgt := 396) (pc' := 274) dL_would_271 (by decide) rfl (fun c271 => ?_) (fun c271 => ?_)
      · first | exact absurd rfl c271 | exact absurd c271 (by (simp (disch := omega) only [Int32.lt_iff_toInt_lt, Int32.le_iff_toInt_le, ← Int32.toInt_inj, ne_eq, not_true_eq_false, not_false_eq_true, nI_t, z_t, m1_t, m2_t, m3_t, m4_t, m9_t]) <;> omega)
      · refine mx_iload (pc' := 276) dL_would_274 rfl rfl ?_
        refine mx_iload (pc' := 278) dL_would_276 rfl rfl ?_
        refine mx_callS (pc' := 281) dL_would_278 cl_L_64 (t_L_ones _ _ hg) rfl (by decide) rfl (Nat.le_of_ble_eq_true rfl) rfl (fun v N278 hv => ?_)
        obtain ⟨rfl, rfl⟩ := hv
        refine mx_icmp_gt (tgt := 396) (pc' := 284) dL_would_281 (by decide) rfl (fun c281 => ?_) (fun c281 => ?_)
        · first | exact absurd rfl c281 | exact absurd c281 (by (simp (disch := omega) only [Int32.lt_iff_toInt_lt, Int32.le_iff_toInt_le, ← Int32.toInt_inj, ne_eq, not_true_eq_false, not_false_eq_true, nI_t, z_t, m1_t, m2_t, m3_t, m4_t, m9_t]) <;> omega)
        · refine mx_iload (pc' := 286) dL_would_284 rfl rfl ?_
          refine mx_aload_n (pc' := 287) dL_would_286 rfl rfl ?_
          refine mx_iload_n (pc' := 288) dL_would_287 rfl rfl ?_
          refine mx_iconst (pc' := 289) (v := nI 1) dL_would_288 (by decide) rfl ?_
          refine mx_callV (pc' := 292) dL_would_289 cl_L_37 (rfl) (t_X7_ends _ Y hC (Nat.lt_of_le_of_lt (Nat.add_le_add_right ht 100) (Nat.le_of_ble_eq_true rfl)) _ _) rfl (by decide) rfl (Nat.le_of_ble_eq_true rfl) rfl (fun v N289 hv => ?_)
          obtain ⟨rfl, hC, -⟩ := hv
          rw [e2]
          refine mx_icmp_ne (tgt := 396) (pc' := 295) dL_would_292 (by decide) rfl (fun c292 => ?_) (fun c292 => ?_)
          · first | exact absurd rfl c292 | exact absurd c292 (by (simp (disch := omega) only [Int32.lt_iff_toInt_lt, Int32.le_iff_toInt_le, ← Int32.toInt_inj, ne_eq, not_true_eq_false, not_false_eq_true, nI_t, z_t, m1_t, m2_t, m3_t, m4_t, m9_t]) <;> omega)
          · refine mx_iload (pc' := 297) dL_would_295 rfl rfl ?_
            refine mx_bipush (pc' := 299) (v := (-4)) dL_would_297 (by decide) rfl ?_
            refine mx_icmp_ne (tgt := 310) (pc' := 302) dL_would_299 (by decide) rfl (fun c299 => ?_) (fun c299 => ?_)
            · obtain ⟨a, ha, rfl⟩ := (hA ()).resolve_left (fun z => c299 z.1)
              refine mx_iload (pc' := 312) dL_would_310 rfl rfl ?_
              refine mx_if_lt (tgt := 396) (pc' := 315) dL_would_312 (by decide) rfl (fun c312 => ?_) (fun c312 => ?_)
              · first | exact absurd rfl c312 | exact absurd c312 (by (simp (disch := omega) only [Int32.lt_iff_toInt_lt, Int32.le_iff_toInt_le, ← Int32.toInt_inj, ne_eq, not_true_eq_false, not_false_eq_true, nI_t, z_t, m1_t, m2_t, m3_t, m4_t, m9_t]) <;> omega)
              · refine mx_iload (pc' := 317) dL_would_315 rfl rfl ?_
                refine mx_iload_n (pc' := 318) dL_would_317 rfl rfl ?_
                refine mx_icmp_gt (tgt := 396) (pc' := 321) dL_would_318 (by decide) rfl (fun c318 => ?_) (fun c318 => ?_)
                · first | exact absurd rfl c318 | exact absurd c318 (by (simp (disch := omega) only [Int32.lt_iff_toInt_lt, Int32.le_iff_toInt_le, ← Int32.toInt_inj, ne_eq, not_true_eq_false, not_false_eq_true, nI_t, z_t, m1_t, m2_t, m3_t, m4_t, m9_t]) <;> omega)
                · exact k321 hC
            · have he0 : e = 0 := by
                rcases hA () with ⟨_, h⟩ | ⟨a, ha, h⟩
                · exact h
                · exact absurd (h.symm.trans c299) (n4_ne a (by omega))
              refine mx_iload (pc' := 304) dL_would_302 rfl rfl ?_
              refine mx_if_ne (tgt := 396) (pc' := 307) dL_would_304 (by decide) rfl (fun c304 => ?_) (fun c304 => ?_)
              · first | exact absurd rfl c304 | exact absurd c304 (by (simp (disch := omega) only [Int32.lt_iff_toInt_lt, Int32.le_iff_toInt_le, ← Int32.toInt_inj, ne_eq, not_true_eq_false, not_false_eq_true, nI_t, z_t, m1_t, m2_t, m3_t, m4_t, m9_t]) <;> omega)
              · refine mx_goto (pc' := 321) dL_would_307 (by decide) ?_
                exact k321 hC
    · try (simp (disch := omega) only [Int32.lt_iff_toInt_lt, Int32.le_iff_toInt_le, ← Int32.toInt_inj, ne_eq, nI_t, z_t, m1_t, m2_t, m3_t, m4_t, m9_t] at c236)
      obtain ⟨e1, e2, e3, e4⟩ := F3 () (by omega)
      subst e1 e2 e3 e4
      refine mx_iload (pc' := 241) dL_would_239 rfl rfl ?_
      refine mx_iconst (pc' := 242) (v := (-1)) dL_would_241 (by decide) rfl ?_
      refine mx_icmp_ne (tgt := 396) (pc' := 245) dL_would_242 (by decide) rfl (fun c242 => ?_) (fun c242 => ?_)
      · first | exact absurd rfl c242 | exact absurd c242 (by (simp (disch := omega) only [Int32.lt_iff_toInt_lt, Int32.le_iff_toInt_le, ← Int32.toInt_inj, ne_eq, not_true_eq_false, not_false_eq_true, nI_t, z_t, m1_t, m2_t, m3_t, m4_t, m9_t]) <;> omega)
      · refine mx_iload (pc' := 247) dL_would_245 rfl rfl ?_
        refine mx_iconst (pc' := 248) (v := (-1)) dL_would_247 (by decide) rfl ?_
        refine mx_icmp_ne (tgt := 396) (pc' := 251) dL_would_248 (by decide) rfl (fun c248 => ?_) (fun c248 => ?_)
        · first | exact absurd rfl c248 | exact absurd c248 (by (simp (disch := omega) only [Int32.lt_iff_toInt_lt, Int32.le_iff_toInt_le, ← Int32.toInt_inj, ne_eq, not_true_eq_false, not_false_eq_true, nI_t, z_t, m1_t, m2_t, m3_t, m4_t, m9_t]) <;> omega)
        · refine mx_iload (pc' := 253) dL_would_251 rfl rfl ?_
          refine mx_iconst (pc' := 254) (v := (-1)) dL_would_253 (by decide) rfl ?_
          refine mx_icmp_ne (tgt := 396) (pc' := 257) dL_would_254 (by decide) rfl (fun c254 => ?_) (fun c254 => ?_)
          · first | exact absurd rfl c254 | exact absurd c254 (by (simp (disch := omega) only [Int32.lt_iff_toInt_lt, Int32.le_iff_toInt_le, ← Int32.toInt_inj, ne_eq, not_true_eq_false, not_false_eq_true, nI_t, z_t, m1_t, m2_t, m3_t, m4_t, m9_t]) <;> omega)
          · refine mx_dload (pc' := 259) dL_would_257 rfl rfl ?_
            refine mx_ldc2d (pc' := 262) dL_would_259 cl_d67 rfl ?_
            refine mx_dcmp (pc' := 263) (v := nI 0) dL_would_262 (by decide +kernel) rfl ?_
            refine mx_if_ne (tgt := 396) (pc' := 266) dL_would_263 (by decide) rfl (fun c263 => ?_) (fun c263 => ?_)
            · first | exact absurd rfl c263 | exact absurd c263 (by (simp (disch := omega) only [Int32.lt_iff_toInt_lt, Int32.le_iff_toInt_le, ← Int32.toInt_inj, ne_eq, not_true_eq_false, not_false_eq_true, nI_t, z_t, m1_t, m2_t, m3_t, m4_t, m9_t]) <;> omega)
            · refine mx_goto (pc' := 392) dL_would_266 (by decide) ?_
              exact k392 hC
  refine mx_iload_n (pc' := 164) dL_would_163 rfl rfl ?_
  refine mx_bipush (pc' := 166) (v := nI 31) dL_would_164 (by decide) rfl ?_
  refine mx_icmp_ne (tgt := 184) (pc' := 169) dL_would_166 (by decide) rfl (fun c166 => ?_) (fun c166 => ?_)
  · try (simp (disch := omega) only [Int32.lt_iff_toInt_lt, Int32.le_iff_toInt_le, ← Int32.toInt_inj, ne_eq, nI_t, z_t, m1_t, m2_t, m3_t, m4_t, m9_t] at c166)
    obtain ⟨g, w, hgf, e8, hg, hpw, hz, e9, hw10⟩ := F2 () (by omega)
    have hpl := pop10_le g
    subst e8 e9
    refine mx_iload (pc' := 186) dL_would_184 rfl rfl ?_
    refine mx_if_lt (tgt := 396) (pc' := 189) dL_would_186 (by decide) rfl (fun c186 => ?_) (fun c186 => ?_)
    · first | exact absurd rfl c186 | exact absurd c186 (by (simp (disch := omega) only [Int32.lt_iff_toInt_lt, Int32.le_iff_toInt_le, ← Int32.toInt_inj, ne_eq, not_true_eq_false, not_false_eq_true, nI_t, z_t, m1_t, m2_t, m3_t, m4_t, m9_t]) <;> omega)
    · refine mx_iload (pc' := 191) dL_would_189 rfl rfl ?_
      refine mx_sipush (pc' := 194) (v := nI 1024) dL_would_191 (by decide) rfl ?_
      refine mx_icmp_ge (tgt := 396) (pc' := 197) dL_would_194 (by decide) rfl (fun c194 => ?_) (fun c194 => ?_)
      · first | exact absurd rfl c194 | exact absurd c194 (by (simp (disch := omega) only [Int32.lt_iff_toInt_lt, Int32.le_iff_toInt_le, ← Int32.toInt_inj, ne_eq, not_true_eq_false, not_false_eq_true, nI_t, z_t, m1_t, m2_t, m3_t, m4_t, m9_t]) <;> omega)
      · refine mx_iload (pc' := 199) dL_would_197 rfl rfl ?_
        refine mx_if_lt (tgt := 396) (pc' := 202) dL_would_199 (by decide) rfl (fun c199 => ?_) (fun c199 => ?_)
        · first | exact absurd rfl c199 | exact absurd c199 (by (simp (disch := omega) only [Int32.lt_iff_toInt_lt, Int32.le_iff_toInt_le, ← Int32.toInt_inj, ne_eq, not_true_eq_false, not_false_eq_true, nI_t, z_t, m1_t, m2_t, m3_t, m4_t, m9_t]) <;> omega)
        · refine mx_iload (pc' := 204) dL_would_202 rfl rfl ?_
          refine mx_iload (pc' := 206) dL_would_204 rfl rfl ?_
          refine mx_callS (pc' := 209) dL_would_206 cl_L_64 (t_L_ones _ _ hg) rfl (by decide) rfl (Nat.le_of_ble_eq_true rfl) rfl (fun v N206 hv => ?_)
          obtain ⟨rfl, rfl⟩ := hv
          refine mx_icmp_gt (tgt := 396) (pc' := 212) dL_would_209 (by decide) rfl (fun c209 => ?_) (fun c209 => ?_)
          · first | exact absurd rfl c209 | exact absurd c209 (by (simp (disch := omega) only [Int32.lt_iff_toInt_lt, Int32.le_iff_toInt_le, ← Int32.toInt_inj, ne_eq, not_true_eq_false, not_false_eq_true, nI_t, z_t, m1_t, m2_t, m3_t, m4_t, m9_t]) <;> omega)
          · refine mx_iload (pc' := 214) dL_would_212 rfl rfl ?_
            refine mx_if_ne (tgt := 221) (pc' := 217) dL_would_214 (by decide) rfl (fun c214 => ?_) (fun c214 => ?_)
            · try (simp (disch := omega) only [Int32.lt_iff_toInt_lt, Int32.le_iff_toInt_le, ← Int32.toInt_inj, ne_eq, nI_t, z_t, m1_t, m2_t, m3_t, m4_t, m9_t] at c214)
              refine mx_iconst (pc' := 222) (v := nI 0) dL_would_221 (by decide) rfl ?_
              refine mx_iload (pc' := 224) dL_would_222 rfl rfl ?_
              refine mx_if_ne (tgt := 231) (pc' := 227) dL_would_224 (by decide) rfl (fun c224 => ?_) (fun c224 => ?_)
              · try (simp (disch := omega) only [Int32.lt_iff_toInt_lt, Int32.le_iff_toInt_le, ← Int32.toInt_inj, ne_eq, nI_t, z_t, m1_t, m2_t, m3_t, m4_t, m9_t] at c224)
                refine mx_iconst (pc' := 232) (v := nI 0) dL_would_231 (by decide) rfl ?_
                refine mx_icmp_ne (tgt := 396) (pc' := 235) dL_would_232 (by decide) rfl (fun c232 => ?_) (fun c232 => ?_)
                · first | exact absurd rfl c232 | exact absurd c232 (by (simp (disch := omega) only [Int32.lt_iff_toInt_lt, Int32.le_iff_toInt_le, ← Int32.toInt_inj, ne_eq, not_true_eq_false, not_false_eq_true, nI_t, z_t, m1_t, m2_t, m3_t, m4_t, m9_t]) <;> omega)
                · exact k235 hC
              · try (simp (disch := omega) only [Int32.lt_iff_toInt_lt, Int32.le_iff_toInt_le, ← Int32.toInt_inj, ne_eq, nI_t, z_t, m1_t, m2_t, m3_t, m4_t, m9_t] at c224)
                exfalso
                omega
            · try (simp (disch := omega) only [Int32.lt_iff_toInt_lt, Int32.le_iff_toInt_le, ← Int32.toInt_inj, ne_eq, nI_t, z_t, m1_t, m2_t, m3_t, m4_t, m9_t] at c214)
              refine mx_iconst (pc' := 218) (v := nI 1) dL_would_217 (by decide) rfl ?_
              refine mx_goto (pc' := 222) dL_would_218 (by decide) ?_
              refine mx_iload (pc' := 224) dL_would_222 rfl rfl ?_
              refine mx_if_ne (tgt := 231) (pc' := 227) dL_would_224 (by decide) rfl (fun c224 => ?_) (fun c224 => ?_)
              · try (simp (disch := omega) only [Int32.lt_iff_toInt_lt, Int32.le_iff_toInt_le, ← Int32.toInt_inj, ne_eq, nI_t, z_t, m1_t, m2_t, m3_t, m4_t, m9_t] at c224)
                exfalso
                omega
              · try (simp (disch := omega) only [Int32.lt_iff_toInt_lt, Int32.le_iff_toInt_le, ← Int32.toInt_inj, ne_eq, nI_t, z_t, m1_t, m2_t, m3_t, m4_t, m9_t] at c224)
                refine mx_iconst (pc' := 228) (v := nI 1) dL_would_227 (by decide) rfl ?_
                refine mx_goto (pc' := 232) dL_would_228 (by decide) ?_
                refine mx_icmp_ne (tgt := 396) (pc' := 235) dL_would_232 (by decide) rfl (fun c232 => ?_) (fun c232 => ?_)
                · first | exact absurd rfl c232 | exact absurd c232 (by (simp (disch := omega) only [Int32.lt_iff_toInt_lt, Int32.le_iff_toInt_le, ← Int32.toInt_inj, ne_eq, not_true_eq_false, not_false_eq_true, nI_t, z_t, m1_t, m2_t, m3_t, m4_t, m9_t]) <;> omega)
                · exact k235 hC
  · try (simp (disch := omega) only [Int32.lt_iff_toInt_lt, Int32.le_iff_toInt_le, ← Int32.toInt_inj, ne_eq, nI_t, z_t, m1_t, m2_t, m3_t, m4_t, m9_t] at c166)
    obtain ⟨e1, e2⟩ := F1 () (by omega)
    subst e1 e2
    refine mx_iload (pc' := 171) dL_would_169 rfl rfl ?_
    refine mx_iconst (pc' := 172) (v := (-1)) dL_would_171 (by decide) rfl ?_
    refine mx_icmp_ne (tgt := 396) (pc' := 175) dL_would_172 (by decide) rfl (fun c172 => ?_) (fun c172 => ?_)
    · first | exact absurd rfl c172 | exact absurd c172 (by (simp (disch := omega) only [Int32.lt_iff_toInt_lt, Int32.le_iff_toInt_le, ← Int32.toInt_inj, ne_eq, not_true_eq_false, not_false_eq_true, nI_t, z_t, m1_t, m2_t, m3_t, m4_t, m9_t]) <;> omega)
    · refine mx_iload (pc' := 177) dL_would_175 rfl rfl ?_
      refine mx_iconst (pc' := 178) (v := (-1)) dL_would_177 (by decide) rfl ?_
      refine mx_icmp_ne (tgt := 396) (pc' := 181) dL_would_178 (by decide) rfl (fun c178 => ?_) (fun c178 => ?_)
      · first | exact absurd rfl c178 | exact absurd c178 (by (simp (disch := omega) only [Int32.lt_iff_toInt_lt, Int32.le_iff_toInt_le, ← Int32.toInt_inj, ne_eq, not_true_eq_false, not_false_eq_true, nI_t, z_t, m1_t, m2_t, m3_t, m4_t, m9_t]) <;> omega)
      · refine mx_goto (pc' := 235) dL_would_181 (by decide) ?_
        exact k235 hC

set_option maxHeartbeats 2000000 in
set_option maxRecDepth 10000 in
theorem l_wC (Y : Sy) (ht : Y.1.2.2.1 3 ≤ 100000) (hF : FI Y.1) (Q : Option Value → mx_M → Prop) (x : Int32) (T b : Nat) (fr en ad tk wy sh fa wi st wh to : Int32) (op : UInt64) (hT : T < 32) (hb : (b = 1 ∧ (T = 0 ∨ T = 31)) ∨ (b = 0 ∧ 1 ≤ T ∧ T ≤ 30)) (kk : ∀ nb : Nat, ((nb = 1 ∧ (b = 1 ∨ st.toInt < -1 ∨ 1 < st.toInt ∨ wh.toInt < 0 ∨ 2 < wh.toInt)) ∨ (nb = 0 ∧ b = 0 ∧ -1 ≤ st.toInt ∧ st.toInt ≤ 1 ∧ 0 ≤ wh.toInt ∧ wh.toInt ≤ 2)) → ∀ M1, CoA M1 Y → mx_V cL_would RL 19 (some .boolean) 8 163 [some (.ref 0), some (.int (x)), some (.int (nI T)), some (.int (nI b)), some (.int (fr)), some (.int (en)), some (.int (ad)), some (.int (tk)), some (.int (wy)), some (.int (sh)), some (.int (fa)), some (.int (wi)), some (.double op), none, some (.int (st)), some (.int (wh)), some (.int (to)), some (.int (nI nb)), none] [] M1 Q) {M1 : mx_M} (hC : CoA M1 Y) : mx_V cL_would RL 19 (some .boolean) 8 129 [some (.ref 0), some (.int (x)), some (.int (nI T)), some (.int (nI b)), some (.int (fr)), some (.int (en)), some (.int (ad)), some (.int (tk)), some (.int (wy)), some (.int (sh)), some (.int (fa)), some (.int (wi)), some (.double op), none, some (.int (st)), some (.int (wh)), some (.int (to)), none, none] [] M1 Q := by
  refine mx_iload_n (pc' := 130) dL_would_129 rfl rfl ?_
  refine mx_if_ne (tgt := 156) (pc' := 133) dL_would_130 (by decide) rfl (fun c130 => ?_) (fun c130 => ?_)
  · try (simp (disch := omega) only [Int32.lt_iff_toInt_lt, Int32.le_iff_toInt_le, ← Int32.toInt_inj, ne_eq, nI_t, z_t, m1_t, m2_t, m3_t, m4_t, m9_t] at c130)
    refine mx_iconst (pc' := 157) (v := nI 1) dL_would_156 (by decide) rfl ?_
    refine mx_goto (pc' := 161) dL_would_157 (by decide) ?_
    refine mx_xistore (pc' := 163) (ls' := [_, _, _, _, _, _, _, _, _, _, _, _, _, _, _, _, _, _, _]) dL_would_161 (by decide) rfl rfl rfl ?_
    exact kk 1 (by omega) _ hC
  · try (simp (disch := omega) only [Int32.lt_iff_toInt_lt, Int32.le_iff_toInt_le, ← Int32.toInt_inj, ne_eq, nI_t, z_t, m1_t, m2_t, m3_t, m4_t, m9_t] at c130)
    refine mx_iload (pc' := 135) dL_would_133 rfl rfl ?_
    refine mx_iconst (pc' := 136) (v := (-1)) dL_would_135 (by decide) rfl ?_
    refine mx_icmp_lt (tgt := 156) (pc' := 139) dL_would_136 (by decide) rfl (fun c136 => ?_) (fun c136 => ?_)
    · try (simp (disch := omega) only [Int32.lt_iff_toInt_lt, Int32.le_iff_toInt_le, ← Int32.toInt_inj, ne_eq, nI_t, z_t, m1_t, m2_t, m3_t, m4_t, m9_t] at c136)
      refine mx_iconst (pc' := 157) (v := nI 1) dL_would_156 (by decide) rfl ?_
      refine mx_goto (pc' := 161) dL_would_157 (by decide) ?_
      refine mx_xistore (pc' := 163) (ls' := [_, _, _, _, _, _, _, _, _, _, _, _, _, _, _, _, _, _, _]) dL_would_161 (by decide) rfl rfl rfl ?_
      exact kk 1 (by omega) _ hC
    · try (simp (disch := omega) only [Int32.lt_iff_toInt_lt, Int32.le_iff_toInt_le, ← Int32.toInt_inj, ne_eq, nI_t, z_t, m1_t, m2_t, m3_t, m4_t, m9_t] at c136)
      refine mx_iload (pc' := 141) dL_would_139 rfl rfl ?_
      refine mx_iconst (pc' := 142) (v := nI 1) dL_would_141 (by decide) rfl ?_
      refine mx_icmp_gt (tgt := 156) (pc' := 145) dL_would_142 (by decide) rfl (fun c142 => ?_) (fun c142 => ?_)
      · try (simp (disch := omega) only [Int32.lt_iff_toInt_lt, Int32.le_iff_toInt_le, ← Int32.toInt_inj, ne_eq, nI_t, z_t, m1_t, m2_t, m3_t, m4_t, m9_t] at c142)
        refine mx_iconst (pc' := 157) (v := nI 1) dL_would_156 (by decide) rfl ?_
        refine mx_goto (pc' := 161) dL_would_157 (by decide) ?_
        refine mx_xistore (pc' := 163) (ls' := [_, _, _, _, _, _, _, _, _, _, _, _, _, _, _, _, _, _, _]) dL_would_161 (by decide) rfl rfl rfl ?_
        exact kk 1 (by omega) _ hC
      · try (simp (disch := omega) only [Int32.lt_iff_toInt_lt, Int32.le_iff_toInt_le, ← Int32.toInt_inj, ne_eq, nI_t, z_t, m1_t, m2_t, m3_t, m4_t, m9_t] at c142)
        refine mx_iload (pc' := 147) dL_would_145 rfl rfl ?_
        refine mx_if_lt (tgt := 156) (pc' := 150) dL_would_147 (by decide) rfl (fun c147 => ?_) (fun c147 => ?_)
        · try (simp (disch := omega) only [Int32.lt_iff_toInt_lt, Int32.le_iff_toInt_le, ← Int32.toInt_inj, ne_eq, nI_t, z_t, m1_t, m2_t, m3_t, m4_t, m9_t] at c147)
          refine mx_iconst (pc' := 157) (v := nI 1) dL_would_156 (by decide) rfl ?_
          refine mx_goto (pc' := 161) dL_would_157 (by decide) ?_
          refine mx_xistore (pc' := 163) (ls' := [_, _, _, _, _, _, _, _, _, _, _, _, _, _, _, _, _, _, _]) dL_would_161 (by decide) rfl rfl rfl ?_
          exact kk 1 (by omega) _ hC
        · try (simp (disch := omega) only [Int32.lt_iff_toInt_lt, Int32.le_iff_toInt_le, ← Int32.toInt_inj, ne_eq, nI_t, z_t, m1_t, m2_t, m3_t, m4_t, m9_t] at c147)
          refine mx_iload (pc' := 152) dL_would_150 rfl rfl ?_
          refine mx_iconst (pc' := 153) (v := nI 2) dL_would_152 (by decide) rfl ?_
          refine mx_icmp_le (tgt := 160) (pc' := 156) dL_would_153 (by decide) rfl (fun c153 => ?_) (fun c153 => ?_)
          · try (simp (disch := omega) only [Int32.lt_iff_toInt_lt, Int32.le_iff_toInt_le, ← Int32.toInt_inj, ne_eq, nI_t, z_t, m1_t, m2_t, m3_t, m4_t, m9_t] at c153)
            refine mx_iconst (pc' := 161) (v := nI 0) dL_would_160 (by decide) rfl ?_
            refine mx_xistore (pc' := 163) (ls' := [_, _, _, _, _, _, _, _, _, _, _, _, _, _, _, _, _, _, _]) dL_would_161 (by decide) rfl rfl rfl ?_
            exact kk 0 (by omega) _ hC
          · try (simp (disch := omega) only [Int32.lt_iff_toInt_lt, Int32.le_iff_toInt_le, ← Int32.toInt_inj, ne_eq, nI_t, z_t, m1_t, m2_t, m3_t, m4_t, m9_t] at c153)
            refine mx_iconst (pc' := 157) (v := nI 1) dL_would_156 (by decide) rfl ?_
            refine mx_goto (pc' := 161) dL_would_157 (by decide) ?_
            refine mx_xistore (pc' := 163) (ls' := [_, _, _, _, _, _, _, _, _, _, _, _, _, _, _, _, _, _, _]) dL_would_161 (by decide) rfl rfl rfl ?_
            exact kk 1 (by omega) _ hC

set_option maxHeartbeats 2000000 in
set_option maxRecDepth 10000 in
theorem l_w129 (Y : Sy) (ht : Y.1.2.2.1 3 ≤ 100000) (hF : FI Y.1) (Q : Option Value → mx_M → Prop) (kq : ∀ M1, CoA M1 Y → Q (some (.int (nI 1))) M1) (x : Int32) (T b : Nat) (tk st wh : Int32) (hT : T < 32) (hb : (b = 1 ∧ (T = 0 ∨ T = 31)) ∨ (b = 0 ∧ 1 ≤ T ∧ T ≤ 30)) {M1 : mx_M} (hC : CoA M1 Y) : mx_V cL_would RL 19 (some .boolean) 8 129 [some (.ref 0), some (.int (x)), some (.int (nI T)), some (.int (nI b)), some (.int (oFree (nI T) Y)), some (.int (oEnds (nI T) (nI 0) Y)), some (.int (oAsides (nI T) Y)), some (.int (tk)), some (.int (oWay (nI T) tk Y)), some (.int (oShuts (nI T) Y)), some (.int (oFair Y)), some (.int (oLane (nI T) (nI 1) Y)), some (.double (oOpenness (nI T) Y)), none, some (.int (st)), some (.int (wh)), some (.int (oIfStepped st (nI T) wh Y)), none, none] [] M1 Q := by
  refine l_wC Y ht hF Q x T b _ _ _ tk _ _ _ _ st wh _ _ hT hb (fun nb hnb M1 hC => ?_) hC
  refine l_wD Y ht hF Q x T b nb _ _ _ tk _ _ _ _ st wh _ _ hT hb (fun M1 hC => ?_) (fun _ h => by subst h; exact wf_free31) (fun _ h => ⟨_, _, rfl, (wf_free h).1, fFr_lt _ _, (wd_pop _ (fFr_lt _ _)).1, (wd_pop _ (fFr_lt _ _)).2, (wf_free h).2, wdN_le _ _⟩) (fun _ h => wf_bad h) (fun _ h => ?_) hC
  · refine l_wE Y ht hF Q x T b nb _ _ _ tk _ _ _ _ st wh _ _ hT hb (fun M1 hC => ?_) (fun _ h => wf_way1 hT h) (fun t h1 h2 h3 e => ?_) hC
    · refine l_wF Y ht hF Q kq x T b nb _ _ _ tk _ _ _ _ st wh _ _ hT (by omega) wf_fair (fun _ h => by omega) (fun _ h => wf_told1 (by omega)) (fun _ h => ?_) hC
      have q := wf_told2 (T := T) (st := st) (wh := wh) hF (by omega) (by omega) (by omega) (by omega) (by omega) (by omega)
      exact ⟨fun _ => q.1, fun _ h => ⟨fun _ => (q.2 h).1, fun _ => (q.2 h).2⟩⟩
    · rw [e]
      have q := wf_way2 hF h1 h2 h3
      exact ⟨fun _ => q.1, fun _ h => by
        obtain ⟨w, a1, a2, a3, a4⟩ := q.2 h
        exact ⟨w, a1, a2, fun _ => a3, fun _ => a4⟩⟩
  · obtain ⟨e, fa, q1, q2, q3, q4, q5, q6, q7, q8, q9, q10⟩ := wf_good (T := T) hF (by omega) (by omega)
    exact ⟨e, fa, q1, q2, q3, fun _ => q4, fun _ => q5, q6, q7, q8, q9, q10⟩

set_option maxHeartbeats 2000000 in
set_option maxRecDepth 10000 in
theorem t_L_would (M : mx_M) (Y : Sy) (hC : CoA M Y) (ht : Y.1.2.2.1 3 ≤ 100000) (hF : FI Y.1) (x : Int32) : mx_T yL_would cL_would 19 (some .boolean) 8 [.ref 0, .int x] M (fun v M' => v = some (.int (nI 1)) ∧ CoA M' Y) := by
  refine mx_T.of1 (own := RL) (ls := [some (.ref 0), some (.int x), none, none, none, none, none, none, none, none, none, none, none, none, none, none, none, none, none]) (by decide +kernel) rfl (Nat.le_of_ble_eq_true rfl) rfl rfl ?_
  refine mx_iload_n (pc' := 1) dL_would_0 rfl rfl ?_
  refine mx_bipush (pc' := 3) (v := nI 32) dL_would_1 (by decide) rfl ?_
  refine mx_callS (pc' := 6) dL_would_3 cl_L_34 (t_L_low _ _ _ ⟨by omega, by omega⟩) rfl (by decide) rfl (Nat.le_of_ble_eq_true rfl) rfl (fun v N3 hv => ?_)
  obtain ⟨j3, hj3, rfl, rfl⟩ := hv
  refine mx_xistore_n (pc' := 7) (ls' := [_, _, _, _, _, _, _, _, _, _, _, _, _, _, _, _, _, _, _]) dL_would_6 (by decide) rfl rfl rfl ?_
  have k23 : ∀ (b : Nat), ((b = 1 ∧ (j3 = 0 ∨ j3 = 31)) ∨ (b = 0 ∧ 1 ≤ j3 ∧ j3 ≤ 30)) → ∀ {M1}, CoA M1 Y → mx_V cL_would RL 19 (some .boolean) 8 23 [some (.ref 0), some (.int (x)), some (.int (nI j3)), some (.int (nI b)), none, none, none, none, none, none, none, none, none, none, none, none, none, none, none] [] M1 (fun v M2 => v = some (.int (nI 1)) ∧ CoA M2 Y) := by
    intro b hb M1 hC
    refine mx_aload_n (pc' := 24) dL_would_23 rfl rfl ?_
    refine mx_iload_n (pc' := 25) dL_would_24 rfl rfl ?_
    refine mx_callV (pc' := 28) dL_would_25 cl_L_31 (rfl) (t_X7_free _ Y hC (Nat.lt_of_le_of_lt (Nat.add_le_add_right ht 100) (Nat.le_of_ble_eq_true rfl)) _) rfl (by decide) rfl (Nat.le_of_ble_eq_true rfl) rfl (fun v N25 hv => ?_)
    obtain ⟨rfl, hC, -⟩ := hv
    refine mx_xistore (pc' := 30) (ls' := [_, _, _, _, _, _, _, _, _, _, _, _, _, _, _, _, _, _, _]) dL_would_28 (by decide) rfl rfl rfl ?_
    refine mx_aload_n (pc' := 31) dL_would_30 rfl rfl ?_
    refine mx_iload_n (pc' := 32) dL_would_31 rfl rfl ?_
    refine mx_iconst (pc' := 33) (v := nI 0) dL_would_32 (by decide) rfl ?_
    refine mx_callV (pc' := 36) dL_would_33 cl_L_37 (rfl) (t_X7_ends _ Y hC (Nat.lt_of_le_of_lt (Nat.add_le_add_right ht 100) (Nat.le_of_ble_eq_true rfl)) _ _) rfl (by decide) rfl (Nat.le_of_ble_eq_true rfl) rfl (fun v N33 hv => ?_)
    obtain ⟨rfl, hC, -⟩ := hv
    refine mx_xistore (pc' := 38) (ls' := [_, _, _, _, _, _, _, _, _, _, _, _, _, _, _, _, _, _, _]) dL_would_36 (by decide) rfl rfl rfl ?_
    refine mx_aload_n (pc' := 39) dL_would_38 rfl rfl ?_
    refine mx_iload_n (pc' := 40) dL_would_39 rfl rfl ?_
    refine mx_callV (pc' := 43) dL_would_40 cl_L_40 (rfl) (t_X7_asides _ Y hC (Nat.lt_of_le_of_lt (Nat.add_le_add_right ht 100) (Nat.le_of_ble_eq_true rfl)) _) rfl (by decide) rfl (Nat.le_of_ble_eq_true rfl) rfl (fun v N40 hv => ?_)
    obtain ⟨rfl, hC, -⟩ := hv
    refine mx_xistore (pc' := 45) (ls' := [_, _, _, _, _, _, _, _, _, _, _, _, _, _, _, _, _, _, _]) dL_would_43 (by decide) rfl rfl rfl ?_
    refine mx_iload_n (pc' := 46) dL_would_45 rfl rfl ?_
    refine mx_iconst (pc' := 47) (v := nI 5) dL_would_46 (by decide) rfl ?_
    refine mx_ishr (pc' := 48) dL_would_47 (rfl) rfl ?_
    refine mx_bipush (pc' := 50) (v := nI 34) dL_would_48 (by decide) rfl ?_
    refine mx_callS (pc' := 53) dL_would_50 cl_L_34 (t_L_low _ _ _ ⟨by omega, by omega⟩) rfl (by decide) rfl (Nat.le_of_ble_eq_true rfl) rfl (fun v N50 hv => ?_)
    obtain ⟨j50, hj50, rfl, rfl⟩ := hv
    refine mx_iconst (pc' := 54) (v := nI 1) dL_would_53 (by decide) rfl ?_
    refine mx_isub (pc' := 55) dL_would_54 (rfl) rfl ?_
    refine mx_xistore (pc' := 57) (ls' := [_, _, _, _, _, _, _, _, _, _, _, _, _, _, _, _, _, _, _]) dL_would_55 (by decide) rfl rfl rfl ?_
    refine mx_aload_n (pc' := 58) dL_would_57 rfl rfl ?_
    refine mx_iload_n (pc' := 59) dL_would_58 rfl rfl ?_
    refine mx_iload (pc' := 61) dL_would_59 rfl rfl ?_
    refine mx_callV (pc' := 64) dL_would_61 cl_L_43 (rfl) (t_X7_way _ Y hC (Nat.lt_of_le_of_lt (Nat.add_le_add_right ht 100) (Nat.le_of_ble_eq_true rfl)) _ _) rfl (by decide) rfl (Nat.le_of_ble_eq_true rfl) rfl (fun v N61 hv => ?_)
    obtain ⟨rfl, hC, -⟩ := hv
    refine mx_xistore (pc' := 66) (ls' := [_, _, _, _, _, _, _, _, _, _, _, _, _, _, _, _, _, _, _]) dL_would_64 (by decide) rfl rfl rfl ?_
    refine mx_aload_n (pc' := 67) dL_would_66 rfl rfl ?_
    refine mx_iload_n (pc' := 68) dL_would_67 rfl rfl ?_
    refine mx_callV (pc' := 71) dL_would_68 cl_L_46 (rfl) (t_X7_shuts _ Y hC (Nat.lt_of_le_of_lt (Nat.add_le_add_right ht 100) (Nat.le_of_ble_eq_true rfl)) _) rfl (by decide) rfl (Nat.le_of_ble_eq_true rfl) rfl (fun v N68 hv => ?_)
    obtain ⟨rfl, hC, -⟩ := hv
    refine mx_xistore (pc' := 73) (ls' := [_, _, _, _, _, _, _, _, _, _, _, _, _, _, _, _, _, _, _]) dL_would_71 (by decide) rfl rfl rfl ?_
    refine mx_aload_n (pc' := 74) dL_would_73 rfl rfl ?_
    refine mx_callV (pc' := 77) dL_would_74 cl_L_49 (rfl) (t_X7_fair _ Y hC (Nat.lt_of_le_of_lt (Nat.add_le_add_right ht 100) (Nat.le_of_ble_eq_true rfl))) rfl (by decide) rfl (Nat.le_of_ble_eq_true rfl) rfl (fun v N74 hv => ?_)
    obtain ⟨rfl, hC, -⟩ := hv
    refine mx_xistore (pc' := 79) (ls' := [_, _, _, _, _, _, _, _, _, _, _, _, _, _, _, _, _, _, _]) dL_would_77 (by decide) rfl rfl rfl ?_
    refine mx_aload_n (pc' := 80) dL_would_79 rfl rfl ?_
    refine mx_iload_n (pc' := 81) dL_would_80 rfl rfl ?_
    refine mx_iconst (pc' := 82) (v := nI 1) dL_would_81 (by decide) rfl ?_
    refine mx_callV (pc' := 85) dL_would_82 cl_L_53 (rfl) (t_X7_lane _ Y hC (Nat.lt_of_le_of_lt (Nat.add_le_add_right ht 100) (Nat.le_of_ble_eq_true rfl)) _ _) rfl (by decide) rfl (Nat.le_of_ble_eq_true rfl) rfl (fun v N82 hv => ?_)
    obtain ⟨rfl, hC, -⟩ := hv
    refine mx_xistore (pc' := 87) (ls' := [_, _, _, _, _, _, _, _, _, _, _, _, _, _, _, _, _, _, _]) dL_would_85 (by decide) rfl rfl rfl ?_
    refine mx_aload_n (pc' := 88) dL_would_87 rfl rfl ?_
    refine mx_iload_n (pc' := 89) dL_would_88 rfl rfl ?_
    refine mx_callV (pc' := 92) dL_would_89 cl_L_56 (rfl) (t_X7_openness _ Y hC (Nat.lt_of_le_of_lt (Nat.add_le_add_right ht 100) (Nat.le_of_ble_eq_true rfl)) _) rfl (by decide) rfl (Nat.le_of_ble_eq_true rfl) rfl (fun v N89 hv => ?_)
    obtain ⟨rfl, hC, -⟩ := hv
    refine mx_dstore (pc' := 94) (ls' := [_, _, _, _, _, _, _, _, _, _, _, _, _, _, _, _, _, _, _]) dL_would_92 (by decide) rfl rfl rfl ?_
    refine mx_iload_n (pc' := 95) dL_would_94 rfl rfl ?_
    refine mx_bipush (pc' := 97) (v := nI 7) dL_would_95 (by decide) rfl ?_
    refine mx_ishr (pc' := 98) dL_would_97 (rfl) rfl ?_
    refine mx_iconst (pc' := 99) (v := nI 5) dL_would_98 (by decide) rfl ?_
    refine mx_callS (pc' := 102) dL_would_99 cl_L_34 (t_L_low _ _ _ ⟨by omega, by omega⟩) rfl (by decide) rfl (Nat.le_of_ble_eq_true rfl) rfl (fun v N99 hv => ?_)
    obtain ⟨j99, hj99, rfl, rfl⟩ := hv
    refine mx_iconst (pc' := 103) (v := nI 2) dL_would_102 (by decide) rfl ?_
    refine mx_isub (pc' := 104) dL_would_103 (rfl) rfl ?_
    refine mx_xistore (pc' := 106) (ls' := [_, _, _, _, _, _, _, _, _, _, _, _, _, _, _, _, _, _, _]) dL_would_104 (by decide) rfl rfl rfl ?_
    refine mx_iload_n (pc' := 107) dL_would_106 rfl rfl ?_
    refine mx_bipush (pc' := 109) (v := nI 10) dL_would_107 (by decide) rfl ?_
    refine mx_ishr (pc' := 110) dL_would_109 (rfl) rfl ?_
    refine mx_iconst (pc' := 111) (v := nI 5) dL_would_110 (by decide) rfl ?_
    refine mx_callS (pc' := 114) dL_would_111 cl_L_34 (t_L_low _ _ _ ⟨by omega, by omega⟩) rfl (by decide) rfl (Nat.le_of_ble_eq_true rfl) rfl (fun v N111 hv => ?_)
    obtain ⟨j111, hj111, rfl, rfl⟩ := hv
    refine mx_iconst (pc' := 115) (v := nI 1) dL_would_114 (by decide) rfl ?_
    refine mx_isub (pc' := 116) dL_would_115 (rfl) rfl ?_
    refine mx_xistore (pc' := 118) (ls' := [_, _, _, _, _, _, _, _, _, _, _, _, _, _, _, _, _, _, _]) dL_would_116 (by decide) rfl rfl rfl ?_
    refine mx_aload_n (pc' := 119) dL_would_118 rfl rfl ?_
    refine mx_iload (pc' := 121) dL_would_119 rfl rfl ?_
    refine mx_iload_n (pc' := 122) dL_would_121 rfl rfl ?_
    refine mx_iload (pc' := 124) dL_would_122 rfl rfl ?_
    refine mx_callV (pc' := 127) dL_would_124 cl_L_60 (rfl) (t_X7_ifStepped _ Y hC (Nat.lt_of_le_of_lt (Nat.add_le_add_right ht 100) (Nat.le_of_ble_eq_true rfl)) _ _ _) rfl (by decide) rfl (Nat.le_of_ble_eq_true rfl) rfl (fun v N124 hv => ?_)
    obtain ⟨rfl, hC, -⟩ := hv
    refine mx_xistore (pc' := 129) (ls' := [_, _, _, _, _, _, _, _, _, _, _, _, _, _, _, _, _, _, _]) dL_would_127 (by decide) rfl rfl rfl ?_
    exact l_w129 Y ht hF (fun v M2 => v = some (.int (nI 1)) ∧ CoA M2 Y) (fun M2 h => ⟨rfl, h⟩) x j3 b _ _ _ hj3 hb hC
  refine mx_iload_n (pc' := 8) dL_would_7 rfl rfl ?_
  refine mx_if_eq (tgt := 17) (pc' := 11) dL_would_8 (by decide) rfl (fun c8 => ?_) (fun c8 => ?_)
  · try (simp (disch := omega) only [Int32.lt_iff_toInt_lt, Int32.le_iff_toInt_le, ← Int32.toInt_inj, ne_eq, nI_t, z_t, m1_t, m2_t, m3_t, m4_t, m9_t] at c8)
    refine mx_iconst (pc' := 18) (v := nI 1) dL_would_17 (by decide) rfl ?_
    refine mx_goto (pc' := 22) dL_would_18 (by decide) ?_
    refine mx_xistore_n (pc' := 23) (ls' := [_, _, _, _, _, _, _, _, _, _, _, _, _, _, _, _, _, _, _]) dL_would_22 (by decide) rfl rfl rfl ?_
    exact k23 1 (by omega) hC
  · try (simp (disch := omega) only [Int32.lt_iff_toInt_lt, Int32.le_iff_toInt_le, ← Int32.toInt_inj, ne_eq, nI_t, z_t, m1_t, m2_t, m3_t, m4_t, m9_t] at c8)
    refine mx_iload_n (pc' := 12) dL_would_11 rfl rfl ?_
    refine mx_bipush (pc' := 14) (v := nI 31) dL_would_12 (by decide) rfl ?_
    refine mx_icmp_ne (tgt := 21) (pc' := 17) dL_would_14 (by decide) rfl (fun c14 => ?_) (fun c14 => ?_)
    · try (simp (disch := omega) only [Int32.lt_iff_toInt_lt, Int32.le_iff_toInt_le, ← Int32.toInt_inj, ne_eq, nI_t, z_t, m1_t, m2_t, m3_t, m4_t, m9_t] at c14)
      refine mx_iconst (pc' := 22) (v := nI 0) dL_would_21 (by decide) rfl ?_
      refine mx_xistore_n (pc' := 23) (ls' := [_, _, _, _, _, _, _, _, _, _, _, _, _, _, _, _, _, _, _]) dL_would_22 (by decide) rfl rfl rfl ?_
      exact k23 0 (by omega) hC
    · try (simp (disch := omega) only [Int32.lt_iff_toInt_lt, Int32.le_iff_toInt_le, ← Int32.toInt_inj, ne_eq, nI_t, z_t, m1_t, m2_t, m3_t, m4_t, m9_t] at c14)
      refine mx_iconst (pc' := 18) (v := nI 1) dL_would_17 (by decide) rfl ?_
      refine mx_goto (pc' := 22) dL_would_18 (by decide) ?_
      refine mx_xistore_n (pc' := 23) (ls' := [_, _, _, _, _, _, _, _, _, _, _, _, _, _, _, _, _, _, _]) dL_would_22 (by decide) rfl rfl rfl ?_
      exact k23 1 (by omega) hC

