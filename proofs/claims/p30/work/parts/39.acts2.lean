/-! acts: tick -/
def tkY (Y : Sy) (k : Nat) : Sy := pushY Y (fPass k Y.1).2
theorem dr_ne2 : ∀ k, k < 3 → ¬ dr k = nI 2 := by decide
theorem st_in : ∀ k, k < 3 → (-1) ≤ dr k ∧ dr k ≤ nI 1 := by decide
theorem t_tick9 (M : mx_M) (Y : Sy) (hC : CoA M Y) (ht : Y.1.2.2.1 3 + 100 < 2147483648) : mx_T yX7_tick cX7_tick 2 (some .int) 6 [.ref 0, .int (nI 2)] M (fun v M' => v = some (.int (-1)) ∧ CoA M' Y ∧ Mo M M') := by
  have e : oTick (nI 2) Y = ((-1), Y) := if_neg (by decide)
  have h := t_X7_tick M Y hC ht (nI 2)
  rw [e] at h
  exact h
theorem t_tick8 (M : mx_M) (Y : Sy) (hC : CoA M Y) (ht : Y.1.2.2.1 3 + 100 < 2147483648) {k : Nat} (hk : k < 3) (hd : ¬ Y.1.2.2.1 4 = 0) : mx_T yX7_tick cX7_tick 2 (some .int) 6 [.ref 0, .int (dr k)] M (fun v M' => v = some (.int (-2)) ∧ CoA M' Y ∧ Mo M M') := by
  have e : oTick (dr k) Y = ((-2), Y) := by
    unfold oTick
    rw [if_pos (st_in k hk), if_neg hd]
  have h := t_X7_tick M Y hC ht (dr k)
  rw [e] at h
  exact h
theorem t_tick1 (M : mx_M) (Y : Sy) (hC : CoA M Y) (ht : Y.1.2.2.1 3 + 100 < 2147483648) {k : Nat} (hk : k < 3) (hd : Y.1.2.2.1 4 = 0) : mx_T yX7_tick cX7_tick 2 (some .int) 6 [.ref 0, .int (dr k)] M (fun v M' => v = some (.int (nI (fPass k Y.1).1)) ∧ CoA M' (tkY Y k) ∧ Mo M M') := by
  have e : oTick (dr k) Y = (nI (fPass k Y.1).1, tkY Y k) := by
    unfold oTick
    rw [if_pos (st_in k hk), if_pos hd, tN_d k hk]
    rfl
  have h := t_X7_tick M Y hC ht (dr k)
  rw [e] at h
  exact h
theorem t_ifs (M : mx_M) (Y : Sy) (hC : CoA M Y) (ht : Y.1.2.2.1 3 + 100 < 2147483648) {k : Nat} (hk : k < 3) (hd : Y.1.2.2.1 4 = 0) {z : Nat} (hz : z < 2) : mx_T yX7_ifStepped cX7_ifStepped 5 (some .int) 6 [.ref 0, .int (dr k), .int (nI 1), .int (nI z)] M (fun v M' => v = some (.int ((tkY Y k).1.2.2.2 (7 - z) - Y.1.2.2.2 (7 - z))) ∧ CoA M' Y ∧ Mo M M') := by
  have e1 : isR k 1 Y.1 = (1, (fPass k Y.1).2) := if_pos hd
  have e : oIfStepped (dr k) (nI 1) (nI z) Y = (tkY Y k).1.2.2.2 (7 - z) - Y.1.2.2.2 (7 - z) := by
    unfold oIfStepped
    rw [if_pos ⟨st_in k hk, by decide, nI_p0 (by omega), (nI_leI (by omega) (by omega)).mpr (by omega)⟩, if_pos hd, tN_d k hk, show tN (nI 1) = 1 from rfl, e1]
    have : z = 0 ∨ z = 1 := by omega
    rcases this with rfl | rfl
    · rw [if_pos (show nI 0 = 0 from rfl)]; rfl
    · rw [if_neg (by decide), if_pos rfl]; rfl
  have h := t_X7_ifStepped M Y hC ht (dr k) (nI 1) (nI z)
  rw [e] at h
  exact h
set_option maxHeartbeats 2000000 in
set_option maxRecDepth 10000 in
theorem l_tk512 (Y : Sy) (ht : Y.1.2.2.1 3 ≤ 100000) (hF : FI Y.1) (Q : Option Value → mx_M → Prop) (kq : ∀ M1 Y', CoA M1 Y' → Tr Y Y' → Q (some (.int (nI 1))) M1) (x y : Int32) (hw dn : Nat) (hdn : dn = Y.1.2.2.1 4) (k : Nat) (hk : k < 3) (due near : Int32) (r : Nat) (hd0 : Y.1.2.2.1 4 = 0) (h7 : (tkY Y k).1.2.2.2 7 = Y.1.2.2.2 7 + due) (h6 : (tkY Y k).1.2.2.2 6 = Y.1.2.2.2 6 + near) (s3 : (tkY Y k).1.2.2.1 3 = Y.1.2.2.1 3 + 1)
    (s0 : (1 ≤ Y.1.2.2.1 0 + k ∧ Y.1.2.2.1 0 + k ≤ 10 ∧ (tkY Y k).1.2.2.1 0 = Y.1.2.2.1 0 + k - 1) ∨ ((Y.1.2.2.1 0 + k = 0 ∨ 10 < Y.1.2.2.1 0 + k) ∧ (tkY Y k).1.2.2.1 0 = Y.1.2.2.1 0))
    (hc : (r = 0 ∧ due = nI 0 ∧ (tkY Y k).1.2.2.1 1 = Y.1.2.2.1 1 ∧ (tkY Y k).1.2.2.1 4 = 0) ∨ (r = 1 ∧ due = nI 1 ∧ Y.1.2.2.1 1 ≠ 0 ∧ (tkY Y k).1.2.2.1 1 = Y.1.2.2.1 1 - 1 ∧ (tkY Y k).1.2.2.1 4 = 0) ∨ (r = 2 ∧ due = nI 1 ∧ Y.1.2.2.1 1 = 0 ∧ (tkY Y k).1.2.2.1 1 = 0 ∧ (tkY Y k).1.2.2.1 4 = 1))
    {M1 : mx_M} (hC : CoA M1 (tkY Y k)) : mx_V cL_acts RL 15 (some .boolean) 9 512 [some (.ref 0), some (.int (x)), some (.int (y)), some (.int (nI hw)), some (.int (nI Y.1.1.length)), some (.int (nI dn)), some (.int (dr k)), some (.int (Y.1.2.2.2 7)), some (.int (Y.1.2.2.2 6)), some (.int (nI (Y.1.2.2.1 3))), some (.int (nI (Y.1.2.2.1 1))), some (.int (nI (Y.1.2.2.1 0))), some (.int (due)), some (.int (near)), some (.int (nI r))] [] M1 Q := by
  obtain ⟨⟨⟨hE, hB, hV⟩, -⟩, hcl⟩ := id hF
  obtain ⟨v0, v1, v2, v4, v5, v6, v7⟩ := id hV
  have hB60 := hB.1
  have hE4 := hE.1
  
  have s3' : (fPass k Y.1).2.2.2.1 3 = Y.1.2.2.1 3 + 1 := s3
  rcases hc with ⟨rfl, rfl, q1, q4⟩ | ⟨rfl, rfl, q0, q1, q4⟩ | ⟨rfl, rfl, q0, q1, q4⟩
  · refine mx_iload (pc' := 514) dL_acts_512 rfl rfl ?_
    refine mx_iload (pc' := 516) dL_acts_514 rfl rfl ?_
    refine mx_if_ne (tgt := 523) (pc' := 519) dL_acts_516 (by decide) rfl (fun c516 => ?_) (fun c516 => ?_)
    · exfalso
      first | exact c516 rfl | (revert c516; decide) | ((simp (disch := omega) only [Int32.lt_iff_toInt_lt, Int32.le_iff_toInt_le, ← Int32.toInt_inj, ne_eq, not_true_eq_false, not_false_eq_true, pd_t, dr_t, nI_t, z_t, m1_t, m2_t, m3_t, m4_t, m9_t] at c516) <;> omega)
    · 
      refine mx_iconst (pc' := 520) (v := nI 0) dL_acts_519 (by decide) rfl ?_
      refine mx_goto (pc' := 533) dL_acts_520 (by decide) ?_
      refine mx_icmp_ne (tgt := 659) (pc' := 536) dL_acts_533 (by decide) rfl (fun c533 => ?_) (fun c533 => ?_)
      · exact absurd c533 (by (simp (disch := omega) only [Int32.lt_iff_toInt_lt, Int32.le_iff_toInt_le, ← Int32.toInt_inj, ne_eq, not_true_eq_false, not_false_eq_true, pd_t, dr_t, nI_t, z_t, m1_t, m2_t, m3_t, m4_t, m9_t]) <;> omega)
      · refine mx_aload_n (pc' := 537) dL_acts_536 rfl rfl ?_
        refine mx_bipush (pc' := 539) (v := nI 14) dL_acts_537 (by decide) rfl ?_
        refine mx_callV (pc' := 542) dL_acts_539 cl_L_13 (rfl) (t_c14 _ ((tkY Y k)) hC) rfl (by decide) rfl (Nat.le_of_ble_eq_true rfl) rfl (fun v N539 hv => ?_)
        obtain ⟨rfl, hC, -⟩ := hv
        refine mx_iload (pc' := 544) dL_acts_542 rfl rfl ?_
        refine mx_iload (pc' := 546) dL_acts_544 rfl rfl ?_
        refine mx_iadd (pc' := 547) dL_acts_546 (rfl) rfl ?_
        refine mx_icmp_ne (tgt := 659) (pc' := 550) dL_acts_547 (by decide) rfl (fun c547 => ?_) (fun c547 => ?_)
        · exact absurd h7 c547
        · refine mx_aload_n (pc' := 551) dL_acts_550 rfl rfl ?_
          refine mx_bipush (pc' := 553) (v := nI 13) dL_acts_551 (by decide) rfl ?_
          refine mx_callV (pc' := 556) dL_acts_553 cl_L_13 (rfl) (t_c13 _ ((tkY Y k)) hC) rfl (by decide) rfl (Nat.le_of_ble_eq_true rfl) rfl (fun v N553 hv => ?_)
          obtain ⟨rfl, hC, -⟩ := hv
          refine mx_iload (pc' := 558) dL_acts_556 rfl rfl ?_
          refine mx_iload (pc' := 560) dL_acts_558 rfl rfl ?_
          refine mx_iadd (pc' := 561) dL_acts_560 (rfl) rfl ?_
          refine mx_icmp_ne (tgt := 659) (pc' := 564) dL_acts_561 (by decide) rfl (fun c561 => ?_) (fun c561 => ?_)
          · exact absurd h6 c561
          · refine mx_aload_n (pc' := 565) dL_acts_564 rfl rfl ?_
            refine mx_iconst (pc' := 566) (v := nI 5) dL_acts_565 (by decide) rfl ?_
            refine mx_callV (pc' := 569) dL_acts_566 cl_L_13 (rfl) (t_c5 _ ((tkY Y k)) hC) rfl (by decide) rfl (Nat.le_of_ble_eq_true rfl) rfl (fun v N566 hv => ?_)
            obtain ⟨rfl, hC, -⟩ := hv
            refine mx_iload (pc' := 571) dL_acts_569 rfl rfl ?_
            refine mx_iconst (pc' := 572) (v := nI 1) dL_acts_571 (by decide) rfl ?_
            refine mx_iadd (pc' := 573) (v := nI (Y.1.2.2.1 3 + 1)) dL_acts_572 (nI_add _ 1) rfl ?_
            refine mx_icmp_ne (tgt := 659) (pc' := 576) dL_acts_573 (by decide) rfl (fun c573 => ?_) (fun c573 => ?_)
            · exact absurd c573 (by (simp (disch := omega) only [Int32.lt_iff_toInt_lt, Int32.le_iff_toInt_le, ← Int32.toInt_inj, ne_eq, not_true_eq_false, not_false_eq_true, pd_t, dr_t, nI_t, z_t, m1_t, m2_t, m3_t, m4_t, m9_t]) <;> omega)
            · refine mx_aload_n (pc' := 577) dL_acts_576 rfl rfl ?_
              refine mx_iconst (pc' := 578) (v := nI 3) dL_acts_577 (by decide) rfl ?_
              refine mx_callV (pc' := 581) dL_acts_578 cl_L_13 (rfl) (t_c3 _ ((tkY Y k)) hC) rfl (by decide) rfl (Nat.le_of_ble_eq_true rfl) rfl (fun v N578 hv => ?_)
              obtain ⟨rfl, hC, -⟩ := hv
              refine mx_iload (pc' := 583) dL_acts_581 rfl rfl ?_
              refine mx_iconst (pc' := 584) (v := nI 1) dL_acts_583 (by decide) rfl ?_
              refine mx_icmp_ne (tgt := 594) (pc' := 587) dL_acts_584 (by decide) rfl (fun c584 => ?_) (fun c584 => ?_)
              · 
                refine mx_iload (pc' := 596) dL_acts_594 rfl rfl ?_
                refine mx_icmp_ne (tgt := 659) (pc' := 599) dL_acts_596 (by decide) rfl (fun c596 => ?_) (fun c596 => ?_)
                · exact absurd c596 (by (simp (disch := omega) only [Int32.lt_iff_toInt_lt, Int32.le_iff_toInt_le, ← Int32.toInt_inj, ne_eq, not_true_eq_false, not_false_eq_true, pd_t, dr_t, nI_t, z_t, m1_t, m2_t, m3_t, m4_t, m9_t]) <;> omega)
                · refine mx_aload_n (pc' := 600) dL_acts_599 rfl rfl ?_
                  refine mx_bipush (pc' := 602) (v := nI 6) dL_acts_600 (by decide) rfl ?_
                  refine mx_callV (pc' := 605) dL_acts_602 cl_L_13 (rfl) (t_c6 _ ((tkY Y k)) hC) rfl (by decide) rfl (Nat.le_of_ble_eq_true rfl) rfl (fun v N602 hv => ?_)
                  obtain ⟨rfl, hC, -⟩ := hv
                  refine mx_iload (pc' := 607) dL_acts_605 rfl rfl ?_
                  refine mx_iconst (pc' := 608) (v := nI 2) dL_acts_607 (by decide) rfl ?_
                  refine mx_icmp_ne (tgt := 615) (pc' := 611) dL_acts_608 (by decide) rfl (fun c608 => ?_) (fun c608 => ?_)
                  · 
                    refine mx_iconst (pc' := 616) (v := nI 0) dL_acts_615 (by decide) rfl ?_
                    refine mx_icmp_ne (tgt := 659) (pc' := 619) dL_acts_616 (by decide) rfl (fun c616 => ?_) (fun c616 => ?_)
                    · exact absurd c616 (by (simp (disch := omega) only [Int32.lt_iff_toInt_lt, Int32.le_iff_toInt_le, ← Int32.toInt_inj, ne_eq, not_true_eq_false, not_false_eq_true, pd_t, dr_t, nI_t, z_t, m1_t, m2_t, m3_t, m4_t, m9_t]) <;> omega)
                    · refine mx_aload_n (pc' := 620) dL_acts_619 rfl rfl ?_
                      refine mx_iconst (pc' := 621) (v := nI 2) dL_acts_620 (by decide) rfl ?_
                      refine mx_callV (pc' := 624) dL_acts_621 cl_L_13 (rfl) (t_c2 _ ((tkY Y k)) hC) rfl (by decide) rfl (Nat.le_of_ble_eq_true rfl) rfl (fun v N621 hv => ?_)
                      obtain ⟨rfl, hC, -⟩ := hv
                      refine mx_iload (pc' := 626) dL_acts_624 rfl rfl ?_
                      refine mx_iload (pc' := 628) dL_acts_626 rfl rfl ?_
                      refine mx_iadd (pc' := 629) dL_acts_628 (rfl) rfl ?_
                      refine mx_if_lt (tgt := 642) (pc' := 632) dL_acts_629 (by decide) rfl (fun c629 => ?_) (fun c629 => ?_)
                      · try (simp (disch := omega) only [Int32.lt_iff_toInt_lt, Int32.le_iff_toInt_le, ← Int32.toInt_inj, ne_eq, pd_t, dr_t, nI_t, z_t, m1_t, m2_t, m3_t, m4_t, m9_t] at c629)
                        refine mx_iload (pc' := 644) dL_acts_642 rfl rfl ?_
                        refine mx_goto (pc' := 652) dL_acts_644 (by decide) ?_
                        refine mx_icmp_ne (tgt := 659) (pc' := 655) dL_acts_652 (by decide) rfl (fun c652 => ?_) (fun c652 => ?_)
                        · exact absurd c652 (by (simp (disch := omega) only [Int32.lt_iff_toInt_lt, Int32.le_iff_toInt_le, ← Int32.toInt_inj, ne_eq, not_true_eq_false, not_false_eq_true, pd_t, dr_t, nI_t, z_t, m1_t, m2_t, m3_t, m4_t, m9_t]) <;> omega)
                        · refine mx_iconst (pc' := 656) (v := nI 1) dL_acts_655 (by decide) rfl ?_
                          refine mx_goto (pc' := 660) dL_acts_656 (by decide) ?_
                          refine mx_iret dL_acts_660 (Or.inr ⟨rfl, by decide⟩) ?_
                          exact kq _ _ hC ⟨rfl, Or.inr ⟨hF.pass k, by show (fPass k Y.1).2.2.2.1 3 ≤ _; omega, rfl⟩⟩
                      · try (simp (disch := omega) only [Int32.lt_iff_toInt_lt, Int32.le_iff_toInt_le, ← Int32.toInt_inj, ne_eq, pd_t, dr_t, nI_t, z_t, m1_t, m2_t, m3_t, m4_t, m9_t] at c629)
                        refine mx_iload (pc' := 634) dL_acts_632 rfl rfl ?_
                        refine mx_iload (pc' := 636) dL_acts_634 rfl rfl ?_
                        refine mx_iadd (pc' := 637) dL_acts_636 (rfl) rfl ?_
                        refine mx_bipush (pc' := 639) (v := nI 9) dL_acts_637 (by decide) rfl ?_
                        refine mx_icmp_le (tgt := 647) (pc' := 642) dL_acts_639 (by decide) rfl (fun c639 => ?_) (fun c639 => ?_)
                        · try (simp (disch := omega) only [Int32.lt_iff_toInt_lt, Int32.le_iff_toInt_le, ← Int32.toInt_inj, ne_eq, pd_t, dr_t, nI_t, z_t, m1_t, m2_t, m3_t, m4_t, m9_t] at c639)
                          refine mx_iload (pc' := 649) dL_acts_647 rfl rfl ?_
                          refine mx_iload (pc' := 651) dL_acts_649 rfl rfl ?_
                          refine mx_iadd (pc' := 652) dL_acts_651 (rfl) rfl ?_
                          refine mx_icmp_ne (tgt := 659) (pc' := 655) dL_acts_652 (by decide) rfl (fun c652 => ?_) (fun c652 => ?_)
                          · exact absurd c652 (by (simp (disch := omega) only [Int32.lt_iff_toInt_lt, Int32.le_iff_toInt_le, ← Int32.toInt_inj, ne_eq, not_true_eq_false, not_false_eq_true, pd_t, dr_t, nI_t, z_t, m1_t, m2_t, m3_t, m4_t, m9_t]) <;> omega)
                          · refine mx_iconst (pc' := 656) (v := nI 1) dL_acts_655 (by decide) rfl ?_
                            refine mx_goto (pc' := 660) dL_acts_656 (by decide) ?_
                            refine mx_iret dL_acts_660 (Or.inr ⟨rfl, by decide⟩) ?_
                            exact kq _ _ hC ⟨rfl, Or.inr ⟨hF.pass k, by show (fPass k Y.1).2.2.2.1 3 ≤ _; omega, rfl⟩⟩
                        · try (simp (disch := omega) only [Int32.lt_iff_toInt_lt, Int32.le_iff_toInt_le, ← Int32.toInt_inj, ne_eq, pd_t, dr_t, nI_t, z_t, m1_t, m2_t, m3_t, m4_t, m9_t] at c639)
                          refine mx_iload (pc' := 644) dL_acts_642 rfl rfl ?_
                          refine mx_goto (pc' := 652) dL_acts_644 (by decide) ?_
                          refine mx_icmp_ne (tgt := 659) (pc' := 655) dL_acts_652 (by decide) rfl (fun c652 => ?_) (fun c652 => ?_)
                          · exact absurd c652 (by (simp (disch := omega) only [Int32.lt_iff_toInt_lt, Int32.le_iff_toInt_le, ← Int32.toInt_inj, ne_eq, not_true_eq_false, not_false_eq_true, pd_t, dr_t, nI_t, z_t, m1_t, m2_t, m3_t, m4_t, m9_t]) <;> omega)
                          · refine mx_iconst (pc' := 656) (v := nI 1) dL_acts_655 (by decide) rfl ?_
                            refine mx_goto (pc' := 660) dL_acts_656 (by decide) ?_
                            refine mx_iret dL_acts_660 (Or.inr ⟨rfl, by decide⟩) ?_
                            exact kq _ _ hC ⟨rfl, Or.inr ⟨hF.pass k, by show (fPass k Y.1).2.2.2.1 3 ≤ _; omega, rfl⟩⟩
                  · exfalso
                    first | exact c608 rfl | (revert c608; decide) | ((simp (disch := omega) only [Int32.lt_iff_toInt_lt, Int32.le_iff_toInt_le, ← Int32.toInt_inj, ne_eq, not_true_eq_false, not_false_eq_true, pd_t, dr_t, nI_t, z_t, m1_t, m2_t, m3_t, m4_t, m9_t] at c608) <;> omega)
              · exfalso
                first | exact c584 rfl | (revert c584; decide) | ((simp (disch := omega) only [Int32.lt_iff_toInt_lt, Int32.le_iff_toInt_le, ← Int32.toInt_inj, ne_eq, not_true_eq_false, not_false_eq_true, pd_t, dr_t, nI_t, z_t, m1_t, m2_t, m3_t, m4_t, m9_t] at c584) <;> omega)
  · refine mx_iload (pc' := 514) dL_acts_512 rfl rfl ?_
    refine mx_iload (pc' := 516) dL_acts_514 rfl rfl ?_
    refine mx_if_ne (tgt := 523) (pc' := 519) dL_acts_516 (by decide) rfl (fun c516 => ?_) (fun c516 => ?_)
    · 
      refine mx_iload (pc' := 525) dL_acts_523 rfl rfl ?_
      refine mx_if_le (tgt := 532) (pc' := 528) dL_acts_525 (by decide) rfl (fun c525 => ?_) (fun c525 => ?_)
      · exfalso
        first | exact c525 rfl | (revert c525; decide) | ((simp (disch := omega) only [Int32.lt_iff_toInt_lt, Int32.le_iff_toInt_le, ← Int32.toInt_inj, ne_eq, not_true_eq_false, not_false_eq_true, pd_t, dr_t, nI_t, z_t, m1_t, m2_t, m3_t, m4_t, m9_t] at c525) <;> omega)
      · 
        refine mx_iconst (pc' := 529) (v := nI 1) dL_acts_528 (by decide) rfl ?_
        refine mx_goto (pc' := 533) dL_acts_529 (by decide) ?_
        refine mx_icmp_ne (tgt := 659) (pc' := 536) dL_acts_533 (by decide) rfl (fun c533 => ?_) (fun c533 => ?_)
        · exact absurd c533 (by (simp (disch := omega) only [Int32.lt_iff_toInt_lt, Int32.le_iff_toInt_le, ← Int32.toInt_inj, ne_eq, not_true_eq_false, not_false_eq_true, pd_t, dr_t, nI_t, z_t, m1_t, m2_t, m3_t, m4_t, m9_t]) <;> omega)
        · refine mx_aload_n (pc' := 537) dL_acts_536 rfl rfl ?_
          refine mx_bipush (pc' := 539) (v := nI 14) dL_acts_537 (by decide) rfl ?_
          refine mx_callV (pc' := 542) dL_acts_539 cl_L_13 (rfl) (t_c14 _ ((tkY Y k)) hC) rfl (by decide) rfl (Nat.le_of_ble_eq_true rfl) rfl (fun v N539 hv => ?_)
          obtain ⟨rfl, hC, -⟩ := hv
          refine mx_iload (pc' := 544) dL_acts_542 rfl rfl ?_
          refine mx_iload (pc' := 546) dL_acts_544 rfl rfl ?_
          refine mx_iadd (pc' := 547) dL_acts_546 (rfl) rfl ?_
          refine mx_icmp_ne (tgt := 659) (pc' := 550) dL_acts_547 (by decide) rfl (fun c547 => ?_) (fun c547 => ?_)
          · exact absurd h7 c547
          · refine mx_aload_n (pc' := 551) dL_acts_550 rfl rfl ?_
            refine mx_bipush (pc' := 553) (v := nI 13) dL_acts_551 (by decide) rfl ?_
            refine mx_callV (pc' := 556) dL_acts_553 cl_L_13 (rfl) (t_c13 _ ((tkY Y k)) hC) rfl (by decide) rfl (Nat.le_of_ble_eq_true rfl) rfl (fun v N553 hv => ?_)
            obtain ⟨rfl, hC, -⟩ := hv
            refine mx_iload (pc' := 558) dL_acts_556 rfl rfl ?_
            refine mx_iload (pc' := 560) dL_acts_558 rfl rfl ?_
            refine mx_iadd (pc' := 561) dL_acts_560 (rfl) rfl ?_
            refine mx_icmp_ne (tgt := 659) (pc' := 564) dL_acts_561 (by decide) rfl (fun c561 => ?_) (fun c561 => ?_)
            · exact absurd h6 c561
            · refine mx_aload_n (pc' := 565) dL_acts_564 rfl rfl ?_
              refine mx_iconst (pc' := 566) (v := nI 5) dL_acts_565 (by decide) rfl ?_
              refine mx_callV (pc' := 569) dL_acts_566 cl_L_13 (rfl) (t_c5 _ ((tkY Y k)) hC) rfl (by decide) rfl (Nat.le_of_ble_eq_true rfl) rfl (fun v N566 hv => ?_)
              obtain ⟨rfl, hC, -⟩ := hv
              refine mx_iload (pc' := 571) dL_acts_569 rfl rfl ?_
              refine mx_iconst (pc' := 572) (v := nI 1) dL_acts_571 (by decide) rfl ?_
              refine mx_iadd (pc' := 573) (v := nI (Y.1.2.2.1 3 + 1)) dL_acts_572 (nI_add _ 1) rfl ?_
              refine mx_icmp_ne (tgt := 659) (pc' := 576) dL_acts_573 (by decide) rfl (fun c573 => ?_) (fun c573 => ?_)
              · exact absurd c573 (by (simp (disch := omega) only [Int32.lt_iff_toInt_lt, Int32.le_iff_toInt_le, ← Int32.toInt_inj, ne_eq, not_true_eq_false, not_false_eq_true, pd_t, dr_t, nI_t, z_t, m1_t, m2_t, m3_t, m4_t, m9_t]) <;> omega)
              · refine mx_aload_n (pc' := 577) dL_acts_576 rfl rfl ?_
                refine mx_iconst (pc' := 578) (v := nI 3) dL_acts_577 (by decide) rfl ?_
                refine mx_callV (pc' := 581) dL_acts_578 cl_L_13 (rfl) (t_c3 _ ((tkY Y k)) hC) rfl (by decide) rfl (Nat.le_of_ble_eq_true rfl) rfl (fun v N578 hv => ?_)
                obtain ⟨rfl, hC, -⟩ := hv
                refine mx_iload (pc' := 583) dL_acts_581 rfl rfl ?_
                refine mx_iconst (pc' := 584) (v := nI 1) dL_acts_583 (by decide) rfl ?_
                refine mx_icmp_ne (tgt := 594) (pc' := 587) dL_acts_584 (by decide) rfl (fun c584 => ?_) (fun c584 => ?_)
                · exfalso
                  first | exact c584 rfl | (revert c584; decide) | ((simp (disch := omega) only [Int32.lt_iff_toInt_lt, Int32.le_iff_toInt_le, ← Int32.toInt_inj, ne_eq, not_true_eq_false, not_false_eq_true, pd_t, dr_t, nI_t, z_t, m1_t, m2_t, m3_t, m4_t, m9_t] at c584) <;> omega)
                · 
                  refine mx_iload (pc' := 589) dL_acts_587 rfl rfl ?_
                  refine mx_iconst (pc' := 590) (v := nI 1) dL_acts_589 (by decide) rfl ?_
                  refine mx_isub (pc' := 591) (v := nI (Y.1.2.2.1 1 - 1)) dL_acts_590 (pk_sub (by omega)) rfl ?_
                  refine mx_goto (pc' := 596) dL_acts_591 (by decide) ?_
                  refine mx_icmp_ne (tgt := 659) (pc' := 599) dL_acts_596 (by decide) rfl (fun c596 => ?_) (fun c596 => ?_)
                  · exact absurd c596 (by (simp (disch := omega) only [Int32.lt_iff_toInt_lt, Int32.le_iff_toInt_le, ← Int32.toInt_inj, ne_eq, not_true_eq_false, not_false_eq_true, pd_t, dr_t, nI_t, z_t, m1_t, m2_t, m3_t, m4_t, m9_t]) <;> omega)
                  · refine mx_aload_n (pc' := 600) dL_acts_599 rfl rfl ?_
                    refine mx_bipush (pc' := 602) (v := nI 6) dL_acts_600 (by decide) rfl ?_
                    refine mx_callV (pc' := 605) dL_acts_602 cl_L_13 (rfl) (t_c6 _ ((tkY Y k)) hC) rfl (by decide) rfl (Nat.le_of_ble_eq_true rfl) rfl (fun v N602 hv => ?_)
                    obtain ⟨rfl, hC, -⟩ := hv
                    refine mx_iload (pc' := 607) dL_acts_605 rfl rfl ?_
                    refine mx_iconst (pc' := 608) (v := nI 2) dL_acts_607 (by decide) rfl ?_
                    refine mx_icmp_ne (tgt := 615) (pc' := 611) dL_acts_608 (by decide) rfl (fun c608 => ?_) (fun c608 => ?_)
                    · 
                      refine mx_iconst (pc' := 616) (v := nI 0) dL_acts_615 (by decide) rfl ?_
                      refine mx_icmp_ne (tgt := 659) (pc' := 619) dL_acts_616 (by decide) rfl (fun c616 => ?_) (fun c616 => ?_)
                      · exact absurd c616 (by (simp (disch := omega) only [Int32.lt_iff_toInt_lt, Int32.le_iff_toInt_le, ← Int32.toInt_inj, ne_eq, not_true_eq_false, not_false_eq_true, pd_t, dr_t, nI_t, z_t, m1_t, m2_t, m3_t, m4_t, m9_t]) <;> omega)
                      · refine mx_aload_n (pc' := 620) dL_acts_619 rfl rfl ?_
                        refine mx_iconst (pc' := 621) (v := nI 2) dL_acts_620 (by decide) rfl ?_
                        refine mx_callV (pc' := 624) dL_acts_621 cl_L_13 (rfl) (t_c2 _ ((tkY Y k)) hC) rfl (by decide) rfl (Nat.le_of_ble_eq_true rfl) rfl (fun v N621 hv => ?_)
                        obtain ⟨rfl, hC, -⟩ := hv
                        refine mx_iload (pc' := 626) dL_acts_624 rfl rfl ?_
                        refine mx_iload (pc' := 628) dL_acts_626 rfl rfl ?_
                        refine mx_iadd (pc' := 629) dL_acts_628 (rfl) rfl ?_
                        refine mx_if_lt (tgt := 642) (pc' := 632) dL_acts_629 (by decide) rfl (fun c629 => ?_) (fun c629 => ?_)
                        · try (simp (disch := omega) only [Int32.lt_iff_toInt_lt, Int32.le_iff_toInt_le, ← Int32.toInt_inj, ne_eq, pd_t, dr_t, nI_t, z_t, m1_t, m2_t, m3_t, m4_t, m9_t] at c629)
                          refine mx_iload (pc' := 644) dL_acts_642 rfl rfl ?_
                          refine mx_goto (pc' := 652) dL_acts_644 (by decide) ?_
                          refine mx_icmp_ne (tgt := 659) (pc' := 655) dL_acts_652 (by decide) rfl (fun c652 => ?_) (fun c652 => ?_)
                          · exact absurd c652 (by (simp (disch := omega) only [Int32.lt_iff_toInt_lt, Int32.le_iff_toInt_le, ← Int32.toInt_inj, ne_eq, not_true_eq_false, not_false_eq_true, pd_t, dr_t, nI_t, z_t, m1_t, m2_t, m3_t, m4_t, m9_t]) <;> omega)
                          · refine mx_iconst (pc' := 656) (v := nI 1) dL_acts_655 (by decide) rfl ?_
                            refine mx_goto (pc' := 660) dL_acts_656 (by decide) ?_
                            refine mx_iret dL_acts_660 (Or.inr ⟨rfl, by decide⟩) ?_
                            exact kq _ _ hC ⟨rfl, Or.inr ⟨hF.pass k, by show (fPass k Y.1).2.2.2.1 3 ≤ _; omega, rfl⟩⟩
                        · try (simp (disch := omega) only [Int32.lt_iff_toInt_lt, Int32.le_iff_toInt_le, ← Int32.toInt_inj, ne_eq, pd_t, dr_t, nI_t, z_t, m1_t, m2_t, m3_t, m4_t, m9_t] at c629)
                          refine mx_iload (pc' := 634) dL_acts_632 rfl rfl ?_
                          refine mx_iload (pc' := 636) dL_acts_634 rfl rfl ?_
                          refine mx_iadd (pc' := 637) dL_acts_636 (rfl) rfl ?_
                          refine mx_bipush (pc' := 639) (v := nI 9) dL_acts_637 (by decide) rfl ?_
                          refine mx_icmp_le (tgt := 647) (pc' := 642) dL_acts_639 (by decide) rfl (fun c639 => ?_) (fun c639 => ?_)
                          · try (simp (disch := omega) only [Int32.lt_iff_toInt_lt, Int32.le_iff_toInt_le, ← Int32.toInt_inj, ne_eq, pd_t, dr_t, nI_t, z_t, m1_t, m2_t, m3_t, m4_t, m9_t] at c639)
                            refine mx_iload (pc' := 649) dL_acts_647 rfl rfl ?_
                            refine mx_iload (pc' := 651) dL_acts_649 rfl rfl ?_
                            refine mx_iadd (pc' := 652) dL_acts_651 (rfl) rfl ?_
                            refine mx_icmp_ne (tgt := 659) (pc' := 655) dL_acts_652 (by decide) rfl (fun c652 => ?_) (fun c652 => ?_)
                            · exact absurd c652 (by (simp (disch := omega) only [Int32.lt_iff_toInt_lt, Int32.le_iff_toInt_le, ← Int32.toInt_inj, ne_eq, not_true_eq_false, not_false_eq_true, pd_t, dr_t, nI_t, z_t, m1_t, m2_t, m3_t, m4_t, m9_t]) <;> omega)
                            · refine mx_iconst (pc' := 656) (v := nI 1) dL_acts_655 (by decide) rfl ?_
                              refine mx_goto (pc' := 660) dL_acts_656 (by decide) ?_
                              refine mx_iret dL_acts_660 (Or.inr ⟨rfl, by decide⟩) ?_
                              exact kq _ _ hC ⟨rfl, Or.inr ⟨hF.pass k, by show (fPass k Y.1).2.2.2.1 3 ≤ _; omega, rfl⟩⟩
                          · try (simp (disch := omega) only [Int32.lt_iff_toInt_lt, Int32.le_iff_toInt_le, ← Int32.toInt_inj, ne_eq, pd_t, dr_t, nI_t, z_t, m1_t, m2_t, m3_t, m4_t, m9_t] at c639)
                            refine mx_iload (pc' := 644) dL_acts_642 rfl rfl ?_
                            refine mx_goto (pc' := 652) dL_acts_644 (by decide) ?_
                            refine mx_icmp_ne (tgt := 659) (pc' := 655) dL_acts_652 (by decide) rfl (fun c652 => ?_) (fun c652 => ?_)
                            · exact absurd c652 (by (simp (disch := omega) only [Int32.lt_iff_toInt_lt, Int32.le_iff_toInt_le, ← Int32.toInt_inj, ne_eq, not_true_eq_false, not_false_eq_true, pd_t, dr_t, nI_t, z_t, m1_t, m2_t, m3_t, m4_t, m9_t]) <;> omega)
                            · refine mx_iconst (pc' := 656) (v := nI 1) dL_acts_655 (by decide) rfl ?_
                              refine mx_goto (pc' := 660) dL_acts_656 (by decide) ?_
                              refine mx_iret dL_acts_660 (Or.inr ⟨rfl, by decide⟩) ?_
                              exact kq _ _ hC ⟨rfl, Or.inr ⟨hF.pass k, by show (fPass k Y.1).2.2.2.1 3 ≤ _; omega, rfl⟩⟩
                    · exfalso
                      first | exact c608 rfl | (revert c608; decide) | ((simp (disch := omega) only [Int32.lt_iff_toInt_lt, Int32.le_iff_toInt_le, ← Int32.toInt_inj, ne_eq, not_true_eq_false, not_false_eq_true, pd_t, dr_t, nI_t, z_t, m1_t, m2_t, m3_t, m4_t, m9_t] at c608) <;> omega)
    · exfalso
      first | exact c516 rfl | (revert c516; decide) | ((simp (disch := omega) only [Int32.lt_iff_toInt_lt, Int32.le_iff_toInt_le, ← Int32.toInt_inj, ne_eq, not_true_eq_false, not_false_eq_true, pd_t, dr_t, nI_t, z_t, m1_t, m2_t, m3_t, m4_t, m9_t] at c516) <;> omega)
  · refine mx_iload (pc' := 514) dL_acts_512 rfl rfl ?_
    refine mx_iload (pc' := 516) dL_acts_514 rfl rfl ?_
    refine mx_if_ne (tgt := 523) (pc' := 519) dL_acts_516 (by decide) rfl (fun c516 => ?_) (fun c516 => ?_)
    · 
      refine mx_iload (pc' := 525) dL_acts_523 rfl rfl ?_
      refine mx_if_le (tgt := 532) (pc' := 528) dL_acts_525 (by decide) rfl (fun c525 => ?_) (fun c525 => ?_)
      · 
        refine mx_iconst (pc' := 533) (v := nI 2) dL_acts_532 (by decide) rfl ?_
        refine mx_icmp_ne (tgt := 659) (pc' := 536) dL_acts_533 (by decide) rfl (fun c533 => ?_) (fun c533 => ?_)
        · exact absurd c533 (by (simp (disch := omega) only [Int32.lt_iff_toInt_lt, Int32.le_iff_toInt_le, ← Int32.toInt_inj, ne_eq, not_true_eq_false, not_false_eq_true, pd_t, dr_t, nI_t, z_t, m1_t, m2_t, m3_t, m4_t, m9_t]) <;> omega)
        · refine mx_aload_n (pc' := 537) dL_acts_536 rfl rfl ?_
          refine mx_bipush (pc' := 539) (v := nI 14) dL_acts_537 (by decide) rfl ?_
          refine mx_callV (pc' := 542) dL_acts_539 cl_L_13 (rfl) (t_c14 _ ((tkY Y k)) hC) rfl (by decide) rfl (Nat.le_of_ble_eq_true rfl) rfl (fun v N539 hv => ?_)
          obtain ⟨rfl, hC, -⟩ := hv
          refine mx_iload (pc' := 544) dL_acts_542 rfl rfl ?_
          refine mx_iload (pc' := 546) dL_acts_544 rfl rfl ?_
          refine mx_iadd (pc' := 547) dL_acts_546 (rfl) rfl ?_
          refine mx_icmp_ne (tgt := 659) (pc' := 550) dL_acts_547 (by decide) rfl (fun c547 => ?_) (fun c547 => ?_)
          · exact absurd h7 c547
          · refine mx_aload_n (pc' := 551) dL_acts_550 rfl rfl ?_
            refine mx_bipush (pc' := 553) (v := nI 13) dL_acts_551 (by decide) rfl ?_
            refine mx_callV (pc' := 556) dL_acts_553 cl_L_13 (rfl) (t_c13 _ ((tkY Y k)) hC) rfl (by decide) rfl (Nat.le_of_ble_eq_true rfl) rfl (fun v N553 hv => ?_)
            obtain ⟨rfl, hC, -⟩ := hv
            refine mx_iload (pc' := 558) dL_acts_556 rfl rfl ?_
            refine mx_iload (pc' := 560) dL_acts_558 rfl rfl ?_
            refine mx_iadd (pc' := 561) dL_acts_560 (rfl) rfl ?_
            refine mx_icmp_ne (tgt := 659) (pc' := 564) dL_acts_561 (by decide) rfl (fun c561 => ?_) (fun c561 => ?_)
            · exact absurd h6 c561
            · refine mx_aload_n (pc' := 565) dL_acts_564 rfl rfl ?_
              refine mx_iconst (pc' := 566) (v := nI 5) dL_acts_565 (by decide) rfl ?_
              refine mx_callV (pc' := 569) dL_acts_566 cl_L_13 (rfl) (t_c5 _ ((tkY Y k)) hC) rfl (by decide) rfl (Nat.le_of_ble_eq_true rfl) rfl (fun v N566 hv => ?_)
              obtain ⟨rfl, hC, -⟩ := hv
              refine mx_iload (pc' := 571) dL_acts_569 rfl rfl ?_
              refine mx_iconst (pc' := 572) (v := nI 1) dL_acts_571 (by decide) rfl ?_
              refine mx_iadd (pc' := 573) (v := nI (Y.1.2.2.1 3 + 1)) dL_acts_572 (nI_add _ 1) rfl ?_
              refine mx_icmp_ne (tgt := 659) (pc' := 576) dL_acts_573 (by decide) rfl (fun c573 => ?_) (fun c573 => ?_)
              · exact absurd c573 (by (simp (disch := omega) only [Int32.lt_iff_toInt_lt, Int32.le_iff_toInt_le, ← Int32.toInt_inj, ne_eq, not_true_eq_false, not_false_eq_true, pd_t, dr_t, nI_t, z_t, m1_t, m2_t, m3_t, m4_t, m9_t]) <;> omega)
              · refine mx_aload_n (pc' := 577) dL_acts_576 rfl rfl ?_
                refine mx_iconst (pc' := 578) (v := nI 3) dL_acts_577 (by decide) rfl ?_
                refine mx_callV (pc' := 581) dL_acts_578 cl_L_13 (rfl) (t_c3 _ ((tkY Y k)) hC) rfl (by decide) rfl (Nat.le_of_ble_eq_true rfl) rfl (fun v N578 hv => ?_)
                obtain ⟨rfl, hC, -⟩ := hv
                refine mx_iload (pc' := 583) dL_acts_581 rfl rfl ?_
                refine mx_iconst (pc' := 584) (v := nI 1) dL_acts_583 (by decide) rfl ?_
                refine mx_icmp_ne (tgt := 594) (pc' := 587) dL_acts_584 (by decide) rfl (fun c584 => ?_) (fun c584 => ?_)
                · 
                  refine mx_iload (pc' := 596) dL_acts_594 rfl rfl ?_
                  refine mx_icmp_ne (tgt := 659) (pc' := 599) dL_acts_596 (by decide) rfl (fun c596 => ?_) (fun c596 => ?_)
                  · exact absurd c596 (by (simp (disch := omega) only [Int32.lt_iff_toInt_lt, Int32.le_iff_toInt_le, ← Int32.toInt_inj, ne_eq, not_true_eq_false, not_false_eq_true, pd_t, dr_t, nI_t, z_t, m1_t, m2_t, m3_t, m4_t, m9_t]) <;> omega)
                  · refine mx_aload_n (pc' := 600) dL_acts_599 rfl rfl ?_
                    refine mx_bipush (pc' := 602) (v := nI 6) dL_acts_600 (by decide) rfl ?_
                    refine mx_callV (pc' := 605) dL_acts_602 cl_L_13 (rfl) (t_c6 _ ((tkY Y k)) hC) rfl (by decide) rfl (Nat.le_of_ble_eq_true rfl) rfl (fun v N602 hv => ?_)
                    obtain ⟨rfl, hC, -⟩ := hv
                    refine mx_iload (pc' := 607) dL_acts_605 rfl rfl ?_
                    refine mx_iconst (pc' := 608) (v := nI 2) dL_acts_607 (by decide) rfl ?_
                    refine mx_icmp_ne (tgt := 615) (pc' := 611) dL_acts_608 (by decide) rfl (fun c608 => ?_) (fun c608 => ?_)
                    · exfalso
                      first | exact c608 rfl | (revert c608; decide) | ((simp (disch := omega) only [Int32.lt_iff_toInt_lt, Int32.le_iff_toInt_le, ← Int32.toInt_inj, ne_eq, not_true_eq_false, not_false_eq_true, pd_t, dr_t, nI_t, z_t, m1_t, m2_t, m3_t, m4_t, m9_t] at c608) <;> omega)
                    · 
                      refine mx_iconst (pc' := 612) (v := nI 1) dL_acts_611 (by decide) rfl ?_
                      refine mx_goto (pc' := 616) dL_acts_612 (by decide) ?_
                      refine mx_icmp_ne (tgt := 659) (pc' := 619) dL_acts_616 (by decide) rfl (fun c616 => ?_) (fun c616 => ?_)
                      · exact absurd c616 (by (simp (disch := omega) only [Int32.lt_iff_toInt_lt, Int32.le_iff_toInt_le, ← Int32.toInt_inj, ne_eq, not_true_eq_false, not_false_eq_true, pd_t, dr_t, nI_t, z_t, m1_t, m2_t, m3_t, m4_t, m9_t]) <;> omega)
                      · refine mx_aload_n (pc' := 620) dL_acts_619 rfl rfl ?_
                        refine mx_iconst (pc' := 621) (v := nI 2) dL_acts_620 (by decide) rfl ?_
                        refine mx_callV (pc' := 624) dL_acts_621 cl_L_13 (rfl) (t_c2 _ ((tkY Y k)) hC) rfl (by decide) rfl (Nat.le_of_ble_eq_true rfl) rfl (fun v N621 hv => ?_)
                        obtain ⟨rfl, hC, -⟩ := hv
                        refine mx_iload (pc' := 626) dL_acts_624 rfl rfl ?_
                        refine mx_iload (pc' := 628) dL_acts_626 rfl rfl ?_
                        refine mx_iadd (pc' := 629) dL_acts_628 (rfl) rfl ?_
                        refine mx_if_lt (tgt := 642) (pc' := 632) dL_acts_629 (by decide) rfl (fun c629 => ?_) (fun c629 => ?_)
                        · try (simp (disch := omega) only [Int32.lt_iff_toInt_lt, Int32.le_iff_toInt_le, ← Int32.toInt_inj, ne_eq, pd_t, dr_t, nI_t, z_t, m1_t, m2_t, m3_t, m4_t, m9_t] at c629)
                          refine mx_iload (pc' := 644) dL_acts_642 rfl rfl ?_
                          refine mx_goto (pc' := 652) dL_acts_644 (by decide) ?_
                          refine mx_icmp_ne (tgt := 659) (pc' := 655) dL_acts_652 (by decide) rfl (fun c652 => ?_) (fun c652 => ?_)
                          · exact absurd c652 (by (simp (disch := omega) only [Int32.lt_iff_toInt_lt, Int32.le_iff_toInt_le, ← Int32.toInt_inj, ne_eq, not_true_eq_false, not_false_eq_true, pd_t, dr_t, nI_t, z_t, m1_t, m2_t, m3_t, m4_t, m9_t]) <;> omega)
                          · refine mx_iconst (pc' := 656) (v := nI 1) dL_acts_655 (by decide) rfl ?_
                            refine mx_goto (pc' := 660) dL_acts_656 (by decide) ?_
                            refine mx_iret dL_acts_660 (Or.inr ⟨rfl, by decide⟩) ?_
                            exact kq _ _ hC ⟨rfl, Or.inr ⟨hF.pass k, by show (fPass k Y.1).2.2.2.1 3 ≤ _; omega, rfl⟩⟩
                        · try (simp (disch := omega) only [Int32.lt_iff_toInt_lt, Int32.le_iff_toInt_le, ← Int32.toInt_inj, ne_eq, pd_t, dr_t, nI_t, z_t, m1_t, m2_t, m3_t, m4_t, m9_t] at c629)
                          refine mx_iload (pc' := 634) dL_acts_632 rfl rfl ?_
                          refine mx_iload (pc' := 636) dL_acts_634 rfl rfl ?_
                          refine mx_iadd (pc' := 637) dL_acts_636 (rfl) rfl ?_
                          refine mx_bipush (pc' := 639) (v := nI 9) dL_acts_637 (by decide) rfl ?_
                          refine mx_icmp_le (tgt := 647) (pc' := 642) dL_acts_639 (by decide) rfl (fun c639 => ?_) (fun c639 => ?_)
                          · try (simp (disch := omega) only [Int32.lt_iff_toInt_lt, Int32.le_iff_toInt_le, ← Int32.toInt_inj, ne_eq, pd_t, dr_t, nI_t, z_t, m1_t, m2_t, m3_t, m4_t, m9_t] at c639)
                            refine mx_iload (pc' := 649) dL_acts_647 rfl rfl ?_
                            refine mx_iload (pc' := 651) dL_acts_649 rfl rfl ?_
                            refine mx_iadd (pc' := 652) dL_acts_651 (rfl) rfl ?_
                            refine mx_icmp_ne (tgt := 659) (pc' := 655) dL_acts_652 (by decide) rfl (fun c652 => ?_) (fun c652 => ?_)
                            · exact absurd c652 (by (simp (disch := omega) only [Int32.lt_iff_toInt_lt, Int32.le_iff_toInt_le, ← Int32.toInt_inj, ne_eq, not_true_eq_false, not_false_eq_true, pd_t, dr_t, nI_t, z_t, m1_t, m2_t, m3_t, m4_t, m9_t]) <;> omega)
                            · refine mx_iconst (pc' := 656) (v := nI 1) dL_acts_655 (by decide) rfl ?_
                              refine mx_goto (pc' := 660) dL_acts_656 (by decide) ?_
                              refine mx_iret dL_acts_660 (Or.inr ⟨rfl, by decide⟩) ?_
                              exact kq _ _ hC ⟨rfl, Or.inr ⟨hF.pass k, by show (fPass k Y.1).2.2.2.1 3 ≤ _; omega, rfl⟩⟩
                          · try (simp (disch := omega) only [Int32.lt_iff_toInt_lt, Int32.le_iff_toInt_le, ← Int32.toInt_inj, ne_eq, pd_t, dr_t, nI_t, z_t, m1_t, m2_t, m3_t, m4_t, m9_t] at c639)
                            refine mx_iload (pc' := 644) dL_acts_642 rfl rfl ?_
                            refine mx_goto (pc' := 652) dL_acts_644 (by decide) ?_
                            refine mx_icmp_ne (tgt := 659) (pc' := 655) dL_acts_652 (by decide) rfl (fun c652 => ?_) (fun c652 => ?_)
                            · exact absurd c652 (by (simp (disch := omega) only [Int32.lt_iff_toInt_lt, Int32.le_iff_toInt_le, ← Int32.toInt_inj, ne_eq, not_true_eq_false, not_false_eq_true, pd_t, dr_t, nI_t, z_t, m1_t, m2_t, m3_t, m4_t, m9_t]) <;> omega)
                            · refine mx_iconst (pc' := 656) (v := nI 1) dL_acts_655 (by decide) rfl ?_
                              refine mx_goto (pc' := 660) dL_acts_656 (by decide) ?_
                              refine mx_iret dL_acts_660 (Or.inr ⟨rfl, by decide⟩) ?_
                              exact kq _ _ hC ⟨rfl, Or.inr ⟨hF.pass k, by show (fPass k Y.1).2.2.2.1 3 ≤ _; omega, rfl⟩⟩
                · exfalso
                  first | exact c584 rfl | (revert c584; decide) | ((simp (disch := omega) only [Int32.lt_iff_toInt_lt, Int32.le_iff_toInt_le, ← Int32.toInt_inj, ne_eq, not_true_eq_false, not_false_eq_true, pd_t, dr_t, nI_t, z_t, m1_t, m2_t, m3_t, m4_t, m9_t] at c584) <;> omega)
      · exfalso
        first | exact c525 rfl | (revert c525; decide) | ((simp (disch := omega) only [Int32.lt_iff_toInt_lt, Int32.le_iff_toInt_le, ← Int32.toInt_inj, ne_eq, not_true_eq_false, not_false_eq_true, pd_t, dr_t, nI_t, z_t, m1_t, m2_t, m3_t, m4_t, m9_t] at c525) <;> omega)
    · exfalso
      first | exact c516 rfl | (revert c516; decide) | ((simp (disch := omega) only [Int32.lt_iff_toInt_lt, Int32.le_iff_toInt_le, ← Int32.toInt_inj, ne_eq, not_true_eq_false, not_false_eq_true, pd_t, dr_t, nI_t, z_t, m1_t, m2_t, m3_t, m4_t, m9_t] at c516) <;> omega)

theorem i32_sa (a b : Int32) : b = a + (b - a) := by
  rw [Int32.sub_eq_add_neg, Int32.add_comm b, ← Int32.add_assoc, Int32.add_right_neg, Int32.zero_add]
set_option maxHeartbeats 2000000 in
set_option maxRecDepth 10000 in
theorem l_tk373 (Y : Sy) (ht : Y.1.2.2.1 3 ≤ 100000) (hF : FI Y.1) (Q : Option Value → mx_M → Prop) (kq : ∀ M1 Y', CoA M1 Y' → Tr Y Y' → Q (some (.int (nI 1))) M1) (x y : Int32) (hw dn : Nat) (hdn : dn = Y.1.2.2.1 4) (k : Nat) (hk4 : k < 4) {M1 : mx_M} (hC : CoA M1 Y) : mx_V cL_acts RL 15 (some .boolean) 9 373 [some (.ref 0), some (.int (x)), some (.int (y)), some (.int (nI hw)), some (.int (nI Y.1.1.length)), some (.int (nI dn)), some (.int (dr k)), none, none, none, none, none, none, none, none] [] M1 Q := by
  obtain ⟨⟨⟨hE, hB, hV⟩, -⟩, hcl⟩ := id hF
  obtain ⟨v0, v1, v2, v4, v5, v6, v7⟩ := id hV
  have hB60 := hB.1
  have hE4 := hE.1
  
  by_cases h3 : k = 3
  · subst h3
    rw [show dr 3 = nI 2 from rfl]
    refine mx_aload_n (pc' := 374) dL_acts_373 rfl rfl ?_
    refine mx_bipush (pc' := 376) (v := nI 14) dL_acts_374 (by decide) rfl ?_
    refine mx_callV (pc' := 379) dL_acts_376 cl_L_13 (rfl) (t_c14 _ (Y) hC) rfl (by decide) rfl (Nat.le_of_ble_eq_true rfl) rfl (fun v N376 hv => ?_)
    obtain ⟨rfl, hC, -⟩ := hv
    refine mx_xistore (pc' := 381) (ls' := [_, _, _, _, _, _, _, _, _, _, _, _, _, _, _]) dL_acts_379 (by decide) rfl rfl rfl ?_
    refine mx_aload_n (pc' := 382) dL_acts_381 rfl rfl ?_
    refine mx_bipush (pc' := 384) (v := nI 13) dL_acts_382 (by decide) rfl ?_
    refine mx_callV (pc' := 387) dL_acts_384 cl_L_13 (rfl) (t_c13 _ (Y) hC) rfl (by decide) rfl (Nat.le_of_ble_eq_true rfl) rfl (fun v N384 hv => ?_)
    obtain ⟨rfl, hC, -⟩ := hv
    refine mx_xistore (pc' := 389) (ls' := [_, _, _, _, _, _, _, _, _, _, _, _, _, _, _]) dL_acts_387 (by decide) rfl rfl rfl ?_
    refine mx_aload_n (pc' := 390) dL_acts_389 rfl rfl ?_
    refine mx_iconst (pc' := 391) (v := nI 5) dL_acts_390 (by decide) rfl ?_
    refine mx_callV (pc' := 394) dL_acts_391 cl_L_13 (rfl) (t_c5 _ (Y) hC) rfl (by decide) rfl (Nat.le_of_ble_eq_true rfl) rfl (fun v N391 hv => ?_)
    obtain ⟨rfl, hC, -⟩ := hv
    refine mx_xistore (pc' := 396) (ls' := [_, _, _, _, _, _, _, _, _, _, _, _, _, _, _]) dL_acts_394 (by decide) rfl rfl rfl ?_
    refine mx_aload_n (pc' := 397) dL_acts_396 rfl rfl ?_
    refine mx_iconst (pc' := 398) (v := nI 3) dL_acts_397 (by decide) rfl ?_
    refine mx_callV (pc' := 401) dL_acts_398 cl_L_13 (rfl) (t_c3 _ (Y) hC) rfl (by decide) rfl (Nat.le_of_ble_eq_true rfl) rfl (fun v N398 hv => ?_)
    obtain ⟨rfl, hC, -⟩ := hv
    refine mx_xistore (pc' := 403) (ls' := [_, _, _, _, _, _, _, _, _, _, _, _, _, _, _]) dL_acts_401 (by decide) rfl rfl rfl ?_
    refine mx_aload_n (pc' := 404) dL_acts_403 rfl rfl ?_
    refine mx_iconst (pc' := 405) (v := nI 2) dL_acts_404 (by decide) rfl ?_
    refine mx_callV (pc' := 408) dL_acts_405 cl_L_13 (rfl) (t_c2 _ (Y) hC) rfl (by decide) rfl (Nat.le_of_ble_eq_true rfl) rfl (fun v N405 hv => ?_)
    obtain ⟨rfl, hC, -⟩ := hv
    refine mx_xistore (pc' := 410) (ls' := [_, _, _, _, _, _, _, _, _, _, _, _, _, _, _]) dL_acts_408 (by decide) rfl rfl rfl ?_
    refine mx_iload (pc' := 412) dL_acts_410 rfl rfl ?_
    refine mx_iconst (pc' := 413) (v := nI 2) dL_acts_412 (by decide) rfl ?_
    refine mx_icmp_eq (tgt := 421) (pc' := 416) dL_acts_413 (by decide) rfl (fun c413 => ?_) (fun c413 => ?_)
    · 
      refine mx_iconst (pc' := 422) (v := nI 0) dL_acts_421 (by decide) rfl ?_
      refine mx_goto (pc' := 433) dL_acts_422 (by decide) ?_
      refine mx_xistore (pc' := 435) (ls' := [_, _, _, _, _, _, _, _, _, _, _, _, _, _, _]) dL_acts_433 (by decide) rfl rfl rfl ?_
      refine mx_iload (pc' := 437) dL_acts_435 rfl rfl ?_
      refine mx_iconst (pc' := 438) (v := nI 2) dL_acts_437 (by decide) rfl ?_
      refine mx_icmp_eq (tgt := 446) (pc' := 441) dL_acts_438 (by decide) rfl (fun c438 => ?_) (fun c438 => ?_)
      · 
        refine mx_iconst (pc' := 447) (v := nI 0) dL_acts_446 (by decide) rfl ?_
        refine mx_goto (pc' := 458) dL_acts_447 (by decide) ?_
        refine mx_xistore (pc' := 460) (ls' := [_, _, _, _, _, _, _, _, _, _, _, _, _, _, _]) dL_acts_458 (by decide) rfl rfl rfl ?_
        refine mx_aload_n (pc' := 461) dL_acts_460 rfl rfl ?_
        refine mx_iload (pc' := 463) dL_acts_461 rfl rfl ?_
        refine mx_callV (pc' := 466) dL_acts_463 cl_L_102 (rfl) (t_tick9 _ Y hC (Nat.lt_of_le_of_lt (Nat.add_le_add_right ht 100) (Nat.le_of_ble_eq_true rfl))) rfl (by decide) rfl (Nat.le_of_ble_eq_true rfl) rfl (fun v N463 hv => ?_)
        obtain ⟨rfl, hC, -⟩ := hv
        refine mx_xistore (pc' := 468) (ls' := [_, _, _, _, _, _, _, _, _, _, _, _, _, _, _]) dL_acts_466 (by decide) rfl rfl rfl ?_
        refine mx_iload (pc' := 470) dL_acts_468 rfl rfl ?_
        refine mx_iconst (pc' := 471) (v := nI 2) dL_acts_470 (by decide) rfl ?_
        refine mx_icmp_eq (tgt := 479) (pc' := 474) dL_acts_471 (by decide) rfl (fun c471 => ?_) (fun c471 => ?_)
        · 
          refine mx_iload (pc' := 481) dL_acts_479 rfl rfl ?_
          refine mx_iload (pc' := 483) dL_acts_481 rfl rfl ?_
          refine mx_iconst (pc' := 484) (v := nI 2) dL_acts_483 (by decide) rfl ?_
          refine mx_icmp_ne (tgt := 491) (pc' := 487) dL_acts_484 (by decide) rfl (fun c484 => ?_) (fun c484 => ?_)
          · exfalso
            first | exact c484 rfl | (revert c484; decide) | ((simp (disch := omega) only [Int32.lt_iff_toInt_lt, Int32.le_iff_toInt_le, ← Int32.toInt_inj, ne_eq, not_true_eq_false, not_false_eq_true, pd_t, dr_t, nI_t, z_t, m1_t, m2_t, m3_t, m4_t, m9_t] at c484) <;> omega)
          · 
            refine mx_iconst (pc' := 488) (v := (-1)) dL_acts_487 (by decide) rfl ?_
            refine mx_goto (pc' := 493) dL_acts_488 (by decide) ?_
            refine mx_icmp_ne (tgt := 510) (pc' := 496) dL_acts_493 (by decide) rfl (fun c493 => ?_) (fun c493 => ?_)
            · first | exact absurd rfl c493 | exact absurd c493 (by (simp (disch := omega) only [Int32.lt_iff_toInt_lt, Int32.le_iff_toInt_le, ← Int32.toInt_inj, ne_eq, not_true_eq_false, not_false_eq_true, pd_t, dr_t, nI_t, z_t, m1_t, m2_t, m3_t, m4_t, m9_t]) <;> omega)
            · refine mx_aload_n (pc' := 497) dL_acts_496 rfl rfl ?_
              refine mx_iconst (pc' := 498) (v := nI 5) dL_acts_497 (by decide) rfl ?_
              refine mx_callV (pc' := 501) dL_acts_498 cl_L_13 (rfl) (t_c5 _ (Y) hC) rfl (by decide) rfl (Nat.le_of_ble_eq_true rfl) rfl (fun v N498 hv => ?_)
              obtain ⟨rfl, hC, -⟩ := hv
              refine mx_iload (pc' := 503) dL_acts_501 rfl rfl ?_
              refine mx_icmp_ne (tgt := 510) (pc' := 506) dL_acts_503 (by decide) rfl (fun c503 => ?_) (fun c503 => ?_)
              · first | exact absurd rfl c503 | exact absurd c503 (by (simp (disch := omega) only [Int32.lt_iff_toInt_lt, Int32.le_iff_toInt_le, ← Int32.toInt_inj, ne_eq, not_true_eq_false, not_false_eq_true, pd_t, dr_t, nI_t, z_t, m1_t, m2_t, m3_t, m4_t, m9_t]) <;> omega)
              · refine mx_iconst (pc' := 507) (v := nI 1) dL_acts_506 (by decide) rfl ?_
                refine mx_goto (pc' := 511) dL_acts_507 (by decide) ?_
                refine mx_iret dL_acts_511 (Or.inr ⟨rfl, by decide⟩) ?_
                exact kq _ _ hC ⟨rfl, Or.inl ⟨rfl, rfl⟩⟩
        · exfalso
          first | exact c471 rfl | (revert c471; decide) | ((simp (disch := omega) only [Int32.lt_iff_toInt_lt, Int32.le_iff_toInt_le, ← Int32.toInt_inj, ne_eq, not_true_eq_false, not_false_eq_true, pd_t, dr_t, nI_t, z_t, m1_t, m2_t, m3_t, m4_t, m9_t] at c471) <;> omega)
      · exfalso
        first | exact c438 rfl | (revert c438; decide) | ((simp (disch := omega) only [Int32.lt_iff_toInt_lt, Int32.le_iff_toInt_le, ← Int32.toInt_inj, ne_eq, not_true_eq_false, not_false_eq_true, pd_t, dr_t, nI_t, z_t, m1_t, m2_t, m3_t, m4_t, m9_t] at c438) <;> omega)
    · exfalso
      first | exact c413 rfl | (revert c413; decide) | ((simp (disch := omega) only [Int32.lt_iff_toInt_lt, Int32.le_iff_toInt_le, ← Int32.toInt_inj, ne_eq, not_true_eq_false, not_false_eq_true, pd_t, dr_t, nI_t, z_t, m1_t, m2_t, m3_t, m4_t, m9_t] at c413) <;> omega)
  have hk : k < 3 := by omega
  by_cases hd1 : dn = 1
  · refine mx_aload_n (pc' := 374) dL_acts_373 rfl rfl ?_
    refine mx_bipush (pc' := 376) (v := nI 14) dL_acts_374 (by decide) rfl ?_
    refine mx_callV (pc' := 379) dL_acts_376 cl_L_13 (rfl) (t_c14 _ (Y) hC) rfl (by decide) rfl (Nat.le_of_ble_eq_true rfl) rfl (fun v N376 hv => ?_)
    obtain ⟨rfl, hC, -⟩ := hv
    refine mx_xistore (pc' := 381) (ls' := [_, _, _, _, _, _, _, _, _, _, _, _, _, _, _]) dL_acts_379 (by decide) rfl rfl rfl ?_
    refine mx_aload_n (pc' := 382) dL_acts_381 rfl rfl ?_
    refine mx_bipush (pc' := 384) (v := nI 13) dL_acts_382 (by decide) rfl ?_
    refine mx_callV (pc' := 387) dL_acts_384 cl_L_13 (rfl) (t_c13 _ (Y) hC) rfl (by decide) rfl (Nat.le_of_ble_eq_true rfl) rfl (fun v N384 hv => ?_)
    obtain ⟨rfl, hC, -⟩ := hv
    refine mx_xistore (pc' := 389) (ls' := [_, _, _, _, _, _, _, _, _, _, _, _, _, _, _]) dL_acts_387 (by decide) rfl rfl rfl ?_
    refine mx_aload_n (pc' := 390) dL_acts_389 rfl rfl ?_
    refine mx_iconst (pc' := 391) (v := nI 5) dL_acts_390 (by decide) rfl ?_
    refine mx_callV (pc' := 394) dL_acts_391 cl_L_13 (rfl) (t_c5 _ (Y) hC) rfl (by decide) rfl (Nat.le_of_ble_eq_true rfl) rfl (fun v N391 hv => ?_)
    obtain ⟨rfl, hC, -⟩ := hv
    refine mx_xistore (pc' := 396) (ls' := [_, _, _, _, _, _, _, _, _, _, _, _, _, _, _]) dL_acts_394 (by decide) rfl rfl rfl ?_
    refine mx_aload_n (pc' := 397) dL_acts_396 rfl rfl ?_
    refine mx_iconst (pc' := 398) (v := nI 3) dL_acts_397 (by decide) rfl ?_
    refine mx_callV (pc' := 401) dL_acts_398 cl_L_13 (rfl) (t_c3 _ (Y) hC) rfl (by decide) rfl (Nat.le_of_ble_eq_true rfl) rfl (fun v N398 hv => ?_)
    obtain ⟨rfl, hC, -⟩ := hv
    refine mx_xistore (pc' := 403) (ls' := [_, _, _, _, _, _, _, _, _, _, _, _, _, _, _]) dL_acts_401 (by decide) rfl rfl rfl ?_
    refine mx_aload_n (pc' := 404) dL_acts_403 rfl rfl ?_
    refine mx_iconst (pc' := 405) (v := nI 2) dL_acts_404 (by decide) rfl ?_
    refine mx_callV (pc' := 408) dL_acts_405 cl_L_13 (rfl) (t_c2 _ (Y) hC) rfl (by decide) rfl (Nat.le_of_ble_eq_true rfl) rfl (fun v N405 hv => ?_)
    obtain ⟨rfl, hC, -⟩ := hv
    refine mx_xistore (pc' := 410) (ls' := [_, _, _, _, _, _, _, _, _, _, _, _, _, _, _]) dL_acts_408 (by decide) rfl rfl rfl ?_
    refine mx_iload (pc' := 412) dL_acts_410 rfl rfl ?_
    refine mx_iconst (pc' := 413) (v := nI 2) dL_acts_412 (by decide) rfl ?_
    refine mx_icmp_eq (tgt := 421) (pc' := 416) dL_acts_413 (by decide) rfl (fun c413 => ?_) (fun c413 => ?_)
    · exact absurd c413 (dr_ne2 k hk)
    · 
      refine mx_iload (pc' := 418) dL_acts_416 rfl rfl ?_
      refine mx_if_eq (tgt := 425) (pc' := 421) dL_acts_418 (by decide) rfl (fun c418 => ?_) (fun c418 => ?_)
      · exfalso
        first | exact c418 rfl | (revert c418; decide) | ((simp (disch := omega) only [Int32.lt_iff_toInt_lt, Int32.le_iff_toInt_le, ← Int32.toInt_inj, ne_eq, not_true_eq_false, not_false_eq_true, pd_t, dr_t, nI_t, z_t, m1_t, m2_t, m3_t, m4_t, m9_t] at c418) <;> omega)
      · 
        refine mx_iconst (pc' := 422) (v := nI 0) dL_acts_421 (by decide) rfl ?_
        refine mx_goto (pc' := 433) dL_acts_422 (by decide) ?_
        refine mx_xistore (pc' := 435) (ls' := [_, _, _, _, _, _, _, _, _, _, _, _, _, _, _]) dL_acts_433 (by decide) rfl rfl rfl ?_
        refine mx_iload (pc' := 437) dL_acts_435 rfl rfl ?_
        refine mx_iconst (pc' := 438) (v := nI 2) dL_acts_437 (by decide) rfl ?_
        refine mx_icmp_eq (tgt := 446) (pc' := 441) dL_acts_438 (by decide) rfl (fun c438 => ?_) (fun c438 => ?_)
        · exact absurd c438 (dr_ne2 k hk)
        · 
          refine mx_iload (pc' := 443) dL_acts_441 rfl rfl ?_
          refine mx_if_eq (tgt := 450) (pc' := 446) dL_acts_443 (by decide) rfl (fun c443 => ?_) (fun c443 => ?_)
          · exfalso
            first | exact c443 rfl | (revert c443; decide) | ((simp (disch := omega) only [Int32.lt_iff_toInt_lt, Int32.le_iff_toInt_le, ← Int32.toInt_inj, ne_eq, not_true_eq_false, not_false_eq_true, pd_t, dr_t, nI_t, z_t, m1_t, m2_t, m3_t, m4_t, m9_t] at c443) <;> omega)
          · 
            refine mx_iconst (pc' := 447) (v := nI 0) dL_acts_446 (by decide) rfl ?_
            refine mx_goto (pc' := 458) dL_acts_447 (by decide) ?_
            refine mx_xistore (pc' := 460) (ls' := [_, _, _, _, _, _, _, _, _, _, _, _, _, _, _]) dL_acts_458 (by decide) rfl rfl rfl ?_
            refine mx_aload_n (pc' := 461) dL_acts_460 rfl rfl ?_
            refine mx_iload (pc' := 463) dL_acts_461 rfl rfl ?_
            refine mx_callV (pc' := 466) dL_acts_463 cl_L_102 (rfl) (t_tick8 _ Y hC (Nat.lt_of_le_of_lt (Nat.add_le_add_right ht 100) (Nat.le_of_ble_eq_true rfl)) hk (by omega)) rfl (by decide) rfl (Nat.le_of_ble_eq_true rfl) rfl (fun v N463 hv => ?_)
            obtain ⟨rfl, hC, -⟩ := hv
            refine mx_xistore (pc' := 468) (ls' := [_, _, _, _, _, _, _, _, _, _, _, _, _, _, _]) dL_acts_466 (by decide) rfl rfl rfl ?_
            refine mx_iload (pc' := 470) dL_acts_468 rfl rfl ?_
            refine mx_iconst (pc' := 471) (v := nI 2) dL_acts_470 (by decide) rfl ?_
            refine mx_icmp_eq (tgt := 479) (pc' := 474) dL_acts_471 (by decide) rfl (fun c471 => ?_) (fun c471 => ?_)
            · exact absurd c471 (dr_ne2 k hk)
            · 
              refine mx_iload (pc' := 476) dL_acts_474 rfl rfl ?_
              refine mx_if_eq (tgt := 512) (pc' := 479) dL_acts_476 (by decide) rfl (fun c476 => ?_) (fun c476 => ?_)
              · exfalso
                first | exact c476 rfl | (revert c476; decide) | ((simp (disch := omega) only [Int32.lt_iff_toInt_lt, Int32.le_iff_toInt_le, ← Int32.toInt_inj, ne_eq, not_true_eq_false, not_false_eq_true, pd_t, dr_t, nI_t, z_t, m1_t, m2_t, m3_t, m4_t, m9_t] at c476) <;> omega)
              · 
                refine mx_iload (pc' := 481) dL_acts_479 rfl rfl ?_
                refine mx_iload (pc' := 483) dL_acts_481 rfl rfl ?_
                refine mx_iconst (pc' := 484) (v := nI 2) dL_acts_483 (by decide) rfl ?_
                refine mx_icmp_ne (tgt := 491) (pc' := 487) dL_acts_484 (by decide) rfl (fun c484 => ?_) (fun c484 => ?_)
                · 
                  refine mx_bipush (pc' := 493) (v := (-2)) dL_acts_491 (by decide) rfl ?_
                  refine mx_icmp_ne (tgt := 510) (pc' := 496) dL_acts_493 (by decide) rfl (fun c493 => ?_) (fun c493 => ?_)
                  · first | exact absurd rfl c493 | exact absurd c493 (by (simp (disch := omega) only [Int32.lt_iff_toInt_lt, Int32.le_iff_toInt_le, ← Int32.toInt_inj, ne_eq, not_true_eq_false, not_false_eq_true, pd_t, dr_t, nI_t, z_t, m1_t, m2_t, m3_t, m4_t, m9_t]) <;> omega)
                  · refine mx_aload_n (pc' := 497) dL_acts_496 rfl rfl ?_
                    refine mx_iconst (pc' := 498) (v := nI 5) dL_acts_497 (by decide) rfl ?_
                    refine mx_callV (pc' := 501) dL_acts_498 cl_L_13 (rfl) (t_c5 _ (Y) hC) rfl (by decide) rfl (Nat.le_of_ble_eq_true rfl) rfl (fun v N498 hv => ?_)
                    obtain ⟨rfl, hC, -⟩ := hv
                    refine mx_iload (pc' := 503) dL_acts_501 rfl rfl ?_
                    refine mx_icmp_ne (tgt := 510) (pc' := 506) dL_acts_503 (by decide) rfl (fun c503 => ?_) (fun c503 => ?_)
                    · first | exact absurd rfl c503 | exact absurd c503 (by (simp (disch := omega) only [Int32.lt_iff_toInt_lt, Int32.le_iff_toInt_le, ← Int32.toInt_inj, ne_eq, not_true_eq_false, not_false_eq_true, pd_t, dr_t, nI_t, z_t, m1_t, m2_t, m3_t, m4_t, m9_t]) <;> omega)
                    · refine mx_iconst (pc' := 507) (v := nI 1) dL_acts_506 (by decide) rfl ?_
                      refine mx_goto (pc' := 511) dL_acts_507 (by decide) ?_
                      refine mx_iret dL_acts_511 (Or.inr ⟨rfl, by decide⟩) ?_
                      exact kq _ _ hC ⟨rfl, Or.inl ⟨rfl, rfl⟩⟩
                · exact absurd c484 (dr_ne2 k hk)
  have hdn0 : dn = 0 := by omega
  subst hdn0
  have hd0 : Y.1.2.2.1 4 = 0 := hdn.symm
  obtain ⟨z3, -, y0, yc⟩ := pass_sc k Y.1
  have z0 : (1 ≤ Y.1.2.2.1 0 + k ∧ Y.1.2.2.1 0 + k ≤ 10 ∧ (tkY Y k).1.2.2.1 0 = Y.1.2.2.1 0 + k - 1) ∨ ((Y.1.2.2.1 0 + k = 0 ∨ 10 < Y.1.2.2.1 0 + k) ∧ (tkY Y k).1.2.2.1 0 = Y.1.2.2.1 0) := by
    have y0' : (tkY Y k).1.2.2.1 0 = _ := y0
    rw [y0']
    split
    · exact Or.inl ⟨by omega, by omega, rfl⟩
    · exact Or.inr ⟨by omega, rfl⟩
  have zc : ((fPass k Y.1).1 = 0 ∧ (tkY Y k).1.2.2.2 (7 - 0) - Y.1.2.2.2 (7 - 0) = nI 0 ∧ (tkY Y k).1.2.2.1 1 = Y.1.2.2.1 1 ∧ (tkY Y k).1.2.2.1 4 = 0) ∨ ((fPass k Y.1).1 = 1 ∧ (tkY Y k).1.2.2.2 (7 - 0) - Y.1.2.2.2 (7 - 0) = nI 1 ∧ Y.1.2.2.1 1 ≠ 0 ∧ (tkY Y k).1.2.2.1 1 = Y.1.2.2.1 1 - 1 ∧ (tkY Y k).1.2.2.1 4 = 0) ∨ ((fPass k Y.1).1 = 2 ∧ (tkY Y k).1.2.2.2 (7 - 0) - Y.1.2.2.2 (7 - 0) = nI 1 ∧ Y.1.2.2.1 1 = 0 ∧ (tkY Y k).1.2.2.1 1 = 0 ∧ (tkY Y k).1.2.2.1 4 = 1) := by
    rcases yc with ⟨a1, a2, a3, a4⟩ | ⟨a1, a2, a3, a4, a5⟩ | ⟨a1, a2, a3, a4, a5⟩
    · exact Or.inl ⟨a1, by show (fPass k Y.1).2.2.2.2 7 - _ = _; rw [a4]; exact Int32.sub_self _, a2, a3.trans hd0⟩
    · exact Or.inr (Or.inl ⟨a1, by show (fPass k Y.1).2.2.2.2 7 - _ = _; rw [a5]; exact i32_as _ _, a2, a3, a4.trans hd0⟩)
    · exact Or.inr (Or.inr ⟨a1, by show (fPass k Y.1).2.2.2.2 7 - _ = _; rw [a5]; exact i32_as _ _, a2, a3, a4⟩)
  refine mx_aload_n (pc' := 374) dL_acts_373 rfl rfl ?_
  refine mx_bipush (pc' := 376) (v := nI 14) dL_acts_374 (by decide) rfl ?_
  refine mx_callV (pc' := 379) dL_acts_376 cl_L_13 (rfl) (t_c14 _ (Y) hC) rfl (by decide) rfl (Nat.le_of_ble_eq_true rfl) rfl (fun v N376 hv => ?_)
  obtain ⟨rfl, hC, -⟩ := hv
  refine mx_xistore (pc' := 381) (ls' := [_, _, _, _, _, _, _, _, _, _, _, _, _, _, _]) dL_acts_379 (by decide) rfl rfl rfl ?_
  refine mx_aload_n (pc' := 382) dL_acts_381 rfl rfl ?_
  refine mx_bipush (pc' := 384) (v := nI 13) dL_acts_382 (by decide) rfl ?_
  refine mx_callV (pc' := 387) dL_acts_384 cl_L_13 (rfl) (t_c13 _ (Y) hC) rfl (by decide) rfl (Nat.le_of_ble_eq_true rfl) rfl (fun v N384 hv => ?_)
  obtain ⟨rfl, hC, -⟩ := hv
  refine mx_xistore (pc' := 389) (ls' := [_, _, _, _, _, _, _, _, _, _, _, _, _, _, _]) dL_acts_387 (by decide) rfl rfl rfl ?_
  refine mx_aload_n (pc' := 390) dL_acts_389 rfl rfl ?_
  refine mx_iconst (pc' := 391) (v := nI 5) dL_acts_390 (by decide) rfl ?_
  refine mx_callV (pc' := 394) dL_acts_391 cl_L_13 (rfl) (t_c5 _ (Y) hC) rfl (by decide) rfl (Nat.le_of_ble_eq_true rfl) rfl (fun v N391 hv => ?_)
  obtain ⟨rfl, hC, -⟩ := hv
  refine mx_xistore (pc' := 396) (ls' := [_, _, _, _, _, _, _, _, _, _, _, _, _, _, _]) dL_acts_394 (by decide) rfl rfl rfl ?_
  refine mx_aload_n (pc' := 397) dL_acts_396 rfl rfl ?_
  refine mx_iconst (pc' := 398) (v := nI 3) dL_acts_397 (by decide) rfl ?_
  refine mx_callV (pc' := 401) dL_acts_398 cl_L_13 (rfl) (t_c3 _ (Y) hC) rfl (by decide) rfl (Nat.le_of_ble_eq_true rfl) rfl (fun v N398 hv => ?_)
  obtain ⟨rfl, hC, -⟩ := hv
  refine mx_xistore (pc' := 403) (ls' := [_, _, _, _, _, _, _, _, _, _, _, _, _, _, _]) dL_acts_401 (by decide) rfl rfl rfl ?_
  refine mx_aload_n (pc' := 404) dL_acts_403 rfl rfl ?_
  refine mx_iconst (pc' := 405) (v := nI 2) dL_acts_404 (by decide) rfl ?_
  refine mx_callV (pc' := 408) dL_acts_405 cl_L_13 (rfl) (t_c2 _ (Y) hC) rfl (by decide) rfl (Nat.le_of_ble_eq_true rfl) rfl (fun v N405 hv => ?_)
  obtain ⟨rfl, hC, -⟩ := hv
  refine mx_xistore (pc' := 410) (ls' := [_, _, _, _, _, _, _, _, _, _, _, _, _, _, _]) dL_acts_408 (by decide) rfl rfl rfl ?_
  refine mx_iload (pc' := 412) dL_acts_410 rfl rfl ?_
  refine mx_iconst (pc' := 413) (v := nI 2) dL_acts_412 (by decide) rfl ?_
  refine mx_icmp_eq (tgt := 421) (pc' := 416) dL_acts_413 (by decide) rfl (fun c413 => ?_) (fun c413 => ?_)
  · exact absurd c413 (dr_ne2 k hk)
  · 
    refine mx_iload (pc' := 418) dL_acts_416 rfl rfl ?_
    refine mx_if_eq (tgt := 425) (pc' := 421) dL_acts_418 (by decide) rfl (fun c418 => ?_) (fun c418 => ?_)
    · 
      refine mx_aload_n (pc' := 426) dL_acts_425 rfl rfl ?_
      refine mx_iload (pc' := 428) dL_acts_426 rfl rfl ?_
      refine mx_iconst (pc' := 429) (v := nI 1) dL_acts_428 (by decide) rfl ?_
      refine mx_iconst (pc' := 430) (v := nI 0) dL_acts_429 (by decide) rfl ?_
      refine mx_callV (pc' := 433) dL_acts_430 cl_L_60 (rfl) (t_ifs _ Y hC (Nat.lt_of_le_of_lt (Nat.add_le_add_right ht 100) (Nat.le_of_ble_eq_true rfl)) hk hd0 (z := 0) (by omega)) rfl (by decide) rfl (Nat.le_of_ble_eq_true rfl) rfl (fun v N430 hv => ?_)
      obtain ⟨rfl, hC, -⟩ := hv
      refine mx_xistore (pc' := 435) (ls' := [_, _, _, _, _, _, _, _, _, _, _, _, _, _, _]) dL_acts_433 (by decide) rfl rfl rfl ?_
      refine mx_iload (pc' := 437) dL_acts_435 rfl rfl ?_
      refine mx_iconst (pc' := 438) (v := nI 2) dL_acts_437 (by decide) rfl ?_
      refine mx_icmp_eq (tgt := 446) (pc' := 441) dL_acts_438 (by decide) rfl (fun c438 => ?_) (fun c438 => ?_)
      · exact absurd c438 (dr_ne2 k hk)
      · 
        refine mx_iload (pc' := 443) dL_acts_441 rfl rfl ?_
        refine mx_if_eq (tgt := 450) (pc' := 446) dL_acts_443 (by decide) rfl (fun c443 => ?_) (fun c443 => ?_)
        · 
          refine mx_aload_n (pc' := 451) dL_acts_450 rfl rfl ?_
          refine mx_iload (pc' := 453) dL_acts_451 rfl rfl ?_
          refine mx_iconst (pc' := 454) (v := nI 1) dL_acts_453 (by decide) rfl ?_
          refine mx_iconst (pc' := 455) (v := nI 1) dL_acts_454 (by decide) rfl ?_
          refine mx_callV (pc' := 458) dL_acts_455 cl_L_60 (rfl) (t_ifs _ Y hC (Nat.lt_of_le_of_lt (Nat.add_le_add_right ht 100) (Nat.le_of_ble_eq_true rfl)) hk hd0 (z := 1) (by omega)) rfl (by decide) rfl (Nat.le_of_ble_eq_true rfl) rfl (fun v N455 hv => ?_)
          obtain ⟨rfl, hC, -⟩ := hv
          refine mx_xistore (pc' := 460) (ls' := [_, _, _, _, _, _, _, _, _, _, _, _, _, _, _]) dL_acts_458 (by decide) rfl rfl rfl ?_
          refine mx_aload_n (pc' := 461) dL_acts_460 rfl rfl ?_
          refine mx_iload (pc' := 463) dL_acts_461 rfl rfl ?_
          refine mx_callV (pc' := 466) dL_acts_463 cl_L_102 (rfl) (t_tick1 _ Y hC (Nat.lt_of_le_of_lt (Nat.add_le_add_right ht 100) (Nat.le_of_ble_eq_true rfl)) hk hd0) rfl (by decide) rfl (Nat.le_of_ble_eq_true rfl) rfl (fun v N463 hv => ?_)
          obtain ⟨rfl, hC, -⟩ := hv
          refine mx_xistore (pc' := 468) (ls' := [_, _, _, _, _, _, _, _, _, _, _, _, _, _, _]) dL_acts_466 (by decide) rfl rfl rfl ?_
          refine mx_iload (pc' := 470) dL_acts_468 rfl rfl ?_
          refine mx_iconst (pc' := 471) (v := nI 2) dL_acts_470 (by decide) rfl ?_
          refine mx_icmp_eq (tgt := 479) (pc' := 474) dL_acts_471 (by decide) rfl (fun c471 => ?_) (fun c471 => ?_)
          · exact absurd c471 (dr_ne2 k hk)
          · 
            refine mx_iload (pc' := 476) dL_acts_474 rfl rfl ?_
            refine mx_if_eq (tgt := 512) (pc' := 479) dL_acts_476 (by decide) rfl (fun c476 => ?_) (fun c476 => ?_)
            · 
              exact l_tk512 Y ht hF Q kq x y hw 0 hdn k hk _ _ _ hd0 (i32_sa _ _) (i32_sa _ _) z3 z0 zc hC
            · exfalso
              first | exact c476 rfl | (revert c476; decide) | ((simp (disch := omega) only [Int32.lt_iff_toInt_lt, Int32.le_iff_toInt_le, ← Int32.toInt_inj, ne_eq, not_true_eq_false, not_false_eq_true, pd_t, dr_t, nI_t, z_t, m1_t, m2_t, m3_t, m4_t, m9_t] at c476) <;> omega)
        · exfalso
          first | exact c443 rfl | (revert c443; decide) | ((simp (disch := omega) only [Int32.lt_iff_toInt_lt, Int32.le_iff_toInt_le, ← Int32.toInt_inj, ne_eq, not_true_eq_false, not_false_eq_true, pd_t, dr_t, nI_t, z_t, m1_t, m2_t, m3_t, m4_t, m9_t] at c443) <;> omega)
    · exfalso
      first | exact c418 rfl | (revert c418; decide) | ((simp (disch := omega) only [Int32.lt_iff_toInt_lt, Int32.le_iff_toInt_le, ← Int32.toInt_inj, ne_eq, not_true_eq_false, not_false_eq_true, pd_t, dr_t, nI_t, z_t, m1_t, m2_t, m3_t, m4_t, m9_t] at c418) <;> omega)

set_option maxHeartbeats 2000000 in
set_option maxRecDepth 10000 in
theorem l_tk (Y : Sy) (ht : Y.1.2.2.1 3 ≤ 100000) (hF : FI Y.1) (Q : Option Value → mx_M → Prop) (kq : ∀ M1 Y', CoA M1 Y' → Tr Y Y' → Q (some (.int (nI 1))) M1) (x y : Int32) (hw dn : Nat) (hdn : dn = Y.1.2.2.1 4) {M1 : mx_M} (hC : CoA M1 Y) : mx_V cL_acts RL 15 (some .boolean) 9 361 [some (.ref 0), some (.int (x)), some (.int (y)), some (.int (nI hw)), some (.int (nI Y.1.1.length)), some (.int (nI dn)), none, none, none, none, none, none, none, none, none] [] M1 Q := by
  refine mx_iload_n (pc' := 362) dL_acts_361 rfl rfl ?_
  refine mx_bipush (pc' := 364) (v := nI 8) dL_acts_362 (by decide) rfl ?_
  refine mx_callS (pc' := 367) dL_acts_364 cl_L_34 (t_L_low _ _ _ ⟨by omega, by omega⟩) rfl (by decide) rfl (Nat.le_of_ble_eq_true rfl) rfl (fun v N364 hv => ?_)
  obtain ⟨j364, hj364, rfl, rfl⟩ := hv
  refine mx_iconst (pc' := 368) (v := nI 2) dL_acts_367 (by decide) rfl ?_
  refine mx_idiv (pc' := 369) (v := nI (j364 / 2)) dL_acts_368 (by decide) (pk_div (by omega) (by omega) (by omega)) rfl ?_
  refine mx_iconst (pc' := 370) (v := nI 1) dL_acts_369 (by decide) rfl ?_
  refine mx_isub (pc' := 371) (v := dr (j364 / 2)) dL_acts_370 (rfl) rfl ?_
  refine mx_xistore (pc' := 373) (ls' := [_, _, _, _, _, _, _, _, _, _, _, _, _, _, _]) dL_acts_371 (by decide) rfl rfl rfl ?_
  exact l_tk373 Y ht hF Q kq x y hw dn hdn _ (by omega) hC

