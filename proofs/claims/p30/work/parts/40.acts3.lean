/-! acts: bomb, clearField, set, the whole -/
def boY (Y : Sy) : Sy := pushY Y (fBomb Y.1).2
def swY (Y : Sy) : Sy := pushY Y (fSweep Y.1).2
def seY (Y : Sy) (w n : Nat) : Sy := pushY Y (Y.1.1, Y.1.2.1, va_up Y.1.2.2.1 (5 + w) n, Y.1.2.2.2)
theorem t_bomb0 (M : mx_M) (Y : Sy) (hC : CoA M Y) (h : ¬ (Y.1.2.2.1 4 = 0 ∧ 0 < Y.1.2.2.1 2)) : mx_T yX7_bomb cX7_bomb 1 (some .int) 5 [.ref 0] M (fun v M' => v = some (.int (-2)) ∧ CoA M' Y ∧ Mo M M') := by
  have e : oBomb Y = ((-2), Y) := if_neg h
  have h := t_X7_bomb M Y hC
  rw [e] at h
  exact h
theorem t_bomb1 (M : mx_M) (Y : Sy) (hC : CoA M Y) (h : Y.1.2.2.1 4 = 0 ∧ 0 < Y.1.2.2.1 2) : mx_T yX7_bomb cX7_bomb 1 (some .int) 5 [.ref 0] M (fun v M' => v = some (.int (nI (Y.1.2.1.length - (fBombB Y.1).length))) ∧ CoA M' (boY Y) ∧ Mo M M') := by
  have e : oBomb Y = (nI (Y.1.2.1.length - (fBombB Y.1).length), boY Y) := if_pos h
  have h := t_X7_bomb M Y hC
  rw [e] at h
  exact h
theorem t_at11 (M : mx_M) (Y : Sy) (hC : CoA M Y) (hp : Y.1.2.2.1 0 < 10) (hcl : ∀ x ∈ Y.1.2.1, x.1 = 11 → x.2.1 ≠ Y.1.2.2.1 0) : mx_T yX7_at cX7_at 3 (some .int) 2 [.ref 0, .int (nI 11), .int (nI (Y.1.2.2.1 0))] M (fun v M' => v = some (.int (nI 0)) ∧ CoA M' Y ∧ Mo M M') := by
  refine (t_X7_at M Y hC (nI 11) (nI (Y.1.2.2.1 0))).post fun v M' h => ⟨h.1.trans ?_, h.2⟩
  unfold oAt
  rw [if_pos ⟨⟨by decide, by decide⟩, nI_p0 (by omega), (nI_ltI (by omega) (by omega)).mpr hp⟩, tN_n (by omega), tN_n (by omega)]
  rw [List.countP_eq_zero.mpr]
  intro x hx hz
  simp only [atB, decide_eq_true_eq] at hz
  exact hcl x hx hz.1 hz.2
theorem t_sweep (M : mx_M) (Y : Sy) (hC : CoA M Y) : mx_T yX7_clearField cX7_clearField 1 (some .int) 5 [.ref 0] M (fun v M' => v = some (.int (nI Y.1.2.1.length)) ∧ CoA M' (swY Y) ∧ Mo M M') := t_X7_clearField M Y hC
theorem t_cw (M : mx_M) (Y : Sy) (hC : CoA M Y) {w : Nat} (hw : w < 2) : mx_T yX7_count cX7_count 2 (some .int) 1 [.ref 0, .int (nI (15 + w))] M (fun v M' => v = some (.int (nI (Y.1.2.2.1 (5 + w)))) ∧ CoA M' Y ∧ Mo M M') := by
  have : w = 0 ∨ w = 1 := by omega
  rcases this with rfl | rfl
  · exact t_c15 M Y hC
  · exact t_c16 M Y hC
theorem set_no {Y : Sy} {w : Nat} (hw : w < 3) {j : Nat} (hj : j < 8) (h : w = 2 ∨ (w = 0 ∧ (j < 1 ∨ 2 < j)) ∨ (w = 1 ∧ (j < 2 ∨ 6 < j))) : oSet (nI w) (dr j) Y = ((-1), Y) := by
  refine if_neg (fun z => ?_)
  simp (disch := omega) only [Int32.lt_iff_toInt_lt, Int32.le_iff_toInt_le, ← Int32.toInt_inj, dr_t, nI_t, z_t] at z
  omega
theorem set_yes {Y : Sy} {w : Nat} (hw : w < 2) {j : Nat} (hj : j < 8) (h : (w = 0 ∧ 1 ≤ j ∧ j ≤ 2) ∨ (w = 1 ∧ 2 ≤ j ∧ j ≤ 6)) : oSet (nI w) (dr j) Y = (nI (Y.1.2.2.1 (5 + w)), seY Y w (j - 1)) := by
  have h2 : tN (nI w) = w := tN_n (by omega)
  have h3 : tN (dr j) = j - 1 := by
    rw [show dr j = nI (j - 1) from pk_sub (by omega)]
    exact tN_n (by omega)
  unfold oSet
  rw [if_pos (by simp (disch := omega) only [Int32.lt_iff_toInt_lt, Int32.le_iff_toInt_le, ← Int32.toInt_inj, dr_t, nI_t, z_t]; omega), h2, h3]
  rfl
theorem t_set0 (M : mx_M) (Y : Sy) (hC : CoA M Y) {w : Nat} (hw : w < 3) {j : Nat} (hj : j < 8) (h : w = 2 ∨ (w = 0 ∧ (j < 1 ∨ 2 < j)) ∨ (w = 1 ∧ (j < 2 ∨ 6 < j))) : mx_T yX7_set cX7_set 4 (some .int) 5 [.ref 0, .int (nI w), .int (dr j)] M (fun v M' => v = some (.int (-1)) ∧ CoA M' Y ∧ Mo M M') := by
  have h2 := t_X7_set M Y hC (nI w) (dr j)
  rw [set_no hw hj h] at h2
  exact h2
theorem t_set1 (M : mx_M) (Y : Sy) (hC : CoA M Y) {w : Nat} (hw : w < 2) {j : Nat} (hj : j < 8) (h : (w = 0 ∧ 1 ≤ j ∧ j ≤ 2) ∨ (w = 1 ∧ 2 ≤ j ∧ j ≤ 6)) : mx_T yX7_set cX7_set 4 (some .int) 5 [.ref 0, .int (nI w), .int (dr j)] M (fun v M' => v = some (.int (nI (Y.1.2.2.1 (5 + w)))) ∧ CoA M' (seY Y w (j - 1)) ∧ Mo M M') := by
  have h2 := t_X7_set M Y hC (nI w) (dr j)
  rw [set_yes hw hj h] at h2
  exact h2
set_option maxHeartbeats 2000000 in
set_option maxRecDepth 10000 in
theorem l_bo (Y : Sy) (ht : Y.1.2.2.1 3 ≤ 100000) (hF : FI Y.1) (Q : Option Value → mx_M → Prop) (kq : ∀ M1 Y', CoA M1 Y' → Tr Y Y' → Q (some (.int (nI 1))) M1) (x y : Int32) (hw dn : Nat) (hdn : dn = Y.1.2.2.1 4) {M1 : mx_M} (hC : CoA M1 Y) : mx_V cL_acts RL 15 (some .boolean) 9 667 [some (.ref 0), some (.int (x)), some (.int (y)), some (.int (nI hw)), some (.int (nI Y.1.1.length)), some (.int (nI dn)), none, none, none, none, none, none, none, none, none] [] M1 Q := by
  obtain ⟨⟨⟨hE, hB, hV⟩, -⟩, hcl⟩ := id hF
  obtain ⟨v0, v1, v2, v4, v5, v6, v7⟩ := id hV
  have hB60 := hB.1
  have hE4 := hE.1
  refine mx_aload_n (pc' := 668) dL_acts_667 rfl rfl ?_
  refine mx_iconst (pc' := 669) (v := nI 4) dL_acts_668 (by decide) rfl ?_
  refine mx_callV (pc' := 672) dL_acts_669 cl_L_13 (rfl) (t_c4 _ (Y) hC) rfl (by decide) rfl (Nat.le_of_ble_eq_true rfl) rfl (fun v N669 hv => ?_)
  obtain ⟨rfl, hC, -⟩ := hv
  refine mx_xistore (pc' := 674) (ls' := [_, _, _, _, _, _, _, _, _, _, _, _, _, _, _]) dL_acts_672 (by decide) rfl rfl rfl ?_
  refine mx_aload_n (pc' := 675) dL_acts_674 rfl rfl ?_
  refine mx_iconst (pc' := 676) (v := nI 1) dL_acts_675 (by decide) rfl ?_
  refine mx_callV (pc' := 679) dL_acts_676 cl_L_13 (rfl) (t_c1 _ (Y) hC) rfl (by decide) rfl (Nat.le_of_ble_eq_true rfl) rfl (fun v N676 hv => ?_)
  obtain ⟨rfl, hC, -⟩ := hv
  refine mx_xistore (pc' := 681) (ls' := [_, _, _, _, _, _, _, _, _, _, _, _, _, _, _]) dL_acts_679 (by decide) rfl rfl rfl ?_
  refine mx_aload_n (pc' := 682) dL_acts_681 rfl rfl ?_
  refine mx_bipush (pc' := 684) (v := nI 11) dL_acts_682 (by decide) rfl ?_
  refine mx_callV (pc' := 687) dL_acts_684 cl_L_13 (rfl) (t_c11 _ (Y) hC) rfl (by decide) rfl (Nat.le_of_ble_eq_true rfl) rfl (fun v N684 hv => ?_)
  obtain ⟨rfl, hC, -⟩ := hv
  refine mx_xistore (pc' := 689) (ls' := [_, _, _, _, _, _, _, _, _, _, _, _, _, _, _]) dL_acts_687 (by decide) rfl rfl rfl ?_
  by_cases hy : Y.1.2.2.1 4 = 0 ∧ 0 < Y.1.2.2.1 2
  · refine mx_aload_n (pc' := 690) dL_acts_689 rfl rfl ?_
    refine mx_callV (pc' := 693) dL_acts_690 cl_L_105 (rfl) (t_bomb1 _ Y hC hy) rfl (by decide) rfl (Nat.le_of_ble_eq_true rfl) rfl (fun v N690 hv => ?_)
    obtain ⟨rfl, hC, -⟩ := hv
    have hl := List.length_filter_le (fun x => !takenB (Y.1.2.2.1 0) (Y.1.2.2.1 6) x) Y.1.2.1
    have hl : (fBombB Y.1).length ≤ Y.1.2.1.length := hl
    have r1 : (boY Y).1.2.1.length = (fBombB Y.1).length := rfl
    have r2 : (boY Y).1.2.2.1 2 = Y.1.2.2.1 2 - 1 := rfl
    refine mx_xistore (pc' := 695) (ls' := [_, _, _, _, _, _, _, _, _, _, _, _, _, _, _]) dL_acts_693 (by decide) rfl rfl rfl ?_
    refine mx_iload (pc' := 697) dL_acts_695 rfl rfl ?_
    refine mx_if_ne (tgt := 705) (pc' := 700) dL_acts_697 (by decide) rfl (fun c697 => ?_) (fun c697 => ?_)
    · exfalso
      first | exact c697 rfl | (revert c697; decide) | ((simp (disch := omega) only [Int32.lt_iff_toInt_lt, Int32.le_iff_toInt_le, ← Int32.toInt_inj, ne_eq, not_true_eq_false, not_false_eq_true, pd_t, dr_t, nI_t, z_t, m1_t, m2_t, m3_t, m4_t, m9_t] at c697) <;> omega)
    · 
      refine mx_iload (pc' := 702) dL_acts_700 rfl rfl ?_
      refine mx_if_ne (tgt := 720) (pc' := 705) dL_acts_702 (by decide) rfl (fun c702 => ?_) (fun c702 => ?_)
      · 
        refine mx_iload (pc' := 722) dL_acts_720 rfl rfl ?_
        refine mx_if_lt (tgt := 782) (pc' := 725) dL_acts_722 (by decide) rfl (fun c722 => ?_) (fun c722 => ?_)
        · first | exact absurd c722 (by (simp (disch := omega) only [Int32.lt_iff_toInt_lt, Int32.le_iff_toInt_le, ← Int32.toInt_inj, ne_eq, not_true_eq_false, not_false_eq_true, pd_t, dr_t, nI_t, z_t, m1_t, m2_t, m3_t, m4_t, m9_t]) <;> omega) | exact absurd rfl c722
        · refine mx_aload_n (pc' := 726) dL_acts_725 rfl rfl ?_
          refine mx_iconst (pc' := 727) (v := nI 1) dL_acts_726 (by decide) rfl ?_
          refine mx_callV (pc' := 730) dL_acts_727 cl_L_13 (rfl) (t_c1 _ (boY Y) hC) rfl (by decide) rfl (Nat.le_of_ble_eq_true rfl) rfl (fun v N727 hv => ?_)
          obtain ⟨rfl, hC, -⟩ := hv
          refine mx_iload (pc' := 732) dL_acts_730 rfl rfl ?_
          refine mx_iload (pc' := 734) dL_acts_732 rfl rfl ?_
          refine mx_isub (pc' := 735) (v := nI (fBombB Y.1).length) dL_acts_734 ((pk_sub (by omega)).trans (congrArg nI (by omega))) rfl ?_
          refine mx_icmp_ne (tgt := 782) (pc' := 738) dL_acts_735 (by decide) rfl (fun c735 => ?_) (fun c735 => ?_)
          · first | exact absurd c735 (by (simp (disch := omega) only [Int32.lt_iff_toInt_lt, Int32.le_iff_toInt_le, ← Int32.toInt_inj, ne_eq, not_true_eq_false, not_false_eq_true, pd_t, dr_t, nI_t, z_t, m1_t, m2_t, m3_t, m4_t, m9_t]) <;> omega) | exact absurd rfl c735
          · refine mx_aload_n (pc' := 739) dL_acts_738 rfl rfl ?_
            refine mx_bipush (pc' := 741) (v := nI 11) dL_acts_739 (by decide) rfl ?_
            refine mx_callV (pc' := 744) dL_acts_741 cl_L_13 (rfl) (t_c11 _ (boY Y) hC) rfl (by decide) rfl (Nat.le_of_ble_eq_true rfl) rfl (fun v N741 hv => ?_)
            obtain ⟨rfl, hC, -⟩ := hv
            refine mx_iload (pc' := 746) dL_acts_744 rfl rfl ?_
            refine mx_iload (pc' := 748) dL_acts_746 rfl rfl ?_
            refine mx_iadd (pc' := 749) dL_acts_748 (rfl) rfl ?_
            refine mx_icmp_ne (tgt := 782) (pc' := 752) dL_acts_749 (by decide) rfl (fun c749 => ?_) (fun c749 => ?_)
            · exact absurd (show (boY Y).1.2.2.2 4 = Y.1.2.2.2 4 + nI (Y.1.2.1.length - (fBombB Y.1).length) by show upd Y.1.2.2.2 4 _ 4 = _; exact pk_us) c749
            · refine mx_aload_n (pc' := 753) dL_acts_752 rfl rfl ?_
              refine mx_iconst (pc' := 754) (v := nI 4) dL_acts_753 (by decide) rfl ?_
              refine mx_callV (pc' := 757) dL_acts_754 cl_L_13 (rfl) (t_c4 _ (boY Y) hC) rfl (by decide) rfl (Nat.le_of_ble_eq_true rfl) rfl (fun v N754 hv => ?_)
              obtain ⟨rfl, hC, -⟩ := hv
              refine mx_iload (pc' := 759) dL_acts_757 rfl rfl ?_
              refine mx_iconst (pc' := 760) (v := nI 1) dL_acts_759 (by decide) rfl ?_
              refine mx_isub (pc' := 761) (v := nI (Y.1.2.2.1 2 - 1)) dL_acts_760 (pk_sub (by omega)) rfl ?_
              refine mx_icmp_ne (tgt := 782) (pc' := 764) dL_acts_761 (by decide) rfl (fun c761 => ?_) (fun c761 => ?_)
              · first | exact absurd c761 (by (simp (disch := omega) only [Int32.lt_iff_toInt_lt, Int32.le_iff_toInt_le, ← Int32.toInt_inj, ne_eq, not_true_eq_false, not_false_eq_true, pd_t, dr_t, nI_t, z_t, m1_t, m2_t, m3_t, m4_t, m9_t]) <;> omega) | exact absurd rfl c761
              · refine mx_aload_n (pc' := 765) dL_acts_764 rfl rfl ?_
                refine mx_bipush (pc' := 767) (v := nI 11) dL_acts_765 (by decide) rfl ?_
                refine mx_aload_n (pc' := 768) dL_acts_767 rfl rfl ?_
                refine mx_iconst (pc' := 769) (v := nI 2) dL_acts_768 (by decide) rfl ?_
                refine mx_callV (pc' := 772) dL_acts_769 cl_L_13 (rfl) (t_c2 _ (boY Y) hC) rfl (by decide) rfl (Nat.le_of_ble_eq_true rfl) rfl (fun v N769 hv => ?_)
                obtain ⟨rfl, hC, -⟩ := hv
                refine mx_callV (pc' := 775) dL_acts_772 cl_L_28 (rfl) (t_at11 _ (boY Y) hC v0 (fun z hz => hcl z (List.mem_filter.mp hz).1)) rfl (by decide) rfl (Nat.le_of_ble_eq_true rfl) rfl (fun v N772 hv => ?_)
                obtain ⟨rfl, hC, -⟩ := hv
                refine mx_if_ne (tgt := 782) (pc' := 778) dL_acts_775 (by decide) rfl (fun c775 => ?_) (fun c775 => ?_)
                · first | exact absurd c775 (by (simp (disch := omega) only [Int32.lt_iff_toInt_lt, Int32.le_iff_toInt_le, ← Int32.toInt_inj, ne_eq, not_true_eq_false, not_false_eq_true, pd_t, dr_t, nI_t, z_t, m1_t, m2_t, m3_t, m4_t, m9_t]) <;> omega) | exact absurd rfl c775
                · refine mx_iconst (pc' := 779) (v := nI 1) dL_acts_778 (by decide) rfl ?_
                  refine mx_goto (pc' := 783) dL_acts_779 (by decide) ?_
                  refine mx_iret dL_acts_783 (Or.inr ⟨rfl, by decide⟩) ?_
                  exact kq _ _ hC ⟨rfl, Or.inr ⟨hF.bomb, Nat.le_add_right _ 60, rfl⟩⟩
      · exfalso
        first | exact c702 rfl | (revert c702; decide) | ((simp (disch := omega) only [Int32.lt_iff_toInt_lt, Int32.le_iff_toInt_le, ← Int32.toInt_inj, ne_eq, not_true_eq_false, not_false_eq_true, pd_t, dr_t, nI_t, z_t, m1_t, m2_t, m3_t, m4_t, m9_t] at c702) <;> omega)
  refine mx_aload_n (pc' := 690) dL_acts_689 rfl rfl ?_
  refine mx_callV (pc' := 693) dL_acts_690 cl_L_105 (rfl) (t_bomb0 _ Y hC hy) rfl (by decide) rfl (Nat.le_of_ble_eq_true rfl) rfl (fun v N690 hv => ?_)
  obtain ⟨rfl, hC, -⟩ := hv
  refine mx_xistore (pc' := 695) (ls' := [_, _, _, _, _, _, _, _, _, _, _, _, _, _, _]) dL_acts_693 (by decide) rfl rfl rfl ?_
  refine mx_iload (pc' := 697) dL_acts_695 rfl rfl ?_
  refine mx_if_ne (tgt := 705) (pc' := 700) dL_acts_697 (by decide) rfl (fun c697 => ?_) (fun c697 => ?_)
  · 
    refine mx_iload (pc' := 707) dL_acts_705 rfl rfl ?_
    refine mx_bipush (pc' := 709) (v := (-2)) dL_acts_707 (by decide) rfl ?_
    refine mx_icmp_ne (tgt := 716) (pc' := 712) dL_acts_709 (by decide) rfl (fun c709 => ?_) (fun c709 => ?_)
    · first | exact absurd c709 (by (simp (disch := omega) only [Int32.lt_iff_toInt_lt, Int32.le_iff_toInt_le, ← Int32.toInt_inj, ne_eq, not_true_eq_false, not_false_eq_true, pd_t, dr_t, nI_t, z_t, m1_t, m2_t, m3_t, m4_t, m9_t]) <;> omega) | exact absurd rfl c709
    · refine mx_iconst (pc' := 713) (v := nI 1) dL_acts_712 (by decide) rfl ?_
      refine mx_goto (pc' := 783) dL_acts_713 (by decide) ?_
      refine mx_iret dL_acts_783 (Or.inr ⟨rfl, by decide⟩) ?_
      exact kq _ _ hC ⟨rfl, Or.inl ⟨rfl, rfl⟩⟩
  · try (simp (disch := omega) only [Int32.lt_iff_toInt_lt, Int32.le_iff_toInt_le, ← Int32.toInt_inj, ne_eq, pd_t, dr_t, nI_t, z_t, m1_t, m2_t, m3_t, m4_t, m9_t] at c697)
    refine mx_iload (pc' := 702) dL_acts_700 rfl rfl ?_
    refine mx_if_ne (tgt := 720) (pc' := 705) dL_acts_702 (by decide) rfl (fun c702 => ?_) (fun c702 => ?_)
    · exfalso
      first | exact c702 rfl | (revert c702; decide) | ((simp (disch := omega) only [Int32.lt_iff_toInt_lt, Int32.le_iff_toInt_le, ← Int32.toInt_inj, ne_eq, not_true_eq_false, not_false_eq_true, pd_t, dr_t, nI_t, z_t, m1_t, m2_t, m3_t, m4_t, m9_t] at c702) <;> omega)
    · 
      refine mx_iload (pc' := 707) dL_acts_705 rfl rfl ?_
      refine mx_bipush (pc' := 709) (v := (-2)) dL_acts_707 (by decide) rfl ?_
      refine mx_icmp_ne (tgt := 716) (pc' := 712) dL_acts_709 (by decide) rfl (fun c709 => ?_) (fun c709 => ?_)
      · first | exact absurd c709 (by (simp (disch := omega) only [Int32.lt_iff_toInt_lt, Int32.le_iff_toInt_le, ← Int32.toInt_inj, ne_eq, not_true_eq_false, not_false_eq_true, pd_t, dr_t, nI_t, z_t, m1_t, m2_t, m3_t, m4_t, m9_t]) <;> omega) | exact absurd rfl c709
      · refine mx_iconst (pc' := 713) (v := nI 1) dL_acts_712 (by decide) rfl ?_
        refine mx_goto (pc' := 783) dL_acts_713 (by decide) ?_
        refine mx_iret dL_acts_783 (Or.inr ⟨rfl, by decide⟩) ?_
        exact kq _ _ hC ⟨rfl, Or.inl ⟨rfl, rfl⟩⟩

set_option maxHeartbeats 2000000 in
set_option maxRecDepth 10000 in
theorem l_sw (Y : Sy) (ht : Y.1.2.2.1 3 ≤ 100000) (hF : FI Y.1) (Q : Option Value → mx_M → Prop) (kq : ∀ M1 Y', CoA M1 Y' → Tr Y Y' → Q (some (.int (nI 1))) M1) (x y : Int32) (hw dn : Nat) (hdn : dn = Y.1.2.2.1 4) {M1 : mx_M} (hC : CoA M1 Y) : mx_V cL_acts RL 15 (some .boolean) 9 790 [some (.ref 0), some (.int (x)), some (.int (y)), some (.int (nI hw)), some (.int (nI Y.1.1.length)), some (.int (nI dn)), none, none, none, none, none, none, none, none, none] [] M1 Q := by
  obtain ⟨⟨⟨hE, hB, hV⟩, -⟩, hcl⟩ := id hF
  obtain ⟨v0, v1, v2, v4, v5, v6, v7⟩ := id hV
  have hB60 := hB.1
  have hE4 := hE.1
  have k810 : ∀ {M1}, CoA M1 Y → mx_V cL_acts RL 15 (some .boolean) 9 810 [some (.ref 0), some (.int (x)), some (.int (y)), some (.int (nI hw)), some (.int (nI Y.1.1.length)), some (.int (nI dn)), some (.int (nI Y.1.2.1.length)), none, none, none, none, none, none, none, none] [] M1 Q := by
    intro M1 hC
    refine mx_aload_n (pc' := 811) dL_acts_810 rfl rfl ?_
    refine mx_callV (pc' := 814) dL_acts_811 cl_L_108 (rfl) (t_sweep _ Y hC) rfl (by decide) rfl (Nat.le_of_ble_eq_true rfl) rfl (fun v N811 hv => ?_)
    obtain ⟨rfl, hC, -⟩ := hv
    have r1 : (swY Y).1.2.1.length = 0 := rfl
    have r4 : (swY Y).1.2.2.1 4 = 0 := rfl
    have r2 : (swY Y).1.2.2.1 1 = 3 := rfl
    have r3 : (swY Y).1.2.2.1 2 = 2 := rfl
    refine mx_goto (pc' := 819) dL_acts_814 (by decide) ?_
    refine mx_xistore (pc' := 821) (ls' := [_, _, _, _, _, _, _, _, _, _, _, _, _, _, _]) dL_acts_819 (by decide) rfl rfl rfl ?_
    refine mx_iload (pc' := 823) dL_acts_821 rfl rfl ?_
    refine mx_bipush (pc' := 825) (v := (-9)) dL_acts_823 (by decide) rfl ?_
    refine mx_icmp_eq (tgt := 868) (pc' := 828) dL_acts_825 (by decide) rfl (fun c825 => ?_) (fun c825 => ?_)
    · exfalso
      first | exact c825 rfl | (revert c825; decide) | ((simp (disch := omega) only [Int32.lt_iff_toInt_lt, Int32.le_iff_toInt_le, ← Int32.toInt_inj, ne_eq, not_true_eq_false, not_false_eq_true, pd_t, dr_t, nI_t, z_t, m1_t, m2_t, m3_t, m4_t, m9_t] at c825) <;> omega)
    · 
      refine mx_iload (pc' := 830) dL_acts_828 rfl rfl ?_
      refine mx_iload (pc' := 832) dL_acts_830 rfl rfl ?_
      refine mx_icmp_ne (tgt := 872) (pc' := 835) dL_acts_832 (by decide) rfl (fun c832 => ?_) (fun c832 => ?_)
      · first | exact absurd c832 (by (simp (disch := omega) only [Int32.lt_iff_toInt_lt, Int32.le_iff_toInt_le, ← Int32.toInt_inj, ne_eq, not_true_eq_false, not_false_eq_true, pd_t, dr_t, nI_t, z_t, m1_t, m2_t, m3_t, m4_t, m9_t]) <;> omega) | exact absurd rfl c832
      · refine mx_aload_n (pc' := 836) dL_acts_835 rfl rfl ?_
        refine mx_iconst (pc' := 837) (v := nI 1) dL_acts_836 (by decide) rfl ?_
        refine mx_callV (pc' := 840) dL_acts_837 cl_L_13 (rfl) (t_c1 _ (swY Y) hC) rfl (by decide) rfl (Nat.le_of_ble_eq_true rfl) rfl (fun v N837 hv => ?_)
        obtain ⟨rfl, hC, -⟩ := hv
        refine mx_aload_n (pc' := 841) dL_acts_840 rfl rfl ?_
        refine mx_bipush (pc' := 843) (v := nI 6) dL_acts_841 (by decide) rfl ?_
        refine mx_callV (pc' := 846) dL_acts_843 cl_L_13 (rfl) (t_c6 _ (swY Y) hC) rfl (by decide) rfl (Nat.le_of_ble_eq_true rfl) rfl (fun v N843 hv => ?_)
        obtain ⟨rfl, hC, -⟩ := hv
        refine mx_iadd (pc' := 847) (v := nI ((swY Y).1.2.1.length + (swY Y).1.2.2.1 4)) dL_acts_846 (nI_add _ _) rfl ?_
        refine mx_if_ne (tgt := 872) (pc' := 850) dL_acts_847 (by decide) rfl (fun c847 => ?_) (fun c847 => ?_)
        · first | exact absurd c847 (by (simp (disch := omega) only [Int32.lt_iff_toInt_lt, Int32.le_iff_toInt_le, ← Int32.toInt_inj, ne_eq, not_true_eq_false, not_false_eq_true, pd_t, dr_t, nI_t, z_t, m1_t, m2_t, m3_t, m4_t, m9_t]) <;> omega) | exact absurd rfl c847
        · refine mx_aload_n (pc' := 851) dL_acts_850 rfl rfl ?_
          refine mx_iconst (pc' := 852) (v := nI 3) dL_acts_851 (by decide) rfl ?_
          refine mx_callV (pc' := 855) dL_acts_852 cl_L_13 (rfl) (t_c3 _ (swY Y) hC) rfl (by decide) rfl (Nat.le_of_ble_eq_true rfl) rfl (fun v N852 hv => ?_)
          obtain ⟨rfl, hC, -⟩ := hv
          refine mx_iconst (pc' := 856) (v := nI 3) dL_acts_855 (by decide) rfl ?_
          refine mx_icmp_ne (tgt := 872) (pc' := 859) dL_acts_856 (by decide) rfl (fun c856 => ?_) (fun c856 => ?_)
          · first | exact absurd c856 (by (simp (disch := omega) only [Int32.lt_iff_toInt_lt, Int32.le_iff_toInt_le, ← Int32.toInt_inj, ne_eq, not_true_eq_false, not_false_eq_true, pd_t, dr_t, nI_t, z_t, m1_t, m2_t, m3_t, m4_t, m9_t]) <;> omega) | exact absurd rfl c856
          · refine mx_aload_n (pc' := 860) dL_acts_859 rfl rfl ?_
            refine mx_iconst (pc' := 861) (v := nI 4) dL_acts_860 (by decide) rfl ?_
            refine mx_callV (pc' := 864) dL_acts_861 cl_L_13 (rfl) (t_c4 _ (swY Y) hC) rfl (by decide) rfl (Nat.le_of_ble_eq_true rfl) rfl (fun v N861 hv => ?_)
            obtain ⟨rfl, hC, -⟩ := hv
            refine mx_iconst (pc' := 865) (v := nI 2) dL_acts_864 (by decide) rfl ?_
            refine mx_icmp_ne (tgt := 872) (pc' := 868) dL_acts_865 (by decide) rfl (fun c865 => ?_) (fun c865 => ?_)
            · first | exact absurd c865 (by (simp (disch := omega) only [Int32.lt_iff_toInt_lt, Int32.le_iff_toInt_le, ← Int32.toInt_inj, ne_eq, not_true_eq_false, not_false_eq_true, pd_t, dr_t, nI_t, z_t, m1_t, m2_t, m3_t, m4_t, m9_t]) <;> omega) | exact absurd rfl c865
            · refine mx_iconst (pc' := 869) (v := nI 1) dL_acts_868 (by decide) rfl ?_
              refine mx_goto (pc' := 873) dL_acts_869 (by decide) ?_
              refine mx_iret dL_acts_873 (Or.inr ⟨rfl, by decide⟩) ?_
              exact kq _ _ hC ⟨rfl, Or.inr ⟨hF.sweep, Nat.le_add_right _ 60, rfl⟩⟩
  refine mx_aload_n (pc' := 791) dL_acts_790 rfl rfl ?_
  refine mx_iconst (pc' := 792) (v := nI 1) dL_acts_791 (by decide) rfl ?_
  refine mx_callV (pc' := 795) dL_acts_792 cl_L_13 (rfl) (t_c1 _ (Y) hC) rfl (by decide) rfl (Nat.le_of_ble_eq_true rfl) rfl (fun v N792 hv => ?_)
  obtain ⟨rfl, hC, -⟩ := hv
  refine mx_xistore (pc' := 797) (ls' := [_, _, _, _, _, _, _, _, _, _, _, _, _, _, _]) dL_acts_795 (by decide) rfl rfl rfl ?_
  refine mx_iload (pc' := 799) dL_acts_797 rfl rfl ?_
  refine mx_if_ne (tgt := 810) (pc' := 802) dL_acts_799 (by decide) rfl (fun c799 => ?_) (fun c799 => ?_)
  · 
    exact k810 hC
  · 
    refine mx_iload_n (pc' := 803) dL_acts_802 rfl rfl ?_
    refine mx_iconst (pc' := 804) (v := nI 4) dL_acts_803 (by decide) rfl ?_
    refine mx_callS (pc' := 807) dL_acts_804 cl_L_34 (t_L_low _ _ _ ⟨by omega, by omega⟩) rfl (by decide) rfl (Nat.le_of_ble_eq_true rfl) rfl (fun v N804 hv => ?_)
    obtain ⟨j804, hj804, rfl, rfl⟩ := hv
    refine mx_if_ne (tgt := 817) (pc' := 810) dL_acts_807 (by decide) rfl (fun c807 => ?_) (fun c807 => ?_)
    · 
      refine mx_bipush (pc' := 819) (v := (-9)) dL_acts_817 (by decide) rfl ?_
      refine mx_xistore (pc' := 821) (ls' := [_, _, _, _, _, _, _, _, _, _, _, _, _, _, _]) dL_acts_819 (by decide) rfl rfl rfl ?_
      refine mx_iload (pc' := 823) dL_acts_821 rfl rfl ?_
      refine mx_bipush (pc' := 825) (v := (-9)) dL_acts_823 (by decide) rfl ?_
      refine mx_icmp_eq (tgt := 868) (pc' := 828) dL_acts_825 (by decide) rfl (fun c825 => ?_) (fun c825 => ?_)
      · 
        refine mx_iconst (pc' := 869) (v := nI 1) dL_acts_868 (by decide) rfl ?_
        refine mx_goto (pc' := 873) dL_acts_869 (by decide) ?_
        refine mx_iret dL_acts_873 (Or.inr ⟨rfl, by decide⟩) ?_
        exact kq _ _ hC ⟨rfl, Or.inl ⟨rfl, rfl⟩⟩
      · exfalso
        first | exact c825 rfl | (revert c825; decide) | ((simp (disch := omega) only [Int32.lt_iff_toInt_lt, Int32.le_iff_toInt_le, ← Int32.toInt_inj, ne_eq, not_true_eq_false, not_false_eq_true, pd_t, dr_t, nI_t, z_t, m1_t, m2_t, m3_t, m4_t, m9_t] at c825) <;> omega)
    · 
      exact k810 hC

set_option maxHeartbeats 2000000 in
set_option maxRecDepth 10000 in
theorem l_se942 (Y : Sy) (ht : Y.1.2.2.1 3 ≤ 100000) (hF : FI Y.1) (Q : Option Value → mx_M → Prop) (kq : ∀ M1 Y', CoA M1 Y' → Tr Y Y' → Q (some (.int (nI 1))) M1) (x y : Int32) (hw dn : Nat) (hdn : dn = Y.1.2.2.1 4) (w j bd : Nat) (hw3 : w < 3) (hj : j < 8) (hbd : (bd = 1 ∧ (w = 2 ∨ (w = 0 ∧ (j < 1 ∨ 2 < j)) ∨ (w = 1 ∧ (j < 2 ∨ 6 < j)))) ∨ (bd = 0 ∧ ((w = 0 ∧ 1 ≤ j ∧ j ≤ 2) ∨ (w = 1 ∧ 2 ≤ j ∧ j ≤ 6)))) {M1 : mx_M} (hC : CoA M1 Y) : mx_V cL_acts RL 15 (some .boolean) 9 942 [some (.ref 0), some (.int (x)), some (.int (y)), some (.int (nI hw)), some (.int (nI Y.1.1.length)), some (.int (nI dn)), some (.int (nI w)), some (.int (dr j)), some (.int (nI bd)), none, none, none, none, none, none] [] M1 Q := by
  obtain ⟨⟨⟨hE, hB, hV⟩, -⟩, hcl⟩ := id hF
  obtain ⟨v0, v1, v2, v4, v5, v6, v7⟩ := id hV
  have hB60 := hB.1
  have hE4 := hE.1
  by_cases h2 : w = 2
  · refine mx_iload (pc' := 944) dL_acts_942 rfl rfl ?_
    refine mx_iconst (pc' := 945) (v := nI 2) dL_acts_944 (by decide) rfl ?_
    refine mx_icmp_ne (tgt := 952) (pc' := 948) dL_acts_945 (by decide) rfl (fun c945 => ?_) (fun c945 => ?_)
    · exfalso
      first | exact c945 rfl | (revert c945; decide) | ((simp (disch := omega) only [Int32.lt_iff_toInt_lt, Int32.le_iff_toInt_le, ← Int32.toInt_inj, ne_eq, not_true_eq_false, not_false_eq_true, pd_t, dr_t, nI_t, z_t, m1_t, m2_t, m3_t, m4_t, m9_t] at c945) <;> omega)
    · 
      refine mx_iconst (pc' := 949) (v := nI 0) dL_acts_948 (by decide) rfl ?_
      refine mx_goto (pc' := 961) dL_acts_949 (by decide) ?_
      refine mx_xistore (pc' := 963) (ls' := [_, _, _, _, _, _, _, _, _, _, _, _, _, _, _]) dL_acts_961 (by decide) rfl rfl rfl ?_
      refine mx_aload_n (pc' := 964) dL_acts_963 rfl rfl ?_
      refine mx_iload (pc' := 966) dL_acts_964 rfl rfl ?_
      refine mx_iload (pc' := 968) dL_acts_966 rfl rfl ?_
      refine mx_callV (pc' := 971) dL_acts_968 cl_L_111 (rfl) (t_set0 _ Y hC (by omega) hj (by omega)) rfl (by decide) rfl (Nat.le_of_ble_eq_true rfl) rfl (fun v N968 hv => ?_)
      obtain ⟨rfl, hC, -⟩ := hv
      refine mx_iload (pc' := 973) dL_acts_971 rfl rfl ?_
      refine mx_if_eq (tgt := 980) (pc' := 976) dL_acts_973 (by decide) rfl (fun c973 => ?_) (fun c973 => ?_)
      · exfalso
        first | exact c973 rfl | (revert c973; decide) | ((simp (disch := omega) only [Int32.lt_iff_toInt_lt, Int32.le_iff_toInt_le, ← Int32.toInt_inj, ne_eq, not_true_eq_false, not_false_eq_true, pd_t, dr_t, nI_t, z_t, m1_t, m2_t, m3_t, m4_t, m9_t] at c973) <;> omega)
      · 
        refine mx_iconst (pc' := 977) (v := (-1)) dL_acts_976 (by decide) rfl ?_
        refine mx_goto (pc' := 982) dL_acts_977 (by decide) ?_
        refine mx_icmp_ne (tgt := 1019) (pc' := 985) dL_acts_982 (by decide) rfl (fun c982 => ?_) (fun c982 => ?_)
        · first | exact absurd c982 (by (simp (disch := omega) only [Int32.lt_iff_toInt_lt, Int32.le_iff_toInt_le, ← Int32.toInt_inj, ne_eq, not_true_eq_false, not_false_eq_true, pd_t, dr_t, nI_t, z_t, m1_t, m2_t, m3_t, m4_t, m9_t]) <;> omega) | exact absurd rfl c982
        · refine mx_iload (pc' := 987) dL_acts_985 rfl rfl ?_
          refine mx_iconst (pc' := 988) (v := nI 2) dL_acts_987 (by decide) rfl ?_
          refine mx_icmp_eq (tgt := 1015) (pc' := 991) dL_acts_988 (by decide) rfl (fun c988 => ?_) (fun c988 => ?_)
          · 
            refine mx_iconst (pc' := 1016) (v := nI 1) dL_acts_1015 (by decide) rfl ?_
            refine mx_goto (pc' := 1020) dL_acts_1016 (by decide) ?_
            refine mx_iret dL_acts_1020 (Or.inr ⟨rfl, by decide⟩) ?_
            exact kq _ _ hC ⟨rfl, Or.inl ⟨rfl, rfl⟩⟩
          · exfalso
            first | exact c988 rfl | (revert c988; decide) | ((simp (disch := omega) only [Int32.lt_iff_toInt_lt, Int32.le_iff_toInt_le, ← Int32.toInt_inj, ne_eq, not_true_eq_false, not_false_eq_true, pd_t, dr_t, nI_t, z_t, m1_t, m2_t, m3_t, m4_t, m9_t] at c988) <;> omega)
  by_cases hb : bd = 1
  · refine mx_iload (pc' := 944) dL_acts_942 rfl rfl ?_
    refine mx_iconst (pc' := 945) (v := nI 2) dL_acts_944 (by decide) rfl ?_
    refine mx_icmp_ne (tgt := 952) (pc' := 948) dL_acts_945 (by decide) rfl (fun c945 => ?_) (fun c945 => ?_)
    · 
      refine mx_aload_n (pc' := 953) dL_acts_952 rfl rfl ?_
      refine mx_bipush (pc' := 955) (v := nI 15) dL_acts_953 (by decide) rfl ?_
      refine mx_iload (pc' := 957) dL_acts_955 rfl rfl ?_
      refine mx_iadd (pc' := 958) (v := nI (15 + w)) dL_acts_957 (nI_add _ _) rfl ?_
      refine mx_callV (pc' := 961) dL_acts_958 cl_L_13 (rfl) (t_cw _ (Y) hC (w := w) (by omega)) rfl (by decide) rfl (Nat.le_of_ble_eq_true rfl) rfl (fun v N958 hv => ?_)
      obtain ⟨rfl, hC, -⟩ := hv
      refine mx_xistore (pc' := 963) (ls' := [_, _, _, _, _, _, _, _, _, _, _, _, _, _, _]) dL_acts_961 (by decide) rfl rfl rfl ?_
      refine mx_aload_n (pc' := 964) dL_acts_963 rfl rfl ?_
      refine mx_iload (pc' := 966) dL_acts_964 rfl rfl ?_
      refine mx_iload (pc' := 968) dL_acts_966 rfl rfl ?_
      refine mx_callV (pc' := 971) dL_acts_968 cl_L_111 (rfl) (t_set0 _ Y hC (by omega) hj (by omega)) rfl (by decide) rfl (Nat.le_of_ble_eq_true rfl) rfl (fun v N968 hv => ?_)
      obtain ⟨rfl, hC, -⟩ := hv
      refine mx_iload (pc' := 973) dL_acts_971 rfl rfl ?_
      refine mx_if_eq (tgt := 980) (pc' := 976) dL_acts_973 (by decide) rfl (fun c973 => ?_) (fun c973 => ?_)
      · exfalso
        first | exact c973 rfl | (revert c973; decide) | ((simp (disch := omega) only [Int32.lt_iff_toInt_lt, Int32.le_iff_toInt_le, ← Int32.toInt_inj, ne_eq, not_true_eq_false, not_false_eq_true, pd_t, dr_t, nI_t, z_t, m1_t, m2_t, m3_t, m4_t, m9_t] at c973) <;> omega)
      · 
        refine mx_iconst (pc' := 977) (v := (-1)) dL_acts_976 (by decide) rfl ?_
        refine mx_goto (pc' := 982) dL_acts_977 (by decide) ?_
        refine mx_icmp_ne (tgt := 1019) (pc' := 985) dL_acts_982 (by decide) rfl (fun c982 => ?_) (fun c982 => ?_)
        · first | exact absurd c982 (by (simp (disch := omega) only [Int32.lt_iff_toInt_lt, Int32.le_iff_toInt_le, ← Int32.toInt_inj, ne_eq, not_true_eq_false, not_false_eq_true, pd_t, dr_t, nI_t, z_t, m1_t, m2_t, m3_t, m4_t, m9_t]) <;> omega) | exact absurd rfl c982
        · refine mx_iload (pc' := 987) dL_acts_985 rfl rfl ?_
          refine mx_iconst (pc' := 988) (v := nI 2) dL_acts_987 (by decide) rfl ?_
          refine mx_icmp_eq (tgt := 1015) (pc' := 991) dL_acts_988 (by decide) rfl (fun c988 => ?_) (fun c988 => ?_)
          · exfalso
            first | exact c988 rfl | (revert c988; decide) | ((simp (disch := omega) only [Int32.lt_iff_toInt_lt, Int32.le_iff_toInt_le, ← Int32.toInt_inj, ne_eq, not_true_eq_false, not_false_eq_true, pd_t, dr_t, nI_t, z_t, m1_t, m2_t, m3_t, m4_t, m9_t] at c988) <;> omega)
          · 
            refine mx_aload_n (pc' := 992) dL_acts_991 rfl rfl ?_
            refine mx_bipush (pc' := 994) (v := nI 15) dL_acts_992 (by decide) rfl ?_
            refine mx_iload (pc' := 996) dL_acts_994 rfl rfl ?_
            refine mx_iadd (pc' := 997) (v := nI (15 + w)) dL_acts_996 (nI_add _ _) rfl ?_
            refine mx_callV (pc' := 1000) dL_acts_997 cl_L_13 (rfl) (t_cw _ (Y) hC (w := w) (by omega)) rfl (by decide) rfl (Nat.le_of_ble_eq_true rfl) rfl (fun v N997 hv => ?_)
            obtain ⟨rfl, hC, -⟩ := hv
            refine mx_iload (pc' := 1002) dL_acts_1000 rfl rfl ?_
            refine mx_if_eq (tgt := 1010) (pc' := 1005) dL_acts_1002 (by decide) rfl (fun c1002 => ?_) (fun c1002 => ?_)
            · exfalso
              first | exact c1002 rfl | (revert c1002; decide) | ((simp (disch := omega) only [Int32.lt_iff_toInt_lt, Int32.le_iff_toInt_le, ← Int32.toInt_inj, ne_eq, not_true_eq_false, not_false_eq_true, pd_t, dr_t, nI_t, z_t, m1_t, m2_t, m3_t, m4_t, m9_t] at c1002) <;> omega)
            · 
              refine mx_iload (pc' := 1007) dL_acts_1005 rfl rfl ?_
              refine mx_goto (pc' := 1012) dL_acts_1007 (by decide) ?_
              refine mx_icmp_ne (tgt := 1019) (pc' := 1015) dL_acts_1012 (by decide) rfl (fun c1012 => ?_) (fun c1012 => ?_)
              · first | exact absurd c1012 (by (simp (disch := omega) only [Int32.lt_iff_toInt_lt, Int32.le_iff_toInt_le, ← Int32.toInt_inj, ne_eq, not_true_eq_false, not_false_eq_true, pd_t, dr_t, nI_t, z_t, m1_t, m2_t, m3_t, m4_t, m9_t]) <;> omega) | exact absurd rfl c1012
              · refine mx_iconst (pc' := 1016) (v := nI 1) dL_acts_1015 (by decide) rfl ?_
                refine mx_goto (pc' := 1020) dL_acts_1016 (by decide) ?_
                refine mx_iret dL_acts_1020 (Or.inr ⟨rfl, by decide⟩) ?_
                exact kq _ _ hC ⟨rfl, Or.inl ⟨rfl, rfl⟩⟩
    · exfalso
      first | exact c945 rfl | (revert c945; decide) | ((simp (disch := omega) only [Int32.lt_iff_toInt_lt, Int32.le_iff_toInt_le, ← Int32.toInt_inj, ne_eq, not_true_eq_false, not_false_eq_true, pd_t, dr_t, nI_t, z_t, m1_t, m2_t, m3_t, m4_t, m9_t] at c945) <;> omega)
  refine mx_iload (pc' := 944) dL_acts_942 rfl rfl ?_
  refine mx_iconst (pc' := 945) (v := nI 2) dL_acts_944 (by decide) rfl ?_
  refine mx_icmp_ne (tgt := 952) (pc' := 948) dL_acts_945 (by decide) rfl (fun c945 => ?_) (fun c945 => ?_)
  · 
    refine mx_aload_n (pc' := 953) dL_acts_952 rfl rfl ?_
    refine mx_bipush (pc' := 955) (v := nI 15) dL_acts_953 (by decide) rfl ?_
    refine mx_iload (pc' := 957) dL_acts_955 rfl rfl ?_
    refine mx_iadd (pc' := 958) (v := nI (15 + w)) dL_acts_957 (nI_add _ _) rfl ?_
    refine mx_callV (pc' := 961) dL_acts_958 cl_L_13 (rfl) (t_cw _ (Y) hC (w := w) (by omega)) rfl (by decide) rfl (Nat.le_of_ble_eq_true rfl) rfl (fun v N958 hv => ?_)
    obtain ⟨rfl, hC, -⟩ := hv
    refine mx_xistore (pc' := 963) (ls' := [_, _, _, _, _, _, _, _, _, _, _, _, _, _, _]) dL_acts_961 (by decide) rfl rfl rfl ?_
    refine mx_aload_n (pc' := 964) dL_acts_963 rfl rfl ?_
    refine mx_iload (pc' := 966) dL_acts_964 rfl rfl ?_
    refine mx_iload (pc' := 968) dL_acts_966 rfl rfl ?_
    refine mx_callV (pc' := 971) dL_acts_968 cl_L_111 (rfl) (t_set1 _ Y hC (by omega) hj (by omega)) rfl (by decide) rfl (Nat.le_of_ble_eq_true rfl) rfl (fun v N968 hv => ?_)
    obtain ⟨rfl, hC, -⟩ := hv
    have r1 : (seY Y w (j - 1)).1.2.2.1 (5 + w) = j - 1 := if_pos rfl
    refine mx_iload (pc' := 973) dL_acts_971 rfl rfl ?_
    refine mx_if_eq (tgt := 980) (pc' := 976) dL_acts_973 (by decide) rfl (fun c973 => ?_) (fun c973 => ?_)
    · 
      refine mx_iload (pc' := 982) dL_acts_980 rfl rfl ?_
      refine mx_icmp_ne (tgt := 1019) (pc' := 985) dL_acts_982 (by decide) rfl (fun c982 => ?_) (fun c982 => ?_)
      · first | exact absurd c982 (by (simp (disch := omega) only [Int32.lt_iff_toInt_lt, Int32.le_iff_toInt_le, ← Int32.toInt_inj, ne_eq, not_true_eq_false, not_false_eq_true, pd_t, dr_t, nI_t, z_t, m1_t, m2_t, m3_t, m4_t, m9_t]) <;> omega) | exact absurd rfl c982
      · refine mx_iload (pc' := 987) dL_acts_985 rfl rfl ?_
        refine mx_iconst (pc' := 988) (v := nI 2) dL_acts_987 (by decide) rfl ?_
        refine mx_icmp_eq (tgt := 1015) (pc' := 991) dL_acts_988 (by decide) rfl (fun c988 => ?_) (fun c988 => ?_)
        · exfalso
          first | exact c988 rfl | (revert c988; decide) | ((simp (disch := omega) only [Int32.lt_iff_toInt_lt, Int32.le_iff_toInt_le, ← Int32.toInt_inj, ne_eq, not_true_eq_false, not_false_eq_true, pd_t, dr_t, nI_t, z_t, m1_t, m2_t, m3_t, m4_t, m9_t] at c988) <;> omega)
        · 
          refine mx_aload_n (pc' := 992) dL_acts_991 rfl rfl ?_
          refine mx_bipush (pc' := 994) (v := nI 15) dL_acts_992 (by decide) rfl ?_
          refine mx_iload (pc' := 996) dL_acts_994 rfl rfl ?_
          refine mx_iadd (pc' := 997) (v := nI (15 + w)) dL_acts_996 (nI_add _ _) rfl ?_
          refine mx_callV (pc' := 1000) dL_acts_997 cl_L_13 (rfl) (t_cw _ (seY Y w (j - 1)) hC (w := w) (by omega)) rfl (by decide) rfl (Nat.le_of_ble_eq_true rfl) rfl (fun v N997 hv => ?_)
          obtain ⟨rfl, hC, -⟩ := hv
          refine mx_iload (pc' := 1002) dL_acts_1000 rfl rfl ?_
          refine mx_if_eq (tgt := 1010) (pc' := 1005) dL_acts_1002 (by decide) rfl (fun c1002 => ?_) (fun c1002 => ?_)
          · 
            refine mx_iload (pc' := 1012) dL_acts_1010 rfl rfl ?_
            refine mx_icmp_ne (tgt := 1019) (pc' := 1015) dL_acts_1012 (by decide) rfl (fun c1012 => ?_) (fun c1012 => ?_)
            · first | exact absurd c1012 (by (simp (disch := omega) only [Int32.lt_iff_toInt_lt, Int32.le_iff_toInt_le, ← Int32.toInt_inj, ne_eq, not_true_eq_false, not_false_eq_true, pd_t, dr_t, nI_t, z_t, m1_t, m2_t, m3_t, m4_t, m9_t]) <;> omega) | exact absurd rfl c1012
            · refine mx_iconst (pc' := 1016) (v := nI 1) dL_acts_1015 (by decide) rfl ?_
              refine mx_goto (pc' := 1020) dL_acts_1016 (by decide) ?_
              refine mx_iret dL_acts_1020 (Or.inr ⟨rfl, by decide⟩) ?_
              exact kq _ _ hC ⟨rfl, Or.inr ⟨hF.set (by omega) hC.2.1, Nat.le_trans (Nat.le_of_eq (show va_up Y.1.2.2.1 (5 + w) (j - 1) 3 = Y.1.2.2.1 3 from if_neg (by omega))) (Nat.le_add_right _ 60), rfl⟩⟩
          · exfalso
            first | exact c1002 rfl | (revert c1002; decide) | ((simp (disch := omega) only [Int32.lt_iff_toInt_lt, Int32.le_iff_toInt_le, ← Int32.toInt_inj, ne_eq, not_true_eq_false, not_false_eq_true, pd_t, dr_t, nI_t, z_t, m1_t, m2_t, m3_t, m4_t, m9_t] at c1002) <;> omega)
    · exfalso
      first | exact c973 rfl | (revert c973; decide) | ((simp (disch := omega) only [Int32.lt_iff_toInt_lt, Int32.le_iff_toInt_le, ← Int32.toInt_inj, ne_eq, not_true_eq_false, not_false_eq_true, pd_t, dr_t, nI_t, z_t, m1_t, m2_t, m3_t, m4_t, m9_t] at c973) <;> omega)
  · exfalso
    first | exact c945 rfl | (revert c945; decide) | ((simp (disch := omega) only [Int32.lt_iff_toInt_lt, Int32.le_iff_toInt_le, ← Int32.toInt_inj, ne_eq, not_true_eq_false, not_false_eq_true, pd_t, dr_t, nI_t, z_t, m1_t, m2_t, m3_t, m4_t, m9_t] at c945) <;> omega)

set_option maxHeartbeats 2000000 in
set_option maxRecDepth 10000 in
theorem l_se (Y : Sy) (ht : Y.1.2.2.1 3 ≤ 100000) (hF : FI Y.1) (Q : Option Value → mx_M → Prop) (kq : ∀ M1 Y', CoA M1 Y' → Tr Y Y' → Q (some (.int (nI 1))) M1) (x y : Int32) (hw dn : Nat) (hdn : dn = Y.1.2.2.1 4) {M1 : mx_M} (hC : CoA M1 Y) : mx_V cL_acts RL 15 (some .boolean) 9 880 [some (.ref 0), some (.int (x)), some (.int (y)), some (.int (nI hw)), some (.int (nI Y.1.1.length)), some (.int (nI dn)), none, none, none, none, none, none, none, none, none] [] M1 Q := by
  obtain ⟨⟨⟨hE, hB, hV⟩, -⟩, hcl⟩ := id hF
  obtain ⟨v0, v1, v2, v4, v5, v6, v7⟩ := id hV
  have hB60 := hB.1
  have hE4 := hE.1
  refine mx_iload_n (pc' := 881) dL_acts_880 rfl rfl ?_
  refine mx_iconst (pc' := 882) (v := nI 3) dL_acts_881 (by decide) rfl ?_
  refine mx_callS (pc' := 885) dL_acts_882 cl_L_34 (t_L_low _ _ _ ⟨by omega, by omega⟩) rfl (by decide) rfl (Nat.le_of_ble_eq_true rfl) rfl (fun v N882 hv => ?_)
  obtain ⟨j882, hj882, rfl, rfl⟩ := hv
  refine mx_xistore (pc' := 887) (ls' := [_, _, _, _, _, _, _, _, _, _, _, _, _, _, _]) dL_acts_885 (by decide) rfl rfl rfl ?_
  refine mx_iload_n (pc' := 888) dL_acts_887 rfl rfl ?_
  refine mx_iconst (pc' := 889) (v := nI 2) dL_acts_888 (by decide) rfl ?_
  refine mx_ishr (pc' := 890) dL_acts_889 (rfl) rfl ?_
  refine mx_bipush (pc' := 892) (v := nI 8) dL_acts_890 (by decide) rfl ?_
  refine mx_callS (pc' := 895) dL_acts_892 cl_L_34 (t_L_low _ _ _ ⟨by omega, by omega⟩) rfl (by decide) rfl (Nat.le_of_ble_eq_true rfl) rfl (fun v N892 hv => ?_)
  obtain ⟨j892, hj892, rfl, rfl⟩ := hv
  refine mx_iconst (pc' := 896) (v := nI 1) dL_acts_895 (by decide) rfl ?_
  refine mx_isub (pc' := 897) (v := dr j892) dL_acts_896 (rfl) rfl ?_
  refine mx_xistore (pc' := 899) (ls' := [_, _, _, _, _, _, _, _, _, _, _, _, _, _, _]) dL_acts_897 (by decide) rfl rfl rfl ?_
  generalize j882 = w at hj882 ⊢
  generalize j892 = j at hj892 ⊢
  refine mx_iload (pc' := 901) dL_acts_899 rfl rfl ?_
  refine mx_iconst (pc' := 902) (v := nI 2) dL_acts_901 (by decide) rfl ?_
  refine mx_icmp_eq (tgt := 935) (pc' := 905) dL_acts_902 (by decide) rfl (fun c902 => ?_) (fun c902 => ?_)
  · try (simp (disch := omega) only [Int32.lt_iff_toInt_lt, Int32.le_iff_toInt_le, ← Int32.toInt_inj, ne_eq, pd_t, dr_t, nI_t, z_t, m1_t, m2_t, m3_t, m4_t, m9_t] at c902)
    refine mx_iconst (pc' := 936) (v := nI 1) dL_acts_935 (by decide) rfl ?_
    refine mx_goto (pc' := 940) dL_acts_936 (by decide) ?_
    refine mx_xistore (pc' := 942) (ls' := [_, _, _, _, _, _, _, _, _, _, _, _, _, _, _]) dL_acts_940 (by decide) rfl rfl rfl ?_
    exact l_se942 Y ht hF Q kq x y hw dn hdn w j 1 (by omega) (by omega) (by omega) hC
  · try (simp (disch := omega) only [Int32.lt_iff_toInt_lt, Int32.le_iff_toInt_le, ← Int32.toInt_inj, ne_eq, pd_t, dr_t, nI_t, z_t, m1_t, m2_t, m3_t, m4_t, m9_t] at c902)
    refine mx_iload (pc' := 907) dL_acts_905 rfl rfl ?_
    refine mx_iload (pc' := 909) dL_acts_907 rfl rfl ?_
    refine mx_if_ne (tgt := 916) (pc' := 912) dL_acts_909 (by decide) rfl (fun c909 => ?_) (fun c909 => ?_)
    · try (simp (disch := omega) only [Int32.lt_iff_toInt_lt, Int32.le_iff_toInt_le, ← Int32.toInt_inj, ne_eq, pd_t, dr_t, nI_t, z_t, m1_t, m2_t, m3_t, m4_t, m9_t] at c909)
      refine mx_iconst (pc' := 917) (v := nI 1) dL_acts_916 (by decide) rfl ?_
      refine mx_icmp_lt (tgt := 935) (pc' := 920) dL_acts_917 (by decide) rfl (fun c917 => ?_) (fun c917 => ?_)
      · try (simp (disch := omega) only [Int32.lt_iff_toInt_lt, Int32.le_iff_toInt_le, ← Int32.toInt_inj, ne_eq, pd_t, dr_t, nI_t, z_t, m1_t, m2_t, m3_t, m4_t, m9_t] at c917)
        refine mx_iconst (pc' := 936) (v := nI 1) dL_acts_935 (by decide) rfl ?_
        refine mx_goto (pc' := 940) dL_acts_936 (by decide) ?_
        refine mx_xistore (pc' := 942) (ls' := [_, _, _, _, _, _, _, _, _, _, _, _, _, _, _]) dL_acts_940 (by decide) rfl rfl rfl ?_
        exact l_se942 Y ht hF Q kq x y hw dn hdn w j 1 (by omega) (by omega) (by omega) hC
      · try (simp (disch := omega) only [Int32.lt_iff_toInt_lt, Int32.le_iff_toInt_le, ← Int32.toInt_inj, ne_eq, pd_t, dr_t, nI_t, z_t, m1_t, m2_t, m3_t, m4_t, m9_t] at c917)
        refine mx_iload (pc' := 922) dL_acts_920 rfl rfl ?_
        refine mx_iload (pc' := 924) dL_acts_922 rfl rfl ?_
        refine mx_if_ne (tgt := 931) (pc' := 927) dL_acts_924 (by decide) rfl (fun c924 => ?_) (fun c924 => ?_)
        · try (simp (disch := omega) only [Int32.lt_iff_toInt_lt, Int32.le_iff_toInt_le, ← Int32.toInt_inj, ne_eq, pd_t, dr_t, nI_t, z_t, m1_t, m2_t, m3_t, m4_t, m9_t] at c924)
          refine mx_iconst (pc' := 932) (v := nI 5) dL_acts_931 (by decide) rfl ?_
          refine mx_icmp_le (tgt := 939) (pc' := 935) dL_acts_932 (by decide) rfl (fun c932 => ?_) (fun c932 => ?_)
          · try (simp (disch := omega) only [Int32.lt_iff_toInt_lt, Int32.le_iff_toInt_le, ← Int32.toInt_inj, ne_eq, pd_t, dr_t, nI_t, z_t, m1_t, m2_t, m3_t, m4_t, m9_t] at c932)
            refine mx_iconst (pc' := 940) (v := nI 0) dL_acts_939 (by decide) rfl ?_
            refine mx_xistore (pc' := 942) (ls' := [_, _, _, _, _, _, _, _, _, _, _, _, _, _, _]) dL_acts_940 (by decide) rfl rfl rfl ?_
            exact l_se942 Y ht hF Q kq x y hw dn hdn w j 0 (by omega) (by omega) (by omega) hC
          · try (simp (disch := omega) only [Int32.lt_iff_toInt_lt, Int32.le_iff_toInt_le, ← Int32.toInt_inj, ne_eq, pd_t, dr_t, nI_t, z_t, m1_t, m2_t, m3_t, m4_t, m9_t] at c932)
            refine mx_iconst (pc' := 936) (v := nI 1) dL_acts_935 (by decide) rfl ?_
            refine mx_goto (pc' := 940) dL_acts_936 (by decide) ?_
            refine mx_xistore (pc' := 942) (ls' := [_, _, _, _, _, _, _, _, _, _, _, _, _, _, _]) dL_acts_940 (by decide) rfl rfl rfl ?_
            exact l_se942 Y ht hF Q kq x y hw dn hdn w j 1 (by omega) (by omega) (by omega) hC
        · try (simp (disch := omega) only [Int32.lt_iff_toInt_lt, Int32.le_iff_toInt_le, ← Int32.toInt_inj, ne_eq, pd_t, dr_t, nI_t, z_t, m1_t, m2_t, m3_t, m4_t, m9_t] at c924)
          refine mx_iconst (pc' := 928) (v := nI 1) dL_acts_927 (by decide) rfl ?_
          refine mx_goto (pc' := 932) dL_acts_928 (by decide) ?_
          refine mx_icmp_le (tgt := 939) (pc' := 935) dL_acts_932 (by decide) rfl (fun c932 => ?_) (fun c932 => ?_)
          · try (simp (disch := omega) only [Int32.lt_iff_toInt_lt, Int32.le_iff_toInt_le, ← Int32.toInt_inj, ne_eq, pd_t, dr_t, nI_t, z_t, m1_t, m2_t, m3_t, m4_t, m9_t] at c932)
            refine mx_iconst (pc' := 940) (v := nI 0) dL_acts_939 (by decide) rfl ?_
            refine mx_xistore (pc' := 942) (ls' := [_, _, _, _, _, _, _, _, _, _, _, _, _, _, _]) dL_acts_940 (by decide) rfl rfl rfl ?_
            exact l_se942 Y ht hF Q kq x y hw dn hdn w j 0 (by omega) (by omega) (by omega) hC
          · try (simp (disch := omega) only [Int32.lt_iff_toInt_lt, Int32.le_iff_toInt_le, ← Int32.toInt_inj, ne_eq, pd_t, dr_t, nI_t, z_t, m1_t, m2_t, m3_t, m4_t, m9_t] at c932)
            refine mx_iconst (pc' := 936) (v := nI 1) dL_acts_935 (by decide) rfl ?_
            refine mx_goto (pc' := 940) dL_acts_936 (by decide) ?_
            refine mx_xistore (pc' := 942) (ls' := [_, _, _, _, _, _, _, _, _, _, _, _, _, _, _]) dL_acts_940 (by decide) rfl rfl rfl ?_
            exact l_se942 Y ht hF Q kq x y hw dn hdn w j 1 (by omega) (by omega) (by omega) hC
    · try (simp (disch := omega) only [Int32.lt_iff_toInt_lt, Int32.le_iff_toInt_le, ← Int32.toInt_inj, ne_eq, pd_t, dr_t, nI_t, z_t, m1_t, m2_t, m3_t, m4_t, m9_t] at c909)
      refine mx_iconst (pc' := 913) (v := nI 0) dL_acts_912 (by decide) rfl ?_
      refine mx_goto (pc' := 917) dL_acts_913 (by decide) ?_
      refine mx_icmp_lt (tgt := 935) (pc' := 920) dL_acts_917 (by decide) rfl (fun c917 => ?_) (fun c917 => ?_)
      · try (simp (disch := omega) only [Int32.lt_iff_toInt_lt, Int32.le_iff_toInt_le, ← Int32.toInt_inj, ne_eq, pd_t, dr_t, nI_t, z_t, m1_t, m2_t, m3_t, m4_t, m9_t] at c917)
        refine mx_iconst (pc' := 936) (v := nI 1) dL_acts_935 (by decide) rfl ?_
        refine mx_goto (pc' := 940) dL_acts_936 (by decide) ?_
        refine mx_xistore (pc' := 942) (ls' := [_, _, _, _, _, _, _, _, _, _, _, _, _, _, _]) dL_acts_940 (by decide) rfl rfl rfl ?_
        exact l_se942 Y ht hF Q kq x y hw dn hdn w j 1 (by omega) (by omega) (by omega) hC
      · try (simp (disch := omega) only [Int32.lt_iff_toInt_lt, Int32.le_iff_toInt_le, ← Int32.toInt_inj, ne_eq, pd_t, dr_t, nI_t, z_t, m1_t, m2_t, m3_t, m4_t, m9_t] at c917)
        refine mx_iload (pc' := 922) dL_acts_920 rfl rfl ?_
        refine mx_iload (pc' := 924) dL_acts_922 rfl rfl ?_
        refine mx_if_ne (tgt := 931) (pc' := 927) dL_acts_924 (by decide) rfl (fun c924 => ?_) (fun c924 => ?_)
        · try (simp (disch := omega) only [Int32.lt_iff_toInt_lt, Int32.le_iff_toInt_le, ← Int32.toInt_inj, ne_eq, pd_t, dr_t, nI_t, z_t, m1_t, m2_t, m3_t, m4_t, m9_t] at c924)
          refine mx_iconst (pc' := 932) (v := nI 5) dL_acts_931 (by decide) rfl ?_
          refine mx_icmp_le (tgt := 939) (pc' := 935) dL_acts_932 (by decide) rfl (fun c932 => ?_) (fun c932 => ?_)
          · try (simp (disch := omega) only [Int32.lt_iff_toInt_lt, Int32.le_iff_toInt_le, ← Int32.toInt_inj, ne_eq, pd_t, dr_t, nI_t, z_t, m1_t, m2_t, m3_t, m4_t, m9_t] at c932)
            refine mx_iconst (pc' := 940) (v := nI 0) dL_acts_939 (by decide) rfl ?_
            refine mx_xistore (pc' := 942) (ls' := [_, _, _, _, _, _, _, _, _, _, _, _, _, _, _]) dL_acts_940 (by decide) rfl rfl rfl ?_
            exact l_se942 Y ht hF Q kq x y hw dn hdn w j 0 (by omega) (by omega) (by omega) hC
          · try (simp (disch := omega) only [Int32.lt_iff_toInt_lt, Int32.le_iff_toInt_le, ← Int32.toInt_inj, ne_eq, pd_t, dr_t, nI_t, z_t, m1_t, m2_t, m3_t, m4_t, m9_t] at c932)
            refine mx_iconst (pc' := 936) (v := nI 1) dL_acts_935 (by decide) rfl ?_
            refine mx_goto (pc' := 940) dL_acts_936 (by decide) ?_
            refine mx_xistore (pc' := 942) (ls' := [_, _, _, _, _, _, _, _, _, _, _, _, _, _, _]) dL_acts_940 (by decide) rfl rfl rfl ?_
            exact l_se942 Y ht hF Q kq x y hw dn hdn w j 1 (by omega) (by omega) (by omega) hC
        · try (simp (disch := omega) only [Int32.lt_iff_toInt_lt, Int32.le_iff_toInt_le, ← Int32.toInt_inj, ne_eq, pd_t, dr_t, nI_t, z_t, m1_t, m2_t, m3_t, m4_t, m9_t] at c924)
          refine mx_iconst (pc' := 928) (v := nI 1) dL_acts_927 (by decide) rfl ?_
          refine mx_goto (pc' := 932) dL_acts_928 (by decide) ?_
          refine mx_icmp_le (tgt := 939) (pc' := 935) dL_acts_932 (by decide) rfl (fun c932 => ?_) (fun c932 => ?_)
          · try (simp (disch := omega) only [Int32.lt_iff_toInt_lt, Int32.le_iff_toInt_le, ← Int32.toInt_inj, ne_eq, pd_t, dr_t, nI_t, z_t, m1_t, m2_t, m3_t, m4_t, m9_t] at c932)
            refine mx_iconst (pc' := 940) (v := nI 0) dL_acts_939 (by decide) rfl ?_
            refine mx_xistore (pc' := 942) (ls' := [_, _, _, _, _, _, _, _, _, _, _, _, _, _, _]) dL_acts_940 (by decide) rfl rfl rfl ?_
            exact l_se942 Y ht hF Q kq x y hw dn hdn w j 0 (by omega) (by omega) (by omega) hC
          · try (simp (disch := omega) only [Int32.lt_iff_toInt_lt, Int32.le_iff_toInt_le, ← Int32.toInt_inj, ne_eq, pd_t, dr_t, nI_t, z_t, m1_t, m2_t, m3_t, m4_t, m9_t] at c932)
            refine mx_iconst (pc' := 936) (v := nI 1) dL_acts_935 (by decide) rfl ?_
            refine mx_goto (pc' := 940) dL_acts_936 (by decide) ?_
            refine mx_xistore (pc' := 942) (ls' := [_, _, _, _, _, _, _, _, _, _, _, _, _, _, _]) dL_acts_940 (by decide) rfl rfl rfl ?_
            exact l_se942 Y ht hF Q kq x y hw dn hdn w j 1 (by omega) (by omega) (by omega) hC

set_option maxHeartbeats 2000000 in
set_option maxRecDepth 10000 in
theorem t_L_acts (M : mx_M) (Y : Sy) (hC : CoA M Y) (ht : Y.1.2.2.1 3 ≤ 100000) (hF : FI Y.1) (x y : Int32) : mx_T yL_acts cL_acts 15 (some .boolean) 9 [.ref 0, .int x, .int y] M (fun v M' => v = some (.int (nI 1)) ∧ ∃ Y', CoA M' Y' ∧ Tr Y Y') := by
  refine mx_T.of1 (own := RL) (ls := [some (.ref 0), some (.int x), some (.int y), none, none, none, none, none, none, none, none, none, none, none, none]) (by decide +kernel) rfl (Nat.le_of_ble_eq_true rfl) rfl rfl ?_
  refine mx_iload_n (pc' := 1) dL_acts_0 rfl rfl ?_
  refine mx_bipush (pc' := 3) (v := nI 24) dL_acts_1 (by decide) rfl ?_
  refine mx_callS (pc' := 6) dL_acts_3 cl_L_34 (t_L_low _ _ _ ⟨by omega, by omega⟩) rfl (by decide) rfl (Nat.le_of_ble_eq_true rfl) rfl (fun v N3 hv => ?_)
  obtain ⟨j3, hj3, rfl, rfl⟩ := hv
  refine mx_xistore_n (pc' := 7) (ls' := [_, _, _, _, _, _, _, _, _, _, _, _, _, _, _]) dL_acts_6 (by decide) rfl rfl rfl ?_
  refine mx_aload_n (pc' := 8) dL_acts_7 rfl rfl ?_
  refine mx_iconst (pc' := 9) (v := nI 0) dL_acts_8 (by decide) rfl ?_
  refine mx_callV (pc' := 12) dL_acts_9 cl_L_13 (rfl) (t_c0 _ (Y) hC) rfl (by decide) rfl (Nat.le_of_ble_eq_true rfl) rfl (fun v N9 hv => ?_)
  obtain ⟨rfl, hC, -⟩ := hv
  refine mx_xistore (pc' := 14) (ls' := [_, _, _, _, _, _, _, _, _, _, _, _, _, _, _]) dL_acts_12 (by decide) rfl rfl rfl ?_
  have v4 := hF.1.1.2.2.2.2.2.1
  have k31 : ∀ (dn : Nat), dn = Y.1.2.2.1 4 → ∀ {M1}, CoA M1 Y → mx_V cL_acts RL 15 (some .boolean) 9 31 [some (.ref 0), some (.int (x)), some (.int (y)), some (.int (nI j3)), some (.int (nI Y.1.1.length)), some (.int (nI dn)), none, none, none, none, none, none, none, none, none] [] M1 (fun v M2 => v = some (.int (nI 1)) ∧ ∃ Y', CoA M2 Y' ∧ Tr Y Y') := by
    intro dn hdn M1 hC
    refine mx_iload_n (pc' := 32) dL_acts_31 rfl rfl ?_
    refine mx_iconst (pc' := 33) (v := nI 4) dL_acts_32 (by decide) rfl ?_
    refine mx_icmp_ge (tgt := 269) (pc' := 36) dL_acts_33 (by decide) rfl (fun c33 => ?_) (fun c33 => ?_)
    · try (simp (disch := omega) only [Int32.lt_iff_toInt_lt, Int32.le_iff_toInt_le, ← Int32.toInt_inj, ne_eq, pd_t, dr_t, nI_t, z_t, m1_t, m2_t, m3_t, m4_t, m9_t] at c33)
      refine mx_iload_n (pc' := 270) dL_acts_269 rfl rfl ?_
      refine mx_iconst (pc' := 271) (v := nI 4) dL_acts_270 (by decide) rfl ?_
      refine mx_icmp_ne (tgt := 355) (pc' := 274) dL_acts_271 (by decide) rfl (fun c271 => ?_) (fun c271 => ?_)
      · try (simp (disch := omega) only [Int32.lt_iff_toInt_lt, Int32.le_iff_toInt_le, ← Int32.toInt_inj, ne_eq, pd_t, dr_t, nI_t, z_t, m1_t, m2_t, m3_t, m4_t, m9_t] at c271)
        refine mx_iload_n (pc' := 356) dL_acts_355 rfl rfl ?_
        refine mx_bipush (pc' := 358) (v := nI 14) dL_acts_356 (by decide) rfl ?_
        refine mx_icmp_ge (tgt := 661) (pc' := 361) dL_acts_358 (by decide) rfl (fun c358 => ?_) (fun c358 => ?_)
        · try (simp (disch := omega) only [Int32.lt_iff_toInt_lt, Int32.le_iff_toInt_le, ← Int32.toInt_inj, ne_eq, pd_t, dr_t, nI_t, z_t, m1_t, m2_t, m3_t, m4_t, m9_t] at c358)
          refine mx_iload_n (pc' := 662) dL_acts_661 rfl rfl ?_
          refine mx_bipush (pc' := 664) (v := nI 14) dL_acts_662 (by decide) rfl ?_
          refine mx_icmp_ne (tgt := 784) (pc' := 667) dL_acts_664 (by decide) rfl (fun c664 => ?_) (fun c664 => ?_)
          · try (simp (disch := omega) only [Int32.lt_iff_toInt_lt, Int32.le_iff_toInt_le, ← Int32.toInt_inj, ne_eq, pd_t, dr_t, nI_t, z_t, m1_t, m2_t, m3_t, m4_t, m9_t] at c664)
            refine mx_iload_n (pc' := 785) dL_acts_784 rfl rfl ?_
            refine mx_bipush (pc' := 787) (v := nI 15) dL_acts_785 (by decide) rfl ?_
            refine mx_icmp_ne (tgt := 874) (pc' := 790) dL_acts_787 (by decide) rfl (fun c787 => ?_) (fun c787 => ?_)
            · try (simp (disch := omega) only [Int32.lt_iff_toInt_lt, Int32.le_iff_toInt_le, ← Int32.toInt_inj, ne_eq, pd_t, dr_t, nI_t, z_t, m1_t, m2_t, m3_t, m4_t, m9_t] at c787)
              refine mx_iload_n (pc' := 875) dL_acts_874 rfl rfl ?_
              refine mx_bipush (pc' := 877) (v := nI 18) dL_acts_875 (by decide) rfl ?_
              refine mx_icmp_ge (tgt := 1021) (pc' := 880) dL_acts_877 (by decide) rfl (fun c877 => ?_) (fun c877 => ?_)
              · try (simp (disch := omega) only [Int32.lt_iff_toInt_lt, Int32.le_iff_toInt_le, ← Int32.toInt_inj, ne_eq, pd_t, dr_t, nI_t, z_t, m1_t, m2_t, m3_t, m4_t, m9_t] at c877)
                refine mx_aload_n (pc' := 1022) dL_acts_1021 rfl rfl ?_
                refine mx_iload_n (pc' := 1023) dL_acts_1022 rfl rfl ?_
                refine mx_callS (pc' := 1026) dL_acts_1023 cl_L_114 (t_L_reads _ Y hC ht hF _) rfl (by decide) rfl (Nat.le_of_ble_eq_true rfl) rfl (fun v N1023 hv => ?_)
                obtain ⟨rfl, Y2, hC, hT⟩ := hv
                refine mx_iret dL_acts_1026 (Or.inr ⟨rfl, by decide⟩) ?_
                exact ⟨rfl, Y2, hC, hT⟩
              · try (simp (disch := omega) only [Int32.lt_iff_toInt_lt, Int32.le_iff_toInt_le, ← Int32.toInt_inj, ne_eq, pd_t, dr_t, nI_t, z_t, m1_t, m2_t, m3_t, m4_t, m9_t] at c877)
                exact l_se Y ht hF _ (fun M1 Y2 h1 h2 => ⟨rfl, Y2, h1, h2⟩) x y j3 dn hdn hC
            · try (simp (disch := omega) only [Int32.lt_iff_toInt_lt, Int32.le_iff_toInt_le, ← Int32.toInt_inj, ne_eq, pd_t, dr_t, nI_t, z_t, m1_t, m2_t, m3_t, m4_t, m9_t] at c787)
              exact l_sw Y ht hF _ (fun M1 Y2 h1 h2 => ⟨rfl, Y2, h1, h2⟩) x y j3 dn hdn hC
          · try (simp (disch := omega) only [Int32.lt_iff_toInt_lt, Int32.le_iff_toInt_le, ← Int32.toInt_inj, ne_eq, pd_t, dr_t, nI_t, z_t, m1_t, m2_t, m3_t, m4_t, m9_t] at c664)
            exact l_bo Y ht hF _ (fun M1 Y2 h1 h2 => ⟨rfl, Y2, h1, h2⟩) x y j3 dn hdn hC
        · try (simp (disch := omega) only [Int32.lt_iff_toInt_lt, Int32.le_iff_toInt_le, ← Int32.toInt_inj, ne_eq, pd_t, dr_t, nI_t, z_t, m1_t, m2_t, m3_t, m4_t, m9_t] at c358)
          exact l_tk Y ht hF _ (fun M1 Y2 h1 h2 => ⟨rfl, Y2, h1, h2⟩) x y j3 dn hdn hC
      · try (simp (disch := omega) only [Int32.lt_iff_toInt_lt, Int32.le_iff_toInt_le, ← Int32.toInt_inj, ne_eq, pd_t, dr_t, nI_t, z_t, m1_t, m2_t, m3_t, m4_t, m9_t] at c271)
        exact l_ta Y ht hF _ (fun M1 Y2 h1 h2 => ⟨rfl, Y2, h1, h2⟩) x y j3 dn hdn hC
    · try (simp (disch := omega) only [Int32.lt_iff_toInt_lt, Int32.le_iff_toInt_le, ← Int32.toInt_inj, ne_eq, pd_t, dr_t, nI_t, z_t, m1_t, m2_t, m3_t, m4_t, m9_t] at c33)
      exact l_em Y ht hF _ (fun M1 Y2 h1 h2 => ⟨rfl, Y2, h1, h2⟩) x y j3 dn hdn hC
  refine mx_aload_n (pc' := 15) dL_acts_14 rfl rfl ?_
  refine mx_bipush (pc' := 17) (v := nI 6) dL_acts_15 (by decide) rfl ?_
  refine mx_callV (pc' := 20) dL_acts_17 cl_L_13 (rfl) (t_c6 _ (Y) hC) rfl (by decide) rfl (Nat.le_of_ble_eq_true rfl) rfl (fun v N17 hv => ?_)
  obtain ⟨rfl, hC, -⟩ := hv
  refine mx_iconst (pc' := 21) (v := nI 1) dL_acts_20 (by decide) rfl ?_
  refine mx_icmp_ne (tgt := 28) (pc' := 24) dL_acts_21 (by decide) rfl (fun c21 => ?_) (fun c21 => ?_)
  · try (simp (disch := omega) only [Int32.lt_iff_toInt_lt, Int32.le_iff_toInt_le, ← Int32.toInt_inj, ne_eq, pd_t, dr_t, nI_t, z_t, m1_t, m2_t, m3_t, m4_t, m9_t] at c21)
    refine mx_iconst (pc' := 29) (v := nI 0) dL_acts_28 (by decide) rfl ?_
    refine mx_xistore (pc' := 31) (ls' := [_, _, _, _, _, _, _, _, _, _, _, _, _, _, _]) dL_acts_29 (by decide) rfl rfl rfl ?_
    exact k31 0 (by omega) hC
  · try (simp (disch := omega) only [Int32.lt_iff_toInt_lt, Int32.le_iff_toInt_le, ← Int32.toInt_inj, ne_eq, pd_t, dr_t, nI_t, z_t, m1_t, m2_t, m3_t, m4_t, m9_t] at c21)
    refine mx_iconst (pc' := 25) (v := nI 1) dL_acts_24 (by decide) rfl ?_
    refine mx_goto (pc' := 29) dL_acts_25 (by decide) ?_
    refine mx_xistore (pc' := 31) (ls' := [_, _, _, _, _, _, _, _, _, _, _, _, _, _, _]) dL_acts_29 (by decide) rfl rfl rfl ?_
    exact k31 1 (by omega) hC

