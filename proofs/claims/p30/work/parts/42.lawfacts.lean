/-! what holds of the system between the law's steps -/
def LI (t : Nat) (S : FS) (Y : Sy) : Prop := FI Y.1 ∧ Y.1.2.2.1 3 ≤ t ∧ (∀ F ∈ Y.2.1, FI F ∧ F.2.2.1 3 ≤ t) ∧ Y.2.2.1 = some S ∧ FI S ∧ S.2.2.1 3 ≤ t
theorem LI.up {t t' : Nat} {S : FS} {Y : Sy} (h : LI t S Y) (ht : t ≤ t') : LI t' S Y :=
  ⟨h.1, Nat.le_trans h.2.1 ht, fun F hF => ⟨(h.2.2.1 F hF).1, Nat.le_trans (h.2.2.1 F hF).2 ht⟩, h.2.2.2.1, h.2.2.2.2.1, Nat.le_trans h.2.2.2.2.2 ht⟩
theorem mem_hPush {F G : FS} {H : List FS} (h : G ∈ hPush F H) : G ∈ H ∨ G = F := by
  unfold hPush at h
  rcases List.mem_append.mp h with h | h
  · split at h
    · exact Or.inl (List.mem_of_mem_drop h)
    · exact Or.inl h
  · exact Or.inr (List.mem_singleton.mp h)
theorem LI.tr {t : Nat} {S : FS} {Y Y' : Sy} (h : LI t S Y) (hT : Tr Y Y') : LI (t + 60) S Y' := by
  obtain ⟨h1, h2, h3, h4, h5, h6⟩ := h
  obtain ⟨hs, hT⟩ := hT
  rcases hT with ⟨e1, e2⟩ | ⟨e1, e2, e3⟩
  · refine ⟨by rw [e1]; exact h1, by rw [e1]; omega, fun F hF => ?_, hs.trans h4, h5, by omega⟩
    rw [e2] at hF
    exact ⟨(h3 F hF).1, by have := (h3 F hF).2; omega⟩
  · refine ⟨e1, by omega, fun F hF => ?_, hs.trans h4, h5, by omega⟩
    rw [e3] at hF
    rcases mem_hPush hF with hF | rfl
    · exact ⟨(h3 F hF).1, by have := (h3 F hF).2; omega⟩
    · exact ⟨h1, by omega⟩
/-- the history without what was put last -/
def hBase (H : List FS) : List FS := if H.length = 4 then H.drop 1 else H
theorem mem_hBase {G : FS} {H : List FS} (h : G ∈ hBase H) : G ∈ H := by
  unfold hBase at h
  split at h
  · exact List.mem_of_mem_drop h
  · exact h
theorem undo_push (F G : FS) (H : List FS) (S : Option FS) (P : List Nat) : oUndo (F, hPush G H, S, P) = (nI (hBase H).length, (G, hBase H, S, P)) := by
  unfold oUndo
  have e : hPush G H = hBase H ++ [G] := rfl
  show (match (hPush G H).getLast? with
  | some K => (nI (hPush G H).dropLast.length, ((K, (hPush G H).dropLast, S, P) : Sy))
  | none => ((-2), (F, hPush G H, S, P))) = _
  rw [e, List.getLast?_append]
  simp
theorem t_undoP (M : mx_M) (Y : Sy) (hC : CoA M Y) {G : FS} {H : List FS} (hH : Y.2.1 = hPush G H) : mx_T yX7_undo cX7_undo 1 (some .int) 5 [.ref 0] M (fun v M' => v = some (.int (nI (hBase H).length)) ∧ CoA M' (G, hBase H, Y.2.2.1, Y.2.2.2) ∧ Mo M M') := by
  have e : oUndo Y = (nI (hBase H).length, (G, hBase H, Y.2.2.1, Y.2.2.2)) := by
    have e2 : Y = (Y.1, hPush G H, Y.2.2.1, Y.2.2.2) := by rw [← hH]
    rw [e2]
    exact undo_push _ _ _ _ _
  have h := t_X7_undo M Y hC
  rw [e] at h
  exact h
theorem t_undo0 (M : mx_M) (Y : Sy) (hC : CoA M Y) (hH : Y.2.1 = []) : mx_T yX7_undo cX7_undo 1 (some .int) 5 [.ref 0] M (fun v M' => v = some (.int (-2)) ∧ CoA M' Y ∧ Mo M M') := by
  have e : oUndo Y = ((-2), Y) := by
    unfold oUndo
    rw [hH]
    rfl
  have h := t_X7_undo M Y hC
  rw [e] at h
  exact h
theorem t_undo1 (M : mx_M) (Y : Sy) (hC : CoA M Y) (hH : Y.2.1.length ≠ 0) : mx_T yX7_undo cX7_undo 1 (some .int) 5 [.ref 0] M (fun v M' => v = some (.int (nI (Y.2.1.length - 1))) ∧ ∃ G ∈ Y.2.1, CoA M' (G, Y.2.1.dropLast, Y.2.2.1, Y.2.2.2)) := by
  have hne : Y.2.1 ≠ [] := fun z => hH (by rw [z]; rfl)
  have e : oUndo Y = (nI (Y.2.1.length - 1), (Y.2.1.getLast hne, Y.2.1.dropLast, Y.2.2.1, Y.2.2.2)) := by
    unfold oUndo
    rw [List.getLast?_eq_some_getLast hne, List.length_dropLast]
  have h := t_X7_undo M Y hC
  rw [e] at h
  exact h.post fun v M' q => ⟨q.1, _, List.getLast_mem hne, q.2.1⟩
theorem t_rest0 (M : mx_M) (Y : Sy) (hC : CoA M Y) (hS : Y.2.2.1 = none) : mx_T yX7_restore cX7_restore 1 (some .int) 5 [.ref 0] M (fun v M' => v = some (.int (-2)) ∧ CoA M' Y ∧ Mo M M') := by
  have e : oRestore Y = ((-2), Y) := by
    unfold oRestore
    rw [hS]
  have h := t_X7_restore M Y hC
  rw [e] at h
  exact h
theorem t_rest1 (M : mx_M) (Y : Sy) (hC : CoA M Y) {S : FS} (hS : Y.2.2.1 = some S) : mx_T yX7_restore cX7_restore 1 (some .int) 5 [.ref 0] M (fun v M' => v = some (.int (nI (S.2.2.1 3))) ∧ CoA M' (S, hPush Y.1 Y.2.1, some S, Y.2.2.2) ∧ Mo M M') := by
  have e : oRestore Y = (nI (S.2.2.1 3), (S, hPush Y.1 Y.2.1, some S, Y.2.2.2)) := by
    unfold oRestore
    rw [hS]
  have h := t_X7_restore M Y hC
  rw [e] at h
  exact h
theorem t_sav (M : mx_M) (Y : Sy) (hC : CoA M Y) : mx_T yX7_save cX7_save 1 (some .int) 4 [.ref 0] M (fun v M' => v = some (.int (nI (Y.1.2.2.1 3))) ∧ CoA M' (Y.1, Y.2.1, some Y.1, Y.2.2.2) ∧ Mo M M') := t_X7_save M Y hC
/-- what an act shows in the history's length -/
theorem tr_now {Y Y' : Sy} (h4 : Y.2.1.length ≤ 4) (hT : Tr Y Y') : (Y'.2.1.length = Y.2.1.length ∧ (Y.2.1.length = 4 ∨ Y'.1 = Y.1)) ∨ (Y'.2.1.length = Y.2.1.length + 1 ∧ Y.2.1.length ≠ 4 ∧ Y'.2.1 = hPush Y.1 Y.2.1) := by
  obtain ⟨-, hT⟩ := hT
  rcases hT with ⟨e1, e2⟩ | ⟨-, -, e3⟩
  · exact Or.inl ⟨by rw [e2], Or.inr e1⟩
  · have hl := hPush_len Y.1 h4
    rw [← e3] at hl
    by_cases z : Y.2.1.length = 4
    · rw [if_neg (by omega)] at hl
      exact Or.inl ⟨by omega, Or.inl z⟩
    · rw [if_pos (by omega)] at hl
      exact Or.inr ⟨hl, z, e3⟩
