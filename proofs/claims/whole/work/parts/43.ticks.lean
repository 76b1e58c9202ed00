/-! no more than n ticks in any field -/
def TB (n : Nat) (Y : Sy) : Prop := Y.1.2.2.1 3 ≤ n ∧ (∀ G ∈ Y.2.1, G.2.2.1 3 ≤ n) ∧ ∀ G, Y.2.2.1 = some G → G.2.2.1 3 ≤ n
theorem hPush_mem {F G : FS} {H : List FS} (h : G ∈ hPush F H) : G = F ∨ G ∈ H := by
  unfold hPush at h
  split at h
  · rcases List.mem_append.mp h with h | h
    · exact Or.inr (List.mem_of_mem_drop h)
    · exact Or.inl (List.mem_singleton.mp h)
  · rcases List.mem_append.mp h with h | h
    · exact Or.inr h
    · exact Or.inl (List.mem_singleton.mp h)
theorem TB.mono {n m : Nat} {Y : Sy} (h : TB n Y) (hm : n ≤ m) : TB m Y := ⟨Nat.le_trans h.1 hm, fun G hG => Nat.le_trans (h.2.1 G hG) hm, fun G hG => Nat.le_trans (h.2.2 G hG) hm⟩
theorem TB.push {n m : Nat} {Y : Sy} (h : TB n Y) (hm : n ≤ m) {F : FS} {L : List Nat} (hF : F.2.2.1 3 ≤ m) : TB m (F, hPush Y.1 Y.2.1, Y.2.2.1, L) :=
  ⟨hF, fun G hG => by
    rcases hPush_mem hG with rfl | hG
    · exact Nat.le_trans h.1 hm
    · exact Nat.le_trans (h.2.1 G hG) hm, fun G hG => Nat.le_trans (h.2.2 G hG) hm⟩
theorem TB.push2 {n m : Nat} {Y : Sy} (h : TB n Y) (hm : n ≤ m) {F G : FS} {L : List Nat} (hF : F.2.2.1 3 ≤ m) (hG : G.2.2.1 3 ≤ m) : TB m (F, hPush Y.1 Y.2.1, some G, L) :=
  ⟨hF, (h.push (L := L) hm hF).2.1, fun K hK => by cases hK; exact hG⟩
theorem tb_emitter {n : Nat} {Y : Sy} (h : TB n Y) (x1 x2 x3 x4 : Int32) : TB (n + 61) (oEmitter x1 x2 x3 x4 Y).2 := by
  unfold oEmitter
  split
  · split
    · exact h.mono (by omega)
    · exact h.push (by omega) (Nat.le_trans h.1 (by omega))
  · exact h.mono (by omega)
theorem tb_takeAway {n : Nat} {Y : Sy} (h : TB n Y) (x : Int32) : TB (n + 61) (oTakeAway x Y).2 := by
  unfold oTakeAway
  split
  · exact h.push (by omega) (Nat.le_trans h.1 (by omega))
  · exact h.mono (by omega)
theorem tb_tick {n : Nat} {Y : Sy} (h : TB n Y) (x : Int32) : TB (n + 61) (oTick x Y).2 := by
  unfold oTick
  split
  · split
    · exact h.push (by omega) (by rw [fPass_t]; have := h.1; omega)
    · exact h.mono (by omega)
  · exact h.mono (by omega)
theorem tb_bomb {n : Nat} {Y : Sy} (h : TB n Y) : TB (n + 61) (oBomb Y).2 := by
  unfold oBomb
  split
  · rename_i hb
    have e : plS 98 Y.1 = some (fBomb Y.1).2 := by
      unfold plS
      rw [if_pos rfl, if_pos hb]
    have := plS_t e
    have := h.1
    exact h.push (by omega) (by omega)
  · exact h.mono (by omega)
theorem tb_clearField {n : Nat} {Y : Sy} (h : TB n Y) : TB (n + 61) (oClearField Y).2 := by
  have e : (fSweep Y.1).2.2.2.1 3 = Y.1.2.2.1 3 := by
    unfold fSweep
    dsimp only
    simp [va_up]
  exact h.push (by omega) (by rw [e]; have := h.1; omega)
theorem tb_set {n : Nat} {Y : Sy} (h : TB n Y) (x y : Int32) : TB (n + 61) (oSet x y Y).2 := by
  unfold oSet
  split
  · refine h.push (by omega) ?_
    show va_up Y.1.2.2.1 (5 + tN x) (tN y) 3 ≤ _
    have := h.1
    unfold va_up
    rw [if_neg (by omega)]
    omega
  · exact h.mono (by omega)
theorem tb_append {n : Nat} {Y : Sy} (h : TB n Y) (x : Int32) : TB (n + 61) (oAppend x Y).2 := by
  have h := h.mono (show n ≤ n + 61 by omega)
  unfold oAppend
  split
  · split
    · exact h
    · exact ⟨h.1, h.2.1, h.2.2⟩
  · exact h
theorem tb_clear {n : Nat} {Y : Sy} (h : TB n Y) : TB (n + 61) (oClear Y).2 := by
  have h := h.mono (show n ≤ n + 61 by omega)
  exact ⟨h.1, h.2.1, h.2.2⟩
theorem tb_hang {n : Nat} {Y : Sy} (h : TB n Y) : TB (n + 61) (oHang Y).2 := by
  unfold oHang
  split
  · exact h.push (by omega) (Nat.le_trans h.1 (by omega))
  · exact h.mono (by omega)
theorem plR_t : ∀ (L : List Nat) (F : FS), (plR L F).2.2.2.1 3 ≤ F.2.2.1 3 + L.length
  | [], _ => Nat.le_refl _
  | c :: L, F => by
    unfold plR
    split
    · rename_i G hG
      have h1 := plS_t hG
      have h2 := plR_t L G
      show (plR L G).2.2.2.1 3 ≤ _
      rw [List.length_cons]; omega
    · exact Nat.le_add_right _ _
theorem tb_play {n : Nat} {Y : Sy} (h : TB n Y) (h60 : Y.2.2.2.length ≤ 60) : TB (n + 61) (oPlay Y).2 := by
  unfold oPlay
  split
  · have := plR_t Y.2.2.2 Y.1
    have := h.1
    exact h.push (by omega) (by omega)
  · exact h.mono (by omega)
theorem tb_undo {n : Nat} {Y : Sy} (h : TB n Y) : TB (n + 61) (oUndo Y).2 := by
  have h := h.mono (show n ≤ n + 61 by omega)
  unfold oUndo
  split
  · rename_i G hG
    exact ⟨h.2.1 G (List.mem_of_getLast? hG), fun K hK => h.2.1 K ((List.dropLast_sublist _).subset hK), h.2.2⟩
  · exact h
theorem tb_save {n : Nat} {Y : Sy} (h : TB n Y) : TB (n + 61) (oSave Y).2 := by
  have h := h.mono (show n ≤ n + 61 by omega)
  exact ⟨h.1, h.2.1, fun G hG => by cases hG; exact h.1⟩
theorem tb_restore {n : Nat} {Y : Sy} (h : TB n Y) : TB (n + 61) (oRestore Y).2 := by
  unfold oRestore
  split
  · rename_i G hG
    exact h.push2 (by omega) (Nat.le_trans (h.2.2 G hG) (by omega)) (Nat.le_trans (h.2.2 G hG) (by omega))
  · exact h.mono (by omega)
/-- a new object's state -/
def F0s : FS := ([], [], fun j => if j = 0 then 5 else if j = 1 then 3 else if j = 2 then 2 else if j = 6 then 2 else 0, fun _ => 0)
def Y0s : Sy := (F0s, [], none, [])
theorem F0s_V : FV F0s := by unfold FV F0s; decide
theorem tb_0 : TB 0 Y0s := ⟨Nat.le_refl 0, fun G h => absurd h List.not_mem_nil, fun G h => by cases h⟩
