/-! WHAT HOLDS OF EVERY FIELD THAT THE CALLS MAKE: FI; FJ s: without the sprite's cell, s hits in reserve -/
def Bal (B : List Bu) (ac : Nat → Int32) : Prop := ac 0 = nI B.length + ac 2 + ac 3 + ac 4 + ac 5
def FJ (s : Nat) (F : FS) : Prop := (EmL F.1 ∧ BuL F.2.1 ∧ FV F) ∧ F.2.1.Pairwise (fun a b => b.1 ≤ a.1) ∧ (∀ x ∈ F.2.1, x.2.2.2.2 = 0 ∨ 10 ≤ x.1) ∧ (F.2.2.1 4 = 0 ∨ F.2.2.1 1 = 0) ∧ Bal F.2.1 F.2.2.2 ∧ ∃ a b, F.2.2.2 7 = nI a ∧ F.2.2.2 3 = nI b ∧ a ≤ b ∧ b + s ≤ 60 * F.2.2.1 3
def FI (F : FS) : Prop := FJ 0 F ∧ ∀ x ∈ F.2.1, x.1 = 11 → x.2.1 ≠ F.2.2.1 0
theorem Bal.add {B : List Bu} {ac : Nat → Int32} (h : Bal B ac) (x : Bu) : Bal (B ++ [x]) (upd ac 0 (ac 0 + nI 1)) := by
  unfold Bal at h ⊢
  rw [pk_us, pk_un (by decide), pk_un (by decide), pk_un (by decide), pk_un (by decide), List.length_append, List.length_singleton, ← nI_add, h]
  ac_rfl
theorem Bal.up {B : List Bu} {ac : Nat → Int32} (h : Bal B ac) {j : Nat} (hj : j = 1 ∨ 6 ≤ j) (v : Int32) : Bal B (upd ac j v) := by
  unfold Bal at h ⊢
  rw [pk_un (by omega), pk_un (by omega), pk_un (by omega), pk_un (by omega), pk_un (by omega)]
  exact h
theorem Bal.cut {B C : List Bu} {ac : Nat → Int32} (h : Bal B ac) (hl : C.length ≤ B.length) {j : Nat} (hj : 2 ≤ j ∧ j ≤ 5) : Bal C (upd ac j (ac j + nI (B.length - C.length))) := by
  have e : nI B.length = nI C.length + nI (B.length - C.length) := by rw [nI_add]; congr 1; omega
  unfold Bal at h ⊢
  rw [pk_un (show 0 ≠ j by omega), h, e]
  have : j = 2 ∨ j = 3 ∨ j = 4 ∨ j = 5 := by omega
  generalize nI (B.length - C.length) = z
  rcases this with rfl | rfl | rfl | rfl
  · rw [pk_us, pk_un (by decide), pk_un (by decide), pk_un (by decide)]; ac_rfl
  · rw [pk_us, pk_un (by decide), pk_un (by decide), pk_un (by decide)]; ac_rfl
  · rw [pk_us, pk_un (by decide), pk_un (by decide), pk_un (by decide)]; ac_rfl
  · rw [pk_us, pk_un (by decide), pk_un (by decide), pk_un (by decide)]; ac_rfl
theorem Bal.len {B C : List Bu} {ac : Nat → Int32} (h : Bal B ac) (hl : C.length = B.length) : Bal C ac := by
  unfold Bal at h ⊢
  rw [hl]; exact h
theorem FJ.move {F : FS} (h : FJ 0 F) (k : Nat) : FJ 0 (fMove k F) := by
  obtain ⟨⟨e, b, v⟩, h1, h2, h3, h4, h5⟩ := h
  have v' := v.move k
  unfold fMove at v' ⊢
  split at v'
  · rename_i z
    rw [if_pos z]
    exact ⟨⟨e, b, v'⟩, h1, h2, h3, h4, h5⟩
  · rename_i z
    rw [if_neg z]
    exact ⟨⟨e, b, v⟩, h1, h2, h3, h4, h5⟩
theorem FJ.tick {F : FS} (h : FJ 0 F) : FJ 60 (fTick F) := by
  obtain ⟨⟨e, b, v⟩, h1, h2, h3, h4, a, c, h5, h6, h7, h8⟩ := h
  refine ⟨⟨e, b, v⟩, h1, h2, h3, h4, a, c, h5, h6, h7, ?_⟩
  show c + 60 ≤ 60 * (F.2.2.1 3 + 1)
  omega
theorem fallB_row {t : Nat} {x y : Bu} (h : fallB t x = some y) : y.1 = x.1 + 1 ∧ y.2.2.2.2 = x.2.2.2.2 := by
  unfold fallB at h
  split at h
  · cases h
  · cases h
    exact ⟨rfl, rfl⟩
theorem FJ.falls {s : Nat} {F : FS} (h : FJ s F) : FJ s (fFalls F) := by
  obtain ⟨⟨e, b, v⟩, h1, h2, h3, h4, h5⟩ := h
  have hl := List.length_filterMap_le (fallB (F.2.2.1 5)) F.2.1
  refine ⟨⟨e, ⟨Nat.le_trans hl b.1, fun y hy => ?_⟩, v⟩, ?_, fun y hy => ?_, h3, ?_, ?_⟩
  · obtain ⟨x, hx, hxy⟩ := List.mem_filterMap.mp hy
    exact fallB_V (b.2 x hx) hxy
  · refine List.pairwise_filterMap.mpr (h1.imp ?_)
    intro x x' hxx y hy y' hy'
    have e1 := (fallB_row hy).1
    have e2 := (fallB_row hy').1
    omega
  · obtain ⟨x, hx, hxy⟩ := List.mem_filterMap.mp hy
    have e1 := fallB_row hxy
    have e2 := h2 x hx
    omega
  · exact h4.cut hl (by omega)
  · exact h5
theorem FJ.shoot {s : Nat} {F : FS} (h : FJ s F) {c d w : Nat} (hc : c < 10) (hd : d < 3) (hw : w < 2) : FJ s (fShoot c d w F) := by
  obtain ⟨⟨e, b, v⟩, h1, h2, h3, h4, h5⟩ := h
  unfold fShoot
  split
  · rename_i z
    refine ⟨⟨e, ⟨?_, fun y hy => ?_⟩, v⟩, ?_, fun y hy => ?_, h3, ?_, h5⟩
    · rw [List.length_append]; exact z
    · rcases List.mem_append.mp hy with hy | hy
      · exact b.2 y hy
      · rw [List.mem_singleton.mp hy]
        exact ⟨by show 0 < 12; omega, hc, hd, hw, by show 0 < 2; omega⟩
    · refine List.pairwise_append.mpr ⟨h1, List.pairwise_singleton _ _, fun a ha y hy => ?_⟩
      rw [List.mem_singleton.mp hy]
      exact Nat.zero_le _
    · rcases List.mem_append.mp hy with hy | hy
      · exact h2 y hy
      · rw [List.mem_singleton.mp hy]
        exact Or.inl rfl
    · exact h4.add _
  · exact ⟨⟨e, b, v⟩, h1, h2, h3, h4.up (Or.inl rfl) _, h5⟩
theorem FJ.fire {s : Nat} {F : FS} (h : FJ s F) {c p : Nat} (hc : c < 10) : FJ s (fFire c p F) := by
  unfold fFire
  split
  · exact h.shoot hc (by omega) (by omega)
  · exact h.shoot hc (by omega) (by omega)
  · exact h.shoot hc (by omega) (by omega)
  · exact h.shoot hc (by omega) (by omega)
  · exact h.shoot hc (by split; omega; split <;> omega) (by omega)
  · exact ((h.shoot hc (by omega) (by omega)).shoot hc (by omega) (by omega)).shoot hc (by omega) (by omega)
theorem FJ.fold {s : Nat} (L : List Em) (hL : ∀ x ∈ L, EmV x) : ∀ {F : FS}, FJ s F → FJ s (L.foldl fStep1 F) := by
  induction L with
  | nil => exact fun h => h
  | cons x L ih =>
    intro F h
    refine ih (fun y hy => hL y (List.mem_cons_of_mem _ hy)) ?_
    unfold fStep1
    split
    · exact h.fire (hL x List.mem_cons_self).1
    · exact h
theorem FJ.adv {F : FS} (h : FJ 0 F) : FJ 60 (fAdv F) := FJ.fold _ h.1.1.2 h.tick.falls
theorem FJ.hits {F : FS} (h : FJ 60 F) : FI (fHits F).2 := by
  have v' := h.1.2.2.hits
  obtain ⟨⟨e, b, v⟩, h1, h2, h3, h4, p, q, h5, h6, h7, h8⟩ := h
  have hl : (fHitB F).length ≤ F.2.1.length := List.length_filter_le _ _
  have hb : BuL (fHitB F) := ⟨Nat.le_trans hl b.1, fun y hy => b.2 y (List.mem_filter.mp hy).1⟩
  have hs : (fHitB F).Pairwise (fun a b => b.1 ≤ a.1) := h1.sublist List.filter_sublist
  have hg : ∀ x ∈ fHitB F, x.2.2.2.2 = 0 ∨ 10 ≤ x.1 := fun y hy => h2 y (List.mem_filter.mp hy).1
  have hc : ∀ x ∈ fHitB F, x.1 = 11 → x.2.1 ≠ F.2.2.1 0 := by
    intro x hx h11 he
    have := (List.mem_filter.mp hx).2
    simp [takenB, h11, he, adf] at this
  have hb60 := b.1
  unfold fHits at v' ⊢
  by_cases z : F.2.1.length - (fHitB F).length = 0
  · rw [if_pos z] at v' ⊢
    refine ⟨⟨⟨e, hb, v'⟩, hs, hg, h3, ?_, p, q, h5, h6, h7, Nat.le_trans (Nat.le_add_right q 60) h8⟩, hc⟩
    exact h4.len (show (fHitB F).length = F.2.1.length by omega)
  · rw [if_neg z] at v' ⊢
    have q1 : F.2.2.2 3 + nI (F.2.1.length - (fHitB F).length) = nI (q + (F.2.1.length - (fHitB F).length)) := by rw [h6, nI_add]
    have q2 : F.2.2.2 7 + nI 1 = nI (p + 1) := by rw [h5, nI_add]
    by_cases z1 : F.2.2.1 1 = 0
    · rw [if_pos z1] at v' ⊢
      exact ⟨⟨⟨e, hb, v'⟩, hs, hg, Or.inr z1, ((h4.cut hl (j := 3) (by omega)).up (Or.inr (by omega)) _), p + 1, q + (F.2.1.length - (fHitB F).length), q2, q1, by omega, by show _ ≤ 60 * F.2.2.1 3; omega⟩, hc⟩
    · rw [if_neg z1] at v' ⊢
      exact ⟨⟨⟨e, hb, v'⟩, hs, hg, Or.inl (h3.resolve_right z1), ((h4.cut hl (j := 3) (by omega)).up (Or.inr (by omega)) _), p + 1, q + (F.2.1.length - (fHitB F).length), q2, q1, by omega, by show _ ≤ 60 * F.2.2.1 3; omega⟩, hc⟩
theorem grzB_rc (p : Nat) (x : Bu) : (grzB p x).1 = x.1 ∧ (grzB p x).2.1 = x.2.1 := by
  unfold grzB
  split <;> exact ⟨rfl, rfl⟩
theorem FI.graze {F : FS} (h : FI F) : FI (fGraze F) := by
  obtain ⟨⟨⟨e, b, v⟩, h1, h2, h3, h4, h5⟩, hc⟩ := h
  refine ⟨⟨⟨e, ⟨by show (F.2.1.map _).length ≤ 60; rw [List.length_map]; exact b.1, fun y hy => ?_⟩, v⟩, ?_, fun y hy => ?_, h3, ?_, h5⟩, fun y hy h11 => ?_⟩
  · obtain ⟨x, hx, rfl⟩ := List.mem_map.mp hy
    exact grzB_V (b.2 x hx)
  · refine List.pairwise_map.mpr (h1.imp ?_)
    intro x y hxy
    rw [(grzB_rc _ x).1, (grzB_rc _ y).1]
    exact hxy
  · obtain ⟨x, hx, rfl⟩ := List.mem_map.mp hy
    rw [(grzB_rc _ x).1]
    unfold grzB
    split
    · rename_i z
      unfold freshB nearB at z
      simp only [Bool.and_eq_true, decide_eq_true_eq] at z
      omega
    · exact h2 x hx
  · exact h4.len (List.length_map _)
  · obtain ⟨x, hx, rfl⟩ := List.mem_map.mp hy
    rw [(grzB_rc _ x).1] at h11
    rw [(grzB_rc _ x).2]
    exact hc x hx h11
theorem FI.pass {F : FS} (h : FI F) (k : Nat) : FI (fPass k F).2 := by
  have h1 := (h.1.move k).adv.hits
  unfold fPass
  show FI (if _ then _ else _)
  split
  · exact h1.graze
  · exact h1
theorem FI.bomb {F : FS} (h : FI F) : FI (fBomb F).2 := by
  have v' := h.1.1.2.2.bomb
  obtain ⟨⟨⟨e, b, v⟩, h1, h2, h3, h4, h5⟩, hc⟩ := h
  have hl : (fBombB F).length ≤ F.2.1.length := List.length_filter_le _ _
  refine ⟨⟨⟨e, ⟨Nat.le_trans hl b.1, fun y hy => b.2 y (List.mem_filter.mp hy).1⟩, v'⟩, h1.sublist List.filter_sublist, fun y hy => h2 y (List.mem_filter.mp hy).1, h3, ?_, h5⟩, fun y hy => hc y (List.mem_filter.mp hy).1⟩
  exact h4.cut hl (by omega)
theorem FI.sweep {F : FS} (h : FI F) : FI (fSweep F).2 := by
  have v' := h.1.1.2.2.sweep
  obtain ⟨⟨⟨e, b, v⟩, h1, h2, h3, h4, h5⟩, hc⟩ := h
  refine ⟨⟨⟨e, ⟨Nat.zero_le _, fun y hy => absurd hy List.not_mem_nil⟩, v'⟩, List.Pairwise.nil, fun y hy => absurd hy List.not_mem_nil, Or.inl rfl, ?_, h5⟩, fun y hy => absurd hy List.not_mem_nil⟩
  exact h4.cut (C := []) (Nat.zero_le _) (j := 5) (by omega)
/-- other emitters, other settings -/
theorem FI.em {F : FS} (h : FI F) {E : List Em} (hE : EmL E) : FI (E, F.2.1, F.2.2.1, F.2.2.2) := ⟨⟨⟨hE, h.1.1.2⟩, h.1.2⟩, h.2⟩
theorem FI.set {F : FS} (h : FI F) {j n : Nat} (hj : j = 5 ∨ j = 6) (hv : FV (F.1, F.2.1, va_up F.2.2.1 j n, F.2.2.2)) : FI (F.1, F.2.1, va_up F.2.2.1 j n, F.2.2.2) := by
  obtain ⟨⟨⟨e, b, v⟩, h1, h2, h3, h4, h5⟩, hc⟩ := h
  rcases hj with rfl | rfl
  · exact ⟨⟨⟨e, b, hv⟩, h1, h2, h3, h4, h5⟩, hc⟩
  · exact ⟨⟨⟨e, b, hv⟩, h1, h2, h3, h4, h5⟩, hc⟩
/-! what a tick brings -/
theorem i32_as (a b : Int32) : a + b - a = b := by
  rw [Int32.sub_eq_add_neg, Int32.add_comm a b, Int32.add_assoc, Int32.add_right_neg, Int32.add_zero]
theorem hits_cases (F : FS) : ((fHits F).1 = 0 ∧ (fHits F).2.2.2.1 = F.2.2.1 ∧ (fHits F).2.2.2.2 7 = F.2.2.2 7) ∨ ((fHits F).1 = 1 ∧ F.2.2.1 1 ≠ 0 ∧ (fHits F).2.2.2.1 = va_up F.2.2.1 1 (F.2.2.1 1 - 1) ∧ (fHits F).2.2.2.2 7 = F.2.2.2 7 + nI 1) ∨ ((fHits F).1 = 2 ∧ F.2.2.1 1 = 0 ∧ (fHits F).2.2.2.1 = va_up F.2.2.1 4 1 ∧ (fHits F).2.2.2.2 7 = F.2.2.2 7 + nI 1) := by
  unfold fHits
  by_cases z : F.2.1.length - (fHitB F).length = 0
  · rw [if_pos z]; exact Or.inl ⟨rfl, rfl, rfl⟩
  · rw [if_neg z]
    by_cases z1 : F.2.2.1 1 = 0
    · rw [if_pos z1]; exact Or.inr (Or.inr ⟨rfl, z1, rfl, rfl⟩)
    · rw [if_neg z1]; exact Or.inr (Or.inl ⟨rfl, z1, rfl, rfl⟩)
theorem hits_6 (F : FS) : (fHits F).2.2.2.2 6 = F.2.2.2 6 := by
  unfold fHits
  split
  · rfl
  · split <;> rfl
theorem shoot_67 (c d w : Nat) (F : FS) : (fShoot c d w F).2.2.2 6 = F.2.2.2 6 ∧ (fShoot c d w F).2.2.2 7 = F.2.2.2 7 := by
  unfold fShoot
  split <;> exact ⟨rfl, rfl⟩
theorem fire_67 (c p : Nat) (F : FS) : (fFire c p F).2.2.2 6 = F.2.2.2 6 ∧ (fFire c p F).2.2.2 7 = F.2.2.2 7 := by
  unfold fFire
  split
  · exact shoot_67 _ _ _ _
  · exact shoot_67 _ _ _ _
  · exact shoot_67 _ _ _ _
  · exact shoot_67 _ _ _ _
  · exact shoot_67 _ _ _ _
  · refine ⟨(shoot_67 _ _ _ _).1.trans ((shoot_67 _ _ _ _).1.trans (shoot_67 _ _ _ _).1), (shoot_67 _ _ _ _).2.trans ((shoot_67 _ _ _ _).2.trans (shoot_67 _ _ _ _).2)⟩
theorem fold_67 (L : List Em) : ∀ F : FS, (L.foldl fStep1 F).2.2.2 6 = F.2.2.2 6 ∧ (L.foldl fStep1 F).2.2.2 7 = F.2.2.2 7 := by
  induction L with
  | nil => exact fun F => ⟨rfl, rfl⟩
  | cons x L ih =>
    intro F
    have h := ih (fStep1 F x)
    have h2 : (fStep1 F x).2.2.2 6 = F.2.2.2 6 ∧ (fStep1 F x).2.2.2 7 = F.2.2.2 7 := by
      unfold fStep1
      split
      · exact fire_67 _ _ _
      · exact ⟨rfl, rfl⟩
    exact ⟨h.1.trans h2.1, h.2.trans h2.2⟩
theorem adv_67 (F : FS) : (fAdv F).2.2.2 6 = F.2.2.2 6 ∧ (fAdv F).2.2.2 7 = F.2.2.2 7 := fold_67 _ _
theorem move_sc (k : Nat) (F : FS) : (∀ j, 1 ≤ j → (fMove k F).2.2.1 j = F.2.2.1 j) ∧ (fMove k F).2.2.2 = F.2.2.2 ∧ (fMove k F).2.2.1 0 = (if 1 ≤ F.2.2.1 0 + k ∧ F.2.2.1 0 + k ≤ 10 then F.2.2.1 0 + k - 1 else F.2.2.1 0) := by
  unfold fMove
  split
  · refine ⟨fun j hj => ?_, rfl, rfl⟩
    show (if j = 0 then _ else _) = _
    rw [if_neg (by omega)]
  · exact ⟨fun j hj => rfl, rfl, rfl⟩
/-- the small numbers and the two accounts behind a tick -/
theorem pass_sc (k : Nat) (F : FS) :
    (fPass k F).2.2.2.1 3 = F.2.2.1 3 + 1 ∧ (fPass k F).2.2.2.1 2 = F.2.2.1 2 ∧ (fPass k F).2.2.2.1 0 = (if 1 ≤ F.2.2.1 0 + k ∧ F.2.2.1 0 + k ≤ 10 then F.2.2.1 0 + k - 1 else F.2.2.1 0) ∧
    (((fPass k F).1 = 0 ∧ (fPass k F).2.2.2.1 1 = F.2.2.1 1 ∧ (fPass k F).2.2.2.1 4 = F.2.2.1 4 ∧ (fPass k F).2.2.2.2 7 = F.2.2.2 7) ∨
     ((fPass k F).1 = 1 ∧ F.2.2.1 1 ≠ 0 ∧ (fPass k F).2.2.2.1 1 = F.2.2.1 1 - 1 ∧ (fPass k F).2.2.2.1 4 = F.2.2.1 4 ∧ (fPass k F).2.2.2.2 7 = F.2.2.2 7 + nI 1) ∨
     ((fPass k F).1 = 2 ∧ F.2.2.1 1 = 0 ∧ (fPass k F).2.2.2.1 1 = 0 ∧ (fPass k F).2.2.2.1 4 = 1 ∧ (fPass k F).2.2.2.2 7 = F.2.2.2 7 + nI 1)) := by
  have hm := move_sc k F
  have ha := (fAdv_1 (fMove k F)).2
  have ha7 := (adv_67 (fMove k F)).2
  have hc := hits_cases (fAdv (fMove k F))
  have e7 : (fAdv (fMove k F)).2.2.2 7 = F.2.2.2 7 := by rw [ha7, hm.2.1]
  have eg : (fPass k F).2.2.2.1 = (fHits (fAdv (fMove k F))).2.2.2.1 ∧ (fPass k F).2.2.2.2 7 = (fHits (fAdv (fMove k F))).2.2.2.2 7 := by
    unfold fPass
    show (if _ then _ else _ : FS).2.2.1 = _ ∧ (if _ then _ else _ : FS).2.2.2 7 = _
    split <;> exact ⟨rfl, rfl⟩
  have e1 : (fPass k F).1 = (fHits (fAdv (fMove k F))).1 := rfl
  have s0 : (fAdv (fMove k F)).2.2.1 0 = (fMove k F).2.2.1 0 := by rw [ha]; rfl
  have s1 : (fAdv (fMove k F)).2.2.1 1 = F.2.2.1 1 := by rw [ha]; exact hm.1 1 (by omega)
  have s2 : (fAdv (fMove k F)).2.2.1 2 = F.2.2.1 2 := by rw [ha]; exact hm.1 2 (by omega)
  have s3 : (fAdv (fMove k F)).2.2.1 3 = F.2.2.1 3 + 1 := by rw [ha, ← hm.1 3 (by omega)]; rfl
  have s4 : (fAdv (fMove k F)).2.2.1 4 = F.2.2.1 4 := by rw [ha]; exact hm.1 4 (by omega)
  rw [eg.1, eg.2, e1]
  rcases hc with ⟨c1, c2, c3⟩ | ⟨c1, c2, c3, c4⟩ | ⟨c1, c2, c3, c4⟩
  · rw [c2, c3, e7]
    exact ⟨s3, s2, s0.trans hm.2.2, Or.inl ⟨c1, s1, s4, rfl⟩⟩
  · rw [c3, c4, e7]
    exact ⟨s3, s2, s0.trans hm.2.2, Or.inr (Or.inl ⟨c1, fun z => c2 (s1.trans z), congrArg (· - 1) s1, s4, rfl⟩)⟩
  · rw [c3, c4, e7]
    exact ⟨s3, s2, s0.trans hm.2.2, Or.inr (Or.inr ⟨c1, s1.symm.trans c2, c2, rfl, rfl⟩)⟩
/-- grazes in a tick: at most 60 -/
theorem pass_6 (k : Nat) {F : FS} (h : FI F) : ∃ n, n ≤ 60 ∧ (fPass k F).2.2.2.2 6 = F.2.2.2 6 + nI n := by
  have hm := move_sc k F
  have e6 : (fHits (fAdv (fMove k F))).2.2.2.2 6 = F.2.2.2 6 := by rw [hits_6, (adv_67 _).1, hm.2.1]
  have hb := (h.1.move k).adv.hits.1.1.2.1.1
  have ep : (fPass k F).2 = if (fHits (fAdv (fMove k F))).2.2.2.1 4 = 0 then fGraze (fHits (fAdv (fMove k F))).2 else (fHits (fAdv (fMove k F))).2 := rfl
  rw [ep]
  split
  · refine ⟨(fHits (fAdv (fMove k F))).2.2.1.countP (freshB ((fHits (fAdv (fMove k F))).2.2.2.1 0)), Nat.le_trans List.countP_le_length hb, ?_⟩
    show (fHits (fAdv (fMove k F))).2.2.2.2 6 + _ = _
    rw [e6]
  · exact ⟨0, by omega, by rw [e6, show nI 0 = 0 from rfl, Int32.add_zero]⟩
/-! what steps would bring -/
theorem isR_sc (k : Nat) : ∀ (n : Nat) {F : FS}, FI F → F.2.2.1 4 = 0 → (isR k n F).1 ≤ n ∧ ((isR k n F).2.2.2.1 4 ≠ 0 → F.2.2.1 1 < (isR k n F).1) ∧ (∃ m, m ≤ n ∧ (isR k n F).2.2.2.2 7 = F.2.2.2 7 + nI m) ∧ ∃ m, m ≤ 60 * n ∧ (isR k n F).2.2.2.2 6 = F.2.2.2 6 + nI m
  | 0, F, _, h0 => ⟨Nat.le_refl 0, fun z => absurd h0 z, ⟨0, Nat.le_refl 0, (Int32.add_zero _).symm⟩, ⟨0, Nat.zero_le _, (Int32.add_zero _).symm⟩⟩
  | n + 1, F, hF, h0 => by
    have e : isR k (n + 1) F = ((isR k n (fPass k F).2).1 + 1, (isR k n (fPass k F).2).2) := if_pos h0
    rw [e]
    obtain ⟨-, -, -, hc⟩ := pass_sc k F
    obtain ⟨m6, hm6, e6⟩ := pass_6 k hF
    have h7 : ∃ m, m ≤ 1 ∧ (fPass k F).2.2.2.2 7 = F.2.2.2 7 + nI m := by
      rcases hc with ⟨-, -, -, c⟩ | ⟨-, -, -, -, c⟩ | ⟨-, -, -, -, c⟩
      · exact ⟨0, by omega, c.trans (Int32.add_zero _).symm⟩
      · exact ⟨1, by omega, c⟩
      · exact ⟨1, by omega, c⟩
    obtain ⟨m7, hm7, e7⟩ := h7
    by_cases hd : (fPass k F).2.2.2.1 4 = 0
    · obtain ⟨i1, i2, ⟨j7, i3, i4⟩, j6, i5, i6⟩ := isR_sc k n (hF.pass k) hd
      refine ⟨Nat.succ_le_succ i1, fun z => ?_, ⟨m7 + j7, by omega, ?_⟩, m6 + j6, by omega, ?_⟩
      · have := i2 z
        show _ < (isR k n (fPass k F).2).1 + 1
        rcases hc with ⟨-, c, -, -⟩ | ⟨-, -, c, -, -⟩ | ⟨-, c, -, -, -⟩ <;> omega
      · show (isR k n (fPass k F).2).2.2.2.2 7 = _
        rw [i4, e7, Int32.add_assoc, nI_add]
      · show (isR k n (fPass k F).2).2.2.2.2 6 = _
        rw [i6, e6, Int32.add_assoc, nI_add]
    · have ez : isR k n (fPass k F).2 = (0, (fPass k F).2) := by
        cases n with
        | zero => rfl
        | succ n => exact if_neg hd
      rw [ez]
      refine ⟨by show 0 + 1 ≤ _; omega, fun _ => ?_, ⟨m7, by omega, e7⟩, m6, by omega, e6⟩
      show _ < 0 + 1
      rcases hc with ⟨-, -, c, -⟩ | ⟨-, -, -, c, -⟩ | ⟨-, c, -, -, -⟩ <;> omega
/-! what the pad's steps bring -/
theorem plS_sc {c : Nat} {F G : FS} (hF : FI F) (h : plS c F = some G) : FI G ∧ ((G.2.2.1 3 = F.2.2.1 3 + 1 ∧ G.2.2.1 2 = F.2.2.1 2) ∨ (G.2.2.1 3 = F.2.2.1 3 ∧ G.2.2.1 2 + 1 = F.2.2.1 2)) := by
  unfold plS at h
  split at h
  · split at h
    · rename_i z
      cases h
      refine ⟨hF.bomb, Or.inr ⟨rfl, ?_⟩⟩
      show F.2.2.1 2 - 1 + 1 = _
      omega
    · cases h
  · split at h
    · cases h
      exact ⟨hF.pass _, Or.inl ⟨(pass_sc _ F).1, (pass_sc _ F).2.1⟩⟩
    · cases h
theorem plS_no {c : Nat} {F : FS} (h : plS c F = none) : F.2.2.1 4 ≠ 0 ∨ F.2.2.1 2 = 0 := by
  unfold plS at h
  split at h
  · split at h
    · cases h
    · omega
  · split at h
    · cases h
    · exact Or.inl ‹_›
theorem plR_sc : ∀ (L : List Nat) {F : FS}, FI F → FI (plR L F).2 ∧ (plR L F).1 ≤ L.length ∧ ((plR L F).1 = L.length ∨ (plR L F).2.2.2.1 4 ≠ 0 ∨ (plR L F).2.2.2.1 2 = 0) ∧ ∃ a b, (plR L F).2.2.2.1 3 = F.2.2.1 3 + a ∧ (plR L F).2.2.2.1 2 + b = F.2.2.1 2 ∧ (plR L F).1 = a + b
  | [], F, hF => ⟨hF, Nat.le_refl 0, Or.inl rfl, 0, 0, rfl, rfl, rfl⟩
  | c :: L, F, hF => by
    unfold plR
    cases hz : plS c F with
    | none => exact ⟨hF, Nat.zero_le _, Or.inr (plS_no hz), 0, 0, rfl, rfl, rfl⟩
    | some G =>
      obtain ⟨hG, hc⟩ := plS_sc hF hz
      obtain ⟨i1, i2, i3, a, b, i4, i5, i6⟩ := plR_sc L hG
      refine ⟨i1, Nat.succ_le_succ i2, ?_, ?_⟩
      · rcases i3 with i3 | i3
        · exact Or.inl (congrArg (· + 1) i3)
        · exact Or.inr i3
      · rcases hc with ⟨c1, c2⟩ | ⟨c1, c2⟩
        · exact ⟨a + 1, b, by show (plR L G).2.2.2.1 3 = _; omega, by show (plR L G).2.2.2.1 2 + b = _; omega, by show (plR L G).1 + 1 = _; omega⟩
        · exact ⟨a, b + 1, by show (plR L G).2.2.2.1 3 = _; omega, by show (plR L G).2.2.2.1 2 + (b + 1) = _; omega, by show (plR L G).1 + 1 = _; omega⟩
