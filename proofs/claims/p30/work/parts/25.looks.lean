theorem nan_1 : ∀ s, s < 301 → ∀ t, t < 31 → 1 ≤ t → (FP.ddiv (FP.i2d (nI s)) (FP.i2d (nI 10 * nI t))) &&& 0x7fffffffffffffff ≤ 0x7ff0000000000000 := by decide +kernel
theorem pop10_le (f : Nat) : pop10 f ≤ 10 := Nat.le_trans List.countP_le_length (by simp)
theorem sumG_le (g : Nat → Nat) : ∀ n, sumG g n ≤ 10 * n
  | 0 => Nat.le_refl 0
  | n + 1 => by
    have := sumG_le g n
    have := pop10_le (g (n + 1))
    show sumG g n + pop10 (g (n + 1)) ≤ _
    omega
def adj (x y : Nat) : Prop := x = y ∨ x + 1 = y ∨ y + 1 = x
theorem spr_tb (f x : Nat) : (spr f).testBit x = true ↔ ∃ y, adj x y ∧ f.testBit y = true := by
  have h2 : ∀ n, (2 * f).testBit (n + 1) = f.testBit n := by
    intro n
    rw [Nat.testBit_succ, Nat.mul_div_cancel_left f (by decide)]
  have h0 : (2 * f).testBit 0 = false := by
    rw [Nat.testBit_zero]
    exact decide_eq_false (by omega)
  unfold spr
  rw [Nat.testBit_or, Nat.testBit_or, Nat.testBit_div_two, Bool.or_eq_true, Bool.or_eq_true]
  constructor
  · rintro ((h | h) | h)
    · exact ⟨x, Or.inl rfl, h⟩
    · cases x with
      | zero => rw [h0] at h; cases h
      | succ n => rw [h2] at h; exact ⟨n, Or.inr (Or.inr rfl), h⟩
    · exact ⟨x + 1, Or.inr (Or.inl rfl), h⟩
  · rintro ⟨y, rfl | rfl | rfl, h⟩
    · exact Or.inl (Or.inl h)
    · exact Or.inr h
    · exact Or.inl (Or.inr ((h2 y).trans h))
def Meet (a b : Nat) : Prop := ∃ x, a.testBit x = true ∧ b.testBit x = true
theorem Meet.spr (a b : Nat) : Meet a (spr b) ↔ Meet (spr a) b := by
  constructor
  · rintro ⟨x, h1, h2⟩
    obtain ⟨y, h3, h4⟩ := (spr_tb b x).mp h2
    refine ⟨y, (spr_tb a y).mpr ⟨x, ?_, h1⟩, h4⟩
    unfold adj at h3 ⊢; omega
  · rintro ⟨x, h1, h2⟩
    obtain ⟨y, h3, h4⟩ := (spr_tb a x).mp h1
    refine ⟨y, h4, (spr_tb b y).mpr ⟨x, ?_, h2⟩⟩
    unfold adj at h3 ⊢; omega
theorem Meet.and (a b g : Nat) : Meet a (b &&& g) ↔ Meet (a &&& g) b := by
  unfold Meet
  simp only [Nat.testBit_and, Bool.and_eq_true]
  exact ⟨fun ⟨x, h1, h2, h3⟩ => ⟨x, ⟨h1, h3⟩, h2⟩, fun ⟨x, ⟨h1, h3⟩, h2⟩ => ⟨x, h1, h2, h3⟩⟩
theorem dual_k (g : Nat → Nat) (p T c : Nat) : ∀ k, k ≤ T → (Meet (rch g p (T - k)) (org g T c k) ↔ (rch g p T).testBit c = true)
  | 0, _ => by
    show Meet (rch g p T) (2 ^ c) ↔ _
    unfold Meet
    simp only [Nat.testBit_two_pow, decide_eq_true_eq]
    exact ⟨fun ⟨x, h1, h2⟩ => h2 ▸ h1, fun h => ⟨c, h, rfl⟩⟩
  | k + 1, hk => by
    rw [← dual_k g p T c k (by omega)]
    show Meet (rch g p (T - (k + 1))) (spr (org g T c k &&& g (T - k))) ↔ _
    rw [Meet.spr, Meet.and, show T - k = T - (k + 1) + 1 by omega]
    exact Iff.rfl
theorem dual (g : Nat → Nat) (p T c : Nat) : (org g T c T).testBit p = true ↔ (rch g p T).testBit c = true := by
  rw [← dual_k g p T c T (Nat.le_refl T), Nat.sub_self]
  show _ ↔ Meet (2 ^ p) _
  unfold Meet
  simp only [Nat.testBit_two_pow, decide_eq_true_eq]
  exact ⟨fun h => ⟨p, rfl, h⟩, fun ⟨x, h1, h2⟩ => h1 ▸ h2⟩
theorem endB_pop (g : Nat → Nat) (p T : Nat) : endB g p T 10 = pop10 (rch g p T) := by
  unfold endB pop10
  exact List.countP_congr fun c _ => dual g p T c
/-! the looks -/
def eD : Em := (0, 0, 0, 0)
def bD : Bu := (0, 0, 0, 0, 0)
def oEmitterOf (x y : Int32) (Y : Sy) : Int32 :=
  if 0 ≤ x ∧ x < nI Y.1.1.length then
    (if y = nI 0 then nI (Y.1.1.getD (tN x) eD).1 else if y = nI 1 then nI (Y.1.1.getD (tN x) eD).2.1 else if y = nI 2 then nI (Y.1.1.getD (tN x) eD).2.2.1 else if y = nI 3 then nI (Y.1.1.getD (tN x) eD).2.2.2 else if y = nI 4 then nI (wtF (Y.1.1.getD (tN x) eD).2.2.1 (Y.1.1.getD (tN x) eD).2.2.2 (Y.1.2.2.1 3)) else (-1))
  else (-1)
def oBullet (x y : Int32) (Y : Sy) : Int32 :=
  if 0 ≤ x ∧ x < nI Y.1.2.1.length then
    (if y = nI 0 then nI (Y.1.2.1.getD (tN x) bD).1 else if y = nI 1 then nI (Y.1.2.1.getD (tN x) bD).2.1 else if y = nI 2 then nI (Y.1.2.1.getD (tN x) bD).2.2.1 else if y = nI 3 then nI (Y.1.2.1.getD (tN x) bD).2.2.2.1 else if y = nI 4 then nI (Y.1.2.1.getD (tN x) bD).2.2.2.2 else (-1))
  else (-1)
def oAt (x y : Int32) (Y : Sy) : Int32 := if (0 ≤ x ∧ x ≤ nI 11) ∧ 0 ≤ y ∧ y < nI 10 then nI (Y.1.2.1.countP (atB (tN x) (tN y))) else (-1)
def cntV (Y : Sy) : Nat → Int32
  | 0 => nI Y.1.1.length
  | 1 => nI Y.1.2.1.length
  | 2 => nI (Y.1.2.2.1 0)
  | 3 => nI (Y.1.2.2.1 1)
  | 4 => nI (Y.1.2.2.1 2)
  | 5 => nI (Y.1.2.2.1 3)
  | 6 => nI (Y.1.2.2.1 4)
  | 7 => Y.1.2.2.2 0
  | 8 => Y.1.2.2.2 1
  | 9 => Y.1.2.2.2 2
  | 10 => Y.1.2.2.2 3
  | 11 => Y.1.2.2.2 4
  | 12 => Y.1.2.2.2 5
  | 13 => Y.1.2.2.2 6
  | 14 => Y.1.2.2.2 7
  | 15 => nI (Y.1.2.2.1 5)
  | 16 => nI (Y.1.2.2.1 6)
  | 17 => nI Y.2.2.2.length
  | _ => nI Y.2.1.length
def oCount (x : Int32) (Y : Sy) : Int32 := if 0 ≤ x ∧ x ≤ nI 18 then cntV Y (tN x) else (-1)
def oFree (x : Int32) (Y : Sy) : Int32 := if 0 ≤ x ∧ x ≤ nI 30 then nI (fFr Y.1 (tN x)) else (-1)
def oLane (x y : Int32) (Y : Sy) : Int32 :=
  if (0 ≤ x ∧ x ≤ nI 30) ∧ 0 ≤ y ∧ y ≤ nI 2 then (if y = 0 then nI (cntL (fFr Y.1 (tN x)) 10) else if y = nI 1 then nI (wdN (fFr Y.1 (tN x)) 10) else stW (fFr Y.1 (tN x))) else (-1)
def oEnds (x y : Int32) (Y : Sy) : Int32 := if (nI 1 ≤ x ∧ x ≤ nI 30) ∧ 0 ≤ y ∧ y ≤ nI 1 then nI (pop10 (rch (fFr Y.1) (Y.1.2.2.1 0) (tN x))) else (-1)
def oWay (x y : Int32) (Y : Sy) : Int32 := if (nI 1 ≤ x ∧ x ≤ nI 30) ∧ 0 ≤ y ∧ y ≤ x then (if calmI (fFr Y.1) (Y.1.2.2.1 0) (tN x) = (-4) then (-4) else nI (cway (fFr Y.1) (Y.1.2.2.1 0) (tN x) (tN y))) else (-1)
def oAsides (x : Int32) (Y : Sy) : Int32 := if nI 1 ≤ x ∧ x ≤ nI 30 then calmI (fFr Y.1) (Y.1.2.2.1 0) (tN x) else (-1)
def oFair (Y : Sy) : Int32 := nI (lwR (fFr Y.1) (Y.1.2.2.1 0) 30 1)
/-- the field without an emitter -/
def drE (e : Nat) (F : FS) : FS := (F.1.eraseIdx e, F.2.1, F.2.2.1, F.2.2.2)
def shS (F : FS) (T : Nat) (s : Nat × Nat) (e : Nat) : Nat × Nat := if s.2 < sumG (fFr (drE e F)) T + 1 then (e, sumG (fFr (drE e F)) T + 1) else s
def oShuts (x : Int32) (Y : Sy) : Int32 := if nI 1 ≤ x ∧ x ≤ nI 30 then (if Y.1.1.length = 0 then (-2) else nI ((List.range' 0 Y.1.1.length).foldl (shS Y.1 (tN x)) (0, 0)).1) else (-1)
def isR (k : Nat) : Nat → FS → Nat × FS
  | 0, F => (0, F)
  | n + 1, F => if F.2.2.1 4 = 0 then ((isR k n (fPass k F).2).1 + 1, (isR k n (fPass k F).2).2) else (0, F)
def oIfStepped (x y z : Int32) (Y : Sy) : Int32 :=
  if ((-1) ≤ x ∧ x ≤ nI 1) ∧ (nI 1 ≤ y ∧ y ≤ nI 30) ∧ 0 ≤ z ∧ z ≤ nI 2 then
    (if Y.1.2.2.1 4 = 0 then
      (if z = 0 then (isR (tN (x + nI 1)) (tN y) Y.1).2.2.2.2 7 - Y.1.2.2.2 7 else if z = nI 1 then (isR (tN (x + nI 1)) (tN y) Y.1).2.2.2.2 6 - Y.1.2.2.2 6 else if (isR (tN (x + nI 1)) (tN y) Y.1).2.2.2.1 4 = 0 then (-4) else nI (isR (tN (x + nI 1)) (tN y) Y.1).1)
    else (-2))
  else (-1)
def oOpenness (x : Int32) (Y : Sy) : UInt64 := if nI 1 ≤ x ∧ x ≤ nI 30 then FP.ddiv (FP.i2d (nI (sumG (fFr Y.1) (tN x)))) (FP.i2d (nI 10 * x)) else 13830554455654793216
theorem sw5 (y : Int32) : y = nI 0 ∨ y = nI 1 ∨ y = nI 2 ∨ y = nI 3 ∨ y = nI 4 ∨ (y.toInt < 0 ∨ 4 < y.toInt) := by
  by_cases h : 0 ≤ y.toInt ∧ y.toInt ≤ 4
  · obtain ⟨j, hj, rfl⟩ := nI_of (x := y) (fun z => by rw [Int32.lt_iff_toInt_lt] at z; have : (0 : Int32).toInt = 0 := rfl; omega)
    rw [nI_t j hj] at h
    rcases (show j = 0 ∨ j = 1 ∨ j = 2 ∨ j = 3 ∨ j = 4 by omega) with rfl | rfl | rfl | rfl | rfl
    · exact Or.inl rfl
    · exact Or.inr (Or.inl rfl)
    · exact Or.inr (Or.inr (Or.inl rfl))
    · exact Or.inr (Or.inr (Or.inr (Or.inl rfl)))
    · exact Or.inr (Or.inr (Or.inr (Or.inr (Or.inl rfl))))
  · exact Or.inr (Or.inr (Or.inr (Or.inr (Or.inr (by omega)))))
theorem sw_out {y : Int32} {n : Nat} (h : y.toInt < 0 ∨ (n : Int) < y.toInt) (hn : n < 1000) {j : Nat} (hj : j ≤ n) : y ≠ nI j := by
  rintro rfl
  rw [nI_t j (by omega)] at h
  omega
theorem sw19 (y : Int32) : (∃ j, j < 7 ∧ y = nI j) ∨ (∃ j, 7 ≤ j ∧ j < 15 ∧ y = nI j) ∨ (∃ j, 15 ≤ j ∧ j < 19 ∧ y = nI j) ∨ (y.toInt < 0 ∨ 18 < y.toInt) := by
  by_cases h : 0 ≤ y.toInt ∧ y.toInt ≤ 18
  · obtain ⟨j, hj, rfl⟩ := nI_of (x := y) (fun z => by rw [Int32.lt_iff_toInt_lt] at z; have : (0 : Int32).toInt = 0 := rfl; omega)
    rw [nI_t j hj] at h
    by_cases h1 : j < 7
    · exact Or.inl ⟨j, h1, rfl⟩
    · by_cases h2 : j < 15
      · exact Or.inr (Or.inl ⟨j, by omega, h2, rfl⟩)
      · exact Or.inr (Or.inr (Or.inl ⟨j, by omega, by omega, rfl⟩))
  · exact Or.inr (Or.inr (Or.inr (by omega)))
