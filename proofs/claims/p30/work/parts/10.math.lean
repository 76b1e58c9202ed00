/-! numbers -/
theorem nI_t (n : Nat) (h : n < 2147483648) : (nI n).toInt = (n : Int) := nI_toInt h
theorem z_t : (0 : Int32).toInt = 0 := rfl
theorem m1_t : (-1 : Int32).toInt = -1 := rfl
def bI (P : Prop) [Decidable P] : Int32 := if P then nI 1 else nI 0
theorem bI_t {P : Prop} [Decidable P] (h : P) : nI 1 = bI P := by unfold bI; rw [if_pos h]
theorem bI_f {P : Prop} [Decidable P] (h : ¬ P) : nI 0 = bI P := by unfold bI; rw [if_neg h]
theorem bI_0 {P : Prop} [Decidable P] : bI P = 0 ↔ ¬ P := by
  unfold bI
  by_cases h : P
  · rw [if_pos h]; exact ⟨fun q => absurd q (by decide), fun q => absurd h q⟩
  · rw [if_neg h]; exact ⟨fun _ => h, fun _ => rfl⟩
theorem bI_n {P : Prop} [Decidable P] : bI P ≠ 0 ↔ P := by
  rw [ne_eq, bI_0, Decidable.not_not]
theorem bI_c {P Q : Prop} [Decidable P] [Decidable Q] (h : P ↔ Q) : bI P = bI Q := by
  unfold bI
  by_cases q : Q
  · rw [if_pos (h.mpr q), if_pos q]
  · rw [if_neg (fun z => q (h.mp z)), if_neg q]
theorem bI_nb (P : Prop) [Decidable P] : narrow .boolean (.int (bI P)) = .int (bI P) := by
  unfold bI; split <;> decide
theorem bI_vb (P : Prop) [Decidable P] : vp_nar .boolean (bI P) = bI P := by
  unfold bI; split <;> decide
theorem nI_vb {n : Nat} (h : n < 2) : vp_nar .boolean (nI n) = nI n := by
  rcases (show n = 0 ∨ n = 1 by omega) with rfl | rfl <;> decide
theorem nI_fb {n : Nat} (h : n < 2) : narrow .boolean (.int (nI n)) = .int (nI n) ∧ fits .boolean (.int (nI n)) = true := by
  rcases (show n = 0 ∨ n = 1 by omega) with rfl | rfl <;> decide
theorem nI_fi (x : Int32) : narrow .int (.int x) = .int x ∧ fits .int (.int x) = true := ⟨rfl, rfl⟩
/-- drifts and steps: 0, 1, 2 for -1, 0, 1 -/
def dr (d : Nat) : Int32 := nI d - nI 1
theorem dr_neg : ∀ d, d < 3 → -(dr d) = dr (2 - d) := by decide
theorem dr_add : ∀ c, c < 12 → ∀ d, d < 3 → 1 ≤ c + d → nI c + dr d = nI (c + d - 1) := by decide +kernel
theorem dr_in : ∀ c, c < 12 → ∀ d, d < 3 → ((0 ≤ nI c + dr d ∧ nI c + dr d < nI 10) ↔ (1 ≤ c + d ∧ c + d ≤ 10)) := by decide +kernel
theorem dr_1 (d : Nat) : nI 1 + dr d = nI d := by
  unfold dr
  rw [Int32.add_comm, Int32.sub_add_cancel]
theorem dr_of (d : Nat) : dr d + nI 1 = nI d := by
  unfold dr
  rw [Int32.sub_add_cancel]
/-- the distance -/
def adf (c p : Nat) : Nat := if p ≤ c then c - p else p - c
theorem adf_lt {c p n : Nat} (hc : c < n) (hp : p < n) : adf c p < n := by
  unfold adf; split <;> omega
theorem adf_abs : ∀ c, c < 12 → ∀ p, p < 12 → (if 0 ≤ nI c - nI p then nI c - nI p else 0 - (nI c - nI p)) = nI (adf c p) := by decide +kernel
/-! bullets: row, column, drift and 1, weaves, grazed -/
abbrev Bu : Type := Nat × Nat × Nat × Nat × Nat
def BuV (x : Bu) : Prop := x.1 < 12 ∧ x.2.1 < 10 ∧ x.2.2.1 < 3 ∧ x.2.2.2.1 < 2 ∧ x.2.2.2.2 < 2
def BuW (M : mx_M) (b j : Nat) (x : Bu) : Prop := M (b + 1) j = nI x.1 ∧ M (b + 2) j = nI x.2.1 ∧ M (b + 3) j = dr x.2.2.1 ∧ M (b + 4) j = nI x.2.2.2.1 ∧ M (b + 5) j = nI x.2.2.2.2
def BuP (M : mx_M) (b o : Nat) (L : List Bu) : Prop := ∀ (j : Nat) (x : Bu), L[j]? = some x → BuW M b (o + j) x
def BuL (L : List Bu) : Prop := L.length ≤ 60 ∧ ∀ x ∈ L, BuV x
def BuA (M : mx_M) (b : Nat) (L : List Bu) : Prop := M b 5 = nI L.length ∧ BuL L ∧ BuP M b 0 L
theorem BuW.fr {M M' : mx_M} {b j : Nat} {x : Bu} (h : BuW M b j x) (hf : ∀ q, b < q → q ≤ b + 5 → M' q j = M q j) : BuW M' b j x := by
  obtain ⟨h1, h2, h3, h4, h5⟩ := h
  exact ⟨(hf _ (by omega) (by omega)).trans h1, (hf _ (by omega) (by omega)).trans h2, (hf _ (by omega) (by omega)).trans h3, (hf _ (by omega) (by omega)).trans h4, (hf _ (by omega) (by omega)).trans h5⟩
theorem BuP.fr {M M' : mx_M} {b o : Nat} {L : List Bu} (h : BuP M b o L) (hf : ∀ q j, b < q → q ≤ b + 5 → o ≤ j → j < o + L.length → M' q j = M q j) : BuP M' b o L := by
  intro j x hj
  have hl := (List.getElem?_eq_some_iff.mp hj).1
  exact (h j x hj).fr (fun q h1 h2 => hf q _ h1 h2 (by omega) (by omega))
theorem BuP.nil {M : mx_M} {b o : Nat} : BuP M b o [] := fun j x h => by simp at h
theorem BuP.cons {M : mx_M} {b o : Nat} {x : Bu} {L : List Bu} : BuP M b o (x :: L) ↔ BuW M b o x ∧ BuP M b (o + 1) L := by
  constructor
  · intro h
    refine ⟨h 0 x rfl, fun j y hj => ?_⟩
    have := h (j + 1) y (by simpa using hj)
    rwa [show o + (j + 1) = o + 1 + j by omega] at this
  · rintro ⟨h1, h2⟩ j y hj
    cases j with
    | zero => cases hj; exact h1
    | succ j =>
      have := h2 j y (by simpa using hj)
      rwa [show o + 1 + j = o + (j + 1) by omega] at this
theorem BuP.app {M : mx_M} {b : Nat} {L L' : List Bu} : ∀ {o : Nat}, BuP M b o (L ++ L') ↔ BuP M b o L ∧ BuP M b (o + L.length) L' := by
  induction L with
  | nil => intro o; simp [BuP.nil]
  | cons x L ih =>
    intro o
    rw [List.cons_append, BuP.cons, BuP.cons, ih, and_assoc, List.length_cons, show o + 1 + L.length = o + (L.length + 1) by omega]
theorem BuP.snoc {M : mx_M} {b o : Nat} {L : List Bu} {x : Bu} (h1 : BuP M b o L) (h2 : BuW M b (o + L.length) x) : BuP M b o (L ++ [x]) := BuP.app.mpr ⟨h1, BuP.cons.mpr ⟨h2, BuP.nil⟩⟩
/-- nothing but the places from a to b (b not) has changed -/
def Out (M M' : mx_M) (a b : Nat) : Prop := ∀ q, (q < a ∨ b ≤ q) → M' q = M q
theorem Out.rf {M : mx_M} {a b : Nat} : Out M M a b := fun _ _ => rfl
theorem Out.tr {M M1 M2 : mx_M} {a b : Nat} (h1 : Out M M1 a b) (h2 : Out M1 M2 a b) : Out M M2 a b := fun q h => (h2 q h).trans (h1 q h)
theorem Out.wd {M M' : mx_M} {a b a' b' : Nat} (h : Out M M' a b) (h1 : a' ≤ a) (h2 : b ≤ b') : Out M M' a' b' := fun q hq => h q (by omega)
theorem Out.up {M M' : mx_M} {a b p i : Nat} {v : Int32} (h : Out M M' a b) (h1 : a ≤ p) (h2 : p < b) : Out M (mx_up M' p i v) a b := fun q hq => (mx_up_ne (by omega)).trans (h q hq)
/-- a bullet's fall; none: it leaves -/
def fallB (turn : Nat) (x : Bu) : Option Bu :=
  if 11 ≤ x.1 ∨ ((x.2.1 + x.2.2.1 < 1 ∨ 10 < x.2.1 + x.2.2.1) ∧ turn ≠ 1) then none
  else some (x.1 + 1, x.2.1 + (if x.2.1 + x.2.2.1 < 1 ∨ 10 < x.2.1 + x.2.2.1 then 2 - x.2.2.1 else x.2.2.1) - 1, (if x.2.2.2.1 = 1 then 2 - (if x.2.1 + x.2.2.1 < 1 ∨ 10 < x.2.1 + x.2.2.1 then 2 - x.2.2.1 else x.2.2.1) else (if x.2.1 + x.2.2.1 < 1 ∨ 10 < x.2.1 + x.2.2.1 then 2 - x.2.2.1 else x.2.2.1)), x.2.2.2.1, x.2.2.2.2)
theorem fallB_V {turn : Nat} {x y : Bu} (hx : BuV x) (h : fallB turn x = some y) : BuV y := by
  obtain ⟨r, c, d, w, g⟩ := x
  unfold fallB at h
  split at h
  · cases h
  · rename_i hn
    cases h
    obtain ⟨h1, h2, h3, h4, h5⟩ := hx
    dsimp only at h1 h2 h3 h4 h5 hn ⊢
    refine ⟨?_, ?_, ?_, h4, h5⟩
    · omega
    · dsimp only
      split <;> omega
    · dsimp only
      split <;> split <;> omega
/-- what a hit (reach 0) or a bomb takes away -/
def takenB (p reach : Nat) (x : Bu) : Bool := decide (11 ≤ x.1 + reach ∧ adf x.2.1 p ≤ reach)
/-- beside the sprite -/
def nearB (p : Nat) (x : Bu) : Bool := decide ((x.1 = 11 ∧ adf x.2.1 p = 1) ∨ (x.1 = 10 ∧ adf x.2.1 p ≤ 1))
def freshB (p : Nat) (x : Bu) : Bool := decide (x.2.2.2.2 = 0) && nearB p x
def grzB (p : Nat) (x : Bu) : Bu := if freshB p x then (x.1, x.2.1, x.2.2.1, x.2.2.2.1, 1) else x
def atB (r c : Nat) (x : Bu) : Bool := decide (x.1 = r ∧ x.2.1 = c)
theorem grzB_V {p : Nat} {x : Bu} (hx : BuV x) : BuV (grzB p x) := by
  unfold grzB
  split
  · exact ⟨hx.1, hx.2.1, hx.2.2.1, hx.2.2.2.1, Nat.le_refl 2⟩
  · exact hx
theorem bI_rt {P : Prop} [Decidable P] (h : P) : some (Value.int (nI 1)) = some (Value.int (bI P)) := by rw [bI_t h]
theorem bI_rf {P : Prop} [Decidable P] (h : ¬ P) : some (Value.int (nI 0)) = some (Value.int (bI P)) := by rw [bI_f h]
