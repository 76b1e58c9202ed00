/-! the calmest way in the model -/
def mcap (x : Nat) : Nat := if x < 1000 then x else 100
def zrow (g : Nat → Nat) (T t : Nat) : Nat → Nat := if t = 0 then faF (crow g T 1) else crow g T t
def stp2 (s : Nat × Nat) (n k : Nat) : Nat × Nat := if k < s.2 then (n, k) else s
theorem stp2_1 {c x a : Nat} (h : a < 2000) : stp2 (c, 2000) x a = (x, a) := if_pos h
theorem stp2_2 (i x j y : Nat) : (stp2 (i, x) j y).1 = if x ≤ y then i else j := by
  by_cases z : y < x
  · rw [show stp2 (i, x) j y = (j, y) from if_pos z, if_neg (show ¬ x ≤ y by omega)]
  · rw [show stp2 (i, x) j y = (i, x) from if_neg z, if_pos (show x ≤ y by omega)]
theorem stp2_3 (i x j y k w : Nat) : (stp2 (stp2 (i, x) j y) k w).1 = if x ≤ y ∧ x ≤ w then i else if y ≤ w then j else k := by
  by_cases z : y < x
  · rw [show stp2 (i, x) j y = (j, y) from if_pos z, if_neg (show ¬ (x ≤ y ∧ x ≤ w) by omega)]
    by_cases z2 : w < y
    · rw [show stp2 (j, y) k w = (k, w) from if_pos z2, if_neg (show ¬ y ≤ w by omega)]
    · rw [show stp2 (j, y) k w = (j, y) from if_neg z2, if_pos (show y ≤ w by omega)]
  · rw [show stp2 (i, x) j y = (i, x) from if_neg z]
    by_cases z2 : w < x
    · rw [show stp2 (i, x) k w = (k, w) from if_pos z2, if_neg (show ¬ (x ≤ y ∧ x ≤ w) by omega), if_neg (show ¬ y ≤ w by omega)]
    · rw [show stp2 (i, x) k w = (i, x) from if_neg z2, if_pos (show x ≤ y ∧ x ≤ w by omega)]
theorem cb_0 (R : Nat → Nat) (hR : ∀ n, R n ≤ 1000) : (cbN R 0 = if R 0 ≤ R 1 + 1 then 0 else 1) ∧ cst R 0 (cbN R 0) = min (R 0) (R 1 + 1) := by
  have h0 := hR 0
  have e : cbN R 0 = if R 0 ≤ R 1 + 1 then 0 else 1 := by
    show (stp2 (stp2 (0, 2000) 0 (R 0)) 1 (R 1 + 1)).1 = _
    rw [stp2_1 (by omega), stp2_2]
  refine ⟨e, ?_⟩
  rw [e]
  by_cases z : R 0 ≤ R 1 + 1
  · rw [if_pos z]; show R 0 + 0 = _; omega
  · rw [if_neg z]; show R 1 + 1 = _; omega
theorem cb_9 (R : Nat → Nat) (hR : ∀ n, R n ≤ 1000) : (cbN R 9 = if R 8 + 1 ≤ R 9 then 8 else 9) ∧ cst R 9 (cbN R 9) = min (R 9) (R 8 + 1) := by
  have h0 := hR 8
  have e : cbN R 9 = if R 8 + 1 ≤ R 9 then 8 else 9 := by
    show (stp2 (stp2 (9, 2000) 8 (R 8 + 1)) 9 (R 9)).1 = _
    rw [stp2_1 (by omega), stp2_2]
  refine ⟨e, ?_⟩
  rw [e]
  by_cases z : R 8 + 1 ≤ R 9
  · rw [if_pos z]; show R 8 + 1 = _; omega
  · rw [if_neg z]; show R 9 + 0 = _; omega
theorem cb_m (R : Nat → Nat) (hR : ∀ n, R n ≤ 1000) (n : Nat) (hn : n < 8) : (cbN R (n + 1) = if R n + 1 ≤ R (n + 1) ∧ R n + 1 ≤ R (n + 2) + 1 then n else if R (n + 1) ≤ R (n + 2) + 1 then n + 1 else n + 2) ∧ cst R (n + 1) (cbN R (n + 1)) = min (R (n + 1)) (min (R n + 1) (R (n + 2) + 1)) := by
  have h0 := hR n
  have q1 : cst R (n + 1) n = R n + 1 := by unfold cst; rw [if_neg (by omega)]
  have q2 : cst R (n + 1) (n + 1) = R (n + 1) := by unfold cst; rw [if_pos rfl]; rfl
  have q3 : cst R (n + 1) (n + 2) = R (n + 2) + 1 := by unfold cst; rw [if_neg (by omega)]
  have e : cbN R (n + 1) = if R n + 1 ≤ R (n + 1) ∧ R n + 1 ≤ R (n + 2) + 1 then n else if R (n + 1) ≤ R (n + 2) + 1 then n + 1 else n + 2 := by
    unfold cbN
    rw [show min (n + 1 + 1) 9 + 1 - (n + 1 - 1) = 3 by omega, show n + 1 - 1 = n by omega]
    show (stp2 (stp2 (stp2 (n + 1, 2000) n (cst R (n + 1) n)) (n + 1) (cst R (n + 1) (n + 1))) (n + 2) (cst R (n + 1) (n + 2))).1 = _
    rw [q1, q2, q3, stp2_1 (by omega), stp2_3]
  refine ⟨e, ?_⟩
  rw [e]
  by_cases z : R n + 1 ≤ R (n + 1) ∧ R n + 1 ≤ R (n + 2) + 1
  · rw [if_pos z, q1]; omega
  · rw [if_neg z]
    by_cases z2 : R (n + 1) ≤ R (n + 2) + 1
    · rw [if_pos z2, q2]; omega
    · rw [if_neg z2, q3]; omega
/-- the neighbours' costs, as the model reads them -/
def nbL (R : Nat → Nat) (c : Nat) : Nat := if 1 ≤ c then mcap (R (c - 1)) else 100
def nbR (R : Nat → Nat) (c : Nat) : Nat := if c ≤ 8 then mcap (R (c + 1)) else 100
theorem mc {x B : Nat} (hB : B ≤ 40) (h : x = 1000 ∨ x ≤ B) : (x = 1000 ∧ mcap x = 100) ∨ (x ≤ B ∧ mcap x = x) := by
  rcases h with h | h
  · exact Or.inl ⟨h, if_neg (by omega)⟩
  · exact Or.inr ⟨h, if_pos (by omega)⟩
theorem fa_m {R : Nat → Nat} {B : Nat} (hB : B ≤ 30) (hR' : ∀ n, R n ≤ 1000) (hR : ∀ n, n < 10 → R n = 1000 ∨ R n ≤ B) {c : Nat} (hc : c < 10) : mcap (faF R c) = (if 99 < min (mcap (R c)) (min (1 + nbL R c) (1 + nbR R c)) then 100 else min (mcap (R c)) (min (1 + nbL R c) (1 + nbR R c))) ∧ (faF R c = 1000 ∨ faF R c ≤ B + 1) := by
  have hm : ∀ x, mcap (min 1000 x) = if min 1000 x < 1000 then min 1000 x else 100 := fun _ => rfl
  rcases (show c = 0 ∨ c = 9 ∨ ∃ n, n < 8 ∧ c = n + 1 from by
    rcases Nat.eq_zero_or_pos c with h | h
    · exact Or.inl h
    · by_cases h9 : c = 9
      · exact Or.inr (Or.inl h9)
      · exact Or.inr (Or.inr ⟨c - 1, by omega, by omega⟩)) with rfl | rfl | ⟨n, hn, rfl⟩
  · unfold faF
    rw [(cb_0 R hR').2, hm, show nbL R 0 = 100 from rfl, show nbR R 0 = mcap (R 1) from rfl]
    have a := mc (by omega) (hR 0 (by decide)); have b := mc (by omega) (hR 1 (by decide))
    refine ⟨?_, by omega⟩
    split <;> split <;> omega
  · unfold faF
    rw [(cb_9 R hR').2, hm, show nbL R 9 = mcap (R 8) from rfl, show nbR R 9 = 100 from rfl]
    have a := mc (by omega) (hR 9 (by decide)); have b := mc (by omega) (hR 8 (by decide))
    refine ⟨?_, by omega⟩
    split <;> split <;> omega
  · unfold faF
    rw [(cb_m R hR' n hn).2, hm, show nbL R (n + 1) = mcap (R n) from if_pos (by omega), show nbR R (n + 1) = mcap (R (n + 2)) from if_pos (by omega)]
    have a := mc (by omega) (hR n (by omega)); have b := mc (by omega) (hR (n + 1) (by omega)); have d := mc (by omega) (hR (n + 2) (by omega))
    refine ⟨?_, by omega⟩
    split <;> split <;> omega
theorem arow_b (g : Nat → Nat) (T : Nat) : ∀ k, k ≤ 30 → ∀ c, c < 10 → arow g T k c = 1000 ∨ arow g T k c ≤ k
  | 0, _, c, _ => by
    unfold arow
    split
    · exact Or.inr (Nat.le_refl 0)
    · exact Or.inl rfl
  | k + 1, hk, c, hc => by
    unfold arow
    split
    · exact (fa_m (B := k) (by omega) (arow_le g T k) (fun n hn => arow_b g T k (by omega) n hn) hc).2
    · exact Or.inl rfl
/-- what the model lays at (t, c), of the least of the three -/
def mval (g : Nat → Nat) (t c m : Nat) : Nat := if (0 < t ∧ ¬ (g t).testBit c = true) ∨ 99 < m then 100 else m
theorem mval_T {g : Nat → Nat} {T c : Nat} (hT : 1 ≤ T) : mval g T c 0 = mcap (zrow g T T c) := by
  unfold zrow
  rw [if_neg (by omega)]
  unfold crow mval
  rw [Nat.sub_self]
  unfold arow
  by_cases h : (g T).testBit c = true
  · rw [if_pos h, if_neg (fun z => by rcases z with z | z; exact z.2 h; omega)]; rfl
  · rw [if_neg h, if_pos (Or.inl ⟨hT, h⟩)]; rfl
theorem zrow_b {g : Nat → Nat} {T t c : Nat} (hT1 : 1 ≤ T) (hT : T ≤ 30) (ht : t ≤ T) (hc : c < 10) : zrow g T t c = 1000 ∨ zrow g T t c ≤ 30 := by
  unfold zrow
  split
  · have := (fa_m (R := crow g T 1) (B := T - 1) (by omega) (fun n => arow_le g T _ n) (fun n hn => arow_b g T _ (by omega) n hn) hc).2
    omega
  · have := arow_b g T (T - t) (by omega) c hc
    unfold crow
    omega
theorem zrow_le (g : Nat → Nat) (T t c : Nat) : zrow g T t c ≤ 1000 := by
  unfold zrow
  split
  · exact faF_le _ _
  · exact arow_le _ _ _ _
theorem crow_z {g : Nat → Nat} {T t c : Nat} (ht : t < T) : crow g T t c = if (g t).testBit c = true then faF (crow g T (t + 1)) c else 1000 := by
  unfold crow
  rw [show T - t = (T - (t + 1)) + 1 by omega]
  show (if (g (T - ((T - (t + 1)) + 1))).testBit c = true then _ else _) = _
  rw [show T - ((T - (t + 1)) + 1) = t by omega]
theorem zrow_f {g : Nat → Nat} {T t c : Nat} (ht : t < T) : zrow g T t c = if 0 < t ∧ ¬ (g t).testBit c = true then 1000 else faF (zrow g T (t + 1)) c := by
  have e1 : zrow g T (t + 1) = crow g T (t + 1) := if_neg (by omega)
  rw [e1]
  unfold zrow
  by_cases h0 : t = 0
  · subst h0
    rw [if_pos rfl, if_neg (fun z => absurd z.1 (by omega))]
  · rw [if_neg h0, crow_z ht]
    by_cases h : (g t).testBit c = true
    · rw [if_pos h, if_neg (fun z => z.2 h)]
    · rw [if_neg h, if_pos ⟨by omega, h⟩]
theorem mval_s {g : Nat → Nat} {T t c : Nat} (hT : T ≤ 30) (ht : t < T) (hc : c < 10) : mval g t c (min (mcap (zrow g T (t + 1) c)) (min (1 + nbL (zrow g T (t + 1)) c) (1 + nbR (zrow g T (t + 1)) c))) = mcap (zrow g T t c) := by
  have h := (fa_m (R := zrow g T (t + 1)) (B := 30) (by omega) (zrow_le g T _) (fun n hn => zrow_b (by omega) hT ht hn) hc).1
  rw [zrow_f ht]
  unfold mval
  by_cases h1 : 0 < t ∧ ¬ (g t).testBit c = true
  · rw [if_pos (Or.inl h1), if_pos h1]; rfl
  · rw [if_neg h1, h]
    by_cases h2 : 99 < min (mcap (zrow g T (t + 1) c)) (min (1 + nbL (zrow g T (t + 1)) c) (1 + nbR (zrow g T (t + 1)) c))
    · rw [if_pos (Or.inr h2), if_pos h2]
    · rw [if_neg h2, if_neg (fun z => z.elim h1 h2)]
/-- the model's choice of the next column -/
theorem cb_w {R : Nat → Nat} {B : Nat} (hB : B ≤ 30) (hR' : ∀ n, R n ≤ 1000) (hR : ∀ n, n < 10 → R n = 1000 ∨ R n ≤ B) {c : Nat} (hc : c < 10) (hf : faF R c < 1000) :
    (nbL R c + 1 = faF R c → 1 ≤ c ∧ cbN R c = c - 1) ∧ (nbL R c + 1 ≠ faF R c → mcap (R c) = faF R c → cbN R c = c) ∧ (nbL R c + 1 ≠ faF R c → mcap (R c) ≠ faF R c → cbN R c = c + 1) ∧ R (cbN R c) < 1000 := by
  rcases (show c = 0 ∨ c = 9 ∨ ∃ n, n < 8 ∧ c = n + 1 from by
    rcases Nat.eq_zero_or_pos c with h | h
    · exact Or.inl h
    · by_cases h9 : c = 9
      · exact Or.inr (Or.inl h9)
      · exact Or.inr (Or.inr ⟨c - 1, by omega, by omega⟩)) with rfl | rfl | ⟨n, hn, rfl⟩
  · have a := mc (by omega) (hR 0 (by decide)); have b := mc (by omega) (hR 1 (by decide))
    obtain ⟨e1, e2⟩ := cb_0 R hR'
    unfold faF at hf ⊢
    rw [e2] at hf ⊢
    rw [show nbL R 0 = 100 from rfl, e1]
    by_cases z : R 0 ≤ R 1 + 1
    · rw [if_pos z]; refine ⟨?_, ?_, ?_, ?_⟩ <;> omega
    · rw [if_neg z]; refine ⟨?_, ?_, ?_, ?_⟩ <;> omega
  · have a := mc (by omega) (hR 9 (by decide)); have b := mc (by omega) (hR 8 (by decide))
    obtain ⟨e1, e2⟩ := cb_9 R hR'
    unfold faF at hf ⊢
    rw [e2] at hf ⊢
    rw [show nbL R 9 = mcap (R 8) from rfl, e1]
    by_cases z : R 8 + 1 ≤ R 9
    · rw [if_pos z]; refine ⟨?_, ?_, ?_, ?_⟩ <;> omega
    · rw [if_neg z]; refine ⟨?_, ?_, ?_, ?_⟩ <;> omega
  · have a := mc (by omega) (hR n (by omega)); have b := mc (by omega) (hR (n + 1) (by omega)); have d := mc (by omega) (hR (n + 2) (by omega))
    obtain ⟨e1, e2⟩ := cb_m R hR' n hn
    unfold faF at hf ⊢
    rw [e2] at hf ⊢
    rw [show nbL R (n + 1) = mcap (R n) from if_pos (by omega), e1]
    by_cases z : R n + 1 ≤ R (n + 1) ∧ R n + 1 ≤ R (n + 2) + 1
    · rw [if_pos z]; refine ⟨?_, ?_, ?_, ?_⟩ <;> omega
    · rw [if_neg z]
      by_cases z2 : R (n + 1) ≤ R (n + 2) + 1
      · rw [if_pos z2]; refine ⟨?_, ?_, ?_, ?_⟩ <;> omega
      · rw [if_neg z2]; refine ⟨?_, ?_, ?_, ?_⟩ <;> omega

