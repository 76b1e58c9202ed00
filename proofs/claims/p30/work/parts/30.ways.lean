/-! LANES AND WAYS: what the law wants of the looks' answers -/
def popN (f i : Nat) : Nat := (List.range i).countP (fun c => f.testBit c)
theorem popN_s (f i : Nat) : popN f (i + 1) = popN f i + (f.testBit i).toNat := by
  unfold popN
  rw [List.range_succ, List.countP_append, List.countP_singleton]
  cases f.testBit i <;> rfl
theorem popN_le (f i : Nat) : popN f i ≤ i := by
  have := List.countP_le_length (p := fun c => f.testBit c) (l := List.range i)
  rw [List.length_range] at this
  exact this
theorem wd_pop : ∀ f, f < 1024 → wdN f 10 ≤ pop10 f ∧ (wdN f 10 = 0 ↔ f = 0) := by decide +kernel
theorem pop_0 : ∀ f, f < 1024 → (pop10 f = 0 ↔ f = 0) := by decide +kernel
theorem pop_and (a g : Nat) : pop10 (a &&& g) ≤ pop10 g := by
  unfold pop10
  refine List.countP_mono_left (fun c _ h => ?_)
  rw [Nat.testBit_and, Bool.and_eq_true] at h
  exact h.2
theorem rch_pop (g : Nat → Nat) (p t : Nat) (h : 1 ≤ t) : pop10 (rch g p t) ≤ pop10 (g t) := by
  obtain ⟨n, rfl⟩ : ∃ n, t = n + 1 := ⟨t - 1, by omega⟩
  exact pop_and _ _
theorem opn_1 : ∀ s, s < 301 → ∀ t, t < 31 → 1 ≤ t → s ≤ 10 * t → Op.cmpValue (FP.dcmp (FP.ddiv (FP.i2d (nI s)) (FP.i2d (nI 10 * nI t))) FP.dconst0) .l ≥ 0 ∧ Op.cmpValue (FP.dcmp (FP.ddiv (FP.i2d (nI s)) (FP.i2d (nI 10 * nI t))) FP.dconst1) .g ≤ 0 := by decide +kernel
theorem spr_0 : spr 0 = 0 := rfl
theorem rch_0 {g : Nat → Nat} {p : Nat} : ∀ {t : Nat} (k : Nat), rch g p t = 0 → rch g p (t + k) = 0
  | _, 0, h => h
  | t, k + 1, h => by
    show spr (rch g p (t + k)) &&& g (t + k + 1) = 0
    rw [rch_0 k h, spr_0, Nat.zero_and]
/-- the longest way: up to its end there is a way, behind it none -/
theorem lwR_le (g : Nat → Nat) (p : Nat) : ∀ (n t : Nat), 1 ≤ t → t + n = 31 → lwR g p n t ≤ 30
  | 0, _, _, _ => Nat.le_refl 30
  | n + 1, t, h1, h => by
    unfold lwR
    split
    · omega
    · exact lwR_le g p n (t + 1) (by omega) (by omega)
theorem lwR_iff (g : Nat → Nat) (p : Nat) : ∀ (n t : Nat), 1 ≤ t → t + n = 31 → (∀ u, u < t → rch g p u ≠ 0) → ∀ T, T ≤ 30 → (rch g p T ≠ 0 ↔ T ≤ lwR g p n t)
  | 0, t, h1, h, hb, T, hT => ⟨fun _ => hT, fun _ => hb T (by omega)⟩
  | n + 1, t, h1, h, hb, T, hT => by
    unfold lwR
    split
    · rename_i z
      refine ⟨fun hz => ?_, fun hz => hb T (by omega)⟩
      by_cases hTt : T < t
      · omega
      · exact absurd (by rw [show T = t + (T - t) by omega]; exact rch_0 _ z) hz
    · rename_i z
      refine lwR_iff g p n (t + 1) (by omega) (by omega) (fun u hu => ?_) T hT
      by_cases hut : u < t
      · exact hb u hut
      · rw [show u = t by omega]; exact z
theorem p2_ne (p : Nat) : (2 : Nat) ^ p ≠ 0 := Nat.ne_of_gt (Nat.pow_pos (by omega))
theorem fair_iff {g : Nat → Nat} {p : Nat} (hp : p < 10) (hg : ∀ t, g t < 1024) {T : Nat} (hT : T ≤ 30) : 0 < pop10 (rch g p T) ↔ T ≤ lwR g p 30 1 := by
  rw [← lwR_iff g p 30 1 (by omega) (by omega) (fun u hu => by rw [show u = 0 by omega]; exact p2_ne p) T hT]
  have := pop_0 _ (rch_lt hp hg T)
  omega
/-! the calmest way -/
def stp2 (s : Nat × Nat) (n k : Nat) : Nat × Nat := if k < s.2 then (n, k) else s
theorem stp2_1 {c x a : Nat} (h : a < 2000) : stp2 (c, 2000) x a = (x, a) := if_pos h
theorem stp2_2 (i x j y : Nat) : (stp2 (i, x) j y).1 = if x ≤ y then i else j := by
  by_cases z : y < x
  · rw [show stp2 (i, x) j y = (j, y) from if_pos z, if_neg (show ¬ x ≤ y by omega)]
  · rw [show stp2 (i, x) j y = (i, x) from if_neg z, if_pos (show x ≤ y by omega)]
theorem stp2_3 (i x j y k w : Nat) : (stp2 (stp2 (i, x) j y) k w).1 = if x ≤ y ∧ x ≤ w then i else if y ≤ w then j else k := by
  by_cases z : y < x
  · rw [show stp2 (i, x) j y = (j, y) from if_pos z, if_neg (show ¬ (x ≤ y ∧ x ≤ w) by omega)]
    by_cases z2 : w < y
    · rw [show stp2 (j, y) k w = (k, w) from if_pos z2, if_neg (show ¬ y ≤ w by omega)]
    · rw [show stp2 (j, y) k w = (j, y) from if_neg z2, if_pos (show y ≤ w by omega)]
  · rw [show stp2 (i, x) j y = (i, x) from if_neg z]
    by_cases z2 : w < x
    · rw [show stp2 (i, x) k w = (k, w) from if_pos z2, if_neg (show ¬ (x ≤ y ∧ x ≤ w) by omega), if_neg (show ¬ y ≤ w by omega)]
    · rw [show stp2 (i, x) k w = (i, x) from if_neg z2, if_pos (show x ≤ y ∧ x ≤ w by omega)]
theorem cb_0 (R : Nat → Nat) (hR : ∀ n, R n ≤ 1000) : (cbN R 0 = if R 0 ≤ R 1 + 1 then 0 else 1) ∧ cst R 0 (cbN R 0) = min (R 0) (R 1 + 1) := by
  have h0 := hR 0
  have e : cbN R 0 = if R 0 ≤ R 1 + 1 then 0 else 1 := by
    show (stp2 (stp2 (0, 2000) 0 (R 0)) 1 (R 1 + 1)).1 = _
    rw [stp2_1 (by omega), stp2_2]
  refine ⟨e, ?_⟩
  rw [e]
  by_cases z : R 0 ≤ R 1 + 1
  · rw [if_pos z]; show R 0 + 0 = _; omega
  · rw [if_neg z]; show R 1 + 1 = _; omega
theorem cb_9 (R : Nat → Nat) (hR : ∀ n, R n ≤ 1000) : (cbN R 9 = if R 8 + 1 ≤ R 9 then 8 else 9) ∧ cst R 9 (cbN R 9) = min (R 9) (R 8 + 1) := by
  have h0 := hR 8
  have e : cbN R 9 = if R 8 + 1 ≤ R 9 then 8 else 9 := by
    show (stp2 (stp2 (9, 2000) 8 (R 8 + 1)) 9 (R 9)).1 = _
    rw [stp2_1 (by omega), stp2_2]
  refine ⟨e, ?_⟩
  rw [e]
  by_cases z : R 8 + 1 ≤ R 9
  · rw [if_pos z]; show R 8 + 1 = _; omega
  · rw [if_neg z]; show R 9 + 0 = _; omega
theorem cb_m (R : Nat → Nat) (hR : ∀ n, R n ≤ 1000) (n : Nat) (hn : n < 8) : (cbN R (n + 1) = if R n + 1 ≤ R (n + 1) ∧ R n + 1 ≤ R (n + 2) + 1 then n else if R (n + 1) ≤ R (n + 2) + 1 then n + 1 else n + 2) ∧ cst R (n + 1) (cbN R (n + 1)) = min (R (n + 1)) (min (R n + 1) (R (n + 2) + 1)) := by
  have h0 := hR n
  have q1 : cst R (n + 1) n = R n + 1 := by unfold cst; rw [if_neg (by omega)]
  have q2 : cst R (n + 1) (n + 1) = R (n + 1) := by unfold cst; rw [if_pos rfl]; rfl
  have q3 : cst R (n + 1) (n + 2) = R (n + 2) + 1 := by unfold cst; rw [if_neg (by omega)]
  have e : cbN R (n + 1) = if R n + 1 ≤ R (n + 1) ∧ R n + 1 ≤ R (n + 2) + 1 then n else if R (n + 1) ≤ R (n + 2) + 1 then n + 1 else n + 2 := by
    unfold cbN
    rw [show min (n + 1 + 1) 9 + 1 - (n + 1 - 1) = 3 by omega, show n + 1 - 1 = n by omega]
    show (stp2 (stp2 (stp2 (n + 1, 2000) n (cst R (n + 1) n)) (n + 1) (cst R (n + 1) (n + 1))) (n + 2) (cst R (n + 1) (n + 2))).1 = _
    rw [q1, q2, q3, stp2_1 (by omega), stp2_3]
  refine ⟨e, ?_⟩
  rw [e]
  by_cases z : R n + 1 ≤ R (n + 1) ∧ R n + 1 ≤ R (n + 2) + 1
  · rw [if_pos z, q1]; omega
  · rw [if_neg z]
    by_cases z2 : R (n + 1) ≤ R (n + 2) + 1
    · rw [if_pos z2, q2]; omega
    · rw [if_neg z2, q3]; omega
/-- the best next column costs no more than any neighbour -/
theorem cst_min {R : Nat → Nat} (hR : ∀ n, R n ≤ 1000) {c n : Nat} (hc : c < 10) (hn : n < 10) (ha : adj n c) : cst R c (cbN R c) ≤ cst R c n := by
  have key : ∀ m, cst R c m = R m + (if c = m then 0 else 1) := fun m => rfl
  by_cases h0 : c = 0
  · subst h0
    rw [(cb_0 R hR).2, key]
    have : n = 0 ∨ n = 1 := by unfold adj at ha; omega
    rcases this with rfl | rfl
    · rw [if_pos rfl]; omega
    · rw [if_neg (by omega)]; omega
  by_cases h9 : c = 9
  · subst h9
    rw [(cb_9 R hR).2, key]
    have : n = 8 ∨ n = 9 := by unfold adj at ha; omega
    rcases this with rfl | rfl
    · rw [if_neg (by omega)]; omega
    · rw [if_pos rfl]; omega
  obtain ⟨m, rfl⟩ : ∃ m, c = m + 1 := ⟨c - 1, by omega⟩
  rw [(cb_m R hR m (by omega)).2, key]
  have : n = m ∨ n = m + 1 ∨ n = m + 2 := by unfold adj at ha; omega
  rcases this with rfl | rfl | rfl
  · rw [if_neg (by omega)]; omega
  · rw [if_pos rfl]; omega
  · rw [if_neg (by omega)]; omega
theorem faF_1000 {R : Nat → Nat} {c : Nat} (h : faF R c < 1000) : faF R c = cst R c (cbN R c) ∧ R (cbN R c) ≤ faF R c ∧ faF R c ≤ R (cbN R c) + 1 := by
  unfold faF at h ⊢
  unfold cst at h ⊢
  split <;> omega
/-- as many steps aside as there are ticks, at most -/
theorem arow_k (g : Nat → Nat) (T : Nat) : ∀ k c, arow g T k c < 1000 → arow g T k c ≤ k
  | 0, c, h => by
    unfold arow at h ⊢
    split
    · omega
    · rename_i z
      rw [if_neg z] at h
      omega
  | k + 1, c, h => by
    unfold arow at h ⊢
    split
    · rename_i z
      rw [if_pos z] at h
      have e := faF_1000 h
      have := arow_k g T k (cbN (arow g T k) c) (by omega)
      omega
    · rename_i z
      rw [if_neg z] at h
      omega
theorem arow_b {g : Nat → Nat} {T k c : Nat} (h : arow g T k c < 1000) : (g (T - k)).testBit c = true := by
  cases k with
  | zero =>
    unfold arow at h
    split at h
    · assumption
    · omega
  | succ k =>
    unfold arow at h
    split at h
    · assumption
    · omega
theorem tb10 {x f : Nat} (hf : f < 1024) (h : f.testBit x = true) : x < 10 := by
  refine Nat.not_le.mp fun z => ?_
  rw [Nat.testBit_lt_two_pow (Nat.lt_of_lt_of_le hf (show 1024 ≤ 2 ^ x from Nat.pow_le_pow_right (n := 2) (by omega) (show 10 ≤ x from z)))] at h
  cases h
/-- who can come to the column c at the tick T has a price -/
theorem faF_y {g : Nat → Nat} (hg : ∀ t, g t < 1024) {T k x y : Nat} (hT : k < 30) (hx : x < 10) (hy : y < 10) (ha : adj x y) (i : arow g T k y < 1000) : faF (arow g T k) x < 1000 := by
  have i2 := arow_k g T k y i
  have hm := cst_min (R := arow g T k) (arow_le g T k) hx hy (by unfold adj at ha ⊢; omega)
  have : cst (arow g T k) x y ≤ k + 1 := by
    show arow g T k y + (if x = y then 0 else 1) ≤ _
    split <;> omega
  unfold faF
  omega
theorem org_row {g : Nat → Nat} (hg : ∀ t, g t < 1024) {T c : Nat} (hT : T ≤ 30) : ∀ (k : Nat), k < T → ∀ x, (org g T c k).testBit x = true → (g (T - k)).testBit x = true → arow g T k x < 1000
  | 0, _, x, _, h2 => by
    unfold arow
    rw [if_pos (by simpa using h2)]
    omega
  | k + 1, hk, x, h1, h2 => by
    obtain ⟨y, ha, hy⟩ := (spr_tb _ x).mp h1
    rw [Nat.testBit_and, Bool.and_eq_true] at hy
    have i := org_row hg hT k (by omega) y hy.1 hy.2
    show (if (g (T - (k + 1))).testBit x = true then faF (arow g T k) x else 1000) < 1000
    rw [if_pos h2]
    exact faF_y hg (by omega) (tb10 (hg _) h2) (tb10 (hg _) hy.2) ha i
theorem rch_tb {g : Nat → Nat} {p T : Nat} (hp : p < 10) (hg : ∀ t, g t < 1024) (h : rch g p T ≠ 0) : ∃ c, (rch g p T).testBit c = true := by
  refine Classical.byContradiction fun hn => h (Nat.eq_of_testBit_eq fun i => ?_)
  rw [Nat.zero_testBit]
  cases hb : (rch g p T).testBit i
  · rfl
  · exact absurd ⟨i, hb⟩ hn
theorem calm_yes {g : Nat → Nat} {p T : Nat} (hp : p < 10) (hg : ∀ t, g t < 1024) (h1 : 1 ≤ T) (hT : T ≤ 30) (h : rch g p T ≠ 0) : faF (crow g T 1) p < 1000 := by
  obtain ⟨c, hc⟩ := rch_tb hp hg h
  have hd := (dual g p T c).mpr hc
  obtain ⟨k, rfl⟩ : ∃ k, T = k + 1 := ⟨T - 1, by omega⟩
  obtain ⟨y, ha, hy⟩ := (spr_tb _ p).mp hd
  rw [Nat.testBit_and, Bool.and_eq_true] at hy
  have i := org_row hg hT k (by omega) y hy.1 hy.2
  exact faF_y (k := k) hg (by omega) hp (tb10 (hg _) hy.2) ha i
theorem calm_le {g : Nat → Nat} {p T : Nat} (h1 : 1 ≤ T) (h : faF (crow g T 1) p < 1000) : faF (crow g T 1) p ≤ T := by
  have e := faF_1000 h
  have := arow_k g T (T - 1) (cbN (crow g T 1) p) (Nat.lt_of_le_of_lt e.2.1 h)
  have e3 : crow g T 1 (cbN (crow g T 1) p) ≤ T - 1 := this
  omega
theorem calm_way {g : Nat → Nat} {p T : Nat} (h1 : 1 ≤ T) (h : faF (crow g T 1) p < 1000) : ∀ t, t < T → faF (crow g T (t + 1)) (cway g p T t) < 1000 ∧ (g (t + 1)).testBit (cway g p T (t + 1)) = true
  | t, ht => by
    have hf : faF (crow g T (t + 1)) (cway g p T t) < 1000 := by
      cases t with
      | zero => exact h
      | succ t =>
        obtain ⟨i, -⟩ := calm_way h1 h t (by omega)
        have e := faF_1000 i
        have hr : crow g T (t + 1) (cway g p T (t + 1)) < 1000 := Nat.lt_of_le_of_lt e.2.1 i
        rw [crow_s (show t + 1 < T by omega)] at hr
        split at hr
        · exact hr
        · omega
    refine ⟨hf, ?_⟩
    have e := faF_1000 hf
    have hb := arow_b (g := g) (T := T) (k := T - (t + 1)) (c := cway g p T (t + 1)) (Nat.lt_of_le_of_lt e.2.1 hf)
    rw [show T - (T - (t + 1)) = t + 1 by omega] at hb
    exact hb
/-! the emitter that shuts -/
theorem shS_lt (F : FS) (T : Nat) {n : Nat} : ∀ (L : List Nat) (s : Nat × Nat), s.1 < n → (∀ e ∈ L, e < n) → (L.foldl (shS F T) s).1 < n
  | [], s, h, _ => h
  | e :: L, s, h, hL => by
    refine shS_lt F T L _ ?_ (fun m hm => hL m (List.mem_cons_of_mem _ hm))
    unfold shS
    split
    · exact hL e List.mem_cons_self
    · exact h
/-! the texts -/
theorem crF_or {L : List Nat} (hl : L.length ≤ 60) : crF L = (-4) ∨ ∃ j, j ≤ L.length ∧ crF L = nI j := by
  have hle := crR_le L cr0
  unfold crF
  split
  · split
    · exact Or.inl rfl
    · exact Or.inr ⟨_, Nat.le_refl _, rfl⟩
  · exact Or.inr ⟨_, hle, rfl⟩
theorem stF_or (L : List Nat) : stF L = (-4) ∨ ∃ j, j ≤ L.length ∧ stF L = nI j := by
  unfold stF
  split
  · exact Or.inr ⟨_, badS_le L, rfl⟩
  · split
    · exact Or.inr ⟨0, Nat.zero_le _, rfl⟩
    · exact Or.inl rfl
theorem crS_ne {s t : Cr} {c : Nat} (h : crS s c = some t) (hs : 3 ≤ s.1 → s.2.2.2 ≠ []) : 3 ≤ t.1 → t.2.2.2 ≠ [] := by
  intro h3
  unfold crS at h
  split at h
  · split at h
    · cases h; exact absurd h3 (by show ¬ 3 ≤ 1; omega)
    · cases h
  split at h
  · split at h
    · cases h; exact absurd h3 (by show ¬ 3 ≤ 2; omega)
    · cases h
  split at h
  · split at h
    · cases h; exact fun z => absurd z (by simp)
    · cases h
  split at h
  · split at h
    · split at h
      · cases h; exact fun z => absurd z (by simp)
      · cases h
    · cases h
  split at h
  · cases h; exact hs (by omega)
  split at h
  · cases h; exact absurd h3 (by show ¬ 3 ≤ 0; omega)
  · cases h
theorem crR_ne : ∀ (L : List Nat) (s t : Cr), (3 ≤ s.1 → s.2.2.2 ≠ []) → (crR s L).2 = some t → 3 ≤ t.1 → t.2.2.2 ≠ []
  | [], s, t, hs, h => by
    cases h
    exact hs
  | c :: L, s, t, hs, h => by
    unfold crR at h
    split at h
    · rename_i u hu
      exact crR_ne L u t (crS_ne hu hs) h
    · cases h
theorem crE_ne {L : List Nat} (hl : L.length ≤ 60) (h : crF L = (-4)) : 1 ≤ (crE L).length := by
  obtain ⟨s, h1, h2, h3⟩ := crF_4 hl h
  have := crR_ne L cr0 s (fun z => absurd z (by show ¬ 3 ≤ 0; omega)) h1 (by omega)
  rw [h3]
  cases hz : s.2.2.2 with
  | nil => exact absurd hz this
  | cons x l => exact Nat.succ_le_succ (Nat.zero_le _)
/-! the free columns of the bullets, one by one -/
theorem frB_s (L : List Bu) (x : Bu) (hx : x.1 < 12 ∧ x.2.1 < 10) : (nI (frB L) &&& (if x.1 = 11 then (nI 1 <<< (nI x.2.1 &&& 31)) ^^^ (-1) else nI 1023)) = nI (frB (L ++ [x])) := by
  have hL : frB L < 1024 := bits10_lt _
  by_cases h : x.1 = 11
  · rw [if_pos h, frc_1 _ hL _ hx.2]
    congr 1
    refine bits_eq (and_lt (Nat.lt_of_le_of_lt (Nat.sub_le _ _) (by omega))) (bits10_lt _) (fun k hk => ?_)
    rw [Nat.testBit_and, frc_2 _ hx.2 k hk]
    unfold frB
    rw [bits10_tb _ k hk, bits10_tb _ k hk, List.any_append]
    simp only [List.any_cons, List.any_nil, Bool.or_false, atB, h, true_and]
    by_cases hkc : x.2.1 = k
    · simp [hkc]
    · simp [hkc, Ne.symm hkc]
  · rw [if_neg h, nI_and]
    congr 1
    have e : frB L &&& 1023 = frB L := by
      have : ∀ f, f < 1024 → f &&& 1023 = f := by decide +kernel
      exact this _ hL
    rw [e]
    refine bits_eq hL (bits10_lt _) (fun k hk => ?_)
    unfold frB
    rw [bits10_tb _ k hk, bits10_tb _ k hk, List.any_append]
    simp [atB, h]
theorem frB_nil : frB [] = 1023 := by decide
/-! an emitter's next shot -/
theorem wt_mod {q f t : Nat} (hq : q < 10) (hf : f < q) : (t + wtF q f t) % q = f ∧ wtF q f t ≤ q := by
  have h1 := wtF_1 q hq f hf (t % q) (Nat.mod_lt _ (by omega))
  have h2 := wtF_2 q hq f hf (t % q) (Nat.mod_lt _ (by omega))
  have e : (t % q + 1) % q = (t + 1) % q := by rw [Nat.mod_add_mod]
  rw [e] at h1 h2
  unfold wtF
  refine ⟨?_, h2⟩
  rw [Nat.mod_add_mod] at h1
  exact h1
