/-! THE WORLD BEHIND THE CONSTRUCTOR is the mini machine's, with a new object's state -/
def F0s : FS := ([], [], fun j => if j = 0 then 5 else if j = 1 then 3 else if j = 2 then 2 else if j = 6 then 2 else 0, fun _ => 0)
def Y0s : Sy := (F0s, [], none, [])
theorem F0s_V : FV F0s := by unfold FV F0s; decide
theorem F0s_I : FI F0s := ⟨⟨⟨⟨Nat.zero_le _, fun x h => absurd h List.not_mem_nil⟩, ⟨Nat.zero_le _, fun x h => absurd h List.not_mem_nil⟩, F0s_V⟩, List.Pairwise.nil, fun x h => absurd h List.not_mem_nil, Or.inl rfl, rfl, 0, 0, rfl, rfl, Nat.le_refl 0, Nat.zero_le _⟩, fun x h => absurd h List.not_mem_nil⟩
def E0s : List cx_E := eCo 0
def M0s : mx_M := fun p j => match E0s[p]? with
  | some (.inl a) => if a.1 = 2 then (match a.2.2.2 j with
    | some q => nI q
    | none => 0) else a.2.2.1 j
  | some (.inr o) => (match o.2[j]? with
    | some (.int x) => x
    | _ => 0)
  | none => 0
def cm_L : List Value → List (Option Nat) → Bool
  | [], [] => true
  | .ref p :: vs, some q :: ts => decide (p = q) && cm_L vs ts
  | .int _ :: vs, none :: ts => cm_L vs ts
  | _, _ => false
def cm_E (e : cx_E) (sh : mx_Sh) : Bool := match e, sh with
  | .inl a, .inl b => decide (a.1 = b.1) && (decide (a.2.1 = b.2) && decide (a.1 < 2))
  | .inr o, .inr b => decide (o.1 = b.1) && cm_L o.2 b.2
  | _, _ => false
theorem cm_L_ok (ad : Nat → Nat) : ∀ (vs : List Value) (ts : List (Option Nat)) (f : Nat → Int32), cm_L vs ts = true → (∀ j x, vs[j]? = some (.int x) → f j = x) → vs.map (mx_r ad) = ts.mapIdx (mx_fv ad f)
  | [], [], f, _, _ => rfl
  | [], t :: ts, f, h, _ => by simp [cm_L] at h
  | v :: vs, [], f, h, _ => by cases v <;> simp [cm_L] at h
  | v :: vs, t :: ts, f, h, hf => by
    have key : (∀ z, mx_r ad v = mx_fv ad z 0 t ∨ True) := fun _ => Or.inr trivial
    rw [List.mapIdx_cons, List.map_cons]
    have ih := fun h' => cm_L_ok ad vs ts (fun j => f (j + 1)) h' (fun j x hj => hf (j + 1) x hj)
    have e2 : (fun i => mx_fv ad f (i + 1)) = mx_fv ad (fun j => f (j + 1)) := by
      funext i o
      cases o <;> rfl
    rw [e2]
    cases v with
    | ref p =>
      cases t with
      | none => simp [cm_L] at h
      | some q =>
        simp only [cm_L, Bool.and_eq_true, decide_eq_true_eq] at h
        rw [ih h.2, h.1]
        rfl
    | int x =>
      cases t with
      | some q => simp [cm_L] at h
      | none =>
        rw [ih h]
        have := hf 0 x rfl
        simp [mx_r, mx_fv, this]
    | _ => cases t <;> simp [cm_L] at h
theorem cm_E_ok (h0 : Nat) (cy : Nat → ClassId) {e : cx_E} {p : Nat} (he : E0s[p]? = some e) (h : cm_E e (mx_sh p) = true) : cx_c h0 cy e = mx_c (cx_ad h0) cy (mx_sh p) (M0s p) := by
  generalize hs : mx_sh p = sh at h
  cases e with
  | inl a =>
    cases sh with
    | inr b => simp [cm_E] at h
    | inl b =>
      simp only [cm_E, Bool.and_eq_true, decide_eq_true_eq] at h
      obtain ⟨h1, h2, h3⟩ := h
      have hM : M0s p = a.2.2.1 := by
        funext j
        simp only [M0s, he]
        rw [if_neg (by omega)]
      have hb : b.1 < 2 := by rw [← h1]; exact h3
      simp only [cx_c, mx_c]
      rw [if_pos h3, if_pos hb, hM, h1, h2]
  | inr o =>
    cases sh with
    | inl b => simp [cm_E] at h
    | inr b =>
      simp only [cm_E, Bool.and_eq_true, decide_eq_true_eq] at h
      obtain ⟨h1, h2⟩ := h
      have hM : ∀ j x, o.2[j]? = some (.int x) → M0s p j = x := fun j x hj => by
        simp only [M0s, he, hj]
      simp only [cx_c, mx_c]
      rw [h1, cm_L_ok (cx_ad h0) o.2 b.2 (M0s p) h2 hM]
set_option maxRecDepth 100000 in
theorem E0s_ok : ∀ p, p < 143 → p ≠ 44 → p ≠ 111 → (match E0s[p]? with
  | some e => cm_E e (mx_sh p)
  | none => false) = true := by decide +kernel
set_option maxRecDepth 100000 in
theorem E0s_44 : ∃ g : Nat → Option Nat, E0s[44]? = some (.inl (2, 4, fun _ => 0, g)) ∧ g 0 = some 45 ∧ g 1 = some 59 ∧ g 2 = some 73 ∧ g 3 = some 87 := ⟨_, rfl, rfl, rfl, rfl, rfl⟩
set_option maxRecDepth 100000 in
theorem E0s_111 : ∃ g : Nat → Option Nat, E0s[111]? = some (.inl (3, 31, fun _ => 0, g)) ∧ ∀ j, g j = some (112 + j) := ⟨_, rfl, fun j => rfl⟩
theorem M0s_44 : ∀ j, j < 4 → M0s 44 j = nI (45 + 14 * j) := by
  obtain ⟨g, hg, g0, g1, g2, g3⟩ := E0s_44
  intro j hj
  have : j = 0 ∨ j = 1 ∨ j = 2 ∨ j = 3 := by omega
  rcases this with rfl | rfl | rfl | rfl <;> simp only [M0s, hg, g0, g1, g2, g3] <;> rfl
set_option maxRecDepth 100000 in
theorem E0s_len : E0s.length = 143 := by decide +kernel
def cm_lt (sh : mx_Sh) : Bool := match sh with
  | .inl _ => true
  | .inr o => o.2.all (fun x => match x with
    | some q => decide (q < 143)
    | none => true)
set_option maxRecDepth 100000 in
theorem cm_lts : ∀ p, p < 143 → cm_lt (mx_sh p) = true := by decide +kernel
/-- refs to places below 143 alone -/
theorem mx_c_ad {ad ad' : Nat → Nat} (had : ∀ i, i < 143 → ad i = ad' i) (cy : Nat → ClassId) (f : Nat → Int32) : ∀ (sh : mx_Sh), cm_lt sh = true → (∀ a, sh = .inl a → a.1 < 2) → mx_c ad cy sh f = mx_c ad' cy sh f
  | .inl a, _, h2 => by
    have := h2 a rfl
    simp only [mx_c, if_pos this]
  | .inr o, h1, _ => by
    simp only [mx_c]
    congr 2
    apply List.ext_getElem?
    intro j
    rw [List.getElem?_mapIdx, List.getElem?_mapIdx]
    cases hj : o.2[j]? with
    | none => rfl
    | some x =>
      cases x with
      | none => rfl
      | some q =>
        have hm := List.all_eq_true.mp h1 (some q) (List.mem_of_getElem? hj)
        simp only [decide_eq_true_eq] at hm
        simp only [Option.map_some, mx_fv, had q hm]
theorem arrV_cg (c : ClassId) (n : Nat) {f g : Nat → Value} (h : ∀ j, j < n → f j = g j) : arrV c n f = arrV c n g := by
  unfold arrV
  congr 2
  funext j
  exact h j.val j.isLt
theorem w0_eq {h0 : Nat} {cy : Nat → ClassId} {D : va_G} {H : Heap} {ad : Nat → Nat} (had : ∀ i, i < 143 → ad i = cx_ad h0 i) (h : va_P D vwCl (cx_w h0 cy E0s) H) : va_P D vwCl (mx_w ad cy M0s) H := by
  intro k q hq
  have hk : k < 143 := by
    have := (List.getElem?_eq_some_iff.mp hq).1
    simpa [mx_w] using this
  rw [mx_w_get _ _ _ hk] at hq
  cases hq
  obtain ⟨e, he⟩ := get_lt (show k < E0s.length by rw [E0s_len]; exact hk)
  have h1 := h k _ (cx_w_get he)
  rw [had k hk]
  by_cases h44 : k = 44
  · subst h44
    obtain ⟨g, hg, g0, g1, g2, g3⟩ := E0s_44
    cases hg.symm.trans he
    have h2 : H[cx_ad h0 44]? = some (arrV (cy 2) 4 (fun j => va_rf ((g j).map (cx_ad h0)))) := h1
    show H[cx_ad h0 44]? = some (arrV (cy 2) 4 (fun j => va_rf (some (ad (M0s 44 j).toNatClampNeg))))
    rw [h2]
    congr 1
    unfold arrV
    congr 2
    funext j
    have hj := M0s_44 j.val j.isLt
    have : j.val = 0 ∨ j.val = 1 ∨ j.val = 2 ∨ j.val = 3 := by omega
    show va_rf (Option.map (cx_ad h0) (g j.val)) = va_rf (some (ad (M0s 44 j.val).toNatClampNeg))
    rcases this with h | h | h | h <;> rw [h] at hj ⊢ <;> rw [hj, nI_clamp (by omega), had _ (by omega)] <;> simp only [g0, g1, g2, g3] <;> rfl
  · by_cases h111 : k = 111
    · subst h111
      obtain ⟨g, hg, gj⟩ := E0s_111
      cases hg.symm.trans he
      have h2 : H[cx_ad h0 111]? = some (arrV (cy 3) 31 (fun j => va_rf ((g j).map (cx_ad h0)))) := h1
      show H[cx_ad h0 111]? = some (arrV (cy 3) 31 (fun j => va_rf (some (ad (112 + j)))))
      rw [h2]
      refine congrArg some (arrV_cg _ _ (fun j hj => ?_))
      rw [gj, had _ (show 112 + j < 143 by omega)]
      rfl
    · have h2 := E0s_ok k hk h44 h111
      rw [he] at h2
      have e2 := cm_E_ok h0 cy he h2
      have e3 := mx_c_ad had cy (M0s k) (mx_sh k) (cm_lts k hk) (fun a ha => by
        rw [ha] at h2
        cases e with
        | inl x =>
          simp only [cm_E, Bool.and_eq_true, decide_eq_true_eq] at h2
          have := h2.1
          have := h2.2.2
          omega
        | inr x => simp [cm_E] at h2)
      rw [e3, ← e2]
      exact h1
set_option maxRecDepth 100000 in
theorem M0s_Co : CoA M0s Y0s := by
  refine ⟨⟨⟨by decide +kernel, ⟨by decide, fun x h => absurd h List.not_mem_nil⟩, fun j x h => (by cases h)⟩, ⟨by decide +kernel, ⟨by decide, fun x h => absurd h List.not_mem_nil⟩, fun j x h => (by cases h)⟩, ?_, ?_, ?_⟩, F0s_V, ?_, ?_, ?_⟩
  · decide +kernel
  · decide +kernel
  · decide +kernel
  · refine ⟨fun j => 45 + 14 * j, ⟨?_, ?_, fun j hj => M0s_44 j hj⟩, by decide +kernel, by decide, fun j F h => (by cases h)⟩
    · intro j hj
      show 45 + 14 * j = 45 ∨ 45 + 14 * j = 59 ∨ 45 + 14 * j = 73 ∨ 45 + 14 * j = 87
      omega
    · intro i j hi hj h
      have h : 45 + 14 * i = 45 + 14 * j := h
      omega
  · show M0s 0 3 = nI 0
    decide +kernel
  · exact ⟨by decide +kernel, by decide, fun c h => absurd h List.not_mem_nil, fun j c h => (by cases h)⟩
