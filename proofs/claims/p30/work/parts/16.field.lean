/-! the field: emitters, bullets, scalars (0 sprite, 1 shields, 2 bombs, 3 ticks, 4 down, 5 TURN, 6 BLAST), accounts (0 fired .. 7 hits) -/
abbrev FS : Type := List Em × List Bu × (Nat → Nat) × (Nat → Int32)
def FiA (M : mx_M) (a : Nat) (F : FS) : Prop := EmA M (a + 1) F.1 ∧ BuA M (a + 6) F.2.1 ∧ (∀ j, j < 5 → M a (4 + j) = nI (F.2.2.1 j)) ∧ (∀ j, j < 2 → M (a + 12) j = nI (F.2.2.1 (5 + j))) ∧ ∀ j, j < 8 → M (a + 13) j = F.2.2.2 j
def FV (F : FS) : Prop := F.2.2.1 0 < 10 ∧ F.2.2.1 1 ≤ 3 ∧ F.2.2.1 2 ≤ 2 ∧ F.2.2.1 4 < 2 ∧ F.2.2.1 5 < 2 ∧ 1 ≤ F.2.2.1 6 ∧ F.2.2.1 6 ≤ 5
theorem EmA.fr {M M' : mx_M} {e : Nat} {L : List Em} (h : EmA M e L) (hf : ∀ q, e ≤ q → q ≤ e + 4 → M' q = M q) : EmA M' e L := ⟨by rw [hf e (by omega) (by omega)]; exact h.1, h.2.1, h.2.2.fr fun q j h1 h2 _ _ => by rw [hf q (by omega) h2]⟩
theorem BuA.fr {M M' : mx_M} {b : Nat} {L : List Bu} (h : BuA M b L) (hf : ∀ q, b ≤ q → q ≤ b + 5 → M' q = M q) : BuA M' b L := ⟨by rw [hf b (by omega) (by omega)]; exact h.1, h.2.1, h.2.2.fr fun q j h1 h2 _ _ => by rw [hf q (by omega) h2]⟩
theorem FiA.fr {M M' : mx_M} {a : Nat} {F : FS} (h : FiA M a F) (hf : ∀ q, a ≤ q → q < a + 14 → M' q = M q) : FiA M' a F :=
  ⟨h.1.fr fun q h1 h2 => hf q (by omega) (by omega), h.2.1.fr fun q h1 h2 => hf q (by omega) (by omega), fun j hj => by rw [hf a (by omega) (by omega)]; exact h.2.2.1 j hj, fun j hj => by rw [hf (a + 12) (by omega) (by omega)]; exact h.2.2.2.1 j hj, fun j hj => by rw [hf (a + 13) (by omega) (by omega)]; exact h.2.2.2.2 j hj⟩
theorem FiA.ac {M : mx_M} {a : Nat} {F : FS} (h : FiA M a F) (k : Nat) (x : Int32) : FiA (mx_up M (a + 13) k x) a (F.1, F.2.1, F.2.2.1, upd F.2.2.2 k x) := by
  have e : ∀ q, q ≠ a + 13 → mx_up M (a + 13) k x q = M q := fun q hq => mx_up_ne hq
  refine ⟨h.1.fr fun q h1 h2 => e q (by omega), h.2.1.fr fun q h1 h2 => e q (by omega), fun j hj => by rw [e a (by omega)]; exact h.2.2.1 j hj, fun j hj => by rw [e (a + 12) (by omega)]; exact h.2.2.2.1 j hj, fun j hj => ?_⟩
  have := h.2.2.2.2 j hj
  by_cases hjk : j = k
  · subst hjk; simp [mx_up, upd]
  · simp [mx_up, upd, hjk, this]
theorem FiA.sc {M : mx_M} {a : Nat} {F : FS} (h : FiA M a F) (k : Nat) (hk : k < 5) (n : Nat) : FiA (mx_up M a (4 + k) (nI n)) a (F.1, F.2.1, va_up F.2.2.1 k n, F.2.2.2) := by
  have e : ∀ q, q ≠ a → mx_up M a (4 + k) (nI n) q = M q := fun q hq => mx_up_ne hq
  refine ⟨h.1.fr fun q h1 h2 => e q (by omega), h.2.1.fr fun q h1 h2 => e q (by omega), fun j hj => ?_, fun j hj => ?_, fun j hj => by rw [e (a + 13) (by omega)]; exact h.2.2.2.2 j hj⟩
  · have := h.2.2.1 j hj
    by_cases hjk : j = k
    · subst hjk; simp [mx_up, va_up]
    · simp [mx_up, va_up, hjk, this, show ¬ 4 + j = 4 + k by omega]
  · rw [e (a + 12) (by omega), h.2.2.2.1 j hj]
    simp [va_up, show ¬ 5 + j = k by omega]
theorem FiA.st {M : mx_M} {a : Nat} {F : FS} (h : FiA M a F) (k : Nat) (hk : k < 2) (n : Nat) : FiA (mx_up M (a + 12) k (nI n)) a (F.1, F.2.1, va_up F.2.2.1 (5 + k) n, F.2.2.2) := by
  have e : ∀ q, q ≠ a + 12 → mx_up M (a + 12) k (nI n) q = M q := fun q hq => mx_up_ne hq
  refine ⟨h.1.fr fun q h1 h2 => e q (by omega), h.2.1.fr fun q h1 h2 => e q (by omega), fun j hj => ?_, fun j hj => ?_, fun j hj => by rw [e (a + 13) (by omega)]; exact h.2.2.2.2 j hj⟩
  · rw [e a (by omega), h.2.2.1 j hj]
    simp [va_up, show ¬ j = 5 + k by omega]
  · have := h.2.2.2.1 j hj
    by_cases hjk : j = k
    · subst hjk; simp [mx_up, va_up]
    · simp [mx_up, va_up, hjk, this]
theorem FiA.bu {M M' : mx_M} {a : Nat} {F : FS} {B : List Bu} (h : FiA M a F) (hB : BuA M' (a + 6) B) (hO : Out M M' (a + 6) (a + 6 + 6)) : FiA M' a (F.1, B, F.2.2.1, F.2.2.2) :=
  ⟨h.1.fr fun q h1 h2 => hO q (by omega), hB, fun j hj => by rw [hO a (by omega)]; exact h.2.2.1 j hj, fun j hj => by rw [hO (a + 12) (by omega)]; exact h.2.2.2.1 j hj, fun j hj => by rw [hO (a + 13) (by omega)]; exact h.2.2.2.2 j hj⟩
theorem FiA.em {M M' : mx_M} {a : Nat} {F : FS} {E : List Em} (h : FiA M a F) (hE : EmA M' (a + 1) E) (hO : Out M M' (a + 1) (a + 1 + 5)) : FiA M' a (E, F.2.1, F.2.2.1, F.2.2.2) :=
  ⟨hE, h.2.1.fr fun q h1 h2 => hO q (by omega), fun j hj => by rw [hO a (by omega)]; exact h.2.2.1 j hj, fun j hj => by rw [hO (a + 12) (by omega)]; exact h.2.2.2.1 j hj, fun j hj => by rw [hO (a + 13) (by omega)]; exact h.2.2.2.2 j hj⟩
def fTick (F : FS) : FS := (F.1, F.2.1, va_up F.2.2.1 3 (F.2.2.1 3 + 1), F.2.2.2)
def fFalls (F : FS) : FS := (F.1, F.2.1.filterMap (fallB (F.2.2.1 5)), F.2.2.1, upd F.2.2.2 2 (F.2.2.2 2 + nI (F.2.1.length - (F.2.1.filterMap (fallB (F.2.2.1 5))).length)))
def fShoot (c d w : Nat) (F : FS) : FS := if F.2.1.length < 60 then (F.1, F.2.1 ++ [(0, c, d, w, 0)], F.2.2.1, upd F.2.2.2 0 (F.2.2.2 0 + nI 1)) else (F.1, F.2.1, F.2.2.1, upd F.2.2.2 1 (F.2.2.2 1 + nI 1))
def fFire (c p : Nat) (F : FS) : FS := match p with
  | 0 => fShoot c 1 0 F
  | 1 => fShoot c 0 0 F
  | 2 => fShoot c 2 0 F
  | 3 => fShoot c 2 1 F
  | 4 => fShoot c (if F.2.2.1 0 < c then 0 else if F.2.2.1 0 = c then 1 else 2) 0 F
  | _ => fShoot c 2 0 (fShoot c 1 0 (fShoot c 0 0 F))
def fStep1 (F : FS) (x : Em) : FS := if F.2.2.1 3 % x.2.2.1 = x.2.2.2 then fFire x.1 x.2.1 F else F
def fAdv (F : FS) : FS := F.1.foldl fStep1 (fFalls (fTick F))
def fHitB (F : FS) : List Bu := F.2.1.filter (fun x => !takenB (F.2.2.1 0) 0 x)
def fHits (F : FS) : Nat × FS :=
  if F.2.1.length - (fHitB F).length = 0 then (0, (F.1, fHitB F, F.2.2.1, F.2.2.2))
  else if F.2.2.1 1 = 0 then (2, (F.1, fHitB F, va_up F.2.2.1 4 1, upd (upd F.2.2.2 3 (F.2.2.2 3 + nI (F.2.1.length - (fHitB F).length))) 7 (F.2.2.2 7 + nI 1)))
  else (1, (F.1, fHitB F, va_up F.2.2.1 1 (F.2.2.1 1 - 1), upd (upd F.2.2.2 3 (F.2.2.2 3 + nI (F.2.1.length - (fHitB F).length))) 7 (F.2.2.2 7 + nI 1)))
def fGraze (F : FS) : FS := (F.1, F.2.1.map (grzB (F.2.2.1 0)), F.2.2.1, upd F.2.2.2 6 (F.2.2.2 6 + nI (F.2.1.countP (freshB (F.2.2.1 0)))))
def fMove (k : Nat) (F : FS) : FS := if 1 ≤ F.2.2.1 0 + k ∧ F.2.2.1 0 + k ≤ 10 then (F.1, F.2.1, va_up F.2.2.1 0 (F.2.2.1 0 + k - 1), F.2.2.2) else F
def fPass (k : Nat) (F : FS) : Nat × FS := ((fHits (fAdv (fMove k F))).1, if (fHits (fAdv (fMove k F))).2.2.2.1 4 = 0 then fGraze (fHits (fAdv (fMove k F))).2 else (fHits (fAdv (fMove k F))).2)
def fBombB (F : FS) : List Bu := F.2.1.filter (fun x => !takenB (F.2.2.1 0) (F.2.2.1 6) x)
def fBomb (F : FS) : Nat × FS := (F.2.1.length - (fBombB F).length, (F.1, fBombB F, va_up F.2.2.1 2 (F.2.2.1 2 - 1), upd F.2.2.2 4 (F.2.2.2 4 + nI (F.2.1.length - (fBombB F).length))))
def fSweep (F : FS) : Nat × FS := (F.2.1.length, (F.1, [], va_up (va_up (va_up F.2.2.1 1 3) 2 2) 4 0, upd F.2.2.2 5 (F.2.2.2 5 + nI F.2.1.length)))
theorem fShoot_1 (c d w : Nat) (F : FS) : (fShoot c d w F).1 = F.1 ∧ (fShoot c d w F).2.2.1 = F.2.2.1 := by
  unfold fShoot; split <;> exact ⟨rfl, rfl⟩
theorem fFire_1 (c p : Nat) (F : FS) : (fFire c p F).1 = F.1 ∧ (fFire c p F).2.2.1 = F.2.2.1 := by
  unfold fFire; split
  · exact fShoot_1 ..
  · exact fShoot_1 ..
  · exact fShoot_1 ..
  · exact fShoot_1 ..
  · exact fShoot_1 ..
  · exact ⟨by rw [(fShoot_1 ..).1, (fShoot_1 ..).1, (fShoot_1 ..).1], by rw [(fShoot_1 ..).2, (fShoot_1 ..).2, (fShoot_1 ..).2]⟩
theorem fStep1_1 (F : FS) (x : Em) : (fStep1 F x).1 = F.1 ∧ (fStep1 F x).2.2.1 = F.2.2.1 := by
  unfold fStep1; split
  · exact fFire_1 ..
  · exact ⟨rfl, rfl⟩
theorem fold1_1 (L : List Em) : ∀ F : FS, (L.foldl fStep1 F).1 = F.1 ∧ (L.foldl fStep1 F).2.2.1 = F.2.2.1 := by
  induction L with
  | nil => intro F; exact ⟨rfl, rfl⟩
  | cons x L ih =>
    intro F
    rw [List.foldl_cons]
    exact ⟨(ih _).1.trans (fStep1_1 F x).1, (ih _).2.trans (fStep1_1 F x).2⟩
theorem fAdv_1 (F : FS) : (fAdv F).1 = F.1 ∧ (fAdv F).2.2.1 = va_up F.2.2.1 3 (F.2.2.1 3 + 1) := ⟨(fold1_1 _ _).1, (fold1_1 _ _).2⟩
theorem FV.adv {F : FS} (h : FV F) : FV (fAdv F) := by
  unfold FV
  rw [(fAdv_1 F).2]
  exact h
theorem FV.move {F : FS} (h : FV F) (k : Nat) : FV (fMove k F) := by
  unfold fMove
  split
  · rename_i hk
    exact ⟨by show F.2.2.1 0 + k - 1 < 10; omega, h.2⟩
  · exact h
theorem FV.hits {F : FS} (h : FV F) : FV (fHits F).2 := by
  obtain ⟨h0, h1, h2, h4, h5, h6, h7⟩ := h
  unfold fHits
  split
  · exact ⟨h0, h1, h2, h4, h5, h6, h7⟩
  · split
    · exact ⟨h0, h1, h2, Nat.lt_succ_self 1, h5, h6, h7⟩
    · exact ⟨h0, by show F.2.2.1 1 - 1 ≤ 3; omega, h2, h4, h5, h6, h7⟩
theorem FV.pass {F : FS} (h : FV F) (k : Nat) : FV (fPass k F).2 := by
  have h1 := ((h.move k).adv).hits
  unfold fPass
  dsimp only
  split
  · exact h1
  · exact h1
theorem FV.bomb {F : FS} (h : FV F) : FV (fBomb F).2 := by
  obtain ⟨h0, h1, h2, h4, h5, h6, h7⟩ := h
  exact ⟨h0, h1, by show F.2.2.1 2 - 1 ≤ 2; omega, h4, h5, h6, h7⟩
theorem FV.sweep {F : FS} (h : FV F) : FV (fSweep F).2 := by
  obtain ⟨h0, h1, h2, h4, h5, h6, h7⟩ := h
  exact ⟨h0, Nat.le_refl 3, Nat.le_refl 2, Nat.zero_lt_succ 1, h5, h6, h7⟩
theorem fHits_0 (F : FS) : (fHits F).2.1 = F.1 := by
  unfold fHits; split
  · rfl
  · split <;> rfl
theorem fMove_0 (k : Nat) (F : FS) : (fMove k F).1 = F.1 ∧ (fMove k F).2.2.1 3 = F.2.2.1 3 := by
  unfold fMove; split <;> exact ⟨rfl, rfl⟩
theorem cmp_dr : ∀ s, s < 10 → ∀ c, c < 10 → (if nI s < nI c then (-1) else if nI s = nI c then nI 0 else nI 1) = dr (if s < c then 0 else if s = c then 1 else 2) := by decide +kernel
/-- an update between, back to the named world -/
theorem FiA.eq {M : mx_M} {a : Nat} {F G : FS} (h : FiA M a F) (e : F = G) : FiA M a G := e ▸ h
set_option maxHeartbeats 1000000 in
set_option maxRecDepth 10000 in
theorem t_X3_shoot (M : mx_M) (a : Nat) (hs : FB a) (F : FS) (hF : FiA M a F) (c d w : Nat) (hc : c < 10) (hd : d < 3) (hw : w < 2) : mx_T yX3_shoot cX3_shoot 4 none 2 [.ref a, .int (nI c), .int (dr d), .int (nI w)] M (fun v M' => v = none ∧ FiA M' a (fShoot c d w F) ∧ Out M M' a (a + 14)) := by
  obtain ⟨s0, ⟨e0, e1, e2, e3, e4⟩, ⟨b0, b1, b2, b3, b4, b5⟩, s12, s13⟩ := hs.s
  refine mx_T.of1 (own := RX3) (ls := [some (.ref a), some (.int (nI c)), some (.int (dr d)), some (.int (nI w))]) (by decide +kernel) rfl (Nat.le_of_ble_eq_true rfl) rfl rfl ?_
  refine mx_aload_n (pc' := 1) dX3_shoot_0 rfl rfl ?_
  refine mx_getr (pc' := 4) dX3_shoot_1 fl_X3_21 (by assumption) (by rfl) rfl ?_
  refine mx_iload_n (pc' := 5) dX3_shoot_4 rfl rfl ?_
  refine mx_iload_n (pc' := 6) dX3_shoot_5 rfl rfl ?_
  refine mx_iload_n (pc' := 7) dX3_shoot_6 rfl rfl ?_
  refine mx_callV (pc' := 10) dX3_shoot_7 cl_X3_108 (b0) (t_X0_add M (a + 6) ⟨b0, b1, b2, b3, b4, b5⟩ F.2.1 hF.2.1 c d w hc hd hw) rfl (by decide) rfl (Nat.le_of_ble_eq_true rfl) rfl (fun v N7 hv => ?_)
  have hv1 := hv
  obtain ⟨x, hx⟩ : ∃ x : Nat, v = some (.int (nI x)) ∧ (x = 0 ∨ x = 1) ∧ (x = 1 → F.2.1.length < 60) ∧ (x = 0 → ¬ F.2.1.length < 60) := by
    by_cases hlt : F.2.1.length < 60
    · exact ⟨1, (hv.1 hlt).1, Or.inr rfl, fun _ => hlt, fun z => by omega⟩
    · exact ⟨0, (hv.2 hlt).1, Or.inl rfl, fun z => by omega, fun _ => hlt⟩
  obtain ⟨rfl, hx0, hx1, hx2⟩ := hx
  refine mx_if_eq (tgt := 26) (pc' := 13) dX3_shoot_10 (by decide) rfl (fun c10 => ?_) (fun c10 => ?_)
  · have c10 : x = 0 := (nI_eq (a := x) (b := 0) (by omega) (by omega)).mp c10
    have hlt := hx2 c10
    obtain ⟨-, hv⟩ := hv.2 hlt
    rw [hv]
    refine mx_aload_n (pc' := 27) dX3_shoot_26 rfl rfl ?_
    refine mx_getr (pc' := 30) dX3_shoot_27 fl_X3_29 (by assumption) (by rfl) rfl ?_
    refine mx_iconst (pc' := 31) (v := nI 1) dX3_shoot_30 (by decide) rfl ?_
    refine mx_dup2 (pc' := 32) dX3_shoot_31 rfl rfl rfl ?_
    refine mx_iald (pc' := 33) (v := F.2.2.2 1) dX3_shoot_32 (by assumption) (rfl) (by omega) (hF.2.2.2.2 1 (by decide)) rfl ?_
    refine mx_iconst (pc' := 34) (v := nI 1) dX3_shoot_33 (by decide) rfl ?_
    refine mx_iadd (pc' := 35) dX3_shoot_34 (rfl) rfl ?_
    refine mx_iast (pc' := 36) dX3_shoot_35 (by assumption) (rfl) (by omega) rfl ?_
    refine mx_vret dX3_shoot_36 rfl ?_
    exact ⟨rfl, (hF.ac 1 _).eq (if_neg hlt).symm, Out.rf.up (by omega) (by omega)⟩
  · have c10 : x = 1 := by
      have : ¬ x = 0 := fun z => c10 (by rw [z]; rfl)
      omega
    have hlt := hx1 c10
    obtain ⟨-, hA, hO⟩ := hv.1 hlt
    have hF2 := hF.bu hA hO
    refine mx_aload_n (pc' := 14) dX3_shoot_13 rfl rfl ?_
    refine mx_getr (pc' := 17) dX3_shoot_14 fl_X3_29 (by assumption) (by rfl) rfl ?_
    refine mx_iconst (pc' := 18) (v := nI 0) dX3_shoot_17 (by decide) rfl ?_
    refine mx_dup2 (pc' := 19) dX3_shoot_18 rfl rfl rfl ?_
    refine mx_iald (pc' := 20) (v := F.2.2.2 0) dX3_shoot_19 (by assumption) (rfl) (by omega) (hF2.2.2.2.2 0 (by decide)) rfl ?_
    refine mx_iconst (pc' := 21) (v := nI 1) dX3_shoot_20 (by decide) rfl ?_
    refine mx_iadd (pc' := 22) dX3_shoot_21 (rfl) rfl ?_
    refine mx_iast (pc' := 23) dX3_shoot_22 (by assumption) (rfl) (by omega) rfl ?_
    refine mx_goto (pc' := 36) dX3_shoot_23 (by decide) ?_
    refine mx_vret dX3_shoot_36 rfl ?_
    exact ⟨rfl, (hF2.ac 0 _).eq (if_pos hlt).symm, (hO.wd (by omega) (by omega)).up (by omega) (by omega)⟩

set_option maxHeartbeats 1000000 in
set_option maxRecDepth 10000 in
theorem t_X3_fire (M : mx_M) (a : Nat) (hs : FB a) (F : FS) (hF : FiA M a F) (hV : FV F) (c p : Nat) (hc : c < 10) (hp : p < 6) : mx_T yX3_fire cX3_fire 4 none 3 [.ref a, .int (nI c), .int (nI p)] M (fun v M' => v = none ∧ FiA M' a (fFire c p F) ∧ Out M M' a (a + 14)) := by
  obtain ⟨s0, ⟨e0, e1, e2, e3, e4⟩, ⟨b0, b1, b2, b3, b4, b5⟩, s12, s13⟩ := hs.s
  have h0 := hV.1
  have hO9 : Out M M a (a + 14) := Out.rf
  refine mx_T.of1 (own := RX3) (ls := [some (.ref a), some (.int (nI c)), some (.int (nI p)), none]) (by decide +kernel) rfl (Nat.le_of_ble_eq_true rfl) rfl rfl ?_
  refine mx_iload_n (pc' := 1) dX3_fire_0 rfl rfl ?_
  rcases (show p = 0 ∨ p = 1 ∨ p = 2 ∨ p = 3 ∨ p = 4 ∨ p = 5 by omega) with rfl | rfl | rfl | rfl | rfl | rfl
  · refine mx_tableIn (pc' := 36) dX3_fire_1 (by decide) (by decide) (by rfl) (by decide) ?_
    refine mx_aload_n (pc' := 37) dX3_fire_36 rfl rfl ?_
    refine mx_iload_n (pc' := 38) dX3_fire_37 rfl rfl ?_
    refine mx_iconst (pc' := 39) (v := dr 1) dX3_fire_38 (by decide) rfl ?_
    refine mx_iconst (pc' := 40) (v := nI 0) dX3_fire_39 (by decide) rfl ?_
    refine mx_callV (pc' := 43) dX3_fire_40 cl_X3_98 (s0) (t_X3_shoot _ a hs F hF c 1 0 hc (by first | decide | (split <;> first | decide | (split <;> decide))) (by decide)) rfl (by decide) rfl (Nat.le_of_ble_eq_true rfl) rfl (fun v N40 hv => ?_)
    obtain ⟨rfl, hF, hO⟩ := hv
    refine mx_goto (pc' := 113) dX3_fire_43 (by decide) ?_
    refine mx_vret dX3_fire_113 rfl ?_
    exact ⟨rfl, hF, hO⟩
  · refine mx_tableIn (pc' := 46) dX3_fire_1 (by decide) (by decide) (by rfl) (by decide) ?_
    refine mx_aload_n (pc' := 47) dX3_fire_46 rfl rfl ?_
    refine mx_iload_n (pc' := 48) dX3_fire_47 rfl rfl ?_
    refine mx_iconst (pc' := 49) (v := dr 0) dX3_fire_48 (by decide) rfl ?_
    refine mx_iconst (pc' := 50) (v := nI 0) dX3_fire_49 (by decide) rfl ?_
    refine mx_callV (pc' := 53) dX3_fire_50 cl_X3_98 (s0) (t_X3_shoot _ a hs F hF c 0 0 hc (by first | decide | (split <;> first | decide | (split <;> decide))) (by decide)) rfl (by decide) rfl (Nat.le_of_ble_eq_true rfl) rfl (fun v N50 hv => ?_)
    obtain ⟨rfl, hF, hO⟩ := hv
    refine mx_goto (pc' := 113) dX3_fire_53 (by decide) ?_
    refine mx_vret dX3_fire_113 rfl ?_
    exact ⟨rfl, hF, hO⟩
  · refine mx_tableIn (pc' := 56) dX3_fire_1 (by decide) (by decide) (by rfl) (by decide) ?_
    refine mx_aload_n (pc' := 57) dX3_fire_56 rfl rfl ?_
    refine mx_iload_n (pc' := 58) dX3_fire_57 rfl rfl ?_
    refine mx_iconst (pc' := 59) (v := dr 2) dX3_fire_58 (by decide) rfl ?_
    refine mx_iconst (pc' := 60) (v := nI 0) dX3_fire_59 (by decide) rfl ?_
    refine mx_callV (pc' := 63) dX3_fire_60 cl_X3_98 (s0) (t_X3_shoot _ a hs F hF c 2 0 hc (by first | decide | (split <;> first | decide | (split <;> decide))) (by decide)) rfl (by decide) rfl (Nat.le_of_ble_eq_true rfl) rfl (fun v N60 hv => ?_)
    obtain ⟨rfl, hF, hO⟩ := hv
    refine mx_goto (pc' := 113) dX3_fire_63 (by decide) ?_
    refine mx_vret dX3_fire_113 rfl ?_
    exact ⟨rfl, hF, hO⟩
  · refine mx_tableIn (pc' := 66) dX3_fire_1 (by decide) (by decide) (by rfl) (by decide) ?_
    refine mx_aload_n (pc' := 67) dX3_fire_66 rfl rfl ?_
    refine mx_iload_n (pc' := 68) dX3_fire_67 rfl rfl ?_
    refine mx_iconst (pc' := 69) (v := dr 2) dX3_fire_68 (by decide) rfl ?_
    refine mx_iconst (pc' := 70) (v := nI 1) dX3_fire_69 (by decide) rfl ?_
    refine mx_callV (pc' := 73) dX3_fire_70 cl_X3_98 (s0) (t_X3_shoot _ a hs F hF c 2 1 hc (by first | decide | (split <;> first | decide | (split <;> decide))) (by decide)) rfl (by decide) rfl (Nat.le_of_ble_eq_true rfl) rfl (fun v N70 hv => ?_)
    obtain ⟨rfl, hF, hO⟩ := hv
    refine mx_goto (pc' := 113) dX3_fire_73 (by decide) ?_
    refine mx_vret dX3_fire_113 rfl ?_
    exact ⟨rfl, hF, hO⟩
  · refine mx_tableIn (pc' := 76) dX3_fire_1 (by decide) (by decide) (by rfl) (by decide) ?_
    refine mx_aload_n (pc' := 77) dX3_fire_76 rfl rfl ?_
    refine mx_iload_n (pc' := 78) dX3_fire_77 rfl rfl ?_
    refine mx_aload_n (pc' := 79) dX3_fire_78 rfl rfl ?_
    refine mx_getf (pc' := 82) (v := nI (F.2.2.1 0)) dX3_fire_79 fl_X3_32 (by assumption) (by rfl) (hF.2.2.1 0 (by decide)) rfl ?_
    refine mx_iload_n (pc' := 83) dX3_fire_82 rfl rfl ?_
    refine mx_callS (pc' := 86) dX3_fire_83 cl_X3_102 (t_J6_compare_7cf53 _ _ _) rfl (by decide) rfl (Nat.le_of_ble_eq_true rfl) rfl (fun v N83 hv => ?_)
    obtain ⟨rfl, hv⟩ := hv
    rw [hv, cmp_dr _ h0 c hc]
    refine mx_iconst (pc' := 87) (v := nI 0) dX3_fire_86 (by decide) rfl ?_
    refine mx_callV (pc' := 90) dX3_fire_87 cl_X3_98 (s0) (t_X3_shoot _ a hs F hF c _ 0 hc (by first | decide | (split <;> first | decide | (split <;> decide))) (by decide)) rfl (by decide) rfl (Nat.le_of_ble_eq_true rfl) rfl (fun v N87 hv => ?_)
    obtain ⟨rfl, hF, hO⟩ := hv
    refine mx_goto (pc' := 113) dX3_fire_90 (by decide) ?_
    refine mx_vret dX3_fire_113 rfl ?_
    exact ⟨rfl, hF, hO⟩
  · refine mx_tableOut (pc' := 93) dX3_fire_1 (Or.inr (by decide)) (by decide) ?_
    refine mx_iconst (pc' := 94) (v := dr 0) dX3_fire_93 (by decide) rfl ?_
    refine mx_istore_n (pc' := 95) (ls' := [_, _, _, _]) dX3_fire_94 (by decide) (rfl) rfl rfl ?_
    refine mx_iload_n (pc' := 96) dX3_fire_95 rfl rfl ?_
    refine mx_iconst (pc' := 97) (v := nI 1) dX3_fire_96 (by decide) rfl ?_
    refine mx_icmp_gt (tgt := 113) (pc' := 100) dX3_fire_97 (by decide) rfl (fun c97 => ?_) (fun c97 => ?_)
    · exact absurd c97 (by decide)
    · refine mx_aload_n (pc' := 101) dX3_fire_100 rfl rfl ?_
      refine mx_iload_n (pc' := 102) dX3_fire_101 rfl rfl ?_
      refine mx_iload_n (pc' := 103) dX3_fire_102 rfl rfl ?_
      refine mx_iconst (pc' := 104) (v := nI 0) dX3_fire_103 (by decide) rfl ?_
      refine mx_callV (pc' := 107) dX3_fire_104 cl_X3_98 (s0) (t_X3_shoot _ a hs _ hF c 0 0 hc (by decide) (by decide)) rfl (by decide) rfl (Nat.le_of_ble_eq_true rfl) rfl (fun v N104 hv => ?_)
      obtain ⟨rfl, hF, hO⟩ := (hv : _ ∧ _ ∧ Out _ _ _ _)
      have hO9 := hO9.tr hO
      refine mx_iinc (pc' := 110) (ls' := [_, _, _, _]) (v := dr 1) dX3_fire_107 rfl (by decide) (by decide) (rfl) rfl rfl ?_
      refine mx_goto (pc' := 95) dX3_fire_110 (by decide) ?_
      refine mx_iload_n (pc' := 96) dX3_fire_95 rfl rfl ?_
      refine mx_iconst (pc' := 97) (v := nI 1) dX3_fire_96 (by decide) rfl ?_
      refine mx_icmp_gt (tgt := 113) (pc' := 100) dX3_fire_97 (by decide) rfl (fun c97 => ?_) (fun c97 => ?_)
      · exact absurd c97 (by decide)
      · refine mx_aload_n (pc' := 101) dX3_fire_100 rfl rfl ?_
        refine mx_iload_n (pc' := 102) dX3_fire_101 rfl rfl ?_
        refine mx_iload_n (pc' := 103) dX3_fire_102 rfl rfl ?_
        refine mx_iconst (pc' := 104) (v := nI 0) dX3_fire_103 (by decide) rfl ?_
        refine mx_callV (pc' := 107) dX3_fire_104 cl_X3_98 (s0) (t_X3_shoot _ a hs _ hF c 1 0 hc (by decide) (by decide)) rfl (by decide) rfl (Nat.le_of_ble_eq_true rfl) rfl (fun v N104 hv => ?_)
        obtain ⟨rfl, hF, hO⟩ := (hv : _ ∧ _ ∧ Out _ _ _ _)
        have hO9 := hO9.tr hO
        refine mx_iinc (pc' := 110) (ls' := [_, _, _, _]) (v := dr 2) dX3_fire_107 rfl (by decide) (by decide) (rfl) rfl rfl ?_
        refine mx_goto (pc' := 95) dX3_fire_110 (by decide) ?_
        refine mx_iload_n (pc' := 96) dX3_fire_95 rfl rfl ?_
        refine mx_iconst (pc' := 97) (v := nI 1) dX3_fire_96 (by decide) rfl ?_
        refine mx_icmp_gt (tgt := 113) (pc' := 100) dX3_fire_97 (by decide) rfl (fun c97 => ?_) (fun c97 => ?_)
        · exact absurd c97 (by decide)
        · refine mx_aload_n (pc' := 101) dX3_fire_100 rfl rfl ?_
          refine mx_iload_n (pc' := 102) dX3_fire_101 rfl rfl ?_
          refine mx_iload_n (pc' := 103) dX3_fire_102 rfl rfl ?_
          refine mx_iconst (pc' := 104) (v := nI 0) dX3_fire_103 (by decide) rfl ?_
          refine mx_callV (pc' := 107) dX3_fire_104 cl_X3_98 (s0) (t_X3_shoot _ a hs _ hF c 2 0 hc (by decide) (by decide)) rfl (by decide) rfl (Nat.le_of_ble_eq_true rfl) rfl (fun v N104 hv => ?_)
          obtain ⟨rfl, hF, hO⟩ := (hv : _ ∧ _ ∧ Out _ _ _ _)
          have hO9 := hO9.tr hO
          refine mx_iinc (pc' := 110) (ls' := [_, _, _, _]) (v := dr 3) dX3_fire_107 rfl (by decide) (by decide) (rfl) rfl rfl ?_
          refine mx_goto (pc' := 95) dX3_fire_110 (by decide) ?_
          refine mx_iload_n (pc' := 96) dX3_fire_95 rfl rfl ?_
          refine mx_iconst (pc' := 97) (v := nI 1) dX3_fire_96 (by decide) rfl ?_
          refine mx_icmp_gt (tgt := 113) (pc' := 100) dX3_fire_97 (by decide) rfl (fun c97 => ?_) (fun c97 => ?_)
          · refine mx_vret dX3_fire_113 rfl ?_
            exact ⟨rfl, hF, hO9⟩
          · exact absurd (by decide) c97

