/-! THE START OF THE LAW: what the tables say of the classes, both objects made -/
theorem lw_K {s : State} {args : Array Value} (hts0 : ∀ w ∈ lw_tbl, w.before args s = true) : ∃ (D : va_G) (cy : Nat → ClassId), mx_S D cy s ∧ cx_O cy s := by
  have hts : ∀ w ∈ mx_TW, w.before args s = true := fun w hw => hts0 w (List.mem_filter.mp hw).1
  obtain ⟨c0, i0, hK0⟩ := u_known (C := RX0) (T := TX0) (N := 6) (n := 6) hts mw_X0 (hts _ (mx_in 83 (by decide +kernel) (by decide +kernel)))
  obtain ⟨c1, i1, hK1⟩ := u_known (C := RX1) (T := TX1) (N := 4) (n := 4) hts mw_X1 (hts _ (mx_in 187 (by decide +kernel) (by decide +kernel)))
  obtain ⟨c2, i2, hK2⟩ := u_known (C := RX2) (T := TX2) (N := 5) (n := 5) hts mw_X2 (hts _ (mx_in 49 (by decide +kernel) (by decide +kernel)))
  obtain ⟨c3, i3, hK3⟩ := u_known (C := RX3) (T := TX3) (N := 9) (n := 9) hts mw_X3 (hts _ (mx_in 43 (by decide +kernel) (by decide +kernel)))
  obtain ⟨c4, i4, hK4⟩ := u_known (C := RX4) (T := TX4) (N := 2) (n := 2) hts mw_X4 (hts _ (mx_in 153 (by decide +kernel) (by decide +kernel)))
  obtain ⟨c5, i5, hK5⟩ := u_known (C := RX5) (T := TX5) (N := 2) (n := 2) hts mw_X5 (hts _ (mx_in 209 (by decide +kernel) (by decide +kernel)))
  obtain ⟨c6, i6, hK6⟩ := u_known (C := RX6) (T := TX6) (N := 2) (n := 2) hts mw_X6 (hts _ (mx_in 170 (by decide +kernel) (by decide +kernel)))
  obtain ⟨c7, i7, hK7⟩ := u_known (C := RX7) (T := TX7) (N := 8) (n := 8) hts mw_X7 (hts _ (mx_in 35 (by decide +kernel) (by decide +kernel)))
  obtain ⟨dC, dI, hKc⟩ : ∃ (dC : Nat → ClassId) (dI : Nat → Nat → Nat), ∀ (k : Nat) (q : vw_C), vwCl[k]? = some q → u_Kn s q.1 q.2.1 q.2.2 (dC k) (dI k) := by
    refine ⟨fun k => if k = 0 then c0 else if k = 1 then c1 else if k = 2 then c2 else if k = 3 then c3 else if k = 4 then c4 else if k = 5 then c5 else if k = 6 then c6 else c7, fun k => if k = 0 then i0 else if k = 1 then i1 else if k = 2 then i2 else if k = 3 then i3 else if k = 4 then i4 else if k = 5 then i5 else if k = 6 then i6 else i7, ?_⟩
    intro k q hq
    match k, hq with
    | 0, hq => cases hq; exact hK0
    | 1, hq => cases hq; exact hK1
    | 2, hq => cases hq; exact hK2
    | 3, hq => cases hq; exact hK3
    | 4, hq => cases hq; exact hK4
    | 5, hq => cases hq; exact hK5
    | 6, hq => cases hq; exact hK6
    | 7, hq => cases hq; exact hK7
    | k + 8, hq => simp [vwCl] at hq
  obtain ⟨a0, k0, p0, n0, f0, g0⟩ := Cond.arrayClass_spec (hts _ cw_i)
  obtain ⟨a1, k1, p1, n1, f1, g1⟩ := Cond.arrayClass_spec (hts _ cw_z)
  have hov : (Cond.arrayOver (.object RX3)).before args s = true := hts0 _ (List.mem_of_getElem? (i := 159) (by decide +kernel))
  have hoa : (Cond.arrayOver (.array .int)).before args s = true := hts0 _ (List.mem_of_getElem? (i := 215) (by decide +kernel))
  obtain ⟨p2, a2, k2, m2, -, f2, g2, n2⟩ := Cond.arrayOver_spec hov
  obtain ⟨p3, a3, k3, m3, -, f3, g3, n3⟩ := arrayOverA_spec hoa
  have e30 : p3 = a0 := Option.some.inj (m3.symm.trans n0)
  refine ⟨(dC, dI), fun k => if k = 0 then a0 else if k = 1 then a1 else if k = 2 then a2 else a3, ⟨⟨hKc, ?_⟩, ?_⟩, ?_⟩
  · intro k q hq
    match k, hq with
    | 0, hq => cases hq; exact ⟨fun n z => ⟨fun k h => (by cases h), k0, f0, p0, g0⟩, n0⟩
    | 1, hq => cases hq; exact ⟨fun n z => ⟨fun k h => (by cases h), k1, f1, p1, g1⟩, n1⟩
    | 2, hq => cases hq; exact ⟨fun n z => ⟨fun k h => (by cases h), k2, f2, p2, g2⟩, k2, p2, f2, g2, m2, n2⟩
    | 3, hq => cases hq; exact ⟨fun n z => ⟨fun k h => (by cases h), k3, f3, p3, g3⟩, n3⟩
    | k + 4, hq => simp [mx_ty] at hq
  · intro w hw
    obtain ⟨x1, x2, x3, x4, rfl⟩ := mx_nest_is hw
    exact va_Nw.of rfl (hts0 _ (List.mem_append_right _ (List.mem_filter.mp hw).1))
  · refine ⟨va_AO.of hov, ⟨k3, f3, ?_⟩, k0, p0, f0, g0⟩
    show k3.kind = .array a0 (.array .int)
    rw [← e30]
    exact g3
theorem eCo_len : (eCo 0).length = 143 := by decide +kernel
