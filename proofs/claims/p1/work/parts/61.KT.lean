theorem nwl_in : ∀ w ∈ nwl, w ∈ lw_tbl := by decide +kernel
theorem nwl_tab : ∀ w ∈ nwl, w.onTables = true := by decide +kernel
set_option maxHeartbeats 4000000 in
theorem lw_KT {args : Array Value} {s : State} (hts : ∀ w ∈ lw_tbl, w.before args s = true) : ∃ K : KE, KT K s := by
  have hok : ∀ w ∈ okW, w.before args s = true := fun w hw => hts w (ok_in hw)
  obtain ⟨c0, i0, k0⟩ := u_known hok inX0 (hok _ wIS_X0)
  obtain ⟨c1, i1, k1⟩ := u_known hok inX1 (hok _ wIS_X1)
  obtain ⟨c2, i2, k2⟩ := u_known hok inX2 (hok _ wIS_X2)
  obtain ⟨c3, i3, k3⟩ := u_known hok inX3 (hok _ wIS_X3)
  obtain ⟨c4, i4, k4⟩ := u_known hok inX4 (hok _ wIS_X4)
  obtain ⟨c5, i5, k5⟩ := u_known hok inX5 (hok _ wIS_X5)
  obtain ⟨c6, i6, k6⟩ := u_known hok inX6 (hok _ wIS_X6)
  obtain ⟨c7, i7, k7⟩ := u_known hok inX7 (hok _ wIS_X7)
  obtain ⟨c8, i8, k8⟩ := u_known hok inX8 (hok _ wIS_X8)
  obtain ⟨c9, i9, k9⟩ := u_known hok inX9 (hok _ wIS_X9)
  obtain ⟨c10, i10, k10⟩ := u_known hok inX10 (hok _ wIS_X10)
  obtain ⟨a0, u0, comp0, f0, g0, h0⟩ := Cond.arrayClass_spec (hok _ wAC_int)
  have ab : va_AO "RingBars$Bar" s := va_AO.of (hts (.arrayOver (.object "RingBars$Bar")) (by decide +kernel))
  have at_ : va_AO "RingBars$Text" s := va_AO.of (hts (.arrayOver (.object "RingBars$Text")) (by decide +kernel))
  have ai : ao_ok s := hts (.arrayOver (.array .int)) (by decide +kernel)
  obtain ⟨comp1, a1, u1, e1, d1, f1, g1, h1⟩ := Cond.arrayOver_spec ab
  obtain ⟨comp2, a2, u2, e2, d2, f2, g2, h2⟩ := Cond.arrayOver_spec at_
  obtain ⟨comp3, a3, u3, e3, f3, g3, h3⟩ := ao_spec ai
  refine ⟨((fun j => match j with | 0 => c0 | 1 => c1 | 2 => c2 | 3 => c3 | 4 => c4 | 5 => c5 | 6 => c6 | 7 => c7 | 8 => c8 | 9 => c9 | 10 => c10 | _ => c0, fun j => match j with | 0 => i0 | 1 => i1 | 2 => i2 | 3 => i3 | 4 => i4 | 5 => i5 | 6 => i6 | 7 => i7 | 8 => i8 | 9 => i9 | 10 => i10 | _ => i0), (fun j => match j with | 0 => a0 | 1 => a1 | 2 => a2 | _ => a3), fun _ => 0), ⟨fun c q hq => ?_, fun k q hq => ?_⟩, fun w hw => ?_, ab, at_, ai⟩
  · exact match c, hq with
    | 0, hq => by cases hq; exact k0
    | 1, hq => by cases hq; exact k1
    | 2, hq => by cases hq; exact k2
    | 3, hq => by cases hq; exact k3
    | 4, hq => by cases hq; exact k4
    | 5, hq => by cases hq; exact k5
    | 6, hq => by cases hq; exact k6
    | 7, hq => by cases hq; exact k7
    | 8, hq => by cases hq; exact k8
    | 9, hq => by cases hq; exact k9
    | 10, hq => by cases hq; exact k10
    | j + 11, hq => absurd hq (by simp [vwCl])
  · exact match k, hq with
    | 0, hq => by cases hq; exact ⟨fun n z => ⟨fun k h => (by cases h), u0, g0, comp0, h0⟩, f0⟩
    | 1, hq => by cases hq; exact ⟨fun n z => ⟨fun k h => (by cases h), u1, f1, comp1, g1⟩, u1, comp1, f1, g1, e1, h1⟩
    | 2, hq => by cases hq; exact ⟨fun n z => ⟨fun k h => (by cases h), u2, f2, comp2, g2⟩, u2, comp2, f2, g2, e2, h2⟩
    | 3, hq => by cases hq; exact ⟨fun n z => ⟨fun k h => (by cases h), u3, f3, comp3, g3⟩, h3⟩
    | j + 4, hq => absurd hq (by simp [tyL])
  · exact va_Nw.of (nwl_tab w hw) (hts w (nwl_in w hw))