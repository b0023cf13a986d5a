theorem nwl_in : ∀ w ∈ nwl, w ∈ lw_tbl := by decide +kernel
theorem nwl_tab : ∀ w ∈ nwl, w.onTables = true := by decide +kernel
def wdT_ : Term := .field (.string "RingBars$Reader" 73) "java/lang/String" "value" "[B"
theorem wd_in : ∀ j : Nat, j < 144 → Cond.eq (.elem wdT_ (.int (Int32.ofNat j))) (.int (wdB.getD j 0)) ∈ flatC (Jvm.Cond.and given_1 narrow_1) := by decide +kernel
set_option maxRecDepth 100000 in
theorem lw_SO {b : Nat} {s : State} (hts : ∀ w ∈ lw_tbl, w.before #[Value.ref b] s = true) (hgv : (Jvm.Cond.and given_1 narrow_1).before #[Value.ref b] s = true) : ∃ q t : Nat, vk_R "RingBars$Reader" 73 wdT q s ∧ va_O "java/lang/String" q (fun a => s.heap.size ≤ a) s s.heap ∧ va_OF "java/lang/String" "coder" "B" (.int 0) q (fun a => s.heap.size ≤ a) s s.heap ∧ va_OF "java/lang/String" "value" "[B" (.ref t) q (fun a => s.heap.size ≤ a) s s.heap ∧ va_T .byte t 144 (fun j => .int (wdB.getD j 0)) (fun a => s.heap.size ≤ a) s s.heap ∧ va_Z "java/lang/String" "COMPACT_STRINGS" "Z" (.int 1) (fun a => s.heap.size ≤ a) s s.heap ∧ ∃ z : Value, (z = .null ∨ ∃ q : Nat, z = .ref q) ∧ va_Z "jdk/internal/util/Preconditions" "SIOOBE_FORMATTER" "Ljava/util/function/BiFunction;" z (fun a => s.heap.size ≤ a) s s.heap := by
  have hs := flat_of_before _ hgv
  have hA : ∀ a : Nat, a < s.heap.size → ¬ s.heap.size ≤ a := fun a h => Nat.not_le.mpr h
  obtain ⟨adK, adV, hSt, hev⟩ := vk_Sof (args := #[Value.ref b]) (s := s) (N := 1) (tm := fun _ => Term.string "RingBars$Reader" 73) (len := [144]) (byt := [wdB]) (A := fun a => s.heap.size ≤ a)
    (fun i hi => by match i, hi with | 0, _ => decide)
    (fun i hi => hs _ (by decide +kernel)) (fun i hi => hs _ (by decide +kernel)) (fun i hi => hs _ (by decide +kernel))
    (fun i hi => by match i, hi with | 0, _ => exact hs _ (by decide +kernel))
    (fun i hi j hj => by match i, hi with | 0, _ => exact hs _ (wd_in j hj))
    (fun i j hi hj h => absurd (show i = j by omega) h) hA
  have h0 := hSt.1 0 (by decide)
  refine ⟨adK 0, adV 0, vk_R.of (hts (.stringRef "RingBars$Reader" 73 wdT) (by decide +kernel)) (hev 0 (by decide)), h0.1, h0.2.1, h0.2.2.1, h0.2.2.2, ?_, ?_⟩
  · exact va_Zof (hts (.laysStatic "java/lang/String" "COMPACT_STRINGS" "Z") (by decide +kernel)) (hts (.initialized "java/lang/String") (by decide +kernel)) (va_eqt (hs (Cond.eq (.static "java/lang/String" "COMPACT_STRINGS" "Z") (.int 1)) (by decide +kernel))) hA
  · obtain ⟨v, hv, hr⟩ := Cond.isRef_spec (show (Cond.isRef (.static "jdk/internal/util/Preconditions" "SIOOBE_FORMATTER" "Ljava/util/function/BiFunction;")).before #[Value.ref b] s = true from hs _ (by decide +kernel))
    refine ⟨v, ?_, va_Zof (hts (.laysStatic "jdk/internal/util/Preconditions" "SIOOBE_FORMATTER" "Ljava/util/function/BiFunction;") (by decide +kernel)) (hts (.initialized "jdk/internal/util/Preconditions") (by decide +kernel)) hv hA⟩
    cases v with
    | null => exact Or.inl rfl
    | ref q => exact Or.inr ⟨q, rfl⟩
    | _ => simp [Value.isRef] at hr
set_option maxHeartbeats 4000000 in
theorem lw_KT {b : Nat} {s : State} (hts : ∀ w ∈ lw_tbl, w.before #[Value.ref b] s = true) (hgv : (Jvm.Cond.and given_1 narrow_1).before #[Value.ref b] s = true) : ∃ K : KE, KT K s ∧ TY K (fun _ => none) s.heap := by
  have hok : ∀ w ∈ okW, w.before #[Value.ref b] s = true := fun w hw => hts w (ok_in hw)
  obtain ⟨c0, i0, k0⟩ := u_known hok inX0 (hok _ wIS_X0)
  obtain ⟨c1, i1, k1⟩ := u_known hok inX1 (hok _ wIS_X1)
  obtain ⟨c2, i2, k2⟩ := u_known hok inX2 (hok _ wIS_X2)
  obtain ⟨c3, i3, k3⟩ := u_known hok inX3 (hok _ wIS_X3)
  obtain ⟨c4, i4, k4⟩ := u_known hok inX4 (hok _ wIS_X4)
  obtain ⟨c5, i5, k5⟩ := u_known hok inX5 (hok _ wIS_X5)
  obtain ⟨c6, i6, k6⟩ := u_known hok inX6 (hok _ wIS_X6)
  obtain ⟨c7, i7, k7⟩ := u_known hok inX7 (hok _ wIS_X7)
  obtain ⟨c8, i8, k8⟩ := u_known hok inX8 (hok _ wIS_X8)
  obtain ⟨c9, i9, k9⟩ := u_known hok inX9 (hok _ wIS_X9)
  obtain ⟨c10, i10, k10⟩ := u_known hok inX10 (hok _ wIS_X10)
  obtain ⟨a0, u0, comp0, f0, g0, h0⟩ := Cond.arrayClass_spec (hok _ wAC_int)
  have ab : va_AO "RingBars$Bar" s := va_AO.of (hts (.arrayOver (.object "RingBars$Bar")) (by decide +kernel))
  have at_ : va_AO "RingBars$Text" s := va_AO.of (hts (.arrayOver (.object "RingBars$Text")) (by decide +kernel))
  have ai : ao_ok s := hts (.arrayOver (.array .int)) (by decide +kernel)
  obtain ⟨comp1, a1, u1, e1, d1, f1, g1, h1⟩ := Cond.arrayOver_spec ab
  obtain ⟨comp2, a2, u2, e2, d2, f2, g2, h2⟩ := Cond.arrayOver_spec at_
  obtain ⟨comp3, a3, u3, e3, f3, g3, h3⟩ := ao_spec ai
  obtain ⟨q, t, so1, so2⟩ := lw_SO hts hgv
  refine ⟨((fun j => match j with | 0 => c0 | 1 => c1 | 2 => c2 | 3 => c3 | 4 => c4 | 5 => c5 | 6 => c6 | 7 => c7 | 8 => c8 | 9 => c9 | 10 => c10 | _ => c0, fun j => match j with | 0 => i0 | 1 => i1 | 2 => i2 | 3 => i3 | 4 => i4 | 5 => i5 | 6 => i6 | 7 => i7 | 8 => i8 | 9 => i9 | 10 => i10 | _ => i0), (fun j => match j with | 0 => a0 | 1 => a1 | 2 => a2 | _ => a3), (fun j => match j with | 0 => q | _ => t), s), ⟨⟨fun c q hq => ?_, fun k q hq => ?_⟩, fun w hw => ?_, ab, at_, ai, Vm.Alike.refl _, so1⟩, ⟨(fun a t h => by cases h), (fun a t h => by cases h), Nat.le_refl _, so2⟩⟩
  · exact match c, hq with
    | 0, hq => by cases hq; exact k0
    | 1, hq => by cases hq; exact k1
    | 2, hq => by cases hq; exact k2
    | 3, hq => by cases hq; exact k3
    | 4, hq => by cases hq; exact k4
    | 5, hq => by cases hq; exact k5
    | 6, hq => by cases hq; exact k6
    | 7, hq => by cases hq; exact k7
    | 8, hq => by cases hq; exact k8
    | 9, hq => by cases hq; exact k9
    | 10, hq => by cases hq; exact k10
    | j + 11, hq => absurd hq (by simp [vwCl])
  · exact match k, hq with
    | 0, hq => by cases hq; exact ⟨fun n z => ⟨fun k h => (by cases h), u0, g0, comp0, h0⟩, f0⟩
    | 1, hq => by cases hq; exact ⟨fun n z => ⟨fun k h => (by cases h), u1, f1, comp1, g1⟩, u1, comp1, f1, g1, e1, h1⟩
    | 2, hq => by cases hq; exact ⟨fun n z => ⟨fun k h => (by cases h), u2, f2, comp2, g2⟩, u2, comp2, f2, g2, e2, h2⟩
    | 3, hq => by cases hq; exact ⟨fun n z => ⟨fun k h => (by cases h), u3, f3, comp3, g3⟩, h3⟩
    | j + 4, hq => absurd hq (by simp [tyL])
  · exact va_Nw.of (nwl_tab w hw) (hts w (nwl_in w hw))