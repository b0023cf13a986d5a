/-! ===== leastWaste: where it is, and how far ===== -/
def PW : Nat → Int
  | 0 => 43046721
  | 1 => 4782969
  | 2 => 531441
  | 3 => 59049
  | 4 => 6561
  | 5 => 729
  | 6 => 81
  | 7 => 9
  | _ => 1
def cw : Nat → Int
  | 0 => 0
  | 1 => -774840977
  | 2 => -860934418
  | 3 => -870500355
  | 4 => -871563236
  | 5 => -871681333
  | 6 => -871694454
  | 7 => -871695911
  | 8 => -871696072
  | 9 => -871696089
  | _ => -871696089
def RKs (f : Nat → Int32) : Nat → Int
  | 0 => 0
  | n + 1 => RKs f n + 2 * ((f n).toInt + 1) * PW n
def gm (f : Nat → Int32) (m : Nat) : Int := 774840978 - RKs f 8 - cw m
def GW (f : Nat → Int32) (i bl : Int) : Prop := ∀ j : Nat, j < 8 → ((j : Int) < i → 0 ≤ (f j).toInt ∧ (f j).toInt < bl) ∧ ((j : Int) = i → -1 ≤ (f j).toInt ∧ (f j).toInt < bl) ∧ (i < (j : Int) → (f j).toInt = -1)
theorem GW.congr {f f1 : Nat → Int32} {i bl : Int} (e : ∀ j, f1 j = f j) (h : GW f i bl) : GW f1 i bl := by rw [show f1 = f from funext e]; exact h
theorem GW.cast {f : Nat → Int32} {i i' bl : Int} (h : GW f i bl) (e : i' = i) : GW f i' bl := by rw [e]; exact h
theorem gm_congr {f f1 : Nat → Int32} {m : Nat} {M : Int} (e : ∀ j, f1 j = f j) (h : gm f m < M) : gm f1 m < M := by rw [show f1 = f from funext e]; exact h
theorem GW.init {H : Heap} {q : Nat} {bl : Int} (h : AB H q 8 (-1) (-1)) (hb : 0 ≤ bl) : GW (fun j => fI H q j) 0 bl := by
  intro j hj
  have := h j hj
  exact ⟨fun h => by omega, fun h => by dsimp only; omega, fun h => by dsimp only; omega⟩
theorem GW.inc {f f1 : Nat → Int32} {i bl : Int} {k : Nat} (h : GW f i bl) (hk : (k : Int) = i) (ho : ∀ j, j ≠ k → f1 j = f j) (h1 : 0 ≤ (f1 k).toInt ∧ (f1 k).toInt < bl) : GW f1 i bl := by
  intro j hj
  by_cases e : j = k
  · subst e
    exact ⟨fun h => by omega, fun h => by omega, fun h => by omega⟩
  · rw [ho j e]
    exact h j hj
theorem GW.push {f : Nat → Int32} {i i' bl : Int} {k : Nat} (h : GW f i bl) (hk : (k : Int) = i) (h0 : 0 ≤ (f k).toInt) (hi : i' = i + 1) (hb : 0 ≤ bl) : GW f i' bl := by
  intro j hj
  have h2 := h j hj
  by_cases e : j = k
  · subst e
    exact ⟨fun h => by have := h2.2.1 hk; omega, fun h => by omega, fun h => by omega⟩
  · exact ⟨fun h => h2.1 (by omega), fun h => by have := h2.2.2 (by omega); omega, fun h => h2.2.2 (by omega)⟩
theorem GW.pop {f f1 : Nat → Int32} {i i' bl : Int} {k : Nat} (h : GW f i bl) (hk : (k : Int) = i) (ho : ∀ j, j ≠ k → f1 j = f j) (h1 : (f1 k).toInt = -1) (hi : i' = i - 1) : GW f1 i' bl := by
  intro j hj
  have h2 := h j hj
  by_cases e : j = k
  · subst e
    exact ⟨fun h => by omega, fun h => by omega, fun h => h1⟩
  · rw [ho j e]
    exact ⟨fun h => h2.1 (by omega), fun h => by have := h2.1 (by omega); omega, fun h => h2.2.2 (by omega)⟩
theorem GW.ab {H : Heap} {q : Nat} {i bl : Int} {k n : Nat} (h : GW (fun j => fI H q j) i bl) (hk : (k : Int) = i) (h0 : 0 ≤ (fI H q k).toInt) (hn : n = k + 1) (hb : bl ≤ 8) (h8 : k < 8) : AB H q n 0 7 := by
  intro j hj
  have h2 := h j (by omega)
  dsimp only at h2
  by_cases e : j = k
  · subst e
    have := h2.2.1 hk
    omega
  · have := h2.1 (by omega)
    omega
theorem RK8 (f : Nat → Int32) : RKs f 8 = 2 * ((f 0).toInt + 1) * 43046721 + 2 * ((f 1).toInt + 1) * 4782969 + 2 * ((f 2).toInt + 1) * 531441 + 2 * ((f 3).toInt + 1) * 59049 + 2 * ((f 4).toInt + 1) * 6561 + 2 * ((f 5).toInt + 1) * 729 + 2 * ((f 6).toInt + 1) * 81 + 2 * ((f 7).toInt + 1) * 9 := by
  simp only [RKs, PW]
  omega
theorem cw_le (m : Nat) : cw m ≤ 0 := by
  unfold cw
  split <;> decide
theorem gm_pos {f : Nat → Int32} {i bl : Int} {m : Nat} (h : GW f i bl) (hb : bl ≤ 8) : 0 ≤ gm f m := by
  have key : ∀ j : Nat, j < 8 → (f j).toInt ≤ 7 := by
    intro j hj
    have := h j hj
    rcases Int.lt_trichotomy (j : Int) i with e | e | e
    · have := this.1 e; omega
    · have := this.2.1 e; omega
    · have := this.2.2 e; omega
  have h0 := key 0 (by decide)
  have h1 := key 1 (by decide)
  have h2 := key 2 (by decide)
  have h3 := key 3 (by decide)
  have h4 := key 4 (by decide)
  have h5 := key 5 (by decide)
  have h6 := key 6 (by decide)
  have h7 := key 7 (by decide)
  have hc := cw_le m
  unfold gm
  rw [RK8]
  omega
theorem gm_stay {f f1 : Nat → Int32} {k m : Nat} (hk : k < 8) (ho : ∀ j, j ≠ k → f1 j = f j) (h1 : (f1 k).toInt = (f k).toInt + 1) (hm : m = k + 1) : gm f1 m < gm f m := by
  subst hm
  have hk8 : k = 0 ∨ k = 1 ∨ k = 2 ∨ k = 3 ∨ k = 4 ∨ k = 5 ∨ k = 6 ∨ k = 7 := by omega
  unfold gm
  rw [RK8, RK8]
  rcases hk8 with rfl | rfl | rfl | rfl | rfl | rfl | rfl | rfl
  · rw [ho 1 (by decide), ho 2 (by decide), ho 3 (by decide), ho 4 (by decide), ho 5 (by decide), ho 6 (by decide), ho 7 (by decide), h1]
    simp only [cw]
    omega
  · rw [ho 0 (by decide), ho 2 (by decide), ho 3 (by decide), ho 4 (by decide), ho 5 (by decide), ho 6 (by decide), ho 7 (by decide), h1]
    simp only [cw]
    omega
  · rw [ho 0 (by decide), ho 1 (by decide), ho 3 (by decide), ho 4 (by decide), ho 5 (by decide), ho 6 (by decide), ho 7 (by decide), h1]
    simp only [cw]
    omega
  · rw [ho 0 (by decide), ho 1 (by decide), ho 2 (by decide), ho 4 (by decide), ho 5 (by decide), ho 6 (by decide), ho 7 (by decide), h1]
    simp only [cw]
    omega
  · rw [ho 0 (by decide), ho 1 (by decide), ho 2 (by decide), ho 3 (by decide), ho 5 (by decide), ho 6 (by decide), ho 7 (by decide), h1]
    simp only [cw]
    omega
  · rw [ho 0 (by decide), ho 1 (by decide), ho 2 (by decide), ho 3 (by decide), ho 4 (by decide), ho 6 (by decide), ho 7 (by decide), h1]
    simp only [cw]
    omega
  · rw [ho 0 (by decide), ho 1 (by decide), ho 2 (by decide), ho 3 (by decide), ho 4 (by decide), ho 5 (by decide), ho 7 (by decide), h1]
    simp only [cw]
    omega
  · rw [ho 0 (by decide), ho 1 (by decide), ho 2 (by decide), ho 3 (by decide), ho 4 (by decide), ho 5 (by decide), ho 6 (by decide), h1]
    simp only [cw]
    omega
theorem gm_push {f f1 : Nat → Int32} {k m m2 : Nat} (hk : k < 8) (ho : ∀ j, j ≠ k → f1 j = f j) (h1 : (f1 k).toInt = (f k).toInt + 1) (hm : m = k + 1) (hm2 : m2 = k + 2) : gm f1 m2 < gm f m := by
  subst hm hm2
  have hk8 : k = 0 ∨ k = 1 ∨ k = 2 ∨ k = 3 ∨ k = 4 ∨ k = 5 ∨ k = 6 ∨ k = 7 := by omega
  unfold gm
  rw [RK8, RK8]
  rcases hk8 with rfl | rfl | rfl | rfl | rfl | rfl | rfl | rfl
  · rw [ho 1 (by decide), ho 2 (by decide), ho 3 (by decide), ho 4 (by decide), ho 5 (by decide), ho 6 (by decide), ho 7 (by decide), h1]
    simp only [cw]
    omega
  · rw [ho 0 (by decide), ho 2 (by decide), ho 3 (by decide), ho 4 (by decide), ho 5 (by decide), ho 6 (by decide), ho 7 (by decide), h1]
    simp only [cw]
    omega
  · rw [ho 0 (by decide), ho 1 (by decide), ho 3 (by decide), ho 4 (by decide), ho 5 (by decide), ho 6 (by decide), ho 7 (by decide), h1]
    simp only [cw]
    omega
  · rw [ho 0 (by decide), ho 1 (by decide), ho 2 (by decide), ho 4 (by decide), ho 5 (by decide), ho 6 (by decide), ho 7 (by decide), h1]
    simp only [cw]
    omega
  · rw [ho 0 (by decide), ho 1 (by decide), ho 2 (by decide), ho 3 (by decide), ho 5 (by decide), ho 6 (by decide), ho 7 (by decide), h1]
    simp only [cw]
    omega
  · rw [ho 0 (by decide), ho 1 (by decide), ho 2 (by decide), ho 3 (by decide), ho 4 (by decide), ho 6 (by decide), ho 7 (by decide), h1]
    simp only [cw]
    omega
  · rw [ho 0 (by decide), ho 1 (by decide), ho 2 (by decide), ho 3 (by decide), ho 4 (by decide), ho 5 (by decide), ho 7 (by decide), h1]
    simp only [cw]
    omega
  · rw [ho 0 (by decide), ho 1 (by decide), ho 2 (by decide), ho 3 (by decide), ho 4 (by decide), ho 5 (by decide), ho 6 (by decide), h1]
    simp only [cw]
    omega
theorem gm_pop {f f1 : Nat → Int32} {k m : Nat} (hk : k < 8) (ho : ∀ j, j ≠ k → f1 j = f j) (h1 : (f1 k).toInt = -1) (hx : -1 ≤ (f k).toInt ∧ (f k).toInt ≤ 7) (hm : m = k + 1) : gm f1 k < gm f m := by
  subst hm
  have hk8 : k = 0 ∨ k = 1 ∨ k = 2 ∨ k = 3 ∨ k = 4 ∨ k = 5 ∨ k = 6 ∨ k = 7 := by omega
  unfold gm
  rw [RK8, RK8]
  rcases hk8 with rfl | rfl | rfl | rfl | rfl | rfl | rfl | rfl
  · rw [ho 1 (by decide), ho 2 (by decide), ho 3 (by decide), ho 4 (by decide), ho 5 (by decide), ho 6 (by decide), ho 7 (by decide), h1]
    simp only [cw]
    omega
  · rw [ho 0 (by decide), ho 2 (by decide), ho 3 (by decide), ho 4 (by decide), ho 5 (by decide), ho 6 (by decide), ho 7 (by decide), h1]
    simp only [cw]
    omega
  · rw [ho 0 (by decide), ho 1 (by decide), ho 3 (by decide), ho 4 (by decide), ho 5 (by decide), ho 6 (by decide), ho 7 (by decide), h1]
    simp only [cw]
    omega
  · rw [ho 0 (by decide), ho 1 (by decide), ho 2 (by decide), ho 4 (by decide), ho 5 (by decide), ho 6 (by decide), ho 7 (by decide), h1]
    simp only [cw]
    omega
  · rw [ho 0 (by decide), ho 1 (by decide), ho 2 (by decide), ho 3 (by decide), ho 5 (by decide), ho 6 (by decide), ho 7 (by decide), h1]
    simp only [cw]
    omega
  · rw [ho 0 (by decide), ho 1 (by decide), ho 2 (by decide), ho 3 (by decide), ho 4 (by decide), ho 6 (by decide), ho 7 (by decide), h1]
    simp only [cw]
    omega
  · rw [ho 0 (by decide), ho 1 (by decide), ho 2 (by decide), ho 3 (by decide), ho 4 (by decide), ho 5 (by decide), ho 7 (by decide), h1]
    simp only [cw]
    omega
  · rw [ho 0 (by decide), ho 1 (by decide), ho 2 (by decide), ho 3 (by decide), ho 4 (by decide), ho 5 (by decide), ho 6 (by decide), h1]
    simp only [cw]
    omega
set_option maxHeartbeats 4000000 in
set_option maxRecDepth 100000 in
theorem a_X10_canHave (l : Launch) (K : KE) (G : Nat → Option Nat) (H : Heap) {a0 : Nat} (x1 : Int32) (x2 : Int32) {gq : Nat} (hT : TY K G H) (ga0 : G a0 = some 112) (hx1 : 0 ≤ x1.toInt ∧ x1.toInt ≤ 7) (ggq : G gq = some 160) (egq : gq = fR H a0 (K.1.2 10 68)) (hb_gv : AB H gq (x1.toNatClampNeg + 1) (0) (7)) : MX l K yX10_canHave cX10_canHave 5 (some .boolean) 1 21 0 0 [.ref a0, .int x1, .int x2] H (AE G [] H.size) (fun v H1 => ∃ (r : Int32), v = some (.int r) ∧ (0 ≤ r.toInt ∧ r.toInt ≤ 1) ∧ TY K G H1) := by
  refine MX.of (by decide +kernel) (Nat.le_of_ble_eq_true rfl) ?_
  intro p e s m below meth c ls Q C hH hl hQ
  subst hH
  have C : CX p K s m _ meth c RX10 cX10_canHave 5 (some .boolean) "canHave" := C
  obtain ⟨hx, hb, hml, hown, hts, hKT, hr, hlocks, hnm⟩ := id C
  have hl : lv_has ls 5 [(0, .ref a0), (1, .int x1), (2, .int x2)] := hl
  have hS : va_S (AE G [] s.heap.size) s.heap s.heap [] := va_S.rf
  have n_0 : (0 : Int32).toInt = 0 := rfl
  have n_1 : (1 : Int32).toInt = 1 := rfl
  have hap : ∀ x y, x < 74 → y < 74 → x ≠ y → K.1.2 10 x ≠ K.1.2 10 y := x_apart hKT hts inX10 tyX10 tyX10_ok nmX10 rfl
  have hx1n := i_cl (x := x1) (by omega)
  have J27 : ∀ (nf : Nat) (ls402 : Array Slot) (H401 : Heap) (locsH401 : List Loc) (x404 : Int32) (x405 : Int32), lv_has ls402 5 [(0, .ref a0), (1, .int x1), (2, .int x2), (3, .int x404), (4, .int x405)] → TY K G H401 → va_S (AE G [] s.heap.size) s.heap H401 locsH401 → (0 ≤ x404.toInt ∧ x404.toInt ≤ 7) → (0 ≤ x405.toInt ∧ x405.toInt ≤ 7) → (gq = fR H401 a0 (K.1.2 10 68)) → (AB H401 gq (x1.toNatClampNeg + 1) (0) (7)) → (7 - x405.toInt < (nf : Int)) → W p l e ({ frames := 1, cells := 0, slots := 0, locals := 21 } : Room) s m (([.ref a0, .int x1, .int x2] : List Value).toArray) below meth c H401 locsH401 0 0 Q (F0 m 27 ls402 []) := by
    intro nf
    induction nf with
    | zero =>
      intro ls402 H401 locsH401 x404 x405 hl403 hTH401 hSH401 bx404 bx405 cy406_0 by406_gv hm27
      exfalso
      omega
    | succ nf ih27 =>
      intro ls402 H401 locsH401 x404 x405 hl403 hTH401 hSH401 bx404 bx405 cy406_0 by406_gv hm27
      have J71 : ∀ (ls408 : Array Slot) (H407 : Heap) (locsH407 : List Loc) , lv_has ls408 5 [] → TY K G H407 → va_S (AE G [] s.heap.size) s.heap H407 locsH407 → (gq = fR H407 a0 (K.1.2 10 68)) → (AB H407 gq (x1.toNatClampNeg + 1) (0) (7)) → W p l e ({ frames := 1, cells := 0, slots := 0, locals := 21 } : Room) s m (([.ref a0, .int x1, .int x2] : List Value).toArray) below meth c H407 locsH407 0 0 Q (F0 m 71 ls408 []) := by
        intro ls408 H407 locsH407  hl409 hTH407 hSH407 cy410_0 by410_gv
        refine lv_iconst (v := 0) hx hb dX10_canHave_71 (by decide) ?_
        exact x_zret C hQ (Or.inl rfl) dX10_canHave_72 hSH407 (by decide) (by decide) (⟨0, rfl, by decide, hTH407⟩)
      refine lv_iload hx hb dX10_canHave_27 (lv_at hl403 4 rfl) ?_
      refine lv_iload_n hx hb dX10_canHave_29 rfl (lv_at hl403 1 rfl) ?_
      refine lv_icmp_ge (tgt := 79) hx hb dX10_canHave_30 (by decide) (fun c411 => ?_) (fun c411 => ?_)
      · have k412 := i_le c411
        refine lv_iconst (v := 1) hx hb dX10_canHave_79 (by decide) ?_
        exact x_zret C hQ (Or.inr rfl) dX10_canHave_80 hSH401 (by decide) (by decide) (⟨1, rfl, by decide, hTH401⟩)
      · have k412 := i_nle c411
        refine lv_aload_n hx hb dX10_canHave_33 rfl (lv_at hl403 0 rfl) ?_
        refine x_gr C hTH401 (ci := 10) (k := 68) rfl inX10 (by decide) wF_X10_158 ga0 rg_112 rfl dX10_canHave_34 (fun q413 eq413 gq413 => ?_)
        have uq413 : gq = q413 := (cy406_0).trans eq413.symm
        subst uq413
        refine lv_iload hx hb dX10_canHave_37 (lv_at hl403 4 rfl) ?_
        refine x_ai C hTH401 ggq rg_160 ⟨by omega, by show _ < ((8 : Nat) : Int); omega⟩ dX10_canHave_39 (fun x414 ex414 bx414 => ?_)
        have clx414 := i_cl (x := x405) (by omega)
        have abx414 := (by406_gv).at ex414 (by omega)
        refine lv_iload_n hx hb dX10_canHave_40 rfl (lv_at hl403 3 rfl) ?_
        refine lv_icmp_eq (tgt := 71) hx hb dX10_canHave_41 (by decide) (fun c415 => ?_) (fun c415 => ?_)
        · have k416 := i_eq c415
          have cl_x1 := i_cl (x := x1) (by omega)
          exact J71 ls402 H401 locsH401 (lv_sub hl403 [] rfl) hTH401 hSH401 cy406_0 (AB.weak by406_gv (by omega) (by omega) (by omega))
        · have k416 := i_ne c415
          refine lv_aload_n hx hb dX10_canHave_44 rfl (lv_at hl403 0 rfl) ?_
          refine lv_aload_n hx hb dX10_canHave_45 rfl (lv_at hl403 0 rfl) ?_
          refine x_gr C hTH401 (ci := 10) (k := 67) rfl inX10 (by decide) wF_X10_155 ga0 rg_112 rfl dX10_canHave_46 (fun q417 eq417 gq417 => ?_)
          refine lv_aload_n hx hb dX10_canHave_49 rfl (lv_at hl403 0 rfl) ?_
          refine x_gr C hTH401 (ci := 10) (k := 68) rfl inX10 (by decide) wF_X10_158 ga0 rg_112 rfl dX10_canHave_50 (fun q418 eq418 gq418 => ?_)
          have uq418 : gq = q418 := (cy406_0).trans eq418.symm
          subst uq418
          refine lv_iload hx hb dX10_canHave_53 (lv_at hl403 4 rfl) ?_
          refine x_ai C hTH401 ggq rg_160 ⟨by omega, by show _ < ((8 : Nat) : Int); omega⟩ dX10_canHave_55 (fun x419 ex419 bx419 => ?_)
          have ux419 : x414 = x419 := (ex414).trans ex419.symm
          subst ux419
          refine x_ai C hTH401 gq417 rg_159 ⟨by omega, by show _ < ((8 : Nat) : Int); omega⟩ dX10_canHave_56 (fun x420 ex420 bx420 => ?_)
          refine lv_aload_n hx hb dX10_canHave_57 rfl (lv_at hl403 0 rfl) ?_
          refine x_gr C hTH401 (ci := 10) (k := 67) rfl inX10 (by decide) wF_X10_155 ga0 rg_112 rfl dX10_canHave_58 (fun q421 eq421 gq421 => ?_)
          have uq421 : q417 = q421 := (eq417).trans eq421.symm
          subst uq421
          refine lv_iload_n hx hb dX10_canHave_61 rfl (lv_at hl403 3 rfl) ?_
          refine x_ai C hTH401 gq417 rg_159 ⟨by omega, by show _ < ((8 : Nat) : Int); omega⟩ dX10_canHave_62 (fun x422 ex422 bx422 => ?_)
          refine lv_isub hx hb dX10_canHave_63 ?_
          refine lv_topi (fun x423 ex423 => ?_)
          refine x_V (As := [.int x423]) (rest := []) C (a_X10_size l K G H401 (x423) hTH401 ga0) yo_X10_size wM_X10_309 ⟨⟨by decide, by decide⟩, by decide, by decide⟩ (x_rv C hTH401 (ci := 10) rfl ga0 rg_112) rfl hl403.1 rfl (Nat.le_of_ble_eq_true rfl) dX10_canHave_64 hSH401 (AE_sub (fun _ _ => rfl) (by decide) hSH401.1) (fun vH424 H424 locsH424 pH424 zH424 kH424 hSH424 => ?_)
          obtain ⟨x425, hvH424, hTH424⟩ := pH424
          subst hvH424
          have b426 : AB H424 gq (x1.toNatClampNeg + 1) (0) (7) := AB.kept (fun j => fI_kept (x_lt hTH401 kH424 ggq (by decide))) by406_gv
          have m427 := (cy406_0).trans (fR_kept (x_lt hTH401 kH424 ga0 (by decide))).symm
          have m428 := (ex414).trans (fI_kept (x_lt hTH401 kH424 ggq (by decide))).symm
          have m429 := (eq417).trans (fR_kept (x_lt hTH401 kH424 ga0 (by decide))).symm
          have m430 := (ex420).trans (fI_kept (x_lt hTH401 kH424 gq417 (by decide))).symm
          have m431 := (ex422).trans (fI_kept (x_lt hTH401 kH424 gq417 (by decide))).symm
          refine W.eq (g2 := F0 m 67 ls402 [.int x425]) rfl ?_
          refine lv_iload_n hx hb dX10_canHave_67 rfl (lv_at hl403 2 rfl) ?_
          refine lv_icmp_le (tgt := 73) hx hb dX10_canHave_68 (by decide) (fun c432 => ?_) (fun c432 => ?_)
          · have k433 := i_le c432
            obtain ⟨x434, ex434⟩ : ∃ y : Int32, y = x405 + 1 := ⟨_, rfl⟩
            have tx434 := i_add ex434 (by omega)
            refine lv_iinc (v := x434) (lv' := [(4, .int x434), (0, .ref a0), (1, .int x1), (2, .int x2), (3, .int x404)]) hx hb dX10_canHave_73 hl403 (k := 4) rfl (by rw [ex434]; rfl) (by decide) rfl (fun ls435 hl436 => ?_)
            refine lv_goto (tgt := 27) hx hb dX10_canHave_76 (by decide) ?_
            have cl_x1 := i_cl (x := x1) (by omega)
            exact ih27 ls435 H424 locsH424 (x404) (x434) (lv_sub hl436 [1, 2, 3, 4, 0] rfl) hTH424 hSH424 (by have := i_rng x404; omega) (by have := i_rng x434; omega) m427 (AB.weak b426 (by omega) (by omega) (by omega)) (by omega)
          · have k433 := i_nle c432
            have cl_x1 := i_cl (x := x1) (by omega)
            exact J71 ls402 H424 locsH424 (lv_sub hl403 [] rfl) hTH424 hSH424 m427 (AB.weak b426 (by omega) (by omega) (by omega))
  refine lv_aload_n hx hb dX10_canHave_0 rfl (lv_at hl 0 rfl) ?_
  refine x_gr C hT (ci := 10) (k := 68) rfl inX10 (by decide) wF_X10_158 ga0 rg_112 rfl dX10_canHave_1 (fun q437 eq437 gq437 => ?_)
  have uq437 : gq = q437 := (egq).trans eq437.symm
  subst uq437
  refine lv_iload_n hx hb dX10_canHave_4 rfl (lv_at hl 1 rfl) ?_
  refine x_ai C hT ggq rg_160 ⟨by omega, by show _ < ((8 : Nat) : Int); omega⟩ dX10_canHave_5 (fun x438 ex438 bx438 => ?_)
  have clx438 := i_cl (x := x1) (by omega)
  have abx438 := (hb_gv).at ex438 (by omega)
  refine lv_istore_n (lv' := [(3, .int x438), (0, .ref a0), (1, .int x1), (2, .int x2)]) hx hb dX10_canHave_6 rfl hl (by decide) rfl (fun ls439 hl440 => ?_)
  refine lv_aload_n hx hb dX10_canHave_7 rfl (lv_at hl440 1 rfl) ?_
  refine x_gr C hT (ci := 10) (k := 66) rfl inX10 (by decide) wF_X10_152 ga0 rg_112 rfl dX10_canHave_8 (fun q441 eq441 gq441 => ?_)
  refine lv_iload_n hx hb dX10_canHave_11 rfl (lv_at hl440 0 rfl) ?_
  refine x_ai C hT gq441 rg_158 ⟨by omega, by show _ < ((8 : Nat) : Int); omega⟩ dX10_canHave_12 (fun x442 ex442 bx442 => ?_)
  refine lv_aload_n hx hb dX10_canHave_13 rfl (lv_at hl440 1 rfl) ?_
  refine x_gr C hT (ci := 10) (k := 64) rfl inX10 (by decide) wF_X10_149 ga0 rg_112 rfl dX10_canHave_14 (fun q443 eq443 gq443 => ?_)
  refine lv_iload_n hx hb dX10_canHave_17 rfl (lv_at hl440 2 rfl) ?_
  refine x_ai C hT gq443 rg_157 ⟨by omega, by show _ < ((8 : Nat) : Int); omega⟩ dX10_canHave_18 (fun x444 ex444 bx444 => ?_)
  refine lv_icmp_ge (tgt := 24) hx hb dX10_canHave_19 (by decide) (fun c445 => ?_) (fun c445 => ?_)
  · have k446 := i_le c445
    refine lv_iconst (v := 0) hx hb dX10_canHave_24 (by decide) ?_
    refine lv_istore (lv' := [(4, .int 0), (3, .int x438), (0, .ref a0), (1, .int x1), (2, .int x2)]) hx hb dX10_canHave_25 hl440 (by decide) rfl (fun ls447 hl448 => ?_)
    have cl_x1 := i_cl (x := x1) (by omega)
    exact J27 ((7 - (0 : Int32).toInt).toNat + 1) ls447 s.heap [] (x438) (0) (lv_sub hl448 [2, 3, 4, 1, 0] rfl) hT hS (by have := i_rng x438; omega) (by decide) egq (AB.weak hb_gv (by omega) (by omega) (by omega)) (by omega)
  · have k446 := i_nle c445
    refine lv_iconst (v := 0) hx hb dX10_canHave_22 (by decide) ?_
    exact x_zret C hQ (Or.inl rfl) dX10_canHave_23 hS (by decide) (by decide) (⟨0, rfl, by decide, hT⟩)

set_option maxHeartbeats 4000000 in
set_option maxRecDepth 100000 in
theorem a_X10_leastWaste (l : Launch) (K : KE) (G : Nat → Option Nat) (H : Heap) {a0 : Nat} (x1 : Int32) {gq : Nat} (bl : Int32) (nt : Int32) (hT : TY K G H) (ga0 : G a0 = some 112) (ggq : G gq = some 160) (egq : gq = fR H a0 (K.1.2 10 68)) (ebl : bl = fI H a0 (K.1.2 10 65)) (ent : nt = fI H a0 (K.1.2 10 62)) : MX l K yX10_leastWaste cX10_leastWaste 6 (some .int) 2 45 0 0 [.ref a0, .int x1] H (AE G [160, 161] H.size) (fun v H1 => ∃ (r : Int32), v = some (.int r) ∧ TY K G H1) := by
  refine MX.of (by decide +kernel) (Nat.le_of_ble_eq_true rfl) ?_
  intro p e s m below meth c ls Q C hH hl hQ
  subst hH
  have C : CX p K s m _ meth c RX10 cX10_leastWaste 6 (some .int) "leastWaste" := C
  obtain ⟨hx, hb, hml, hown, hts, hKT, hr, hlocks, hnm⟩ := id C
  have hl : lv_has ls 6 [(0, .ref a0), (1, .int x1)] := hl
  have hS : va_S (AE G [160, 161] s.heap.size) s.heap s.heap [] := va_S.rf
  have n_m1 : ((-1) : Int32).toInt = -1 := rfl
  have n_0 : (0 : Int32).toInt = 0 := rfl
  have n_1 : (1 : Int32).toInt = 1 := rfl
  have n_8 : (8 : Int32).toInt = 8 := rfl
  have bbl := ty_fi (x := bl) (k := 65) ebl hT ga0 rg_112 rfl
  have bnt := ty_fi (x := nt) (k := 62) ent hT ga0 rg_112 rfl
  have hap : ∀ x y, x < 74 → y < 74 → x ≠ y → K.1.2 10 x ≠ K.1.2 10 y := x_apart hKT hts inX10 tyX10 tyX10_ok nmX10 rfl
  have J7 : ∀ (nf : Nat) (ls1426 : Array Slot) (H1425 : Heap) (locsH1425 : List Loc) (x1428 : Int32) (x1429 : Int32) (x1430 : Int32), lv_has ls1426 6 [(0, .ref a0), (1, .int x1), (2, .int x1428), (3, .int x1429), (4, .int x1430)] → TY K G H1425 → va_S (AE G [160, 161] s.heap.size) s.heap H1425 locsH1425 → ((-1) ≤ x1428.toInt ∧ x1428.toInt ≤ (-1)) → (0 ≤ x1429.toInt ∧ x1429.toInt ≤ 0) → (0 ≤ x1430.toInt ∧ x1430.toInt ≤ 8) → (gq = fR H1425 a0 (K.1.2 10 68)) → (bl = fI H1425 a0 (K.1.2 10 65)) → (nt = fI H1425 a0 (K.1.2 10 62)) → (AB H1425 gq (x1430.toNatClampNeg) (-1) (-1)) → (8 - x1430.toInt < (nf : Int)) → W p l e ({ frames := 2, cells := 0, slots := 0, locals := 45 } : Room) s m (([.ref a0, .int x1] : List Value).toArray) below meth c H1425 locsH1425 0 0 Q (F0 m 7 ls1426 []) := by
    intro nf
    induction nf with
    | zero =>
      intro ls1426 H1425 locsH1425 x1428 x1429 x1430 hl1427 hTH1425 hSH1425 bx1428 bx1429 bx1430 cy1431_0 cy1431_1 cy1431_2 by1431_ng hm7
      exfalso
      omega
    | succ nf ih7 =>
      intro ls1426 H1425 locsH1425 x1428 x1429 x1430 hl1427 hTH1425 hSH1425 bx1428 bx1429 bx1430 cy1431_0 cy1431_1 cy1431_2 by1431_ng hm7
      have J37 : ∀ (nf : Nat)  (ls1433 : Array Slot) (H1432 : Heap) (locsH1432 : List Loc) (x1435 : Int32) (x1436 : Int32), lv_has ls1433 6 [(0, .ref a0), (1, .int x1), (2, .int x1435), (3, .int x1436)] → TY K G H1432 → va_S (AE G [160, 161] s.heap.size) s.heap H1432 locsH1432 → ((-1) ≤ x1436.toInt ∧ x1436.toInt ≤ 7) → (gq = fR H1432 a0 (K.1.2 10 68)) → (bl = fI H1432 a0 (K.1.2 10 65)) → (nt = fI H1432 a0 (K.1.2 10 62)) → (GW (fun j => fI H1432 gq j) (x1436.toInt) (bl.toInt)) → (gm (fun j => fI H1432 gq j) (x1436.toInt + 1).toNat < (nf : Int)) → W p l e ({ frames := 2, cells := 0, slots := 0, locals := 45 } : Room) s m (([.ref a0, .int x1] : List Value).toArray) below meth c H1432 locsH1432 0 0 Q (F0 m 37 ls1433 []) := by
        intro nf
        induction nf with
        | zero =>
          intro  ls1433 H1432 locsH1432 x1435 x1436 hl1434 hTH1432 hSH1432 bx1436 cy1437_0 cy1437_1 cy1437_2 by1437_gw hm37 
          have rx1435 := i_rng x1435
          have := gm_pos (m := (x1436.toInt + 1).toNat) by1437_gw (by omega)
          exfalso
          omega
        | succ nf ih37 =>
          intro  ls1433 H1432 locsH1432 x1435 x1436 hl1434 hTH1432 hSH1432 bx1436 cy1437_0 cy1437_1 cy1437_2 by1437_gw hm37 
          have rx1435 := i_rng x1435
          have J117 : ∀ (nf : Nat) (ls1439 : Array Slot) (H1438 : Heap) (locsH1438 : List Loc) (x1442 : Int32) (x1443 : Int32), lv_has ls1439 6 [(0, .ref a0), (1, .int x1), (2, .int x1435), (3, .int x1436), (4, .int x1442), (5, .int x1443)] → TY K G H1438 → va_S (AE G [160, 161] s.heap.size) s.heap H1438 locsH1438 → (0 ≤ x1436.toInt ∧ x1436.toInt ≤ 7) → (0 ≤ x1443.toInt ∧ x1443.toInt ≤ 8) → (gq = fR H1438 a0 (K.1.2 10 68)) → (bl = fI H1438 a0 (K.1.2 10 65)) → (nt = fI H1438 a0 (K.1.2 10 62)) → (GW (fun j => fI H1438 gq j) (x1436.toInt) (bl.toInt)) → (gm (fun j => fI H1438 gq j) ((x1436.toInt + 1).toNat) < gm (fun j => fI H1432 gq j) (x1436.toInt + 1).toNat) → (AB H1438 gq (x1436.toNatClampNeg + 1) (0) (7)) → (8 - x1443.toInt < (nf : Int)) → (nt.toInt ≤ x1436.toInt + 1) → W p l e ({ frames := 2, cells := 0, slots := 0, locals := 45 } : Room) s m (([.ref a0, .int x1] : List Value).toArray) below meth c H1438 locsH1438 0 0 Q (F0 m 117 ls1439 []) := by
            intro nf
            induction nf with
            | zero =>
              intro ls1439 H1438 locsH1438 x1442 x1443 hl1440 hTH1438 hSH1438 b1441 bx1443 cy1444_0 cy1444_1 cy1444_2 by1444_gw by1444_gm by1444_gv hm117 iv117
              have rx1442 := i_rng x1442
              exfalso
              omega
            | succ nf ih117 =>
              intro ls1439 H1438 locsH1438 x1442 x1443 hl1440 hTH1438 hSH1438 b1441 bx1443 cy1444_0 cy1444_1 cy1444_2 by1444_gw by1444_gm by1444_gv hm117 iv117
              have rx1442 := i_rng x1442
              have J171 : ∀ (ls1446 : Array Slot) (H1445 : Heap) (locsH1445 : List Loc) , lv_has ls1446 6 [(0, .ref a0), (1, .int x1), (3, .int x1436), (4, .int x1442)] → TY K G H1445 → va_S (AE G [160, 161] s.heap.size) s.heap H1445 locsH1445 → (gq = fR H1445 a0 (K.1.2 10 68)) → (bl = fI H1445 a0 (K.1.2 10 65)) → (nt = fI H1445 a0 (K.1.2 10 62)) → (GW (fun j => fI H1445 gq j) (x1436.toInt) (bl.toInt)) → (gm (fun j => fI H1445 gq j) ((x1436.toInt + 1).toNat) < gm (fun j => fI H1432 gq j) (x1436.toInt + 1).toNat) → (AB H1445 gq (x1436.toNatClampNeg + 1) (0) (7)) → (nt.toInt ≤ x1436.toInt + 1) → W p l e ({ frames := 2, cells := 0, slots := 0, locals := 45 } : Room) s m (([.ref a0, .int x1] : List Value).toArray) below meth c H1445 locsH1445 0 0 Q (F0 m 171 ls1446 []) := by
                intro ls1446 H1445 locsH1445  hl1447 hTH1445 hSH1445 cy1448_0 cy1448_1 cy1448_2 by1448_gw by1448_gm by1448_gv iv171
                have J177 : ∀ (nf : Nat) (ls1450 : Array Slot) (H1449 : Heap) (locsH1449 : List Loc) (x1452 : Int32) (x1453 : Int32), lv_has ls1450 6 [(0, .ref a0), (1, .int x1), (2, .int x1452), (3, .int x1436), (5, .int x1453)] → TY K G H1449 → va_S (AE G [160, 161] s.heap.size) s.heap H1449 locsH1449 → (0 ≤ x1453.toInt ∧ x1453.toInt ≤ 8) → (gq = fR H1449 a0 (K.1.2 10 68)) → (bl = fI H1449 a0 (K.1.2 10 65)) → (nt = fI H1449 a0 (K.1.2 10 62)) → (GW (fun j => fI H1449 gq j) (x1436.toInt) (bl.toInt)) → (gm (fun j => fI H1449 gq j) ((x1436.toInt + 1).toNat) < gm (fun j => fI H1432 gq j) (x1436.toInt + 1).toNat) → (AB H1449 gq (x1436.toNatClampNeg + 1) (0) (7)) → (8 - x1453.toInt < (nf : Int)) → (nt.toInt ≤ x1436.toInt + 1) → W p l e ({ frames := 2, cells := 0, slots := 0, locals := 45 } : Room) s m (([.ref a0, .int x1] : List Value).toArray) below meth c H1449 locsH1449 0 0 Q (F0 m 177 ls1450 []) := by
                  intro nf
                  induction nf with
                  | zero =>
                    intro ls1450 H1449 locsH1449 x1452 x1453 hl1451 hTH1449 hSH1449 bx1453 cy1454_0 cy1454_1 cy1454_2 by1454_gw by1454_gm by1454_gv hm177 iv177
                    have rx1452 := i_rng x1452
                    exfalso
                    omega
                  | succ nf ih177 =>
                    intro ls1450 H1449 locsH1449 x1452 x1453 hl1451 hTH1449 hSH1449 bx1453 cy1454_0 cy1454_1 cy1454_2 by1454_gw by1454_gm by1454_gv hm177 iv177
                    have rx1452 := i_rng x1452
                    refine lv_iload hx hb dX10_leastWaste_177 (lv_at hl1451 4 rfl) ?_
                    refine lv_aload_n hx hb dX10_leastWaste_179 rfl (lv_at hl1451 0 rfl) ?_
                    refine x_gi C hTH1449 (ci := 10) (k := 62) rfl inX10 (by decide) wF_X10_455 ga0 rg_112 rfl dX10_leastWaste_180 (fun x1455 ex1455 bx1455 => ?_)
                    have ux1455 : nt = x1455 := (cy1454_2).trans ex1455.symm
                    subst ux1455
                    refine lv_icmp_ge (tgt := 206) hx hb dX10_leastWaste_183 (by decide) (fun c1456 => ?_) (fun c1456 => ?_)
                    · have k1457 := i_le c1456
                      refine lv_goto (tgt := 37) hx hb dX10_leastWaste_206 (by decide) ?_
                      have hmm : gm (fun j => fI H1449 gq j) (x1436.toInt + 1).toNat < gm (fun j => fI H1432 gq j) (x1436.toInt + 1).toNat := by
                        have e0 : (x1436.toInt + 1).toNat = (x1436.toInt + 1).toNat := by omega
                        rw [e0]
                        exact by1454_gm
                      exact ih37  ls1450 H1449 locsH1449 (x1452) (x1436) (lv_sub hl1451 [0, 1, 2, 3] rfl) hTH1449 hSH1449 (by have := i_rng x1436; omega) cy1454_0 cy1454_1 cy1454_2 (GW.cast by1454_gw (by omega)) (by omega) 
                    · have k1457 := i_nle c1456
                      have ci := i_cl (x := x1436) (by omega)
                      refine lv_aload_n hx hb dX10_leastWaste_186 rfl (lv_at hl1451 0 rfl) ?_
                      refine x_gr C hTH1449 (ci := 10) (k := 69) rfl inX10 (by decide) wF_X10_161 ga0 rg_112 rfl dX10_leastWaste_187 (fun q1458 eq1458 gq1458 => ?_)
                      refine lv_iload hx hb dX10_leastWaste_190 (lv_at hl1451 4 rfl) ?_
                      refine lv_aload_n hx hb dX10_leastWaste_192 rfl (lv_at hl1451 0 rfl) ?_
                      refine x_gr C hTH1449 (ci := 10) (k := 68) rfl inX10 (by decide) wF_X10_158 ga0 rg_112 rfl dX10_leastWaste_193 (fun q1459 eq1459 gq1459 => ?_)
                      have uq1459 : gq = q1459 := (cy1454_0).trans eq1459.symm
                      subst uq1459
                      refine lv_iload hx hb dX10_leastWaste_196 (lv_at hl1451 4 rfl) ?_
                      refine x_ai C hTH1449 ggq rg_160 ⟨by omega, by show _ < ((8 : Nat) : Int); omega⟩ dX10_leastWaste_198 (fun x1460 ex1460 bx1460 => ?_)
                      have clx1460 := i_cl (x := x1453) (by omega)
                      have abx1460 := (by1454_gv).at ex1460 (by omega)
                      refine x_iast C hTH1449 hSH1449 gq1458 rg_161 (by omega) (by show _ < ((8 : Nat) : Int); omega) ⟨by have := i_rng x1460; omega, by have := i_rng x1460; omega⟩ (AE_in gq1458 (by decide)) dX10_leastWaste_199 (fun H1461 locsH1461 hTH1461 hSH1461 wH1461 => ?_)
                      have b1462 : GW (fun j => fI H1461 gq j) (x1436.toInt) (bl.toInt) := GW.congr (fun j => Wr.neI wH1461 (Or.inl (G_ne ggq gq1458 (by decide)))) by1454_gw
                      have b1463 : gm (fun j => fI H1461 gq j) ((x1436.toInt + 1).toNat) < gm (fun j => fI H1432 gq j) (x1436.toInt + 1).toNat := gm_congr (fun j => Wr.neI wH1461 (Or.inl (G_ne ggq gq1458 (by decide)))) by1454_gm
                      have b1464 : AB H1461 gq (x1436.toNatClampNeg + 1) (0) (7) := AB.kept (fun j => Wr.neI wH1461 (Or.inl (G_ne ggq gq1458 (by decide)))) by1454_gv
                      have m1465 := cy1454_0.trans (Wr.neR wH1461 (Or.inl (G_ne ga0 gq1458 (by decide)))).symm
                      have m1466 := cy1454_1.trans (Wr.neI wH1461 (Or.inl (G_ne ga0 gq1458 (by decide)))).symm
                      have m1467 := cy1454_2.trans (Wr.neI wH1461 (Or.inl (G_ne ga0 gq1458 (by decide)))).symm
                      have m1468 := eq1458.trans (Wr.neR wH1461 (Or.inl (G_ne ga0 gq1458 (by decide)))).symm
                      have m1469 := ex1460.trans (Wr.neI wH1461 (Or.inl (G_ne ggq gq1458 (by decide)))).symm
                      have m1470 := Wr.I wH1461
                      have m1470 := m1470.symm
                      obtain ⟨x1471, ex1471⟩ : ∃ y : Int32, y = x1453 + 1 := ⟨_, rfl⟩
                      have tx1471 := i_add ex1471 (by omega)
                      refine lv_iinc (v := x1471) (lv' := [(5, .int x1471), (0, .ref a0), (1, .int x1), (2, .int x1452), (3, .int x1436)]) hx hb dX10_leastWaste_200 hl1451 (k := 4) rfl (by rw [ex1471]; rfl) (by decide) rfl (fun ls1472 hl1473 => ?_)
                      refine lv_goto (tgt := 177) hx hb dX10_leastWaste_203 (by decide) ?_
                      have cl_x1436 := i_cl (x := x1436) (by omega)
                      exact ih177 ls1472 H1461 locsH1461 (x1452) (x1471) (lv_sub hl1473 [1, 2, 3, 4, 0] rfl) hTH1461 hSH1461 (by have := i_rng x1471; omega) m1465 m1466 m1467 (GW.cast b1462 (by omega)) b1463 (AB.weak b1464 (by omega) (by omega) (by omega)) (by omega) (by omega)
                refine lv_iload hx hb dX10_leastWaste_171 (lv_at hl1447 3 rfl) ?_
                refine lv_istore_n (lv' := [(2, .int x1442), (0, .ref a0), (1, .int x1), (3, .int x1436), (4, .int x1442)]) hx hb dX10_leastWaste_173 rfl hl1447 (by decide) rfl (fun ls1474 hl1475 => ?_)
                refine lv_iconst (v := 0) hx hb dX10_leastWaste_174 (by decide) ?_
                refine lv_istore (lv' := [(5, .int 0), (2, .int x1442), (0, .ref a0), (1, .int x1), (3, .int x1436), (4, .int x1442)]) hx hb dX10_leastWaste_175 hl1475 (by decide) rfl (fun ls1476 hl1477 => ?_)
                have cl_x1436 := i_cl (x := x1436) (by omega)
                exact J177 ((8 - (0 : Int32).toInt).toNat + 1) ls1476 H1445 locsH1445 (x1442) (0) (lv_sub hl1477 [2, 3, 1, 4, 0] rfl) hTH1445 hSH1445 (by decide) cy1448_0 cy1448_1 cy1448_2 (GW.cast by1448_gw (by omega)) by1448_gm (AB.weak by1448_gv (by omega) (by omega) (by omega)) (by omega) (by omega)
              refine lv_iload hx hb dX10_leastWaste_117 (lv_at hl1440 5 rfl) ?_
              refine lv_aload_n hx hb dX10_leastWaste_119 rfl (lv_at hl1440 0 rfl) ?_
              refine x_gi C hTH1438 (ci := 10) (k := 62) rfl inX10 (by decide) wF_X10_455 ga0 rg_112 rfl dX10_leastWaste_120 (fun x1478 ex1478 bx1478 => ?_)
              have ux1478 : nt = x1478 := (cy1444_2).trans ex1478.symm
              subst ux1478
              refine lv_icmp_ge (tgt := 157) hx hb dX10_leastWaste_123 (by decide) (fun c1479 => ?_) (fun c1479 => ?_)
              · have k1480 := i_le c1479
                refine lv_iload_n hx hb dX10_leastWaste_157 rfl (lv_at hl1440 2 rfl) ?_
                refine lv_iconst (v := (-1)) hx hb dX10_leastWaste_158 (by decide) ?_
                refine lv_icmp_eq (tgt := 171) hx hb dX10_leastWaste_159 (by decide) (fun c1481 => ?_) (fun c1481 => ?_)
                · have k1482 := i_eq c1481
                  have cl_x1436 := i_cl (x := x1436) (by omega)
                  exact J171 ls1439 H1438 locsH1438 (lv_sub hl1440 [0, 1, 3, 4] rfl) hTH1438 hSH1438 cy1444_0 cy1444_1 cy1444_2 (GW.cast by1444_gw (by omega)) by1444_gm (AB.weak by1444_gv (by omega) (by omega) (by omega)) (by omega)
                · have k1482 := i_ne c1481
                  refine lv_iload hx hb dX10_leastWaste_162 (lv_at hl1440 4 rfl) ?_
                  refine lv_iload_n hx hb dX10_leastWaste_164 rfl (lv_at hl1440 2 rfl) ?_
                  refine lv_icmp_lt (tgt := 171) hx hb dX10_leastWaste_165 (by decide) (fun c1483 => ?_) (fun c1483 => ?_)
                  · have k1484 := i_lt c1483
                    have cl_x1436 := i_cl (x := x1436) (by omega)
                    exact J171 ls1439 H1438 locsH1438 (lv_sub hl1440 [0, 1, 3, 4] rfl) hTH1438 hSH1438 cy1444_0 cy1444_1 cy1444_2 (GW.cast by1444_gw (by omega)) by1444_gm (AB.weak by1444_gv (by omega) (by omega) (by omega)) (by omega)
                  · have k1484 := i_nlt c1483
                    refine lv_goto (tgt := 37) hx hb dX10_leastWaste_168 (by decide) ?_
                    have hmm : gm (fun j => fI H1438 gq j) (x1436.toInt + 1).toNat < gm (fun j => fI H1432 gq j) (x1436.toInt + 1).toNat := by
                      have e0 : (x1436.toInt + 1).toNat = (x1436.toInt + 1).toNat := by omega
                      rw [e0]
                      exact by1444_gm
                    exact ih37  ls1439 H1438 locsH1438 (x1435) (x1436) (lv_sub hl1440 [0, 1, 2, 3] rfl) hTH1438 hSH1438 (by have := i_rng x1436; omega) cy1444_0 cy1444_1 cy1444_2 (GW.cast by1444_gw (by omega)) (by omega) 
              · have k1480 := i_nle c1479
                have ci := i_cl (x := x1436) (by omega)
                refine lv_iload hx hb dX10_leastWaste_126 (lv_at hl1440 4 rfl) ?_
                refine lv_aload_n hx hb dX10_leastWaste_128 rfl (lv_at hl1440 0 rfl) ?_
                refine x_gr C hTH1438 (ci := 10) (k := 66) rfl inX10 (by decide) wF_X10_152 ga0 rg_112 rfl dX10_leastWaste_129 (fun q1485 eq1485 gq1485 => ?_)
                refine lv_aload_n hx hb dX10_leastWaste_132 rfl (lv_at hl1440 0 rfl) ?_
                refine x_gr C hTH1438 (ci := 10) (k := 68) rfl inX10 (by decide) wF_X10_158 ga0 rg_112 rfl dX10_leastWaste_133 (fun q1486 eq1486 gq1486 => ?_)
                have uq1486 : gq = q1486 := (cy1444_0).trans eq1486.symm
                subst uq1486
                refine lv_iload hx hb dX10_leastWaste_136 (lv_at hl1440 5 rfl) ?_
                refine x_ai C hTH1438 ggq rg_160 ⟨by omega, by show _ < ((8 : Nat) : Int); omega⟩ dX10_leastWaste_138 (fun x1487 ex1487 bx1487 => ?_)
                have clx1487 := i_cl (x := x1443) (by omega)
                have abx1487 := (by1444_gv).at ex1487 (by omega)
                refine x_ai C hTH1438 gq1485 rg_158 ⟨by omega, by show _ < ((8 : Nat) : Int); omega⟩ dX10_leastWaste_139 (fun x1488 ex1488 bx1488 => ?_)
                refine lv_iadd hx hb dX10_leastWaste_140 ?_
                refine lv_topi (fun x1489 ex1489 => ?_)
                refine lv_aload_n hx hb dX10_leastWaste_141 rfl (lv_at hl1440 0 rfl) ?_
                refine x_gr C hTH1438 (ci := 10) (k := 64) rfl inX10 (by decide) wF_X10_149 ga0 rg_112 rfl dX10_leastWaste_142 (fun q1490 eq1490 gq1490 => ?_)
                refine lv_iload hx hb dX10_leastWaste_145 (lv_at hl1440 5 rfl) ?_
                refine x_ai C hTH1438 gq1490 rg_157 ⟨by omega, by show _ < ((8 : Nat) : Int); omega⟩ dX10_leastWaste_147 (fun x1491 ex1491 bx1491 => ?_)
                refine lv_isub hx hb dX10_leastWaste_148 ?_
                refine lv_topi (fun x1492 ex1492 => ?_)
                refine lv_istore (lv' := [(4, .int x1492), (0, .ref a0), (1, .int x1), (2, .int x1435), (3, .int x1436), (5, .int x1443)]) hx hb dX10_leastWaste_149 hl1440 (by decide) rfl (fun ls1493 hl1494 => ?_)
                obtain ⟨x1495, ex1495⟩ : ∃ y : Int32, y = x1443 + 1 := ⟨_, rfl⟩
                have tx1495 := i_add ex1495 (by omega)
                refine lv_iinc (v := x1495) (lv' := [(5, .int x1495), (4, .int x1492), (0, .ref a0), (1, .int x1), (2, .int x1435), (3, .int x1436)]) hx hb dX10_leastWaste_151 hl1494 (k := 5) rfl (by rw [ex1495]; rfl) (by decide) rfl (fun ls1496 hl1497 => ?_)
                refine lv_goto (tgt := 117) hx hb dX10_leastWaste_154 (by decide) ?_
                have cl_x1436 := i_cl (x := x1436) (by omega)
                exact ih117 ls1496 H1438 locsH1438 (x1492) (x1495) (lv_sub hl1497 [2, 3, 4, 5, 1, 0] rfl) hTH1438 hSH1438 (by have := i_rng x1436; omega) (by have := i_rng x1495; omega) cy1444_0 cy1444_1 cy1444_2 (GW.cast by1444_gw (by omega)) by1444_gm (AB.weak by1444_gv (by omega) (by omega) (by omega)) (by omega) (by omega)
          refine lv_iload_n hx hb dX10_leastWaste_37 rfl (lv_at hl1434 3 rfl) ?_
          refine lv_if_lt (tgt := 209) hx hb dX10_leastWaste_38 (by decide) (fun c1498 => ?_) (fun c1498 => ?_)
          · have k1499 := i_lt c1498
            refine lv_iload_n hx hb dX10_leastWaste_209 rfl (lv_at hl1434 2 rfl) ?_
            exact x_iret C hQ dX10_leastWaste_210 hSH1432 (by decide) (by decide) (⟨x1435, rfl, hTH1432⟩)
          · have k1499 := i_nlt c1498
            refine lv_aload_n hx hb dX10_leastWaste_41 rfl (lv_at hl1434 0 rfl) ?_
            refine x_gr C hTH1432 (ci := 10) (k := 68) rfl inX10 (by decide) wF_X10_158 ga0 rg_112 rfl dX10_leastWaste_42 (fun q1500 eq1500 gq1500 => ?_)
            have uq1500 : gq = q1500 := (cy1437_0).trans eq1500.symm
            subst uq1500
            refine lv_iload_n hx hb dX10_leastWaste_45 rfl (lv_at hl1434 3 rfl) ?_
            refine lv_aload_n hx hb dX10_leastWaste_46 rfl (lv_at hl1434 0 rfl) ?_
            refine x_gr C hTH1432 (ci := 10) (k := 68) rfl inX10 (by decide) wF_X10_158 ga0 rg_112 rfl dX10_leastWaste_47 (fun q1501 eq1501 gq1501 => ?_)
            have uq1501 : gq = q1501 := (cy1437_0).trans eq1501.symm
            subst uq1501
            refine lv_iload_n hx hb dX10_leastWaste_50 rfl (lv_at hl1434 3 rfl) ?_
            refine x_ai C hTH1432 ggq rg_160 ⟨by omega, by show _ < ((8 : Nat) : Int); omega⟩ dX10_leastWaste_51 (fun x1502 ex1502 bx1502 => ?_)
            have ck0 := i_cl (x := x1436) (by omega)
            have hx0 := ((by1437_gw) x1436.toNatClampNeg (by omega)).2.1 (by omega)
            dsimp only at hx0
            rw [← ex1502] at hx0
            refine lv_iconst (v := 1) hx hb dX10_leastWaste_52 (by decide) ?_
            refine lv_iadd hx hb dX10_leastWaste_53 ?_
            refine lv_topi (fun x1503 ex1503 => ?_)
            have tx1503 := i_add ex1503 (by omega)
            refine x_iast C hTH1432 hSH1432 ggq rg_160 (by omega) (by show _ < ((8 : Nat) : Int); omega) ⟨by have := i_rng x1503; omega, by have := i_rng x1503; omega⟩ (AE_in ggq (by decide)) dX10_leastWaste_54 (fun H1504 locsH1504 hTH1504 hSH1504 wH1504 => ?_)
            have m1505 := cy1437_0.trans (Wr.neR wH1504 (Or.inl (G_ne ga0 ggq (by decide)))).symm
            have m1506 := cy1437_1.trans (Wr.neI wH1504 (Or.inl (G_ne ga0 ggq (by decide)))).symm
            have m1507 := cy1437_2.trans (Wr.neI wH1504 (Or.inl (G_ne ga0 ggq (by decide)))).symm
            have m1509 := Wr.I wH1504
            have m1509 := m1509.symm
            have ck := i_cl (x := x1436) (by omega)
            refine lv_aload_n hx hb dX10_leastWaste_55 rfl (lv_at hl1434 0 rfl) ?_
            refine x_gr C hTH1504 (ci := 10) (k := 68) rfl inX10 (by decide) wF_X10_158 ga0 rg_112 rfl dX10_leastWaste_56 (fun q1510 eq1510 gq1510 => ?_)
            have uq1510 : gq = q1510 := (m1505).trans eq1510.symm
            subst uq1510
            refine lv_iload_n hx hb dX10_leastWaste_59 rfl (lv_at hl1434 3 rfl) ?_
            refine x_ai C hTH1504 ggq rg_160 ⟨by omega, by show _ < ((8 : Nat) : Int); omega⟩ dX10_leastWaste_60 (fun x1511 ex1511 bx1511 => ?_)
            have ux1511 : x1503 = x1511 := (m1509).trans ex1511.symm
            subst ux1511
            refine lv_aload_n hx hb dX10_leastWaste_61 rfl (lv_at hl1434 0 rfl) ?_
            refine x_gi C hTH1504 (ci := 10) (k := 65) rfl inX10 (by decide) wF_X10_458 ga0 rg_112 rfl dX10_leastWaste_62 (fun x1512 ex1512 bx1512 => ?_)
            have ux1512 : bl = x1512 := (m1506).trans ex1512.symm
            subst ux1512
            refine lv_icmp_lt (tgt := 82) hx hb dX10_leastWaste_65 (by decide) (fun c1513 => ?_) (fun c1513 => ?_)
            · have k1514 := i_lt c1513
              have ev : (fI H1504 gq x1436.toNatClampNeg).toInt = x1502.toInt + 1 := by rw [Wr.I wH1504]; omega
              have ho1 : ∀ j : Nat, j ≠ x1436.toNatClampNeg → fI H1504 gq j = fI H1432 gq j := fun j hj => Wr.neI wH1504 (Or.inr hj)
              have g1 : GW (fun j => fI H1504 gq j) x1436.toInt bl.toInt := GW.inc (k := x1436.toNatClampNeg) by1437_gw (by omega) ho1 (by omega)
              have ev2 : (fI H1504 gq x1436.toNatClampNeg).toInt = (fI H1432 gq x1436.toNatClampNeg).toInt + 1 := by rw [ev, ex1502]
              have m1 : gm (fun j => fI H1504 gq j) ((x1436.toInt + 1).toNat) < gm (fun j => fI H1432 gq j) (x1436.toInt + 1).toNat := gm_stay (k := x1436.toNatClampNeg) (by omega) ho1 ev2 (by omega)
              have m2 : gm (fun j => fI H1504 gq j) ((x1436.toInt + 2).toNat) < gm (fun j => fI H1432 gq j) (x1436.toInt + 1).toNat := gm_push (k := x1436.toNatClampNeg) (by omega) ho1 ev2 (by omega) (by omega)
              have a1 : AB H1504 gq (x1436.toNatClampNeg + 1) 0 7 := GW.ab (k := x1436.toNatClampNeg) g1 (by omega) (by omega) rfl (by omega) (by omega)
              refine lv_aload_n hx hb dX10_leastWaste_82 rfl (lv_at hl1434 0 rfl) ?_
              refine lv_iload_n hx hb dX10_leastWaste_83 rfl (lv_at hl1434 3 rfl) ?_
              refine lv_iload_n hx hb dX10_leastWaste_84 rfl (lv_at hl1434 1 rfl) ?_
              refine x_V (As := [.int x1436, .int x1]) (rest := []) C (a_X10_canHave l K G H1504 (x1436) (x1) hTH1504 ga0 (by omega) ggq m1505 (AB.weak a1 (by omega) (by omega) (by omega))) yo_X10_canHave wM_X10_461 ⟨⟨by decide, by decide⟩, by decide, by decide⟩ (x_rv C hTH1504 (ci := 10) rfl ga0 rg_112) rfl hl1434.1 rfl (Nat.le_of_ble_eq_true rfl) dX10_leastWaste_85 hSH1504 (AE_sub (fun _ _ => rfl) (by decide) hSH1504.1) (fun vH1515 H1515 locsH1515 pH1515 zH1515 kH1515 hSH1515 => ?_)
              obtain ⟨x1516, hvH1515, bx1516, hTH1515⟩ := pH1515
              subst hvH1515
              have b1517 : GW (fun j => fI H1515 gq j) (x1436.toInt) (bl.toInt) := GW.congr (fun j => fI_kept (x_lt hTH1504 kH1515 ggq (by decide))) g1
              have b1518 : gm (fun j => fI H1515 gq j) ((x1436.toInt + 1).toNat) < gm (fun j => fI H1432 gq j) (x1436.toInt + 1).toNat := gm_congr (fun j => fI_kept (x_lt hTH1504 kH1515 ggq (by decide))) m1
              have b1519 : gm (fun j => fI H1515 gq j) ((x1436.toInt + 2).toNat) < gm (fun j => fI H1432 gq j) (x1436.toInt + 1).toNat := gm_congr (fun j => fI_kept (x_lt hTH1504 kH1515 ggq (by decide))) m2
              have b1520 : AB H1515 gq (x1436.toNatClampNeg + 1) (0) (7) := AB.kept (fun j => fI_kept (x_lt hTH1504 kH1515 ggq (by decide))) a1
              have m1521 := (m1505).trans (fR_kept (x_lt hTH1504 kH1515 ga0 (by decide))).symm
              have m1522 := (m1506).trans (fI_kept (x_lt hTH1504 kH1515 ga0 (by decide))).symm
              have m1523 := (m1507).trans (fI_kept (x_lt hTH1504 kH1515 ga0 (by decide))).symm
              have m1524 := (m1509).trans (fI_kept (x_lt hTH1504 kH1515 ggq (by decide))).symm
              refine W.eq (g2 := F0 m 88 ls1433 [.int x1516]) rfl ?_
              refine lv_if_ne (tgt := 94) hx hb dX10_leastWaste_88 (by decide) (fun c1525 => ?_) (fun c1525 => ?_)
              · have k1526 := i_ne c1525
                refine lv_iload_n hx hb dX10_leastWaste_94 rfl (lv_at hl1434 3 rfl) ?_
                refine lv_aload_n hx hb dX10_leastWaste_95 rfl (lv_at hl1434 0 rfl) ?_
                refine x_gi C hTH1515 (ci := 10) (k := 62) rfl inX10 (by decide) wF_X10_455 ga0 rg_112 rfl dX10_leastWaste_96 (fun x1527 ex1527 bx1527 => ?_)
                have ux1527 : nt = x1527 := (m1523).trans ex1527.symm
                subst ux1527
                refine lv_iconst (v := 1) hx hb dX10_leastWaste_99 (by decide) ?_
                refine lv_isub hx hb dX10_leastWaste_100 ?_
                refine lv_topi (fun x1528 ex1528 => ?_)
                have tx1528 := i_sub ex1528 (by omega)
                refine lv_icmp_ge (tgt := 111) hx hb dX10_leastWaste_101 (by decide) (fun c1529 => ?_) (fun c1529 => ?_)
                · have k1530 := i_le c1529
                  refine lv_iconst (v := 0) hx hb dX10_leastWaste_111 (by decide) ?_
                  refine lv_istore (lv' := [(4, .int 0), (0, .ref a0), (1, .int x1), (2, .int x1435), (3, .int x1436)]) hx hb dX10_leastWaste_112 hl1434 (by decide) rfl (fun ls1531 hl1532 => ?_)
                  refine lv_iconst (v := 0) hx hb dX10_leastWaste_114 (by decide) ?_
                  refine lv_istore (lv' := [(5, .int 0), (4, .int 0), (0, .ref a0), (1, .int x1), (2, .int x1435), (3, .int x1436)]) hx hb dX10_leastWaste_115 hl1532 (by decide) rfl (fun ls1533 hl1534 => ?_)
                  have cl_x1436 := i_cl (x := x1436) (by omega)
                  exact J117 ((8 - (0 : Int32).toInt).toNat + 1) ls1533 H1515 locsH1515 (0) (0) (lv_sub hl1534 [2, 3, 4, 5, 1, 0] rfl) hTH1515 hSH1515 (by have := i_rng x1436; omega) (by decide) m1521 m1522 m1523 (GW.cast b1517 (by omega)) b1518 (AB.weak b1520 (by omega) (by omega) (by omega)) (by omega) (by omega)
                · have k1530 := i_nle c1529
                  refine lv_iload_n hx hb dX10_leastWaste_104 rfl (lv_at hl1434 3 rfl) ?_
                  refine lv_iconst (v := 1) hx hb dX10_leastWaste_105 (by decide) ?_
                  refine lv_iadd hx hb dX10_leastWaste_106 ?_
                  refine lv_topi (fun x1535 ex1535 => ?_)
                  have tx1535 := i_add ex1535 (by omega)
                  refine lv_istore_n (lv' := [(3, .int x1535), (0, .ref a0), (1, .int x1), (2, .int x1435)]) hx hb dX10_leastWaste_107 rfl hl1434 (by decide) rfl (fun ls1536 hl1537 => ?_)
                  have g3 : GW (fun j => fI H1515 gq j) (x1436.toInt + 1) bl.toInt := GW.push (k := x1436.toNatClampNeg) b1517 (by omega) (by have := b1520 x1436.toNatClampNeg (by omega); omega) rfl (by omega)
                  refine lv_goto (tgt := 37) hx hb dX10_leastWaste_108 (by decide) ?_
                  have hmm : gm (fun j => fI H1515 gq j) (x1535.toInt + 1).toNat < gm (fun j => fI H1432 gq j) (x1436.toInt + 1).toNat := by
                    have e0 : (x1535.toInt + 1).toNat = (x1436.toInt + 2).toNat := by omega
                    rw [e0]
                    exact b1519
                  exact ih37  ls1536 H1515 locsH1515 (x1435) (x1535) (lv_sub hl1537 [1, 2, 3, 0] rfl) hTH1515 hSH1515 (by have := i_rng x1535; omega) m1521 m1522 m1523 (GW.cast g3 (by omega)) (by omega) 
              · have k1526 := i_eq c1525
                refine lv_goto (tgt := 37) hx hb dX10_leastWaste_91 (by decide) ?_
                have hmm : gm (fun j => fI H1515 gq j) (x1436.toInt + 1).toNat < gm (fun j => fI H1432 gq j) (x1436.toInt + 1).toNat := by
                  have e0 : (x1436.toInt + 1).toNat = (x1436.toInt + 1).toNat := by omega
                  rw [e0]
                  exact b1518
                exact ih37  ls1433 H1515 locsH1515 (x1435) (x1436) (lv_sub hl1434 [0, 1, 2, 3] rfl) hTH1515 hSH1515 (by have := i_rng x1436; omega) m1521 m1522 m1523 (GW.cast b1517 (by omega)) (by omega) 
            · have k1514 := i_nlt c1513
              refine lv_aload_n hx hb dX10_leastWaste_68 rfl (lv_at hl1434 0 rfl) ?_
              refine x_gr C hTH1504 (ci := 10) (k := 68) rfl inX10 (by decide) wF_X10_158 ga0 rg_112 rfl dX10_leastWaste_69 (fun q1538 eq1538 gq1538 => ?_)
              have uq1538 : gq = q1538 := (m1505).trans eq1538.symm
              subst uq1538
              refine lv_iload_n hx hb dX10_leastWaste_72 rfl (lv_at hl1434 3 rfl) ?_
              refine lv_iconst (v := (-1)) hx hb dX10_leastWaste_73 (by decide) ?_
              refine x_iast C hTH1504 hSH1504 ggq rg_160 (by omega) (by show _ < ((8 : Nat) : Int); omega) (by decide) (AE_in ggq (by decide)) dX10_leastWaste_74 (fun H1539 locsH1539 hTH1539 hSH1539 wH1539 => ?_)
              have m1540 := m1505.trans (Wr.neR wH1539 (Or.inl (G_ne ga0 ggq (by decide)))).symm
              have m1541 := m1506.trans (Wr.neI wH1539 (Or.inl (G_ne ga0 ggq (by decide)))).symm
              have m1542 := m1507.trans (Wr.neI wH1539 (Or.inl (G_ne ga0 ggq (by decide)))).symm
              have m1544 := Wr.I wH1539
              have ho2 : ∀ j : Nat, j ≠ x1436.toNatClampNeg → fI H1539 gq j = fI H1432 gq j := fun j hj => (Wr.neI wH1539 (Or.inr hj)).trans (Wr.neI wH1504 (Or.inr hj))
              have ev3 : (fI H1539 gq x1436.toNatClampNeg).toInt = -1 := by rw [Wr.I wH1539]; rfl
              have ev4 : -1 ≤ (fI H1432 gq x1436.toNatClampNeg).toInt ∧ (fI H1432 gq x1436.toNatClampNeg).toInt ≤ 7 := by rw [← ex1502]; omega
              have g2 : GW (fun j => fI H1539 gq j) (x1436.toInt - 1) bl.toInt := GW.pop (k := x1436.toNatClampNeg) by1437_gw (by omega) ho2 ev3 rfl
              have m3 : gm (fun j => fI H1539 gq j) x1436.toNatClampNeg < gm (fun j => fI H1432 gq j) (x1436.toInt + 1).toNat := gm_pop (k := x1436.toNatClampNeg) (by omega) ho2 ev3 ev4 (by omega)
              refine lv_iload_n hx hb dX10_leastWaste_75 rfl (lv_at hl1434 3 rfl) ?_
              refine lv_iconst (v := 1) hx hb dX10_leastWaste_76 (by decide) ?_
              refine lv_isub hx hb dX10_leastWaste_77 ?_
              refine lv_topi (fun x1545 ex1545 => ?_)
              have tx1545 := i_sub ex1545 (by omega)
              refine lv_istore_n (lv' := [(3, .int x1545), (0, .ref a0), (1, .int x1), (2, .int x1435)]) hx hb dX10_leastWaste_78 rfl hl1434 (by decide) rfl (fun ls1546 hl1547 => ?_)
              refine lv_goto (tgt := 37) hx hb dX10_leastWaste_79 (by decide) ?_
              have hmm : gm (fun j => fI H1539 gq j) (x1545.toInt + 1).toNat < gm (fun j => fI H1432 gq j) (x1436.toInt + 1).toNat := by
                have e0 : (x1545.toInt + 1).toNat = x1436.toNatClampNeg := by omega
                rw [e0]
                exact m3
              exact ih37  ls1546 H1539 locsH1539 (x1435) (x1545) (lv_sub hl1547 [1, 2, 3, 0] rfl) hTH1539 hSH1539 (by have := i_rng x1545; omega) m1540 m1541 m1542 (GW.cast g2 (by omega)) (by omega) 
      refine lv_iload hx hb dX10_leastWaste_7 (lv_at hl1427 4 rfl) ?_
      refine lv_bipush (v := 8) hx hb dX10_leastWaste_9 (by decide) ?_
      refine lv_icmp_ge (tgt := 28) hx hb dX10_leastWaste_11 (by decide) (fun c1548 => ?_) (fun c1548 => ?_)
      · have k1549 := i_le c1548
        refine lv_aload_n hx hb dX10_leastWaste_28 rfl (lv_at hl1427 0 rfl) ?_
        refine x_gi C hTH1425 (ci := 10) (k := 62) rfl inX10 (by decide) wF_X10_455 ga0 rg_112 rfl dX10_leastWaste_29 (fun x1550 ex1550 bx1550 => ?_)
        have ux1550 : nt = x1550 := (cy1431_2).trans ex1550.symm
        subst ux1550
        refine lv_if_ne (tgt := 37) hx hb dX10_leastWaste_32 (by decide) (fun c1551 => ?_) (fun c1551 => ?_)
        · have k1552 := i_ne c1551
          have cl9 := i_cl (x := x1430) (by omega)
          have g0 : GW (fun j => fI H1425 gq j) 0 bl.toInt := GW.init (AB.weak by1431_ng (by omega) (by omega) (by omega)) (by omega)
          exact J37 ((gm (fun j => fI H1425 gq j) (x1429.toInt + 1).toNat).toNat + 1)  ls1426 H1425 locsH1425 (x1428) (x1429) (lv_sub hl1427 [0, 1, 2, 3] rfl) hTH1425 hSH1425 (by have := i_rng x1429; omega) cy1431_0 cy1431_1 cy1431_2 (GW.cast g0 (by omega)) (by omega) 
        · have k1552 := i_eq c1551
          refine lv_iconst (v := 0) hx hb dX10_leastWaste_35 (by decide) ?_
          exact x_iret C hQ dX10_leastWaste_36 hSH1425 (by decide) (by decide) (⟨0, rfl, hTH1425⟩)
      · have k1549 := i_nle c1548
        refine lv_aload_n hx hb dX10_leastWaste_14 rfl (lv_at hl1427 0 rfl) ?_
        refine x_gr C hTH1425 (ci := 10) (k := 68) rfl inX10 (by decide) wF_X10_158 ga0 rg_112 rfl dX10_leastWaste_15 (fun q1553 eq1553 gq1553 => ?_)
        have uq1553 : gq = q1553 := (cy1431_0).trans eq1553.symm
        subst uq1553
        refine lv_iload hx hb dX10_leastWaste_18 (lv_at hl1427 4 rfl) ?_
        refine lv_iconst (v := (-1)) hx hb dX10_leastWaste_20 (by decide) ?_
        refine x_iast C hTH1425 hSH1425 ggq rg_160 (by omega) (by show _ < ((8 : Nat) : Int); omega) (by decide) (AE_in ggq (by decide)) dX10_leastWaste_21 (fun H1554 locsH1554 hTH1554 hSH1554 wH1554 => ?_)
        have cjH1554 := i_cl (x := x1430) (by omega)
        have b1555 : AB H1554 gq (x1430.toNatClampNeg + 1) (-1) (-1) := (AB.ext wH1554 (by decide) by1431_ng (by omega) rfl)
        have m1556 := cy1431_0.trans (Wr.neR wH1554 (Or.inl (G_ne ga0 ggq (by decide)))).symm
        have m1557 := cy1431_1.trans (Wr.neI wH1554 (Or.inl (G_ne ga0 ggq (by decide)))).symm
        have m1558 := cy1431_2.trans (Wr.neI wH1554 (Or.inl (G_ne ga0 ggq (by decide)))).symm
        have m1559 := Wr.I wH1554
        obtain ⟨x1560, ex1560⟩ : ∃ y : Int32, y = x1430 + 1 := ⟨_, rfl⟩
        have tx1560 := i_add ex1560 (by omega)
        refine lv_iinc (v := x1560) (lv' := [(4, .int x1560), (0, .ref a0), (1, .int x1), (2, .int x1428), (3, .int x1429)]) hx hb dX10_leastWaste_22 hl1427 (k := 4) rfl (by rw [ex1560]; rfl) (by decide) rfl (fun ls1561 hl1562 => ?_)
        refine lv_goto (tgt := 7) hx hb dX10_leastWaste_25 (by decide) ?_
        have cl_x1430 := i_cl (x := x1430) (by omega)
        have cl_x1560 := i_cl (x := x1560) (by omega)
        exact ih7 ls1561 H1554 locsH1554 (x1428) (x1429) (x1560) (lv_sub hl1562 [1, 2, 3, 4, 0] rfl) hTH1554 hSH1554 (by have := i_rng x1428; omega) (by have := i_rng x1429; omega) (by have := i_rng x1560; omega) m1556 m1557 m1558 (AB.weak b1555 (by omega) (by omega) (by omega)) (by omega)
  refine lv_iconst (v := (-1)) hx hb dX10_leastWaste_0 (by decide) ?_
  refine lv_istore_n (lv' := [(2, .int (-1)), (0, .ref a0), (1, .int x1)]) hx hb dX10_leastWaste_1 rfl hl (by decide) rfl (fun ls1563 hl1564 => ?_)
  refine lv_iconst (v := 0) hx hb dX10_leastWaste_2 (by decide) ?_
  refine lv_istore_n (lv' := [(3, .int 0), (2, .int (-1)), (0, .ref a0), (1, .int x1)]) hx hb dX10_leastWaste_3 rfl hl1564 (by decide) rfl (fun ls1565 hl1566 => ?_)
  refine lv_iconst (v := 0) hx hb dX10_leastWaste_4 (by decide) ?_
  refine lv_istore (lv' := [(4, .int 0), (3, .int 0), (2, .int (-1)), (0, .ref a0), (1, .int x1)]) hx hb dX10_leastWaste_5 hl1566 (by decide) rfl (fun ls1567 hl1568 => ?_)
  have cl_0 := i_cl (x := (0 : Int32)) (by omega)
  exact J7 ((8 - (0 : Int32).toInt).toNat + 1) ls1567 s.heap [] ((-1)) (0) (0) (lv_sub hl1568 [3, 4, 2, 1, 0] rfl) hT hS (by decide) (by decide) (by decide) egq ebl ent (AB.weak (AB.nil (H := s.heap) (q := gq) (lo := -1) (hi := -1)) (by omega) (by omega) (by omega)) (by omega)
