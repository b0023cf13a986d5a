set_option maxHeartbeats 4000000 in
set_option maxRecDepth 100000 in
theorem a_X10_size (l : Launch) (K : KE) (G : Nat → Option Nat) (H : Heap) {a0 : Nat} (x1 : Int32) (hT : TY K G H) (ga0 : G a0 = some 112) : MX l K yX10_size cX10_size 2 (some .int) 0 0 0 0 [.ref a0, .int x1] H (AE G [] H.size) (fun v H1 => ∃ (r : Int32), v = some (.int r) ∧ TY K G H1) := by
  refine MX.of (by decide +kernel) (Nat.le_of_ble_eq_true rfl) ?_
  intro p e s m below meth c ls Q C hH hl hQ
  subst hH
  have C : CX p K s m _ meth c RX10 cX10_size 2 (some .int) "size" := C
  obtain ⟨hx, hb, hml, hown, hts, hKT, hr, hlocks, hnm⟩ := id C
  have hl : lv_has ls 2 [(0, .ref a0), (1, .int x1)] := hl
  have hS : va_S (AE G [] s.heap.size) s.heap s.heap [] := va_S.rf
  have n_0 : (0 : Int32).toInt = 0 := rfl
  have hap : ∀ x y, x < 74 → y < 74 → x ≠ y → K.1.2 10 x ≠ K.1.2 10 y := x_apart hKT hts inX10 tyX10 tyX10_ok nmX10 rfl
  have J10 : ∀ (ls119 : Array Slot) (H118 : Heap) (locsH118 : List Loc) (x121 : Int32), lv_has ls119 2 [] → TY K G H118 → va_S (AE G [] s.heap.size) s.heap H118 locsH118 → W p l e ({ frames := 0, cells := 0, slots := 0, locals := 0 } : Room) s m (([.ref a0, .int x1] : List Value).toArray) below meth c H118 locsH118 0 0 Q (F0 m 10 ls119 [.int x121]) := by
    intro ls119 H118 locsH118 x121 hl120 hTH118 hSH118 
    exact x_iret C hQ dX10_size_10 hSH118 (by decide) (by decide) (⟨x121, rfl, hTH118⟩)
  refine lv_iload_n hx hb dX10_size_0 rfl (lv_at hl 1 rfl) ?_
  refine lv_if_ge (tgt := 9) hx hb dX10_size_1 (by decide) (fun c123 => ?_) (fun c123 => ?_)
  · have k124 := i_le c123
    refine lv_iload_n hx hb dX10_size_9 rfl (lv_at hl 1 rfl) ?_
    exact J10 ls s.heap [] (x1) (lv_sub hl [] rfl) hT hS 
  · have k124 := i_nle c123
    refine lv_iload_n hx hb dX10_size_4 rfl (lv_at hl 1 rfl) ?_
    refine lv_ineg hx hb dX10_size_5 ?_
    refine lv_topi (fun x125 ex125 => ?_)
    refine lv_goto (tgt := 10) hx hb dX10_size_6 (by decide) ?_
    exact J10 ls s.heap [] (x125) (lv_sub hl [] rfl) hT hS 

set_option maxHeartbeats 4000000 in
set_option maxRecDepth 100000 in
theorem a_X10_isBar (l : Launch) (K : KE) (G : Nat → Option Nat) (H : Heap) {a0 : Nat} (x1 : Int32) (bs : Int32) (hT : TY K G H) (ga0 : G a0 = some 112) (ebs : bs = fI H a0 (K.1.2 10 1)) : MX l K yX10_isBar cX10_isBar 2 (some .boolean) 0 0 0 0 [.ref a0, .int x1] H (AE G [] H.size) (fun v H1 => ∃ (r : Int32), v = some (.int r) ∧ (0 ≤ r.toInt ∧ r.toInt ≤ 1) ∧ (r.toInt = 0 ∨ (0 ≤ x1.toInt ∧ x1.toInt < bs.toInt)) ∧ TY K G H1) := by
  refine MX.of (by decide +kernel) (Nat.le_of_ble_eq_true rfl) ?_
  intro p e s m below meth c ls Q C hH hl hQ
  subst hH
  have C : CX p K s m _ meth c RX10 cX10_isBar 2 (some .boolean) "isBar" := C
  obtain ⟨hx, hb, hml, hown, hts, hKT, hr, hlocks, hnm⟩ := id C
  have hl : lv_has ls 2 [(0, .ref a0), (1, .int x1)] := hl
  have hS : va_S (AE G [] s.heap.size) s.heap s.heap [] := va_S.rf
  have n_0 : (0 : Int32).toInt = 0 := rfl
  have n_1 : (1 : Int32).toInt = 1 := rfl
  have bbs := ty_fi (x := bs) (k := 1) ebs hT ga0 rg_112 rfl
  have hap : ∀ x y, x < 74 → y < 74 → x ≠ y → K.1.2 10 x ≠ K.1.2 10 y := x_apart hKT hts inX10 tyX10 tyX10_ok nmX10 rfl
  refine lv_iload_n hx hb dX10_isBar_0 rfl (lv_at hl 1 rfl) ?_
  refine lv_if_lt (tgt := 16) hx hb dX10_isBar_1 (by decide) (fun c121 => ?_) (fun c121 => ?_)
  · have k122 := i_lt c121
    refine lv_iconst (v := 0) hx hb dX10_isBar_16 (by decide) ?_
    exact x_zret C hQ (Or.inl rfl) dX10_isBar_17 hS (by decide) (by decide) (⟨0, rfl, by decide, by omega, hT⟩)
  · have k122 := i_nlt c121
    refine lv_iload_n hx hb dX10_isBar_4 rfl (lv_at hl 1 rfl) ?_
    refine lv_aload_n hx hb dX10_isBar_5 rfl (lv_at hl 0 rfl) ?_
    refine x_gi C hT (ci := 10) (k := 1) rfl inX10 (by decide) wF_X10_170 ga0 rg_112 rfl dX10_isBar_6 (fun x123 ex123 bx123 => ?_)
    have ux123 : bs = x123 := (ebs).trans ex123.symm
    subst ux123
    refine lv_icmp_ge (tgt := 16) hx hb dX10_isBar_9 (by decide) (fun c124 => ?_) (fun c124 => ?_)
    · have k125 := i_le c124
      refine lv_iconst (v := 0) hx hb dX10_isBar_16 (by decide) ?_
      exact x_zret C hQ (Or.inl rfl) dX10_isBar_17 hS (by decide) (by decide) (⟨0, rfl, by decide, by omega, hT⟩)
    · have k125 := i_nle c124
      refine lv_iconst (v := 1) hx hb dX10_isBar_12 (by decide) ?_
      refine lv_goto (tgt := 17) hx hb dX10_isBar_13 (by decide) ?_
      exact x_zret C hQ (Or.inr rfl) dX10_isBar_17 hS (by decide) (by decide) (⟨1, rfl, by decide, by omega, hT⟩)

set_option maxHeartbeats 4000000 in
set_option maxRecDepth 100000 in
theorem a_X10_isSlice (l : Launch) (K : KE) (G : Nat → Option Nat) (H : Heap) {a0 : Nat} (x1 : Int32) (x2 : Int32) (bs : Int32) (hT : TY K G H) (ga0 : G a0 = some 112) (ebs : bs = fI H a0 (K.1.2 10 1)) : MX l K yX10_isSlice cX10_isSlice 3 (some .boolean) 1 21 0 0 [.ref a0, .int x1, .int x2] H (AE G [] H.size) (fun v H1 => ∃ (r : Int32), v = some (.int r) ∧ (0 ≤ r.toInt ∧ r.toInt ≤ 1) ∧ (r.toInt = 0 ∨ (0 ≤ x1.toInt ∧ x1.toInt < bs.toInt ∧ 0 ≤ x2.toInt ∧ x2.toInt ≤ 15)) ∧ TY K G H1) := by
  refine MX.of (by decide +kernel) (Nat.le_of_ble_eq_true rfl) ?_
  intro p e s m below meth c ls Q C hH hl hQ
  subst hH
  have C : CX p K s m _ meth c RX10 cX10_isSlice 3 (some .boolean) "isSlice" := C
  obtain ⟨hx, hb, hml, hown, hts, hKT, hr, hlocks, hnm⟩ := id C
  have hl : lv_has ls 3 [(0, .ref a0), (1, .int x1), (2, .int x2)] := hl
  have hS : va_S (AE G [] s.heap.size) s.heap s.heap [] := va_S.rf
  have n_0 : (0 : Int32).toInt = 0 := rfl
  have n_1 : (1 : Int32).toInt = 1 := rfl
  have bbs := ty_fi (x := bs) (k := 1) ebs hT ga0 rg_112 rfl
  have hap : ∀ x y, x < 74 → y < 74 → x ≠ y → K.1.2 10 x ≠ K.1.2 10 y := x_apart hKT hts inX10 tyX10 tyX10_ok nmX10 rfl
  refine lv_aload_n hx hb dX10_isSlice_0 rfl (lv_at hl 0 rfl) ?_
  refine lv_iload_n hx hb dX10_isSlice_1 rfl (lv_at hl 1 rfl) ?_
  refine x_V (As := [.int x1]) (rest := []) C (a_X10_isBar l K G s.heap (x1) (bs) hT ga0 ebs) yo_X10_isBar wM_X10_173 ⟨⟨by decide, by decide⟩, by decide, by decide⟩ (x_rv C hT (ci := 10) rfl ga0 rg_112) rfl hl.1 rfl (Nat.le_of_ble_eq_true rfl) dX10_isSlice_2 hS (AE_sub (fun _ _ => rfl) (by decide) hS.1) (fun vH145 H145 locsH145 pH145 zH145 kH145 hSH145 => ?_)
  obtain ⟨x146, hvH145, bx146, hrH145, hTH145⟩ := pH145
  subst hvH145
  have m147 := (ebs).trans (fI_kept (x_lt hT kH145 ga0 (by decide))).symm
  refine W.eq (g2 := F0 m 5 ls [.int x146]) rfl ?_
  refine lv_if_eq (tgt := 26) hx hb dX10_isSlice_5 (by decide) (fun c148 => ?_) (fun c148 => ?_)
  · have k149 := i_eq c148
    refine lv_iconst (v := 0) hx hb dX10_isSlice_26 (by decide) ?_
    exact x_zret C hQ (Or.inl rfl) dX10_isSlice_27 hSH145 (by decide) (by decide) (⟨0, rfl, by decide, by omega, hTH145⟩)
  · have k149 := i_ne c148
    refine lv_iload_n hx hb dX10_isSlice_8 rfl (lv_at hl 2 rfl) ?_
    refine lv_if_lt (tgt := 26) hx hb dX10_isSlice_9 (by decide) (fun c150 => ?_) (fun c150 => ?_)
    · have k151 := i_lt c150
      refine lv_iconst (v := 0) hx hb dX10_isSlice_26 (by decide) ?_
      exact x_zret C hQ (Or.inl rfl) dX10_isSlice_27 hSH145 (by decide) (by decide) (⟨0, rfl, by decide, by omega, hTH145⟩)
    · have k151 := i_nlt c150
      refine lv_iload_n hx hb dX10_isSlice_12 rfl (lv_at hl 2 rfl) ?_
      refine lv_aload_n hx hb dX10_isSlice_13 rfl (lv_at hl 0 rfl) ?_
      refine x_gr C hTH145 (ci := 10) (k := 4) rfl inX10 (by decide) wF_X10_13 ga0 rg_112 rfl dX10_isSlice_14 (fun q152 eq152 gq152 => ?_)
      refine lv_iload_n hx hb dX10_isSlice_17 rfl (lv_at hl 1 rfl) ?_
      refine x_ai C hTH145 gq152 rg_113 ⟨by omega, by show _ < ((10 : Nat) : Int); omega⟩ dX10_isSlice_18 (fun x153 ex153 bx153 => ?_)
      refine lv_icmp_ge (tgt := 26) hx hb dX10_isSlice_19 (by decide) (fun c154 => ?_) (fun c154 => ?_)
      · have k155 := i_le c154
        refine lv_iconst (v := 0) hx hb dX10_isSlice_26 (by decide) ?_
        exact x_zret C hQ (Or.inl rfl) dX10_isSlice_27 hSH145 (by decide) (by decide) (⟨0, rfl, by decide, by omega, hTH145⟩)
      · have k155 := i_nle c154
        refine lv_iconst (v := 1) hx hb dX10_isSlice_22 (by decide) ?_
        refine lv_goto (tgt := 27) hx hb dX10_isSlice_23 (by decide) ?_
        exact x_zret C hQ (Or.inr rfl) dX10_isSlice_27 hSH145 (by decide) (by decide) (⟨1, rfl, by decide, by omega, hTH145⟩)

set_option maxHeartbeats 4000000 in
set_option maxRecDepth 100000 in
theorem a_X10_asks (l : Launch) (K : KE) (G : Nat → Option Nat) (H : Heap) {a0 : Nat} (x1 : Int32) (x2 : Int32) (x3 : Int32) (x4 : Int32) (x5 : Int32) (x6 : Int32) (hT : TY K G H) (ga0 : G a0 = some 112) : MX l K yX10_asks cX10_asks 8 none 1 21 0 0 [.ref a0, .int x1, .int x2, .int x3, .int x4, .int x5, .int x6] H (AE G [139] H.size) (fun v H1 => v = none ∧ TY K G H1) := by
  refine MX.of (by decide +kernel) (Nat.le_of_ble_eq_true rfl) ?_
  intro p e s m below meth c ls Q C hH hl hQ
  subst hH
  have C : CX p K s m _ meth c RX10 cX10_asks 8 none "asks" := C
  obtain ⟨hx, hb, hml, hown, hts, hKT, hr, hlocks, hnm⟩ := id C
  have hl : lv_has ls 8 [(0, .ref a0), (1, .int x1), (2, .int x2), (3, .int x3), (4, .int x4), (5, .int x5), (6, .int x6)] := hl
  have hS : va_S (AE G [139] s.heap.size) s.heap s.heap [] := va_S.rf
  have n_0 : (0 : Int32).toInt = 0 := rfl
  have n_1 : (1 : Int32).toInt = 1 := rfl
  have n_2 : (2 : Int32).toInt = 2 := rfl
  have n_3 : (3 : Int32).toInt = 3 := rfl
  have n_4 : (4 : Int32).toInt = 4 := rfl
  have n_5 : (5 : Int32).toInt = 5 := rfl
  have n_6 : (6 : Int32).toInt = 6 := rfl
  have n_7 : (7 : Int32).toInt = 7 := rfl
  have n_14 : (14 : Int32).toInt = 14 := rfl
  have hap : ∀ x y, x < 74 → y < 74 → x ≠ y → K.1.2 10 x ≠ K.1.2 10 y := x_apart hKT hts inX10 tyX10 tyX10_ok nmX10 rfl
  have J3 : ∀ (nf : Nat) (ls522 : Array Slot) (H521 : Heap) (locsH521 : List Loc) (x524 : Int32), lv_has ls522 8 [(0, .ref a0), (1, .int x1), (2, .int x2), (3, .int x3), (4, .int x4), (5, .int x5), (6, .int x6), (7, .int x524)] → TY K G H521 → va_S (AE G [139] s.heap.size) s.heap H521 locsH521 → (0 ≤ x524.toInt ∧ x524.toInt ≤ 14) → (14 - x524.toInt < (nf : Int)) → W p l e ({ frames := 1, cells := 0, slots := 0, locals := 21 } : Room) s m (([.ref a0, .int x1, .int x2, .int x3, .int x4, .int x5, .int x6] : List Value).toArray) below meth c H521 locsH521 0 0 Q (F0 m 3 ls522 []) := by
    intro nf
    induction nf with
    | zero =>
      intro ls522 H521 locsH521 x524 hl523 hTH521 hSH521 bx524 hm3
      exfalso
      omega
    | succ nf ih3 =>
      intro ls522 H521 locsH521 x524 hl523 hTH521 hSH521 bx524 hm3
      have J78 : ∀ (ls527 : Array Slot) (H526 : Heap) (locsH526 : List Loc) (x529 : Int32) (x530 : Int32) (q531 : Nat), lv_has ls527 8 [(0, .ref a0), (3, .int x3), (4, .int x4), (5, .int x5), (6, .int x6)] → TY K G H526 → va_S (AE G [139] s.heap.size) s.heap H526 locsH526 → (3 ≤ x530.toInt ∧ x530.toInt ≤ 3) → (G q531 = some 139) → W p l e ({ frames := 1, cells := 0, slots := 0, locals := 21 } : Room) s m (([.ref a0, .int x1, .int x2, .int x3, .int x4, .int x5, .int x6] : List Value).toArray) below meth c H526 locsH526 0 0 Q (F0 m 78 ls527 [.int x529, .int x530, .ref q531]) := by
        intro ls527 H526 locsH526 x529 x530 q531 hl528 hTH526 hSH526 bx530 gq531
        refine x_iast C hTH526 hSH526 gq531 rg_139 (by omega) (by show _ < ((14 : Nat) : Int); omega) ⟨by have := i_rng x529; omega, by have := i_rng x529; omega⟩ (AE_in gq531 (by decide)) dX10_asks_78 (fun H533 locsH533 hTH533 hSH533 wH533 => ?_)
        have m534 := Wr.I wH533
        have m534 := m534.symm
        refine lv_aload_n hx hb dX10_asks_79 rfl (lv_at hl528 0 rfl) ?_
        refine x_gr C hTH533 (ci := 10) (k := 43) rfl inX10 (by decide) wF_X10_95 ga0 rg_112 rfl dX10_asks_80 (fun q535 eq535 gq535 => ?_)
        refine lv_iconst (v := 4) hx hb dX10_asks_83 (by decide) ?_
        refine lv_iload_n hx hb dX10_asks_84 rfl (lv_at hl528 1 rfl) ?_
        refine x_iast C hTH533 hSH533 gq535 rg_139 (by decide) (by decide) ⟨by have := i_rng x3; omega, by have := i_rng x3; omega⟩ (AE_in gq535 (by decide)) dX10_asks_85 (fun H536 locsH536 hTH536 hSH536 wH536 => ?_)
        have m538 := eq535.trans (Wr.neR wH536 (Or.inl (G_ne ga0 gq535 (by decide)))).symm
        have m539 := Wr.I wH536
        have m539 := m539.symm
        refine lv_aload_n hx hb dX10_asks_86 rfl (lv_at hl528 0 rfl) ?_
        refine x_gr C hTH536 (ci := 10) (k := 43) rfl inX10 (by decide) wF_X10_95 ga0 rg_112 rfl dX10_asks_87 (fun q540 eq540 gq540 => ?_)
        have uq540 : q535 = q540 := (m538).trans eq540.symm
        subst uq540
        refine lv_iconst (v := 5) hx hb dX10_asks_90 (by decide) ?_
        refine lv_iload hx hb dX10_asks_91 (lv_at hl528 2 rfl) ?_
        refine x_iast C hTH536 hSH536 gq535 rg_139 (by decide) (by decide) ⟨by have := i_rng x4; omega, by have := i_rng x4; omega⟩ (AE_in gq535 (by decide)) dX10_asks_93 (fun H541 locsH541 hTH541 hSH541 wH541 => ?_)
        have m542 := m538.trans (Wr.neR wH541 (Or.inl (G_ne ga0 gq535 (by decide)))).symm
        have m543 := m539.trans (Wr.neI wH541 (Or.inr (by decide))).symm
        have m544 := Wr.I wH541
        have m544 := m544.symm
        refine lv_aload_n hx hb dX10_asks_94 rfl (lv_at hl528 0 rfl) ?_
        refine x_gr C hTH541 (ci := 10) (k := 43) rfl inX10 (by decide) wF_X10_95 ga0 rg_112 rfl dX10_asks_95 (fun q545 eq545 gq545 => ?_)
        have uq545 : q535 = q545 := (m542).trans eq545.symm
        subst uq545
        refine lv_bipush (v := 6) hx hb dX10_asks_98 (by decide) ?_
        refine lv_iload hx hb dX10_asks_100 (lv_at hl528 3 rfl) ?_
        refine x_iast C hTH541 hSH541 gq535 rg_139 (by decide) (by decide) ⟨by have := i_rng x5; omega, by have := i_rng x5; omega⟩ (AE_in gq535 (by decide)) dX10_asks_102 (fun H546 locsH546 hTH546 hSH546 wH546 => ?_)
        have m547 := m542.trans (Wr.neR wH546 (Or.inl (G_ne ga0 gq535 (by decide)))).symm
        have m548 := m543.trans (Wr.neI wH546 (Or.inr (by decide))).symm
        have m549 := m544.trans (Wr.neI wH546 (Or.inr (by decide))).symm
        have m550 := Wr.I wH546
        have m550 := m550.symm
        refine lv_aload_n hx hb dX10_asks_103 rfl (lv_at hl528 0 rfl) ?_
        refine x_gr C hTH546 (ci := 10) (k := 43) rfl inX10 (by decide) wF_X10_95 ga0 rg_112 rfl dX10_asks_104 (fun q551 eq551 gq551 => ?_)
        have uq551 : q535 = q551 := (m547).trans eq551.symm
        subst uq551
        refine lv_bipush (v := 7) hx hb dX10_asks_107 (by decide) ?_
        refine lv_iload hx hb dX10_asks_109 (lv_at hl528 4 rfl) ?_
        refine x_iast C hTH546 hSH546 gq535 rg_139 (by decide) (by decide) ⟨by have := i_rng x6; omega, by have := i_rng x6; omega⟩ (AE_in gq535 (by decide)) dX10_asks_111 (fun H552 locsH552 hTH552 hSH552 wH552 => ?_)
        have m553 := m547.trans (Wr.neR wH552 (Or.inl (G_ne ga0 gq535 (by decide)))).symm
        have m554 := m548.trans (Wr.neI wH552 (Or.inr (by decide))).symm
        have m555 := m549.trans (Wr.neI wH552 (Or.inr (by decide))).symm
        have m556 := m550.trans (Wr.neI wH552 (Or.inr (by decide))).symm
        have m557 := Wr.I wH552
        have m557 := m557.symm
        exact x_vret C hQ dX10_asks_112 hSH552 (by decide) (by decide) (⟨rfl, hTH552⟩)
      refine lv_iload hx hb dX10_asks_3 (lv_at hl523 7 rfl) ?_
      refine lv_bipush (v := 14) hx hb dX10_asks_5 (by decide) ?_
      refine lv_icmp_ge (tgt := 24) hx hb dX10_asks_7 (by decide) (fun c558 => ?_) (fun c558 => ?_)
      · have k559 := i_le c558
        refine lv_aload_n hx hb dX10_asks_24 rfl (lv_at hl523 0 rfl) ?_
        refine x_gr C hTH521 (ci := 10) (k := 43) rfl inX10 (by decide) wF_X10_95 ga0 rg_112 rfl dX10_asks_25 (fun q560 eq560 gq560 => ?_)
        refine lv_iconst (v := 0) hx hb dX10_asks_28 (by decide) ?_
        refine lv_iload_n hx hb dX10_asks_29 rfl (lv_at hl523 2 rfl) ?_
        refine x_iast C hTH521 hSH521 gq560 rg_139 (by decide) (by decide) ⟨by have := i_rng x2; omega, by have := i_rng x2; omega⟩ (AE_in gq560 (by decide)) dX10_asks_30 (fun H561 locsH561 hTH561 hSH561 wH561 => ?_)
        have m562 := eq560.trans (Wr.neR wH561 (Or.inl (G_ne ga0 gq560 (by decide)))).symm
        have m563 := Wr.I wH561
        have m563 := m563.symm
        refine lv_aload_n hx hb dX10_asks_31 rfl (lv_at hl523 0 rfl) ?_
        refine x_gr C hTH561 (ci := 10) (k := 43) rfl inX10 (by decide) wF_X10_95 ga0 rg_112 rfl dX10_asks_32 (fun q564 eq564 gq564 => ?_)
        have uq564 : q560 = q564 := (m562).trans eq564.symm
        subst uq564
        refine lv_iconst (v := 1) hx hb dX10_asks_35 (by decide) ?_
        refine lv_iload_n hx hb dX10_asks_36 rfl (lv_at hl523 1 rfl) ?_
        refine x_iast C hTH561 hSH561 gq560 rg_139 (by decide) (by decide) ⟨by have := i_rng x1; omega, by have := i_rng x1; omega⟩ (AE_in gq560 (by decide)) dX10_asks_37 (fun H565 locsH565 hTH565 hSH565 wH565 => ?_)
        have m566 := m562.trans (Wr.neR wH565 (Or.inl (G_ne ga0 gq560 (by decide)))).symm
        have m567 := m563.trans (Wr.neI wH565 (Or.inr (by decide))).symm
        have m568 := Wr.I wH565
        have m568 := m568.symm
        refine lv_aload_n hx hb dX10_asks_38 rfl (lv_at hl523 0 rfl) ?_
        refine x_gr C hTH565 (ci := 10) (k := 43) rfl inX10 (by decide) wF_X10_95 ga0 rg_112 rfl dX10_asks_39 (fun q569 eq569 gq569 => ?_)
        have uq569 : q560 = q569 := (m566).trans eq569.symm
        subst uq569
        refine lv_iconst (v := 2) hx hb dX10_asks_42 (by decide) ?_
        refine lv_aload_n hx hb dX10_asks_43 rfl (lv_at hl523 0 rfl) ?_
        refine lv_iconst (v := 2) hx hb dX10_asks_44 (by decide) ?_
        refine lv_iload_n hx hb dX10_asks_45 rfl (lv_at hl523 2 rfl) ?_
        refine lv_imul hx hb dX10_asks_46 ?_
        refine lv_topi (fun x570 ex570 => ?_)
        refine lv_iconst (v := 1) hx hb dX10_asks_47 (by decide) ?_
        refine lv_iadd hx hb dX10_asks_48 ?_
        refine lv_topi (fun x571 ex571 => ?_)
        refine lv_iload_n hx hb dX10_asks_49 rfl (lv_at hl523 1 rfl) ?_
        refine lv_isub hx hb dX10_asks_50 ?_
        refine lv_topi (fun x572 ex572 => ?_)
        refine x_V (As := [.int x572]) (rest := [.int 2, .ref q560]) C (a_X10_size l K G H565 (x572) hTH565 ga0) yo_X10_size wM_X10_309 ⟨⟨by decide, by decide⟩, by decide, by decide⟩ (x_rv C hTH565 (ci := 10) rfl ga0 rg_112) rfl hl523.1 rfl (Nat.le_of_ble_eq_true rfl) dX10_asks_51 hSH565 (AE_sub (fun _ _ => rfl) (by decide) hSH565.1) (fun vH573 H573 locsH573 pH573 zH573 kH573 hSH573 => ?_)
        obtain ⟨x574, hvH573, hTH573⟩ := pH573
        subst hvH573
        have m575 := (m566).trans (fR_kept (x_lt hTH565 kH573 ga0 (by decide))).symm
        have m576 := (m567).trans (fI_kept (x_lt hTH565 kH573 gq560 (by decide))).symm
        have m577 := (m568).trans (fI_kept (x_lt hTH565 kH573 gq560 (by decide))).symm
        refine W.eq (g2 := F0 m 54 ls522 [.int x574, .int 2, .ref q560]) rfl ?_
        refine x_iast C hTH573 hSH573 gq560 rg_139 (by decide) (by decide) ⟨by have := i_rng x574; omega, by have := i_rng x574; omega⟩ (AE_in gq560 (by decide)) dX10_asks_54 (fun H578 locsH578 hTH578 hSH578 wH578 => ?_)
        have m579 := m575.trans (Wr.neR wH578 (Or.inl (G_ne ga0 gq560 (by decide)))).symm
        have m580 := m576.trans (Wr.neI wH578 (Or.inr (by decide))).symm
        have m581 := m577.trans (Wr.neI wH578 (Or.inr (by decide))).symm
        have m582 := Wr.I wH578
        have m582 := m582.symm
        refine lv_aload_n hx hb dX10_asks_55 rfl (lv_at hl523 0 rfl) ?_
        refine x_gr C hTH578 (ci := 10) (k := 43) rfl inX10 (by decide) wF_X10_95 ga0 rg_112 rfl dX10_asks_56 (fun q583 eq583 gq583 => ?_)
        have uq583 : q560 = q583 := (m579).trans eq583.symm
        subst uq583
        refine lv_iconst (v := 3) hx hb dX10_asks_59 (by decide) ?_
        refine lv_iload_n hx hb dX10_asks_60 rfl (lv_at hl523 2 rfl) ?_
        refine lv_iload_n hx hb dX10_asks_61 rfl (lv_at hl523 1 rfl) ?_
        refine lv_iconst (v := 1) hx hb dX10_asks_62 (by decide) ?_
        refine lv_isub hx hb dX10_asks_63 ?_
        refine lv_topi (fun x584 ex584 => ?_)
        refine lv_iload_n hx hb dX10_asks_64 rfl (lv_at hl523 2 rfl) ?_
        refine lv_isub hx hb dX10_asks_65 ?_
        refine lv_topi (fun x585 ex585 => ?_)
        refine lv_icmp_ge (tgt := 73) hx hb dX10_asks_66 (by decide) (fun c586 => ?_) (fun c586 => ?_)
        · have k587 := i_le c586
          refine lv_iload_n hx hb dX10_asks_73 rfl (lv_at hl523 1 rfl) ?_
          refine lv_iconst (v := 1) hx hb dX10_asks_74 (by decide) ?_
          refine lv_isub hx hb dX10_asks_75 ?_
          refine lv_topi (fun x588 ex588 => ?_)
          refine lv_iload_n hx hb dX10_asks_76 rfl (lv_at hl523 2 rfl) ?_
          refine lv_isub hx hb dX10_asks_77 ?_
          refine lv_topi (fun x589 ex589 => ?_)
          exact J78 ls522 H578 locsH578 (x589) (3) (q560) (lv_sub hl523 [0, 3, 4, 5, 6] rfl) hTH578 hSH578 (by decide) gq560
        · have k587 := i_nle c586
          refine lv_iload_n hx hb dX10_asks_69 rfl (lv_at hl523 2 rfl) ?_
          refine lv_goto (tgt := 78) hx hb dX10_asks_70 (by decide) ?_
          exact J78 ls522 H578 locsH578 (x2) (3) (q560) (lv_sub hl523 [0, 3, 4, 5, 6] rfl) hTH578 hSH578 (by decide) gq560
      · have k559 := i_nle c558
        refine lv_aload_n hx hb dX10_asks_10 rfl (lv_at hl523 0 rfl) ?_
        refine x_gr C hTH521 (ci := 10) (k := 43) rfl inX10 (by decide) wF_X10_95 ga0 rg_112 rfl dX10_asks_11 (fun q590 eq590 gq590 => ?_)
        refine lv_iload hx hb dX10_asks_14 (lv_at hl523 7 rfl) ?_
        refine lv_iconst (v := 0) hx hb dX10_asks_16 (by decide) ?_
        refine x_iast C hTH521 hSH521 gq590 rg_139 (by omega) (by show _ < ((14 : Nat) : Int); omega) (by decide) (AE_in gq590 (by decide)) dX10_asks_17 (fun H591 locsH591 hTH591 hSH591 wH591 => ?_)
        have m592 := eq590.trans (Wr.neR wH591 (Or.inl (G_ne ga0 gq590 (by decide)))).symm
        have m593 := Wr.I wH591
        obtain ⟨x594, ex594⟩ : ∃ y : Int32, y = x524 + 1 := ⟨_, rfl⟩
        have tx594 := i_add ex594 (by omega)
        refine lv_iinc (v := x594) (lv' := [(7, .int x594), (0, .ref a0), (1, .int x1), (2, .int x2), (3, .int x3), (4, .int x4), (5, .int x5), (6, .int x6)]) hx hb dX10_asks_18 hl523 (k := 7) rfl (by rw [ex594]; rfl) (by decide) rfl (fun ls595 hl596 => ?_)
        refine lv_goto (tgt := 3) hx hb dX10_asks_21 (by decide) ?_
        exact ih3 ls595 H591 locsH591 (x594) (lv_sub hl596 [1, 2, 3, 4, 5, 6, 7, 0] rfl) hTH591 hSH591 (by have := i_rng x594; omega) (by omega)
  refine lv_iconst (v := 0) hx hb dX10_asks_0 (by decide) ?_
  refine lv_istore (lv' := [(7, .int 0), (0, .ref a0), (1, .int x1), (2, .int x2), (3, .int x3), (4, .int x4), (5, .int x5), (6, .int x6)]) hx hb dX10_asks_1 hl (by decide) rfl (fun ls597 hl598 => ?_)
  exact J3 ((14 - (0 : Int32).toInt).toNat + 1) ls597 s.heap [] (0) (lv_sub hl598 [1, 2, 3, 4, 5, 6, 7, 0] rfl) hT hS (by decide) (by omega)

set_option maxHeartbeats 4000000 in
set_option maxRecDepth 100000 in
theorem a_X10_asksSlice (l : Launch) (K : KE) (G : Nat → Option Nat) (H : Heap) {a0 : Nat} (x1 : Int32) (x2 : Int32) (hT : TY K G H) (ga0 : G a0 = some 112) (hx1 : 0 ≤ x1.toInt ∧ x1.toInt ≤ 9) (hx2 : 0 ≤ x2.toInt ∧ x2.toInt ≤ 15) : MX l K yX10_asksSlice cX10_asksSlice 3 none 2 48 0 0 [.ref a0, .int x1, .int x2] H (AE G [139] H.size) (fun v H1 => v = none ∧ TY K G H1) := by
  refine MX.of (by decide +kernel) (Nat.le_of_ble_eq_true rfl) ?_
  intro p e s m below meth c ls Q C hH hl hQ
  subst hH
  have C : CX p K s m _ meth c RX10 cX10_asksSlice 3 none "asksSlice" := C
  obtain ⟨hx, hb, hml, hown, hts, hKT, hr, hlocks, hnm⟩ := id C
  have hl : lv_has ls 3 [(0, .ref a0), (1, .int x1), (2, .int x2)] := hl
  have hS : va_S (AE G [139] s.heap.size) s.heap s.heap [] := va_S.rf
  have n_16 : (16 : Int32).toInt = 16 := rfl
  have hap : ∀ x y, x < 74 → y < 74 → x ≠ y → K.1.2 10 x ≠ K.1.2 10 y := x_apart hKT hts inX10 tyX10 tyX10_ok nmX10 rfl
  refine lv_aload_n hx hb dX10_asksSlice_0 rfl (lv_at hl 0 rfl) ?_
  refine lv_aload_n hx hb dX10_asksSlice_1 rfl (lv_at hl 0 rfl) ?_
  refine x_gr C hT (ci := 10) (k := 4) rfl inX10 (by decide) wF_X10_13 ga0 rg_112 rfl dX10_asksSlice_2 (fun q217 eq217 gq217 => ?_)
  refine lv_iload_n hx hb dX10_asksSlice_5 rfl (lv_at hl 1 rfl) ?_
  refine x_ai C hT gq217 rg_113 ⟨by omega, by show _ < ((10 : Nat) : Int); omega⟩ dX10_asksSlice_6 (fun x218 ex218 bx218 => ?_)
  refine lv_iload_n hx hb dX10_asksSlice_7 rfl (lv_at hl 2 rfl) ?_
  refine lv_aload_n hx hb dX10_asksSlice_8 rfl (lv_at hl 0 rfl) ?_
  refine x_gr C hT (ci := 10) (k := 5) rfl inX10 (by decide) wF_X10_17 ga0 rg_112 rfl dX10_asksSlice_9 (fun q219 eq219 gq219 => ?_)
  refine lv_bipush (v := 16) hx hb dX10_asksSlice_12 (by decide) ?_
  refine lv_iload_n hx hb dX10_asksSlice_14 rfl (lv_at hl 1 rfl) ?_
  refine lv_imul hx hb dX10_asksSlice_15 ?_
  refine lv_topi (fun x220 ex220 => ?_)
  have tx220 := i_mul ex220 (by rw [n_16]; omega)
  rw [n_16] at tx220
  refine lv_iload_n hx hb dX10_asksSlice_16 rfl (lv_at hl 2 rfl) ?_
  refine lv_iadd hx hb dX10_asksSlice_17 ?_
  refine lv_topi (fun x221 ex221 => ?_)
  have tx221 := i_add ex221 (by omega)
  refine x_ai C hT gq219 rg_114 ⟨by omega, by show _ < ((160 : Nat) : Int); omega⟩ dX10_asksSlice_18 (fun x222 ex222 bx222 => ?_)
  refine lv_aload_n hx hb dX10_asksSlice_19 rfl (lv_at hl 0 rfl) ?_
  refine x_gr C hT (ci := 10) (k := 6) rfl inX10 (by decide) wF_X10_20 ga0 rg_112 rfl dX10_asksSlice_20 (fun q223 eq223 gq223 => ?_)
  refine lv_bipush (v := 16) hx hb dX10_asksSlice_23 (by decide) ?_
  refine lv_iload_n hx hb dX10_asksSlice_25 rfl (lv_at hl 1 rfl) ?_
  refine lv_imul hx hb dX10_asksSlice_26 ?_
  refine lv_topi (fun x224 ex224 => ?_)
  have tx224 := i_mul ex224 (by rw [n_16]; omega)
  rw [n_16] at tx224
  refine lv_iload_n hx hb dX10_asksSlice_27 rfl (lv_at hl 2 rfl) ?_
  refine lv_iadd hx hb dX10_asksSlice_28 ?_
  refine lv_topi (fun x225 ex225 => ?_)
  have tx225 := i_add ex225 (by omega)
  refine x_ai C hT gq223 rg_115 ⟨by omega, by show _ < ((160 : Nat) : Int); omega⟩ dX10_asksSlice_29 (fun x226 ex226 bx226 => ?_)
  refine lv_aload_n hx hb dX10_asksSlice_30 rfl (lv_at hl 0 rfl) ?_
  refine x_gr C hT (ci := 10) (k := 7) rfl inX10 (by decide) wF_X10_23 ga0 rg_112 rfl dX10_asksSlice_31 (fun q227 eq227 gq227 => ?_)
  refine lv_bipush (v := 16) hx hb dX10_asksSlice_34 (by decide) ?_
  refine lv_iload_n hx hb dX10_asksSlice_36 rfl (lv_at hl 1 rfl) ?_
  refine lv_imul hx hb dX10_asksSlice_37 ?_
  refine lv_topi (fun x228 ex228 => ?_)
  have tx228 := i_mul ex228 (by rw [n_16]; omega)
  rw [n_16] at tx228
  refine lv_iload_n hx hb dX10_asksSlice_38 rfl (lv_at hl 2 rfl) ?_
  refine lv_iadd hx hb dX10_asksSlice_39 ?_
  refine lv_topi (fun x229 ex229 => ?_)
  have tx229 := i_add ex229 (by omega)
  refine x_ai C hT gq227 rg_116 ⟨by omega, by show _ < ((160 : Nat) : Int); omega⟩ dX10_asksSlice_40 (fun x230 ex230 bx230 => ?_)
  refine lv_aload_n hx hb dX10_asksSlice_41 rfl (lv_at hl 0 rfl) ?_
  refine x_gr C hT (ci := 10) (k := 8) rfl inX10 (by decide) wF_X10_26 ga0 rg_112 rfl dX10_asksSlice_42 (fun q231 eq231 gq231 => ?_)
  refine lv_bipush (v := 16) hx hb dX10_asksSlice_45 (by decide) ?_
  refine lv_iload_n hx hb dX10_asksSlice_47 rfl (lv_at hl 1 rfl) ?_
  refine lv_imul hx hb dX10_asksSlice_48 ?_
  refine lv_topi (fun x232 ex232 => ?_)
  have tx232 := i_mul ex232 (by rw [n_16]; omega)
  rw [n_16] at tx232
  refine lv_iload_n hx hb dX10_asksSlice_49 rfl (lv_at hl 2 rfl) ?_
  refine lv_iadd hx hb dX10_asksSlice_50 ?_
  refine lv_topi (fun x233 ex233 => ?_)
  have tx233 := i_add ex233 (by omega)
  refine x_ai C hT gq231 rg_117 ⟨by omega, by show _ < ((160 : Nat) : Int); omega⟩ dX10_asksSlice_51 (fun x234 ex234 bx234 => ?_)
  refine x_V (As := [.int x218, .int x2, .int x222, .int x226, .int x230, .int x234]) (rest := []) C (a_X10_asks l K G s.heap (x218) (x2) (x222) (x226) (x230) (x234) hT ga0) yo_X10_asks wM_X10_312 ⟨⟨by decide, by decide⟩, by decide, by decide⟩ (x_rv C hT (ci := 10) rfl ga0 rg_112) rfl hl.1 rfl (Nat.le_of_ble_eq_true rfl) dX10_asksSlice_52 hS (AE_sub (fun _ _ => rfl) (by decide) hS.1) (fun vH235 H235 locsH235 pH235 zH235 kH235 hSH235 => ?_)
  obtain ⟨hvH235, hTH235⟩ := pH235
  subst hvH235
  have m236 := (eq217).trans (fR_kept (x_lt hT kH235 ga0 (by decide))).symm
  have m237 := (ex218).trans (fI_kept (x_lt hT kH235 gq217 (by decide))).symm
  have m238 := (eq219).trans (fR_kept (x_lt hT kH235 ga0 (by decide))).symm
  have m239 := (ex222).trans (fI_kept (x_lt hT kH235 gq219 (by decide))).symm
  have m240 := (eq223).trans (fR_kept (x_lt hT kH235 ga0 (by decide))).symm
  have m241 := (ex226).trans (fI_kept (x_lt hT kH235 gq223 (by decide))).symm
  have m242 := (eq227).trans (fR_kept (x_lt hT kH235 ga0 (by decide))).symm
  have m243 := (ex230).trans (fI_kept (x_lt hT kH235 gq227 (by decide))).symm
  have m244 := (eq231).trans (fR_kept (x_lt hT kH235 ga0 (by decide))).symm
  have m245 := (ex234).trans (fI_kept (x_lt hT kH235 gq231 (by decide))).symm
  refine W.eq (g2 := F0 m 55 ls []) rfl ?_
  exact x_vret C hQ dX10_asksSlice_55 hSH235 (by decide) (by decide) (⟨rfl, hTH235⟩)

set_option maxHeartbeats 4000000 in
set_option maxRecDepth 100000 in
theorem a_X10_toneBy (l : Launch) (K : KE) (G : Nat → Option Nat) (H : Heap) {a0 : Nat} (x1 : Int32) (x2 : Int32) (x3 : Int32) (hT : TY K G H) (ga0 : G a0 = some 112) (hx1 : 0 ≤ x1.toInt ∧ x1.toInt ≤ 1) (hx2 : 0 ≤ x2.toInt ∧ x2.toInt ≤ 9) (hg_CG : CG (avw K H a0)) : MX l K yX10_toneBy cX10_toneBy 7 (some .int) 4 97 0 0 [.ref a0, .int x1, .int x2, .int x3] H (AE G [140, 139] H.size) (fun v H1 => ∃ (r : Int32), v = some (.int r) ∧ TY K G H1) := by
  refine MX.of (by decide +kernel) (Nat.le_of_ble_eq_true rfl) ?_
  intro p e s m below meth c ls Q C hH hl hQ
  subst hH
  have C : CX p K s m _ meth c RX10 cX10_toneBy 7 (some .int) "toneBy" := C
  obtain ⟨hx, hb, hml, hown, hts, hKT, hr, hlocks, hnm⟩ := id C
  have hl : lv_has ls 7 [(0, .ref a0), (1, .int x1), (2, .int x2), (3, .int x3)] := hl
  have hS : va_S (AE G [140, 139] s.heap.size) s.heap s.heap [] := va_S.rf
  have n_0 : (0 : Int32).toInt = 0 := rfl
  have n_1 : (1 : Int32).toInt = 1 := rfl
  have n_1000 : (1000 : Int32).toInt = 1000 := rfl
  have hap : ∀ x y, x < 74 → y < 74 → x ≠ y → K.1.2 10 x ≠ K.1.2 10 y := x_apart hKT hts inX10 tyX10 tyX10_ok nmX10 rfl
  have J9 : ∀ (nf : Nat) (ls769 : Array Slot) (H768 : Heap) (locsH768 : List Loc) (x771 : Int32) (x772 : Int32) (x773 : Int32), lv_has ls769 7 [(0, .ref a0), (1, .int x1), (2, .int x2), (3, .int x3), (4, .int x771), (5, .int x772), (6, .int x773)] → TY K G H768 → va_S (AE G [140, 139] s.heap.size) s.heap H768 locsH768 → (0 ≤ x773.toInt ∧ x773.toInt ≤ 16) → (CG (avw K H768 a0)) → (16 - x773.toInt < (nf : Int)) → W p l e ({ frames := 4, cells := 0, slots := 0, locals := 97 } : Room) s m (([.ref a0, .int x1, .int x2, .int x3] : List Value).toArray) below meth c H768 locsH768 0 0 Q (F0 m 9 ls769 []) := by
    intro nf
    induction nf with
    | zero =>
      intro ls769 H768 locsH768 x771 x772 x773 hl770 hTH768 hSH768 bx773 gy774_CG hm9
      have rx771 := i_rng x771
      have rx772 := i_rng x772
      exfalso
      omega
    | succ nf ih9 =>
      intro ls769 H768 locsH768 x771 x772 x773 hl770 hTH768 hSH768 bx773 gy774_CG hm9
      have rx771 := i_rng x771
      have rx772 := i_rng x772
      have J75 : ∀ (ls776 : Array Slot) (H775 : Heap) (locsH775 : List Loc) (x778 : Int32), lv_has ls776 7 [] → TY K G H775 → va_S (AE G [140, 139] s.heap.size) s.heap H775 locsH775 → (CG (avw K H775 a0)) → W p l e ({ frames := 4, cells := 0, slots := 0, locals := 97 } : Room) s m (([.ref a0, .int x1, .int x2, .int x3] : List Value).toArray) below meth c H775 locsH775 0 0 Q (F0 m 75 ls776 [.int x778]) := by
        intro ls776 H775 locsH775 x778 hl777 hTH775 hSH775 gy779_CG
        exact x_iret C hQ dX10_toneBy_75 hSH775 (by decide) (by decide) (⟨x778, rfl, hTH775⟩)
      refine lv_iload hx hb dX10_toneBy_9 (lv_at hl770 6 rfl) ?_
      refine lv_aload_n hx hb dX10_toneBy_11 rfl (lv_at hl770 0 rfl) ?_
      refine x_gr C hTH768 (ci := 10) (k := 4) rfl inX10 (by decide) wF_X10_13 ga0 rg_112 rfl dX10_toneBy_12 (fun q780 eq780 gq780 => ?_)
      refine lv_iload_n hx hb dX10_toneBy_15 rfl (lv_at hl770 2 rfl) ?_
      refine x_ai C hTH768 gq780 rg_113 ⟨by omega, by show _ < ((10 : Nat) : Int); omega⟩ dX10_toneBy_16 (fun x781 ex781 bx781 => ?_)
      refine lv_icmp_ge (tgt := 57) hx hb dX10_toneBy_17 (by decide) (fun c782 => ?_) (fun c782 => ?_)
      · have k783 := i_le c782
        refine lv_iload hx hb dX10_toneBy_57 (lv_at hl770 5 rfl) ?_
        refine lv_if_ne (tgt := 66) hx hb dX10_toneBy_59 (by decide) (fun c784 => ?_) (fun c784 => ?_)
        · have k785 := i_ne c784
          refine lv_sipush (v := 1000) hx hb dX10_toneBy_66 (by decide) ?_
          refine lv_iload hx hb dX10_toneBy_69 (lv_at hl770 4 rfl) ?_
          refine lv_imul hx hb dX10_toneBy_71 ?_
          refine lv_topi (fun x786 ex786 => ?_)
          refine lv_iload hx hb dX10_toneBy_72 (lv_at hl770 5 rfl) ?_
          refine lv_idiv hx hb dX10_toneBy_74 (fun h => by have := i_eq h; omega) ?_
          refine lv_topi (fun x787 ex787 => ?_)
          exact J75 ls769 H768 locsH768 (x787) (lv_sub hl770 [] rfl) hTH768 hSH768 gy774_CG
        · have k785 := i_eq c784
          refine lv_iconst (v := 0) hx hb dX10_toneBy_62 (by decide) ?_
          refine lv_goto (tgt := 75) hx hb dX10_toneBy_63 (by decide) ?_
          exact J75 ls769 H768 locsH768 (0) (lv_sub hl770 [] rfl) hTH768 hSH768 gy774_CG
      · have k783 := i_nle c782
        refine lv_aload_n hx hb dX10_toneBy_20 rfl (lv_at hl770 0 rfl) ?_
        refine lv_iload_n hx hb dX10_toneBy_21 rfl (lv_at hl770 2 rfl) ?_
        refine lv_iload hx hb dX10_toneBy_22 (lv_at hl770 6 rfl) ?_
        refine x_V (As := [.int x2, .int x773]) (rest := []) C (a_X10_asksSlice l K G H768 (x2) (x773) hTH768 ga0 (by omega) (by omega)) yo_X10_asksSlice wM_X10_316 ⟨⟨by decide, by decide⟩, by decide, by decide⟩ (x_rv C hTH768 (ci := 10) rfl ga0 rg_112) rfl hl770.1 rfl (Nat.le_of_ble_eq_true rfl) dX10_toneBy_24 hSH768 (AE_sub (fun _ _ => rfl) (by decide) hSH768.1) (fun vH788 H788 locsH788 pH788 zH788 kH788 hSH788 => ?_)
        obtain ⟨hvH788, hTH788⟩ := pH788
        subst hvH788
        have g789 : CG (avw K H788 a0) := CG.congr (fun k hk j => av_eff hTH768 kH788 ga0 (by decide) (CG_eff [139] (by decide) k hk)) gy774_CG
        have m790 := (eq780).trans (fR_kept (x_lt hTH768 kH788 ga0 (by decide))).symm
        have m791 := (ex781).trans (fI_kept (x_lt hTH768 kH788 gq780 (by decide))).symm
        refine W.eq (g2 := F0 m 27 ls769 []) rfl ?_
        refine lv_iload hx hb dX10_toneBy_27 (lv_at hl770 4 rfl) ?_
        refine lv_aload_n hx hb dX10_toneBy_29 rfl (lv_at hl770 0 rfl) ?_
        refine lv_iload_n hx hb dX10_toneBy_30 rfl (lv_at hl770 1 rfl) ?_
        refine lv_iconst (v := 0) hx hb dX10_toneBy_31 (by decide) ?_
        refine lv_iload_n hx hb dX10_toneBy_32 rfl (lv_at hl770 3 rfl) ?_
        obtain ⟨q792, eq792⟩ : ∃ z : Nat, z = fR H788 a0 (K.1.2 10 24) := ⟨_, rfl⟩
        have gq792 := ty_fr (q := q792) (k := 24) (u := 128) eq792 hTH788 ga0 rg_112 rfl
        obtain ⟨x793, ex793⟩ : ∃ z : Int32, z = fI H788 q792 (x1 : Int32).toNatClampNeg := ⟨_, rfl⟩
        have bx793 := ty_ai (x := x793) ex793 hTH788 gq792 rg_128 (by omega)
        refine x_V (As := [.int x1, .int 0, .int x3]) (rest := [.int x771]) C (a_X10_tellsBy l K G H788 (x1) (0) (x3) (x793) hTH788 ga0 (by omega) gq792 eq792 ex793 g789) yo_X10_tellsBy wM_X10_319 ⟨⟨by decide, by decide⟩, by decide, by decide⟩ (x_rv C hTH788 (ci := 10) rfl ga0 rg_112) rfl hl770.1 rfl (Nat.le_of_ble_eq_true rfl) dX10_toneBy_33 hSH788 (AE_sub (fun _ _ => rfl) (by decide) hSH788.1) (fun vH794 H794 locsH794 pH794 zH794 kH794 hSH794 => ?_)
        obtain ⟨x795, hvH794, hTH794⟩ := pH794
        subst hvH794
        have g796 : CG (avw K H794 a0) := CG.congr (fun k hk j => av_eff hTH788 kH794 ga0 (by decide) (CG_eff [140] (by decide) k hk)) g789
        have m797 := (m790).trans (fR_kept (x_lt hTH788 kH794 ga0 (by decide))).symm
        have m798 := (m791).trans (fI_kept (x_lt hTH788 kH794 gq780 (by decide))).symm
        have m799 := (eq792).trans (fR_kept (x_lt hTH788 kH794 ga0 (by decide))).symm
        have m800 := (ex793).trans (fI_kept (x_lt hTH788 kH794 gq792 (by decide))).symm
        refine W.eq (g2 := F0 m 36 ls769 [.int x795, .int x771]) rfl ?_
        refine lv_iadd hx hb dX10_toneBy_36 ?_
        refine lv_topi (fun x801 ex801 => ?_)
        refine lv_istore (lv' := [(4, .int x801), (0, .ref a0), (1, .int x1), (2, .int x2), (3, .int x3), (5, .int x772), (6, .int x773)]) hx hb dX10_toneBy_37 hl770 (by decide) rfl (fun ls802 hl803 => ?_)
        refine lv_iload hx hb dX10_toneBy_39 (lv_at hl803 5 rfl) ?_
        refine lv_aload_n hx hb dX10_toneBy_41 rfl (lv_at hl803 1 rfl) ?_
        refine lv_iload_n hx hb dX10_toneBy_42 rfl (lv_at hl803 2 rfl) ?_
        refine lv_iconst (v := 1) hx hb dX10_toneBy_43 (by decide) ?_
        refine lv_iload_n hx hb dX10_toneBy_44 rfl (lv_at hl803 4 rfl) ?_
        refine x_V (As := [.int x1, .int 1, .int x3]) (rest := [.int x772]) C (a_X10_tellsBy l K G H794 (x1) (1) (x3) (x793) hTH794 ga0 (by omega) gq792 m799 m800 g796) yo_X10_tellsBy wM_X10_319 ⟨⟨by decide, by decide⟩, by decide, by decide⟩ (x_rv C hTH794 (ci := 10) rfl ga0 rg_112) rfl hl803.1 rfl (Nat.le_of_ble_eq_true rfl) dX10_toneBy_45 hSH794 (AE_sub (fun _ _ => rfl) (by decide) hSH794.1) (fun vH804 H804 locsH804 pH804 zH804 kH804 hSH804 => ?_)
        obtain ⟨x805, hvH804, hTH804⟩ := pH804
        subst hvH804
        have g806 : CG (avw K H804 a0) := CG.congr (fun k hk j => av_eff hTH794 kH804 ga0 (by decide) (CG_eff [140] (by decide) k hk)) g796
        have m807 := (m797).trans (fR_kept (x_lt hTH794 kH804 ga0 (by decide))).symm
        have m808 := (m798).trans (fI_kept (x_lt hTH794 kH804 gq780 (by decide))).symm
        have m809 := (m799).trans (fR_kept (x_lt hTH794 kH804 ga0 (by decide))).symm
        have m810 := (m800).trans (fI_kept (x_lt hTH794 kH804 gq792 (by decide))).symm
        refine W.eq (g2 := F0 m 48 ls802 [.int x805, .int x772]) rfl ?_
        refine lv_iadd hx hb dX10_toneBy_48 ?_
        refine lv_topi (fun x811 ex811 => ?_)
        refine lv_istore (lv' := [(5, .int x811), (4, .int x801), (0, .ref a0), (1, .int x1), (2, .int x2), (3, .int x3), (6, .int x773)]) hx hb dX10_toneBy_49 hl803 (by decide) rfl (fun ls812 hl813 => ?_)
        obtain ⟨x814, ex814⟩ : ∃ y : Int32, y = x773 + 1 := ⟨_, rfl⟩
        have tx814 := i_add ex814 (by omega)
        refine lv_iinc (v := x814) (lv' := [(6, .int x814), (5, .int x811), (4, .int x801), (0, .ref a0), (1, .int x1), (2, .int x2), (3, .int x3)]) hx hb dX10_toneBy_51 hl813 (k := 6) rfl (by rw [ex814]; rfl) (by decide) rfl (fun ls815 hl816 => ?_)
        refine lv_goto (tgt := 9) hx hb dX10_toneBy_54 (by decide) ?_
        exact ih9 ls815 H804 locsH804 (x801) (x811) (x814) (lv_sub hl816 [3, 4, 5, 6, 2, 1, 0] rfl) hTH804 hSH804 (by have := i_rng x814; omega) g806 (by omega)
  refine lv_iconst (v := 0) hx hb dX10_toneBy_0 (by decide) ?_
  refine lv_istore (lv' := [(4, .int 0), (0, .ref a0), (1, .int x1), (2, .int x2), (3, .int x3)]) hx hb dX10_toneBy_1 hl (by decide) rfl (fun ls817 hl818 => ?_)
  refine lv_iconst (v := 0) hx hb dX10_toneBy_3 (by decide) ?_
  refine lv_istore (lv' := [(5, .int 0), (4, .int 0), (0, .ref a0), (1, .int x1), (2, .int x2), (3, .int x3)]) hx hb dX10_toneBy_4 hl818 (by decide) rfl (fun ls819 hl820 => ?_)
  refine lv_iconst (v := 0) hx hb dX10_toneBy_6 (by decide) ?_
  refine lv_istore (lv' := [(6, .int 0), (5, .int 0), (4, .int 0), (0, .ref a0), (1, .int x1), (2, .int x2), (3, .int x3)]) hx hb dX10_toneBy_7 hl820 (by decide) rfl (fun ls821 hl822 => ?_)
  exact J9 ((16 - (0 : Int32).toInt).toNat + 1) ls821 s.heap [] (0) (0) (0) (lv_sub hl822 [3, 4, 5, 6, 2, 1, 0] rfl) hT hS (by decide) hg_CG (by omega)

set_option maxHeartbeats 4000000 in
set_option maxRecDepth 100000 in
theorem a_X10_toneNow (l : Launch) (K : KE) (G : Nat → Option Nat) (H : Heap) {a0 : Nat} (x1 : Int32) (x2 : Int32) (hT : TY K G H) (ga0 : G a0 = some 112) (hx1 : 0 ≤ x1.toInt ∧ x1.toInt ≤ 9) (hg_CG : CG (avw K H a0)) : MX l K yX10_toneNow cX10_toneNow 3 (some .int) 5 123 0 0 [.ref a0, .int x1, .int x2] H (AE G [140, 139] H.size) (fun v H1 => ∃ (r : Int32), v = some (.int r) ∧ TY K G H1) := by
  refine MX.of (by decide +kernel) (Nat.le_of_ble_eq_true rfl) ?_
  intro p e s m below meth c ls Q C hH hl hQ
  subst hH
  have C : CX p K s m _ meth c RX10 cX10_toneNow 3 (some .int) "toneNow" := C
  obtain ⟨hx, hb, hml, hown, hts, hKT, hr, hlocks, hnm⟩ := id C
  have hl : lv_has ls 3 [(0, .ref a0), (1, .int x1), (2, .int x2)] := hl
  have hS : va_S (AE G [140, 139] s.heap.size) s.heap s.heap [] := va_S.rf
  skip
  have hap : ∀ x y, x < 74 → y < 74 → x ≠ y → K.1.2 10 x ≠ K.1.2 10 y := x_apart hKT hts inX10 tyX10 tyX10_ok nmX10 rfl
  refine lv_aload_n hx hb dX10_toneNow_0 rfl (lv_at hl 0 rfl) ?_
  refine lv_aload_n hx hb dX10_toneNow_1 rfl (lv_at hl 0 rfl) ?_
  refine x_gi C hT (ci := 10) (k := 2) rfl inX10 (by decide) wF_X10_322 ga0 rg_112 rfl dX10_toneNow_2 (fun x121 ex121 bx121 => ?_)
  refine lv_iload_n hx hb dX10_toneNow_5 rfl (lv_at hl 1 rfl) ?_
  refine lv_iload_n hx hb dX10_toneNow_6 rfl (lv_at hl 2 rfl) ?_
  refine x_V (As := [.int x121, .int x1, .int x2]) (rest := []) C (a_X10_toneBy l K G s.heap (x121) (x1) (x2) hT ga0 (by omega) (by omega) hg_CG) yo_X10_toneBy wM_X10_325 ⟨⟨by decide, by decide⟩, by decide, by decide⟩ (x_rv C hT (ci := 10) rfl ga0 rg_112) rfl hl.1 rfl (Nat.le_of_ble_eq_true rfl) dX10_toneNow_7 hS (AE_sub (fun _ _ => rfl) (by decide) hS.1) (fun vH122 H122 locsH122 pH122 zH122 kH122 hSH122 => ?_)
  obtain ⟨x123, hvH122, hTH122⟩ := pH122
  subst hvH122
  have g124 : CG (avw K H122 a0) := CG.congr (fun k hk j => av_eff hT kH122 ga0 (by decide) (CG_eff [140, 139] (by decide) k hk)) hg_CG
  have m125 := (ex121).trans (fI_kept (x_lt hT kH122 ga0 (by decide))).symm
  refine W.eq (g2 := F0 m 10 ls [.int x123]) rfl ?_
  exact x_iret C hQ dX10_toneNow_10 hSH122 (by decide) (by decide) (⟨x123, rfl, hTH122⟩)

set_option maxHeartbeats 4000000 in
set_option maxRecDepth 100000 in
theorem a_X10_isLost (l : Launch) (K : KE) (G : Nat → Option Nat) (H : Heap) {a0 : Nat} (x1 : Int32) (hT : TY K G H) (ga0 : G a0 = some 112) (hx1 : 0 ≤ x1.toInt ∧ x1.toInt ≤ 9) (hg_CG : CG (avw K H a0)) : MX l K yX10_isLost cX10_isLost 3 (some .boolean) 6 145 0 0 [.ref a0, .int x1] H (AE G [140, 139] H.size) (fun v H1 => ∃ (r : Int32), v = some (.int r) ∧ (0 ≤ r.toInt ∧ r.toInt ≤ 1) ∧ TY K G H1) := by
  refine MX.of (by decide +kernel) (Nat.le_of_ble_eq_true rfl) ?_
  intro p e s m below meth c ls Q C hH hl hQ
  subst hH
  have C : CX p K s m _ meth c RX10 cX10_isLost 3 (some .boolean) "isLost" := C
  obtain ⟨hx, hb, hml, hown, hts, hKT, hr, hlocks, hnm⟩ := id C
  have hl : lv_has ls 3 [(0, .ref a0), (1, .int x1)] := hl
  have hS : va_S (AE G [140, 139] s.heap.size) s.heap s.heap [] := va_S.rf
  have n_0 : (0 : Int32).toInt = 0 := rfl
  have n_1 : (1 : Int32).toInt = 1 := rfl
  have n_3 : (3 : Int32).toInt = 3 := rfl
  have hap : ∀ x y, x < 74 → y < 74 → x ≠ y → K.1.2 10 x ≠ K.1.2 10 y := x_apart hKT hts inX10 tyX10 tyX10_ok nmX10 rfl
  have J2 : ∀ (nf : Nat) (ls288 : Array Slot) (H287 : Heap) (locsH287 : List Loc) (x290 : Int32), lv_has ls288 3 [(0, .ref a0), (1, .int x1), (2, .int x290)] → TY K G H287 → va_S (AE G [140, 139] s.heap.size) s.heap H287 locsH287 → (0 ≤ x290.toInt ∧ x290.toInt ≤ 3) → (CG (avw K H287 a0)) → (3 - x290.toInt < (nf : Int)) → W p l e ({ frames := 6, cells := 0, slots := 0, locals := 145 } : Room) s m (([.ref a0, .int x1] : List Value).toArray) below meth c H287 locsH287 0 0 Q (F0 m 2 ls288 []) := by
    intro nf
    induction nf with
    | zero =>
      intro ls288 H287 locsH287 x290 hl289 hTH287 hSH287 bx290 gy291_CG hm2
      exfalso
      omega
    | succ nf ih2 =>
      intro ls288 H287 locsH287 x290 hl289 hTH287 hSH287 bx290 gy291_CG hm2
      have J46 : ∀ (ls293 : Array Slot) (H292 : Heap) (locsH292 : List Loc) , lv_has ls293 3 [(0, .ref a0), (1, .int x1), (2, .int x290)] → TY K G H292 → va_S (AE G [140, 139] s.heap.size) s.heap H292 locsH292 → (0 ≤ x290.toInt ∧ x290.toInt ≤ 2) → (CG (avw K H292 a0)) → W p l e ({ frames := 6, cells := 0, slots := 0, locals := 145 } : Room) s m (([.ref a0, .int x1] : List Value).toArray) below meth c H292 locsH292 0 0 Q (F0 m 46 ls293 []) := by
        intro ls293 H292 locsH292  hl294 hTH292 hSH292 b295 gy296_CG
        obtain ⟨x297, ex297⟩ : ∃ y : Int32, y = x290 + 1 := ⟨_, rfl⟩
        have tx297 := i_add ex297 (by omega)
        refine lv_iinc (v := x297) (lv' := [(2, .int x297), (0, .ref a0), (1, .int x1)]) hx hb dX10_isLost_46 hl294 (k := 2) rfl (by rw [ex297]; rfl) (by decide) rfl (fun ls298 hl299 => ?_)
        refine lv_goto (tgt := 2) hx hb dX10_isLost_49 (by decide) ?_
        exact ih2 ls298 H292 locsH292 (x297) (lv_sub hl299 [1, 2, 0] rfl) hTH292 hSH292 (by have := i_rng x297; omega) gy296_CG (by omega)
      refine lv_iload_n hx hb dX10_isLost_2 rfl (lv_at hl289 2 rfl) ?_
      refine lv_iconst (v := 3) hx hb dX10_isLost_3 (by decide) ?_
      refine lv_icmp_ge (tgt := 52) hx hb dX10_isLost_4 (by decide) (fun c300 => ?_) (fun c300 => ?_)
      · have k301 := i_le c300
        refine lv_iconst (v := 0) hx hb dX10_isLost_52 (by decide) ?_
        exact x_zret C hQ (Or.inl rfl) dX10_isLost_53 hSH287 (by decide) (by decide) (⟨0, rfl, by decide, hTH287⟩)
      · have k301 := i_nle c300
        refine lv_aload_n hx hb dX10_isLost_7 rfl (lv_at hl289 0 rfl) ?_
        refine x_gr C hTH287 (ci := 10) (k := 9) rfl inX10 (by decide) wF_X10_29 ga0 rg_112 rfl dX10_isLost_8 (fun q302 eq302 gq302 => ?_)
        refine lv_iconst (v := 3) hx hb dX10_isLost_11 (by decide) ?_
        refine lv_iload_n hx hb dX10_isLost_12 rfl (lv_at hl289 1 rfl) ?_
        refine lv_imul hx hb dX10_isLost_13 ?_
        refine lv_topi (fun x303 ex303 => ?_)
        have tx303 := i_mul ex303 (by rw [n_3]; omega)
        rw [n_3] at tx303
        refine lv_iload_n hx hb dX10_isLost_14 rfl (lv_at hl289 2 rfl) ?_
        refine lv_iadd hx hb dX10_isLost_15 ?_
        refine lv_topi (fun x304 ex304 => ?_)
        have tx304 := i_add ex304 (by omega)
        refine x_ai C hTH287 gq302 rg_118 ⟨by omega, by show _ < ((30 : Nat) : Int); omega⟩ dX10_isLost_16 (fun x305 ex305 bx305 => ?_)
        refine lv_if_le (tgt := 46) hx hb dX10_isLost_17 (by decide) (fun c306 => ?_) (fun c306 => ?_)
        · have k307 := i_le c306
          exact J46 ls288 H287 locsH287 (lv_sub hl289 [0, 1, 2] rfl) hTH287 hSH287 (by have := i_rng x290; omega) gy291_CG
        · have k307 := i_nle c306
          refine lv_aload_n hx hb dX10_isLost_20 rfl (lv_at hl289 0 rfl) ?_
          refine lv_iload_n hx hb dX10_isLost_21 rfl (lv_at hl289 1 rfl) ?_
          refine lv_iload_n hx hb dX10_isLost_22 rfl (lv_at hl289 2 rfl) ?_
          refine x_V (As := [.int x1, .int x290]) (rest := []) C (a_X10_toneNow l K G H287 (x1) (x290) hTH287 ga0 (by omega) gy291_CG) yo_X10_toneNow wM_X10_335 ⟨⟨by decide, by decide⟩, by decide, by decide⟩ (x_rv C hTH287 (ci := 10) rfl ga0 rg_112) rfl hl289.1 rfl (Nat.le_of_ble_eq_true rfl) dX10_isLost_23 hSH287 (AE_sub (fun _ _ => rfl) (by decide) hSH287.1) (fun vH308 H308 locsH308 pH308 zH308 kH308 hSH308 => ?_)
          obtain ⟨x309, hvH308, hTH308⟩ := pH308
          subst hvH308
          have g310 : CG (avw K H308 a0) := CG.congr (fun k hk j => av_eff hTH287 kH308 ga0 (by decide) (CG_eff [140, 139] (by decide) k hk)) gy291_CG
          have m311 := (eq302).trans (fR_kept (x_lt hTH287 kH308 ga0 (by decide))).symm
          have m312 := (ex305).trans (fI_kept (x_lt hTH287 kH308 gq302 (by decide))).symm
          refine W.eq (g2 := F0 m 26 ls288 [.int x309]) rfl ?_
          refine lv_aload_n hx hb dX10_isLost_26 rfl (lv_at hl289 0 rfl) ?_
          refine x_gr C hTH308 (ci := 10) (k := 9) rfl inX10 (by decide) wF_X10_29 ga0 rg_112 rfl dX10_isLost_27 (fun q313 eq313 gq313 => ?_)
          have uq313 : q302 = q313 := (m311).trans eq313.symm
          subst uq313
          refine lv_iconst (v := 3) hx hb dX10_isLost_30 (by decide) ?_
          refine lv_iload_n hx hb dX10_isLost_31 rfl (lv_at hl289 1 rfl) ?_
          refine lv_imul hx hb dX10_isLost_32 ?_
          refine lv_topi (fun x314 ex314 => ?_)
          have tx314 := i_mul ex314 (by rw [n_3]; omega)
          rw [n_3] at tx314
          refine lv_iload_n hx hb dX10_isLost_33 rfl (lv_at hl289 2 rfl) ?_
          refine lv_iadd hx hb dX10_isLost_34 ?_
          refine lv_topi (fun x315 ex315 => ?_)
          have tx315 := i_add ex315 (by omega)
          refine x_ai C hTH308 gq302 rg_118 ⟨by omega, by show _ < ((30 : Nat) : Int); omega⟩ dX10_isLost_35 (fun x316 ex316 bx316 => ?_)
          refine lv_aload_n hx hb dX10_isLost_36 rfl (lv_at hl289 0 rfl) ?_
          refine x_gi C hTH308 (ci := 10) (k := 3) rfl inX10 (by decide) wF_X10_7 ga0 rg_112 rfl dX10_isLost_37 (fun x317 ex317 bx317 => ?_)
          refine lv_isub hx hb dX10_isLost_40 ?_
          refine lv_topi (fun x318 ex318 => ?_)
          refine lv_icmp_ge (tgt := 46) hx hb dX10_isLost_41 (by decide) (fun c319 => ?_) (fun c319 => ?_)
          · have k320 := i_le c319
            exact J46 ls288 H308 locsH308 (lv_sub hl289 [0, 1, 2] rfl) hTH308 hSH308 (by have := i_rng x290; omega) g310
          · have k320 := i_nle c319
            refine lv_iconst (v := 1) hx hb dX10_isLost_44 (by decide) ?_
            exact x_zret C hQ (Or.inr rfl) dX10_isLost_45 hSH308 (by decide) (by decide) (⟨1, rfl, by decide, hTH308⟩)
  refine lv_iconst (v := 0) hx hb dX10_isLost_0 (by decide) ?_
  refine lv_istore_n (lv' := [(2, .int 0), (0, .ref a0), (1, .int x1)]) hx hb dX10_isLost_1 rfl hl (by decide) rfl (fun ls321 hl322 => ?_)
  exact J2 ((3 - (0 : Int32).toInt).toNat + 1) ls321 s.heap [] (0) (lv_sub hl322 [1, 2, 0] rfl) hT hS (by decide) hg_CG (by omega)

set_option maxHeartbeats 4000000 in
set_option maxRecDepth 100000 in
theorem a_X10_isTrue (l : Launch) (K : KE) (G : Nat → Option Nat) (H : Heap) {a0 : Nat} (x1 : Int32) (hT : TY K G H) (ga0 : G a0 = some 112) (hx1 : 0 ≤ x1.toInt ∧ x1.toInt ≤ 9) (hg_CG : CG (avw K H a0)) : MX l K yX10_isTrue cX10_isTrue 3 (some .boolean) 6 145 0 0 [.ref a0, .int x1] H (AE G [140, 139] H.size) (fun v H1 => ∃ (r : Int32), v = some (.int r) ∧ (0 ≤ r.toInt ∧ r.toInt ≤ 1) ∧ TY K G H1) := by
  refine MX.of (by decide +kernel) (Nat.le_of_ble_eq_true rfl) ?_
  intro p e s m below meth c ls Q C hH hl hQ
  subst hH
  have C : CX p K s m _ meth c RX10 cX10_isTrue 3 (some .boolean) "isTrue" := C
  obtain ⟨hx, hb, hml, hown, hts, hKT, hr, hlocks, hnm⟩ := id C
  have hl : lv_has ls 3 [(0, .ref a0), (1, .int x1)] := hl
  have hS : va_S (AE G [140, 139] s.heap.size) s.heap s.heap [] := va_S.rf
  have n_0 : (0 : Int32).toInt = 0 := rfl
  have n_1 : (1 : Int32).toInt = 1 := rfl
  have n_3 : (3 : Int32).toInt = 3 := rfl
  have hap : ∀ x y, x < 74 → y < 74 → x ≠ y → K.1.2 10 x ≠ K.1.2 10 y := x_apart hKT hts inX10 tyX10 tyX10_ok nmX10 rfl
  have J2 : ∀ (nf : Nat) (ls330 : Array Slot) (H329 : Heap) (locsH329 : List Loc) (x332 : Int32), lv_has ls330 3 [(0, .ref a0), (1, .int x1), (2, .int x332)] → TY K G H329 → va_S (AE G [140, 139] s.heap.size) s.heap H329 locsH329 → (0 ≤ x332.toInt ∧ x332.toInt ≤ 3) → (CG (avw K H329 a0)) → (3 - x332.toInt < (nf : Int)) → W p l e ({ frames := 6, cells := 0, slots := 0, locals := 145 } : Room) s m (([.ref a0, .int x1] : List Value).toArray) below meth c H329 locsH329 0 0 Q (F0 m 2 ls330 []) := by
    intro nf
    induction nf with
    | zero =>
      intro ls330 H329 locsH329 x332 hl331 hTH329 hSH329 bx332 gy333_CG hm2
      exfalso
      omega
    | succ nf ih2 =>
      intro ls330 H329 locsH329 x332 hl331 hTH329 hSH329 bx332 gy333_CG hm2
      have J50 : ∀ (ls335 : Array Slot) (H334 : Heap) (locsH334 : List Loc) , lv_has ls335 3 [(0, .ref a0), (1, .int x1), (2, .int x332)] → TY K G H334 → va_S (AE G [140, 139] s.heap.size) s.heap H334 locsH334 → (0 ≤ x332.toInt ∧ x332.toInt ≤ 2) → (CG (avw K H334 a0)) → W p l e ({ frames := 6, cells := 0, slots := 0, locals := 145 } : Room) s m (([.ref a0, .int x1] : List Value).toArray) below meth c H334 locsH334 0 0 Q (F0 m 50 ls335 []) := by
        intro ls335 H334 locsH334  hl336 hTH334 hSH334 b337 gy338_CG
        obtain ⟨x339, ex339⟩ : ∃ y : Int32, y = x332 + 1 := ⟨_, rfl⟩
        have tx339 := i_add ex339 (by omega)
        refine lv_iinc (v := x339) (lv' := [(2, .int x339), (0, .ref a0), (1, .int x1)]) hx hb dX10_isTrue_50 hl336 (k := 2) rfl (by rw [ex339]; rfl) (by decide) rfl (fun ls340 hl341 => ?_)
        refine lv_goto (tgt := 2) hx hb dX10_isTrue_53 (by decide) ?_
        exact ih2 ls340 H334 locsH334 (x339) (lv_sub hl341 [1, 2, 0] rfl) hTH334 hSH334 (by have := i_rng x339; omega) gy338_CG (by omega)
      refine lv_iload_n hx hb dX10_isTrue_2 rfl (lv_at hl331 2 rfl) ?_
      refine lv_iconst (v := 3) hx hb dX10_isTrue_3 (by decide) ?_
      refine lv_icmp_ge (tgt := 56) hx hb dX10_isTrue_4 (by decide) (fun c342 => ?_) (fun c342 => ?_)
      · have k343 := i_le c342
        refine lv_iconst (v := 1) hx hb dX10_isTrue_56 (by decide) ?_
        exact x_zret C hQ (Or.inr rfl) dX10_isTrue_57 hSH329 (by decide) (by decide) (⟨1, rfl, by decide, hTH329⟩)
      · have k343 := i_nle c342
        refine lv_aload_n hx hb dX10_isTrue_7 rfl (lv_at hl331 0 rfl) ?_
        refine x_gr C hTH329 (ci := 10) (k := 9) rfl inX10 (by decide) wF_X10_29 ga0 rg_112 rfl dX10_isTrue_8 (fun q344 eq344 gq344 => ?_)
        refine lv_iconst (v := 3) hx hb dX10_isTrue_11 (by decide) ?_
        refine lv_iload_n hx hb dX10_isTrue_12 rfl (lv_at hl331 1 rfl) ?_
        refine lv_imul hx hb dX10_isTrue_13 ?_
        refine lv_topi (fun x345 ex345 => ?_)
        have tx345 := i_mul ex345 (by rw [n_3]; omega)
        rw [n_3] at tx345
        refine lv_iload_n hx hb dX10_isTrue_14 rfl (lv_at hl331 2 rfl) ?_
        refine lv_iadd hx hb dX10_isTrue_15 ?_
        refine lv_topi (fun x346 ex346 => ?_)
        have tx346 := i_add ex346 (by omega)
        refine x_ai C hTH329 gq344 rg_118 ⟨by omega, by show _ < ((30 : Nat) : Int); omega⟩ dX10_isTrue_16 (fun x347 ex347 bx347 => ?_)
        refine lv_if_le (tgt := 50) hx hb dX10_isTrue_17 (by decide) (fun c348 => ?_) (fun c348 => ?_)
        · have k349 := i_le c348
          exact J50 ls330 H329 locsH329 (lv_sub hl331 [0, 1, 2] rfl) hTH329 hSH329 (by have := i_rng x332; omega) gy333_CG
        · have k349 := i_nle c348
          refine lv_aload_n hx hb dX10_isTrue_20 rfl (lv_at hl331 0 rfl) ?_
          refine lv_aload_n hx hb dX10_isTrue_21 rfl (lv_at hl331 0 rfl) ?_
          refine lv_iload_n hx hb dX10_isTrue_22 rfl (lv_at hl331 1 rfl) ?_
          refine lv_iload_n hx hb dX10_isTrue_23 rfl (lv_at hl331 2 rfl) ?_
          refine x_V (As := [.int x1, .int x332]) (rest := [.ref a0]) C (a_X10_toneNow l K G H329 (x1) (x332) hTH329 ga0 (by omega) gy333_CG) yo_X10_toneNow wM_X10_335 ⟨⟨by decide, by decide⟩, by decide, by decide⟩ (x_rv C hTH329 (ci := 10) rfl ga0 rg_112) rfl hl331.1 rfl (Nat.le_of_ble_eq_true rfl) dX10_isTrue_24 hSH329 (AE_sub (fun _ _ => rfl) (by decide) hSH329.1) (fun vH350 H350 locsH350 pH350 zH350 kH350 hSH350 => ?_)
          obtain ⟨x351, hvH350, hTH350⟩ := pH350
          subst hvH350
          have g352 : CG (avw K H350 a0) := CG.congr (fun k hk j => av_eff hTH329 kH350 ga0 (by decide) (CG_eff [140, 139] (by decide) k hk)) gy333_CG
          have m353 := (eq344).trans (fR_kept (x_lt hTH329 kH350 ga0 (by decide))).symm
          have m354 := (ex347).trans (fI_kept (x_lt hTH329 kH350 gq344 (by decide))).symm
          refine W.eq (g2 := F0 m 27 ls330 [.int x351, .ref a0]) rfl ?_
          refine lv_aload_n hx hb dX10_isTrue_27 rfl (lv_at hl331 0 rfl) ?_
          refine x_gr C hTH350 (ci := 10) (k := 9) rfl inX10 (by decide) wF_X10_29 ga0 rg_112 rfl dX10_isTrue_28 (fun q355 eq355 gq355 => ?_)
          have uq355 : q344 = q355 := (m353).trans eq355.symm
          subst uq355
          refine lv_iconst (v := 3) hx hb dX10_isTrue_31 (by decide) ?_
          refine lv_iload_n hx hb dX10_isTrue_32 rfl (lv_at hl331 1 rfl) ?_
          refine lv_imul hx hb dX10_isTrue_33 ?_
          refine lv_topi (fun x356 ex356 => ?_)
          have tx356 := i_mul ex356 (by rw [n_3]; omega)
          rw [n_3] at tx356
          refine lv_iload_n hx hb dX10_isTrue_34 rfl (lv_at hl331 2 rfl) ?_
          refine lv_iadd hx hb dX10_isTrue_35 ?_
          refine lv_topi (fun x357 ex357 => ?_)
          have tx357 := i_add ex357 (by omega)
          refine x_ai C hTH350 gq344 rg_118 ⟨by omega, by show _ < ((30 : Nat) : Int); omega⟩ dX10_isTrue_36 (fun x358 ex358 bx358 => ?_)
          refine lv_isub hx hb dX10_isTrue_37 ?_
          refine lv_topi (fun x359 ex359 => ?_)
          refine x_V (As := [.int x359]) (rest := []) C (a_X10_size l K G H350 (x359) hTH350 ga0) yo_X10_size wM_X10_309 ⟨⟨by decide, by decide⟩, by decide, by decide⟩ (x_rv C hTH350 (ci := 10) rfl ga0 rg_112) rfl hl331.1 rfl (Nat.le_of_ble_eq_true rfl) dX10_isTrue_38 hSH350 (AE_sub (fun _ _ => rfl) (by decide) hSH350.1) (fun vH360 H360 locsH360 pH360 zH360 kH360 hSH360 => ?_)
          obtain ⟨x361, hvH360, hTH360⟩ := pH360
          subst hvH360
          have g362 : CG (avw K H360 a0) := CG.congr (fun k hk j => av_eff hTH350 kH360 ga0 (by decide) (CG_eff [] (by decide) k hk)) g352
          have m363 := (m353).trans (fR_kept (x_lt hTH350 kH360 ga0 (by decide))).symm
          have m364 := (m354).trans (fI_kept (x_lt hTH350 kH360 gq344 (by decide))).symm
          have m365 := (ex358).trans (fI_kept (x_lt hTH350 kH360 gq344 (by decide))).symm
          refine W.eq (g2 := F0 m 41 ls330 [.int x361]) rfl ?_
          refine lv_aload_n hx hb dX10_isTrue_41 rfl (lv_at hl331 0 rfl) ?_
          refine x_gi C hTH360 (ci := 10) (k := 3) rfl inX10 (by decide) wF_X10_7 ga0 rg_112 rfl dX10_isTrue_42 (fun x366 ex366 bx366 => ?_)
          refine lv_icmp_le (tgt := 50) hx hb dX10_isTrue_45 (by decide) (fun c367 => ?_) (fun c367 => ?_)
          · have k368 := i_le c367
            exact J50 ls330 H360 locsH360 (lv_sub hl331 [0, 1, 2] rfl) hTH360 hSH360 (by have := i_rng x332; omega) g362
          · have k368 := i_nle c367
            refine lv_iconst (v := 0) hx hb dX10_isTrue_48 (by decide) ?_
            exact x_zret C hQ (Or.inl rfl) dX10_isTrue_49 hSH360 (by decide) (by decide) (⟨0, rfl, by decide, hTH360⟩)
  refine lv_iconst (v := 0) hx hb dX10_isTrue_0 (by decide) ?_
  refine lv_istore_n (lv' := [(2, .int 0), (0, .ref a0), (1, .int x1)]) hx hb dX10_isTrue_1 rfl hl (by decide) rfl (fun ls369 hl370 => ?_)
  exact J2 ((3 - (0 : Int32).toInt).toNat + 1) ls369 s.heap [] (0) (lv_sub hl370 [1, 2, 0] rfl) hT hS (by decide) hg_CG (by omega)

set_option maxHeartbeats 4000000 in
set_option maxRecDepth 100000 in
theorem a_X10_toneByTable (l : Launch) (K : KE) (G : Nat → Option Nat) (H : Heap) {a0 : Nat} (x1 : Int32) (x2 : Int32) {slq : Nat} (sz : Int32) (hT : TY K G H) (ga0 : G a0 = some 112) (hx1 : 0 ≤ x1.toInt ∧ x1.toInt ≤ 9) (hx2 : 0 ≤ x2.toInt ∧ x2.toInt ≤ 2) (gslq : G slq = some 113) (eslq : slq = fR H a0 (K.1.2 10 4)) (esz : sz = fI H slq (x1 : Int32).toNatClampNeg) (hp0 : sz.toInt ≤ 8) : MX l K yX10_toneByTable cX10_toneByTable 6 (some .int) 0 0 0 0 [.ref a0, .int x1, .int x2] H (AE G [] H.size) (fun v H1 => ∃ (r : Int32), v = some (.int r) ∧ TY K G H1) := by
  refine MX.of (by decide +kernel) (Nat.le_of_ble_eq_true rfl) ?_
  intro p e s m below meth c ls Q C hH hl hQ
  subst hH
  have C : CX p K s m _ meth c RX10 cX10_toneByTable 6 (some .int) "toneByTable" := C
  obtain ⟨hx, hb, hml, hown, hts, hKT, hr, hlocks, hnm⟩ := id C
  have hl : lv_has ls 6 [(0, .ref a0), (1, .int x1), (2, .int x2)] := hl
  have hS : va_S (AE G [] s.heap.size) s.heap s.heap [] := va_S.rf
  have n_0 : (0 : Int32).toInt = 0 := rfl
  have n_1 : (1 : Int32).toInt = 1 := rfl
  have n_6 : (6 : Int32).toInt = 6 := rfl
  have n_48 : (48 : Int32).toInt = 48 := rfl
  have n_1000 : (1000 : Int32).toInt = 1000 := rfl
  have bsz := ty_ai (x := sz) esz hT gslq rg_113 (by omega)
  have hap : ∀ x y, x < 74 → y < 74 → x ≠ y → K.1.2 10 x ≠ K.1.2 10 y := x_apart hKT hts inX10 tyX10 tyX10_ok nmX10 rfl
  have J8 : ∀ (nf : Nat) (ls561 : Array Slot) (H560 : Heap) (locsH560 : List Loc) (x563 : Int32) (x564 : Int32) (x565 : Int32), lv_has ls561 6 [(0, .ref a0), (1, .int x1), (2, .int x2), (3, .int x563), (4, .int x564), (5, .int x565)] → TY K G H560 → va_S (AE G [] s.heap.size) s.heap H560 locsH560 → (0 ≤ x565.toInt ∧ x565.toInt ≤ 8) → (slq = fR H560 a0 (K.1.2 10 4)) → (sz = fI H560 slq (x1 : Int32).toNatClampNeg) → (8 - x565.toInt < (nf : Int)) → W p l e ({ frames := 0, cells := 0, slots := 0, locals := 0 } : Room) s m (([.ref a0, .int x1, .int x2] : List Value).toArray) below meth c H560 locsH560 0 0 Q (F0 m 8 ls561 []) := by
    intro nf
    induction nf with
    | zero =>
      intro ls561 H560 locsH560 x563 x564 x565 hl562 hTH560 hSH560 bx565 cy566_0 cy566_1 hm8
      have rx563 := i_rng x563
      have rx564 := i_rng x564
      exfalso
      omega
    | succ nf ih8 =>
      intro ls561 H560 locsH560 x563 x564 x565 hl562 hTH560 hSH560 bx565 cy566_0 cy566_1 hm8
      have rx563 := i_rng x563
      have rx564 := i_rng x564
      have J96 : ∀ (ls568 : Array Slot) (H567 : Heap) (locsH567 : List Loc) (x570 : Int32), lv_has ls568 6 [] → TY K G H567 → va_S (AE G [] s.heap.size) s.heap H567 locsH567 → (slq = fR H567 a0 (K.1.2 10 4)) → (sz = fI H567 slq (x1 : Int32).toNatClampNeg) → W p l e ({ frames := 0, cells := 0, slots := 0, locals := 0 } : Room) s m (([.ref a0, .int x1, .int x2] : List Value).toArray) below meth c H567 locsH567 0 0 Q (F0 m 96 ls568 [.int x570]) := by
        intro ls568 H567 locsH567 x570 hl569 hTH567 hSH567 cy571_0 cy571_1
        exact x_iret C hQ dX10_toneByTable_96 hSH567 (by decide) (by decide) (⟨x570, rfl, hTH567⟩)
      refine lv_iload hx hb dX10_toneByTable_8 (lv_at hl562 5 rfl) ?_
      refine lv_aload_n hx hb dX10_toneByTable_10 rfl (lv_at hl562 0 rfl) ?_
      refine x_gr C hTH560 (ci := 10) (k := 4) rfl inX10 (by decide) wF_X10_13 ga0 rg_112 rfl dX10_toneByTable_11 (fun q572 eq572 gq572 => ?_)
      have uq572 : slq = q572 := (cy566_0).trans eq572.symm
      subst uq572
      refine lv_iload_n hx hb dX10_toneByTable_14 rfl (lv_at hl562 1 rfl) ?_
      refine x_ai C hTH560 gslq rg_113 ⟨by omega, by show _ < ((10 : Nat) : Int); omega⟩ dX10_toneByTable_15 (fun x573 ex573 bx573 => ?_)
      have ux573 : sz = x573 := (cy566_1).trans ex573.symm
      subst ux573
      refine lv_icmp_ge (tgt := 79) hx hb dX10_toneByTable_16 (by decide) (fun c574 => ?_) (fun c574 => ?_)
      · have k575 := i_le c574
        refine lv_iload hx hb dX10_toneByTable_79 (lv_at hl562 4 rfl) ?_
        refine lv_if_ne (tgt := 88) hx hb dX10_toneByTable_81 (by decide) (fun c576 => ?_) (fun c576 => ?_)
        · have k577 := i_ne c576
          refine lv_sipush (v := 1000) hx hb dX10_toneByTable_88 (by decide) ?_
          refine lv_iload_n hx hb dX10_toneByTable_91 rfl (lv_at hl562 3 rfl) ?_
          refine lv_imul hx hb dX10_toneByTable_92 ?_
          refine lv_topi (fun x578 ex578 => ?_)
          refine lv_iload hx hb dX10_toneByTable_93 (lv_at hl562 4 rfl) ?_
          refine lv_idiv hx hb dX10_toneByTable_95 (fun h => by have := i_eq h; omega) ?_
          refine lv_topi (fun x579 ex579 => ?_)
          exact J96 ls561 H560 locsH560 (x579) (lv_sub hl562 [] rfl) hTH560 hSH560 cy566_0 cy566_1
        · have k577 := i_eq c576
          refine lv_iconst (v := 0) hx hb dX10_toneByTable_84 (by decide) ?_
          refine lv_goto (tgt := 96) hx hb dX10_toneByTable_85 (by decide) ?_
          exact J96 ls561 H560 locsH560 (0) (lv_sub hl562 [] rfl) hTH560 hSH560 cy566_0 cy566_1
      · have k575 := i_nle c574
        refine lv_iload_n hx hb dX10_toneByTable_19 rfl (lv_at hl562 3 rfl) ?_
        refine lv_aload_n hx hb dX10_toneByTable_20 rfl (lv_at hl562 0 rfl) ?_
        refine x_gr C hTH560 (ci := 10) (k := 47) rfl inX10 (by decide) wF_X10_107 ga0 rg_112 rfl dX10_toneByTable_21 (fun q580 eq580 gq580 => ?_)
        refine lv_bipush (v := 48) hx hb dX10_toneByTable_24 (by decide) ?_
        refine lv_iload_n hx hb dX10_toneByTable_26 rfl (lv_at hl562 2 rfl) ?_
        refine lv_imul hx hb dX10_toneByTable_27 ?_
        refine lv_topi (fun x581 ex581 => ?_)
        have tx581 := i_mul ex581 (by rw [n_48]; omega)
        rw [n_48] at tx581
        refine lv_bipush (v := 6) hx hb dX10_toneByTable_28 (by decide) ?_
        refine lv_iload hx hb dX10_toneByTable_30 (lv_at hl562 5 rfl) ?_
        refine lv_imul hx hb dX10_toneByTable_32 ?_
        refine lv_topi (fun x582 ex582 => ?_)
        have tx582 := i_mul ex582 (by rw [n_6]; omega)
        rw [n_6] at tx582
        refine lv_iadd hx hb dX10_toneByTable_33 ?_
        refine lv_topi (fun x583 ex583 => ?_)
        have tx583 := i_add ex583 (by omega)
        refine lv_aload_n hx hb dX10_toneByTable_34 rfl (lv_at hl562 0 rfl) ?_
        refine x_gr C hTH560 (ci := 10) (k := 49) rfl inX10 (by decide) wF_X10_113 ga0 rg_112 rfl dX10_toneByTable_35 (fun q584 eq584 gq584 => ?_)
        refine lv_iload hx hb dX10_toneByTable_38 (lv_at hl562 5 rfl) ?_
        refine x_ai C hTH560 gq584 rg_145 ⟨by omega, by show _ < ((8 : Nat) : Int); omega⟩ dX10_toneByTable_40 (fun x585 ex585 bx585 => ?_)
        refine lv_iadd hx hb dX10_toneByTable_41 ?_
        refine lv_topi (fun x586 ex586 => ?_)
        have tx586 := i_add ex586 (by omega)
        refine x_ai C hTH560 gq580 rg_143 ⟨by omega, by show _ < ((144 : Nat) : Int); omega⟩ dX10_toneByTable_42 (fun x587 ex587 bx587 => ?_)
        refine lv_iadd hx hb dX10_toneByTable_43 ?_
        refine lv_topi (fun x588 ex588 => ?_)
        refine lv_istore_n (lv' := [(3, .int x588), (0, .ref a0), (1, .int x1), (2, .int x2), (4, .int x564), (5, .int x565)]) hx hb dX10_toneByTable_44 rfl hl562 (by decide) rfl (fun ls589 hl590 => ?_)
        refine lv_iload hx hb dX10_toneByTable_45 (lv_at hl590 4 rfl) ?_
        refine lv_aload_n hx hb dX10_toneByTable_47 rfl (lv_at hl590 1 rfl) ?_
        refine x_gr C hTH560 (ci := 10) (k := 48) rfl inX10 (by decide) wF_X10_110 ga0 rg_112 rfl dX10_toneByTable_48 (fun q591 eq591 gq591 => ?_)
        refine lv_bipush (v := 48) hx hb dX10_toneByTable_51 (by decide) ?_
        refine lv_iload_n hx hb dX10_toneByTable_53 rfl (lv_at hl590 3 rfl) ?_
        refine lv_imul hx hb dX10_toneByTable_54 ?_
        refine lv_topi (fun x592 ex592 => ?_)
        have tx592 := i_mul ex592 (by rw [n_48]; omega)
        rw [n_48] at tx592
        refine lv_bipush (v := 6) hx hb dX10_toneByTable_55 (by decide) ?_
        refine lv_iload hx hb dX10_toneByTable_57 (lv_at hl590 5 rfl) ?_
        refine lv_imul hx hb dX10_toneByTable_59 ?_
        refine lv_topi (fun x593 ex593 => ?_)
        have tx593 := i_mul ex593 (by rw [n_6]; omega)
        rw [n_6] at tx593
        refine lv_iadd hx hb dX10_toneByTable_60 ?_
        refine lv_topi (fun x594 ex594 => ?_)
        have tx594 := i_add ex594 (by omega)
        refine lv_aload_n hx hb dX10_toneByTable_61 rfl (lv_at hl590 1 rfl) ?_
        refine x_gr C hTH560 (ci := 10) (k := 49) rfl inX10 (by decide) wF_X10_113 ga0 rg_112 rfl dX10_toneByTable_62 (fun q595 eq595 gq595 => ?_)
        have uq595 : q584 = q595 := (eq584).trans eq595.symm
        subst uq595
        refine lv_iload hx hb dX10_toneByTable_65 (lv_at hl590 5 rfl) ?_
        refine x_ai C hTH560 gq584 rg_145 ⟨by omega, by show _ < ((8 : Nat) : Int); omega⟩ dX10_toneByTable_67 (fun x596 ex596 bx596 => ?_)
        have ux596 : x585 = x596 := (ex585).trans ex596.symm
        subst ux596
        refine lv_iadd hx hb dX10_toneByTable_68 ?_
        refine lv_topi (fun x597 ex597 => ?_)
        have tx597 := i_add ex597 (by omega)
        refine x_ai C hTH560 gq591 rg_144 ⟨by omega, by show _ < ((144 : Nat) : Int); omega⟩ dX10_toneByTable_69 (fun x598 ex598 bx598 => ?_)
        refine lv_iadd hx hb dX10_toneByTable_70 ?_
        refine lv_topi (fun x599 ex599 => ?_)
        refine lv_istore (lv' := [(4, .int x599), (3, .int x588), (0, .ref a0), (1, .int x1), (2, .int x2), (5, .int x565)]) hx hb dX10_toneByTable_71 hl590 (by decide) rfl (fun ls600 hl601 => ?_)
        obtain ⟨x602, ex602⟩ : ∃ y : Int32, y = x565 + 1 := ⟨_, rfl⟩
        have tx602 := i_add ex602 (by omega)
        refine lv_iinc (v := x602) (lv' := [(5, .int x602), (4, .int x599), (3, .int x588), (0, .ref a0), (1, .int x1), (2, .int x2)]) hx hb dX10_toneByTable_73 hl601 (k := 5) rfl (by rw [ex602]; rfl) (by decide) rfl (fun ls603 hl604 => ?_)
        refine lv_goto (tgt := 8) hx hb dX10_toneByTable_76 (by decide) ?_
        exact ih8 ls603 H560 locsH560 (x588) (x599) (x602) (lv_sub hl604 [3, 4, 5, 2, 1, 0] rfl) hTH560 hSH560 (by have := i_rng x602; omega) cy566_0 cy566_1 (by omega)
  refine lv_iconst (v := 0) hx hb dX10_toneByTable_0 (by decide) ?_
  refine lv_istore_n (lv' := [(3, .int 0), (0, .ref a0), (1, .int x1), (2, .int x2)]) hx hb dX10_toneByTable_1 rfl hl (by decide) rfl (fun ls605 hl606 => ?_)
  refine lv_iconst (v := 0) hx hb dX10_toneByTable_2 (by decide) ?_
  refine lv_istore (lv' := [(4, .int 0), (3, .int 0), (0, .ref a0), (1, .int x1), (2, .int x2)]) hx hb dX10_toneByTable_3 hl606 (by decide) rfl (fun ls607 hl608 => ?_)
  refine lv_iconst (v := 0) hx hb dX10_toneByTable_5 (by decide) ?_
  refine lv_istore (lv' := [(5, .int 0), (4, .int 0), (3, .int 0), (0, .ref a0), (1, .int x1), (2, .int x2)]) hx hb dX10_toneByTable_6 hl608 (by decide) rfl (fun ls609 hl610 => ?_)
  exact J8 ((8 - (0 : Int32).toInt).toNat + 1) ls609 s.heap [] (0) (0) (0) (lv_sub hl610 [3, 4, 5, 2, 1, 0] rfl) hT hS (by decide) eslq esz (by omega)

set_option maxHeartbeats 4000000 in
set_option maxRecDepth 100000 in
theorem a_X10_wouldBe (l : Launch) (K : KE) (G : Nat → Option Nat) (H : Heap) {a0 : Nat} (x1 : Int32) {slq : Nat} (sz : Int32) (hT : TY K G H) (ga0 : G a0 = some 112) (hx1 : 0 ≤ x1.toInt ∧ x1.toInt ≤ 9) (gslq : G slq = some 113) (eslq : slq = fR H a0 (K.1.2 10 4)) (esz : sz = fI H slq (x1 : Int32).toNatClampNeg) (hp0 : sz.toInt ≤ 8) : MX l K yX10_wouldBe cX10_wouldBe 6 (some .int) 1 25 0 0 [.ref a0, .int x1] H (AE G [] H.size) (fun v H1 => ∃ (r : Int32), v = some (.int r) ∧ (0 ≤ r.toInt ∧ r.toInt ≤ 2) ∧ TY K G H1) := by
  refine MX.of (by decide +kernel) (Nat.le_of_ble_eq_true rfl) ?_
  intro p e s m below meth c ls Q C hH hl hQ
  subst hH
  have C : CX p K s m _ meth c RX10 cX10_wouldBe 6 (some .int) "wouldBe" := C
  obtain ⟨hx, hb, hml, hown, hts, hKT, hr, hlocks, hnm⟩ := id C
  have hl : lv_has ls 6 [(0, .ref a0), (1, .int x1)] := hl
  have hS : va_S (AE G [] s.heap.size) s.heap s.heap [] := va_S.rf
  have n_0 : (0 : Int32).toInt = 0 := rfl
  have n_1 : (1 : Int32).toInt = 1 := rfl
  have n_2 : (2 : Int32).toInt = 2 := rfl
  have n_3 : (3 : Int32).toInt = 3 := rfl
  have bsz := ty_ai (x := sz) esz hT gslq rg_113 (by omega)
  have hap : ∀ x y, x < 74 → y < 74 → x ≠ y → K.1.2 10 x ≠ K.1.2 10 y := x_apart hKT hts inX10 tyX10 tyX10_ok nmX10 rfl
  have J4 : ∀ (nf : Nat) (ls363 : Array Slot) (H362 : Heap) (locsH362 : List Loc) (x365 : Int32) (x366 : Int32), lv_has ls363 6 [(0, .ref a0), (1, .int x1), (2, .int x365), (3, .int x366)] → TY K G H362 → va_S (AE G [] s.heap.size) s.heap H362 locsH362 → (1 ≤ x365.toInt ∧ x365.toInt ≤ 2) → (0 ≤ x366.toInt ∧ x366.toInt ≤ 3) → (slq = fR H362 a0 (K.1.2 10 4)) → (sz = fI H362 slq (x1 : Int32).toNatClampNeg) → (3 - x366.toInt < (nf : Int)) → W p l e ({ frames := 1, cells := 0, slots := 0, locals := 25 } : Room) s m (([.ref a0, .int x1] : List Value).toArray) below meth c H362 locsH362 0 0 Q (F0 m 4 ls363 []) := by
    intro nf
    induction nf with
    | zero =>
      intro ls363 H362 locsH362 x365 x366 hl364 hTH362 hSH362 bx365 bx366 cy367_0 cy367_1 hm4
      exfalso
      omega
    | succ nf ih4 =>
      intro ls363 H362 locsH362 x365 x366 hl364 hTH362 hSH362 bx365 bx366 cy367_0 cy367_1 hm4
      have J65 : ∀ (ls369 : Array Slot) (H368 : Heap) (locsH368 : List Loc) (x371 : Int32), lv_has ls369 6 [(0, .ref a0), (1, .int x1), (2, .int x371), (3, .int x366)] → TY K G H368 → va_S (AE G [] s.heap.size) s.heap H368 locsH368 → (1 ≤ x371.toInt ∧ x371.toInt ≤ 2) → (0 ≤ x366.toInt ∧ x366.toInt ≤ 2) → (slq = fR H368 a0 (K.1.2 10 4)) → (sz = fI H368 slq (x1 : Int32).toNatClampNeg) → W p l e ({ frames := 1, cells := 0, slots := 0, locals := 25 } : Room) s m (([.ref a0, .int x1] : List Value).toArray) below meth c H368 locsH368 0 0 Q (F0 m 65 ls369 []) := by
        intro ls369 H368 locsH368 x371 hl370 hTH368 hSH368 bx371 b372 cy373_0 cy373_1
        obtain ⟨x374, ex374⟩ : ∃ y : Int32, y = x366 + 1 := ⟨_, rfl⟩
        have tx374 := i_add ex374 (by omega)
        refine lv_iinc (v := x374) (lv' := [(3, .int x374), (0, .ref a0), (1, .int x1), (2, .int x371)]) hx hb dX10_wouldBe_65 hl370 (k := 3) rfl (by rw [ex374]; rfl) (by decide) rfl (fun ls375 hl376 => ?_)
        refine lv_goto (tgt := 4) hx hb dX10_wouldBe_68 (by decide) ?_
        exact ih4 ls375 H368 locsH368 (x371) (x374) (lv_sub hl376 [1, 2, 3, 0] rfl) hTH368 hSH368 (by have := i_rng x371; omega) (by have := i_rng x374; omega) cy373_0 cy373_1 (by omega)
      refine lv_iload_n hx hb dX10_wouldBe_4 rfl (lv_at hl364 3 rfl) ?_
      refine lv_iconst (v := 3) hx hb dX10_wouldBe_5 (by decide) ?_
      refine lv_icmp_ge (tgt := 71) hx hb dX10_wouldBe_6 (by decide) (fun c377 => ?_) (fun c377 => ?_)
      · have k378 := i_le c377
        refine lv_iload_n hx hb dX10_wouldBe_71 rfl (lv_at hl364 2 rfl) ?_
        exact x_iret C hQ dX10_wouldBe_72 hSH362 (by decide) (by decide) (⟨x365, rfl, by omega, hTH362⟩)
      · have k378 := i_nle c377
        refine lv_aload_n hx hb dX10_wouldBe_9 rfl (lv_at hl364 0 rfl) ?_
        refine x_gr C hTH362 (ci := 10) (k := 9) rfl inX10 (by decide) wF_X10_29 ga0 rg_112 rfl dX10_wouldBe_10 (fun q379 eq379 gq379 => ?_)
        refine lv_iconst (v := 3) hx hb dX10_wouldBe_13 (by decide) ?_
        refine lv_iload_n hx hb dX10_wouldBe_14 rfl (lv_at hl364 1 rfl) ?_
        refine lv_imul hx hb dX10_wouldBe_15 ?_
        refine lv_topi (fun x380 ex380 => ?_)
        have tx380 := i_mul ex380 (by rw [n_3]; omega)
        rw [n_3] at tx380
        refine lv_iload_n hx hb dX10_wouldBe_16 rfl (lv_at hl364 3 rfl) ?_
        refine lv_iadd hx hb dX10_wouldBe_17 ?_
        refine lv_topi (fun x381 ex381 => ?_)
        have tx381 := i_add ex381 (by omega)
        refine x_ai C hTH362 gq379 rg_118 ⟨by omega, by show _ < ((30 : Nat) : Int); omega⟩ dX10_wouldBe_18 (fun x382 ex382 bx382 => ?_)
        refine lv_istore (lv' := [(4, .int x382), (0, .ref a0), (1, .int x1), (2, .int x365), (3, .int x366)]) hx hb dX10_wouldBe_19 hl364 (by decide) rfl (fun ls383 hl384 => ?_)
        refine lv_iload hx hb dX10_wouldBe_21 (lv_at hl384 0 rfl) ?_
        refine lv_if_ne (tgt := 29) hx hb dX10_wouldBe_23 (by decide) (fun c385 => ?_) (fun c385 => ?_)
        · have k386 := i_ne c385
          refine lv_aload_n hx hb dX10_wouldBe_29 rfl (lv_at hl384 1 rfl) ?_
          refine lv_iload_n hx hb dX10_wouldBe_30 rfl (lv_at hl384 2 rfl) ?_
          refine lv_iload_n hx hb dX10_wouldBe_31 rfl (lv_at hl384 4 rfl) ?_
          refine x_V (As := [.int x1, .int x366]) (rest := []) C (a_X10_toneByTable l K G H362 (x1) (x366) (sz) hTH362 ga0 (by omega) (by omega) gslq cy367_0 cy367_1 (by omega)) yo_X10_toneByTable wM_X10_356 ⟨⟨by decide, by decide⟩, by decide, by decide⟩ (x_rv C hTH362 (ci := 10) rfl ga0 rg_112) rfl hl384.1 rfl (Nat.le_of_ble_eq_true rfl) dX10_wouldBe_32 hSH362 (AE_sub (fun _ _ => rfl) (by decide) hSH362.1) (fun vH387 H387 locsH387 pH387 zH387 kH387 hSH387 => ?_)
          obtain ⟨x388, hvH387, hTH387⟩ := pH387
          subst hvH387
          have m389 := (cy367_0).trans (fR_kept (x_lt hTH362 kH387 ga0 (by decide))).symm
          have m390 := (cy367_1).trans (fI_kept (x_lt hTH362 kH387 gslq (by decide))).symm
          have m391 := (eq379).trans (fR_kept (x_lt hTH362 kH387 ga0 (by decide))).symm
          have m392 := (ex382).trans (fI_kept (x_lt hTH362 kH387 gq379 (by decide))).symm
          refine W.eq (g2 := F0 m 35 ls383 [.int x388]) rfl ?_
          refine lv_istore (lv' := [(5, .int x388), (4, .int x382), (0, .ref a0), (1, .int x1), (2, .int x365), (3, .int x366)]) hx hb dX10_wouldBe_35 hl384 (by decide) rfl (fun ls393 hl394 => ?_)
          refine lv_iload hx hb dX10_wouldBe_37 (lv_at hl394 0 rfl) ?_
          refine lv_iload hx hb dX10_wouldBe_39 (lv_at hl394 1 rfl) ?_
          refine lv_aload_n hx hb dX10_wouldBe_41 rfl (lv_at hl394 2 rfl) ?_
          refine x_gi C hTH387 (ci := 10) (k := 3) rfl inX10 (by decide) wF_X10_7 ga0 rg_112 rfl dX10_wouldBe_42 (fun x395 ex395 bx395 => ?_)
          refine lv_isub hx hb dX10_wouldBe_45 ?_
          refine lv_topi (fun x396 ex396 => ?_)
          refine lv_icmp_ge (tgt := 51) hx hb dX10_wouldBe_46 (by decide) (fun c397 => ?_) (fun c397 => ?_)
          · have k398 := i_le c397
            refine lv_iload hx hb dX10_wouldBe_51 (lv_at hl394 0 rfl) ?_
            refine lv_iload hx hb dX10_wouldBe_53 (lv_at hl394 1 rfl) ?_
            refine lv_aload_n hx hb dX10_wouldBe_55 rfl (lv_at hl394 2 rfl) ?_
            refine x_gi C hTH387 (ci := 10) (k := 3) rfl inX10 (by decide) wF_X10_7 ga0 rg_112 rfl dX10_wouldBe_56 (fun x399 ex399 bx399 => ?_)
            have ux399 : x395 = x399 := (ex395).trans ex399.symm
            subst ux399
            refine lv_iadd hx hb dX10_wouldBe_59 ?_
            refine lv_topi (fun x400 ex400 => ?_)
            refine lv_icmp_le (tgt := 65) hx hb dX10_wouldBe_60 (by decide) (fun c401 => ?_) (fun c401 => ?_)
            · have k402 := i_le c401
              exact J65 ls393 H387 locsH387 (x365) (lv_sub hl394 [2, 3, 4, 5] rfl) hTH387 hSH387 (by have := i_rng x365; omega) (by have := i_rng x366; omega) m389 m390
            · have k402 := i_nle c401
              refine lv_iconst (v := 1) hx hb dX10_wouldBe_63 (by decide) ?_
              refine lv_istore_n (lv' := [(2, .int 1), (5, .int x388), (4, .int x382), (0, .ref a0), (1, .int x1), (3, .int x366)]) hx hb dX10_wouldBe_64 rfl hl394 (by decide) rfl (fun ls403 hl404 => ?_)
              exact J65 ls403 H387 locsH387 (1) (lv_sub hl404 [3, 4, 0, 5] rfl) hTH387 hSH387 (by decide) (by have := i_rng x366; omega) m389 m390
          · have k398 := i_nle c397
            refine lv_iconst (v := 0) hx hb dX10_wouldBe_49 (by decide) ?_
            exact x_iret C hQ dX10_wouldBe_50 hSH387 (by decide) (by decide) (⟨0, rfl, by decide, hTH387⟩)
        · have k386 := i_eq c385
          refine lv_goto (tgt := 65) hx hb dX10_wouldBe_26 (by decide) ?_
          exact J65 ls383 H362 locsH362 (x365) (lv_sub hl384 [1, 2, 3, 4] rfl) hTH362 hSH362 (by have := i_rng x365; omega) (by have := i_rng x366; omega) cy367_0 cy367_1
  refine lv_iconst (v := 2) hx hb dX10_wouldBe_0 (by decide) ?_
  refine lv_istore_n (lv' := [(2, .int 2), (0, .ref a0), (1, .int x1)]) hx hb dX10_wouldBe_1 rfl hl (by decide) rfl (fun ls405 hl406 => ?_)
  refine lv_iconst (v := 0) hx hb dX10_wouldBe_2 (by decide) ?_
  refine lv_istore_n (lv' := [(3, .int 0), (2, .int 2), (0, .ref a0), (1, .int x1)]) hx hb dX10_wouldBe_3 rfl hl406 (by decide) rfl (fun ls407 hl408 => ?_)
  exact J4 ((3 - (0 : Int32).toInt).toNat + 1) ls407 s.heap [] (2) (0) (lv_sub hl408 [2, 3, 1, 0] rfl) hT hS (by decide) (by decide) eslq esz (by omega)

set_option maxHeartbeats 4000000 in
set_option maxRecDepth 100000 in
theorem a_X10_toneOf (l : Launch) (K : KE) (G : Nat → Option Nat) (H : Heap) {a0 : Nat} (x1 : Int32) (x2 : Int32) (x3 : Int32) (hT : TY K G H) (ga0 : G a0 = some 112) (hx1 : 0 ≤ x1.toInt ∧ x1.toInt ≤ 1) (hx2 : 0 ≤ x2.toInt ∧ x2.toInt ≤ 9) (hx3 : 0 ≤ x3.toInt ∧ x3.toInt ≤ 119) (hg_CG : CG (avw K H a0)) : MX l K yX10_toneOf cX10_toneOf 7 (some .int) 4 97 0 0 [.ref a0, .int x1, .int x2, .int x3] H (AE G [140, 139] H.size) (fun v H1 => ∃ (r : Int32), v = some (.int r) ∧ TY K G H1) := by
  refine MX.of (by decide +kernel) (Nat.le_of_ble_eq_true rfl) ?_
  intro p e s m below meth c ls Q C hH hl hQ
  subst hH
  have C : CX p K s m _ meth c RX10 cX10_toneOf 7 (some .int) "toneOf" := C
  obtain ⟨hx, hb, hml, hown, hts, hKT, hr, hlocks, hnm⟩ := id C
  have hl : lv_has ls 7 [(0, .ref a0), (1, .int x1), (2, .int x2), (3, .int x3)] := hl
  have hS : va_S (AE G [140, 139] s.heap.size) s.heap s.heap [] := va_S.rf
  have n_0 : (0 : Int32).toInt = 0 := rfl
  have n_1 : (1 : Int32).toInt = 1 := rfl
  have n_16 : (16 : Int32).toInt = 16 := rfl
  have n_1000 : (1000 : Int32).toInt = 1000 := rfl
  have hap : ∀ x y, x < 74 → y < 74 → x ≠ y → K.1.2 10 x ≠ K.1.2 10 y := x_apart hKT hts inX10 tyX10 tyX10_ok nmX10 rfl
  have J9 : ∀ (nf : Nat) (ls1569 : Array Slot) (H1568 : Heap) (locsH1568 : List Loc) (x1571 : Int32) (x1572 : Int32) (x1573 : Int32), lv_has ls1569 7 [(0, .ref a0), (1, .int x1), (2, .int x2), (3, .int x3), (4, .int x1571), (5, .int x1572), (6, .int x1573)] → TY K G H1568 → va_S (AE G [140, 139] s.heap.size) s.heap H1568 locsH1568 → (0 ≤ x1573.toInt ∧ x1573.toInt ≤ 16) → (CG (avw K H1568 a0)) → (16 - x1573.toInt < (nf : Int)) → W p l e ({ frames := 4, cells := 0, slots := 0, locals := 97 } : Room) s m (([.ref a0, .int x1, .int x2, .int x3] : List Value).toArray) below meth c H1568 locsH1568 0 0 Q (F0 m 9 ls1569 []) := by
    intro nf
    induction nf with
    | zero =>
      intro ls1569 H1568 locsH1568 x1571 x1572 x1573 hl1570 hTH1568 hSH1568 bx1573 gy1574_CG hm9
      have rx1571 := i_rng x1571
      have rx1572 := i_rng x1572
      exfalso
      omega
    | succ nf ih9 =>
      intro ls1569 H1568 locsH1568 x1571 x1572 x1573 hl1570 hTH1568 hSH1568 bx1573 gy1574_CG hm9
      have rx1571 := i_rng x1571
      have rx1572 := i_rng x1572
      have J138 : ∀ (ls1576 : Array Slot) (H1575 : Heap) (locsH1575 : List Loc) (x1578 : Int32), lv_has ls1576 7 [] → TY K G H1575 → va_S (AE G [140, 139] s.heap.size) s.heap H1575 locsH1575 → (CG (avw K H1575 a0)) → W p l e ({ frames := 4, cells := 0, slots := 0, locals := 97 } : Room) s m (([.ref a0, .int x1, .int x2, .int x3] : List Value).toArray) below meth c H1575 locsH1575 0 0 Q (F0 m 138 ls1576 [.int x1578]) := by
        intro ls1576 H1575 locsH1575 x1578 hl1577 hTH1575 hSH1575 gy1579_CG
        exact x_iret C hQ dX10_toneOf_138 hSH1575 (by decide) (by decide) (⟨x1578, rfl, hTH1575⟩)
      refine lv_iload hx hb dX10_toneOf_9 (lv_at hl1570 6 rfl) ?_
      refine lv_aload_n hx hb dX10_toneOf_11 rfl (lv_at hl1570 0 rfl) ?_
      refine x_gr C hTH1568 (ci := 10) (k := 4) rfl inX10 (by decide) wF_X10_13 ga0 rg_112 rfl dX10_toneOf_12 (fun q1580 eq1580 gq1580 => ?_)
      refine lv_iload_n hx hb dX10_toneOf_15 rfl (lv_at hl1570 2 rfl) ?_
      refine x_ai C hTH1568 gq1580 rg_113 ⟨by omega, by show _ < ((10 : Nat) : Int); omega⟩ dX10_toneOf_16 (fun x1581 ex1581 bx1581 => ?_)
      refine lv_icmp_ge (tgt := 120) hx hb dX10_toneOf_17 (by decide) (fun c1582 => ?_) (fun c1582 => ?_)
      · have k1583 := i_le c1582
        refine lv_iload hx hb dX10_toneOf_120 (lv_at hl1570 5 rfl) ?_
        refine lv_if_ne (tgt := 129) hx hb dX10_toneOf_122 (by decide) (fun c1584 => ?_) (fun c1584 => ?_)
        · have k1585 := i_ne c1584
          refine lv_sipush (v := 1000) hx hb dX10_toneOf_129 (by decide) ?_
          refine lv_iload hx hb dX10_toneOf_132 (lv_at hl1570 4 rfl) ?_
          refine lv_imul hx hb dX10_toneOf_134 ?_
          refine lv_topi (fun x1586 ex1586 => ?_)
          refine lv_iload hx hb dX10_toneOf_135 (lv_at hl1570 5 rfl) ?_
          refine lv_idiv hx hb dX10_toneOf_137 (fun h => by have := i_eq h; omega) ?_
          refine lv_topi (fun x1587 ex1587 => ?_)
          exact J138 ls1569 H1568 locsH1568 (x1587) (lv_sub hl1570 [] rfl) hTH1568 hSH1568 gy1574_CG
        · have k1585 := i_eq c1584
          refine lv_iconst (v := 0) hx hb dX10_toneOf_125 (by decide) ?_
          refine lv_goto (tgt := 138) hx hb dX10_toneOf_126 (by decide) ?_
          exact J138 ls1569 H1568 locsH1568 (0) (lv_sub hl1570 [] rfl) hTH1568 hSH1568 gy1574_CG
      · have k1583 := i_nle c1582
        refine lv_aload_n hx hb dX10_toneOf_20 rfl (lv_at hl1570 0 rfl) ?_
        refine lv_aload_n hx hb dX10_toneOf_21 rfl (lv_at hl1570 0 rfl) ?_
        refine x_gr C hTH1568 (ci := 10) (k := 4) rfl inX10 (by decide) wF_X10_13 ga0 rg_112 rfl dX10_toneOf_22 (fun q1588 eq1588 gq1588 => ?_)
        have uq1588 : q1580 = q1588 := (eq1580).trans eq1588.symm
        subst uq1588
        refine lv_iload_n hx hb dX10_toneOf_25 rfl (lv_at hl1570 2 rfl) ?_
        refine x_ai C hTH1568 gq1580 rg_113 ⟨by omega, by show _ < ((10 : Nat) : Int); omega⟩ dX10_toneOf_26 (fun x1589 ex1589 bx1589 => ?_)
        have ux1589 : x1581 = x1589 := (ex1581).trans ex1589.symm
        subst ux1589
        refine lv_iload hx hb dX10_toneOf_27 (lv_at hl1570 6 rfl) ?_
        refine lv_aload_n hx hb dX10_toneOf_29 rfl (lv_at hl1570 0 rfl) ?_
        refine x_gr C hTH1568 (ci := 10) (k := 53) rfl inX10 (by decide) wF_X10_125 ga0 rg_112 rfl dX10_toneOf_30 (fun q1590 eq1590 gq1590 => ?_)
        refine lv_bipush (v := 16) hx hb dX10_toneOf_33 (by decide) ?_
        refine lv_iload_n hx hb dX10_toneOf_35 rfl (lv_at hl1570 3 rfl) ?_
        refine lv_imul hx hb dX10_toneOf_36 ?_
        refine lv_topi (fun x1591 ex1591 => ?_)
        have tx1591 := i_mul ex1591 (by rw [n_16]; omega)
        rw [n_16] at tx1591
        refine lv_iload hx hb dX10_toneOf_37 (lv_at hl1570 6 rfl) ?_
        refine lv_iadd hx hb dX10_toneOf_39 ?_
        refine lv_topi (fun x1592 ex1592 => ?_)
        have tx1592 := i_add ex1592 (by omega)
        refine x_ai C hTH1568 gq1590 rg_149 ⟨by omega, by show _ < ((1920 : Nat) : Int); omega⟩ dX10_toneOf_40 (fun x1593 ex1593 bx1593 => ?_)
        refine lv_aload_n hx hb dX10_toneOf_41 rfl (lv_at hl1570 0 rfl) ?_
        refine x_gr C hTH1568 (ci := 10) (k := 6) rfl inX10 (by decide) wF_X10_20 ga0 rg_112 rfl dX10_toneOf_42 (fun q1594 eq1594 gq1594 => ?_)
        refine lv_bipush (v := 16) hx hb dX10_toneOf_45 (by decide) ?_
        refine lv_iload_n hx hb dX10_toneOf_47 rfl (lv_at hl1570 2 rfl) ?_
        refine lv_imul hx hb dX10_toneOf_48 ?_
        refine lv_topi (fun x1595 ex1595 => ?_)
        have tx1595 := i_mul ex1595 (by rw [n_16]; omega)
        rw [n_16] at tx1595
        refine lv_iload hx hb dX10_toneOf_49 (lv_at hl1570 6 rfl) ?_
        refine lv_iadd hx hb dX10_toneOf_51 ?_
        refine lv_topi (fun x1596 ex1596 => ?_)
        have tx1596 := i_add ex1596 (by omega)
        refine x_ai C hTH1568 gq1594 rg_115 ⟨by omega, by show _ < ((160 : Nat) : Int); omega⟩ dX10_toneOf_52 (fun x1597 ex1597 bx1597 => ?_)
        refine lv_aload_n hx hb dX10_toneOf_53 rfl (lv_at hl1570 0 rfl) ?_
        refine x_gr C hTH1568 (ci := 10) (k := 7) rfl inX10 (by decide) wF_X10_23 ga0 rg_112 rfl dX10_toneOf_54 (fun q1598 eq1598 gq1598 => ?_)
        refine lv_bipush (v := 16) hx hb dX10_toneOf_57 (by decide) ?_
        refine lv_iload_n hx hb dX10_toneOf_59 rfl (lv_at hl1570 2 rfl) ?_
        refine lv_imul hx hb dX10_toneOf_60 ?_
        refine lv_topi (fun x1599 ex1599 => ?_)
        have tx1599 := i_mul ex1599 (by rw [n_16]; omega)
        rw [n_16] at tx1599
        refine lv_iload hx hb dX10_toneOf_61 (lv_at hl1570 6 rfl) ?_
        refine lv_iadd hx hb dX10_toneOf_63 ?_
        refine lv_topi (fun x1600 ex1600 => ?_)
        have tx1600 := i_add ex1600 (by omega)
        refine x_ai C hTH1568 gq1598 rg_116 ⟨by omega, by show _ < ((160 : Nat) : Int); omega⟩ dX10_toneOf_64 (fun x1601 ex1601 bx1601 => ?_)
        refine lv_aload_n hx hb dX10_toneOf_65 rfl (lv_at hl1570 0 rfl) ?_
        refine x_gr C hTH1568 (ci := 10) (k := 54) rfl inX10 (by decide) wF_X10_128 ga0 rg_112 rfl dX10_toneOf_66 (fun q1602 eq1602 gq1602 => ?_)
        refine lv_bipush (v := 16) hx hb dX10_toneOf_69 (by decide) ?_
        refine lv_iload_n hx hb dX10_toneOf_71 rfl (lv_at hl1570 3 rfl) ?_
        refine lv_imul hx hb dX10_toneOf_72 ?_
        refine lv_topi (fun x1603 ex1603 => ?_)
        have tx1603 := i_mul ex1603 (by rw [n_16]; omega)
        rw [n_16] at tx1603
        refine lv_iload hx hb dX10_toneOf_73 (lv_at hl1570 6 rfl) ?_
        refine lv_iadd hx hb dX10_toneOf_75 ?_
        refine lv_topi (fun x1604 ex1604 => ?_)
        have tx1604 := i_add ex1604 (by omega)
        refine x_ai C hTH1568 gq1602 rg_150 ⟨by omega, by show _ < ((1920 : Nat) : Int); omega⟩ dX10_toneOf_76 (fun x1605 ex1605 bx1605 => ?_)
        refine x_V (As := [.int x1581, .int x1573, .int x1593, .int x1597, .int x1601, .int x1605]) (rest := []) C (a_X10_asks l K G H1568 (x1581) (x1573) (x1593) (x1597) (x1601) (x1605) hTH1568 ga0) yo_X10_asks wM_X10_312 ⟨⟨by decide, by decide⟩, by decide, by decide⟩ (x_rv C hTH1568 (ci := 10) rfl ga0 rg_112) rfl hl1570.1 rfl (Nat.le_of_ble_eq_true rfl) dX10_toneOf_77 hSH1568 (AE_sub (fun _ _ => rfl) (by decide) hSH1568.1) (fun vH1606 H1606 locsH1606 pH1606 zH1606 kH1606 hSH1606 => ?_)
        obtain ⟨hvH1606, hTH1606⟩ := pH1606
        subst hvH1606
        have g1607 : CG (avw K H1606 a0) := CG.congr (fun k hk j => av_eff hTH1568 kH1606 ga0 (by decide) (CG_eff [139] (by decide) k hk)) gy1574_CG
        have m1608 := (eq1580).trans (fR_kept (x_lt hTH1568 kH1606 ga0 (by decide))).symm
        have m1609 := (ex1581).trans (fI_kept (x_lt hTH1568 kH1606 gq1580 (by decide))).symm
        have m1610 := (eq1590).trans (fR_kept (x_lt hTH1568 kH1606 ga0 (by decide))).symm
        have m1611 := (ex1593).trans (fI_kept (x_lt hTH1568 kH1606 gq1590 (by decide))).symm
        have m1612 := (eq1594).trans (fR_kept (x_lt hTH1568 kH1606 ga0 (by decide))).symm
        have m1613 := (ex1597).trans (fI_kept (x_lt hTH1568 kH1606 gq1594 (by decide))).symm
        have m1614 := (eq1598).trans (fR_kept (x_lt hTH1568 kH1606 ga0 (by decide))).symm
        have m1615 := (ex1601).trans (fI_kept (x_lt hTH1568 kH1606 gq1598 (by decide))).symm
        have m1616 := (eq1602).trans (fR_kept (x_lt hTH1568 kH1606 ga0 (by decide))).symm
        have m1617 := (ex1605).trans (fI_kept (x_lt hTH1568 kH1606 gq1602 (by decide))).symm
        refine W.eq (g2 := F0 m 80 ls1569 []) rfl ?_
        refine lv_iload hx hb dX10_toneOf_80 (lv_at hl1570 4 rfl) ?_
        refine lv_aload_n hx hb dX10_toneOf_82 rfl (lv_at hl1570 0 rfl) ?_
        refine lv_iload_n hx hb dX10_toneOf_83 rfl (lv_at hl1570 1 rfl) ?_
        refine lv_iconst (v := 0) hx hb dX10_toneOf_84 (by decide) ?_
        refine lv_aload_n hx hb dX10_toneOf_85 rfl (lv_at hl1570 0 rfl) ?_
        refine x_gr C hTH1606 (ci := 10) (k := 51) rfl inX10 (by decide) wF_X10_119 ga0 rg_112 rfl dX10_toneOf_86 (fun q1618 eq1618 gq1618 => ?_)
        refine lv_iload_n hx hb dX10_toneOf_89 rfl (lv_at hl1570 3 rfl) ?_
        refine x_ai C hTH1606 gq1618 rg_147 ⟨by omega, by show _ < ((120 : Nat) : Int); omega⟩ dX10_toneOf_90 (fun x1619 ex1619 bx1619 => ?_)
        obtain ⟨q1620, eq1620⟩ : ∃ z : Nat, z = fR H1606 a0 (K.1.2 10 24) := ⟨_, rfl⟩
        have gq1620 := ty_fr (q := q1620) (k := 24) (u := 128) eq1620 hTH1606 ga0 rg_112 rfl
        obtain ⟨x1621, ex1621⟩ : ∃ z : Int32, z = fI H1606 q1620 (x1 : Int32).toNatClampNeg := ⟨_, rfl⟩
        have bx1621 := ty_ai (x := x1621) ex1621 hTH1606 gq1620 rg_128 (by omega)
        refine x_V (As := [.int x1, .int 0, .int x1619]) (rest := [.int x1571]) C (a_X10_tellsBy l K G H1606 (x1) (0) (x1619) (x1621) hTH1606 ga0 (by omega) gq1620 eq1620 ex1621 g1607) yo_X10_tellsBy wM_X10_319 ⟨⟨by decide, by decide⟩, by decide, by decide⟩ (x_rv C hTH1606 (ci := 10) rfl ga0 rg_112) rfl hl1570.1 rfl (Nat.le_of_ble_eq_true rfl) dX10_toneOf_91 hSH1606 (AE_sub (fun _ _ => rfl) (by decide) hSH1606.1) (fun vH1622 H1622 locsH1622 pH1622 zH1622 kH1622 hSH1622 => ?_)
        obtain ⟨x1623, hvH1622, hTH1622⟩ := pH1622
        subst hvH1622
        have g1624 : CG (avw K H1622 a0) := CG.congr (fun k hk j => av_eff hTH1606 kH1622 ga0 (by decide) (CG_eff [140] (by decide) k hk)) g1607
        have m1625 := (m1608).trans (fR_kept (x_lt hTH1606 kH1622 ga0 (by decide))).symm
        have m1626 := (m1609).trans (fI_kept (x_lt hTH1606 kH1622 gq1580 (by decide))).symm
        have m1627 := (m1610).trans (fR_kept (x_lt hTH1606 kH1622 ga0 (by decide))).symm
        have m1628 := (m1611).trans (fI_kept (x_lt hTH1606 kH1622 gq1590 (by decide))).symm
        have m1629 := (m1612).trans (fR_kept (x_lt hTH1606 kH1622 ga0 (by decide))).symm
        have m1630 := (m1613).trans (fI_kept (x_lt hTH1606 kH1622 gq1594 (by decide))).symm
        have m1631 := (m1614).trans (fR_kept (x_lt hTH1606 kH1622 ga0 (by decide))).symm
        have m1632 := (m1615).trans (fI_kept (x_lt hTH1606 kH1622 gq1598 (by decide))).symm
        have m1633 := (m1616).trans (fR_kept (x_lt hTH1606 kH1622 ga0 (by decide))).symm
        have m1634 := (m1617).trans (fI_kept (x_lt hTH1606 kH1622 gq1602 (by decide))).symm
        have m1635 := (eq1618).trans (fR_kept (x_lt hTH1606 kH1622 ga0 (by decide))).symm
        have m1636 := (ex1619).trans (fI_kept (x_lt hTH1606 kH1622 gq1618 (by decide))).symm
        have m1637 := (eq1620).trans (fR_kept (x_lt hTH1606 kH1622 ga0 (by decide))).symm
        have m1638 := (ex1621).trans (fI_kept (x_lt hTH1606 kH1622 gq1620 (by decide))).symm
        refine W.eq (g2 := F0 m 94 ls1569 [.int x1623, .int x1571]) rfl ?_
        refine lv_iadd hx hb dX10_toneOf_94 ?_
        refine lv_topi (fun x1639 ex1639 => ?_)
        refine lv_istore (lv' := [(4, .int x1639), (0, .ref a0), (1, .int x1), (2, .int x2), (3, .int x3), (5, .int x1572), (6, .int x1573)]) hx hb dX10_toneOf_95 hl1570 (by decide) rfl (fun ls1640 hl1641 => ?_)
        refine lv_iload hx hb dX10_toneOf_97 (lv_at hl1641 5 rfl) ?_
        refine lv_aload_n hx hb dX10_toneOf_99 rfl (lv_at hl1641 1 rfl) ?_
        refine lv_iload_n hx hb dX10_toneOf_100 rfl (lv_at hl1641 2 rfl) ?_
        refine lv_iconst (v := 1) hx hb dX10_toneOf_101 (by decide) ?_
        refine lv_aload_n hx hb dX10_toneOf_102 rfl (lv_at hl1641 1 rfl) ?_
        refine x_gr C hTH1622 (ci := 10) (k := 51) rfl inX10 (by decide) wF_X10_119 ga0 rg_112 rfl dX10_toneOf_103 (fun q1642 eq1642 gq1642 => ?_)
        have uq1642 : q1618 = q1642 := (m1635).trans eq1642.symm
        subst uq1642
        refine lv_iload_n hx hb dX10_toneOf_106 rfl (lv_at hl1641 4 rfl) ?_
        refine x_ai C hTH1622 gq1618 rg_147 ⟨by omega, by show _ < ((120 : Nat) : Int); omega⟩ dX10_toneOf_107 (fun x1643 ex1643 bx1643 => ?_)
        have ux1643 : x1619 = x1643 := (m1636).trans ex1643.symm
        subst ux1643
        refine x_V (As := [.int x1, .int 1, .int x1619]) (rest := [.int x1572]) C (a_X10_tellsBy l K G H1622 (x1) (1) (x1619) (x1621) hTH1622 ga0 (by omega) gq1620 m1637 m1638 g1624) yo_X10_tellsBy wM_X10_319 ⟨⟨by decide, by decide⟩, by decide, by decide⟩ (x_rv C hTH1622 (ci := 10) rfl ga0 rg_112) rfl hl1641.1 rfl (Nat.le_of_ble_eq_true rfl) dX10_toneOf_108 hSH1622 (AE_sub (fun _ _ => rfl) (by decide) hSH1622.1) (fun vH1644 H1644 locsH1644 pH1644 zH1644 kH1644 hSH1644 => ?_)
        obtain ⟨x1645, hvH1644, hTH1644⟩ := pH1644
        subst hvH1644
        have g1646 : CG (avw K H1644 a0) := CG.congr (fun k hk j => av_eff hTH1622 kH1644 ga0 (by decide) (CG_eff [140] (by decide) k hk)) g1624
        have m1647 := (m1625).trans (fR_kept (x_lt hTH1622 kH1644 ga0 (by decide))).symm
        have m1648 := (m1626).trans (fI_kept (x_lt hTH1622 kH1644 gq1580 (by decide))).symm
        have m1649 := (m1627).trans (fR_kept (x_lt hTH1622 kH1644 ga0 (by decide))).symm
        have m1650 := (m1628).trans (fI_kept (x_lt hTH1622 kH1644 gq1590 (by decide))).symm
        have m1651 := (m1629).trans (fR_kept (x_lt hTH1622 kH1644 ga0 (by decide))).symm
        have m1652 := (m1630).trans (fI_kept (x_lt hTH1622 kH1644 gq1594 (by decide))).symm
        have m1653 := (m1631).trans (fR_kept (x_lt hTH1622 kH1644 ga0 (by decide))).symm
        have m1654 := (m1632).trans (fI_kept (x_lt hTH1622 kH1644 gq1598 (by decide))).symm
        have m1655 := (m1633).trans (fR_kept (x_lt hTH1622 kH1644 ga0 (by decide))).symm
        have m1656 := (m1634).trans (fI_kept (x_lt hTH1622 kH1644 gq1602 (by decide))).symm
        have m1657 := (m1635).trans (fR_kept (x_lt hTH1622 kH1644 ga0 (by decide))).symm
        have m1658 := (m1636).trans (fI_kept (x_lt hTH1622 kH1644 gq1618 (by decide))).symm
        have m1659 := (m1637).trans (fR_kept (x_lt hTH1622 kH1644 ga0 (by decide))).symm
        have m1660 := (m1638).trans (fI_kept (x_lt hTH1622 kH1644 gq1620 (by decide))).symm
        refine W.eq (g2 := F0 m 111 ls1640 [.int x1645, .int x1572]) rfl ?_
        refine lv_iadd hx hb dX10_toneOf_111 ?_
        refine lv_topi (fun x1661 ex1661 => ?_)
        refine lv_istore (lv' := [(5, .int x1661), (4, .int x1639), (0, .ref a0), (1, .int x1), (2, .int x2), (3, .int x3), (6, .int x1573)]) hx hb dX10_toneOf_112 hl1641 (by decide) rfl (fun ls1662 hl1663 => ?_)
        obtain ⟨x1664, ex1664⟩ : ∃ y : Int32, y = x1573 + 1 := ⟨_, rfl⟩
        have tx1664 := i_add ex1664 (by omega)
        refine lv_iinc (v := x1664) (lv' := [(6, .int x1664), (5, .int x1661), (4, .int x1639), (0, .ref a0), (1, .int x1), (2, .int x2), (3, .int x3)]) hx hb dX10_toneOf_114 hl1663 (k := 6) rfl (by rw [ex1664]; rfl) (by decide) rfl (fun ls1665 hl1666 => ?_)
        refine lv_goto (tgt := 9) hx hb dX10_toneOf_117 (by decide) ?_
        exact ih9 ls1665 H1644 locsH1644 (x1639) (x1661) (x1664) (lv_sub hl1666 [3, 4, 5, 6, 2, 1, 0] rfl) hTH1644 hSH1644 (by have := i_rng x1664; omega) g1646 (by omega)
  refine lv_iconst (v := 0) hx hb dX10_toneOf_0 (by decide) ?_
  refine lv_istore (lv' := [(4, .int 0), (0, .ref a0), (1, .int x1), (2, .int x2), (3, .int x3)]) hx hb dX10_toneOf_1 hl (by decide) rfl (fun ls1667 hl1668 => ?_)
  refine lv_iconst (v := 0) hx hb dX10_toneOf_3 (by decide) ?_
  refine lv_istore (lv' := [(5, .int 0), (4, .int 0), (0, .ref a0), (1, .int x1), (2, .int x2), (3, .int x3)]) hx hb dX10_toneOf_4 hl1668 (by decide) rfl (fun ls1669 hl1670 => ?_)
  refine lv_iconst (v := 0) hx hb dX10_toneOf_6 (by decide) ?_
  refine lv_istore (lv' := [(6, .int 0), (5, .int 0), (4, .int 0), (0, .ref a0), (1, .int x1), (2, .int x2), (3, .int x3)]) hx hb dX10_toneOf_7 hl1670 (by decide) rfl (fun ls1671 hl1672 => ?_)
  exact J9 ((16 - (0 : Int32).toInt).toNat + 1) ls1671 s.heap [] (0) (0) (0) (lv_sub hl1672 [3, 4, 5, 6, 2, 1, 0] rfl) hT hS (by decide) hg_CG (by omega)

set_option maxHeartbeats 4000000 in
set_option maxRecDepth 100000 in
theorem a_X10_fitsAll (l : Launch) (K : KE) (G : Nat → Option Nat) (H : Heap) {a0 : Nat} (x1 : Int32) (x2 : Int32) (hT : TY K G H) (ga0 : G a0 = some 112) (hx1 : 0 ≤ x1.toInt ∧ x1.toInt ≤ 9) (hg_CG : CG (avw K H a0)) : MX l K yX10_fitsAll cX10_fitsAll 4 (some .boolean) 5 123 0 0 [.ref a0, .int x1, .int x2] H (AE G [140, 139] H.size) (fun v H1 => ∃ (r : Int32), v = some (.int r) ∧ (0 ≤ r.toInt ∧ r.toInt ≤ 1) ∧ TY K G H1) := by
  refine MX.of (by decide +kernel) (Nat.le_of_ble_eq_true rfl) ?_
  intro p e s m below meth c ls Q C hH hl hQ
  subst hH
  have C : CX p K s m _ meth c RX10 cX10_fitsAll 4 (some .boolean) "fitsAll" := C
  obtain ⟨hx, hb, hml, hown, hts, hKT, hr, hlocks, hnm⟩ := id C
  have hl : lv_has ls 4 [(0, .ref a0), (1, .int x1), (2, .int x2)] := hl
  have hS : va_S (AE G [140, 139] s.heap.size) s.heap s.heap [] := va_S.rf
  have n_0 : (0 : Int32).toInt = 0 := rfl
  have n_1 : (1 : Int32).toInt = 1 := rfl
  have n_12 : (12 : Int32).toInt = 12 := rfl
  have hap : ∀ x y, x < 74 → y < 74 → x ≠ y → K.1.2 10 x ≠ K.1.2 10 y := x_apart hKT hts inX10 tyX10 tyX10_ok nmX10 rfl
  have J5 : ∀ (nf : Nat) (ls324 : Array Slot) (H323 : Heap) (locsH323 : List Loc) (x326 : Int32), lv_has ls324 4 [(0, .ref a0), (1, .int x1), (2, .int x2), (3, .int x326)] → TY K G H323 → va_S (AE G [140, 139] s.heap.size) s.heap H323 locsH323 → (0 ≤ x326.toInt ∧ x326.toInt ≤ 120) → (CG (avw K H323 a0)) → (120 - x326.toInt < (nf : Int)) → W p l e ({ frames := 5, cells := 0, slots := 0, locals := 123 } : Room) s m (([.ref a0, .int x1, .int x2] : List Value).toArray) below meth c H323 locsH323 0 0 Q (F0 m 5 ls324 []) := by
    intro nf
    induction nf with
    | zero =>
      intro ls324 H323 locsH323 x326 hl325 hTH323 hSH323 bx326 gy327_CG hm5
      exfalso
      omega
    | succ nf ih5 =>
      intro ls324 H323 locsH323 x326 hl325 hTH323 hSH323 bx326 gy327_CG hm5
      refine lv_iload_n hx hb dX10_fitsAll_5 rfl (lv_at hl325 3 rfl) ?_
      refine lv_bipush (v := 12) hx hb dX10_fitsAll_6 (by decide) ?_
      refine lv_iload_n hx hb dX10_fitsAll_8 rfl (lv_at hl325 1 rfl) ?_
      refine lv_imul hx hb dX10_fitsAll_9 ?_
      refine lv_topi (fun x328 ex328 => ?_)
      have tx328 := i_mul ex328 (by rw [n_12]; omega)
      rw [n_12] at tx328
      refine lv_aload_n hx hb dX10_fitsAll_10 rfl (lv_at hl325 0 rfl) ?_
      refine x_gr C hTH323 (ci := 10) (k := 50) rfl inX10 (by decide) wF_X10_116 ga0 rg_112 rfl dX10_fitsAll_11 (fun q329 eq329 gq329 => ?_)
      refine lv_iload_n hx hb dX10_fitsAll_14 rfl (lv_at hl325 1 rfl) ?_
      refine x_ai C hTH323 gq329 rg_146 ⟨by omega, by show _ < ((10 : Nat) : Int); omega⟩ dX10_fitsAll_15 (fun x330 ex330 bx330 => ?_)
      refine lv_iadd hx hb dX10_fitsAll_16 ?_
      refine lv_topi (fun x331 ex331 => ?_)
      have tx331 := i_add ex331 (by omega)
      refine lv_icmp_ge (tgt := 53) hx hb dX10_fitsAll_17 (by decide) (fun c332 => ?_) (fun c332 => ?_)
      · have k333 := i_le c332
        refine lv_iconst (v := 1) hx hb dX10_fitsAll_53 (by decide) ?_
        exact x_zret C hQ (Or.inr rfl) dX10_fitsAll_54 hSH323 (by decide) (by decide) (⟨1, rfl, by decide, hTH323⟩)
      · have k333 := i_nle c332
        refine lv_aload_n hx hb dX10_fitsAll_20 rfl (lv_at hl325 0 rfl) ?_
        refine lv_aload_n hx hb dX10_fitsAll_21 rfl (lv_at hl325 0 rfl) ?_
        refine lv_aload_n hx hb dX10_fitsAll_22 rfl (lv_at hl325 0 rfl) ?_
        refine x_gi C hTH323 (ci := 10) (k := 2) rfl inX10 (by decide) wF_X10_322 ga0 rg_112 rfl dX10_fitsAll_23 (fun x334 ex334 bx334 => ?_)
        refine lv_iload_n hx hb dX10_fitsAll_26 rfl (lv_at hl325 1 rfl) ?_
        refine lv_iload_n hx hb dX10_fitsAll_27 rfl (lv_at hl325 3 rfl) ?_
        refine x_V (As := [.int x334, .int x1, .int x326]) (rest := [.ref a0]) C (a_X10_toneOf l K G H323 (x334) (x1) (x326) hTH323 ga0 (by omega) (by omega) (by omega) gy327_CG) yo_X10_toneOf wM_X10_375 ⟨⟨by decide, by decide⟩, by decide, by decide⟩ (x_rv C hTH323 (ci := 10) rfl ga0 rg_112) rfl hl325.1 rfl (Nat.le_of_ble_eq_true rfl) dX10_fitsAll_28 hSH323 (AE_sub (fun _ _ => rfl) (by decide) hSH323.1) (fun vH335 H335 locsH335 pH335 zH335 kH335 hSH335 => ?_)
        obtain ⟨x336, hvH335, hTH335⟩ := pH335
        subst hvH335
        have g337 : CG (avw K H335 a0) := CG.congr (fun k hk j => av_eff hTH323 kH335 ga0 (by decide) (CG_eff [140, 139] (by decide) k hk)) gy327_CG
        have m338 := (eq329).trans (fR_kept (x_lt hTH323 kH335 ga0 (by decide))).symm
        have m339 := (ex330).trans (fI_kept (x_lt hTH323 kH335 gq329 (by decide))).symm
        have m340 := (ex334).trans (fI_kept (x_lt hTH323 kH335 ga0 (by decide))).symm
        refine W.eq (g2 := F0 m 31 ls324 [.int x336, .ref a0]) rfl ?_
        refine lv_aload_n hx hb dX10_fitsAll_31 rfl (lv_at hl325 0 rfl) ?_
        refine x_gr C hTH335 (ci := 10) (k := 52) rfl inX10 (by decide) wF_X10_122 ga0 rg_112 rfl dX10_fitsAll_32 (fun q341 eq341 gq341 => ?_)
        refine lv_iload_n hx hb dX10_fitsAll_35 rfl (lv_at hl325 3 rfl) ?_
        refine x_ai C hTH335 gq341 rg_148 ⟨by omega, by show _ < ((120 : Nat) : Int); omega⟩ dX10_fitsAll_36 (fun x342 ex342 bx342 => ?_)
        refine lv_isub hx hb dX10_fitsAll_37 ?_
        refine lv_topi (fun x343 ex343 => ?_)
        refine x_V (As := [.int x343]) (rest := []) C (a_X10_size l K G H335 (x343) hTH335 ga0) yo_X10_size wM_X10_309 ⟨⟨by decide, by decide⟩, by decide, by decide⟩ (x_rv C hTH335 (ci := 10) rfl ga0 rg_112) rfl hl325.1 rfl (Nat.le_of_ble_eq_true rfl) dX10_fitsAll_38 hSH335 (AE_sub (fun _ _ => rfl) (by decide) hSH335.1) (fun vH344 H344 locsH344 pH344 zH344 kH344 hSH344 => ?_)
        obtain ⟨x345, hvH344, hTH344⟩ := pH344
        subst hvH344
        have g346 : CG (avw K H344 a0) := CG.congr (fun k hk j => av_eff hTH335 kH344 ga0 (by decide) (CG_eff [] (by decide) k hk)) g337
        have m347 := (m338).trans (fR_kept (x_lt hTH335 kH344 ga0 (by decide))).symm
        have m348 := (m339).trans (fI_kept (x_lt hTH335 kH344 gq329 (by decide))).symm
        have m349 := (m340).trans (fI_kept (x_lt hTH335 kH344 ga0 (by decide))).symm
        have m350 := (eq341).trans (fR_kept (x_lt hTH335 kH344 ga0 (by decide))).symm
        have m351 := (ex342).trans (fI_kept (x_lt hTH335 kH344 gq341 (by decide))).symm
        refine W.eq (g2 := F0 m 41 ls324 [.int x345]) rfl ?_
        refine lv_iload_n hx hb dX10_fitsAll_41 rfl (lv_at hl325 2 rfl) ?_
        refine lv_icmp_le (tgt := 47) hx hb dX10_fitsAll_42 (by decide) (fun c352 => ?_) (fun c352 => ?_)
        · have k353 := i_le c352
          obtain ⟨x354, ex354⟩ : ∃ y : Int32, y = x326 + 1 := ⟨_, rfl⟩
          have tx354 := i_add ex354 (by omega)
          refine lv_iinc (v := x354) (lv' := [(3, .int x354), (0, .ref a0), (1, .int x1), (2, .int x2)]) hx hb dX10_fitsAll_47 hl325 (k := 3) rfl (by rw [ex354]; rfl) (by decide) rfl (fun ls355 hl356 => ?_)
          refine lv_goto (tgt := 5) hx hb dX10_fitsAll_50 (by decide) ?_
          exact ih5 ls355 H344 locsH344 (x354) (lv_sub hl356 [1, 2, 3, 0] rfl) hTH344 hSH344 (by have := i_rng x354; omega) g346 (by omega)
        · have k353 := i_nle c352
          refine lv_iconst (v := 0) hx hb dX10_fitsAll_45 (by decide) ?_
          exact x_zret C hQ (Or.inl rfl) dX10_fitsAll_46 hSH344 (by decide) (by decide) (⟨0, rfl, by decide, hTH344⟩)
  refine lv_bipush (v := 12) hx hb dX10_fitsAll_0 (by decide) ?_
  refine lv_iload_n hx hb dX10_fitsAll_2 rfl (lv_at hl 1 rfl) ?_
  refine lv_imul hx hb dX10_fitsAll_3 ?_
  refine lv_topi (fun x357 ex357 => ?_)
  have tx357 := i_mul ex357 (by rw [n_12]; omega)
  rw [n_12] at tx357
  refine lv_istore_n (lv' := [(3, .int x357), (0, .ref a0), (1, .int x1), (2, .int x2)]) hx hb dX10_fitsAll_4 rfl hl (by decide) rfl (fun ls358 hl359 => ?_)
  exact J5 ((120 - x357.toInt).toNat + 1) ls358 s.heap [] (x357) (lv_sub hl359 [1, 2, 3, 0] rfl) hT hS (by have := i_rng x357; omega) hg_CG (by omega)

set_option maxHeartbeats 4000000 in
set_option maxRecDepth 100000 in
theorem a_X10_sureOf (l : Launch) (K : KE) (G : Nat → Option Nat) (H : Heap) {a0 : Nat} (x1 : Int32) (hT : TY K G H) (ga0 : G a0 = some 112) (hx1 : 0 ≤ x1.toInt ∧ x1.toInt ≤ 4) : MX l K yX10_sureOf cX10_sureOf 3 (some .int) 0 0 0 0 [.ref a0, .int x1] H (AE G [] H.size) (fun v H1 => ∃ (r : Int32), v = some (.int r) ∧ TY K G H1) := by
  refine MX.of (by decide +kernel) (Nat.le_of_ble_eq_true rfl) ?_
  intro p e s m below meth c ls Q C hH hl hQ
  subst hH
  have C : CX p K s m _ meth c RX10 cX10_sureOf 3 (some .int) "sureOf" := C
  obtain ⟨hx, hb, hml, hown, hts, hKT, hr, hlocks, hnm⟩ := id C
  have hl : lv_has ls 3 [(0, .ref a0), (1, .int x1)] := hl
  have hS : va_S (AE G [] s.heap.size) s.heap s.heap [] := va_S.rf
  have n_m1 : ((-1) : Int32).toInt = -1 := rfl
  have n_0 : (0 : Int32).toInt = 0 := rfl
  have n_1 : (1 : Int32).toInt = 1 := rfl
  have n_5 : (5 : Int32).toInt = 5 := rfl
  have hap : ∀ x y, x < 74 → y < 74 → x ≠ y → K.1.2 10 x ≠ K.1.2 10 y := x_apart hKT hts inX10 tyX10 tyX10_ok nmX10 rfl
  have J2 : ∀ (nf : Nat) (ls674 : Array Slot) (H673 : Heap) (locsH673 : List Loc) (x676 : Int32), lv_has ls674 3 [(0, .ref a0), (1, .int x1), (2, .int x676)] → TY K G H673 → va_S (AE G [] s.heap.size) s.heap H673 locsH673 → (1 ≤ x676.toInt ∧ x676.toInt ≤ 1024) → (1024 - x676.toInt < (nf : Int)) → W p l e ({ frames := 0, cells := 0, slots := 0, locals := 0 } : Room) s m (([.ref a0, .int x1] : List Value).toArray) below meth c H673 locsH673 0 0 Q (F0 m 2 ls674 []) := by
    intro nf
    induction nf with
    | zero =>
      intro ls674 H673 locsH673 x676 hl675 hTH673 hSH673 bx676 hm2
      exfalso
      omega
    | succ nf ih2 =>
      intro ls674 H673 locsH673 x676 hl675 hTH673 hSH673 bx676 hm2
      have J54 : ∀ (ls679 : Array Slot) (H678 : Heap) (locsH678 : List Loc) (x681 : Int32), lv_has ls679 3 [] → TY K G H678 → va_S (AE G [] s.heap.size) s.heap H678 locsH678 → W p l e ({ frames := 0, cells := 0, slots := 0, locals := 0 } : Room) s m (([.ref a0, .int x1] : List Value).toArray) below meth c H678 locsH678 0 0 Q (F0 m 54 ls679 [.int x681]) := by
        intro ls679 H678 locsH678 x681 hl680 hTH678 hSH678 
        exact x_iret C hQ dX10_sureOf_54 hSH678 (by decide) (by decide) (⟨x681, rfl, hTH678⟩)
      refine lv_iload_n hx hb dX10_sureOf_2 rfl (lv_at hl675 2 rfl) ?_
      refine lv_aload_n hx hb dX10_sureOf_3 rfl (lv_at hl675 0 rfl) ?_
      refine x_gi C hTH673 (ci := 10) (k := 56) rfl inX10 (by decide) wF_X10_378 ga0 rg_112 rfl dX10_sureOf_4 (fun x683 ex683 bx683 => ?_)
      refine lv_icmp_ge (tgt := 37) hx hb dX10_sureOf_7 (by decide) (fun c684 => ?_) (fun c684 => ?_)
      · have k685 := i_le c684
        refine lv_aload_n hx hb dX10_sureOf_37 rfl (lv_at hl675 0 rfl) ?_
        refine x_gi C hTH673 (ci := 10) (k := 56) rfl inX10 (by decide) wF_X10_378 ga0 rg_112 rfl dX10_sureOf_38 (fun x686 ex686 bx686 => ?_)
        have ux686 : x683 = x686 := (ex683).trans ex686.symm
        subst ux686
        refine lv_if_ne (tgt := 48) hx hb dX10_sureOf_41 (by decide) (fun c687 => ?_) (fun c687 => ?_)
        · have k688 := i_ne c687
          refine lv_aload_n hx hb dX10_sureOf_48 rfl (lv_at hl675 0 rfl) ?_
          refine x_gr C hTH673 (ci := 10) (k := 57) rfl inX10 (by decide) wF_X10_134 ga0 rg_112 rfl dX10_sureOf_49 (fun q689 eq689 gq689 => ?_)
          refine lv_iload_n hx hb dX10_sureOf_52 rfl (lv_at hl675 1 rfl) ?_
          refine x_ai C hTH673 gq689 rg_152 ⟨by omega, by show _ < ((5120 : Nat) : Int); omega⟩ dX10_sureOf_53 (fun x690 ex690 bx690 => ?_)
          exact J54 ls674 H673 locsH673 (x690) (lv_sub hl675 [] rfl) hTH673 hSH673 
        · have k688 := i_eq c687
          refine lv_iconst (v := (-1)) hx hb dX10_sureOf_44 (by decide) ?_
          refine lv_goto (tgt := 54) hx hb dX10_sureOf_45 (by decide) ?_
          exact J54 ls674 H673 locsH673 ((-1)) (lv_sub hl675 [] rfl) hTH673 hSH673 
      · have k685 := i_nle c684
        refine lv_aload_n hx hb dX10_sureOf_10 rfl (lv_at hl675 0 rfl) ?_
        refine x_gr C hTH673 (ci := 10) (k := 57) rfl inX10 (by decide) wF_X10_134 ga0 rg_112 rfl dX10_sureOf_11 (fun q691 eq691 gq691 => ?_)
        refine lv_iconst (v := 5) hx hb dX10_sureOf_14 (by decide) ?_
        refine lv_iload_n hx hb dX10_sureOf_15 rfl (lv_at hl675 2 rfl) ?_
        refine lv_imul hx hb dX10_sureOf_16 ?_
        refine lv_topi (fun x692 ex692 => ?_)
        have tx692 := i_mul ex692 (by rw [n_5]; omega)
        rw [n_5] at tx692
        refine lv_iload_n hx hb dX10_sureOf_17 rfl (lv_at hl675 1 rfl) ?_
        refine lv_iadd hx hb dX10_sureOf_18 ?_
        refine lv_topi (fun x693 ex693 => ?_)
        have tx693 := i_add ex693 (by omega)
        refine x_ai C hTH673 gq691 rg_152 ⟨by omega, by show _ < ((5120 : Nat) : Int); omega⟩ dX10_sureOf_19 (fun x694 ex694 bx694 => ?_)
        refine lv_aload_n hx hb dX10_sureOf_20 rfl (lv_at hl675 0 rfl) ?_
        refine x_gr C hTH673 (ci := 10) (k := 57) rfl inX10 (by decide) wF_X10_134 ga0 rg_112 rfl dX10_sureOf_21 (fun q695 eq695 gq695 => ?_)
        have uq695 : q691 = q695 := (eq691).trans eq695.symm
        subst uq695
        refine lv_iload_n hx hb dX10_sureOf_24 rfl (lv_at hl675 1 rfl) ?_
        refine x_ai C hTH673 gq691 rg_152 ⟨by omega, by show _ < ((5120 : Nat) : Int); omega⟩ dX10_sureOf_25 (fun x696 ex696 bx696 => ?_)
        refine lv_icmp_eq (tgt := 31) hx hb dX10_sureOf_26 (by decide) (fun c697 => ?_) (fun c697 => ?_)
        · have k698 := i_eq c697
          obtain ⟨x699, ex699⟩ : ∃ y : Int32, y = x676 + 1 := ⟨_, rfl⟩
          have tx699 := i_add ex699 (by omega)
          refine lv_iinc (v := x699) (lv' := [(2, .int x699), (0, .ref a0), (1, .int x1)]) hx hb dX10_sureOf_31 hl675 (k := 2) rfl (by rw [ex699]; rfl) (by decide) rfl (fun ls700 hl701 => ?_)
          refine lv_goto (tgt := 2) hx hb dX10_sureOf_34 (by decide) ?_
          exact ih2 ls700 H673 locsH673 (x699) (lv_sub hl701 [1, 2, 0] rfl) hTH673 hSH673 (by have := i_rng x699; omega) (by omega)
        · have k698 := i_ne c697
          refine lv_iconst (v := (-1)) hx hb dX10_sureOf_29 (by decide) ?_
          exact x_iret C hQ dX10_sureOf_30 hSH673 (by decide) (by decide) (⟨(-1), rfl, hTH673⟩)
  refine lv_iconst (v := 1) hx hb dX10_sureOf_0 (by decide) ?_
  refine lv_istore_n (lv' := [(2, .int 1), (0, .ref a0), (1, .int x1)]) hx hb dX10_sureOf_1 rfl hl (by decide) rfl (fun ls702 hl703 => ?_)
  exact J2 ((1024 - (1 : Int32).toInt).toNat + 1) ls702 s.heap [] (1) (lv_sub hl703 [1, 2, 0] rfl) hT hS (by decide) (by omega)

set_option maxHeartbeats 4000000 in
set_option maxRecDepth 100000 in
theorem a_X10_offOf (l : Launch) (K : KE) (G : Nat → Option Nat) (H : Heap) {a0 : Nat} (x1 : Int32) (hT : TY K G H) (ga0 : G a0 = some 112) (hx1 : 0 ≤ x1.toInt ∧ x1.toInt ≤ 1) (hg_CG : CG (avw K H a0)) : MX l K yX10_offOf cX10_offOf 6 (some .int) 5 123 0 0 [.ref a0, .int x1] H (AE G [140, 139] H.size) (fun v H1 => ∃ (r : Int32), v = some (.int r) ∧ TY K G H1) := by
  refine MX.of (by decide +kernel) (Nat.le_of_ble_eq_true rfl) ?_
  intro p e s m below meth c ls Q C hH hl hQ
  subst hH
  have C : CX p K s m _ meth c RX10 cX10_offOf 6 (some .int) "offOf" := C
  obtain ⟨hx, hb, hml, hown, hts, hKT, hr, hlocks, hnm⟩ := id C
  have hl : lv_has ls 6 [(0, .ref a0), (1, .int x1)] := hl
  have hS : va_S (AE G [140, 139] s.heap.size) s.heap s.heap [] := va_S.rf
  have n_0 : (0 : Int32).toInt = 0 := rfl
  have n_1 : (1 : Int32).toInt = 1 := rfl
  have n_12 : (12 : Int32).toInt = 12 := rfl
  have n_999999999 : (999999999 : Int32).toInt = 999999999 := rfl
  have l_0 : (0 : Int64).toInt = 0 := rfl
  have l_999999999 : (999999999 : Int64).toInt = 999999999 := rfl
  have hap : ∀ x y, x < 74 → y < 74 → x ≠ y → K.1.2 10 x ≠ K.1.2 10 y := x_apart hKT hts inX10 tyX10 tyX10_ok nmX10 rfl
  have J5 : ∀ (nf : Nat) (ls777 : Array Slot) (H776 : Heap) (locsH776 : List Loc) (y779 : Int64) (x780 : Int32), lv_has ls777 6 [(0, .ref a0), (1, .int x1), (2, .long y779), (4, .int x780)] → TY K G H776 → va_S (AE G [140, 139] s.heap.size) s.heap H776 locsH776 → (0 ≤ x780.toInt ∧ x780.toInt ≤ 10) → (CG (avw K H776 a0)) → (10 - x780.toInt < (nf : Int)) → W p l e ({ frames := 5, cells := 0, slots := 0, locals := 123 } : Room) s m (([.ref a0, .int x1] : List Value).toArray) below meth c H776 locsH776 0 0 Q (F0 m 5 ls777 []) := by
    intro nf
    induction nf with
    | zero =>
      intro ls777 H776 locsH776 y779 x780 hl778 hTH776 hSH776 bx780 gy781_CG hm5
      exfalso
      omega
    | succ nf ih5 =>
      intro ls777 H776 locsH776 y779 x780 hl778 hTH776 hSH776 bx780 gy781_CG hm5
      have J92 : ∀ (ls783 : Array Slot) (H782 : Heap) (locsH782 : List Loc) (x785 : Int32), lv_has ls783 6 [] → TY K G H782 → va_S (AE G [140, 139] s.heap.size) s.heap H782 locsH782 → (CG (avw K H782 a0)) → W p l e ({ frames := 5, cells := 0, slots := 0, locals := 123 } : Room) s m (([.ref a0, .int x1] : List Value).toArray) below meth c H782 locsH782 0 0 Q (F0 m 92 ls783 [.int x785]) := by
        intro ls783 H782 locsH782 x785 hl784 hTH782 hSH782 gy786_CG
        exact x_iret C hQ dX10_offOf_92 hSH782 (by decide) (by decide) (⟨x785, rfl, hTH782⟩)
      have J21 : ∀ (nf : Nat) (ls788 : Array Slot) (H787 : Heap) (locsH787 : List Loc) (y790 : Int64) (x792 : Int32), lv_has ls788 6 [(0, .ref a0), (1, .int x1), (2, .long y790), (4, .int x780), (5, .int x792)] → TY K G H787 → va_S (AE G [140, 139] s.heap.size) s.heap H787 locsH787 → (0 ≤ x780.toInt ∧ x780.toInt ≤ 9) → (0 ≤ x792.toInt ∧ x792.toInt ≤ 120) → (CG (avw K H787 a0)) → (120 - x792.toInt < (nf : Int)) → W p l e ({ frames := 5, cells := 0, slots := 0, locals := 123 } : Room) s m (([.ref a0, .int x1] : List Value).toArray) below meth c H787 locsH787 0 0 Q (F0 m 21 ls788 []) := by
        intro nf
        induction nf with
        | zero =>
          intro ls788 H787 locsH787 y790 x792 hl789 hTH787 hSH787 b791 bx792 gy793_CG hm21
          exfalso
          omega
        | succ nf ih21 =>
          intro ls788 H787 locsH787 y790 x792 hl789 hTH787 hSH787 b791 bx792 gy793_CG hm21
          refine lv_iload hx hb dX10_offOf_21 (lv_at hl789 4 rfl) ?_
          refine lv_bipush (v := 12) hx hb dX10_offOf_23 (by decide) ?_
          refine lv_iload hx hb dX10_offOf_25 (lv_at hl789 3 rfl) ?_
          refine lv_imul hx hb dX10_offOf_27 ?_
          refine lv_topi (fun x794 ex794 => ?_)
          have tx794 := i_mul ex794 (by rw [n_12]; omega)
          rw [n_12] at tx794
          refine lv_aload_n hx hb dX10_offOf_28 rfl (lv_at hl789 0 rfl) ?_
          refine x_gr C hTH787 (ci := 10) (k := 50) rfl inX10 (by decide) wF_X10_116 ga0 rg_112 rfl dX10_offOf_29 (fun q795 eq795 gq795 => ?_)
          refine lv_iload hx hb dX10_offOf_32 (lv_at hl789 3 rfl) ?_
          refine x_ai C hTH787 gq795 rg_146 ⟨by omega, by show _ < ((10 : Nat) : Int); omega⟩ dX10_offOf_34 (fun x796 ex796 bx796 => ?_)
          refine lv_iadd hx hb dX10_offOf_35 ?_
          refine lv_topi (fun x797 ex797 => ?_)
          have tx797 := i_add ex797 (by omega)
          refine lv_icmp_ge (tgt := 70) hx hb dX10_offOf_36 (by decide) (fun c798 => ?_) (fun c798 => ?_)
          · have k799 := i_le c798
            obtain ⟨x800, ex800⟩ : ∃ y : Int32, y = x780 + 1 := ⟨_, rfl⟩
            have tx800 := i_add ex800 (by omega)
            refine lv_iinc (v := x800) (lv' := [(4, .int x800), (0, .ref a0), (1, .int x1), (2, .long y790), (5, .int x792)]) hx hb dX10_offOf_70 hl789 (k := 3) rfl (by rw [ex800]; rfl) (by decide) rfl (fun ls801 hl802 => ?_)
            refine lv_goto (tgt := 5) hx hb dX10_offOf_73 (by decide) ?_
            exact ih5 ls801 H787 locsH787 (y790) (x800) (lv_sub hl802 [1, 2, 3, 0] rfl) hTH787 hSH787 (by have := i_rng x800; omega) gy793_CG (by omega)
          · have k799 := i_nle c798
            refine lv_lload_n hx hb dX10_offOf_39 rfl (lv_at hl789 2 rfl) ?_
            refine lv_aload_n hx hb dX10_offOf_40 rfl (lv_at hl789 0 rfl) ?_
            refine lv_aload_n hx hb dX10_offOf_41 rfl (lv_at hl789 0 rfl) ?_
            refine lv_iload_n hx hb dX10_offOf_42 rfl (lv_at hl789 1 rfl) ?_
            refine lv_iload hx hb dX10_offOf_43 (lv_at hl789 3 rfl) ?_
            refine lv_iload hx hb dX10_offOf_45 (lv_at hl789 4 rfl) ?_
            refine x_V (As := [.int x1, .int x780, .int x792]) (rest := [.ref a0, .long y790]) C (a_X10_toneOf l K G H787 (x1) (x780) (x792) hTH787 ga0 (by omega) (by omega) (by omega) gy793_CG) yo_X10_toneOf wM_X10_375 ⟨⟨by decide, by decide⟩, by decide, by decide⟩ (x_rv C hTH787 (ci := 10) rfl ga0 rg_112) rfl hl789.1 rfl (Nat.le_of_ble_eq_true rfl) dX10_offOf_47 hSH787 (AE_sub (fun _ _ => rfl) (by decide) hSH787.1) (fun vH803 H803 locsH803 pH803 zH803 kH803 hSH803 => ?_)
            obtain ⟨x804, hvH803, hTH803⟩ := pH803
            subst hvH803
            have g805 : CG (avw K H803 a0) := CG.congr (fun k hk j => av_eff hTH787 kH803 ga0 (by decide) (CG_eff [140, 139] (by decide) k hk)) gy793_CG
            have m806 := (eq795).trans (fR_kept (x_lt hTH787 kH803 ga0 (by decide))).symm
            have m807 := (ex796).trans (fI_kept (x_lt hTH787 kH803 gq795 (by decide))).symm
            refine W.eq (g2 := F0 m 50 ls788 [.int x804, .ref a0, .long y790]) rfl ?_
            refine lv_aload_n hx hb dX10_offOf_50 rfl (lv_at hl789 0 rfl) ?_
            refine x_gr C hTH803 (ci := 10) (k := 52) rfl inX10 (by decide) wF_X10_122 ga0 rg_112 rfl dX10_offOf_51 (fun q808 eq808 gq808 => ?_)
            refine lv_iload hx hb dX10_offOf_54 (lv_at hl789 4 rfl) ?_
            refine x_ai C hTH803 gq808 rg_148 ⟨by omega, by show _ < ((120 : Nat) : Int); omega⟩ dX10_offOf_56 (fun x809 ex809 bx809 => ?_)
            refine lv_isub hx hb dX10_offOf_57 ?_
            refine lv_topi (fun x810 ex810 => ?_)
            refine x_V (As := [.int x810]) (rest := [.long y790]) C (a_X10_size l K G H803 (x810) hTH803 ga0) yo_X10_size wM_X10_309 ⟨⟨by decide, by decide⟩, by decide, by decide⟩ (x_rv C hTH803 (ci := 10) rfl ga0 rg_112) rfl hl789.1 rfl (Nat.le_of_ble_eq_true rfl) dX10_offOf_58 hSH803 (AE_sub (fun _ _ => rfl) (by decide) hSH803.1) (fun vH811 H811 locsH811 pH811 zH811 kH811 hSH811 => ?_)
            obtain ⟨x812, hvH811, hTH811⟩ := pH811
            subst hvH811
            have g813 : CG (avw K H811 a0) := CG.congr (fun k hk j => av_eff hTH803 kH811 ga0 (by decide) (CG_eff [] (by decide) k hk)) g805
            have m814 := (m806).trans (fR_kept (x_lt hTH803 kH811 ga0 (by decide))).symm
            have m815 := (m807).trans (fI_kept (x_lt hTH803 kH811 gq795 (by decide))).symm
            have m816 := (eq808).trans (fR_kept (x_lt hTH803 kH811 ga0 (by decide))).symm
            have m817 := (ex809).trans (fI_kept (x_lt hTH803 kH811 gq808 (by decide))).symm
            refine W.eq (g2 := F0 m 61 ls788 [.int x812, .long y790]) rfl ?_
            obtain ⟨y818, ey818⟩ : ∃ z : Int64, x812.toInt64 = z := ⟨_, rfl⟩
            have ty818 := j_i2l ey818
            have ry818 := i_rng x812
            refine lv_i2l (v := y818) hx hb dX10_offOf_61 ey818 ?_
            refine lv_ladd hx hb dX10_offOf_62 ?_
            refine lv_topl (fun y819 ey819 => ?_)
            refine lv_lstore_n (lv' := [(2, .long y819), (0, .ref a0), (1, .int x1), (4, .int x780), (5, .int x792)]) hx hb dX10_offOf_63 rfl hl789 (by decide) rfl (fun ls820 hl821 => ?_)
            obtain ⟨x822, ex822⟩ : ∃ y : Int32, y = x792 + 1 := ⟨_, rfl⟩
            have tx822 := i_add ex822 (by omega)
            refine lv_iinc (v := x822) (lv' := [(5, .int x822), (2, .long y819), (0, .ref a0), (1, .int x1), (4, .int x780)]) hx hb dX10_offOf_64 hl821 (k := 4) rfl (by rw [ex822]; rfl) (by decide) rfl (fun ls823 hl824 => ?_)
            refine lv_goto (tgt := 21) hx hb dX10_offOf_67 (by decide) ?_
            exact ih21 ls823 H811 locsH811 (y819) (x822) (lv_sub hl824 [2, 3, 1, 4, 0] rfl) hTH811 hSH811 (by have := i_rng x780; omega) (by have := i_rng x822; omega) g813 (by omega)
      refine lv_iload hx hb dX10_offOf_5 (lv_at hl778 3 rfl) ?_
      refine lv_aload_n hx hb dX10_offOf_7 rfl (lv_at hl778 0 rfl) ?_
      refine x_gi C hTH776 (ci := 10) (k := 1) rfl inX10 (by decide) wF_X10_170 ga0 rg_112 rfl dX10_offOf_8 (fun x825 ex825 bx825 => ?_)
      refine lv_icmp_ge (tgt := 76) hx hb dX10_offOf_11 (by decide) (fun c826 => ?_) (fun c826 => ?_)
      · have k827 := i_le c826
        refine lv_lload_n hx hb dX10_offOf_76 rfl (lv_at hl778 2 rfl) ?_
        refine lv_ldc2 (v := 999999999) hx hb hown (hts _ wK_X10_396) dX10_offOf_77 ?_
        refine W.lcmp hx hb dX10_offOf_80 ?_
        refine lv_topi (fun x828 ex828 => ?_)
        have tx828 := j_cmp ex828
        refine lv_if_le (tgt := 90) hx hb dX10_offOf_81 (by decide) (fun c829 => ?_) (fun c829 => ?_)
        · have k830 := i_le c829
          refine lv_lload_n hx hb dX10_offOf_90 rfl (lv_at hl778 2 rfl) ?_
          obtain ⟨x831, ex831⟩ : ∃ z : Int32, (y779 : Int64).toInt32 = z := ⟨_, rfl⟩
          refine lv_l2i (v := x831) hx hb dX10_offOf_91 ex831 ?_
          exact J92 ls777 H776 locsH776 (x831) (lv_sub hl778 [] rfl) hTH776 hSH776 gy781_CG
        · have k830 := i_nle c829
          refine lv_ldcw (v := 999999999) hx hb hown (hts _ wK_X10_398) dX10_offOf_84 ?_
          refine lv_goto (tgt := 92) hx hb dX10_offOf_87 (by decide) ?_
          exact J92 ls777 H776 locsH776 (999999999) (lv_sub hl778 [] rfl) hTH776 hSH776 gy781_CG
      · have k827 := i_nle c826
        refine lv_bipush (v := 12) hx hb dX10_offOf_14 (by decide) ?_
        refine lv_iload hx hb dX10_offOf_16 (lv_at hl778 3 rfl) ?_
        refine lv_imul hx hb dX10_offOf_18 ?_
        refine lv_topi (fun x832 ex832 => ?_)
        have tx832 := i_mul ex832 (by rw [n_12]; omega)
        rw [n_12] at tx832
        refine lv_istore (lv' := [(5, .int x832), (0, .ref a0), (1, .int x1), (2, .long y779), (4, .int x780)]) hx hb dX10_offOf_19 hl778 (by decide) rfl (fun ls833 hl834 => ?_)
        exact J21 ((120 - x832.toInt).toNat + 1) ls833 H776 locsH776 (y779) (x832) (lv_sub hl834 [1, 2, 3, 4, 0] rfl) hTH776 hSH776 (by have := i_rng x780; omega) (by have := i_rng x832; omega) gy781_CG (by omega)
  refine lv_lconst (v := 0) hx hb dX10_offOf_0 (by decide) ?_
  refine lv_lstore_n (lv' := [(2, .long 0), (0, .ref a0), (1, .int x1)]) hx hb dX10_offOf_1 rfl hl (by decide) rfl (fun ls835 hl836 => ?_)
  refine lv_iconst (v := 0) hx hb dX10_offOf_2 (by decide) ?_
  refine lv_istore (lv' := [(4, .int 0), (2, .long 0), (0, .ref a0), (1, .int x1)]) hx hb dX10_offOf_3 hl836 (by decide) rfl (fun ls837 hl838 => ?_)
  exact J5 ((10 - (0 : Int32).toInt).toNat + 1) ls837 s.heap [] (0) (0) (lv_sub hl838 [2, 3, 1, 0] rfl) hT hS (by decide) hg_CG (by omega)

set_option maxHeartbeats 4000000 in
set_option maxRecDepth 100000 in
theorem a_X10_sways (l : Launch) (K : KE) (G : Nat → Option Nat) (H : Heap) {a0 : Nat} (x1 : Int32) (x2 : Int32) (x3 : Int32) (hT : TY K G H) (ga0 : G a0 = some 112) (hx1 : 0 ≤ x1.toInt ∧ x1.toInt ≤ 9) (hx2 : 0 ≤ x2.toInt ∧ x2.toInt ≤ 15) (hg_CG : CG (avw K H a0)) : MX l K yX10_sways cX10_sways 4 (some .boolean) 4 97 0 0 [.ref a0, .int x1, .int x2, .int x3] H (AE G [140, 139] H.size) (fun v H1 => ∃ (r : Int32), v = some (.int r) ∧ (0 ≤ r.toInt ∧ r.toInt ≤ 1) ∧ TY K G H1) := by
  refine MX.of (by decide +kernel) (Nat.le_of_ble_eq_true rfl) ?_
  intro p e s m below meth c ls Q C hH hl hQ
  subst hH
  have C : CX p K s m _ meth c RX10 cX10_sways 4 (some .boolean) "sways" := C
  obtain ⟨hx, hb, hml, hown, hts, hKT, hr, hlocks, hnm⟩ := id C
  have hl : lv_has ls 4 [(0, .ref a0), (1, .int x1), (2, .int x2), (3, .int x3)] := hl
  have hS : va_S (AE G [140, 139] s.heap.size) s.heap s.heap [] := va_S.rf
  have n_0 : (0 : Int32).toInt = 0 := rfl
  have n_1 : (1 : Int32).toInt = 1 := rfl
  have n_2 : (2 : Int32).toInt = 2 := rfl
  have hap : ∀ x y, x < 74 → y < 74 → x ≠ y → K.1.2 10 x ≠ K.1.2 10 y := x_apart hKT hts inX10 tyX10 tyX10_ok nmX10 rfl
  have J24 : ∀ (ls159 : Array Slot) (H158 : Heap) (locsH158 : List Loc) (x161 : Int32), lv_has ls159 4 [] → TY K G H158 → va_S (AE G [140, 139] s.heap.size) s.heap H158 locsH158 → (0 ≤ x161.toInt ∧ x161.toInt ≤ 1) → (CG (avw K H158 a0)) → W p l e ({ frames := 4, cells := 0, slots := 0, locals := 97 } : Room) s m (([.ref a0, .int x1, .int x2, .int x3] : List Value).toArray) below meth c H158 locsH158 0 0 Q (F0 m 24 ls159 [.int x161]) := by
    intro ls159 H158 locsH158 x161 hl160 hTH158 hSH158 bx161 gy162_CG
    exact x_zret C hQ (i_01 (by omega)) dX10_sways_24 hSH158 (by decide) (by decide) (⟨x161, rfl, by omega, hTH158⟩)
  refine lv_aload_n hx hb dX10_sways_0 rfl (lv_at hl 0 rfl) ?_
  refine lv_iload_n hx hb dX10_sways_1 rfl (lv_at hl 1 rfl) ?_
  refine lv_iload_n hx hb dX10_sways_2 rfl (lv_at hl 2 rfl) ?_
  refine x_V (As := [.int x1, .int x2]) (rest := []) C (a_X10_asksSlice l K G s.heap (x1) (x2) hT ga0 (by omega) (by omega)) yo_X10_asksSlice wM_X10_316 ⟨⟨by decide, by decide⟩, by decide, by decide⟩ (x_rv C hT (ci := 10) rfl ga0 rg_112) rfl hl.1 rfl (Nat.le_of_ble_eq_true rfl) dX10_sways_3 hS (AE_sub (fun _ _ => rfl) (by decide) hS.1) (fun vH163 H163 locsH163 pH163 zH163 kH163 hSH163 => ?_)
  obtain ⟨hvH163, hTH163⟩ := pH163
  subst hvH163
  have g164 : CG (avw K H163 a0) := CG.congr (fun k hk j => av_eff hT kH163 ga0 (by decide) (CG_eff [139] (by decide) k hk)) hg_CG
  refine W.eq (g2 := F0 m 6 ls []) rfl ?_
  refine lv_aload_n hx hb dX10_sways_6 rfl (lv_at hl 0 rfl) ?_
  refine lv_aload_n hx hb dX10_sways_7 rfl (lv_at hl 0 rfl) ?_
  refine x_gi C hTH163 (ci := 10) (k := 2) rfl inX10 (by decide) wF_X10_322 ga0 rg_112 rfl dX10_sways_8 (fun x165 ex165 bx165 => ?_)
  refine lv_iconst (v := 2) hx hb dX10_sways_11 (by decide) ?_
  refine lv_iload_n hx hb dX10_sways_12 rfl (lv_at hl 3 rfl) ?_
  obtain ⟨q166, eq166⟩ : ∃ z : Nat, z = fR H163 a0 (K.1.2 10 24) := ⟨_, rfl⟩
  have gq166 := ty_fr (q := q166) (k := 24) (u := 128) eq166 hTH163 ga0 rg_112 rfl
  obtain ⟨x167, ex167⟩ : ∃ z : Int32, z = fI H163 q166 (x165 : Int32).toNatClampNeg := ⟨_, rfl⟩
  have bx167 := ty_ai (x := x167) ex167 hTH163 gq166 rg_128 (by omega)
  refine x_V (As := [.int x165, .int 2, .int x3]) (rest := []) C (a_X10_tellsBy l K G H163 (x165) (2) (x3) (x167) hTH163 ga0 (by omega) gq166 eq166 ex167 g164) yo_X10_tellsBy wM_X10_319 ⟨⟨by decide, by decide⟩, by decide, by decide⟩ (x_rv C hTH163 (ci := 10) rfl ga0 rg_112) rfl hl.1 rfl (Nat.le_of_ble_eq_true rfl) dX10_sways_13 hSH163 (AE_sub (fun _ _ => rfl) (by decide) hSH163.1) (fun vH168 H168 locsH168 pH168 zH168 kH168 hSH168 => ?_)
  obtain ⟨x169, hvH168, hTH168⟩ := pH168
  subst hvH168
  have g170 : CG (avw K H168 a0) := CG.congr (fun k hk j => av_eff hTH163 kH168 ga0 (by decide) (CG_eff [140] (by decide) k hk)) g164
  have m171 := (ex165).trans (fI_kept (x_lt hTH163 kH168 ga0 (by decide))).symm
  have m172 := (eq166).trans (fR_kept (x_lt hTH163 kH168 ga0 (by decide))).symm
  have m173 := (ex167).trans (fI_kept (x_lt hTH163 kH168 gq166 (by decide))).symm
  refine W.eq (g2 := F0 m 16 ls [.int x169]) rfl ?_
  refine lv_if_ge (tgt := 23) hx hb dX10_sways_16 (by decide) (fun c174 => ?_) (fun c174 => ?_)
  · have k175 := i_le c174
    refine lv_iconst (v := 0) hx hb dX10_sways_23 (by decide) ?_
    exact J24 ls H168 locsH168 (0) (lv_sub hl [] rfl) hTH168 hSH168 (by decide) g170
  · have k175 := i_nle c174
    refine lv_iconst (v := 1) hx hb dX10_sways_19 (by decide) ?_
    refine lv_goto (tgt := 24) hx hb dX10_sways_20 (by decide) ?_
    exact J24 ls H168 locsH168 (1) (lv_sub hl [] rfl) hTH168 hSH168 (by decide) g170

set_option maxHeartbeats 4000000 in
set_option maxRecDepth 100000 in
theorem a_X10_isStill (l : Launch) (K : KE) (G : Nat → Option Nat) (H : Heap) {a0 : Nat} (x1 : Int32) (x2 : Int32) (x3 : Int32) (hT : TY K G H) (ga0 : G a0 = some 112) (hx1 : 0 ≤ x1.toInt ∧ x1.toInt ≤ 9) (hx2 : 0 ≤ x2.toInt ∧ x2.toInt ≤ 15) (hg_CG : CG (avw K H a0)) : MX l K yX10_isStill cX10_isStill 4 (some .boolean) 5 120 0 0 [.ref a0, .int x1, .int x2, .int x3] H (AE G [140, 139] H.size) (fun v H1 => ∃ (r : Int32), v = some (.int r) ∧ (0 ≤ r.toInt ∧ r.toInt ≤ 1) ∧ TY K G H1) := by
  refine MX.of (by decide +kernel) (Nat.le_of_ble_eq_true rfl) ?_
  intro p e s m below meth c ls Q C hH hl hQ
  subst hH
  have C : CX p K s m _ meth c RX10 cX10_isStill 4 (some .boolean) "isStill" := C
  obtain ⟨hx, hb, hml, hown, hts, hKT, hr, hlocks, hnm⟩ := id C
  have hl : lv_has ls 4 [(0, .ref a0), (1, .int x1), (2, .int x2), (3, .int x3)] := hl
  have hS : va_S (AE G [140, 139] s.heap.size) s.heap s.heap [] := va_S.rf
  have n_0 : (0 : Int32).toInt = 0 := rfl
  have n_1 : (1 : Int32).toInt = 1 := rfl
  have hap : ∀ x y, x < 74 → y < 74 → x ≠ y → K.1.2 10 x ≠ K.1.2 10 y := x_apart hKT hts inX10 tyX10 tyX10_ok nmX10 rfl
  have J36 : ∀ (ls179 : Array Slot) (H178 : Heap) (locsH178 : List Loc) (x181 : Int32), lv_has ls179 4 [] → TY K G H178 → va_S (AE G [140, 139] s.heap.size) s.heap H178 locsH178 → (0 ≤ x181.toInt ∧ x181.toInt ≤ 1) → (CG (avw K H178 a0)) → W p l e ({ frames := 5, cells := 0, slots := 0, locals := 120 } : Room) s m (([.ref a0, .int x1, .int x2, .int x3] : List Value).toArray) below meth c H178 locsH178 0 0 Q (F0 m 36 ls179 [.int x181]) := by
    intro ls179 H178 locsH178 x181 hl180 hTH178 hSH178 bx181 gy182_CG
    exact x_zret C hQ (i_01 (by omega)) dX10_isStill_36 hSH178 (by decide) (by decide) (⟨x181, rfl, by omega, hTH178⟩)
  have J35 : ∀ (ls184 : Array Slot) (H183 : Heap) (locsH183 : List Loc) , lv_has ls184 4 [] → TY K G H183 → va_S (AE G [140, 139] s.heap.size) s.heap H183 locsH183 → (CG (avw K H183 a0)) → W p l e ({ frames := 5, cells := 0, slots := 0, locals := 120 } : Room) s m (([.ref a0, .int x1, .int x2, .int x3] : List Value).toArray) below meth c H183 locsH183 0 0 Q (F0 m 35 ls184 []) := by
    intro ls184 H183 locsH183  hl185 hTH183 hSH183 gy186_CG
    refine lv_iconst (v := 0) hx hb dX10_isStill_35 (by decide) ?_
    exact J36 ls184 H183 locsH183 (0) (lv_sub hl185 [] rfl) hTH183 hSH183 (by decide) gy186_CG
  refine lv_iload_n hx hb dX10_isStill_0 rfl (lv_at hl 2 rfl) ?_
  refine lv_iconst (v := 1) hx hb dX10_isStill_1 (by decide) ?_
  refine lv_iadd hx hb dX10_isStill_2 ?_
  refine lv_topi (fun x187 ex187 => ?_)
  have tx187 := i_add ex187 (by omega)
  refine lv_aload_n hx hb dX10_isStill_3 rfl (lv_at hl 0 rfl) ?_
  refine x_gr C hT (ci := 10) (k := 4) rfl inX10 (by decide) wF_X10_13 ga0 rg_112 rfl dX10_isStill_4 (fun q188 eq188 gq188 => ?_)
  refine lv_iload_n hx hb dX10_isStill_7 rfl (lv_at hl 1 rfl) ?_
  refine x_ai C hT gq188 rg_113 ⟨by omega, by show _ < ((10 : Nat) : Int); omega⟩ dX10_isStill_8 (fun x189 ex189 bx189 => ?_)
  refine lv_icmp_ge (tgt := 35) hx hb dX10_isStill_9 (by decide) (fun c190 => ?_) (fun c190 => ?_)
  · have k191 := i_le c190
    exact J35 ls s.heap [] (lv_sub hl [] rfl) hT hS hg_CG
  · have k191 := i_nle c190
    refine lv_aload_n hx hb dX10_isStill_12 rfl (lv_at hl 0 rfl) ?_
    refine lv_iload_n hx hb dX10_isStill_13 rfl (lv_at hl 1 rfl) ?_
    refine lv_iload_n hx hb dX10_isStill_14 rfl (lv_at hl 2 rfl) ?_
    refine lv_iload_n hx hb dX10_isStill_15 rfl (lv_at hl 3 rfl) ?_
    refine x_V (As := [.int x1, .int x2, .int x3]) (rest := []) C (a_X10_sways l K G s.heap (x1) (x2) (x3) hT ga0 (by omega) (by omega) hg_CG) yo_X10_sways wM_X10_402 ⟨⟨by decide, by decide⟩, by decide, by decide⟩ (x_rv C hT (ci := 10) rfl ga0 rg_112) rfl hl.1 rfl (Nat.le_of_ble_eq_true rfl) dX10_isStill_16 hS (AE_sub (fun _ _ => rfl) (by decide) hS.1) (fun vH192 H192 locsH192 pH192 zH192 kH192 hSH192 => ?_)
    obtain ⟨x193, hvH192, bx193, hTH192⟩ := pH192
    subst hvH192
    have g194 : CG (avw K H192 a0) := CG.congr (fun k hk j => av_eff hT kH192 ga0 (by decide) (CG_eff [140, 139] (by decide) k hk)) hg_CG
    have m195 := (eq188).trans (fR_kept (x_lt hT kH192 ga0 (by decide))).symm
    have m196 := (ex189).trans (fI_kept (x_lt hT kH192 gq188 (by decide))).symm
    refine W.eq (g2 := F0 m 19 ls [.int x193]) rfl ?_
    refine lv_aload_n hx hb dX10_isStill_19 rfl (lv_at hl 0 rfl) ?_
    refine lv_iload_n hx hb dX10_isStill_20 rfl (lv_at hl 1 rfl) ?_
    refine lv_iload_n hx hb dX10_isStill_21 rfl (lv_at hl 2 rfl) ?_
    refine lv_iconst (v := 1) hx hb dX10_isStill_22 (by decide) ?_
    refine lv_iadd hx hb dX10_isStill_23 ?_
    refine lv_topi (fun x197 ex197 => ?_)
    have tx197 := i_add ex197 (by omega)
    refine lv_iload_n hx hb dX10_isStill_24 rfl (lv_at hl 3 rfl) ?_
    refine x_V (As := [.int x1, .int x197, .int x3]) (rest := [.int x193]) C (a_X10_sways l K G H192 (x1) (x197) (x3) hTH192 ga0 (by omega) (by omega) g194) yo_X10_sways wM_X10_402 ⟨⟨by decide, by decide⟩, by decide, by decide⟩ (x_rv C hTH192 (ci := 10) rfl ga0 rg_112) rfl hl.1 rfl (Nat.le_of_ble_eq_true rfl) dX10_isStill_25 hSH192 (AE_sub (fun _ _ => rfl) (by decide) hSH192.1) (fun vH198 H198 locsH198 pH198 zH198 kH198 hSH198 => ?_)
    obtain ⟨x199, hvH198, bx199, hTH198⟩ := pH198
    subst hvH198
    have g200 : CG (avw K H198 a0) := CG.congr (fun k hk j => av_eff hTH192 kH198 ga0 (by decide) (CG_eff [140, 139] (by decide) k hk)) g194
    have m201 := (m195).trans (fR_kept (x_lt hTH192 kH198 ga0 (by decide))).symm
    have m202 := (m196).trans (fI_kept (x_lt hTH192 kH198 gq188 (by decide))).symm
    refine W.eq (g2 := F0 m 28 ls [.int x199, .int x193]) rfl ?_
    refine lv_icmp_eq (tgt := 35) hx hb dX10_isStill_28 (by decide) (fun c203 => ?_) (fun c203 => ?_)
    · have k204 := i_eq c203
      exact J35 ls H198 locsH198 (lv_sub hl [] rfl) hTH198 hSH198 g200
    · have k204 := i_ne c203
      refine lv_iconst (v := 1) hx hb dX10_isStill_31 (by decide) ?_
      refine lv_goto (tgt := 36) hx hb dX10_isStill_32 (by decide) ?_
      exact J36 ls H198 locsH198 (1) (lv_sub hl [] rfl) hTH198 hSH198 (by decide) g200

set_option maxHeartbeats 4000000 in
set_option maxRecDepth 100000 in
theorem a_X10_stillAt (l : Launch) (K : KE) (G : Nat → Option Nat) (H : Heap) {a0 : Nat} (x1 : Int32) (x2 : Int32) (x3 : Int32) (hT : TY K G H) (ga0 : G a0 = some 112) (hx1 : 0 ≤ x1.toInt ∧ x1.toInt ≤ 9) (hg_CG : CG (avw K H a0)) : MX l K yX10_stillAt cX10_stillAt 6 (some .int) 6 143 0 0 [.ref a0, .int x1, .int x2, .int x3] H (AE G [140, 139] H.size) (fun v H1 => ∃ (r : Int32), v = some (.int r) ∧ ((-1) ≤ r.toInt ∧ r.toInt ≤ 15) ∧ TY K G H1) := by
  refine MX.of (by decide +kernel) (Nat.le_of_ble_eq_true rfl) ?_
  intro p e s m below meth c ls Q C hH hl hQ
  subst hH
  have C : CX p K s m _ meth c RX10 cX10_stillAt 6 (some .int) "stillAt" := C
  obtain ⟨hx, hb, hml, hown, hts, hKT, hr, hlocks, hnm⟩ := id C
  have hl : lv_has ls 6 [(0, .ref a0), (1, .int x1), (2, .int x2), (3, .int x3)] := hl
  have hS : va_S (AE G [140, 139] s.heap.size) s.heap s.heap [] := va_S.rf
  have n_m1 : ((-1) : Int32).toInt = -1 := rfl
  have n_0 : (0 : Int32).toInt = 0 := rfl
  have n_1 : (1 : Int32).toInt = 1 := rfl
  have hap : ∀ x y, x < 74 → y < 74 → x ≠ y → K.1.2 10 x ≠ K.1.2 10 y := x_apart hKT hts inX10 tyX10 tyX10_ok nmX10 rfl
  have J6 : ∀ (nf : Nat) (ls854 : Array Slot) (H853 : Heap) (locsH853 : List Loc) (x856 : Int32) (x857 : Int32), lv_has ls854 6 [(0, .ref a0), (1, .int x1), (2, .int x2), (3, .int x3), (4, .int x856), (5, .int x857)] → TY K G H853 → va_S (AE G [140, 139] s.heap.size) s.heap H853 locsH853 → (0 ≤ x857.toInt ∧ x857.toInt ≤ 16) → (CG (avw K H853 a0)) → (16 - x857.toInt < (nf : Int)) → W p l e ({ frames := 6, cells := 0, slots := 0, locals := 143 } : Room) s m (([.ref a0, .int x1, .int x2, .int x3] : List Value).toArray) below meth c H853 locsH853 0 0 Q (F0 m 6 ls854 []) := by
    intro nf
    induction nf with
    | zero =>
      intro ls854 H853 locsH853 x856 x857 hl855 hTH853 hSH853 bx857 gy858_CG hm6
      have rx856 := i_rng x856
      exfalso
      omega
    | succ nf ih6 =>
      intro ls854 H853 locsH853 x856 x857 hl855 hTH853 hSH853 bx857 gy858_CG hm6
      have rx856 := i_rng x856
      have J46 : ∀ (ls860 : Array Slot) (H859 : Heap) (locsH859 : List Loc) (x862 : Int32), lv_has ls860 6 [(0, .ref a0), (1, .int x1), (2, .int x2), (3, .int x3), (4, .int x862), (5, .int x857)] → TY K G H859 → va_S (AE G [140, 139] s.heap.size) s.heap H859 locsH859 → (0 ≤ x857.toInt ∧ x857.toInt ≤ 15) → (CG (avw K H859 a0)) → W p l e ({ frames := 6, cells := 0, slots := 0, locals := 143 } : Room) s m (([.ref a0, .int x1, .int x2, .int x3] : List Value).toArray) below meth c H859 locsH859 0 0 Q (F0 m 46 ls860 []) := by
        intro ls860 H859 locsH859 x862 hl861 hTH859 hSH859 b863 gy864_CG
        obtain ⟨x865, ex865⟩ : ∃ y : Int32, y = x857 + 1 := ⟨_, rfl⟩
        have tx865 := i_add ex865 (by omega)
        refine lv_iinc (v := x865) (lv' := [(5, .int x865), (0, .ref a0), (1, .int x1), (2, .int x2), (3, .int x3), (4, .int x862)]) hx hb dX10_stillAt_46 hl861 (k := 5) rfl (by rw [ex865]; rfl) (by decide) rfl (fun ls866 hl867 => ?_)
        refine lv_goto (tgt := 6) hx hb dX10_stillAt_49 (by decide) ?_
        exact ih6 ls866 H859 locsH859 (x862) (x865) (lv_sub hl867 [1, 2, 3, 4, 5, 0] rfl) hTH859 hSH859 (by have := i_rng x865; omega) gy864_CG (by omega)
      refine lv_iload hx hb dX10_stillAt_6 (lv_at hl855 5 rfl) ?_
      refine lv_aload_n hx hb dX10_stillAt_8 rfl (lv_at hl855 0 rfl) ?_
      refine x_gr C hTH853 (ci := 10) (k := 4) rfl inX10 (by decide) wF_X10_13 ga0 rg_112 rfl dX10_stillAt_9 (fun q868 eq868 gq868 => ?_)
      refine lv_iload_n hx hb dX10_stillAt_12 rfl (lv_at hl855 1 rfl) ?_
      refine x_ai C hTH853 gq868 rg_113 ⟨by omega, by show _ < ((10 : Nat) : Int); omega⟩ dX10_stillAt_13 (fun x869 ex869 bx869 => ?_)
      refine lv_icmp_ge (tgt := 52) hx hb dX10_stillAt_14 (by decide) (fun c870 => ?_) (fun c870 => ?_)
      · have k871 := i_le c870
        refine lv_iconst (v := (-1)) hx hb dX10_stillAt_52 (by decide) ?_
        exact x_iret C hQ dX10_stillAt_53 hSH853 (by decide) (by decide) (⟨(-1), rfl, by decide, hTH853⟩)
      · have k871 := i_nle c870
        refine lv_aload_n hx hb dX10_stillAt_17 rfl (lv_at hl855 0 rfl) ?_
        refine lv_iload_n hx hb dX10_stillAt_18 rfl (lv_at hl855 1 rfl) ?_
        refine lv_iload hx hb dX10_stillAt_19 (lv_at hl855 5 rfl) ?_
        refine lv_iload_n hx hb dX10_stillAt_21 rfl (lv_at hl855 2 rfl) ?_
        refine x_V (As := [.int x1, .int x857, .int x2]) (rest := []) C (a_X10_isStill l K G H853 (x1) (x857) (x2) hTH853 ga0 (by omega) (by omega) gy858_CG) yo_X10_isStill wM_X10_405 ⟨⟨by decide, by decide⟩, by decide, by decide⟩ (x_rv C hTH853 (ci := 10) rfl ga0 rg_112) rfl hl855.1 rfl (Nat.le_of_ble_eq_true rfl) dX10_stillAt_22 hSH853 (AE_sub (fun _ _ => rfl) (by decide) hSH853.1) (fun vH872 H872 locsH872 pH872 zH872 kH872 hSH872 => ?_)
        obtain ⟨x873, hvH872, bx873, hTH872⟩ := pH872
        subst hvH872
        have g874 : CG (avw K H872 a0) := CG.congr (fun k hk j => av_eff hTH853 kH872 ga0 (by decide) (CG_eff [140, 139] (by decide) k hk)) gy858_CG
        have m875 := (eq868).trans (fR_kept (x_lt hTH853 kH872 ga0 (by decide))).symm
        have m876 := (ex869).trans (fI_kept (x_lt hTH853 kH872 gq868 (by decide))).symm
        refine W.eq (g2 := F0 m 25 ls854 [.int x873]) rfl ?_
        refine lv_if_ne (tgt := 31) hx hb dX10_stillAt_25 (by decide) (fun c877 => ?_) (fun c877 => ?_)
        · have k878 := i_ne c877
          refine lv_iload hx hb dX10_stillAt_31 (lv_at hl855 4 rfl) ?_
          refine lv_iload_n hx hb dX10_stillAt_33 rfl (lv_at hl855 3 rfl) ?_
          refine lv_icmp_ne (tgt := 40) hx hb dX10_stillAt_34 (by decide) (fun c879 => ?_) (fun c879 => ?_)
          · have k880 := i_ne c879
            refine lv_iload hx hb dX10_stillAt_40 (lv_at hl855 4 rfl) ?_
            refine lv_iconst (v := 1) hx hb dX10_stillAt_42 (by decide) ?_
            refine lv_iadd hx hb dX10_stillAt_43 ?_
            refine lv_topi (fun x881 ex881 => ?_)
            refine lv_istore (lv' := [(4, .int x881), (0, .ref a0), (1, .int x1), (2, .int x2), (3, .int x3), (5, .int x857)]) hx hb dX10_stillAt_44 hl855 (by decide) rfl (fun ls882 hl883 => ?_)
            exact J46 ls882 H872 locsH872 (x881) (lv_sub hl883 [1, 2, 3, 4, 0, 5] rfl) hTH872 hSH872 (by have := i_rng x857; omega) g874
          · have k880 := i_eq c879
            refine lv_iload hx hb dX10_stillAt_37 (lv_at hl855 5 rfl) ?_
            exact x_iret C hQ dX10_stillAt_39 hSH872 (by decide) (by decide) (⟨x857, rfl, by omega, hTH872⟩)
        · have k878 := i_eq c877
          refine lv_goto (tgt := 46) hx hb dX10_stillAt_28 (by decide) ?_
          exact J46 ls854 H872 locsH872 (x856) (lv_sub hl855 [0, 1, 2, 3, 4, 5] rfl) hTH872 hSH872 (by have := i_rng x857; omega) g874
  refine lv_iconst (v := 0) hx hb dX10_stillAt_0 (by decide) ?_
  refine lv_istore (lv' := [(4, .int 0), (0, .ref a0), (1, .int x1), (2, .int x2), (3, .int x3)]) hx hb dX10_stillAt_1 hl (by decide) rfl (fun ls884 hl885 => ?_)
  refine lv_iconst (v := 0) hx hb dX10_stillAt_3 (by decide) ?_
  refine lv_istore (lv' := [(5, .int 0), (4, .int 0), (0, .ref a0), (1, .int x1), (2, .int x2), (3, .int x3)]) hx hb dX10_stillAt_4 hl885 (by decide) rfl (fun ls886 hl887 => ?_)
  exact J6 ((16 - (0 : Int32).toInt).toNat + 1) ls886 s.heap [] (0) (0) (lv_sub hl887 [2, 3, 4, 5, 1, 0] rfl) hT hS (by decide) hg_CG (by omega)

set_option maxHeartbeats 4000000 in
set_option maxRecDepth 100000 in
theorem a_X10_stills (l : Launch) (K : KE) (G : Nat → Option Nat) (H : Heap) {a0 : Nat} (x1 : Int32) (x2 : Int32) (hT : TY K G H) (ga0 : G a0 = some 112) (hx1 : 0 ≤ x1.toInt ∧ x1.toInt ≤ 9) (hg_CG : CG (avw K H a0)) : MX l K yX10_stills cX10_stills 5 (some .int) 6 143 0 0 [.ref a0, .int x1, .int x2] H (AE G [140, 139] H.size) (fun v H1 => ∃ (r : Int32), v = some (.int r) ∧ TY K G H1) := by
  refine MX.of (by decide +kernel) (Nat.le_of_ble_eq_true rfl) ?_
  intro p e s m below meth c ls Q C hH hl hQ
  subst hH
  have C : CX p K s m _ meth c RX10 cX10_stills 5 (some .int) "stills" := C
  obtain ⟨hx, hb, hml, hown, hts, hKT, hr, hlocks, hnm⟩ := id C
  have hl : lv_has ls 5 [(0, .ref a0), (1, .int x1), (2, .int x2)] := hl
  have hS : va_S (AE G [140, 139] s.heap.size) s.heap s.heap [] := va_S.rf
  have n_0 : (0 : Int32).toInt = 0 := rfl
  have n_1 : (1 : Int32).toInt = 1 := rfl
  have hap : ∀ x y, x < 74 → y < 74 → x ≠ y → K.1.2 10 x ≠ K.1.2 10 y := x_apart hKT hts inX10 tyX10 tyX10_ok nmX10 rfl
  have J5 : ∀ (nf : Nat) (ls845 : Array Slot) (H844 : Heap) (locsH844 : List Loc) (x847 : Int32) (x848 : Int32), lv_has ls845 5 [(0, .ref a0), (1, .int x1), (2, .int x2), (3, .int x847), (4, .int x848)] → TY K G H844 → va_S (AE G [140, 139] s.heap.size) s.heap H844 locsH844 → (0 ≤ x848.toInt ∧ x848.toInt ≤ 16) → (CG (avw K H844 a0)) → (16 - x848.toInt < (nf : Int)) → W p l e ({ frames := 6, cells := 0, slots := 0, locals := 143 } : Room) s m (([.ref a0, .int x1, .int x2] : List Value).toArray) below meth c H844 locsH844 0 0 Q (F0 m 5 ls845 []) := by
    intro nf
    induction nf with
    | zero =>
      intro ls845 H844 locsH844 x847 x848 hl846 hTH844 hSH844 bx848 gy849_CG hm5
      have rx847 := i_rng x847
      exfalso
      omega
    | succ nf ih5 =>
      intro ls845 H844 locsH844 x847 x848 hl846 hTH844 hSH844 bx848 gy849_CG hm5
      have rx847 := i_rng x847
      have J31 : ∀ (ls851 : Array Slot) (H850 : Heap) (locsH850 : List Loc) (x853 : Int32), lv_has ls851 5 [(0, .ref a0), (1, .int x1), (2, .int x2), (3, .int x853), (4, .int x848)] → TY K G H850 → va_S (AE G [140, 139] s.heap.size) s.heap H850 locsH850 → (0 ≤ x848.toInt ∧ x848.toInt ≤ 15) → (CG (avw K H850 a0)) → W p l e ({ frames := 6, cells := 0, slots := 0, locals := 143 } : Room) s m (([.ref a0, .int x1, .int x2] : List Value).toArray) below meth c H850 locsH850 0 0 Q (F0 m 31 ls851 []) := by
        intro ls851 H850 locsH850 x853 hl852 hTH850 hSH850 b854 gy855_CG
        obtain ⟨x856, ex856⟩ : ∃ y : Int32, y = x848 + 1 := ⟨_, rfl⟩
        have tx856 := i_add ex856 (by omega)
        refine lv_iinc (v := x856) (lv' := [(4, .int x856), (0, .ref a0), (1, .int x1), (2, .int x2), (3, .int x853)]) hx hb dX10_stills_31 hl852 (k := 4) rfl (by rw [ex856]; rfl) (by decide) rfl (fun ls857 hl858 => ?_)
        refine lv_goto (tgt := 5) hx hb dX10_stills_34 (by decide) ?_
        exact ih5 ls857 H850 locsH850 (x853) (x856) (lv_sub hl858 [1, 2, 3, 4, 0] rfl) hTH850 hSH850 (by have := i_rng x856; omega) gy855_CG (by omega)
      refine lv_iload hx hb dX10_stills_5 (lv_at hl846 4 rfl) ?_
      refine lv_aload_n hx hb dX10_stills_7 rfl (lv_at hl846 0 rfl) ?_
      refine x_gr C hTH844 (ci := 10) (k := 4) rfl inX10 (by decide) wF_X10_13 ga0 rg_112 rfl dX10_stills_8 (fun q859 eq859 gq859 => ?_)
      refine lv_iload_n hx hb dX10_stills_11 rfl (lv_at hl846 1 rfl) ?_
      refine x_ai C hTH844 gq859 rg_113 ⟨by omega, by show _ < ((10 : Nat) : Int); omega⟩ dX10_stills_12 (fun x860 ex860 bx860 => ?_)
      refine lv_icmp_ge (tgt := 37) hx hb dX10_stills_13 (by decide) (fun c861 => ?_) (fun c861 => ?_)
      · have k862 := i_le c861
        refine lv_iload_n hx hb dX10_stills_37 rfl (lv_at hl846 3 rfl) ?_
        exact x_iret C hQ dX10_stills_38 hSH844 (by decide) (by decide) (⟨x847, rfl, hTH844⟩)
      · have k862 := i_nle c861
        refine lv_aload_n hx hb dX10_stills_16 rfl (lv_at hl846 0 rfl) ?_
        refine lv_iload_n hx hb dX10_stills_17 rfl (lv_at hl846 1 rfl) ?_
        refine lv_iload hx hb dX10_stills_18 (lv_at hl846 4 rfl) ?_
        refine lv_iload_n hx hb dX10_stills_20 rfl (lv_at hl846 2 rfl) ?_
        refine x_V (As := [.int x1, .int x848, .int x2]) (rest := []) C (a_X10_isStill l K G H844 (x1) (x848) (x2) hTH844 ga0 (by omega) (by omega) gy849_CG) yo_X10_isStill wM_X10_405 ⟨⟨by decide, by decide⟩, by decide, by decide⟩ (x_rv C hTH844 (ci := 10) rfl ga0 rg_112) rfl hl846.1 rfl (Nat.le_of_ble_eq_true rfl) dX10_stills_21 hSH844 (AE_sub (fun _ _ => rfl) (by decide) hSH844.1) (fun vH863 H863 locsH863 pH863 zH863 kH863 hSH863 => ?_)
        obtain ⟨x864, hvH863, bx864, hTH863⟩ := pH863
        subst hvH863
        have g865 : CG (avw K H863 a0) := CG.congr (fun k hk j => av_eff hTH844 kH863 ga0 (by decide) (CG_eff [140, 139] (by decide) k hk)) gy849_CG
        have m866 := (eq859).trans (fR_kept (x_lt hTH844 kH863 ga0 (by decide))).symm
        have m867 := (ex860).trans (fI_kept (x_lt hTH844 kH863 gq859 (by decide))).symm
        refine W.eq (g2 := F0 m 24 ls845 [.int x864]) rfl ?_
        refine lv_if_eq (tgt := 31) hx hb dX10_stills_24 (by decide) (fun c868 => ?_) (fun c868 => ?_)
        · have k869 := i_eq c868
          exact J31 ls845 H863 locsH863 (x847) (lv_sub hl846 [0, 1, 2, 3, 4] rfl) hTH863 hSH863 (by have := i_rng x848; omega) g865
        · have k869 := i_ne c868
          refine lv_iload_n hx hb dX10_stills_27 rfl (lv_at hl846 3 rfl) ?_
          refine lv_iconst (v := 1) hx hb dX10_stills_28 (by decide) ?_
          refine lv_iadd hx hb dX10_stills_29 ?_
          refine lv_topi (fun x870 ex870 => ?_)
          refine lv_istore_n (lv' := [(3, .int x870), (0, .ref a0), (1, .int x1), (2, .int x2), (4, .int x848)]) hx hb dX10_stills_30 rfl hl846 (by decide) rfl (fun ls871 hl872 => ?_)
          exact J31 ls871 H863 locsH863 (x870) (lv_sub hl872 [1, 2, 3, 0, 4] rfl) hTH863 hSH863 (by have := i_rng x848; omega) g865
  refine lv_iconst (v := 0) hx hb dX10_stills_0 (by decide) ?_
  refine lv_istore_n (lv' := [(3, .int 0), (0, .ref a0), (1, .int x1), (2, .int x2)]) hx hb dX10_stills_1 rfl hl (by decide) rfl (fun ls873 hl874 => ?_)
  refine lv_iconst (v := 0) hx hb dX10_stills_2 (by decide) ?_
  refine lv_istore (lv' := [(4, .int 0), (3, .int 0), (0, .ref a0), (1, .int x1), (2, .int x2)]) hx hb dX10_stills_3 hl874 (by decide) rfl (fun ls875 hl876 => ?_)
  exact J5 ((16 - (0 : Int32).toInt).toNat + 1) ls875 s.heap [] (0) (0) (lv_sub hl876 [2, 3, 4, 1, 0] rfl) hT hS (by decide) hg_CG (by omega)

set_option maxHeartbeats 4000000 in
set_option maxRecDepth 100000 in
theorem a_X10_amiss (l : Launch) (K : KE) (G : Nat → Option Nat) (H : Heap) {a0 : Nat} (x1 : Int32) (hT : TY K G H) (ga0 : G a0 = some 112) (hx1 : 0 ≤ x1.toInt ∧ x1.toInt ≤ 9) (hg_CG : CG (avw K H a0)) : MX l K yX10_amiss cX10_amiss 3 (some .int) 7 168 0 0 [.ref a0, .int x1] H (AE G [140, 139] H.size) (fun v H1 => ∃ (r : Int32), v = some (.int r) ∧ TY K G H1) := by
  refine MX.of (by decide +kernel) (Nat.le_of_ble_eq_true rfl) ?_
  intro p e s m below meth c ls Q C hH hl hQ
  subst hH
  have C : CX p K s m _ meth c RX10 cX10_amiss 3 (some .int) "amiss" := C
  obtain ⟨hx, hb, hml, hown, hts, hKT, hr, hlocks, hnm⟩ := id C
  have hl : lv_has ls 3 [(0, .ref a0), (1, .int x1)] := hl
  have hS : va_S (AE G [140, 139] s.heap.size) s.heap s.heap [] := va_S.rf
  have n_m1 : ((-1) : Int32).toInt = -1 := rfl
  have n_0 : (0 : Int32).toInt = 0 := rfl
  have n_1 : (1 : Int32).toInt = 1 := rfl
  have hap : ∀ x y, x < 74 → y < 74 → x ≠ y → K.1.2 10 x ≠ K.1.2 10 y := x_apart hKT hts inX10 tyX10 tyX10_ok nmX10 rfl
  have J21 : ∀ (ls274 : Array Slot) (H273 : Heap) (locsH273 : List Loc) , lv_has ls274 3 [] → TY K G H273 → va_S (AE G [140, 139] s.heap.size) s.heap H273 locsH273 → (CG (avw K H273 a0)) → W p l e ({ frames := 7, cells := 0, slots := 0, locals := 168 } : Room) s m (([.ref a0, .int x1] : List Value).toArray) below meth c H273 locsH273 0 0 Q (F0 m 21 ls274 []) := by
    intro ls274 H273 locsH273  hl275 hTH273 hSH273 gy276_CG
    refine lv_iconst (v := (-1)) hx hb dX10_amiss_21 (by decide) ?_
    exact x_iret C hQ dX10_amiss_22 hSH273 (by decide) (by decide) (⟨(-1), rfl, hTH273⟩)
  refine lv_aload_n hx hb dX10_amiss_0 rfl (lv_at hl 0 rfl) ?_
  refine lv_iload_n hx hb dX10_amiss_1 rfl (lv_at hl 1 rfl) ?_
  refine lv_iconst (v := 0) hx hb dX10_amiss_2 (by decide) ?_
  refine x_V (As := [.int x1, .int 0]) (rest := []) C (a_X10_stills l K G s.heap (x1) (0) hT ga0 (by omega) hg_CG) yo_X10_stills wM_X10_408 ⟨⟨by decide, by decide⟩, by decide, by decide⟩ (x_rv C hT (ci := 10) rfl ga0 rg_112) rfl hl.1 rfl (Nat.le_of_ble_eq_true rfl) dX10_amiss_3 hS (AE_sub (fun _ _ => rfl) (by decide) hS.1) (fun vH277 H277 locsH277 pH277 zH277 kH277 hSH277 => ?_)
  obtain ⟨x278, hvH277, hTH277⟩ := pH277
  subst hvH277
  have g279 : CG (avw K H277 a0) := CG.congr (fun k hk j => av_eff hT kH277 ga0 (by decide) (CG_eff [140, 139] (by decide) k hk)) hg_CG
  refine W.eq (g2 := F0 m 6 ls [.int x278]) rfl ?_
  refine lv_istore_n (lv' := [(2, .int x278), (0, .ref a0), (1, .int x1)]) hx hb dX10_amiss_6 rfl hl (by decide) rfl (fun ls280 hl281 => ?_)
  refine lv_aload_n hx hb dX10_amiss_7 rfl (lv_at hl281 1 rfl) ?_
  refine x_gr C hTH277 (ci := 10) (k := 14) rfl inX10 (by decide) wF_X10_44 ga0 rg_112 rfl dX10_amiss_8 (fun q282 eq282 gq282 => ?_)
  refine lv_iload_n hx hb dX10_amiss_11 rfl (lv_at hl281 2 rfl) ?_
  refine x_ai C hTH277 gq282 rg_123 ⟨by omega, by show _ < ((10 : Nat) : Int); omega⟩ dX10_amiss_12 (fun x283 ex283 bx283 => ?_)
  refine lv_iconst (v := (-1)) hx hb dX10_amiss_13 (by decide) ?_
  refine lv_icmp_eq (tgt := 21) hx hb dX10_amiss_14 (by decide) (fun c284 => ?_) (fun c284 => ?_)
  · have k285 := i_eq c284
    exact J21 ls280 H277 locsH277 (lv_sub hl281 [] rfl) hTH277 hSH277 g279
  · have k285 := i_ne c284
    refine lv_iload_n hx hb dX10_amiss_17 rfl (lv_at hl281 0 rfl) ?_
    refine lv_if_ne (tgt := 23) hx hb dX10_amiss_18 (by decide) (fun c286 => ?_) (fun c286 => ?_)
    · have k287 := i_ne c286
      refine lv_aload_n hx hb dX10_amiss_23 rfl (lv_at hl281 1 rfl) ?_
      refine lv_aload_n hx hb dX10_amiss_24 rfl (lv_at hl281 1 rfl) ?_
      refine x_gr C hTH277 (ci := 10) (k := 14) rfl inX10 (by decide) wF_X10_44 ga0 rg_112 rfl dX10_amiss_25 (fun q288 eq288 gq288 => ?_)
      have uq288 : q282 = q288 := (eq282).trans eq288.symm
      subst uq288
      refine lv_iload_n hx hb dX10_amiss_28 rfl (lv_at hl281 2 rfl) ?_
      refine x_ai C hTH277 gq282 rg_123 ⟨by omega, by show _ < ((10 : Nat) : Int); omega⟩ dX10_amiss_29 (fun x289 ex289 bx289 => ?_)
      have ux289 : x283 = x289 := (ex283).trans ex289.symm
      subst ux289
      refine lv_aload_n hx hb dX10_amiss_30 rfl (lv_at hl281 1 rfl) ?_
      refine lv_iload_n hx hb dX10_amiss_31 rfl (lv_at hl281 2 rfl) ?_
      refine lv_iconst (v := 0) hx hb dX10_amiss_32 (by decide) ?_
      refine lv_iconst (v := 0) hx hb dX10_amiss_33 (by decide) ?_
      refine x_V (As := [.int x1, .int 0, .int 0]) (rest := [.int x283, .ref a0]) C (a_X10_stillAt l K G H277 (x1) (0) (0) hTH277 ga0 (by omega) g279) yo_X10_stillAt wM_X10_411 ⟨⟨by decide, by decide⟩, by decide, by decide⟩ (x_rv C hTH277 (ci := 10) rfl ga0 rg_112) rfl hl281.1 rfl (Nat.le_of_ble_eq_true rfl) dX10_amiss_34 hSH277 (AE_sub (fun _ _ => rfl) (by decide) hSH277.1) (fun vH290 H290 locsH290 pH290 zH290 kH290 hSH290 => ?_)
      obtain ⟨x291, hvH290, bx291, hTH290⟩ := pH290
      subst hvH290
      have g292 : CG (avw K H290 a0) := CG.congr (fun k hk j => av_eff hTH277 kH290 ga0 (by decide) (CG_eff [140, 139] (by decide) k hk)) g279
      have m293 := (eq282).trans (fR_kept (x_lt hTH277 kH290 ga0 (by decide))).symm
      have m294 := (ex283).trans (fI_kept (x_lt hTH277 kH290 gq282 (by decide))).symm
      refine W.eq (g2 := F0 m 37 ls280 [.int x291, .int x283, .ref a0]) rfl ?_
      refine lv_isub hx hb dX10_amiss_37 ?_
      refine lv_topi (fun x295 ex295 => ?_)
      refine x_V (As := [.int x295]) (rest := []) C (a_X10_size l K G H290 (x295) hTH290 ga0) yo_X10_size wM_X10_309 ⟨⟨by decide, by decide⟩, by decide, by decide⟩ (x_rv C hTH290 (ci := 10) rfl ga0 rg_112) rfl hl281.1 rfl (Nat.le_of_ble_eq_true rfl) dX10_amiss_38 hSH290 (AE_sub (fun _ _ => rfl) (by decide) hSH290.1) (fun vH296 H296 locsH296 pH296 zH296 kH296 hSH296 => ?_)
      obtain ⟨x297, hvH296, hTH296⟩ := pH296
      subst hvH296
      have g298 : CG (avw K H296 a0) := CG.congr (fun k hk j => av_eff hTH290 kH296 ga0 (by decide) (CG_eff [] (by decide) k hk)) g292
      have m299 := (m293).trans (fR_kept (x_lt hTH290 kH296 ga0 (by decide))).symm
      have m300 := (m294).trans (fI_kept (x_lt hTH290 kH296 gq282 (by decide))).symm
      refine W.eq (g2 := F0 m 41 ls280 [.int x297]) rfl ?_
      refine lv_aload_n hx hb dX10_amiss_41 rfl (lv_at hl281 1 rfl) ?_
      refine lv_aload_n hx hb dX10_amiss_42 rfl (lv_at hl281 1 rfl) ?_
      refine x_gr C hTH296 (ci := 10) (k := 15) rfl inX10 (by decide) wF_X10_47 ga0 rg_112 rfl dX10_amiss_43 (fun q301 eq301 gq301 => ?_)
      refine lv_iload_n hx hb dX10_amiss_46 rfl (lv_at hl281 2 rfl) ?_
      refine x_ai C hTH296 gq301 rg_124 ⟨by omega, by show _ < ((10 : Nat) : Int); omega⟩ dX10_amiss_47 (fun x302 ex302 bx302 => ?_)
      refine lv_aload_n hx hb dX10_amiss_48 rfl (lv_at hl281 1 rfl) ?_
      refine lv_iload_n hx hb dX10_amiss_49 rfl (lv_at hl281 2 rfl) ?_
      refine lv_iconst (v := 0) hx hb dX10_amiss_50 (by decide) ?_
      refine lv_iload_n hx hb dX10_amiss_51 rfl (lv_at hl281 0 rfl) ?_
      refine lv_iconst (v := 1) hx hb dX10_amiss_52 (by decide) ?_
      refine lv_isub hx hb dX10_amiss_53 ?_
      refine lv_topi (fun x303 ex303 => ?_)
      refine x_V (As := [.int x1, .int 0, .int x303]) (rest := [.int x302, .ref a0, .int x297]) C (a_X10_stillAt l K G H296 (x1) (0) (x303) hTH296 ga0 (by omega) g298) yo_X10_stillAt wM_X10_411 ⟨⟨by decide, by decide⟩, by decide, by decide⟩ (x_rv C hTH296 (ci := 10) rfl ga0 rg_112) rfl hl281.1 rfl (Nat.le_of_ble_eq_true rfl) dX10_amiss_54 hSH296 (AE_sub (fun _ _ => rfl) (by decide) hSH296.1) (fun vH304 H304 locsH304 pH304 zH304 kH304 hSH304 => ?_)
      obtain ⟨x305, hvH304, bx305, hTH304⟩ := pH304
      subst hvH304
      have g306 : CG (avw K H304 a0) := CG.congr (fun k hk j => av_eff hTH296 kH304 ga0 (by decide) (CG_eff [140, 139] (by decide) k hk)) g298
      have m307 := (m299).trans (fR_kept (x_lt hTH296 kH304 ga0 (by decide))).symm
      have m308 := (m300).trans (fI_kept (x_lt hTH296 kH304 gq282 (by decide))).symm
      have m309 := (eq301).trans (fR_kept (x_lt hTH296 kH304 ga0 (by decide))).symm
      have m310 := (ex302).trans (fI_kept (x_lt hTH296 kH304 gq301 (by decide))).symm
      refine W.eq (g2 := F0 m 57 ls280 [.int x305, .int x302, .ref a0, .int x297]) rfl ?_
      refine lv_isub hx hb dX10_amiss_57 ?_
      refine lv_topi (fun x311 ex311 => ?_)
      refine x_V (As := [.int x311]) (rest := [.int x297]) C (a_X10_size l K G H304 (x311) hTH304 ga0) yo_X10_size wM_X10_309 ⟨⟨by decide, by decide⟩, by decide, by decide⟩ (x_rv C hTH304 (ci := 10) rfl ga0 rg_112) rfl hl281.1 rfl (Nat.le_of_ble_eq_true rfl) dX10_amiss_58 hSH304 (AE_sub (fun _ _ => rfl) (by decide) hSH304.1) (fun vH312 H312 locsH312 pH312 zH312 kH312 hSH312 => ?_)
      obtain ⟨x313, hvH312, hTH312⟩ := pH312
      subst hvH312
      have g314 : CG (avw K H312 a0) := CG.congr (fun k hk j => av_eff hTH304 kH312 ga0 (by decide) (CG_eff [] (by decide) k hk)) g306
      have m315 := (m307).trans (fR_kept (x_lt hTH304 kH312 ga0 (by decide))).symm
      have m316 := (m308).trans (fI_kept (x_lt hTH304 kH312 gq282 (by decide))).symm
      have m317 := (m309).trans (fR_kept (x_lt hTH304 kH312 ga0 (by decide))).symm
      have m318 := (m310).trans (fI_kept (x_lt hTH304 kH312 gq301 (by decide))).symm
      refine W.eq (g2 := F0 m 61 ls280 [.int x313, .int x297]) rfl ?_
      refine lv_iadd hx hb dX10_amiss_61 ?_
      refine lv_topi (fun x319 ex319 => ?_)
      exact x_iret C hQ dX10_amiss_62 hSH312 (by decide) (by decide) (⟨x319, rfl, hTH312⟩)
    · have k287 := i_eq c286
      exact J21 ls280 H277 locsH277 (lv_sub hl281 [] rfl) hTH277 hSH277 g279

set_option maxHeartbeats 4000000 in
set_option maxRecDepth 100000 in
theorem a_X10_drifted (l : Launch) (K : KE) (G : Nat → Option Nat) (H : Heap) {a0 : Nat} (x1 : Int32) (x2 : Int32) (x3 : Int32) (hT : TY K G H) (ga0 : G a0 = some 112) (hx1 : 0 ≤ x1.toInt ∧ x1.toInt ≤ 9) (hg_CG : CG (avw K H a0)) : MX l K yX10_drifted cX10_drifted 8 (some .int) 6 145 0 0 [.ref a0, .int x1, .int x2, .int x3] H (AE G [140, 139] H.size) (fun v H1 => ∃ (r : Int32), v = some (.int r) ∧ TY K G H1) := by
  refine MX.of (by decide +kernel) (Nat.le_of_ble_eq_true rfl) ?_
  intro p e s m below meth c ls Q C hH hl hQ
  subst hH
  have C : CX p K s m _ meth c RX10 cX10_drifted 8 (some .int) "drifted" := C
  obtain ⟨hx, hb, hml, hown, hts, hKT, hr, hlocks, hnm⟩ := id C
  have hl : lv_has ls 8 [(0, .ref a0), (1, .int x1), (2, .int x2), (3, .int x3)] := hl
  have hS : va_S (AE G [140, 139] s.heap.size) s.heap s.heap [] := va_S.rf
  have n_0 : (0 : Int32).toInt = 0 := rfl
  have n_1 : (1 : Int32).toInt = 1 := rfl
  have n_3 : (3 : Int32).toInt = 3 := rfl
  have n_8 : (8 : Int32).toInt = 8 := rfl
  have n_9 : (9 : Int32).toInt = 9 := rfl
  have n_14 : (14 : Int32).toInt = 14 := rfl
  have n_10000 : (10000 : Int32).toInt = 10000 := rfl
  have n_999999999 : (999999999 : Int32).toInt = 999999999 := rfl
  have l_0 : (0 : Int64).toInt = 0 := rfl
  have l_10000 : (10000 : Int64).toInt = 10000 := rfl
  have l_999999999 : (999999999 : Int64).toInt = 999999999 := rfl
  have hap : ∀ x y, x < 74 → y < 74 → x ≠ y → K.1.2 10 x ≠ K.1.2 10 y := x_apart hKT hts inX10 tyX10 tyX10_ok nmX10 rfl
  have J11 : ∀ (nf : Nat) (ls470 : Array Slot) (H469 : Heap) (locsH469 : List Loc) (x472 : Int32) (x473 : Int32), lv_has ls470 8 [(0, .ref a0), (2, .int x2), (3, .int x3), (4, .int x472), (5, .int x473)] → TY K G H469 → va_S (AE G [140, 139] s.heap.size) s.heap H469 locsH469 → (0 ≤ x473.toInt ∧ x473.toInt ≤ 14) → (CG (avw K H469 a0)) → (14 - x473.toInt < (nf : Int)) → W p l e ({ frames := 6, cells := 0, slots := 0, locals := 145 } : Room) s m (([.ref a0, .int x1, .int x2, .int x3] : List Value).toArray) below meth c H469 locsH469 0 0 Q (F0 m 11 ls470 []) := by
    intro nf
    induction nf with
    | zero =>
      intro ls470 H469 locsH469 x472 x473 hl471 hTH469 hSH469 bx473 gy474_CG hm11
      have rx472 := i_rng x472
      exfalso
      omega
    | succ nf ih11 =>
      intro ls470 H469 locsH469 x472 x473 hl471 hTH469 hSH469 bx473 gy474_CG hm11
      have rx472 := i_rng x472
      have J95 : ∀ (ls476 : Array Slot) (H475 : Heap) (locsH475 : List Loc) (x478 : Int32), lv_has ls476 8 [] → TY K G H475 → va_S (AE G [140, 139] s.heap.size) s.heap H475 locsH475 → (CG (avw K H475 a0)) → W p l e ({ frames := 6, cells := 0, slots := 0, locals := 145 } : Room) s m (([.ref a0, .int x1, .int x2, .int x3] : List Value).toArray) below meth c H475 locsH475 0 0 Q (F0 m 95 ls476 [.int x478]) := by
        intro ls476 H475 locsH475 x478 hl477 hTH475 hSH475 gy479_CG
        exact x_iret C hQ dX10_drifted_95 hSH475 (by decide) (by decide) (⟨x478, rfl, hTH475⟩)
      refine lv_iload hx hb dX10_drifted_11 (lv_at hl471 4 rfl) ?_
      refine lv_bipush (v := 14) hx hb dX10_drifted_13 (by decide) ?_
      refine lv_icmp_ge (tgt := 32) hx hb dX10_drifted_15 (by decide) (fun c480 => ?_) (fun c480 => ?_)
      · have k481 := i_le c480
        refine lv_aload_n hx hb dX10_drifted_32 rfl (lv_at hl471 0 rfl) ?_
        refine x_gr C hTH469 (ci := 10) (k := 43) rfl inX10 (by decide) wF_X10_95 ga0 rg_112 rfl dX10_drifted_33 (fun q482 eq482 gq482 => ?_)
        refine lv_bipush (v := 8) hx hb dX10_drifted_36 (by decide) ?_
        refine lv_iload_n hx hb dX10_drifted_38 rfl (lv_at hl471 1 rfl) ?_
        refine x_iast C hTH469 hSH469 gq482 rg_139 (by decide) (by decide) ⟨by have := i_rng x2; omega, by have := i_rng x2; omega⟩ (AE_in gq482 (by decide)) dX10_drifted_39 (fun H483 locsH483 hTH483 hSH483 wH483 => ?_)
        have g484 : CG (avw K H483 a0) := CG.congr (fun k hk j => av_arr hTH469 ga0 wH483 gq482 (by decide) (CG_ok 139 (by decide) k hk)) gy474_CG
        have m485 := eq482.trans (Wr.neR wH483 (Or.inl (G_ne ga0 gq482 (by decide)))).symm
        have m486 := Wr.I wH483
        have m486 := m486.symm
        refine lv_aload_n hx hb dX10_drifted_40 rfl (lv_at hl471 0 rfl) ?_
        refine x_gr C hTH483 (ci := 10) (k := 43) rfl inX10 (by decide) wF_X10_95 ga0 rg_112 rfl dX10_drifted_41 (fun q487 eq487 gq487 => ?_)
        have uq487 : q482 = q487 := (m485).trans eq487.symm
        subst uq487
        refine lv_bipush (v := 9) hx hb dX10_drifted_44 (by decide) ?_
        refine lv_iload_n hx hb dX10_drifted_46 rfl (lv_at hl471 2 rfl) ?_
        refine x_iast C hTH483 hSH483 gq482 rg_139 (by decide) (by decide) ⟨by have := i_rng x3; omega, by have := i_rng x3; omega⟩ (AE_in gq482 (by decide)) dX10_drifted_47 (fun H488 locsH488 hTH488 hSH488 wH488 => ?_)
        have g489 : CG (avw K H488 a0) := CG.congr (fun k hk j => av_arr hTH483 ga0 wH488 gq482 (by decide) (CG_ok 139 (by decide) k hk)) g484
        have m490 := m485.trans (Wr.neR wH488 (Or.inl (G_ne ga0 gq482 (by decide)))).symm
        have m491 := m486.trans (Wr.neI wH488 (Or.inr (by decide))).symm
        have m492 := Wr.I wH488
        have m492 := m492.symm
        refine lv_aload_n hx hb dX10_drifted_48 rfl (lv_at hl471 0 rfl) ?_
        refine lv_aload_n hx hb dX10_drifted_49 rfl (lv_at hl471 0 rfl) ?_
        refine x_gi C hTH488 (ci := 10) (k := 2) rfl inX10 (by decide) wF_X10_322 ga0 rg_112 rfl dX10_drifted_50 (fun x493 ex493 bx493 => ?_)
        refine lv_iconst (v := 3) hx hb dX10_drifted_53 (by decide) ?_
        refine lv_iconst (v := 0) hx hb dX10_drifted_54 (by decide) ?_
        obtain ⟨q494, eq494⟩ : ∃ z : Nat, z = fR H488 a0 (K.1.2 10 24) := ⟨_, rfl⟩
        have gq494 := ty_fr (q := q494) (k := 24) (u := 128) eq494 hTH488 ga0 rg_112 rfl
        obtain ⟨x495, ex495⟩ : ∃ z : Int32, z = fI H488 q494 (x493 : Int32).toNatClampNeg := ⟨_, rfl⟩
        have bx495 := ty_ai (x := x495) ex495 hTH488 gq494 rg_128 (by omega)
        refine x_V (As := [.int x493, .int 3, .int 0]) (rest := []) C (a_X10_tellsBy l K G H488 (x493) (3) (0) (x495) hTH488 ga0 (by omega) gq494 eq494 ex495 g489) yo_X10_tellsBy wM_X10_319 ⟨⟨by decide, by decide⟩, by decide, by decide⟩ (x_rv C hTH488 (ci := 10) rfl ga0 rg_112) rfl hl471.1 rfl (Nat.le_of_ble_eq_true rfl) dX10_drifted_55 hSH488 (AE_sub (fun _ _ => rfl) (by decide) hSH488.1) (fun vH496 H496 locsH496 pH496 zH496 kH496 hSH496 => ?_)
        obtain ⟨x497, hvH496, hTH496⟩ := pH496
        subst hvH496
        have g498 : CG (avw K H496 a0) := CG.congr (fun k hk j => av_eff hTH488 kH496 ga0 (by decide) (CG_eff [140] (by decide) k hk)) g489
        have m499 := (m490).trans (fR_kept (x_lt hTH488 kH496 ga0 (by decide))).symm
        have m500 := (m491).trans (fI_kept (x_lt hTH488 kH496 gq482 (by decide))).symm
        have m501 := (m492).trans (fI_kept (x_lt hTH488 kH496 gq482 (by decide))).symm
        have m502 := (ex493).trans (fI_kept (x_lt hTH488 kH496 ga0 (by decide))).symm
        have m503 := (eq494).trans (fR_kept (x_lt hTH488 kH496 ga0 (by decide))).symm
        have m504 := (ex495).trans (fI_kept (x_lt hTH488 kH496 gq494 (by decide))).symm
        refine W.eq (g2 := F0 m 58 ls470 [.int x497]) rfl ?_
        refine lv_istore (lv' := [(5, .int x497), (0, .ref a0), (2, .int x2), (3, .int x3), (4, .int x472)]) hx hb dX10_drifted_58 hl471 (by decide) rfl (fun ls505 hl506 => ?_)
        refine lv_iload hx hb dX10_drifted_60 (lv_at hl506 4 rfl) ?_
        obtain ⟨y507, ey507⟩ : ∃ z : Int64, x472.toInt64 = z := ⟨_, rfl⟩
        have ty507 := j_i2l ey507
        have ry507 := i_rng x472
        refine lv_i2l (v := y507) hx hb dX10_drifted_62 ey507 ?_
        refine lv_sipush (v := 10000) hx hb dX10_drifted_63 (by decide) ?_
        refine lv_iload hx hb dX10_drifted_66 (lv_at hl506 0 rfl) ?_
        refine lv_isub hx hb dX10_drifted_68 ?_
        refine lv_topi (fun x508 ex508 => ?_)
        obtain ⟨y509, ey509⟩ : ∃ z : Int64, x508.toInt64 = z := ⟨_, rfl⟩
        have ty509 := j_i2l ey509
        have ry509 := i_rng x508
        refine lv_i2l (v := y509) hx hb dX10_drifted_69 ey509 ?_
        refine lv_lmul hx hb dX10_drifted_70 ?_
        refine lv_topl (fun y510 ey510 => ?_)
        refine lv_ldc2 (v := 10000) hx hb hown (hts _ wK_X10_420) dX10_drifted_71 ?_
        refine lv_ldiv hx hb dX10_drifted_74 (by decide) ?_
        refine lv_topl (fun y511 ey511 => ?_)
        refine lv_lstore (lv' := [(6, .long y511), (5, .int x497), (0, .ref a0), (2, .int x2), (3, .int x3), (4, .int x472)]) hx hb dX10_drifted_75 hl506 (by decide) rfl (fun ls512 hl513 => ?_)
        refine lv_lload hx hb dX10_drifted_77 (lv_at hl513 0 rfl) ?_
        refine lv_ldc2 (v := 999999999) hx hb hown (hts _ wK_X10_396) dX10_drifted_79 ?_
        refine W.lcmp hx hb dX10_drifted_82 ?_
        refine lv_topi (fun x514 ex514 => ?_)
        have tx514 := j_cmp ex514
        refine lv_if_le (tgt := 92) hx hb dX10_drifted_83 (by decide) (fun c515 => ?_) (fun c515 => ?_)
        · have k516 := i_le c515
          refine lv_lload hx hb dX10_drifted_92 (lv_at hl513 0 rfl) ?_
          obtain ⟨x517, ex517⟩ : ∃ z : Int32, (y511 : Int64).toInt32 = z := ⟨_, rfl⟩
          refine lv_l2i (v := x517) hx hb dX10_drifted_94 ex517 ?_
          exact J95 ls512 H496 locsH496 (x517) (lv_sub hl513 [] rfl) hTH496 hSH496 g498
        · have k516 := i_nle c515
          refine lv_ldcw (v := 999999999) hx hb hown (hts _ wK_X10_398) dX10_drifted_86 ?_
          refine lv_goto (tgt := 95) hx hb dX10_drifted_89 (by decide) ?_
          exact J95 ls512 H496 locsH496 (999999999) (lv_sub hl513 [] rfl) hTH496 hSH496 g498
      · have k481 := i_nle c480
        refine lv_aload_n hx hb dX10_drifted_18 rfl (lv_at hl471 0 rfl) ?_
        refine x_gr C hTH469 (ci := 10) (k := 43) rfl inX10 (by decide) wF_X10_95 ga0 rg_112 rfl dX10_drifted_19 (fun q518 eq518 gq518 => ?_)
        refine lv_iload hx hb dX10_drifted_22 (lv_at hl471 4 rfl) ?_
        refine lv_iconst (v := 0) hx hb dX10_drifted_24 (by decide) ?_
        refine x_iast C hTH469 hSH469 gq518 rg_139 (by omega) (by show _ < ((14 : Nat) : Int); omega) (by decide) (AE_in gq518 (by decide)) dX10_drifted_25 (fun H519 locsH519 hTH519 hSH519 wH519 => ?_)
        have g520 : CG (avw K H519 a0) := CG.congr (fun k hk j => av_arr hTH469 ga0 wH519 gq518 (by decide) (CG_ok 139 (by decide) k hk)) gy474_CG
        have m521 := eq518.trans (Wr.neR wH519 (Or.inl (G_ne ga0 gq518 (by decide)))).symm
        have m522 := Wr.I wH519
        obtain ⟨x523, ex523⟩ : ∃ y : Int32, y = x473 + 1 := ⟨_, rfl⟩
        have tx523 := i_add ex523 (by omega)
        refine lv_iinc (v := x523) (lv' := [(5, .int x523), (0, .ref a0), (2, .int x2), (3, .int x3), (4, .int x472)]) hx hb dX10_drifted_26 hl471 (k := 4) rfl (by rw [ex523]; rfl) (by decide) rfl (fun ls524 hl525 => ?_)
        refine lv_goto (tgt := 11) hx hb dX10_drifted_29 (by decide) ?_
        exact ih11 ls524 H519 locsH519 (x472) (x523) (lv_sub hl525 [1, 2, 3, 4, 0] rfl) hTH519 hSH519 (by have := i_rng x523; omega) g520 (by omega)
  refine lv_aload_n hx hb dX10_drifted_0 rfl (lv_at hl 0 rfl) ?_
  refine lv_iload_n hx hb dX10_drifted_1 rfl (lv_at hl 1 rfl) ?_
  refine lv_iconst (v := 0) hx hb dX10_drifted_2 (by decide) ?_
  refine x_V (As := [.int x1, .int 0]) (rest := []) C (a_X10_toneNow l K G s.heap (x1) (0) hT ga0 (by omega) hg_CG) yo_X10_toneNow wM_X10_335 ⟨⟨by decide, by decide⟩, by decide, by decide⟩ (x_rv C hT (ci := 10) rfl ga0 rg_112) rfl hl.1 rfl (Nat.le_of_ble_eq_true rfl) dX10_drifted_3 hS (AE_sub (fun _ _ => rfl) (by decide) hS.1) (fun vH526 H526 locsH526 pH526 zH526 kH526 hSH526 => ?_)
  obtain ⟨x527, hvH526, hTH526⟩ := pH526
  subst hvH526
  have g528 : CG (avw K H526 a0) := CG.congr (fun k hk j => av_eff hT kH526 ga0 (by decide) (CG_eff [140, 139] (by decide) k hk)) hg_CG
  refine W.eq (g2 := F0 m 6 ls [.int x527]) rfl ?_
  refine lv_istore (lv' := [(4, .int x527), (0, .ref a0), (1, .int x1), (2, .int x2), (3, .int x3)]) hx hb dX10_drifted_6 hl (by decide) rfl (fun ls529 hl530 => ?_)
  refine lv_iconst (v := 0) hx hb dX10_drifted_8 (by decide) ?_
  refine lv_istore (lv' := [(5, .int 0), (4, .int x527), (0, .ref a0), (1, .int x1), (2, .int x2), (3, .int x3)]) hx hb dX10_drifted_9 hl530 (by decide) rfl (fun ls531 hl532 => ?_)
  exact J11 ((14 - (0 : Int32).toInt).toNat + 1) ls531 H526 locsH526 (x527) (0) (lv_sub hl532 [2, 4, 5, 1, 0] rfl) hTH526 hSH526 (by decide) g528 (by omega)

set_option maxHeartbeats 4000000 in
set_option maxRecDepth 100000 in
theorem a_X10_sounds (l : Launch) (K : KE) (G : Nat → Option Nat) (H : Heap) {a0 : Nat} (x1 : Int32) (x2 : Int32) (hT : TY K G H) (ga0 : G a0 = some 112) (hx1 : 1 ≤ x1.toInt ∧ x1.toInt ≤ 9999) : MX l K yX10_sounds cX10_sounds 3 (some .int) 0 0 0 0 [.ref a0, .int x1, .int x2] H (AE G [] H.size) (fun v H1 => ∃ (r : Int32), v = some (.int r) ∧ TY K G H1) := by
  refine MX.of (by decide +kernel) (Nat.le_of_ble_eq_true rfl) ?_
  intro p e s m below meth c ls Q C hH hl hQ
  subst hH
  have C : CX p K s m _ meth c RX10 cX10_sounds 3 (some .int) "sounds" := C
  obtain ⟨hx, hb, hml, hown, hts, hKT, hr, hlocks, hnm⟩ := id C
  have hl : lv_has ls 3 [(0, .ref a0), (1, .int x1), (2, .int x2)] := hl
  have hS : va_S (AE G [] s.heap.size) s.heap s.heap [] := va_S.rf
  have n_0 : (0 : Int32).toInt = 0 := rfl
  have n_6 : (6 : Int32).toInt = 6 := rfl
  have n_1000 : (1000 : Int32).toInt = 1000 := rfl
  have n_3310 : (3310 : Int32).toInt = 3310 := rfl
  have hap : ∀ x y, x < 74 → y < 74 → x ≠ y → K.1.2 10 x ≠ K.1.2 10 y := x_apart hKT hts inX10 tyX10 tyX10_ok nmX10 rfl
  refine lv_sipush (v := 1000) hx hb dX10_sounds_0 (by decide) ?_
  refine lv_sipush (v := 3310) hx hb dX10_sounds_3 (by decide) ?_
  refine lv_bipush (v := 6) hx hb dX10_sounds_6 (by decide) ?_
  refine lv_iload_n hx hb dX10_sounds_8 rfl (lv_at hl 2 rfl) ?_
  refine lv_imul hx hb dX10_sounds_9 ?_
  refine lv_topi (fun x117 ex117 => ?_)
  refine lv_iadd hx hb dX10_sounds_10 ?_
  refine lv_topi (fun x118 ex118 => ?_)
  refine lv_imul hx hb dX10_sounds_11 ?_
  refine lv_topi (fun x119 ex119 => ?_)
  refine lv_iload_n hx hb dX10_sounds_12 rfl (lv_at hl 1 rfl) ?_
  refine lv_idiv hx hb dX10_sounds_13 (fun h => by have := i_eq h; omega) ?_
  refine lv_topi (fun x120 ex120 => ?_)
  exact x_iret C hQ dX10_sounds_14 hS (by decide) (by decide) (⟨x120, rfl, hT⟩)

set_option maxHeartbeats 4000000 in
set_option maxRecDepth 100000 in
theorem a_X10_beatOf (l : Launch) (K : KE) (G : Nat → Option Nat) (H : Heap) {a0 : Nat} (x1 : Int32) (x2 : Int32) (x3 : Int32) (x4 : Int32) (bs : Int32) (hT : TY K G H) (ga0 : G a0 = some 112) (hx1 : 0 ≤ x1.toInt ∧ x1.toInt ≤ 9) (hx4 : 0 ≤ x4.toInt ∧ x4.toInt ≤ 1) (ebs : bs = fI H a0 (K.1.2 10 1)) (hg_CG : CG (avw K H a0)) (hg_TU : TU (avw K H a0) (svw K H a0)) (hp0 : x1.toInt < bs.toInt) : MX l K yX10_beatOf cX10_beatOf 5 (some .int) 7 172 0 0 [.ref a0, .int x1, .int x2, .int x3, .int x4] H (AE G [140, 139] H.size) (fun v H1 => ∃ (r : Int32), v = some (.int r) ∧ TY K G H1) := by
  refine MX.of (by decide +kernel) (Nat.le_of_ble_eq_true rfl) ?_
  intro p e s m below meth c ls Q C hH hl hQ
  subst hH
  have C : CX p K s m _ meth c RX10 cX10_beatOf 5 (some .int) "beatOf" := C
  obtain ⟨hx, hb, hml, hown, hts, hKT, hr, hlocks, hnm⟩ := id C
  have hl : lv_has ls 5 [(0, .ref a0), (1, .int x1), (2, .int x2), (3, .int x3), (4, .int x4)] := hl
  have hS : va_S (AE G [140, 139] s.heap.size) s.heap s.heap [] := va_S.rf
  have n_2 : (2 : Int32).toInt = 2 := rfl
  have bbs := ty_fi (x := bs) (k := 1) ebs hT ga0 rg_112 rfl
  have hap : ∀ x y, x < 74 → y < 74 → x ≠ y → K.1.2 10 x ≠ K.1.2 10 y := x_apart hKT hts inX10 tyX10 tyX10_ok nmX10 rfl
  refine lv_aload_n hx hb dX10_beatOf_0 rfl (lv_at hl 0 rfl) ?_
  refine lv_aload_n hx hb dX10_beatOf_1 rfl (lv_at hl 0 rfl) ?_
  refine lv_aload_n hx hb dX10_beatOf_2 rfl (lv_at hl 0 rfl) ?_
  refine x_gr C hT (ci := 10) (k := 16) rfl inX10 (by decide) wF_X10_50 ga0 rg_112 rfl dX10_beatOf_3 (fun q205 eq205 gq205 => ?_)
  refine lv_iconst (v := 2) hx hb dX10_beatOf_6 (by decide) ?_
  refine lv_iload_n hx hb dX10_beatOf_7 rfl (lv_at hl 1 rfl) ?_
  refine lv_imul hx hb dX10_beatOf_8 ?_
  refine lv_topi (fun x206 ex206 => ?_)
  have tx206 := i_mul ex206 (by rw [n_2]; omega)
  rw [n_2] at tx206
  refine lv_iload hx hb dX10_beatOf_9 (lv_at hl 4 rfl) ?_
  refine lv_iadd hx hb dX10_beatOf_11 ?_
  refine lv_topi (fun x207 ex207 => ?_)
  have tx207 := i_add ex207 (by omega)
  refine x_ai C hT gq205 rg_125 ⟨by omega, by show _ < ((20 : Nat) : Int); omega⟩ dX10_beatOf_12 (fun x208 ex208 bx208 => ?_)
  have ux208 := tu_at hg_TU eq205 ebs ex208 (by omega)
  refine lv_iload_n hx hb dX10_beatOf_13 rfl (lv_at hl 2 rfl) ?_
  refine x_V (As := [.int x208, .int x2]) (rest := [.ref a0]) C (a_X10_sounds l K G s.heap (x208) (x2) hT ga0 (by omega)) yo_X10_sounds wM_X10_422 ⟨⟨by decide, by decide⟩, by decide, by decide⟩ (x_rv C hT (ci := 10) rfl ga0 rg_112) rfl hl.1 rfl (Nat.le_of_ble_eq_true rfl) dX10_beatOf_14 hS (AE_sub (fun _ _ => rfl) (by decide) hS.1) (fun vH209 H209 locsH209 pH209 zH209 kH209 hSH209 => ?_)
  obtain ⟨x210, hvH209, hTH209⟩ := pH209
  subst hvH209
  have g211 : CG (avw K H209 a0) := CG.congr (fun k hk j => av_eff hT kH209 ga0 (by decide) (CG_eff [] (by decide) k hk)) hg_CG
  have g212 : TU (avw K H209 a0) (svw K H209 a0) := TU.congr (fun k hk j => av_eff hT kH209 ga0 (by decide) (TU_eff [] (by decide) k hk)) (fun k hk => sv_eff hT kH209 ga0 (by decide)) hg_TU
  have m213 := (ebs).trans (fI_kept (x_lt hT kH209 ga0 (by decide))).symm
  have m214 := (eq205).trans (fR_kept (x_lt hT kH209 ga0 (by decide))).symm
  have m215 := (ex208).trans (fI_kept (x_lt hT kH209 gq205 (by decide))).symm
  refine W.eq (g2 := F0 m 17 ls [.int x210, .ref a0]) rfl ?_
  refine lv_aload_n hx hb dX10_beatOf_17 rfl (lv_at hl 0 rfl) ?_
  refine lv_iload_n hx hb dX10_beatOf_18 rfl (lv_at hl 1 rfl) ?_
  refine lv_iload_n hx hb dX10_beatOf_19 rfl (lv_at hl 2 rfl) ?_
  refine lv_iload_n hx hb dX10_beatOf_20 rfl (lv_at hl 3 rfl) ?_
  refine x_V (As := [.int x1, .int x2, .int x3]) (rest := [.int x210, .ref a0]) C (a_X10_drifted l K G H209 (x1) (x2) (x3) hTH209 ga0 (by omega) g211) yo_X10_drifted wM_X10_425 ⟨⟨by decide, by decide⟩, by decide, by decide⟩ (x_rv C hTH209 (ci := 10) rfl ga0 rg_112) rfl hl.1 rfl (Nat.le_of_ble_eq_true rfl) dX10_beatOf_21 hSH209 (AE_sub (fun _ _ => rfl) (by decide) hSH209.1) (fun vH216 H216 locsH216 pH216 zH216 kH216 hSH216 => ?_)
  obtain ⟨x217, hvH216, hTH216⟩ := pH216
  subst hvH216
  have g218 : CG (avw K H216 a0) := CG.congr (fun k hk j => av_eff hTH209 kH216 ga0 (by decide) (CG_eff [140, 139] (by decide) k hk)) g211
  have g219 : TU (avw K H216 a0) (svw K H216 a0) := TU.congr (fun k hk j => av_eff hTH209 kH216 ga0 (by decide) (TU_eff [140, 139] (by decide) k hk)) (fun k hk => sv_eff hTH209 kH216 ga0 (by decide)) g212
  have m220 := (m213).trans (fI_kept (x_lt hTH209 kH216 ga0 (by decide))).symm
  have m221 := (m214).trans (fR_kept (x_lt hTH209 kH216 ga0 (by decide))).symm
  have m222 := (m215).trans (fI_kept (x_lt hTH209 kH216 gq205 (by decide))).symm
  refine W.eq (g2 := F0 m 24 ls [.int x217, .int x210, .ref a0]) rfl ?_
  refine lv_isub hx hb dX10_beatOf_24 ?_
  refine lv_topi (fun x223 ex223 => ?_)
  refine x_V (As := [.int x223]) (rest := []) C (a_X10_size l K G H216 (x223) hTH216 ga0) yo_X10_size wM_X10_309 ⟨⟨by decide, by decide⟩, by decide, by decide⟩ (x_rv C hTH216 (ci := 10) rfl ga0 rg_112) rfl hl.1 rfl (Nat.le_of_ble_eq_true rfl) dX10_beatOf_25 hSH216 (AE_sub (fun _ _ => rfl) (by decide) hSH216.1) (fun vH224 H224 locsH224 pH224 zH224 kH224 hSH224 => ?_)
  obtain ⟨x225, hvH224, hTH224⟩ := pH224
  subst hvH224
  have g226 : CG (avw K H224 a0) := CG.congr (fun k hk j => av_eff hTH216 kH224 ga0 (by decide) (CG_eff [] (by decide) k hk)) g218
  have g227 : TU (avw K H224 a0) (svw K H224 a0) := TU.congr (fun k hk j => av_eff hTH216 kH224 ga0 (by decide) (TU_eff [] (by decide) k hk)) (fun k hk => sv_eff hTH216 kH224 ga0 (by decide)) g219
  have m228 := (m220).trans (fI_kept (x_lt hTH216 kH224 ga0 (by decide))).symm
  have m229 := (m221).trans (fR_kept (x_lt hTH216 kH224 ga0 (by decide))).symm
  have m230 := (m222).trans (fI_kept (x_lt hTH216 kH224 gq205 (by decide))).symm
  refine W.eq (g2 := F0 m 28 ls [.int x225]) rfl ?_
  exact x_iret C hQ dX10_beatOf_28 hSH224 (by decide) (by decide) (⟨x225, rfl, hTH224⟩)

set_option maxHeartbeats 4000000 in
set_option maxRecDepth 100000 in
theorem a_X10_worstOf (l : Launch) (K : KE) (G : Nat → Option Nat) (H : Heap) {a0 : Nat} (x1 : Int32) (x2 : Int32) (bs : Int32) (hT : TY K G H) (ga0 : G a0 = some 112) (hx1 : 0 ≤ x1.toInt ∧ x1.toInt ≤ 19) (hx2 : 0 ≤ x2.toInt ∧ x2.toInt ≤ 1) (ebs : bs = fI H a0 (K.1.2 10 1)) (hg_CG : CG (avw K H a0)) (hg_TU : TU (avw K H a0) (svw K H a0)) : MX l K yX10_worstOf cX10_worstOf 7 (some .int) 8 196 0 0 [.ref a0, .int x1, .int x2] H (AE G [140, 139] H.size) (fun v H1 => ∃ (r : Int32), v = some (.int r) ∧ ((-1) ≤ r.toInt ∧ r.toInt ≤ 9) ∧ (r.toInt < bs.toInt) ∧ TY K G H1) := by
  refine MX.of (by decide +kernel) (Nat.le_of_ble_eq_true rfl) ?_
  intro p e s m below meth c ls Q C hH hl hQ
  subst hH
  have C : CX p K s m _ meth c RX10 cX10_worstOf 7 (some .int) "worstOf" := C
  obtain ⟨hx, hb, hml, hown, hts, hKT, hr, hlocks, hnm⟩ := id C
  have hl : lv_has ls 7 [(0, .ref a0), (1, .int x1), (2, .int x2)] := hl
  have hS : va_S (AE G [140, 139] s.heap.size) s.heap s.heap [] := va_S.rf
  have n_m1 : ((-1) : Int32).toInt = -1 := rfl
  have n_0 : (0 : Int32).toInt = 0 := rfl
  have n_1 : (1 : Int32).toInt = 1 := rfl
  have bbs := ty_fi (x := bs) (k := 1) ebs hT ga0 rg_112 rfl
  have hap : ∀ x y, x < 74 → y < 74 → x ≠ y → K.1.2 10 x ≠ K.1.2 10 y := x_apart hKT hts inX10 tyX10 tyX10_ok nmX10 rfl
  have J8 : ∀ (nf : Nat) (ls522 : Array Slot) (H521 : Heap) (locsH521 : List Loc) (x524 : Int32) (x525 : Int32) (x526 : Int32), lv_has ls522 7 [(0, .ref a0), (1, .int x1), (2, .int x2), (3, .int x524), (4, .int x525), (5, .int x526)] → TY K G H521 → va_S (AE G [140, 139] s.heap.size) s.heap H521 locsH521 → ((-1) ≤ x524.toInt ∧ x524.toInt ≤ 9) → ((-1) ≤ x525.toInt ∧ x525.toInt ≤ 2147483647) → (0 ≤ x526.toInt ∧ x526.toInt ≤ 10) → (bs = fI H521 a0 (K.1.2 10 1)) → (CG (avw K H521 a0)) → (TU (avw K H521 a0) (svw K H521 a0)) → (10 - x526.toInt < (nf : Int)) → (x524.toInt < bs.toInt) → W p l e ({ frames := 8, cells := 0, slots := 0, locals := 196 } : Room) s m (([.ref a0, .int x1, .int x2] : List Value).toArray) below meth c H521 locsH521 0 0 Q (F0 m 8 ls522 []) := by
    intro nf
    induction nf with
    | zero =>
      intro ls522 H521 locsH521 x524 x525 x526 hl523 hTH521 hSH521 bx524 bx525 bx526 cy527_0 gy527_CG gy527_TU hm8 iv8
      exfalso
      omega
    | succ nf ih8 =>
      intro ls522 H521 locsH521 x524 x525 x526 hl523 hTH521 hSH521 bx524 bx525 bx526 cy527_0 gy527_CG gy527_TU hm8 iv8
      have J55 : ∀ (ls529 : Array Slot) (H528 : Heap) (locsH528 : List Loc) (x531 : Int32) (x532 : Int32), lv_has ls529 7 [(0, .ref a0), (1, .int x1), (2, .int x2), (3, .int x531), (4, .int x532), (5, .int x526)] → TY K G H528 → va_S (AE G [140, 139] s.heap.size) s.heap H528 locsH528 → ((-1) ≤ x531.toInt ∧ x531.toInt ≤ 9) → ((-1) ≤ x532.toInt ∧ x532.toInt ≤ 2147483647) → (0 ≤ x526.toInt ∧ x526.toInt ≤ 9) → (bs = fI H528 a0 (K.1.2 10 1)) → (CG (avw K H528 a0)) → (TU (avw K H528 a0) (svw K H528 a0)) → (x531.toInt < bs.toInt) → W p l e ({ frames := 8, cells := 0, slots := 0, locals := 196 } : Room) s m (([.ref a0, .int x1, .int x2] : List Value).toArray) below meth c H528 locsH528 0 0 Q (F0 m 55 ls529 []) := by
        intro ls529 H528 locsH528 x531 x532 hl530 hTH528 hSH528 bx531 bx532 b533 cy534_0 gy534_CG gy534_TU iv55
        obtain ⟨x535, ex535⟩ : ∃ y : Int32, y = x526 + 1 := ⟨_, rfl⟩
        have tx535 := i_add ex535 (by omega)
        refine lv_iinc (v := x535) (lv' := [(5, .int x535), (0, .ref a0), (1, .int x1), (2, .int x2), (3, .int x531), (4, .int x532)]) hx hb dX10_worstOf_55 hl530 (k := 5) rfl (by rw [ex535]; rfl) (by decide) rfl (fun ls536 hl537 => ?_)
        refine lv_goto (tgt := 8) hx hb dX10_worstOf_58 (by decide) ?_
        exact ih8 ls536 H528 locsH528 (x531) (x532) (x535) (lv_sub hl537 [1, 2, 3, 4, 5, 0] rfl) hTH528 hSH528 (by have := i_rng x531; omega) (by have := i_rng x532; omega) (by have := i_rng x535; omega) cy534_0 gy534_CG gy534_TU (by omega) (by omega)
      refine lv_iload hx hb dX10_worstOf_8 (lv_at hl523 5 rfl) ?_
      refine lv_aload_n hx hb dX10_worstOf_10 rfl (lv_at hl523 0 rfl) ?_
      refine x_gi C hTH521 (ci := 10) (k := 1) rfl inX10 (by decide) wF_X10_170 ga0 rg_112 rfl dX10_worstOf_11 (fun x538 ex538 bx538 => ?_)
      have ux538 : bs = x538 := (cy527_0).trans ex538.symm
      subst ux538
      refine lv_icmp_ge (tgt := 61) hx hb dX10_worstOf_14 (by decide) (fun c539 => ?_) (fun c539 => ?_)
      · have k540 := i_le c539
        refine lv_iload_n hx hb dX10_worstOf_61 rfl (lv_at hl523 3 rfl) ?_
        exact x_iret C hQ dX10_worstOf_62 hSH521 (by decide) (by decide) (⟨x524, rfl, by omega, by omega, hTH521⟩)
      · have k540 := i_nle c539
        refine lv_aload_n hx hb dX10_worstOf_17 rfl (lv_at hl523 0 rfl) ?_
        refine lv_iload hx hb dX10_worstOf_18 (lv_at hl523 5 rfl) ?_
        refine lv_aload_n hx hb dX10_worstOf_20 rfl (lv_at hl523 0 rfl) ?_
        refine x_gr C hTH521 (ci := 10) (k := 60) rfl inX10 (by decide) wF_X10_140 ga0 rg_112 rfl dX10_worstOf_21 (fun q541 eq541 gq541 => ?_)
        refine lv_iload_n hx hb dX10_worstOf_24 rfl (lv_at hl523 1 rfl) ?_
        refine x_ai C hTH521 gq541 rg_154 ⟨by omega, by show _ < ((20 : Nat) : Int); omega⟩ dX10_worstOf_25 (fun x542 ex542 bx542 => ?_)
        refine lv_aload_n hx hb dX10_worstOf_26 rfl (lv_at hl523 0 rfl) ?_
        refine x_gr C hTH521 (ci := 10) (k := 61) rfl inX10 (by decide) wF_X10_143 ga0 rg_112 rfl dX10_worstOf_27 (fun q543 eq543 gq543 => ?_)
        refine lv_iload_n hx hb dX10_worstOf_30 rfl (lv_at hl523 1 rfl) ?_
        refine x_ai C hTH521 gq543 rg_155 ⟨by omega, by show _ < ((20 : Nat) : Int); omega⟩ dX10_worstOf_31 (fun x544 ex544 bx544 => ?_)
        refine lv_iload_n hx hb dX10_worstOf_32 rfl (lv_at hl523 2 rfl) ?_
        refine x_V (As := [.int x526, .int x542, .int x544, .int x2]) (rest := []) C (a_X10_beatOf l K G H521 (x526) (x542) (x544) (x2) (bs) hTH521 ga0 (by omega) (by omega) cy527_0 gy527_CG gy527_TU (by omega)) yo_X10_beatOf wM_X10_434 ⟨⟨by decide, by decide⟩, by decide, by decide⟩ (x_rv C hTH521 (ci := 10) rfl ga0 rg_112) rfl hl523.1 rfl (Nat.le_of_ble_eq_true rfl) dX10_worstOf_33 hSH521 (AE_sub (fun _ _ => rfl) (by decide) hSH521.1) (fun vH545 H545 locsH545 pH545 zH545 kH545 hSH545 => ?_)
        obtain ⟨x546, hvH545, hTH545⟩ := pH545
        subst hvH545
        have g547 : CG (avw K H545 a0) := CG.congr (fun k hk j => av_eff hTH521 kH545 ga0 (by decide) (CG_eff [140, 139] (by decide) k hk)) gy527_CG
        have g548 : TU (avw K H545 a0) (svw K H545 a0) := TU.congr (fun k hk j => av_eff hTH521 kH545 ga0 (by decide) (TU_eff [140, 139] (by decide) k hk)) (fun k hk => sv_eff hTH521 kH545 ga0 (by decide)) gy527_TU
        have m549 := (cy527_0).trans (fI_kept (x_lt hTH521 kH545 ga0 (by decide))).symm
        have m550 := (eq541).trans (fR_kept (x_lt hTH521 kH545 ga0 (by decide))).symm
        have m551 := (ex542).trans (fI_kept (x_lt hTH521 kH545 gq541 (by decide))).symm
        have m552 := (eq543).trans (fR_kept (x_lt hTH521 kH545 ga0 (by decide))).symm
        have m553 := (ex544).trans (fI_kept (x_lt hTH521 kH545 gq543 (by decide))).symm
        refine W.eq (g2 := F0 m 36 ls522 [.int x546]) rfl ?_
        refine lv_istore (lv' := [(6, .int x546), (0, .ref a0), (1, .int x1), (2, .int x2), (3, .int x524), (4, .int x525), (5, .int x526)]) hx hb dX10_worstOf_36 hl523 (by decide) rfl (fun ls554 hl555 => ?_)
        refine lv_iload hx hb dX10_worstOf_38 (lv_at hl555 0 rfl) ?_
        refine lv_iload hx hb dX10_worstOf_40 (lv_at hl555 5 rfl) ?_
        refine lv_icmp_gt (tgt := 48) hx hb dX10_worstOf_42 (by decide) (fun c556 => ?_) (fun c556 => ?_)
        · have k557 := i_lt c556
          refine lv_iload hx hb dX10_worstOf_48 (lv_at hl555 6 rfl) ?_
          refine lv_istore_n (lv' := [(3, .int x526), (6, .int x546), (0, .ref a0), (1, .int x1), (2, .int x2), (4, .int x525), (5, .int x526)]) hx hb dX10_worstOf_50 rfl hl555 (by decide) rfl (fun ls558 hl559 => ?_)
          refine lv_iload hx hb dX10_worstOf_51 (lv_at hl559 1 rfl) ?_
          refine lv_istore (lv' := [(4, .int x546), (3, .int x526), (6, .int x546), (0, .ref a0), (1, .int x1), (2, .int x2), (5, .int x526)]) hx hb dX10_worstOf_53 hl559 (by decide) rfl (fun ls560 hl561 => ?_)
          exact J55 ls560 H545 locsH545 (x526) (x546) (lv_sub hl561 [3, 4, 5, 1, 0, 6] rfl) hTH545 hSH545 (by have := i_rng x526; omega) (by have := i_rng x546; omega) (by have := i_rng x526; omega) m549 g547 g548 (by omega)
        · have k557 := i_nlt c556
          refine lv_goto (tgt := 55) hx hb dX10_worstOf_45 (by decide) ?_
          exact J55 ls554 H545 locsH545 (x524) (x525) (lv_sub hl555 [1, 2, 3, 4, 5, 6] rfl) hTH545 hSH545 (by have := i_rng x524; omega) (by have := i_rng x525; omega) (by have := i_rng x526; omega) m549 g547 g548 (by omega)
  refine lv_iconst (v := (-1)) hx hb dX10_worstOf_0 (by decide) ?_
  refine lv_istore_n (lv' := [(3, .int (-1)), (0, .ref a0), (1, .int x1), (2, .int x2)]) hx hb dX10_worstOf_1 rfl hl (by decide) rfl (fun ls562 hl563 => ?_)
  refine lv_iconst (v := (-1)) hx hb dX10_worstOf_2 (by decide) ?_
  refine lv_istore (lv' := [(4, .int (-1)), (3, .int (-1)), (0, .ref a0), (1, .int x1), (2, .int x2)]) hx hb dX10_worstOf_3 hl563 (by decide) rfl (fun ls564 hl565 => ?_)
  refine lv_iconst (v := 0) hx hb dX10_worstOf_5 (by decide) ?_
  refine lv_istore (lv' := [(5, .int 0), (4, .int (-1)), (3, .int (-1)), (0, .ref a0), (1, .int x1), (2, .int x2)]) hx hb dX10_worstOf_6 hl565 (by decide) rfl (fun ls566 hl567 => ?_)
  exact J8 ((10 - (0 : Int32).toInt).toNat + 1) ls566 s.heap [] ((-1)) ((-1)) (0) (lv_sub hl567 [3, 4, 5, 2, 1, 0] rfl) hT hS (by decide) (by decide) (by decide) ebs hg_CG hg_TU (by omega) (by omega)

set_option maxHeartbeats 4000000 in
set_option maxRecDepth 100000 in
theorem a_X10_worstBeat (l : Launch) (K : KE) (G : Nat → Option Nat) (H : Heap) {a0 : Nat} (x1 : Int32) (x2 : Int32) (bs : Int32) (hT : TY K G H) (ga0 : G a0 = some 112) (hx1 : 0 ≤ x1.toInt ∧ x1.toInt ≤ 19) (hx2 : 0 ≤ x2.toInt ∧ x2.toInt ≤ 1) (ebs : bs = fI H a0 (K.1.2 10 1)) (hg_CG : CG (avw K H a0)) (hg_TU : TU (avw K H a0) (svw K H a0)) : MX l K yX10_worstBeat cX10_worstBeat 4 (some .int) 9 222 0 0 [.ref a0, .int x1, .int x2] H (AE G [140, 139] H.size) (fun v H1 => ∃ (r : Int32), v = some (.int r) ∧ TY K G H1) := by
  refine MX.of (by decide +kernel) (Nat.le_of_ble_eq_true rfl) ?_
  intro p e s m below meth c ls Q C hH hl hQ
  subst hH
  have C : CX p K s m _ meth c RX10 cX10_worstBeat 4 (some .int) "worstBeat" := C
  obtain ⟨hx, hb, hml, hown, hts, hKT, hr, hlocks, hnm⟩ := id C
  have hl : lv_has ls 4 [(0, .ref a0), (1, .int x1), (2, .int x2)] := hl
  have hS : va_S (AE G [140, 139] s.heap.size) s.heap s.heap [] := va_S.rf
  have n_m1 : ((-1) : Int32).toInt = -1 := rfl
  have n_0 : (0 : Int32).toInt = 0 := rfl
  have bbs := ty_fi (x := bs) (k := 1) ebs hT ga0 rg_112 rfl
  have hap : ∀ x y, x < 74 → y < 74 → x ≠ y → K.1.2 10 x ≠ K.1.2 10 y := x_apart hKT hts inX10 tyX10 tyX10_ok nmX10 rfl
  have J34 : ∀ (ls194 : Array Slot) (H193 : Heap) (locsH193 : List Loc) (x196 : Int32), lv_has ls194 4 [] → TY K G H193 → va_S (AE G [140, 139] s.heap.size) s.heap H193 locsH193 → (bs = fI H193 a0 (K.1.2 10 1)) → (CG (avw K H193 a0)) → (TU (avw K H193 a0) (svw K H193 a0)) → W p l e ({ frames := 9, cells := 0, slots := 0, locals := 222 } : Room) s m (([.ref a0, .int x1, .int x2] : List Value).toArray) below meth c H193 locsH193 0 0 Q (F0 m 34 ls194 [.int x196]) := by
    intro ls194 H193 locsH193 x196 hl195 hTH193 hSH193 cy197_0 gy197_CG gy197_TU
    exact x_iret C hQ dX10_worstBeat_34 hSH193 (by decide) (by decide) (⟨x196, rfl, hTH193⟩)
  refine lv_aload_n hx hb dX10_worstBeat_0 rfl (lv_at hl 0 rfl) ?_
  refine lv_iload_n hx hb dX10_worstBeat_1 rfl (lv_at hl 1 rfl) ?_
  refine lv_iload_n hx hb dX10_worstBeat_2 rfl (lv_at hl 2 rfl) ?_
  refine x_V (As := [.int x1, .int x2]) (rest := []) C (a_X10_worstOf l K G s.heap (x1) (x2) (bs) hT ga0 (by omega) (by omega) ebs hg_CG hg_TU) yo_X10_worstOf wM_X10_441 ⟨⟨by decide, by decide⟩, by decide, by decide⟩ (x_rv C hT (ci := 10) rfl ga0 rg_112) rfl hl.1 rfl (Nat.le_of_ble_eq_true rfl) dX10_worstBeat_3 hS (AE_sub (fun _ _ => rfl) (by decide) hS.1) (fun vH198 H198 locsH198 pH198 zH198 kH198 hSH198 => ?_)
  obtain ⟨x199, hvH198, bx199, hrH198, hTH198⟩ := pH198
  subst hvH198
  have g200 : CG (avw K H198 a0) := CG.congr (fun k hk j => av_eff hT kH198 ga0 (by decide) (CG_eff [140, 139] (by decide) k hk)) hg_CG
  have g201 : TU (avw K H198 a0) (svw K H198 a0) := TU.congr (fun k hk j => av_eff hT kH198 ga0 (by decide) (TU_eff [140, 139] (by decide) k hk)) (fun k hk => sv_eff hT kH198 ga0 (by decide)) hg_TU
  have m202 := (ebs).trans (fI_kept (x_lt hT kH198 ga0 (by decide))).symm
  refine W.eq (g2 := F0 m 6 ls [.int x199]) rfl ?_
  refine lv_istore_n (lv' := [(3, .int x199), (0, .ref a0), (1, .int x1), (2, .int x2)]) hx hb dX10_worstBeat_6 rfl hl (by decide) rfl (fun ls203 hl204 => ?_)
  refine lv_iload_n hx hb dX10_worstBeat_7 rfl (lv_at hl204 0 rfl) ?_
  refine lv_iconst (v := (-1)) hx hb dX10_worstBeat_8 (by decide) ?_
  refine lv_icmp_ne (tgt := 16) hx hb dX10_worstBeat_9 (by decide) (fun c205 => ?_) (fun c205 => ?_)
  · have k206 := i_ne c205
    refine lv_aload_n hx hb dX10_worstBeat_16 rfl (lv_at hl204 1 rfl) ?_
    refine lv_iload_n hx hb dX10_worstBeat_17 rfl (lv_at hl204 0 rfl) ?_
    refine lv_aload_n hx hb dX10_worstBeat_18 rfl (lv_at hl204 1 rfl) ?_
    refine x_gr C hTH198 (ci := 10) (k := 60) rfl inX10 (by decide) wF_X10_140 ga0 rg_112 rfl dX10_worstBeat_19 (fun q207 eq207 gq207 => ?_)
    refine lv_iload_n hx hb dX10_worstBeat_22 rfl (lv_at hl204 2 rfl) ?_
    refine x_ai C hTH198 gq207 rg_154 ⟨by omega, by show _ < ((20 : Nat) : Int); omega⟩ dX10_worstBeat_23 (fun x208 ex208 bx208 => ?_)
    refine lv_aload_n hx hb dX10_worstBeat_24 rfl (lv_at hl204 1 rfl) ?_
    refine x_gr C hTH198 (ci := 10) (k := 61) rfl inX10 (by decide) wF_X10_143 ga0 rg_112 rfl dX10_worstBeat_25 (fun q209 eq209 gq209 => ?_)
    refine lv_iload_n hx hb dX10_worstBeat_28 rfl (lv_at hl204 2 rfl) ?_
    refine x_ai C hTH198 gq209 rg_155 ⟨by omega, by show _ < ((20 : Nat) : Int); omega⟩ dX10_worstBeat_29 (fun x210 ex210 bx210 => ?_)
    refine lv_iload_n hx hb dX10_worstBeat_30 rfl (lv_at hl204 3 rfl) ?_
    refine x_V (As := [.int x199, .int x208, .int x210, .int x2]) (rest := []) C (a_X10_beatOf l K G H198 (x199) (x208) (x210) (x2) (bs) hTH198 ga0 (by omega) (by omega) m202 g200 g201 (by omega)) yo_X10_beatOf wM_X10_434 ⟨⟨by decide, by decide⟩, by decide, by decide⟩ (x_rv C hTH198 (ci := 10) rfl ga0 rg_112) rfl hl204.1 rfl (Nat.le_of_ble_eq_true rfl) dX10_worstBeat_31 hSH198 (AE_sub (fun _ _ => rfl) (by decide) hSH198.1) (fun vH211 H211 locsH211 pH211 zH211 kH211 hSH211 => ?_)
    obtain ⟨x212, hvH211, hTH211⟩ := pH211
    subst hvH211
    have g213 : CG (avw K H211 a0) := CG.congr (fun k hk j => av_eff hTH198 kH211 ga0 (by decide) (CG_eff [140, 139] (by decide) k hk)) g200
    have g214 : TU (avw K H211 a0) (svw K H211 a0) := TU.congr (fun k hk j => av_eff hTH198 kH211 ga0 (by decide) (TU_eff [140, 139] (by decide) k hk)) (fun k hk => sv_eff hTH198 kH211 ga0 (by decide)) g201
    have m215 := (m202).trans (fI_kept (x_lt hTH198 kH211 ga0 (by decide))).symm
    have m216 := (eq207).trans (fR_kept (x_lt hTH198 kH211 ga0 (by decide))).symm
    have m217 := (ex208).trans (fI_kept (x_lt hTH198 kH211 gq207 (by decide))).symm
    have m218 := (eq209).trans (fR_kept (x_lt hTH198 kH211 ga0 (by decide))).symm
    have m219 := (ex210).trans (fI_kept (x_lt hTH198 kH211 gq209 (by decide))).symm
    refine W.eq (g2 := F0 m 34 ls203 [.int x212]) rfl ?_
    exact J34 ls203 H211 locsH211 (x212) (lv_sub hl204 [] rfl) hTH211 hSH211 m215 g213 g214
  · have k206 := i_eq c205
    refine lv_iconst (v := 0) hx hb dX10_worstBeat_12 (by decide) ?_
    refine lv_goto (tgt := 34) hx hb dX10_worstBeat_13 (by decide) ?_
    exact J34 ls203 H198 locsH198 (0) (lv_sub hl204 [] rfl) hTH198 hSH198 m202 g200 g201

set_option maxHeartbeats 4000000 in
set_option maxRecDepth 100000 in
theorem a_X10_suits (l : Launch) (K : KE) (G : Nat → Option Nat) (H : Heap) {a0 : Nat} (x1 : Int32) (hT : TY K G H) (ga0 : G a0 = some 112) (hx1 : 0 ≤ x1.toInt ∧ x1.toInt ≤ 19) (hg_CG : CG (avw K H a0)) (hg_TU : TU (avw K H a0) (svw K H a0)) : MX l K yX10_suits cX10_suits 2 (some .int) 10 245 0 0 [.ref a0, .int x1] H (AE G [140, 139] H.size) (fun v H1 => ∃ (r : Int32), v = some (.int r) ∧ TY K G H1) := by
  refine MX.of (by decide +kernel) (Nat.le_of_ble_eq_true rfl) ?_
  intro p e s m below meth c ls Q C hH hl hQ
  subst hH
  have C : CX p K s m _ meth c RX10 cX10_suits 2 (some .int) "suits" := C
  obtain ⟨hx, hb, hml, hown, hts, hKT, hr, hlocks, hnm⟩ := id C
  have hl : lv_has ls 2 [(0, .ref a0), (1, .int x1)] := hl
  have hS : va_S (AE G [140, 139] s.heap.size) s.heap s.heap [] := va_S.rf
  have n_0 : (0 : Int32).toInt = 0 := rfl
  have n_1 : (1 : Int32).toInt = 1 := rfl
  have hap : ∀ x y, x < 74 → y < 74 → x ≠ y → K.1.2 10 x ≠ K.1.2 10 y := x_apart hKT hts inX10 tyX10 tyX10_ok nmX10 rfl
  have J20 : ∀ (ls159 : Array Slot) (H158 : Heap) (locsH158 : List Loc) (x161 : Int32), lv_has ls159 2 [] → TY K G H158 → va_S (AE G [140, 139] s.heap.size) s.heap H158 locsH158 → (0 ≤ x161.toInt ∧ x161.toInt ≤ 1) → (CG (avw K H158 a0)) → (TU (avw K H158 a0) (svw K H158 a0)) → W p l e ({ frames := 10, cells := 0, slots := 0, locals := 245 } : Room) s m (([.ref a0, .int x1] : List Value).toArray) below meth c H158 locsH158 0 0 Q (F0 m 20 ls159 [.int x161]) := by
    intro ls159 H158 locsH158 x161 hl160 hTH158 hSH158 bx161 gy162_CG gy162_TU
    exact x_iret C hQ dX10_suits_20 hSH158 (by decide) (by decide) (⟨x161, rfl, hTH158⟩)
  refine lv_aload_n hx hb dX10_suits_0 rfl (lv_at hl 0 rfl) ?_
  refine lv_iload_n hx hb dX10_suits_1 rfl (lv_at hl 1 rfl) ?_
  refine lv_iconst (v := 1) hx hb dX10_suits_2 (by decide) ?_
  obtain ⟨x163, ex163⟩ : ∃ z : Int32, z = fI s.heap a0 (K.1.2 10 1) := ⟨_, rfl⟩
  have bx163 := ty_fi (x := x163) (k := 1) ex163 hT ga0 rg_112 rfl
  refine x_V (As := [.int x1, .int 1]) (rest := []) C (a_X10_worstBeat l K G s.heap (x1) (1) (x163) hT ga0 (by omega) (by decide) ex163 hg_CG hg_TU) yo_X10_worstBeat wM_X10_444 ⟨⟨by decide, by decide⟩, by decide, by decide⟩ (x_rv C hT (ci := 10) rfl ga0 rg_112) rfl hl.1 rfl (Nat.le_of_ble_eq_true rfl) dX10_suits_3 hS (AE_sub (fun _ _ => rfl) (by decide) hS.1) (fun vH164 H164 locsH164 pH164 zH164 kH164 hSH164 => ?_)
  obtain ⟨x165, hvH164, hTH164⟩ := pH164
  subst hvH164
  have g166 : CG (avw K H164 a0) := CG.congr (fun k hk j => av_eff hT kH164 ga0 (by decide) (CG_eff [140, 139] (by decide) k hk)) hg_CG
  have g167 : TU (avw K H164 a0) (svw K H164 a0) := TU.congr (fun k hk j => av_eff hT kH164 ga0 (by decide) (TU_eff [140, 139] (by decide) k hk)) (fun k hk => sv_eff hT kH164 ga0 (by decide)) hg_TU
  have m168 := (ex163).trans (fI_kept (x_lt hT kH164 ga0 (by decide))).symm
  refine W.eq (g2 := F0 m 6 ls [.int x165]) rfl ?_
  refine lv_aload_n hx hb dX10_suits_6 rfl (lv_at hl 0 rfl) ?_
  refine lv_iload_n hx hb dX10_suits_7 rfl (lv_at hl 1 rfl) ?_
  refine lv_iconst (v := 0) hx hb dX10_suits_8 (by decide) ?_
  refine x_V (As := [.int x1, .int 0]) (rest := [.int x165]) C (a_X10_worstBeat l K G H164 (x1) (0) (x163) hTH164 ga0 (by omega) (by decide) m168 g166 g167) yo_X10_worstBeat wM_X10_444 ⟨⟨by decide, by decide⟩, by decide, by decide⟩ (x_rv C hTH164 (ci := 10) rfl ga0 rg_112) rfl hl.1 rfl (Nat.le_of_ble_eq_true rfl) dX10_suits_9 hSH164 (AE_sub (fun _ _ => rfl) (by decide) hSH164.1) (fun vH169 H169 locsH169 pH169 zH169 kH169 hSH169 => ?_)
  obtain ⟨x170, hvH169, hTH169⟩ := pH169
  subst hvH169
  have g171 : CG (avw K H169 a0) := CG.congr (fun k hk j => av_eff hTH164 kH169 ga0 (by decide) (CG_eff [140, 139] (by decide) k hk)) g166
  have g172 : TU (avw K H169 a0) (svw K H169 a0) := TU.congr (fun k hk j => av_eff hTH164 kH169 ga0 (by decide) (TU_eff [140, 139] (by decide) k hk)) (fun k hk => sv_eff hTH164 kH169 ga0 (by decide)) g167
  have m173 := (m168).trans (fI_kept (x_lt hTH164 kH169 ga0 (by decide))).symm
  refine W.eq (g2 := F0 m 12 ls [.int x170, .int x165]) rfl ?_
  refine lv_icmp_ge (tgt := 19) hx hb dX10_suits_12 (by decide) (fun c174 => ?_) (fun c174 => ?_)
  · have k175 := i_le c174
    refine lv_iconst (v := 0) hx hb dX10_suits_19 (by decide) ?_
    exact J20 ls H169 locsH169 (0) (lv_sub hl [] rfl) hTH169 hSH169 (by decide) g171 g172
  · have k175 := i_nle c174
    refine lv_iconst (v := 1) hx hb dX10_suits_15 (by decide) ?_
    refine lv_goto (tgt := 20) hx hb dX10_suits_16 (by decide) ?_
    exact J20 ls H169 locsH169 (1) (lv_sub hl [] rfl) hTH169 hSH169 (by decide) g171 g172

set_option maxHeartbeats 4000000 in
set_option maxRecDepth 100000 in
theorem a_X10_together (l : Launch) (K : KE) (G : Nat → Option Nat) (H : Heap) {a0 : Nat} (x1 : Int32) (hT : TY K G H) (ga0 : G a0 = some 112) (hx1 : 0 ≤ x1.toInt ∧ x1.toInt ≤ 19) (hg_CG : CG (avw K H a0)) : MX l K yX10_together cX10_together 8 (some .int) 7 172 0 0 [.ref a0, .int x1] H (AE G [140, 139] H.size) (fun v H1 => ∃ (r : Int32), v = some (.int r) ∧ TY K G H1) := by
  refine MX.of (by decide +kernel) (Nat.le_of_ble_eq_true rfl) ?_
  intro p e s m below meth c ls Q C hH hl hQ
  subst hH
  have C : CX p K s m _ meth c RX10 cX10_together 8 (some .int) "together" := C
  obtain ⟨hx, hb, hml, hown, hts, hKT, hr, hlocks, hnm⟩ := id C
  have hl : lv_has ls 8 [(0, .ref a0), (1, .int x1)] := hl
  have hS : va_S (AE G [140, 139] s.heap.size) s.heap s.heap [] := va_S.rf
  have n_0 : (0 : Int32).toInt = 0 := rfl
  have n_1 : (1 : Int32).toInt = 1 := rfl
  have n_999999999 : (999999999 : Int32).toInt = 999999999 := rfl
  have l_0 : (0 : Int64).toInt = 0 := rfl
  have l_1000 : (1000 : Int64).toInt = 1000 := rfl
  have l_999999999 : (999999999 : Int64).toInt = 999999999 := rfl
  have hap : ∀ x y, x < 74 → y < 74 → x ≠ y → K.1.2 10 x ≠ K.1.2 10 y := x_apart hKT hts inX10 tyX10 tyX10_ok nmX10 rfl
  have J5 : ∀ (nf : Nat) (ls1195 : Array Slot) (H1194 : Heap) (locsH1194 : List Loc) (y1197 : Int64) (x1198 : Int32), lv_has ls1195 8 [(0, .ref a0), (1, .int x1), (2, .long y1197), (4, .int x1198)] → TY K G H1194 → va_S (AE G [140, 139] s.heap.size) s.heap H1194 locsH1194 → (0 ≤ x1198.toInt ∧ x1198.toInt ≤ 10) → (CG (avw K H1194 a0)) → (10 - x1198.toInt < (nf : Int)) → W p l e ({ frames := 7, cells := 0, slots := 0, locals := 172 } : Room) s m (([.ref a0, .int x1] : List Value).toArray) below meth c H1194 locsH1194 0 0 Q (F0 m 5 ls1195 []) := by
    intro nf
    induction nf with
    | zero =>
      intro ls1195 H1194 locsH1194 y1197 x1198 hl1196 hTH1194 hSH1194 bx1198 gy1199_CG hm5
      exfalso
      omega
    | succ nf ih5 =>
      intro ls1195 H1194 locsH1194 y1197 x1198 hl1196 hTH1194 hSH1194 bx1198 gy1199_CG hm5
      have J155 : ∀ (ls1201 : Array Slot) (H1200 : Heap) (locsH1200 : List Loc) (x1203 : Int32), lv_has ls1201 8 [] → TY K G H1200 → va_S (AE G [140, 139] s.heap.size) s.heap H1200 locsH1200 → (CG (avw K H1200 a0)) → W p l e ({ frames := 7, cells := 0, slots := 0, locals := 172 } : Room) s m (([.ref a0, .int x1] : List Value).toArray) below meth c H1200 locsH1200 0 0 Q (F0 m 155 ls1201 [.int x1203]) := by
        intro ls1201 H1200 locsH1200 x1203 hl1202 hTH1200 hSH1200 gy1204_CG
        exact x_iret C hQ dX10_together_155 hSH1200 (by decide) (by decide) (⟨x1203, rfl, hTH1200⟩)
      have J20 : ∀ (nf : Nat) (ls1206 : Array Slot) (H1205 : Heap) (locsH1205 : List Loc) (y1208 : Int64) (x1210 : Int32), lv_has ls1206 8 [(0, .ref a0), (1, .int x1), (2, .long y1208), (4, .int x1198), (5, .int x1210)] → TY K G H1205 → va_S (AE G [140, 139] s.heap.size) s.heap H1205 locsH1205 → (0 ≤ x1198.toInt ∧ x1198.toInt ≤ 9) → (1 ≤ x1210.toInt ∧ x1210.toInt ≤ 10) → (CG (avw K H1205 a0)) → (10 - x1210.toInt < (nf : Int)) → W p l e ({ frames := 7, cells := 0, slots := 0, locals := 172 } : Room) s m (([.ref a0, .int x1] : List Value).toArray) below meth c H1205 locsH1205 0 0 Q (F0 m 20 ls1206 []) := by
        intro nf
        induction nf with
        | zero =>
          intro ls1206 H1205 locsH1205 y1208 x1210 hl1207 hTH1205 hSH1205 b1209 bx1210 gy1211_CG hm20
          exfalso
          omega
        | succ nf ih20 =>
          intro ls1206 H1205 locsH1205 y1208 x1210 hl1207 hTH1205 hSH1205 b1209 bx1210 gy1211_CG hm20
          have J111 : ∀ (ls1213 : Array Slot) (H1212 : Heap) (locsH1212 : List Loc) (y1216 : Int64), lv_has ls1213 8 [(0, .ref a0), (1, .int x1), (2, .long y1208), (4, .int x1198), (5, .int x1210)] → TY K G H1212 → va_S (AE G [140, 139] s.heap.size) s.heap H1212 locsH1212 → (1 ≤ x1210.toInt ∧ x1210.toInt ≤ 9) → (CG (avw K H1212 a0)) → W p l e ({ frames := 7, cells := 0, slots := 0, locals := 172 } : Room) s m (([.ref a0, .int x1] : List Value).toArray) below meth c H1212 locsH1212 0 0 Q (F0 m 111 ls1213 [.long y1216]) := by
            intro ls1213 H1212 locsH1212 y1216 hl1214 hTH1212 hSH1212 b1215 gy1217_CG
            have J126 : ∀ (ls1219 : Array Slot) (H1218 : Heap) (locsH1218 : List Loc) (y1221 : Int64), lv_has ls1219 8 [(0, .ref a0), (1, .int x1), (4, .int x1198), (5, .int x1210)] → TY K G H1218 → va_S (AE G [140, 139] s.heap.size) s.heap H1218 locsH1218 → (CG (avw K H1218 a0)) → W p l e ({ frames := 7, cells := 0, slots := 0, locals := 172 } : Room) s m (([.ref a0, .int x1] : List Value).toArray) below meth c H1218 locsH1218 0 0 Q (F0 m 126 ls1219 [.long y1221]) := by
              intro ls1219 H1218 locsH1218 y1221 hl1220 hTH1218 hSH1218 gy1222_CG
              refine lv_lstore_n (lv' := [(2, .long y1221), (0, .ref a0), (1, .int x1), (4, .int x1198), (5, .int x1210)]) hx hb dX10_together_126 rfl hl1220 (by decide) rfl (fun ls1223 hl1224 => ?_)
              obtain ⟨x1225, ex1225⟩ : ∃ y : Int32, y = x1210 + 1 := ⟨_, rfl⟩
              have tx1225 := i_add ex1225 (by omega)
              refine lv_iinc (v := x1225) (lv' := [(5, .int x1225), (2, .long y1221), (0, .ref a0), (1, .int x1), (4, .int x1198)]) hx hb dX10_together_127 hl1224 (k := 4) rfl (by rw [ex1225]; rfl) (by decide) rfl (fun ls1226 hl1227 => ?_)
              refine lv_goto (tgt := 20) hx hb dX10_together_130 (by decide) ?_
              exact ih20 ls1226 H1218 locsH1218 (y1221) (x1225) (lv_sub hl1227 [2, 3, 1, 4, 0] rfl) hTH1218 hSH1218 (by have := i_rng x1198; omega) (by have := i_rng x1225; omega) gy1222_CG (by omega)
            refine lv_lstore (lv' := [(6, .long y1216), (0, .ref a0), (1, .int x1), (2, .long y1208), (4, .int x1198), (5, .int x1210)]) hx hb dX10_together_111 hl1214 (by decide) rfl (fun ls1228 hl1229 => ?_)
            refine lv_lload hx hb dX10_together_113 (lv_at hl1229 0 rfl) ?_
            refine lv_lload_n hx hb dX10_together_115 rfl (lv_at hl1229 3 rfl) ?_
            refine W.lcmp hx hb dX10_together_116 ?_
            refine lv_topi (fun x1230 ex1230 => ?_)
            have tx1230 := j_cmp ex1230
            refine lv_if_le (tgt := 125) hx hb dX10_together_117 (by decide) (fun c1231 => ?_) (fun c1231 => ?_)
            · have k1232 := i_le c1231
              refine lv_lload_n hx hb dX10_together_125 rfl (lv_at hl1229 3 rfl) ?_
              exact J126 ls1228 H1212 locsH1212 (y1208) (lv_sub hl1229 [1, 2, 4, 5] rfl) hTH1212 hSH1212 gy1217_CG
            · have k1232 := i_nle c1231
              refine lv_lload hx hb dX10_together_120 (lv_at hl1229 0 rfl) ?_
              refine lv_goto (tgt := 126) hx hb dX10_together_122 (by decide) ?_
              exact J126 ls1228 H1212 locsH1212 (y1216) (lv_sub hl1229 [1, 2, 4, 5] rfl) hTH1212 hSH1212 gy1217_CG
          refine lv_iload hx hb dX10_together_20 (lv_at hl1207 4 rfl) ?_
          refine lv_aload_n hx hb dX10_together_22 rfl (lv_at hl1207 0 rfl) ?_
          refine x_gi C hTH1205 (ci := 10) (k := 1) rfl inX10 (by decide) wF_X10_170 ga0 rg_112 rfl dX10_together_23 (fun x1233 ex1233 bx1233 => ?_)
          refine lv_icmp_ge (tgt := 133) hx hb dX10_together_26 (by decide) (fun c1234 => ?_) (fun c1234 => ?_)
          · have k1235 := i_le c1234
            obtain ⟨x1236, ex1236⟩ : ∃ y : Int32, y = x1198 + 1 := ⟨_, rfl⟩
            have tx1236 := i_add ex1236 (by omega)
            refine lv_iinc (v := x1236) (lv' := [(4, .int x1236), (0, .ref a0), (1, .int x1), (2, .long y1208), (5, .int x1210)]) hx hb dX10_together_133 hl1207 (k := 3) rfl (by rw [ex1236]; rfl) (by decide) rfl (fun ls1237 hl1238 => ?_)
            refine lv_goto (tgt := 5) hx hb dX10_together_136 (by decide) ?_
            exact ih5 ls1237 H1205 locsH1205 (y1208) (x1236) (lv_sub hl1238 [1, 2, 3, 0] rfl) hTH1205 hSH1205 (by have := i_rng x1236; omega) gy1211_CG (by omega)
          · have k1235 := i_nle c1234
            refine lv_aload_n hx hb dX10_together_29 rfl (lv_at hl1207 0 rfl) ?_
            refine lv_iload hx hb dX10_together_30 (lv_at hl1207 3 rfl) ?_
            refine lv_aload_n hx hb dX10_together_32 rfl (lv_at hl1207 0 rfl) ?_
            refine x_gr C hTH1205 (ci := 10) (k := 60) rfl inX10 (by decide) wF_X10_140 ga0 rg_112 rfl dX10_together_33 (fun q1239 eq1239 gq1239 => ?_)
            refine lv_iload_n hx hb dX10_together_36 rfl (lv_at hl1207 1 rfl) ?_
            refine x_ai C hTH1205 gq1239 rg_154 ⟨by omega, by show _ < ((20 : Nat) : Int); omega⟩ dX10_together_37 (fun x1240 ex1240 bx1240 => ?_)
            refine lv_aload_n hx hb dX10_together_38 rfl (lv_at hl1207 0 rfl) ?_
            refine x_gr C hTH1205 (ci := 10) (k := 61) rfl inX10 (by decide) wF_X10_143 ga0 rg_112 rfl dX10_together_39 (fun q1241 eq1241 gq1241 => ?_)
            refine lv_iload_n hx hb dX10_together_42 rfl (lv_at hl1207 1 rfl) ?_
            refine x_ai C hTH1205 gq1241 rg_155 ⟨by omega, by show _ < ((20 : Nat) : Int); omega⟩ dX10_together_43 (fun x1242 ex1242 bx1242 => ?_)
            refine x_V (As := [.int x1198, .int x1240, .int x1242]) (rest := []) C (a_X10_drifted l K G H1205 (x1198) (x1240) (x1242) hTH1205 ga0 (by omega) gy1211_CG) yo_X10_drifted wM_X10_425 ⟨⟨by decide, by decide⟩, by decide, by decide⟩ (x_rv C hTH1205 (ci := 10) rfl ga0 rg_112) rfl hl1207.1 rfl (Nat.le_of_ble_eq_true rfl) dX10_together_44 hSH1205 (AE_sub (fun _ _ => rfl) (by decide) hSH1205.1) (fun vH1243 H1243 locsH1243 pH1243 zH1243 kH1243 hSH1243 => ?_)
            obtain ⟨x1244, hvH1243, hTH1243⟩ := pH1243
            subst hvH1243
            have g1245 : CG (avw K H1243 a0) := CG.congr (fun k hk j => av_eff hTH1205 kH1243 ga0 (by decide) (CG_eff [140, 139] (by decide) k hk)) gy1211_CG
            have m1246 := (ex1233).trans (fI_kept (x_lt hTH1205 kH1243 ga0 (by decide))).symm
            have m1247 := (eq1239).trans (fR_kept (x_lt hTH1205 kH1243 ga0 (by decide))).symm
            have m1248 := (ex1240).trans (fI_kept (x_lt hTH1205 kH1243 gq1239 (by decide))).symm
            have m1249 := (eq1241).trans (fR_kept (x_lt hTH1205 kH1243 ga0 (by decide))).symm
            have m1250 := (ex1242).trans (fI_kept (x_lt hTH1205 kH1243 gq1241 (by decide))).symm
            refine W.eq (g2 := F0 m 47 ls1206 [.int x1244]) rfl ?_
            obtain ⟨y1251, ey1251⟩ : ∃ z : Int64, x1244.toInt64 = z := ⟨_, rfl⟩
            have ty1251 := j_i2l ey1251
            have ry1251 := i_rng x1244
            refine lv_i2l (v := y1251) hx hb dX10_together_47 ey1251 ?_
            refine lv_aload_n hx hb dX10_together_48 rfl (lv_at hl1207 0 rfl) ?_
            refine lv_iload hx hb dX10_together_49 (lv_at hl1207 4 rfl) ?_
            refine lv_iconst (v := 0) hx hb dX10_together_51 (by decide) ?_
            refine x_V (As := [.int x1210, .int 0]) (rest := [.long y1251]) C (a_X10_toneNow l K G H1243 (x1210) (0) hTH1243 ga0 (by omega) g1245) yo_X10_toneNow wM_X10_335 ⟨⟨by decide, by decide⟩, by decide, by decide⟩ (x_rv C hTH1243 (ci := 10) rfl ga0 rg_112) rfl hl1207.1 rfl (Nat.le_of_ble_eq_true rfl) dX10_together_52 hSH1243 (AE_sub (fun _ _ => rfl) (by decide) hSH1243.1) (fun vH1252 H1252 locsH1252 pH1252 zH1252 kH1252 hSH1252 => ?_)
            obtain ⟨x1253, hvH1252, hTH1252⟩ := pH1252
            subst hvH1252
            have g1254 : CG (avw K H1252 a0) := CG.congr (fun k hk j => av_eff hTH1243 kH1252 ga0 (by decide) (CG_eff [140, 139] (by decide) k hk)) g1245
            have m1255 := (m1246).trans (fI_kept (x_lt hTH1243 kH1252 ga0 (by decide))).symm
            have m1256 := (m1247).trans (fR_kept (x_lt hTH1243 kH1252 ga0 (by decide))).symm
            have m1257 := (m1248).trans (fI_kept (x_lt hTH1243 kH1252 gq1239 (by decide))).symm
            have m1258 := (m1249).trans (fR_kept (x_lt hTH1243 kH1252 ga0 (by decide))).symm
            have m1259 := (m1250).trans (fI_kept (x_lt hTH1243 kH1252 gq1241 (by decide))).symm
            refine W.eq (g2 := F0 m 55 ls1206 [.int x1253, .long y1251]) rfl ?_
            obtain ⟨y1260, ey1260⟩ : ∃ z : Int64, x1253.toInt64 = z := ⟨_, rfl⟩
            have ty1260 := j_i2l ey1260
            have ry1260 := i_rng x1253
            refine lv_i2l (v := y1260) hx hb dX10_together_55 ey1260 ?_
            refine lv_lmul hx hb dX10_together_56 ?_
            refine lv_topl (fun y1261 ey1261 => ?_)
            refine lv_aload_n hx hb dX10_together_57 rfl (lv_at hl1207 0 rfl) ?_
            refine lv_iload hx hb dX10_together_58 (lv_at hl1207 4 rfl) ?_
            refine lv_aload_n hx hb dX10_together_60 rfl (lv_at hl1207 0 rfl) ?_
            refine x_gr C hTH1252 (ci := 10) (k := 60) rfl inX10 (by decide) wF_X10_140 ga0 rg_112 rfl dX10_together_61 (fun q1262 eq1262 gq1262 => ?_)
            have uq1262 : q1239 = q1262 := (m1256).trans eq1262.symm
            subst uq1262
            refine lv_iload_n hx hb dX10_together_64 rfl (lv_at hl1207 1 rfl) ?_
            refine x_ai C hTH1252 gq1239 rg_154 ⟨by omega, by show _ < ((20 : Nat) : Int); omega⟩ dX10_together_65 (fun x1263 ex1263 bx1263 => ?_)
            have ux1263 : x1240 = x1263 := (m1257).trans ex1263.symm
            subst ux1263
            refine lv_aload_n hx hb dX10_together_66 rfl (lv_at hl1207 0 rfl) ?_
            refine x_gr C hTH1252 (ci := 10) (k := 61) rfl inX10 (by decide) wF_X10_143 ga0 rg_112 rfl dX10_together_67 (fun q1264 eq1264 gq1264 => ?_)
            have uq1264 : q1241 = q1264 := (m1258).trans eq1264.symm
            subst uq1264
            refine lv_iload_n hx hb dX10_together_70 rfl (lv_at hl1207 1 rfl) ?_
            refine x_ai C hTH1252 gq1241 rg_155 ⟨by omega, by show _ < ((20 : Nat) : Int); omega⟩ dX10_together_71 (fun x1265 ex1265 bx1265 => ?_)
            have ux1265 : x1242 = x1265 := (m1259).trans ex1265.symm
            subst ux1265
            refine x_V (As := [.int x1210, .int x1240, .int x1242]) (rest := [.long y1261]) C (a_X10_drifted l K G H1252 (x1210) (x1240) (x1242) hTH1252 ga0 (by omega) g1254) yo_X10_drifted wM_X10_425 ⟨⟨by decide, by decide⟩, by decide, by decide⟩ (x_rv C hTH1252 (ci := 10) rfl ga0 rg_112) rfl hl1207.1 rfl (Nat.le_of_ble_eq_true rfl) dX10_together_72 hSH1252 (AE_sub (fun _ _ => rfl) (by decide) hSH1252.1) (fun vH1266 H1266 locsH1266 pH1266 zH1266 kH1266 hSH1266 => ?_)
            obtain ⟨x1267, hvH1266, hTH1266⟩ := pH1266
            subst hvH1266
            have g1268 : CG (avw K H1266 a0) := CG.congr (fun k hk j => av_eff hTH1252 kH1266 ga0 (by decide) (CG_eff [140, 139] (by decide) k hk)) g1254
            have m1269 := (m1255).trans (fI_kept (x_lt hTH1252 kH1266 ga0 (by decide))).symm
            have m1270 := (m1256).trans (fR_kept (x_lt hTH1252 kH1266 ga0 (by decide))).symm
            have m1271 := (m1257).trans (fI_kept (x_lt hTH1252 kH1266 gq1239 (by decide))).symm
            have m1272 := (m1258).trans (fR_kept (x_lt hTH1252 kH1266 ga0 (by decide))).symm
            have m1273 := (m1259).trans (fI_kept (x_lt hTH1252 kH1266 gq1241 (by decide))).symm
            refine W.eq (g2 := F0 m 75 ls1206 [.int x1267, .long y1261]) rfl ?_
            obtain ⟨y1274, ey1274⟩ : ∃ z : Int64, x1267.toInt64 = z := ⟨_, rfl⟩
            have ty1274 := j_i2l ey1274
            have ry1274 := i_rng x1267
            refine lv_i2l (v := y1274) hx hb dX10_together_75 ey1274 ?_
            refine lv_aload_n hx hb dX10_together_76 rfl (lv_at hl1207 0 rfl) ?_
            refine lv_iload hx hb dX10_together_77 (lv_at hl1207 3 rfl) ?_
            refine lv_iconst (v := 0) hx hb dX10_together_79 (by decide) ?_
            refine x_V (As := [.int x1198, .int 0]) (rest := [.long y1274, .long y1261]) C (a_X10_toneNow l K G H1266 (x1198) (0) hTH1266 ga0 (by omega) g1268) yo_X10_toneNow wM_X10_335 ⟨⟨by decide, by decide⟩, by decide, by decide⟩ (x_rv C hTH1266 (ci := 10) rfl ga0 rg_112) rfl hl1207.1 rfl (Nat.le_of_ble_eq_true rfl) dX10_together_80 hSH1266 (AE_sub (fun _ _ => rfl) (by decide) hSH1266.1) (fun vH1275 H1275 locsH1275 pH1275 zH1275 kH1275 hSH1275 => ?_)
            obtain ⟨x1276, hvH1275, hTH1275⟩ := pH1275
            subst hvH1275
            have g1277 : CG (avw K H1275 a0) := CG.congr (fun k hk j => av_eff hTH1266 kH1275 ga0 (by decide) (CG_eff [140, 139] (by decide) k hk)) g1268
            have m1278 := (m1269).trans (fI_kept (x_lt hTH1266 kH1275 ga0 (by decide))).symm
            have m1279 := (m1270).trans (fR_kept (x_lt hTH1266 kH1275 ga0 (by decide))).symm
            have m1280 := (m1271).trans (fI_kept (x_lt hTH1266 kH1275 gq1239 (by decide))).symm
            have m1281 := (m1272).trans (fR_kept (x_lt hTH1266 kH1275 ga0 (by decide))).symm
            have m1282 := (m1273).trans (fI_kept (x_lt hTH1266 kH1275 gq1241 (by decide))).symm
            refine W.eq (g2 := F0 m 83 ls1206 [.int x1276, .long y1274, .long y1261]) rfl ?_
            obtain ⟨y1283, ey1283⟩ : ∃ z : Int64, x1276.toInt64 = z := ⟨_, rfl⟩
            have ty1283 := j_i2l ey1283
            have ry1283 := i_rng x1276
            refine lv_i2l (v := y1283) hx hb dX10_together_83 ey1283 ?_
            refine lv_lmul hx hb dX10_together_84 ?_
            refine lv_topl (fun y1284 ey1284 => ?_)
            refine lv_lsub hx hb dX10_together_85 ?_
            refine lv_topl (fun y1285 ey1285 => ?_)
            refine lv_lstore (lv' := [(6, .long y1285), (0, .ref a0), (1, .int x1), (2, .long y1208), (4, .int x1198), (5, .int x1210)]) hx hb dX10_together_86 hl1207 (by decide) rfl (fun ls1286 hl1287 => ?_)
            refine lv_lload hx hb dX10_together_88 (lv_at hl1287 0 rfl) ?_
            refine lv_lconst (v := 0) hx hb dX10_together_90 (by decide) ?_
            refine W.lcmp hx hb dX10_together_91 ?_
            refine lv_topi (fun x1288 ex1288 => ?_)
            have tx1288 := j_cmp ex1288
            refine lv_if_ge (tgt := 105) hx hb dX10_together_92 (by decide) (fun c1289 => ?_) (fun c1289 => ?_)
            · have k1290 := i_le c1289
              refine lv_lload hx hb dX10_together_105 (lv_at hl1287 0 rfl) ?_
              refine lv_ldc2 (v := 1000) hx hb hown (hts _ wK_X10_447) dX10_together_107 ?_
              refine lv_ldiv hx hb dX10_together_110 (by decide) ?_
              refine lv_topl (fun y1291 ey1291 => ?_)
              exact J111 ls1286 H1275 locsH1275 (y1291) (lv_sub hl1287 [1, 2, 3, 4, 5] rfl) hTH1275 hSH1275 (by have := i_rng x1210; omega) g1277
            · have k1290 := i_nle c1289
              refine lv_lload hx hb dX10_together_95 (lv_at hl1287 0 rfl) ?_
              refine lv_lneg hx hb dX10_together_97 ?_
              refine lv_topl (fun y1292 ey1292 => ?_)
              refine lv_ldc2 (v := 1000) hx hb hown (hts _ wK_X10_447) dX10_together_98 ?_
              refine lv_ldiv hx hb dX10_together_101 (by decide) ?_
              refine lv_topl (fun y1293 ey1293 => ?_)
              refine lv_goto (tgt := 111) hx hb dX10_together_102 (by decide) ?_
              exact J111 ls1286 H1275 locsH1275 (y1293) (lv_sub hl1287 [1, 2, 3, 4, 5] rfl) hTH1275 hSH1275 (by have := i_rng x1210; omega) g1277
      refine lv_iload hx hb dX10_together_5 (lv_at hl1196 3 rfl) ?_
      refine lv_aload_n hx hb dX10_together_7 rfl (lv_at hl1196 0 rfl) ?_
      refine x_gi C hTH1194 (ci := 10) (k := 1) rfl inX10 (by decide) wF_X10_170 ga0 rg_112 rfl dX10_together_8 (fun x1294 ex1294 bx1294 => ?_)
      refine lv_icmp_ge (tgt := 139) hx hb dX10_together_11 (by decide) (fun c1295 => ?_) (fun c1295 => ?_)
      · have k1296 := i_le c1295
        refine lv_lload_n hx hb dX10_together_139 rfl (lv_at hl1196 2 rfl) ?_
        refine lv_ldc2 (v := 999999999) hx hb hown (hts _ wK_X10_396) dX10_together_140 ?_
        refine W.lcmp hx hb dX10_together_143 ?_
        refine lv_topi (fun x1297 ex1297 => ?_)
        have tx1297 := j_cmp ex1297
        refine lv_if_le (tgt := 153) hx hb dX10_together_144 (by decide) (fun c1298 => ?_) (fun c1298 => ?_)
        · have k1299 := i_le c1298
          refine lv_lload_n hx hb dX10_together_153 rfl (lv_at hl1196 2 rfl) ?_
          obtain ⟨x1300, ex1300⟩ : ∃ z : Int32, (y1197 : Int64).toInt32 = z := ⟨_, rfl⟩
          refine lv_l2i (v := x1300) hx hb dX10_together_154 ex1300 ?_
          exact J155 ls1195 H1194 locsH1194 (x1300) (lv_sub hl1196 [] rfl) hTH1194 hSH1194 gy1199_CG
        · have k1299 := i_nle c1298
          refine lv_ldcw (v := 999999999) hx hb hown (hts _ wK_X10_398) dX10_together_147 ?_
          refine lv_goto (tgt := 155) hx hb dX10_together_150 (by decide) ?_
          exact J155 ls1195 H1194 locsH1194 (999999999) (lv_sub hl1196 [] rfl) hTH1194 hSH1194 gy1199_CG
      · have k1296 := i_nle c1295
        refine lv_iload hx hb dX10_together_14 (lv_at hl1196 3 rfl) ?_
        refine lv_iconst (v := 1) hx hb dX10_together_16 (by decide) ?_
        refine lv_iadd hx hb dX10_together_17 ?_
        refine lv_topi (fun x1301 ex1301 => ?_)
        have tx1301 := i_add ex1301 (by omega)
        refine lv_istore (lv' := [(5, .int x1301), (0, .ref a0), (1, .int x1), (2, .long y1197), (4, .int x1198)]) hx hb dX10_together_18 hl1196 (by decide) rfl (fun ls1302 hl1303 => ?_)
        exact J20 ((10 - x1301.toInt).toNat + 1) ls1302 H1194 locsH1194 (y1197) (x1301) (lv_sub hl1303 [1, 2, 3, 4, 0] rfl) hTH1194 hSH1194 (by have := i_rng x1198; omega) (by have := i_rng x1301; omega) gy1199_CG (by omega)
  refine lv_lconst (v := 0) hx hb dX10_together_0 (by decide) ?_
  refine lv_lstore_n (lv' := [(2, .long 0), (0, .ref a0), (1, .int x1)]) hx hb dX10_together_1 rfl hl (by decide) rfl (fun ls1304 hl1305 => ?_)
  refine lv_iconst (v := 0) hx hb dX10_together_2 (by decide) ?_
  refine lv_istore (lv' := [(4, .int 0), (2, .long 0), (0, .ref a0), (1, .int x1)]) hx hb dX10_together_3 hl1305 (by decide) rfl (fun ls1306 hl1307 => ?_)
  exact J5 ((10 - (0 : Int32).toInt).toNat + 1) ls1306 s.heap [] (0) (0) (lv_sub hl1307 [2, 3, 1, 0] rfl) hT hS (by decide) hg_CG (by omega)
