
set_option maxHeartbeats 4000000 in
set_option maxRecDepth 100000 in
theorem a_X4_isLetter_e (l : Launch) (K : KE) (G : Nat → Option Nat) (H : Heap) (x0 : Int32) (hT : TY K G H)  : MX l K yX4_isLetter cX4_isLetter 1 (some .boolean) 0 0 0 0 [.int x0] H (AE G [] H.size) (fun v H1 => ∃ (r : Int32), v = some (.int r) ∧ (0 ≤ r.toInt ∧ r.toInt ≤ 1) ∧ ((r.toInt = 1 ∧ ((97 ≤ x0.toInt ∧ x0.toInt ≤ 122) ∨ (65 ≤ x0.toInt ∧ x0.toInt ≤ 90))) ∨ (r.toInt = 0 ∧ ((x0.toInt < 97 ∨ 122 < x0.toInt) ∧ (x0.toInt < 65 ∨ 90 < x0.toInt)))) ∧ TY K G H1) := by
  refine MX.of (by decide +kernel) (Nat.le_of_ble_eq_true rfl) ?_
  intro p e s m below meth c ls Q C hH hl hQ
  subst hH
  have C : CX p K s m _ meth c RX4 cX4_isLetter 1 (some .boolean) "isLetter" := C
  obtain ⟨hx, hb, hml, hown, hts, hKT, hr, hlocks, hnm⟩ := id C
  have hl : lv_has ls 1 [(0, .int x0)] := hl
  have hS : va_S (AE G [] s.heap.size) s.heap s.heap [] := va_S.rf
  have n_0 : (0 : Int32).toInt = 0 := rfl
  have n_1 : (1 : Int32).toInt = 1 := rfl
  have n_65 : (65 : Int32).toInt = 65 := rfl
  have n_90 : (90 : Int32).toInt = 90 := rfl
  have n_97 : (97 : Int32).toInt = 97 := rfl
  have n_122 : (122 : Int32).toInt = 122 := rfl
  refine lv_iload_n hx hb dX4_isLetter_0 rfl (lv_at hl 0 rfl) ?_
  refine lv_bipush (v := 97) hx hb dX4_isLetter_1 (by decide) ?_
  refine lv_icmp_lt (tgt := 12) hx hb dX4_isLetter_3 (by decide) (fun c149 => ?_) (fun c149 => ?_)
  · have k150 := i_lt c149
    refine lv_iload_n hx hb dX4_isLetter_12 rfl (lv_at hl 0 rfl) ?_
    refine lv_bipush (v := 65) hx hb dX4_isLetter_13 (by decide) ?_
    refine lv_icmp_lt (tgt := 28) hx hb dX4_isLetter_15 (by decide) (fun c151 => ?_) (fun c151 => ?_)
    · have k152 := i_lt c151
      refine lv_iconst (v := 0) hx hb dX4_isLetter_28 (by decide) ?_
      exact x_zret C hQ (Or.inl rfl) dX4_isLetter_29 hS (by decide) (by decide) (⟨0, rfl, by decide, by omega, hT⟩)
    · have k152 := i_nlt c151
      refine lv_iload_n hx hb dX4_isLetter_18 rfl (lv_at hl 0 rfl) ?_
      refine lv_bipush (v := 90) hx hb dX4_isLetter_19 (by decide) ?_
      refine lv_icmp_gt (tgt := 28) hx hb dX4_isLetter_21 (by decide) (fun c153 => ?_) (fun c153 => ?_)
      · have k154 := i_lt c153
        refine lv_iconst (v := 0) hx hb dX4_isLetter_28 (by decide) ?_
        exact x_zret C hQ (Or.inl rfl) dX4_isLetter_29 hS (by decide) (by decide) (⟨0, rfl, by decide, by omega, hT⟩)
      · have k154 := i_nlt c153
        refine lv_iconst (v := 1) hx hb dX4_isLetter_24 (by decide) ?_
        refine lv_goto (tgt := 29) hx hb dX4_isLetter_25 (by decide) ?_
        exact x_zret C hQ (Or.inr rfl) dX4_isLetter_29 hS (by decide) (by decide) (⟨1, rfl, by decide, by omega, hT⟩)
  · have k150 := i_nlt c149
    refine lv_iload_n hx hb dX4_isLetter_6 rfl (lv_at hl 0 rfl) ?_
    refine lv_bipush (v := 122) hx hb dX4_isLetter_7 (by decide) ?_
    refine lv_icmp_le (tgt := 24) hx hb dX4_isLetter_9 (by decide) (fun c155 => ?_) (fun c155 => ?_)
    · have k156 := i_le c155
      refine lv_iconst (v := 1) hx hb dX4_isLetter_24 (by decide) ?_
      refine lv_goto (tgt := 29) hx hb dX4_isLetter_25 (by decide) ?_
      exact x_zret C hQ (Or.inr rfl) dX4_isLetter_29 hS (by decide) (by decide) (⟨1, rfl, by decide, by omega, hT⟩)
    · have k156 := i_nle c155
      refine lv_iload_n hx hb dX4_isLetter_12 rfl (lv_at hl 0 rfl) ?_
      refine lv_bipush (v := 65) hx hb dX4_isLetter_13 (by decide) ?_
      refine lv_icmp_lt (tgt := 28) hx hb dX4_isLetter_15 (by decide) (fun c157 => ?_) (fun c157 => ?_)
      · have k158 := i_lt c157
        exfalso
        omega
      · have k158 := i_nlt c157
        refine lv_iload_n hx hb dX4_isLetter_18 rfl (lv_at hl 0 rfl) ?_
        refine lv_bipush (v := 90) hx hb dX4_isLetter_19 (by decide) ?_
        refine lv_icmp_gt (tgt := 28) hx hb dX4_isLetter_21 (by decide) (fun c159 => ?_) (fun c159 => ?_)
        · have k160 := i_lt c159
          refine lv_iconst (v := 0) hx hb dX4_isLetter_28 (by decide) ?_
          exact x_zret C hQ (Or.inl rfl) dX4_isLetter_29 hS (by decide) (by decide) (⟨0, rfl, by decide, by omega, hT⟩)
        · have k160 := i_nlt c159
          exfalso
          omega

set_option maxHeartbeats 4000000 in
set_option maxRecDepth 100000 in
theorem a_X4_isDigit_e (l : Launch) (K : KE) (G : Nat → Option Nat) (H : Heap) (x0 : Int32) (hT : TY K G H)  : MX l K yX4_isDigit cX4_isDigit 1 (some .boolean) 0 0 0 0 [.int x0] H (AE G [] H.size) (fun v H1 => ∃ (r : Int32), v = some (.int r) ∧ (0 ≤ r.toInt ∧ r.toInt ≤ 1) ∧ ((r.toInt = 1 ∧ 48 ≤ x0.toInt ∧ x0.toInt ≤ 57) ∨ (r.toInt = 0 ∧ (x0.toInt < 48 ∨ 57 < x0.toInt))) ∧ TY K G H1) := by
  refine MX.of (by decide +kernel) (Nat.le_of_ble_eq_true rfl) ?_
  intro p e s m below meth c ls Q C hH hl hQ
  subst hH
  have C : CX p K s m _ meth c RX4 cX4_isDigit 1 (some .boolean) "isDigit" := C
  obtain ⟨hx, hb, hml, hown, hts, hKT, hr, hlocks, hnm⟩ := id C
  have hl : lv_has ls 1 [(0, .int x0)] := hl
  have hS : va_S (AE G [] s.heap.size) s.heap s.heap [] := va_S.rf
  have n_0 : (0 : Int32).toInt = 0 := rfl
  have n_1 : (1 : Int32).toInt = 1 := rfl
  have n_48 : (48 : Int32).toInt = 48 := rfl
  have n_57 : (57 : Int32).toInt = 57 := rfl
  refine lv_iload_n hx hb dX4_isDigit_0 rfl (lv_at hl 0 rfl) ?_
  refine lv_bipush (v := 48) hx hb dX4_isDigit_1 (by decide) ?_
  refine lv_icmp_lt (tgt := 16) hx hb dX4_isDigit_3 (by decide) (fun c117 => ?_) (fun c117 => ?_)
  · have k118 := i_lt c117
    refine lv_iconst (v := 0) hx hb dX4_isDigit_16 (by decide) ?_
    exact x_zret C hQ (Or.inl rfl) dX4_isDigit_17 hS (by decide) (by decide) (⟨0, rfl, by decide, by omega, hT⟩)
  · have k118 := i_nlt c117
    refine lv_iload_n hx hb dX4_isDigit_6 rfl (lv_at hl 0 rfl) ?_
    refine lv_bipush (v := 57) hx hb dX4_isDigit_7 (by decide) ?_
    refine lv_icmp_gt (tgt := 16) hx hb dX4_isDigit_9 (by decide) (fun c119 => ?_) (fun c119 => ?_)
    · have k120 := i_lt c119
      refine lv_iconst (v := 0) hx hb dX4_isDigit_16 (by decide) ?_
      exact x_zret C hQ (Or.inl rfl) dX4_isDigit_17 hS (by decide) (by decide) (⟨0, rfl, by decide, by omega, hT⟩)
    · have k120 := i_nlt c119
      refine lv_iconst (v := 1) hx hb dX4_isDigit_12 (by decide) ?_
      refine lv_goto (tgt := 17) hx hb dX4_isDigit_13 (by decide) ?_
      exact x_zret C hQ (Or.inr rfl) dX4_isDigit_17 hS (by decide) (by decide) (⟨1, rfl, by decide, by omega, hT⟩)

set_option maxHeartbeats 4000000 in
set_option maxRecDepth 100000 in
theorem a_X4_isSign_e (l : Launch) (K : KE) (G : Nat → Option Nat) (H : Heap) (x0 : Int32) (hT : TY K G H)  : MX l K yX4_isSign cX4_isSign 1 (some .boolean) 0 0 0 0 [.int x0] H (AE G [] H.size) (fun v H1 => ∃ (r : Int32), v = some (.int r) ∧ (0 ≤ r.toInt ∧ r.toInt ≤ 1) ∧ ((r.toInt = 1 ∧ ((40 ≤ x0.toInt ∧ x0.toInt ≤ 43) ∨ x0.toInt = 45 ∨ x0.toInt = 47 ∨ (59 ≤ x0.toInt ∧ x0.toInt ≤ 62))) ∨ (r.toInt = 0 ∧ ((x0.toInt < 40 ∨ 43 < x0.toInt) ∧ x0.toInt ≠ 45 ∧ x0.toInt ≠ 47 ∧ (x0.toInt < 59 ∨ 62 < x0.toInt)))) ∧ TY K G H1) := by
  refine MX.of (by decide +kernel) (Nat.le_of_ble_eq_true rfl) ?_
  intro p e s m below meth c ls Q C hH hl hQ
  subst hH
  have C : CX p K s m _ meth c RX4 cX4_isSign 1 (some .boolean) "isSign" := C
  obtain ⟨hx, hb, hml, hown, hts, hKT, hr, hlocks, hnm⟩ := id C
  have hl : lv_has ls 1 [(0, .int x0)] := hl
  have hS : va_S (AE G [] s.heap.size) s.heap s.heap [] := va_S.rf
  have n_0 : (0 : Int32).toInt = 0 := rfl
  have n_1 : (1 : Int32).toInt = 1 := rfl
  have n_40 : (40 : Int32).toInt = 40 := rfl
  have n_43 : (43 : Int32).toInt = 43 := rfl
  have n_45 : (45 : Int32).toInt = 45 := rfl
  have n_47 : (47 : Int32).toInt = 47 := rfl
  have n_59 : (59 : Int32).toInt = 59 := rfl
  have n_62 : (62 : Int32).toInt = 62 := rfl
  refine lv_iload_n hx hb dX4_isSign_0 rfl (lv_at hl 0 rfl) ?_
  refine lv_bipush (v := 40) hx hb dX4_isSign_1 (by decide) ?_
  refine lv_icmp_lt (tgt := 12) hx hb dX4_isSign_3 (by decide) (fun c173 => ?_) (fun c173 => ?_)
  · have k174 := i_lt c173
    refine lv_iload_n hx hb dX4_isSign_12 rfl (lv_at hl 0 rfl) ?_
    refine lv_bipush (v := 45) hx hb dX4_isSign_13 (by decide) ?_
    refine lv_icmp_eq (tgt := 36) hx hb dX4_isSign_15 (by decide) (fun c175 => ?_) (fun c175 => ?_)
    · have k176 := i_eq c175
      exfalso
      omega
    · have k176 := i_ne c175
      refine lv_iload_n hx hb dX4_isSign_18 rfl (lv_at hl 0 rfl) ?_
      refine lv_bipush (v := 47) hx hb dX4_isSign_19 (by decide) ?_
      refine lv_icmp_eq (tgt := 36) hx hb dX4_isSign_21 (by decide) (fun c177 => ?_) (fun c177 => ?_)
      · have k178 := i_eq c177
        exfalso
        omega
      · have k178 := i_ne c177
        refine lv_iload_n hx hb dX4_isSign_24 rfl (lv_at hl 0 rfl) ?_
        refine lv_bipush (v := 59) hx hb dX4_isSign_25 (by decide) ?_
        refine lv_icmp_lt (tgt := 40) hx hb dX4_isSign_27 (by decide) (fun c179 => ?_) (fun c179 => ?_)
        · have k180 := i_lt c179
          refine lv_iconst (v := 0) hx hb dX4_isSign_40 (by decide) ?_
          exact x_zret C hQ (Or.inl rfl) dX4_isSign_41 hS (by decide) (by decide) (⟨0, rfl, by decide, by omega, hT⟩)
        · have k180 := i_nlt c179
          exfalso
          omega
  · have k174 := i_nlt c173
    refine lv_iload_n hx hb dX4_isSign_6 rfl (lv_at hl 0 rfl) ?_
    refine lv_bipush (v := 43) hx hb dX4_isSign_7 (by decide) ?_
    refine lv_icmp_le (tgt := 36) hx hb dX4_isSign_9 (by decide) (fun c181 => ?_) (fun c181 => ?_)
    · have k182 := i_le c181
      refine lv_iconst (v := 1) hx hb dX4_isSign_36 (by decide) ?_
      refine lv_goto (tgt := 41) hx hb dX4_isSign_37 (by decide) ?_
      exact x_zret C hQ (Or.inr rfl) dX4_isSign_41 hS (by decide) (by decide) (⟨1, rfl, by decide, by omega, hT⟩)
    · have k182 := i_nle c181
      refine lv_iload_n hx hb dX4_isSign_12 rfl (lv_at hl 0 rfl) ?_
      refine lv_bipush (v := 45) hx hb dX4_isSign_13 (by decide) ?_
      refine lv_icmp_eq (tgt := 36) hx hb dX4_isSign_15 (by decide) (fun c183 => ?_) (fun c183 => ?_)
      · have k184 := i_eq c183
        refine lv_iconst (v := 1) hx hb dX4_isSign_36 (by decide) ?_
        refine lv_goto (tgt := 41) hx hb dX4_isSign_37 (by decide) ?_
        exact x_zret C hQ (Or.inr rfl) dX4_isSign_41 hS (by decide) (by decide) (⟨1, rfl, by decide, by omega, hT⟩)
      · have k184 := i_ne c183
        refine lv_iload_n hx hb dX4_isSign_18 rfl (lv_at hl 0 rfl) ?_
        refine lv_bipush (v := 47) hx hb dX4_isSign_19 (by decide) ?_
        refine lv_icmp_eq (tgt := 36) hx hb dX4_isSign_21 (by decide) (fun c185 => ?_) (fun c185 => ?_)
        · have k186 := i_eq c185
          refine lv_iconst (v := 1) hx hb dX4_isSign_36 (by decide) ?_
          refine lv_goto (tgt := 41) hx hb dX4_isSign_37 (by decide) ?_
          exact x_zret C hQ (Or.inr rfl) dX4_isSign_41 hS (by decide) (by decide) (⟨1, rfl, by decide, by omega, hT⟩)
        · have k186 := i_ne c185
          refine lv_iload_n hx hb dX4_isSign_24 rfl (lv_at hl 0 rfl) ?_
          refine lv_bipush (v := 59) hx hb dX4_isSign_25 (by decide) ?_
          refine lv_icmp_lt (tgt := 40) hx hb dX4_isSign_27 (by decide) (fun c187 => ?_) (fun c187 => ?_)
          · have k188 := i_lt c187
            refine lv_iconst (v := 0) hx hb dX4_isSign_40 (by decide) ?_
            exact x_zret C hQ (Or.inl rfl) dX4_isSign_41 hS (by decide) (by decide) (⟨0, rfl, by decide, by omega, hT⟩)
          · have k188 := i_nlt c187
            refine lv_iload_n hx hb dX4_isSign_30 rfl (lv_at hl 0 rfl) ?_
            refine lv_bipush (v := 62) hx hb dX4_isSign_31 (by decide) ?_
            refine lv_icmp_gt (tgt := 40) hx hb dX4_isSign_33 (by decide) (fun c189 => ?_) (fun c189 => ?_)
            · have k190 := i_lt c189
              refine lv_iconst (v := 0) hx hb dX4_isSign_40 (by decide) ?_
              exact x_zret C hQ (Or.inl rfl) dX4_isSign_41 hS (by decide) (by decide) (⟨0, rfl, by decide, by omega, hT⟩)
            · have k190 := i_nlt c189
              refine lv_iconst (v := 1) hx hb dX4_isSign_36 (by decide) ?_
              refine lv_goto (tgt := 41) hx hb dX4_isSign_37 (by decide) ?_
              exact x_zret C hQ (Or.inr rfl) dX4_isSign_41 hS (by decide) (by decide) (⟨1, rfl, by decide, by omega, hT⟩)

set_option maxHeartbeats 4000000 in
set_option maxRecDepth 100000 in
theorem a_X4_isWord_e (l : Launch) (K : KE) (G : Nat → Option Nat) (H : Heap) {a0 : Nat} (x1 : Int32) (x2 : Int32) (x3 : Int32) (bt : Nat → Int) (hT : TY K G H) (ga0 : G a0 = some 108) (hx1 : 0 ≤ x1.toInt ∧ x1.toInt ≤ 500) (hx2 : 0 ≤ x2.toInt ∧ x2.toInt ≤ 500) (hx3 : 0 ≤ x3.toInt ∧ x3.toInt ≤ 23) (hv_bt : ∀ j : Nat, bt j = (fI H a0 j).toInt) : MX l K yX4_isWord cX4_isWord 6 (some .boolean) 4 111 0 0 [.ref a0, .int x1, .int x2, .int x3] H (AE G [] H.size) (fun v H1 => ∃ (r : Int32), v = some (.int r) ∧ (0 ≤ r.toInt ∧ r.toInt ≤ 1) ∧ (wEq bt x1.toNatClampNeg x2.toNatClampNeg x3.toNatClampNeg = decide (r.toInt = 1)) ∧ TY K G H1) := by
  refine MX.of (by decide +kernel) (Nat.le_of_ble_eq_true rfl) ?_
  intro p e s m below meth c ls Q C hH hl hQ
  subst hH
  have C : CX p K s m _ meth c RX4 cX4_isWord 6 (some .boolean) "isWord" := C
  obtain ⟨hx, hb, hml, hown, hts, hKT, hr, hlocks, hnm⟩ := id C
  have hl : lv_has ls 6 [(0, .ref a0), (1, .int x1), (2, .int x2), (3, .int x3)] := hl
  have hS : va_S (AE G [] s.heap.size) s.heap s.heap [] := va_S.rf
  have n_0 : (0 : Int32).toInt = 0 := rfl
  have n_1 : (1 : Int32).toInt = 1 := rfl
  have n_6 : (6 : Int32).toInt = 6 := rfl
  have n_32 : (32 : Int32).toInt = 32 := rfl
  have hsp0 : wEq bt x1.toNatClampNeg x2.toNatClampNeg x3.toNatClampNeg = al (wMt bt x1.toNatClampNeg x2.toNatClampNeg x3.toNatClampNeg) 6 0 := rfl
  have f0_bt := hv_bt
  have J3 : ∀ (nf : Nat)  (ls410 : Array Slot) (H409 : Heap) (locsH409 : List Loc) (x412 : Int32), lv_has ls410 6 [(0, .ref a0), (1, .int x1), (2, .int x2), (3, .int x3), (4, .int x412)] → TY K G H409 → va_S (AE G [] s.heap.size) s.heap H409 locsH409 → (0 ≤ x412.toInt ∧ x412.toInt ≤ 6) → (∀ j : Nat, bt j = (fI H409 a0 j).toInt) → (6 - x412.toInt < (nf : Int)) → (wEq bt x1.toNatClampNeg x2.toNatClampNeg x3.toNatClampNeg = al (wMt bt x1.toNatClampNeg x2.toNatClampNeg x3.toNatClampNeg) (6 - x412.toNatClampNeg) x412.toNatClampNeg) → W p l e ({ frames := 4, cells := 0, slots := 0, locals := 111 } : Room) s m (([.ref a0, .int x1, .int x2, .int x3] : List Value).toArray) below meth c H409 locsH409 0 0 Q (F0 m 3 ls410 []) := by
    intro nf
    induction nf with
    | zero =>
      intro  ls410 H409 locsH409 x412 hl411 hTH409 hSH409 bx412 fy413_bt hm3 hsp3
      exfalso
      omega
    | succ nf ih3 =>
      intro  ls410 H409 locsH409 x412 hl411 hTH409 hSH409 bx412 fy413_bt hm3 hsp3
      refine lv_iload hx hb dX4_isWord_3 (lv_at hl411 4 rfl) ?_
      refine lv_bipush (v := 6) hx hb dX4_isWord_5 (by decide) ?_
      refine lv_icmp_ge (tgt := 56) hx hb dX4_isWord_7 (by decide) (fun c414 => ?_) (fun c414 => ?_)
      · have k415 := i_le c414
        refine lv_iconst (v := 1) hx hb dX4_isWord_56 (by decide) ?_
        have cn_x412 := i_cl (x := x412) (by omega)
        exact x_zret C hQ (Or.inr rfl) dX4_isWord_57 hSH409 (by decide) (by decide) (⟨1, rfl, by decide, (hsp3.trans (show _ = true by rw [show 6 - x412.toNatClampNeg = 0 by omega]; rfl)).trans (by decide), hTH409⟩)
      · have k415 := i_nle c414
        refine lv_iload_n hx hb dX4_isWord_10 rfl (lv_at hl411 1 rfl) ?_
        refine lv_iload hx hb dX4_isWord_11 (lv_at hl411 4 rfl) ?_
        refine lv_iadd hx hb dX4_isWord_13 ?_
        refine lv_topi (fun x416 ex416 => ?_)
        have tx416 := i_add ex416 (by omega)
        refine lv_iload_n hx hb dX4_isWord_14 rfl (lv_at hl411 2 rfl) ?_
        refine lv_icmp_ge (tgt := 27) hx hb dX4_isWord_15 (by decide) (fun c417 => ?_) (fun c417 => ?_)
        · have k418 := i_le c417
          refine lv_bipush (v := 32) hx hb dX4_isWord_27 (by decide) ?_
          refine lv_istore (lv' := [(5, .int 32), (0, .ref a0), (1, .int x1), (2, .int x2), (3, .int x3), (4, .int x412)]) hx hb dX4_isWord_29 hl411 (by decide) rfl (fun ls419 hl420 => ?_)
          refine va_ldcS hx hb hown hKT.2.2.2.2.2.2 dX4_isWord_31 ?_
          refine lv_iload_n hx hb dX4_isWord_33 rfl (lv_at hl420 4 rfl) ?_
          refine lv_bipush (v := 6) hx hb dX4_isWord_34 (by decide) ?_
          refine lv_imul hx hb dX4_isWord_36 ?_
          refine lv_topi (fun x421 ex421 => ?_)
          have tx421 := i_mul ex421 (by rw [n_6]; omega)
          rw [n_6] at tx421
          refine lv_iload hx hb dX4_isWord_37 (lv_at hl420 5 rfl) ?_
          refine lv_iadd hx hb dX4_isWord_39 ?_
          refine lv_topi (fun x422 ex422 => ?_)
          have tx422 := i_add ex422 (by omega)
          refine x_V (As := [.int x422]) (rest := []) C (c_charAt l K G H409 (x422) hTH409 (by omega)) yo_J0_charAt_5068e wM_X4_75 ⟨⟨by decide, by decide⟩, by decide, by decide⟩ (by obtain ⟨cell, h1, h2, h3, -⟩ := hTH409.2.2.2.1.moved hKT.2.2.2.2.2.1; exact ⟨cell, h1, h2, h3⟩) rfl hl420.1 rfl (Nat.le_of_ble_eq_true rfl) dX4_isWord_40 hSH409 (AE_sub (fun _ _ => rfl) (by decide) hSH409.1) (fun vH423 H423 locsH423 pH423 zH423 kH423 hSH423 => ?_)
          have hqH423 := pH423.1.symm
          subst hqH423
          obtain ⟨x424, hvH423, tx424⟩ : ∃ z : Int32, vH423 = some (.int z) ∧ z = _ := ⟨_, pH423.2, rfl⟩
          subst hvH423
          refine W.eq (g2 := F0 m 43 ls419 [.int x424]) rfl ?_
          refine lv_iload hx hb dX4_isWord_43 (lv_at hl420 0 rfl) ?_
          refine lv_icmp_eq (tgt := 50) hx hb dX4_isWord_45 (by decide) (fun c425 => ?_) (fun c425 => ?_)
          · have k426 := i_eq c425
            obtain ⟨x427, ex427⟩ : ∃ y : Int32, y = x412 + 1 := ⟨_, rfl⟩
            have tx427 := i_add ex427 (by omega)
            refine lv_iinc (v := x427) (lv' := [(4, .int x427), (5, .int 32), (0, .ref a0), (1, .int x1), (2, .int x2), (3, .int x3)]) hx hb dX4_isWord_50 hl420 (k := 5) rfl (by rw [ex427]; rfl) (by decide) rfl (fun ls428 hl429 => ?_)
            refine lv_goto (tgt := 3) hx hb dX4_isWord_53 (by decide) ?_
            have cn_x422 := i_cl (x := x422) (by omega)
            have cn_x412 := i_cl (x := x412) (by omega)
            have cn_x1 := i_cl (x := x1) (by omega)
            have cn_x2 := i_cl (x := x2) (by omega)
            have cn_x3 := i_cl (x := x3) (by omega)
            have wz : wdI (6 * x3.toNatClampNeg + x412.toNatClampNeg) = x424.toInt := by rw [show 6 * x3.toNatClampNeg + x412.toNatClampNeg = x422.toNatClampNeg by omega, tx424]; rfl
            have cn_x427 := i_cl (x := x427) (by omega)
            exact ih3  ls428 H409 locsH423 (x427) (lv_sub hl429 [2, 3, 4, 5, 0] rfl) hTH409 hSH423 (by have := i_rng x427; omega) fy413_bt (by omega) (hsp3.trans (by exact al_go (wMt_y wz (Or.inr ⟨by omega, rfl⟩) (by omega)) (by omega) (by omega)))
          · have k426 := i_ne c425
            refine lv_iconst (v := 0) hx hb dX4_isWord_48 (by decide) ?_
            have cn_x422 := i_cl (x := x422) (by omega)
            have cn_x412 := i_cl (x := x412) (by omega)
            have cn_x1 := i_cl (x := x1) (by omega)
            have cn_x2 := i_cl (x := x2) (by omega)
            have cn_x3 := i_cl (x := x3) (by omega)
            have wz : wdI (6 * x3.toNatClampNeg + x412.toNatClampNeg) = x424.toInt := by rw [show 6 * x3.toNatClampNeg + x412.toNatClampNeg = x422.toNatClampNeg by omega, tx424]; rfl
            exact x_zret C hQ (Or.inl rfl) dX4_isWord_49 hSH423 (by decide) (by decide) (⟨0, rfl, by decide, (hsp3.trans (al_no (wMt_n wz (Or.inr ⟨by omega, rfl⟩) (by omega)) (by omega))).trans (by decide), hTH409⟩)
        · have k418 := i_nle c417
          refine lv_aload_n hx hb dX4_isWord_18 rfl (lv_at hl411 0 rfl) ?_
          refine lv_iload_n hx hb dX4_isWord_19 rfl (lv_at hl411 1 rfl) ?_
          refine lv_iload hx hb dX4_isWord_20 (lv_at hl411 4 rfl) ?_
          refine lv_iadd hx hb dX4_isWord_22 ?_
          refine lv_topi (fun x430 ex430 => ?_)
          have tx430 := i_add ex430 (by omega)
          refine x_ai C hTH409 ga0 rg_108 ⟨by omega, by show _ < ((500 : Nat) : Int); omega⟩ dX4_isWord_23 (fun x431 ex431 bx431 => ?_)
          have qvx431 : bt x430.toNatClampNeg = x431.toInt := (fy413_bt _).trans (congrArg Int32.toInt ex431.symm)
          have cn_x430 := i_cl (x := x430) (by omega)
          have cn_x1 := i_cl (x := x1) (by omega)
          have cn_x412 := i_cl (x := x412) (by omega)
          have qn432 : bt (x1.toNatClampNeg + x412.toNatClampNeg) = x431.toInt := by rw [show x1.toNatClampNeg + x412.toNatClampNeg = x430.toNatClampNeg by omega]; exact qvx431
          refine lv_goto (tgt := 29) hx hb dX4_isWord_24 (by decide) ?_
          refine lv_istore (lv' := [(5, .int x431), (0, .ref a0), (1, .int x1), (2, .int x2), (3, .int x3), (4, .int x412)]) hx hb dX4_isWord_29 hl411 (by decide) rfl (fun ls433 hl434 => ?_)
          refine va_ldcS hx hb hown hKT.2.2.2.2.2.2 dX4_isWord_31 ?_
          refine lv_iload_n hx hb dX4_isWord_33 rfl (lv_at hl434 4 rfl) ?_
          refine lv_bipush (v := 6) hx hb dX4_isWord_34 (by decide) ?_
          refine lv_imul hx hb dX4_isWord_36 ?_
          refine lv_topi (fun x435 ex435 => ?_)
          have tx435 := i_mul ex435 (by rw [n_6]; omega)
          rw [n_6] at tx435
          refine lv_iload hx hb dX4_isWord_37 (lv_at hl434 5 rfl) ?_
          refine lv_iadd hx hb dX4_isWord_39 ?_
          refine lv_topi (fun x436 ex436 => ?_)
          have tx436 := i_add ex436 (by omega)
          refine x_V (As := [.int x436]) (rest := []) C (c_charAt l K G H409 (x436) hTH409 (by omega)) yo_J0_charAt_5068e wM_X4_75 ⟨⟨by decide, by decide⟩, by decide, by decide⟩ (by obtain ⟨cell, h1, h2, h3, -⟩ := hTH409.2.2.2.1.moved hKT.2.2.2.2.2.1; exact ⟨cell, h1, h2, h3⟩) rfl hl434.1 rfl (Nat.le_of_ble_eq_true rfl) dX4_isWord_40 hSH409 (AE_sub (fun _ _ => rfl) (by decide) hSH409.1) (fun vH437 H437 locsH437 pH437 zH437 kH437 hSH437 => ?_)
          have hqH437 := pH437.1.symm
          subst hqH437
          obtain ⟨x438, hvH437, tx438⟩ : ∃ z : Int32, vH437 = some (.int z) ∧ z = _ := ⟨_, pH437.2, rfl⟩
          subst hvH437
          refine W.eq (g2 := F0 m 43 ls433 [.int x438]) rfl ?_
          refine lv_iload hx hb dX4_isWord_43 (lv_at hl434 0 rfl) ?_
          refine lv_icmp_eq (tgt := 50) hx hb dX4_isWord_45 (by decide) (fun c439 => ?_) (fun c439 => ?_)
          · have k440 := i_eq c439
            obtain ⟨x441, ex441⟩ : ∃ y : Int32, y = x412 + 1 := ⟨_, rfl⟩
            have tx441 := i_add ex441 (by omega)
            refine lv_iinc (v := x441) (lv' := [(4, .int x441), (5, .int x431), (0, .ref a0), (1, .int x1), (2, .int x2), (3, .int x3)]) hx hb dX4_isWord_50 hl434 (k := 5) rfl (by rw [ex441]; rfl) (by decide) rfl (fun ls442 hl443 => ?_)
            refine lv_goto (tgt := 3) hx hb dX4_isWord_53 (by decide) ?_
            have cn_x436 := i_cl (x := x436) (by omega)
            have cn_x412 := i_cl (x := x412) (by omega)
            have cn_x1 := i_cl (x := x1) (by omega)
            have cn_x2 := i_cl (x := x2) (by omega)
            have cn_x3 := i_cl (x := x3) (by omega)
            have wz : wdI (6 * x3.toNatClampNeg + x412.toNatClampNeg) = x438.toInt := by rw [show 6 * x3.toNatClampNeg + x412.toNatClampNeg = x436.toNatClampNeg by omega, tx438]; rfl
            have cn_x441 := i_cl (x := x441) (by omega)
            exact ih3  ls442 H409 locsH437 (x441) (lv_sub hl443 [2, 3, 4, 5, 0] rfl) hTH409 hSH437 (by have := i_rng x441; omega) fy413_bt (by omega) (hsp3.trans (by exact al_go (wMt_y wz (Or.inl ⟨by omega, qn432⟩) (by omega)) (by omega) (by omega)))
          · have k440 := i_ne c439
            refine lv_iconst (v := 0) hx hb dX4_isWord_48 (by decide) ?_
            have cn_x436 := i_cl (x := x436) (by omega)
            have cn_x412 := i_cl (x := x412) (by omega)
            have cn_x1 := i_cl (x := x1) (by omega)
            have cn_x2 := i_cl (x := x2) (by omega)
            have cn_x3 := i_cl (x := x3) (by omega)
            have wz : wdI (6 * x3.toNatClampNeg + x412.toNatClampNeg) = x438.toInt := by rw [show 6 * x3.toNatClampNeg + x412.toNatClampNeg = x436.toNatClampNeg by omega, tx438]; rfl
            exact x_zret C hQ (Or.inl rfl) dX4_isWord_49 hSH437 (by decide) (by decide) (⟨0, rfl, by decide, (hsp3.trans (al_no (wMt_n wz (Or.inl ⟨by omega, qn432⟩) (by omega)) (by omega))).trans (by decide), hTH409⟩)
  refine lv_iconst (v := 0) hx hb dX4_isWord_0 (by decide) ?_
  refine lv_istore (lv' := [(4, .int 0), (0, .ref a0), (1, .int x1), (2, .int x2), (3, .int x3)]) hx hb dX4_isWord_1 hl (by decide) rfl (fun ls444 hl445 => ?_)
  exact J3 ((6 - (0 : Int32).toInt).toNat + 1)  ls444 s.heap [] (0) (lv_sub hl445 [1, 2, 3, 4, 0] rfl) hT hS (by decide) f0_bt (by omega) (hsp0.trans (by rfl))

set_option maxHeartbeats 4000000 in
set_option maxRecDepth 100000 in
theorem a_X4_wordAt_e (l : Launch) (K : KE) (G : Nat → Option Nat) (H : Heap) {a0 : Nat} (x1 : Int32) (x2 : Int32) (bt : Nat → Int) (hT : TY K G H) (ga0 : G a0 = some 108) (hx1 : 0 ≤ x1.toInt ∧ x1.toInt ≤ 500) (hx2 : 0 ≤ x2.toInt ∧ x2.toInt ≤ 500) (hp0 : x1.toInt ≤ x2.toInt) (hv_bt : ∀ j : Nat, bt j = (fI H a0 j).toInt) : MX l K yX4_wordAt cX4_wordAt 4 (some .int) 5 136 0 0 [.ref a0, .int x1, .int x2] H (AE G [] H.size) (fun v H1 => ∃ (r : Int32), v = some (.int r) ∧ (0 ≤ r.toInt ∧ r.toInt ≤ 25) ∧ (wNo bt x1.toNatClampNeg x2.toNatClampNeg = r.toInt) ∧ TY K G H1) := by
  refine MX.of (by decide +kernel) (Nat.le_of_ble_eq_true rfl) ?_
  intro p e s m below meth c ls Q C hH hl hQ
  subst hH
  have C : CX p K s m _ meth c RX4 cX4_wordAt 4 (some .int) "wordAt" := C
  obtain ⟨hx, hb, hml, hown, hts, hKT, hr, hlocks, hnm⟩ := id C
  have hl : lv_has ls 4 [(0, .ref a0), (1, .int x1), (2, .int x2)] := hl
  have hS : va_S (AE G [] s.heap.size) s.heap s.heap [] := va_S.rf
  have n_0 : (0 : Int32).toInt = 0 := rfl
  have n_1 : (1 : Int32).toInt = 1 := rfl
  have n_6 : (6 : Int32).toInt = 6 := rfl
  have n_24 : (24 : Int32).toInt = 24 := rfl
  have n_25 : (25 : Int32).toInt = 25 := rfl
  have hsp0 : wNo bt x1.toNatClampNeg x2.toNatClampNeg = wNo bt x1.toNatClampNeg x2.toNatClampNeg := rfl
  have f0_bt := hv_bt
  have J10 : ∀ (nf : Nat)  (ls386 : Array Slot) (H385 : Heap) (locsH385 : List Loc) (x388 : Int32), lv_has ls386 4 [(0, .ref a0), (1, .int x1), (2, .int x2), (3, .int x388)] → TY K G H385 → va_S (AE G [] s.heap.size) s.heap H385 locsH385 → (0 ≤ x388.toInt ∧ x388.toInt ≤ 24) → (∀ j : Nat, bt j = (fI H385 a0 j).toInt) → (24 - x388.toInt < (nf : Int)) → (wNo bt x1.toNatClampNeg x2.toNatClampNeg = wFd bt x1.toNatClampNeg x2.toNatClampNeg (24 - x388.toNatClampNeg) x388.toNatClampNeg) → W p l e ({ frames := 5, cells := 0, slots := 0, locals := 136 } : Room) s m (([.ref a0, .int x1, .int x2] : List Value).toArray) below meth c H385 locsH385 0 0 Q (F0 m 10 ls386 []) := by
    intro nf
    induction nf with
    | zero =>
      intro  ls386 H385 locsH385 x388 hl387 hTH385 hSH385 bx388 fy389_bt hm10 hsp10
      exfalso
      omega
    | succ nf ih10 =>
      intro  ls386 H385 locsH385 x388 hl387 hTH385 hSH385 bx388 fy389_bt hm10 hsp10
      refine lv_iload_n hx hb dX4_wordAt_10 rfl (lv_at hl387 3 rfl) ?_
      refine lv_bipush (v := 24) hx hb dX4_wordAt_11 (by decide) ?_
      refine lv_icmp_ge (tgt := 34) hx hb dX4_wordAt_13 (by decide) (fun c390 => ?_) (fun c390 => ?_)
      · have k391 := i_le c390
        refine lv_bipush (v := 25) hx hb dX4_wordAt_34 (by decide) ?_
        have cn_x1 := i_cl (x := x1) (by omega)
        have cn_x2 := i_cl (x := x2) (by omega)
        have cn_x388 := i_cl (x := x388) (by omega)
        exact x_iret C hQ dX4_wordAt_36 hSH385 (by decide) (by decide) (⟨25, rfl, by decide, hsp10.trans (show _ = (25 : Int32).toInt by rw [show 24 - x388.toNatClampNeg = 0 by omega]; rfl), hTH385⟩)
      · have k391 := i_nle c390
        refine lv_aload_n hx hb dX4_wordAt_16 rfl (lv_at hl387 0 rfl) ?_
        refine lv_iload_n hx hb dX4_wordAt_17 rfl (lv_at hl387 1 rfl) ?_
        refine lv_iload_n hx hb dX4_wordAt_18 rfl (lv_at hl387 2 rfl) ?_
        refine lv_iload_n hx hb dX4_wordAt_19 rfl (lv_at hl387 3 rfl) ?_
        refine x_S (As := [.ref a0, .int x1, .int x2, .int x388]) (rest := []) C (a_X4_isWord_e l K G H385 (x1) (x2) (x388) bt hTH385 ga0 (by omega) (by omega) (by omega) fy389_bt) yo_X4_isWord wM_X4_69 ⟨⟨by decide, by decide⟩, by decide, by decide⟩ rfl hl387.1 rfl (Nat.le_of_ble_eq_true rfl) dX4_wordAt_20 hSH385 (AE_sub (fun _ _ => rfl) (by decide) hSH385.1) (fun vH392 H392 locsH392 pH392 zH392 kH392 hSH392 => ?_)
        obtain ⟨x393, hvH392, bx393, m394, hTH392⟩ := pH392
        subst hvH392
        have f395 : ∀ j : Nat, bt j = (fI H392 a0 j).toInt := fun j => (fy389_bt j).trans (congrArg Int32.toInt (fI_kept (x_lt hTH385 kH392 ga0 (by decide))).symm)
        refine W.eq (g2 := F0 m 23 ls386 [.int x393]) rfl ?_
        refine lv_if_eq (tgt := 28) hx hb dX4_wordAt_23 (by decide) (fun c396 => ?_) (fun c396 => ?_)
        · have k397 := i_eq c396
          obtain ⟨x398, ex398⟩ : ∃ y : Int32, y = x388 + 1 := ⟨_, rfl⟩
          have tx398 := i_add ex398 (by omega)
          refine lv_iinc (v := x398) (lv' := [(3, .int x398), (0, .ref a0), (1, .int x1), (2, .int x2)]) hx hb dX4_wordAt_28 hl387 (k := 3) rfl (by rw [ex398]; rfl) (by decide) rfl (fun ls399 hl400 => ?_)
          refine lv_goto (tgt := 10) hx hb dX4_wordAt_31 (by decide) ?_
          have cn_x388 := i_cl (x := x388) (by omega)
          have cn_x398 := i_cl (x := x398) (by omega)
          exact ih10  ls399 H392 locsH392 (x398) (lv_sub hl400 [1, 2, 3, 0] rfl) hTH392 hSH392 (by have := i_rng x398; omega) f395 (by omega) (hsp10.trans (by exact wFd_n (m394.trans (decide_eq_false (by omega))) (by omega) (by omega)))
        · have k397 := i_ne c396
          refine lv_iload_n hx hb dX4_wordAt_26 rfl (lv_at hl387 3 rfl) ?_
          have cn_x1 := i_cl (x := x1) (by omega)
          have cn_x2 := i_cl (x := x2) (by omega)
          have cn_x388 := i_cl (x := x388) (by omega)
          exact x_iret C hQ dX4_wordAt_27 hSH392 (by decide) (by decide) (⟨x388, rfl, by omega, (hsp10.trans (wFd_y (m394.trans (decide_eq_true (by omega))) (by omega))).trans cn_x388, hTH392⟩)
  refine lv_iload_n hx hb dX4_wordAt_0 rfl (lv_at hl 2 rfl) ?_
  refine lv_iload_n hx hb dX4_wordAt_1 rfl (lv_at hl 1 rfl) ?_
  refine lv_isub hx hb dX4_wordAt_2 ?_
  refine lv_topi (fun x401 ex401 => ?_)
  have tx401 := i_sub ex401 (by omega)
  refine lv_bipush (v := 6) hx hb dX4_wordAt_3 (by decide) ?_
  refine lv_icmp_gt (tgt := 34) hx hb dX4_wordAt_5 (by decide) (fun c402 => ?_) (fun c402 => ?_)
  · have k403 := i_lt c402
    refine lv_bipush (v := 25) hx hb dX4_wordAt_34 (by decide) ?_
    have cn_x1 := i_cl (x := x1) (by omega)
    have cn_x2 := i_cl (x := x2) (by omega)
    exact x_iret C hQ dX4_wordAt_36 hS (by decide) (by decide) (⟨25, rfl, by decide, (show _ = (25 : Int32).toInt from if_neg (by omega)), hT⟩)
  · have k403 := i_nlt c402
    refine lv_iconst (v := 0) hx hb dX4_wordAt_8 (by decide) ?_
    refine lv_istore_n (lv' := [(3, .int 0), (0, .ref a0), (1, .int x1), (2, .int x2)]) hx hb dX4_wordAt_9 rfl hl (by decide) rfl (fun ls404 hl405 => ?_)
    have cn_x1 := i_cl (x := x1) (by omega)
    have cn_x2 := i_cl (x := x2) (by omega)
    exact J10 ((24 - (0 : Int32).toInt).toNat + 1)  ls404 s.heap [] (0) (lv_sub hl405 [1, 2, 3, 0] rfl) hT hS (by decide) f0_bt (by omega) (hsp0.trans (by rw [show wNo bt x1.toNatClampNeg x2.toNatClampNeg = wFd bt x1.toNatClampNeg x2.toNatClampNeg 24 0 from if_pos (by omega)]; rfl))

set_option maxHeartbeats 4000000 in
set_option maxRecDepth 100000 in
theorem a_X4_numberAt_e (l : Launch) (K : KE) (G : Nat → Option Nat) (H : Heap) {a0 : Nat} (x1 : Int32) (x2 : Int32) (bt : Nat → Int) (hT : TY K G H) (ga0 : G a0 = some 108) (hx1 : 0 ≤ x1.toInt ∧ x1.toInt ≤ 500) (hx2 : 0 ≤ x2.toInt ∧ x2.toInt ≤ 500) (hp0 : x1.toInt ≤ x2.toInt) (hy0 : ∀ j : Nat, x1.toNatClampNeg ≤ j → j < x2.toNatClampNeg → 48 ≤ bt j ∧ bt j ≤ 57) (hv_bt : ∀ j : Nat, bt j = (fI H a0 j).toInt) : MX l K yX4_numberAt cX4_numberAt 5 (some .int) 0 0 0 0 [.ref a0, .int x1, .int x2] H (AE G [] H.size) (fun v H1 => ∃ (r : Int32), v = some (.int r) ∧ (nmb bt (min (x2.toNatClampNeg - x1.toNatClampNeg) 5) x1.toNatClampNeg 0 = r.toInt) ∧ TY K G H1) := by
  refine MX.of (by decide +kernel) (Nat.le_of_ble_eq_true rfl) ?_
  intro p e s m below meth c ls Q C hH hl hQ
  subst hH
  have C : CX p K s m _ meth c RX4 cX4_numberAt 5 (some .int) "numberAt" := C
  obtain ⟨hx, hb, hml, hown, hts, hKT, hr, hlocks, hnm⟩ := id C
  have hl : lv_has ls 5 [(0, .ref a0), (1, .int x1), (2, .int x2)] := hl
  have hS : va_S (AE G [] s.heap.size) s.heap s.heap [] := va_S.rf
  have n_0 : (0 : Int32).toInt = 0 := rfl
  have n_1 : (1 : Int32).toInt = 1 := rfl
  have n_5 : (5 : Int32).toInt = 5 := rfl
  have n_10 : (10 : Int32).toInt = 10 := rfl
  have n_48 : (48 : Int32).toInt = 48 := rfl
  have hsp0 : nmb bt (min (x2.toNatClampNeg - x1.toNatClampNeg) 5) x1.toNatClampNeg 0 = nmb bt (min (x2.toNatClampNeg - x1.toNatClampNeg) 5) x1.toNatClampNeg 0 := rfl
  have f0_bt := hv_bt
  have J5 : ∀ (nf : Nat)  (ls262 : Array Slot) (H261 : Heap) (locsH261 : List Loc) (x264 : Int32) (x265 : Int32), lv_has ls262 5 [(0, .ref a0), (1, .int x1), (2, .int x2), (3, .int x264), (4, .int x265)] → TY K G H261 → va_S (AE G [] s.heap.size) s.heap H261 locsH261 → (0 ≤ x264.toInt ∧ x264.toInt ≤ 99999) → (0 ≤ x265.toInt ∧ x265.toInt ≤ 500) → (∀ j : Nat, bt j = (fI H261 a0 j).toInt) → (500 - x265.toInt < (nf : Int)) → ((x265.toInt = x1.toInt + 0 ∧ 0 ≤ x264.toInt ∧ x264.toInt ≤ 0) ∨ (x265.toInt = x1.toInt + 1 ∧ 0 ≤ x264.toInt ∧ x264.toInt ≤ 9) ∨ (x265.toInt = x1.toInt + 2 ∧ 0 ≤ x264.toInt ∧ x264.toInt ≤ 99) ∨ (x265.toInt = x1.toInt + 3 ∧ 0 ≤ x264.toInt ∧ x264.toInt ≤ 999) ∨ (x265.toInt = x1.toInt + 4 ∧ 0 ≤ x264.toInt ∧ x264.toInt ≤ 9999) ∨ (x265.toInt = x1.toInt + 5 ∧ 0 ≤ x264.toInt ∧ x264.toInt ≤ 99999)) → (nmb bt (min (x2.toNatClampNeg - x1.toNatClampNeg) 5) x1.toNatClampNeg 0 = nmb bt (min x2.toNatClampNeg (x1.toNatClampNeg + 5) - x265.toNatClampNeg) x265.toNatClampNeg x264.toInt) → W p l e ({ frames := 0, cells := 0, slots := 0, locals := 0 } : Room) s m (([.ref a0, .int x1, .int x2] : List Value).toArray) below meth c H261 locsH261 0 0 Q (F0 m 5 ls262 []) := by
    intro nf
    induction nf with
    | zero =>
      intro  ls262 H261 locsH261 x264 x265 hl263 hTH261 hSH261 bx264 bx265 fy266_bt hm5 iv5 hsp5
      exfalso
      omega
    | succ nf ih5 =>
      intro  ls262 H261 locsH261 x264 x265 hl263 hTH261 hSH261 bx264 bx265 fy266_bt hm5 iv5 hsp5
      refine lv_iload hx hb dX4_numberAt_5 (lv_at hl263 4 rfl) ?_
      refine lv_iload_n hx hb dX4_numberAt_7 rfl (lv_at hl263 2 rfl) ?_
      refine lv_icmp_ge (tgt := 38) hx hb dX4_numberAt_8 (by decide) (fun c267 => ?_) (fun c267 => ?_)
      · have k268 := i_le c267
        refine lv_iload_n hx hb dX4_numberAt_38 rfl (lv_at hl263 3 rfl) ?_
        have cn_x1 := i_cl (x := x1) (by omega)
        have cn_x2 := i_cl (x := x2) (by omega)
        have cn_x265 := i_cl (x := x265) (by omega)
        exact x_iret C hQ dX4_numberAt_39 hSH261 (by decide) (by decide) (⟨x264, rfl, hsp5.trans (by rw [show min x2.toNatClampNeg (x1.toNatClampNeg + 5) - x265.toNatClampNeg = 0 by omega]; rfl), hTH261⟩)
      · have k268 := i_nle c267
        refine lv_iload hx hb dX4_numberAt_11 (lv_at hl263 4 rfl) ?_
        refine lv_iload_n hx hb dX4_numberAt_13 rfl (lv_at hl263 1 rfl) ?_
        refine lv_iconst (v := 5) hx hb dX4_numberAt_14 (by decide) ?_
        refine lv_iadd hx hb dX4_numberAt_15 ?_
        refine lv_topi (fun x269 ex269 => ?_)
        have tx269 := i_add ex269 (by omega)
        refine lv_icmp_ge (tgt := 38) hx hb dX4_numberAt_16 (by decide) (fun c270 => ?_) (fun c270 => ?_)
        · have k271 := i_le c270
          refine lv_iload_n hx hb dX4_numberAt_38 rfl (lv_at hl263 3 rfl) ?_
          have cn_x1 := i_cl (x := x1) (by omega)
          have cn_x2 := i_cl (x := x2) (by omega)
          have cn_x265 := i_cl (x := x265) (by omega)
          exact x_iret C hQ dX4_numberAt_39 hSH261 (by decide) (by decide) (⟨x264, rfl, hsp5.trans (by rw [show min x2.toNatClampNeg (x1.toNatClampNeg + 5) - x265.toNatClampNeg = 0 by omega]; rfl), hTH261⟩)
        · have k271 := i_nle c270
          refine lv_iload_n hx hb dX4_numberAt_19 rfl (lv_at hl263 3 rfl) ?_
          refine lv_bipush (v := 10) hx hb dX4_numberAt_20 (by decide) ?_
          refine lv_imul hx hb dX4_numberAt_22 ?_
          refine lv_topi (fun x272 ex272 => ?_)
          have tx272 := i_mul ex272 (by rw [n_10]; omega)
          rw [n_10] at tx272
          refine lv_aload_n hx hb dX4_numberAt_23 rfl (lv_at hl263 0 rfl) ?_
          refine lv_iload hx hb dX4_numberAt_24 (lv_at hl263 4 rfl) ?_
          refine x_ai C hTH261 ga0 rg_108 ⟨by omega, by show _ < ((500 : Nat) : Int); omega⟩ dX4_numberAt_26 (fun x273 ex273 bx273 => ?_)
          have qvx273 : bt x265.toNatClampNeg = x273.toInt := (fy266_bt _).trans (congrArg Int32.toInt ex273.symm)
          have cn_x265 := i_cl (x := x265) (by omega)
          have cn_x265 := i_cl (x := x265) (by omega)
          have qn274 : bt (x265.toNatClampNeg) = x273.toInt := by rw [show x265.toNatClampNeg = x265.toNatClampNeg by omega]; exact qvx273
          have cn_x1 := i_cl (x := x1) (by omega)
          have cn_x2 := i_cl (x := x2) (by omega)
          have bdx273 := hy0 x265.toNatClampNeg (by omega) (by omega)
          rw [qn274] at bdx273
          refine lv_iadd hx hb dX4_numberAt_27 ?_
          refine lv_topi (fun x275 ex275 => ?_)
          have tx275 := i_add ex275 (by omega)
          refine lv_bipush (v := 48) hx hb dX4_numberAt_28 (by decide) ?_
          refine lv_isub hx hb dX4_numberAt_30 ?_
          refine lv_topi (fun x276 ex276 => ?_)
          have tx276 := i_sub ex276 (by omega)
          refine lv_istore_n (lv' := [(3, .int x276), (0, .ref a0), (1, .int x1), (2, .int x2), (4, .int x265)]) hx hb dX4_numberAt_31 rfl hl263 (by decide) rfl (fun ls277 hl278 => ?_)
          obtain ⟨x279, ex279⟩ : ∃ y : Int32, y = x265 + 1 := ⟨_, rfl⟩
          have tx279 := i_add ex279 (by omega)
          refine lv_iinc (v := x279) (lv' := [(4, .int x279), (3, .int x276), (0, .ref a0), (1, .int x1), (2, .int x2)]) hx hb dX4_numberAt_32 hl278 (k := 4) rfl (by rw [ex279]; rfl) (by decide) rfl (fun ls280 hl281 => ?_)
          refine lv_goto (tgt := 5) hx hb dX4_numberAt_35 (by decide) ?_
          have cn_x1 := i_cl (x := x1) (by omega)
          have cn_x2 := i_cl (x := x2) (by omega)
          have cn_x265 := i_cl (x := x265) (by omega)
          have cn_x279 := i_cl (x := x279) (by omega)
          exact ih5  ls280 H261 locsH261 (x276) (x279) (lv_sub hl281 [2, 3, 4, 1, 0] rfl) hTH261 hSH261 (by have := i_rng x276; omega) (by have := i_rng x279; omega) fy266_bt (by omega) (by omega) (hsp5.trans (by exact nmb_go (by omega) (by omega) (by rw [qn274]; omega)))
  refine lv_iconst (v := 0) hx hb dX4_numberAt_0 (by decide) ?_
  refine lv_istore_n (lv' := [(3, .int 0), (0, .ref a0), (1, .int x1), (2, .int x2)]) hx hb dX4_numberAt_1 rfl hl (by decide) rfl (fun ls282 hl283 => ?_)
  refine lv_iload_n hx hb dX4_numberAt_2 rfl (lv_at hl283 2 rfl) ?_
  refine lv_istore (lv' := [(4, .int x1), (3, .int 0), (0, .ref a0), (1, .int x1), (2, .int x2)]) hx hb dX4_numberAt_3 hl283 (by decide) rfl (fun ls284 hl285 => ?_)
  have cn_x1 := i_cl (x := x1) (by omega)
  have cn_x2 := i_cl (x := x2) (by omega)
  exact J5 ((500 - x1.toInt).toNat + 1)  ls284 s.heap [] (0) (x1) (lv_sub hl285 [2, 3, 4, 1, 0] rfl) hT hS (by decide) (by have := i_rng x1; omega) f0_bt (by omega) (by omega) (hsp0.trans (by rw [show min (x2.toNatClampNeg - x1.toNatClampNeg) 5 = min x2.toNatClampNeg (x1.toNatClampNeg + 5) - x1.toNatClampNeg by omega]; rfl))

set_option maxHeartbeats 4000000 in
set_option maxRecDepth 100000 in
theorem a_X4_addToken_e (l : Launch) (K : KE) (G : Nat → Option Nat) (H : Heap) {a0 : Nat} (x1 : Int32) (x2 : Int32) (x3 : Int32) {mq : Nat} {kq : Nat} {vq : Nat} (tat : Int32) (tk : Int32) (lw : Int32) (fa : Int32) (hT : TY K G H) (ga0 : G a0 = some 78) (gmq : G mq = some 69) (emq : mq = fR H a0 (K.1.2 4 0)) (gkq : G kq = some 79) (ekq : kq = fR H a0 (K.1.2 4 3)) (gvq : G vq = some 80) (evq : vq = fR H a0 (K.1.2 4 4)) (etat : tat = fI H a0 (K.1.2 4 7)) (etk : tk = fI H a0 (K.1.2 4 6)) (elw : lw = fI H a0 (K.1.2 4 8)) (efa : fa = fI H a0 (K.1.2 4 1)) (hp0 : tk.toInt ≤ 500) : MX l K yX4_addToken cX4_addToken 4 none 0 0 0 0 [.ref a0, .int x1, .int x2, .int x3] H (AE G [78, 79, 80, 81] H.size) (fun v H1 => ∃ (t0 : Int32) (t1 : Int32) (t2 : Int32) (t3 : Int32), v = none ∧ t0 = fI H1 a0 (K.1.2 4 7) ∧ t1 = fI H1 a0 (K.1.2 4 6) ∧ t2 = fI H1 a0 (K.1.2 4 8) ∧ t3 = fI H1 a0 (K.1.2 4 1) ∧ (t0.toInt = tat.toInt ∧ t1.toInt = tk.toInt + 1 ∧ t2.toInt = lw.toInt ∧ t3.toInt = fa.toInt) ∧ mq = fR H1 a0 (K.1.2 4 0) ∧ kq = fR H1 a0 (K.1.2 4 3) ∧ vq = fR H1 a0 (K.1.2 4 4) ∧ x1 = fI H1 kq tk.toNatClampNeg ∧ x2 = fI H1 vq tk.toNatClampNeg ∧ (∀ j : Nat, j ≠ tk.toNatClampNeg → fI H1 kq j = fI H kq j) ∧ (∀ j : Nat, j ≠ tk.toNatClampNeg → fI H1 vq j = fI H vq j) ∧ TY K G H1) := by
  refine MX.of (by decide +kernel) (Nat.le_of_ble_eq_true rfl) ?_
  intro p e s m below meth c ls Q C hH hl hQ
  subst hH
  have C : CX p K s m _ meth c RX4 cX4_addToken 4 none "addToken" := C
  obtain ⟨hx, hb, hml, hown, hts, hKT, hr, hlocks, hnm⟩ := id C
  have hl : lv_has ls 4 [(0, .ref a0), (1, .int x1), (2, .int x2), (3, .int x3)] := hl
  have hS : va_S (AE G [78, 79, 80, 81] s.heap.size) s.heap s.heap [] := va_S.rf
  have n_1 : (1 : Int32).toInt = 1 := rfl
  have n_500 : (500 : Int32).toInt = 500 := rfl
  have btat := ty_fi (x := tat) (k := 7) etat hT ga0 rg_78 rfl
  have btk := ty_fi (x := tk) (k := 6) etk hT ga0 rg_78 rfl
  have blw := ty_fi (x := lw) (k := 8) elw hT ga0 rg_78 rfl
  have bfa := ty_fi (x := fa) (k := 1) efa hT ga0 rg_78 rfl
  have f0_ko : ∀ j : Nat, j ≠ tk.toNatClampNeg → fI s.heap kq j = fI s.heap kq j := fun _ _ => rfl
  have f0_vo : ∀ j : Nat, j ≠ tk.toNatClampNeg → fI s.heap vq j = fI s.heap vq j := fun _ _ => rfl
  refine lv_aload_n hx hb dX4_addToken_0 rfl (lv_at hl 0 rfl) ?_
  refine x_gi C hT (ci := 4) (k := 6) rfl inX4 (by decide) wF_X4_45 ga0 rg_78 rfl dX4_addToken_1 (fun x353 ex353 bx353 => ?_)
  have ux353 : tk = x353 := (etk).trans ex353.symm
  subst ux353
  refine lv_sipush (v := 500) hx hb dX4_addToken_4 (by decide) ?_
  refine lv_icmp_gt (tgt := 50) hx hb dX4_addToken_7 (by decide) (fun c354 => ?_) (fun c354 => ?_)
  · have k355 := i_lt c354
    exfalso
    omega
  · have k355 := i_nlt c354
    refine lv_aload_n hx hb dX4_addToken_10 rfl (lv_at hl 0 rfl) ?_
    refine x_gr C hT (ci := 4) (k := 3) rfl inX4 (by decide) wF_X4_18 ga0 rg_78 rfl dX4_addToken_11 (fun q356 eq356 gq356 => ?_)
    have uq356 : kq = q356 := (ekq).trans eq356.symm
    subst uq356
    refine lv_aload_n hx hb dX4_addToken_14 rfl (lv_at hl 0 rfl) ?_
    refine x_gi C hT (ci := 4) (k := 6) rfl inX4 (by decide) wF_X4_45 ga0 rg_78 rfl dX4_addToken_15 (fun x357 ex357 bx357 => ?_)
    have ux357 : tk = x357 := (etk).trans ex357.symm
    subst ux357
    refine lv_iload_n hx hb dX4_addToken_18 rfl (lv_at hl 1 rfl) ?_
    refine x_iast C hT hS gkq rg_79 (by omega) (by show _ < ((501 : Nat) : Int); omega) ⟨by have := i_rng x1; omega, by have := i_rng x1; omega⟩ (AE_in gkq (by decide)) dX4_addToken_19 (fun H358 locsH358 hTH358 hSH358 wH358 => ?_)
    have f359 : ∀ j : Nat, j ≠ tk.toNatClampNeg → fI H358 kq j = fI s.heap kq j := fun j hj => (Wr.neI wH358 (Or.inr hj)).trans (f0_ko j hj)
    have f360 : ∀ j : Nat, j ≠ tk.toNatClampNeg → fI H358 vq j = fI s.heap vq j := fun j hj => (Wr.neI wH358 (Or.inl (G_ne gvq gkq (by decide)))).trans (f0_vo j hj)
    have m361 := emq.trans (Wr.neR wH358 (Or.inl (G_ne ga0 gkq (by decide)))).symm
    have m362 := ekq.trans (Wr.neR wH358 (Or.inl (G_ne ga0 gkq (by decide)))).symm
    have m363 := evq.trans (Wr.neR wH358 (Or.inl (G_ne ga0 gkq (by decide)))).symm
    have m364 := etat.trans (Wr.neI wH358 (Or.inl (G_ne ga0 gkq (by decide)))).symm
    have m365 := etk.trans (Wr.neI wH358 (Or.inl (G_ne ga0 gkq (by decide)))).symm
    have m366 := elw.trans (Wr.neI wH358 (Or.inl (G_ne ga0 gkq (by decide)))).symm
    have m367 := efa.trans (Wr.neI wH358 (Or.inl (G_ne ga0 gkq (by decide)))).symm
    have m368 := Wr.I wH358
    have m368 := m368.symm
    refine lv_aload_n hx hb dX4_addToken_20 rfl (lv_at hl 0 rfl) ?_
    refine x_gr C hTH358 (ci := 4) (k := 4) rfl inX4 (by decide) wF_X4_22 ga0 rg_78 rfl dX4_addToken_21 (fun q369 eq369 gq369 => ?_)
    have uq369 : vq = q369 := (m363).trans eq369.symm
    subst uq369
    refine lv_aload_n hx hb dX4_addToken_24 rfl (lv_at hl 0 rfl) ?_
    refine x_gi C hTH358 (ci := 4) (k := 6) rfl inX4 (by decide) wF_X4_45 ga0 rg_78 rfl dX4_addToken_25 (fun x370 ex370 bx370 => ?_)
    have ux370 : tk = x370 := (m365).trans ex370.symm
    subst ux370
    refine lv_iload_n hx hb dX4_addToken_28 rfl (lv_at hl 2 rfl) ?_
    refine x_iast C hTH358 hSH358 gvq rg_80 (by omega) (by show _ < ((501 : Nat) : Int); omega) ⟨by have := i_rng x2; omega, by have := i_rng x2; omega⟩ (AE_in gvq (by decide)) dX4_addToken_29 (fun H371 locsH371 hTH371 hSH371 wH371 => ?_)
    have f372 : ∀ j : Nat, j ≠ tk.toNatClampNeg → fI H371 kq j = fI s.heap kq j := fun j hj => (Wr.neI wH371 (Or.inl (G_ne gkq gvq (by decide)))).trans (f359 j hj)
    have f373 : ∀ j : Nat, j ≠ tk.toNatClampNeg → fI H371 vq j = fI s.heap vq j := fun j hj => (Wr.neI wH371 (Or.inr hj)).trans (f360 j hj)
    have m374 := m361.trans (Wr.neR wH371 (Or.inl (G_ne ga0 gvq (by decide)))).symm
    have m375 := m362.trans (Wr.neR wH371 (Or.inl (G_ne ga0 gvq (by decide)))).symm
    have m376 := m363.trans (Wr.neR wH371 (Or.inl (G_ne ga0 gvq (by decide)))).symm
    have m377 := m364.trans (Wr.neI wH371 (Or.inl (G_ne ga0 gvq (by decide)))).symm
    have m378 := m365.trans (Wr.neI wH371 (Or.inl (G_ne ga0 gvq (by decide)))).symm
    have m379 := m366.trans (Wr.neI wH371 (Or.inl (G_ne ga0 gvq (by decide)))).symm
    have m380 := m367.trans (Wr.neI wH371 (Or.inl (G_ne ga0 gvq (by decide)))).symm
    have m381 := m368.trans (Wr.neI wH371 (Or.inl (G_ne gkq gvq (by decide)))).symm
    have m382 := Wr.I wH371
    have m382 := m382.symm
    refine lv_aload_n hx hb dX4_addToken_30 rfl (lv_at hl 0 rfl) ?_
    refine x_gr C hTH371 (ci := 4) (k := 5) rfl inX4 (by decide) wF_X4_25 ga0 rg_78 rfl dX4_addToken_31 (fun q383 eq383 gq383 => ?_)
    refine lv_aload_n hx hb dX4_addToken_34 rfl (lv_at hl 0 rfl) ?_
    refine x_gi C hTH371 (ci := 4) (k := 6) rfl inX4 (by decide) wF_X4_45 ga0 rg_78 rfl dX4_addToken_35 (fun x384 ex384 bx384 => ?_)
    have ux384 : tk = x384 := (m378).trans ex384.symm
    subst ux384
    refine lv_iload_n hx hb dX4_addToken_38 rfl (lv_at hl 3 rfl) ?_
    refine x_iast C hTH371 hSH371 gq383 rg_81 (by omega) (by show _ < ((501 : Nat) : Int); omega) ⟨by have := i_rng x3; omega, by have := i_rng x3; omega⟩ (AE_in gq383 (by decide)) dX4_addToken_39 (fun H385 locsH385 hTH385 hSH385 wH385 => ?_)
    have f386 : ∀ j : Nat, j ≠ tk.toNatClampNeg → fI H385 kq j = fI s.heap kq j := fun j hj => (Wr.neI wH385 (Or.inl (G_ne gkq gq383 (by decide)))).trans (f372 j hj)
    have f387 : ∀ j : Nat, j ≠ tk.toNatClampNeg → fI H385 vq j = fI s.heap vq j := fun j hj => (Wr.neI wH385 (Or.inl (G_ne gvq gq383 (by decide)))).trans (f373 j hj)
    have m388 := m374.trans (Wr.neR wH385 (Or.inl (G_ne ga0 gq383 (by decide)))).symm
    have m389 := m375.trans (Wr.neR wH385 (Or.inl (G_ne ga0 gq383 (by decide)))).symm
    have m390 := m376.trans (Wr.neR wH385 (Or.inl (G_ne ga0 gq383 (by decide)))).symm
    have m391 := m377.trans (Wr.neI wH385 (Or.inl (G_ne ga0 gq383 (by decide)))).symm
    have m392 := m378.trans (Wr.neI wH385 (Or.inl (G_ne ga0 gq383 (by decide)))).symm
    have m393 := m379.trans (Wr.neI wH385 (Or.inl (G_ne ga0 gq383 (by decide)))).symm
    have m394 := m380.trans (Wr.neI wH385 (Or.inl (G_ne ga0 gq383 (by decide)))).symm
    have m395 := m381.trans (Wr.neI wH385 (Or.inl (G_ne gkq gq383 (by decide)))).symm
    have m396 := m382.trans (Wr.neI wH385 (Or.inl (G_ne gvq gq383 (by decide)))).symm
    have m397 := eq383.trans (Wr.neR wH385 (Or.inl (G_ne ga0 gq383 (by decide)))).symm
    have m398 := Wr.I wH385
    have m398 := m398.symm
    refine lv_aload_n hx hb dX4_addToken_40 rfl (lv_at hl 0 rfl) ?_
    refine lv_dup hx hb dX4_addToken_41 rfl ?_
    refine x_gi C hTH385 (ci := 4) (k := 6) rfl inX4 (by decide) wF_X4_45 ga0 rg_78 rfl dX4_addToken_42 (fun x399 ex399 bx399 => ?_)
    have ux399 : tk = x399 := (m392).trans ex399.symm
    subst ux399
    refine lv_iconst (v := 1) hx hb dX4_addToken_45 (by decide) ?_
    refine lv_iadd hx hb dX4_addToken_46 ?_
    refine lv_topi (fun x400 ex400 => ?_)
    have tx400 := i_add ex400 (by omega)
    refine x_put C hTH385 hSH385 (ci := 4) (k := 6) (v := .int x400) (ty0 := tyX4) rfl inX4 tyX4_ok nmX4 (by decide) rfl wF_X4_45 ga0 rg_78 rfl rfl (okI (by have := i_rng x400; omega) (by have := i_rng x400; omega)) rfl rfl (AE_in ga0 (by decide)) dX4_addToken_47 (fun H401 locsH401 hTH401 hSH401 wH401 => ?_)
    have f402 : ∀ j : Nat, j ≠ tk.toNatClampNeg → fI H401 kq j = fI s.heap kq j := fun j hj => (Wr.neI wH401 (Or.inl (G_ne gkq ga0 (by decide)))).trans (f386 j hj)
    have f403 : ∀ j : Nat, j ≠ tk.toNatClampNeg → fI H401 vq j = fI s.heap vq j := fun j hj => (Wr.neI wH401 (Or.inl (G_ne gvq ga0 (by decide)))).trans (f387 j hj)
    have m404 := m388.trans (Wr.neR wH401 (Or.inr (x_apart hKT hts inX4 tyX4 tyX4_ok nmX4 rfl 0 6 (by decide) (by decide) (by decide)))).symm
    have m405 := m389.trans (Wr.neR wH401 (Or.inr (x_apart hKT hts inX4 tyX4 tyX4_ok nmX4 rfl 3 6 (by decide) (by decide) (by decide)))).symm
    have m406 := m390.trans (Wr.neR wH401 (Or.inr (x_apart hKT hts inX4 tyX4 tyX4_ok nmX4 rfl 4 6 (by decide) (by decide) (by decide)))).symm
    have m407 := m391.trans (Wr.neI wH401 (Or.inr (x_apart hKT hts inX4 tyX4 tyX4_ok nmX4 rfl 7 6 (by decide) (by decide) (by decide)))).symm
    have m409 := m393.trans (Wr.neI wH401 (Or.inr (x_apart hKT hts inX4 tyX4 tyX4_ok nmX4 rfl 8 6 (by decide) (by decide) (by decide)))).symm
    have m410 := m394.trans (Wr.neI wH401 (Or.inr (x_apart hKT hts inX4 tyX4 tyX4_ok nmX4 rfl 1 6 (by decide) (by decide) (by decide)))).symm
    have m411 := m395.trans (Wr.neI wH401 (Or.inl (G_ne gkq ga0 (by decide)))).symm
    have m412 := m396.trans (Wr.neI wH401 (Or.inl (G_ne gvq ga0 (by decide)))).symm
    have m413 := m397.trans (Wr.neR wH401 (Or.inr (x_apart hKT hts inX4 tyX4 tyX4_ok nmX4 rfl 5 6 (by decide) (by decide) (by decide)))).symm
    have m414 := m398.trans (Wr.neI wH401 (Or.inl (G_ne gq383 ga0 (by decide)))).symm
    have m415 := Wr.I wH401
    have m415 := m415.symm
    exact x_vret C hQ dX4_addToken_50 hSH401 (by decide) (by decide) (⟨tat, x400, lw, fa, rfl, m407, m415, m409, m410, by omega, m404, m405, m406, m411, m412, f402, f403, hTH401⟩)

set_option maxHeartbeats 4000000 in
set_option maxRecDepth 100000 in
theorem a_X7_clear_e (l : Launch) (K : KE) (G : Nat → Option Nat) (H : Heap) {a0 : Nat} (li : Int32) (hT : TY K G H) (ga0 : G a0 = some 69) (eli : li = fI H a0 (K.1.2 7 0)) : MX l K yX7_clear cX7_clear 1 none 0 0 0 0 [.ref a0] H (AE G [69] H.size) (fun v H1 => ∃ (t0 : Int32), v = none ∧ t0 = fI H1 a0 (K.1.2 7 0) ∧ (t0.toInt = 0) ∧ TY K G H1) := by
  refine MX.of (by decide +kernel) (Nat.le_of_ble_eq_true rfl) ?_
  intro p e s m below meth c ls Q C hH hl hQ
  subst hH
  have C : CX p K s m _ meth c RX7 cX7_clear 1 none "clear" := C
  obtain ⟨hx, hb, hml, hown, hts, hKT, hr, hlocks, hnm⟩ := id C
  have hl : lv_has ls 1 [(0, .ref a0)] := hl
  have hS : va_S (AE G [69] s.heap.size) s.heap s.heap [] := va_S.rf
  have n_0 : (0 : Int32).toInt = 0 := rfl
  have bli := ty_fi (x := li) (k := 0) eli hT ga0 rg_69 rfl
  refine lv_aload_n hx hb dX7_clear_0 rfl (lv_at hl 0 rfl) ?_
  refine lv_iconst (v := 0) hx hb dX7_clear_1 (by decide) ?_
  refine x_put C hT hS (ci := 7) (k := 0) (v := .int 0) (ty0 := tyX7) rfl inX7 tyX7_ok nmX7 (by decide) rfl wF_X7_36 ga0 rg_69 rfl rfl (okI (by have := i_rng (0 : Int32); omega) (by have := i_rng (0 : Int32); omega)) rfl rfl (AE_in ga0 (by decide)) dX7_clear_2 (fun H125 locsH125 hTH125 hSH125 wH125 => ?_)
  have m127 := Wr.I wH125
  refine lv_aload_n hx hb dX7_clear_5 rfl (lv_at hl 0 rfl) ?_
  refine lv_iconst (v := 0) hx hb dX7_clear_6 (by decide) ?_
  refine x_put C hTH125 hSH125 (ci := 7) (k := 9) (v := .int 0) (ty0 := tyX7) rfl inX7 tyX7_ok nmX7 (by decide) rfl wF_X7_40 ga0 rg_69 rfl rfl (okI (by have := i_rng (0 : Int32); omega) (by have := i_rng (0 : Int32); omega)) rfl rfl (AE_in ga0 (by decide)) dX7_clear_7 (fun H128 locsH128 hTH128 hSH128 wH128 => ?_)
  have m129 := (Wr.neI wH128 (Or.inr (x_apart hKT hts inX7 tyX7 tyX7_ok nmX7 rfl 0 9 (by decide) (by decide) (by decide)))).trans m127
  have m130 := Wr.I wH128
  exact x_vret C hQ dX7_clear_10 hSH128 (by decide) (by decide) (⟨0, rfl, (m129).symm, by omega, hTH128⟩)

set_option maxHeartbeats 4000000 in
set_option maxRecDepth 100000 in
theorem a_X4_start_e (l : Launch) (K : KE) (G : Nat → Option Nat) (H : Heap) {a0 : Nat} {a1 : Nat} (x2 : Int32) (x3 : Int32) {mq : Nat} {kq : Nat} {vq : Nat} (tat : Int32) (tk : Int32) (lw : Int32) (fa : Int32) (li : Int32) (bt : Nat → Int) (hT : TY K G H) (ga0 : G a0 = some 78) (ga1 : G a1 = some 108) (hx2 : 0 ≤ x2.toInt ∧ x2.toInt ≤ 500) (hx3 : 0 ≤ x3.toInt ∧ x3.toInt ≤ 1) (gmq : G mq = some 69) (emq : mq = fR H a0 (K.1.2 4 0)) (gkq : G kq = some 79) (ekq : kq = fR H a0 (K.1.2 4 3)) (gvq : G vq = some 80) (evq : vq = fR H a0 (K.1.2 4 4)) (etat : tat = fI H a0 (K.1.2 4 7)) (etk : tk = fI H a0 (K.1.2 4 6)) (elw : lw = fI H a0 (K.1.2 4 8)) (efa : fa = fI H a0 (K.1.2 4 1)) (eli : li = fI H mq (K.1.2 7 0)) (hv_bt : ∀ j : Nat, bt j = (fI H a1 j).toInt) : MX l K yX4_start cX4_start 7 none 6 159 0 0 [.ref a0, .ref a1, .int x2, .int x3] H (AE G [78, 79, 80, 81, 69] H.size) (fun v H1 => ∃ (t0 : Int32) (t1 : Int32) (t2 : Int32) (t3 : Int32) (t4 : Int32), v = none ∧ t0 = fI H1 a0 (K.1.2 4 7) ∧ t1 = fI H1 a0 (K.1.2 4 6) ∧ t2 = fI H1 a0 (K.1.2 4 8) ∧ t3 = fI H1 a0 (K.1.2 4 1) ∧ t4 = fI H1 mq (K.1.2 7 0) ∧ (t0.toInt = 0 ∧ t2.toInt = x3.toInt ∧ t3.toInt = 0 ∧ t4.toInt = 0) ∧ mq = fR H1 a0 (K.1.2 4 0) ∧ kq = fR H1 a0 (K.1.2 4 3) ∧ vq = fR H1 a0 (K.1.2 4 4) ∧ (∃ F : Int32, (0 ≤ F.toInt ∧ F.toInt ≤ 500) ∧ fI H1 kq F.toNatClampNeg = 26 ∧ TKP H1 kq vq bt x2.toNatClampNeg (F.toNatClampNeg + 1)) ∧ TY K G H1) := by
  refine MX.of (by decide +kernel) (Nat.le_of_ble_eq_true rfl) ?_
  intro p e s m below meth c ls Q C hH hl hQ
  subst hH
  have C : CX p K s m _ meth c RX4 cX4_start 7 none "start" := C
  obtain ⟨hx, hb, hml, hown, hts, hKT, hr, hlocks, hnm⟩ := id C
  have hl : lv_has ls 7 [(0, .ref a0), (1, .ref a1), (2, .int x2), (3, .int x3)] := hl
  have hS : va_S (AE G [78, 79, 80, 81, 69] s.heap.size) s.heap s.heap [] := va_S.rf
  have n_m1 : ((-1) : Int32).toInt = -1 := rfl
  have n_0 : (0 : Int32).toInt = 0 := rfl
  have n_1 : (1 : Int32).toInt = 1 := rfl
  have n_5 : (5 : Int32).toInt = 5 := rfl
  have n_10 : (10 : Int32).toInt = 10 := rfl
  have n_24 : (24 : Int32).toInt = 24 := rfl
  have n_25 : (25 : Int32).toInt = 25 := rfl
  have n_26 : (26 : Int32).toInt = 26 := rfl
  have n_32 : (32 : Int32).toInt = 32 := rfl
  have btat := ty_fi (x := tat) (k := 7) etat hT ga0 rg_78 rfl
  have btk := ty_fi (x := tk) (k := 6) etk hT ga0 rg_78 rfl
  have blw := ty_fi (x := lw) (k := 8) elw hT ga0 rg_78 rfl
  have bfa := ty_fi (x := fa) (k := 1) efa hT ga0 rg_78 rfl
  have bli := ty_fi (x := li) (k := 0) eli hT gmq rg_69 rfl
  have f0_bt := hv_bt
  have f0_tp : TKP s.heap kq vq bt x2.toNatClampNeg 0 := fun j hj => absurd hj (Nat.not_lt_zero j)
  have J35 : ∀ (nf : Nat)  (ls11815 : Array Slot) (H11814 : Heap) (locsH11814 : List Loc) (x11817 : Int32) (x11818 : Int32) (x11819 : Int32) (x11820 : Int32) (x11821 : Int32) (x11822 : Int32), lv_has ls11815 7 [(0, .ref a0), (1, .ref a1), (2, .int x2), (4, .int x11817)] → TY K G H11814 → va_S (AE G [78, 79, 80, 81, 69] s.heap.size) s.heap H11814 locsH11814 → (0 ≤ x11817.toInt ∧ x11817.toInt ≤ 500) → (0 ≤ x11818.toInt ∧ x11818.toInt ≤ 500) → (0 ≤ x11819.toInt ∧ x11819.toInt ≤ 501) → (0 ≤ x11820.toInt ∧ x11820.toInt ≤ 1) → (0 ≤ x11822.toInt ∧ x11822.toInt ≤ 16) → (x11818 = fI H11814 a0 (K.1.2 4 7)) → (x11819 = fI H11814 a0 (K.1.2 4 6)) → (x11820 = fI H11814 a0 (K.1.2 4 8)) → (x11821 = fI H11814 a0 (K.1.2 4 1)) → (x11822 = fI H11814 mq (K.1.2 7 0)) → (mq = fR H11814 a0 (K.1.2 4 0)) → (kq = fR H11814 a0 (K.1.2 4 3)) → (vq = fR H11814 a0 (K.1.2 4 4)) → (∀ j : Nat, bt j = (fI H11814 a1 j).toInt) → (TKP H11814 kq vq bt x2.toNatClampNeg (x11819.toNatClampNeg)) → (500 - x11817.toInt < (nf : Int)) → (x11819.toInt ≤ x11817.toInt ∧ x11818.toInt = 0 ∧ x11820.toInt = x3.toInt ∧ x11821.toInt = 0 ∧ x11822.toInt = 0) → (skB bt x2.toNatClampNeg x11817.toNatClampNeg = skB bt x2.toNatClampNeg (pS bt x2.toNatClampNeg x11819.toNatClampNeg)) → W p l e ({ frames := 6, cells := 0, slots := 0, locals := 159 } : Room) s m (([.ref a0, .ref a1, .int x2, .int x3] : List Value).toArray) below meth c H11814 locsH11814 0 0 Q (F0 m 35 ls11815 []) := by
    intro nf
    induction nf with
    | zero =>
      intro  ls11815 H11814 locsH11814 x11817 x11818 x11819 x11820 x11821 x11822 hl11816 hTH11814 hSH11814 bx11817 bx11818 bx11819 bx11820 bx11822 ex11818 ex11819 ex11820 ex11821 ex11822 cy11823_0 cy11823_1 cy11823_2 fy11823_bt fy11823_tp hm35 iv35 hsp35
      have rx11821 := i_rng x11821
      exfalso
      omega
    | succ nf ih35 =>
      intro  ls11815 H11814 locsH11814 x11817 x11818 x11819 x11820 x11821 x11822 hl11816 hTH11814 hSH11814 bx11817 bx11818 bx11819 bx11820 bx11822 ex11818 ex11819 ex11820 ex11821 ex11822 cy11823_0 cy11823_1 cy11823_2 fy11823_bt fy11823_tp hm35 iv35 hsp35
      have rx11821 := i_rng x11821
      have J110 : ∀ (nf : Nat)  (ls11825 : Array Slot) (H11824 : Heap) (locsH11824 : List Loc) (x11828 : Int32) (x11829 : Int32) (x11830 : Int32) (x11831 : Int32) (x11832 : Int32) (x11833 : Int32) (x11834 : Int32), lv_has ls11825 7 [(0, .ref a0), (1, .ref a1), (2, .int x2), (4, .int x11828), (5, .int x11829)] → TY K G H11824 → va_S (AE G [78, 79, 80, 81, 69] s.heap.size) s.heap H11824 locsH11824 → (1 ≤ x2.toInt ∧ x2.toInt ≤ 500) → (1 ≤ x11828.toInt ∧ x11828.toInt ≤ 500) → (0 ≤ x11829.toInt ∧ x11829.toInt ≤ 499) → (0 ≤ x11830.toInt ∧ x11830.toInt ≤ 500) → (0 ≤ x11831.toInt ∧ x11831.toInt ≤ 501) → (0 ≤ x11832.toInt ∧ x11832.toInt ≤ 1) → (0 ≤ x11834.toInt ∧ x11834.toInt ≤ 16) → (x11830 = fI H11824 a0 (K.1.2 4 7)) → (x11831 = fI H11824 a0 (K.1.2 4 6)) → (x11832 = fI H11824 a0 (K.1.2 4 8)) → (x11833 = fI H11824 a0 (K.1.2 4 1)) → (x11834 = fI H11824 mq (K.1.2 7 0)) → (mq = fR H11824 a0 (K.1.2 4 0)) → (kq = fR H11824 a0 (K.1.2 4 3)) → (vq = fR H11824 a0 (K.1.2 4 4)) → (∀ j : Nat, bt j = (fI H11824 a1 j).toInt) → (TKP H11824 kq vq bt x2.toNatClampNeg (x11831.toNatClampNeg)) → (500 - x11828.toInt < (nf : Int)) → (x11831.toInt ≤ x11829.toInt ∧ x11829.toInt < x11828.toInt ∧ x11829.toInt = x11817.toInt ∧ x11831.toInt = x11819.toInt ∧ x11829.toInt < x2.toInt ∧ x11830.toInt = 0 ∧ x11832.toInt = x3.toInt ∧ x11833.toInt = 0 ∧ x11834.toInt = 0) → (enD bt x2.toNatClampNeg (x11829.toNatClampNeg + 1) = scn (inL x2.toNatClampNeg iDg bt) (500 - x11828.toNatClampNeg) x11828.toNatClampNeg) → (48 ≤ bt x11829.toNatClampNeg ∧ bt x11829.toNatClampNeg ≤ 57) → W p l e ({ frames := 6, cells := 0, slots := 0, locals := 159 } : Room) s m (([.ref a0, .ref a1, .int x2, .int x3] : List Value).toArray) below meth c H11824 locsH11824 0 0 Q (F0 m 110 ls11825 []) := by
        intro nf
        induction nf with
        | zero =>
          intro  ls11825 H11824 locsH11824 x11828 x11829 x11830 x11831 x11832 x11833 x11834 hl11826 hTH11824 hSH11824 b11827 bx11828 bx11829 bx11830 bx11831 bx11832 bx11834 ex11830 ex11831 ex11832 ex11833 ex11834 cy11835_0 cy11835_1 cy11835_2 fy11835_bt fy11835_tp hm110 iv110 hsp110 hdg110
          have rx11833 := i_rng x11833
          exfalso
          omega
        | succ nf ih110 =>
          intro  ls11825 H11824 locsH11824 x11828 x11829 x11830 x11831 x11832 x11833 x11834 hl11826 hTH11824 hSH11824 b11827 bx11828 bx11829 bx11830 bx11831 bx11832 bx11834 ex11830 ex11831 ex11832 ex11833 ex11834 cy11835_0 cy11835_1 cy11835_2 fy11835_bt fy11835_tp hm110 iv110 hsp110 hdg110
          have rx11833 := i_rng x11833
          refine lv_iload hx hb dX4_start_110 (lv_at hl11826 3 rfl) ?_
          refine lv_iload_n hx hb dX4_start_112 rfl (lv_at hl11826 2 rfl) ?_
          refine lv_icmp_ge (tgt := 132) hx hb dX4_start_113 (by decide) (fun c11836 => ?_) (fun c11836 => ?_)
          · have k11837 := i_le c11836
            refine lv_aload_n hx hb dX4_start_132 rfl (lv_at hl11826 0 rfl) ?_
            refine lv_iload hx hb dX4_start_133 (lv_at hl11826 3 rfl) ?_
            refine lv_iload hx hb dX4_start_135 (lv_at hl11826 4 rfl) ?_
            refine lv_isub hx hb dX4_start_137 ?_
            refine lv_topi (fun x11838 ex11838 => ?_)
            have tx11838 := i_sub ex11838 (by omega)
            refine lv_iconst (v := 5) hx hb dX4_start_138 (by decide) ?_
            refine lv_icmp_gt (tgt := 147) hx hb dX4_start_139 (by decide) (fun c11839 => ?_) (fun c11839 => ?_)
            · have k11840 := i_lt c11839
              refine lv_bipush (v := 25) hx hb dX4_start_147 (by decide) ?_
              refine lv_aload_n hx hb dX4_start_149 rfl (lv_at hl11826 1 rfl) ?_
              refine lv_iload hx hb dX4_start_150 (lv_at hl11826 4 rfl) ?_
              refine lv_iload hx hb dX4_start_152 (lv_at hl11826 3 rfl) ?_
              have cn_x11829 := i_cl (x := x11829) (by omega)
              have cn_x11828 := i_cl (x := x11828) (by omega)
              have cn_x2 := i_cl (x := x2) (by omega)
              have he11841 : enD bt x2.toNatClampNeg (x11829.toNatClampNeg + 1) = x11828.toNatClampNeg := hsp110.trans (scn_end (inL_o (by omega)))
              refine x_S (As := [.ref a1, .int x11829, .int x11828]) (rest := [.int 25, .ref a0]) C (a_X4_numberAt_e l K G H11824 (x11829) (x11828) bt hTH11824 ga1 (by omega) (by omega) (by omega) (enD_all he11841 hdg110) fy11835_bt) yo_X4_numberAt wM_X4_63 ⟨⟨by decide, by decide⟩, by decide, by decide⟩ rfl hl11826.1 rfl (Nat.le_of_ble_eq_true rfl) dX4_start_154 hSH11824 (AE_sub (fun _ _ => rfl) (by decide) hSH11824.1) (fun vH11842 H11842 locsH11842 pH11842 zH11842 kH11842 hSH11842 => ?_)
              obtain ⟨x11843, hvH11842, m11844, hTH11842⟩ := pH11842
              subst hvH11842
              have f11845 : ∀ j : Nat, bt j = (fI H11842 a1 j).toInt := fun j => (fy11835_bt j).trans (congrArg Int32.toInt (fI_kept (x_lt hTH11824 kH11842 ga1 (by decide))).symm)
              have f11846 : TKP H11842 kq vq bt x2.toNatClampNeg (x11831.toNatClampNeg) := TKP.kept fy11835_tp (x_lt hTH11824 kH11842 gkq (by decide)) (x_lt hTH11824 kH11842 gvq (by decide))
              have m11847 := (ex11830).trans (fI_kept (x_lt hTH11824 kH11842 ga0 (by decide))).symm
              have m11848 := (ex11831).trans (fI_kept (x_lt hTH11824 kH11842 ga0 (by decide))).symm
              have m11849 := (ex11832).trans (fI_kept (x_lt hTH11824 kH11842 ga0 (by decide))).symm
              have m11850 := (ex11833).trans (fI_kept (x_lt hTH11824 kH11842 ga0 (by decide))).symm
              have m11851 := (ex11834).trans (fI_kept (x_lt hTH11824 kH11842 gmq (by decide))).symm
              have m11852 := (cy11835_0).trans (fR_kept (x_lt hTH11824 kH11842 ga0 (by decide))).symm
              have m11853 := (cy11835_1).trans (fR_kept (x_lt hTH11824 kH11842 ga0 (by decide))).symm
              have m11854 := (cy11835_2).trans (fR_kept (x_lt hTH11824 kH11842 ga0 (by decide))).symm
              refine W.eq (g2 := F0 m 157 ls11825 [.int x11843, .int 25, .ref a0]) rfl ?_
              refine lv_iload hx hb dX4_start_157 (lv_at hl11826 4 rfl) ?_
              refine x_V (As := [.int 25, .int x11843, .int x11829]) (rest := []) C (a_X4_addToken_e l K G H11842 (25) (x11843) (x11829) (x11830) (x11831) (x11832) (x11833) hTH11842 ga0 gmq m11852 gkq m11853 gvq m11854 m11847 m11848 m11849 m11850 (by omega)) yo_X4_addToken wM_X4_56 ⟨⟨by decide, by decide⟩, by decide, by decide⟩ (x_rv C hTH11842 (ci := 4) rfl ga0 rg_78) rfl hl11826.1 rfl (Nat.le_of_ble_eq_true rfl) dX4_start_159 hSH11842 (AE_sub (fun _ _ => rfl) (by decide) hSH11842.1) (fun vH11855 H11855 locsH11855 pH11855 zH11855 kH11855 hSH11855 => ?_)
              obtain ⟨x11856, x11857, x11858, x11859, hvH11855, ex11856, ex11857, ex11858, ex11859, hrH11855, m11860, m11861, m11862, m11863, m11864, m11865, m11866, hTH11855⟩ := pH11855
              subst hvH11855
              have f11867 : ∀ j : Nat, bt j = (fI H11855 a1 j).toInt := fun j => (f11845 j).trans (congrArg Int32.toInt (fI_kept (x_lt hTH11842 kH11855 ga1 (by decide))).symm)
              have m11868 := (m11851).trans (fI_kept (x_lt hTH11842 kH11855 gmq (by decide))).symm
              have bx11856 := ty_fi (x := x11856) (k := 7) ex11856 hTH11855 ga0 rg_78 rfl
              have bx11857 := ty_fi (x := x11857) (k := 6) ex11857 hTH11855 ga0 rg_78 rfl
              have bx11858 := ty_fi (x := x11858) (k := 8) ex11858 hTH11855 ga0 rg_78 rfl
              have bx11859 := ty_fi (x := x11859) (k := 1) ex11859 hTH11855 ga0 rg_78 rfl
              have cn_x11831 := i_cl (x := x11831) (by omega)
              have cn_x11831 := i_cl (x := x11831) (by omega)
              have cn_x11828 := i_cl (x := x11828) (by omega)
              have cn_x2 := i_cl (x := x2) (by omega)
              have cn_x11829 := i_cl (x := x11829) (by omega)
              have cn_x11817 := i_cl (x := x11817) (by omega)
              have cn_x11819 := i_cl (x := x11819) (by omega)
              have hs11872 : skB bt x2.toNatClampNeg x11829.toNatClampNeg = skB bt x2.toNatClampNeg (pS bt x2.toNatClampNeg x11831.toNatClampNeg) := by rw [show x11829.toNatClampNeg = x11817.toNatClampNeg by omega, show x11831.toNatClampNeg = x11819.toNatClampNeg by omega]; exact hsp35
              obtain ⟨tk11869, tk11870, tk11871⟩ := tok_d hs11872 (by omega) hdg110 he11841
              have f11873 : TKP H11855 kq vq bt x2.toNatClampNeg (x11831.toNatClampNeg + 1) := TKP.add f11846 m11865 m11866 m11863 m11864 (by omega) (by rw [tk11869, if_neg (by omega)]; rfl) (by rw [tk11870]; exact m11844.symm)
              refine W.eq (g2 := F0 m 162 ls11825 []) rfl ?_
              refine lv_goto (tgt := 201) hx hb dX4_start_162 (by decide) ?_
              refine lv_goto (tgt := 35) hx hb dX4_start_201 (by decide) ?_
              have cn_x11831 := i_cl (x := x11831) (by omega)
              have cn_x11857 := i_cl (x := x11857) (by omega)
              have cl00 : (0 : Int32).toNatClampNeg = 0 := rfl
              have cn_x11828 := i_cl (x := x11828) (by omega)
              have cn_x11857 := i_cl (x := x11857) (by omega)
              have cn_x11819 := i_cl (x := x11819) (by omega)
              have cn_x2 := i_cl (x := x2) (by omega)
              have cn_x11831 := i_cl (x := x11831) (by omega)
              exact ih35  ls11825 H11855 locsH11855 (x11828) (x11856) (x11857) (x11858) (x11859) (x11834) (lv_sub hl11826 [0, 1, 2, 3] rfl) hTH11855 hSH11855 (by have := i_rng x11828; omega) (by have := i_rng x11856; omega) (by have := i_rng x11857; omega) (by have := i_rng x11858; omega) (by have := i_rng x11834; omega) ex11856 ex11857 ex11858 ex11859 m11868 m11860 m11861 m11862 f11867 (TKP.to f11873 (by omega)) (by omega) (by omega) (by rw [show x11857.toNatClampNeg = x11831.toNatClampNeg + 1 by omega, tk11871])
            · have k11840 := i_nlt c11839
              refine lv_bipush (v := 24) hx hb dX4_start_142 (by decide) ?_
              refine lv_goto (tgt := 149) hx hb dX4_start_144 (by decide) ?_
              refine lv_aload_n hx hb dX4_start_149 rfl (lv_at hl11826 1 rfl) ?_
              refine lv_iload hx hb dX4_start_150 (lv_at hl11826 4 rfl) ?_
              refine lv_iload hx hb dX4_start_152 (lv_at hl11826 3 rfl) ?_
              have cn_x11829 := i_cl (x := x11829) (by omega)
              have cn_x11828 := i_cl (x := x11828) (by omega)
              have cn_x2 := i_cl (x := x2) (by omega)
              have he11874 : enD bt x2.toNatClampNeg (x11829.toNatClampNeg + 1) = x11828.toNatClampNeg := hsp110.trans (scn_end (inL_o (by omega)))
              refine x_S (As := [.ref a1, .int x11829, .int x11828]) (rest := [.int 24, .ref a0]) C (a_X4_numberAt_e l K G H11824 (x11829) (x11828) bt hTH11824 ga1 (by omega) (by omega) (by omega) (enD_all he11874 hdg110) fy11835_bt) yo_X4_numberAt wM_X4_63 ⟨⟨by decide, by decide⟩, by decide, by decide⟩ rfl hl11826.1 rfl (Nat.le_of_ble_eq_true rfl) dX4_start_154 hSH11824 (AE_sub (fun _ _ => rfl) (by decide) hSH11824.1) (fun vH11875 H11875 locsH11875 pH11875 zH11875 kH11875 hSH11875 => ?_)
              obtain ⟨x11876, hvH11875, m11877, hTH11875⟩ := pH11875
              subst hvH11875
              have f11878 : ∀ j : Nat, bt j = (fI H11875 a1 j).toInt := fun j => (fy11835_bt j).trans (congrArg Int32.toInt (fI_kept (x_lt hTH11824 kH11875 ga1 (by decide))).symm)
              have f11879 : TKP H11875 kq vq bt x2.toNatClampNeg (x11831.toNatClampNeg) := TKP.kept fy11835_tp (x_lt hTH11824 kH11875 gkq (by decide)) (x_lt hTH11824 kH11875 gvq (by decide))
              have m11880 := (ex11830).trans (fI_kept (x_lt hTH11824 kH11875 ga0 (by decide))).symm
              have m11881 := (ex11831).trans (fI_kept (x_lt hTH11824 kH11875 ga0 (by decide))).symm
              have m11882 := (ex11832).trans (fI_kept (x_lt hTH11824 kH11875 ga0 (by decide))).symm
              have m11883 := (ex11833).trans (fI_kept (x_lt hTH11824 kH11875 ga0 (by decide))).symm
              have m11884 := (ex11834).trans (fI_kept (x_lt hTH11824 kH11875 gmq (by decide))).symm
              have m11885 := (cy11835_0).trans (fR_kept (x_lt hTH11824 kH11875 ga0 (by decide))).symm
              have m11886 := (cy11835_1).trans (fR_kept (x_lt hTH11824 kH11875 ga0 (by decide))).symm
              have m11887 := (cy11835_2).trans (fR_kept (x_lt hTH11824 kH11875 ga0 (by decide))).symm
              refine W.eq (g2 := F0 m 157 ls11825 [.int x11876, .int 24, .ref a0]) rfl ?_
              refine lv_iload hx hb dX4_start_157 (lv_at hl11826 4 rfl) ?_
              refine x_V (As := [.int 24, .int x11876, .int x11829]) (rest := []) C (a_X4_addToken_e l K G H11875 (24) (x11876) (x11829) (x11830) (x11831) (x11832) (x11833) hTH11875 ga0 gmq m11885 gkq m11886 gvq m11887 m11880 m11881 m11882 m11883 (by omega)) yo_X4_addToken wM_X4_56 ⟨⟨by decide, by decide⟩, by decide, by decide⟩ (x_rv C hTH11875 (ci := 4) rfl ga0 rg_78) rfl hl11826.1 rfl (Nat.le_of_ble_eq_true rfl) dX4_start_159 hSH11875 (AE_sub (fun _ _ => rfl) (by decide) hSH11875.1) (fun vH11888 H11888 locsH11888 pH11888 zH11888 kH11888 hSH11888 => ?_)
              obtain ⟨x11889, x11890, x11891, x11892, hvH11888, ex11889, ex11890, ex11891, ex11892, hrH11888, m11893, m11894, m11895, m11896, m11897, m11898, m11899, hTH11888⟩ := pH11888
              subst hvH11888
              have f11900 : ∀ j : Nat, bt j = (fI H11888 a1 j).toInt := fun j => (f11878 j).trans (congrArg Int32.toInt (fI_kept (x_lt hTH11875 kH11888 ga1 (by decide))).symm)
              have m11901 := (m11884).trans (fI_kept (x_lt hTH11875 kH11888 gmq (by decide))).symm
              have bx11889 := ty_fi (x := x11889) (k := 7) ex11889 hTH11888 ga0 rg_78 rfl
              have bx11890 := ty_fi (x := x11890) (k := 6) ex11890 hTH11888 ga0 rg_78 rfl
              have bx11891 := ty_fi (x := x11891) (k := 8) ex11891 hTH11888 ga0 rg_78 rfl
              have bx11892 := ty_fi (x := x11892) (k := 1) ex11892 hTH11888 ga0 rg_78 rfl
              have cn_x11831 := i_cl (x := x11831) (by omega)
              have cn_x11831 := i_cl (x := x11831) (by omega)
              have cn_x11828 := i_cl (x := x11828) (by omega)
              have cn_x2 := i_cl (x := x2) (by omega)
              have cn_x11829 := i_cl (x := x11829) (by omega)
              have cn_x11817 := i_cl (x := x11817) (by omega)
              have cn_x11819 := i_cl (x := x11819) (by omega)
              have hs11905 : skB bt x2.toNatClampNeg x11829.toNatClampNeg = skB bt x2.toNatClampNeg (pS bt x2.toNatClampNeg x11831.toNatClampNeg) := by rw [show x11829.toNatClampNeg = x11817.toNatClampNeg by omega, show x11831.toNatClampNeg = x11819.toNatClampNeg by omega]; exact hsp35
              obtain ⟨tk11902, tk11903, tk11904⟩ := tok_d hs11905 (by omega) hdg110 he11874
              have f11906 : TKP H11888 kq vq bt x2.toNatClampNeg (x11831.toNatClampNeg + 1) := TKP.add f11879 m11898 m11899 m11896 m11897 (by omega) (by rw [tk11902, if_pos (by omega)]; rfl) (by rw [tk11903]; exact m11877.symm)
              refine W.eq (g2 := F0 m 162 ls11825 []) rfl ?_
              refine lv_goto (tgt := 201) hx hb dX4_start_162 (by decide) ?_
              refine lv_goto (tgt := 35) hx hb dX4_start_201 (by decide) ?_
              have cn_x11831 := i_cl (x := x11831) (by omega)
              have cn_x11890 := i_cl (x := x11890) (by omega)
              have cl00 : (0 : Int32).toNatClampNeg = 0 := rfl
              have cn_x11828 := i_cl (x := x11828) (by omega)
              have cn_x11890 := i_cl (x := x11890) (by omega)
              have cn_x11819 := i_cl (x := x11819) (by omega)
              have cn_x2 := i_cl (x := x2) (by omega)
              have cn_x11831 := i_cl (x := x11831) (by omega)
              exact ih35  ls11825 H11888 locsH11888 (x11828) (x11889) (x11890) (x11891) (x11892) (x11834) (lv_sub hl11826 [0, 1, 2, 3] rfl) hTH11888 hSH11888 (by have := i_rng x11828; omega) (by have := i_rng x11889; omega) (by have := i_rng x11890; omega) (by have := i_rng x11891; omega) (by have := i_rng x11834; omega) ex11889 ex11890 ex11891 ex11892 m11901 m11893 m11894 m11895 f11900 (TKP.to f11906 (by omega)) (by omega) (by omega) (by rw [show x11890.toNatClampNeg = x11831.toNatClampNeg + 1 by omega, tk11904])
          · have k11837 := i_nle c11836
            refine lv_aload_n hx hb dX4_start_116 rfl (lv_at hl11826 1 rfl) ?_
            refine lv_iload hx hb dX4_start_117 (lv_at hl11826 3 rfl) ?_
            refine x_ai C hTH11824 ga1 rg_108 ⟨by omega, by show _ < ((500 : Nat) : Int); omega⟩ dX4_start_119 (fun x11907 ex11907 bx11907 => ?_)
            have qvx11907 : bt x11828.toNatClampNeg = x11907.toInt := (fy11835_bt _).trans (congrArg Int32.toInt ex11907.symm)
            refine x_S (As := [.int x11907]) (rest := []) C (a_X4_isDigit_e l K G H11824 (x11907) hTH11824 ) yo_X4_isDigit wM_X4_60 ⟨⟨by decide, by decide⟩, by decide, by decide⟩ rfl hl11826.1 rfl (Nat.le_of_ble_eq_true rfl) dX4_start_120 hSH11824 (AE_sub (fun _ _ => rfl) (by decide) hSH11824.1) (fun vH11908 H11908 locsH11908 pH11908 zH11908 kH11908 hSH11908 => ?_)
            obtain ⟨x11909, hvH11908, bx11909, hrH11908, hTH11908⟩ := pH11908
            subst hvH11908
            have f11910 : ∀ j : Nat, bt j = (fI H11908 a1 j).toInt := fun j => (fy11835_bt j).trans (congrArg Int32.toInt (fI_kept (x_lt hTH11824 kH11908 ga1 (by decide))).symm)
            have f11911 : TKP H11908 kq vq bt x2.toNatClampNeg (x11831.toNatClampNeg) := TKP.kept fy11835_tp (x_lt hTH11824 kH11908 gkq (by decide)) (x_lt hTH11824 kH11908 gvq (by decide))
            have m11912 := (ex11830).trans (fI_kept (x_lt hTH11824 kH11908 ga0 (by decide))).symm
            have m11913 := (ex11831).trans (fI_kept (x_lt hTH11824 kH11908 ga0 (by decide))).symm
            have m11914 := (ex11832).trans (fI_kept (x_lt hTH11824 kH11908 ga0 (by decide))).symm
            have m11915 := (ex11833).trans (fI_kept (x_lt hTH11824 kH11908 ga0 (by decide))).symm
            have m11916 := (ex11834).trans (fI_kept (x_lt hTH11824 kH11908 gmq (by decide))).symm
            have m11917 := (cy11835_0).trans (fR_kept (x_lt hTH11824 kH11908 ga0 (by decide))).symm
            have m11918 := (cy11835_1).trans (fR_kept (x_lt hTH11824 kH11908 ga0 (by decide))).symm
            have m11919 := (cy11835_2).trans (fR_kept (x_lt hTH11824 kH11908 ga0 (by decide))).symm
            have m11920 := (ex11907).trans (fI_kept (x_lt hTH11824 kH11908 ga1 (by decide))).symm
            refine W.eq (g2 := F0 m 123 ls11825 [.int x11909]) rfl ?_
            refine lv_if_eq (tgt := 132) hx hb dX4_start_123 (by decide) (fun c11921 => ?_) (fun c11921 => ?_)
            · have k11922 := i_eq c11921
              refine lv_aload_n hx hb dX4_start_132 rfl (lv_at hl11826 0 rfl) ?_
              refine lv_iload hx hb dX4_start_133 (lv_at hl11826 3 rfl) ?_
              refine lv_iload hx hb dX4_start_135 (lv_at hl11826 4 rfl) ?_
              refine lv_isub hx hb dX4_start_137 ?_
              refine lv_topi (fun x11923 ex11923 => ?_)
              have tx11923 := i_sub ex11923 (by omega)
              refine lv_iconst (v := 5) hx hb dX4_start_138 (by decide) ?_
              refine lv_icmp_gt (tgt := 147) hx hb dX4_start_139 (by decide) (fun c11924 => ?_) (fun c11924 => ?_)
              · have k11925 := i_lt c11924
                refine lv_bipush (v := 25) hx hb dX4_start_147 (by decide) ?_
                refine lv_aload_n hx hb dX4_start_149 rfl (lv_at hl11826 1 rfl) ?_
                refine lv_iload hx hb dX4_start_150 (lv_at hl11826 4 rfl) ?_
                refine lv_iload hx hb dX4_start_152 (lv_at hl11826 3 rfl) ?_
                have cn_x11829 := i_cl (x := x11829) (by omega)
                have cn_x11828 := i_cl (x := x11828) (by omega)
                have cn_x2 := i_cl (x := x2) (by omega)
                have he11926 : enD bt x2.toNatClampNeg (x11829.toNatClampNeg + 1) = x11828.toNatClampNeg := hsp110.trans (scn_end (inL_n (iDg_n (by rw [qvx11907]; omega))))
                refine x_S (As := [.ref a1, .int x11829, .int x11828]) (rest := [.int 25, .ref a0]) C (a_X4_numberAt_e l K G H11908 (x11829) (x11828) bt hTH11908 ga1 (by omega) (by omega) (by omega) (enD_all he11926 hdg110) f11910) yo_X4_numberAt wM_X4_63 ⟨⟨by decide, by decide⟩, by decide, by decide⟩ rfl hl11826.1 rfl (Nat.le_of_ble_eq_true rfl) dX4_start_154 hSH11908 (AE_sub (fun _ _ => rfl) (by decide) hSH11908.1) (fun vH11927 H11927 locsH11927 pH11927 zH11927 kH11927 hSH11927 => ?_)
                obtain ⟨x11928, hvH11927, m11929, hTH11927⟩ := pH11927
                subst hvH11927
                have f11930 : ∀ j : Nat, bt j = (fI H11927 a1 j).toInt := fun j => (f11910 j).trans (congrArg Int32.toInt (fI_kept (x_lt hTH11908 kH11927 ga1 (by decide))).symm)
                have f11931 : TKP H11927 kq vq bt x2.toNatClampNeg (x11831.toNatClampNeg) := TKP.kept f11911 (x_lt hTH11908 kH11927 gkq (by decide)) (x_lt hTH11908 kH11927 gvq (by decide))
                have m11932 := (m11912).trans (fI_kept (x_lt hTH11908 kH11927 ga0 (by decide))).symm
                have m11933 := (m11913).trans (fI_kept (x_lt hTH11908 kH11927 ga0 (by decide))).symm
                have m11934 := (m11914).trans (fI_kept (x_lt hTH11908 kH11927 ga0 (by decide))).symm
                have m11935 := (m11915).trans (fI_kept (x_lt hTH11908 kH11927 ga0 (by decide))).symm
                have m11936 := (m11916).trans (fI_kept (x_lt hTH11908 kH11927 gmq (by decide))).symm
                have m11937 := (m11917).trans (fR_kept (x_lt hTH11908 kH11927 ga0 (by decide))).symm
                have m11938 := (m11918).trans (fR_kept (x_lt hTH11908 kH11927 ga0 (by decide))).symm
                have m11939 := (m11919).trans (fR_kept (x_lt hTH11908 kH11927 ga0 (by decide))).symm
                have m11940 := (m11920).trans (fI_kept (x_lt hTH11908 kH11927 ga1 (by decide))).symm
                refine W.eq (g2 := F0 m 157 ls11825 [.int x11928, .int 25, .ref a0]) rfl ?_
                refine lv_iload hx hb dX4_start_157 (lv_at hl11826 4 rfl) ?_
                refine x_V (As := [.int 25, .int x11928, .int x11829]) (rest := []) C (a_X4_addToken_e l K G H11927 (25) (x11928) (x11829) (x11830) (x11831) (x11832) (x11833) hTH11927 ga0 gmq m11937 gkq m11938 gvq m11939 m11932 m11933 m11934 m11935 (by omega)) yo_X4_addToken wM_X4_56 ⟨⟨by decide, by decide⟩, by decide, by decide⟩ (x_rv C hTH11927 (ci := 4) rfl ga0 rg_78) rfl hl11826.1 rfl (Nat.le_of_ble_eq_true rfl) dX4_start_159 hSH11927 (AE_sub (fun _ _ => rfl) (by decide) hSH11927.1) (fun vH11941 H11941 locsH11941 pH11941 zH11941 kH11941 hSH11941 => ?_)
                obtain ⟨x11942, x11943, x11944, x11945, hvH11941, ex11942, ex11943, ex11944, ex11945, hrH11941, m11946, m11947, m11948, m11949, m11950, m11951, m11952, hTH11941⟩ := pH11941
                subst hvH11941
                have f11953 : ∀ j : Nat, bt j = (fI H11941 a1 j).toInt := fun j => (f11930 j).trans (congrArg Int32.toInt (fI_kept (x_lt hTH11927 kH11941 ga1 (by decide))).symm)
                have m11954 := (m11936).trans (fI_kept (x_lt hTH11927 kH11941 gmq (by decide))).symm
                have m11955 := (m11940).trans (fI_kept (x_lt hTH11927 kH11941 ga1 (by decide))).symm
                have bx11942 := ty_fi (x := x11942) (k := 7) ex11942 hTH11941 ga0 rg_78 rfl
                have bx11943 := ty_fi (x := x11943) (k := 6) ex11943 hTH11941 ga0 rg_78 rfl
                have bx11944 := ty_fi (x := x11944) (k := 8) ex11944 hTH11941 ga0 rg_78 rfl
                have bx11945 := ty_fi (x := x11945) (k := 1) ex11945 hTH11941 ga0 rg_78 rfl
                have cn_x11831 := i_cl (x := x11831) (by omega)
                have cn_x11831 := i_cl (x := x11831) (by omega)
                have cn_x11828 := i_cl (x := x11828) (by omega)
                have cn_x2 := i_cl (x := x2) (by omega)
                have cn_x11829 := i_cl (x := x11829) (by omega)
                have cn_x11817 := i_cl (x := x11817) (by omega)
                have cn_x11819 := i_cl (x := x11819) (by omega)
                have hs11959 : skB bt x2.toNatClampNeg x11829.toNatClampNeg = skB bt x2.toNatClampNeg (pS bt x2.toNatClampNeg x11831.toNatClampNeg) := by rw [show x11829.toNatClampNeg = x11817.toNatClampNeg by omega, show x11831.toNatClampNeg = x11819.toNatClampNeg by omega]; exact hsp35
                obtain ⟨tk11956, tk11957, tk11958⟩ := tok_d hs11959 (by omega) hdg110 he11926
                have f11960 : TKP H11941 kq vq bt x2.toNatClampNeg (x11831.toNatClampNeg + 1) := TKP.add f11931 m11951 m11952 m11949 m11950 (by omega) (by rw [tk11956, if_neg (by omega)]; rfl) (by rw [tk11957]; exact m11929.symm)
                refine W.eq (g2 := F0 m 162 ls11825 []) rfl ?_
                refine lv_goto (tgt := 201) hx hb dX4_start_162 (by decide) ?_
                refine lv_goto (tgt := 35) hx hb dX4_start_201 (by decide) ?_
                have cn_x11831 := i_cl (x := x11831) (by omega)
                have cn_x11943 := i_cl (x := x11943) (by omega)
                have cl00 : (0 : Int32).toNatClampNeg = 0 := rfl
                have cn_x11828 := i_cl (x := x11828) (by omega)
                have cn_x11943 := i_cl (x := x11943) (by omega)
                have cn_x11819 := i_cl (x := x11819) (by omega)
                have cn_x2 := i_cl (x := x2) (by omega)
                have cn_x11831 := i_cl (x := x11831) (by omega)
                exact ih35  ls11825 H11941 locsH11941 (x11828) (x11942) (x11943) (x11944) (x11945) (x11834) (lv_sub hl11826 [0, 1, 2, 3] rfl) hTH11941 hSH11941 (by have := i_rng x11828; omega) (by have := i_rng x11942; omega) (by have := i_rng x11943; omega) (by have := i_rng x11944; omega) (by have := i_rng x11834; omega) ex11942 ex11943 ex11944 ex11945 m11954 m11946 m11947 m11948 f11953 (TKP.to f11960 (by omega)) (by omega) (by omega) (by rw [show x11943.toNatClampNeg = x11831.toNatClampNeg + 1 by omega, tk11958])
              · have k11925 := i_nlt c11924
                refine lv_bipush (v := 24) hx hb dX4_start_142 (by decide) ?_
                refine lv_goto (tgt := 149) hx hb dX4_start_144 (by decide) ?_
                refine lv_aload_n hx hb dX4_start_149 rfl (lv_at hl11826 1 rfl) ?_
                refine lv_iload hx hb dX4_start_150 (lv_at hl11826 4 rfl) ?_
                refine lv_iload hx hb dX4_start_152 (lv_at hl11826 3 rfl) ?_
                have cn_x11829 := i_cl (x := x11829) (by omega)
                have cn_x11828 := i_cl (x := x11828) (by omega)
                have cn_x2 := i_cl (x := x2) (by omega)
                have he11961 : enD bt x2.toNatClampNeg (x11829.toNatClampNeg + 1) = x11828.toNatClampNeg := hsp110.trans (scn_end (inL_n (iDg_n (by rw [qvx11907]; omega))))
                refine x_S (As := [.ref a1, .int x11829, .int x11828]) (rest := [.int 24, .ref a0]) C (a_X4_numberAt_e l K G H11908 (x11829) (x11828) bt hTH11908 ga1 (by omega) (by omega) (by omega) (enD_all he11961 hdg110) f11910) yo_X4_numberAt wM_X4_63 ⟨⟨by decide, by decide⟩, by decide, by decide⟩ rfl hl11826.1 rfl (Nat.le_of_ble_eq_true rfl) dX4_start_154 hSH11908 (AE_sub (fun _ _ => rfl) (by decide) hSH11908.1) (fun vH11962 H11962 locsH11962 pH11962 zH11962 kH11962 hSH11962 => ?_)
                obtain ⟨x11963, hvH11962, m11964, hTH11962⟩ := pH11962
                subst hvH11962
                have f11965 : ∀ j : Nat, bt j = (fI H11962 a1 j).toInt := fun j => (f11910 j).trans (congrArg Int32.toInt (fI_kept (x_lt hTH11908 kH11962 ga1 (by decide))).symm)
                have f11966 : TKP H11962 kq vq bt x2.toNatClampNeg (x11831.toNatClampNeg) := TKP.kept f11911 (x_lt hTH11908 kH11962 gkq (by decide)) (x_lt hTH11908 kH11962 gvq (by decide))
                have m11967 := (m11912).trans (fI_kept (x_lt hTH11908 kH11962 ga0 (by decide))).symm
                have m11968 := (m11913).trans (fI_kept (x_lt hTH11908 kH11962 ga0 (by decide))).symm
                have m11969 := (m11914).trans (fI_kept (x_lt hTH11908 kH11962 ga0 (by decide))).symm
                have m11970 := (m11915).trans (fI_kept (x_lt hTH11908 kH11962 ga0 (by decide))).symm
                have m11971 := (m11916).trans (fI_kept (x_lt hTH11908 kH11962 gmq (by decide))).symm
                have m11972 := (m11917).trans (fR_kept (x_lt hTH11908 kH11962 ga0 (by decide))).symm
                have m11973 := (m11918).trans (fR_kept (x_lt hTH11908 kH11962 ga0 (by decide))).symm
                have m11974 := (m11919).trans (fR_kept (x_lt hTH11908 kH11962 ga0 (by decide))).symm
                have m11975 := (m11920).trans (fI_kept (x_lt hTH11908 kH11962 ga1 (by decide))).symm
                refine W.eq (g2 := F0 m 157 ls11825 [.int x11963, .int 24, .ref a0]) rfl ?_
                refine lv_iload hx hb dX4_start_157 (lv_at hl11826 4 rfl) ?_
                refine x_V (As := [.int 24, .int x11963, .int x11829]) (rest := []) C (a_X4_addToken_e l K G H11962 (24) (x11963) (x11829) (x11830) (x11831) (x11832) (x11833) hTH11962 ga0 gmq m11972 gkq m11973 gvq m11974 m11967 m11968 m11969 m11970 (by omega)) yo_X4_addToken wM_X4_56 ⟨⟨by decide, by decide⟩, by decide, by decide⟩ (x_rv C hTH11962 (ci := 4) rfl ga0 rg_78) rfl hl11826.1 rfl (Nat.le_of_ble_eq_true rfl) dX4_start_159 hSH11962 (AE_sub (fun _ _ => rfl) (by decide) hSH11962.1) (fun vH11976 H11976 locsH11976 pH11976 zH11976 kH11976 hSH11976 => ?_)
                obtain ⟨x11977, x11978, x11979, x11980, hvH11976, ex11977, ex11978, ex11979, ex11980, hrH11976, m11981, m11982, m11983, m11984, m11985, m11986, m11987, hTH11976⟩ := pH11976
                subst hvH11976
                have f11988 : ∀ j : Nat, bt j = (fI H11976 a1 j).toInt := fun j => (f11965 j).trans (congrArg Int32.toInt (fI_kept (x_lt hTH11962 kH11976 ga1 (by decide))).symm)
                have m11989 := (m11971).trans (fI_kept (x_lt hTH11962 kH11976 gmq (by decide))).symm
                have m11990 := (m11975).trans (fI_kept (x_lt hTH11962 kH11976 ga1 (by decide))).symm
                have bx11977 := ty_fi (x := x11977) (k := 7) ex11977 hTH11976 ga0 rg_78 rfl
                have bx11978 := ty_fi (x := x11978) (k := 6) ex11978 hTH11976 ga0 rg_78 rfl
                have bx11979 := ty_fi (x := x11979) (k := 8) ex11979 hTH11976 ga0 rg_78 rfl
                have bx11980 := ty_fi (x := x11980) (k := 1) ex11980 hTH11976 ga0 rg_78 rfl
                have cn_x11831 := i_cl (x := x11831) (by omega)
                have cn_x11831 := i_cl (x := x11831) (by omega)
                have cn_x11828 := i_cl (x := x11828) (by omega)
                have cn_x2 := i_cl (x := x2) (by omega)
                have cn_x11829 := i_cl (x := x11829) (by omega)
                have cn_x11817 := i_cl (x := x11817) (by omega)
                have cn_x11819 := i_cl (x := x11819) (by omega)
                have hs11994 : skB bt x2.toNatClampNeg x11829.toNatClampNeg = skB bt x2.toNatClampNeg (pS bt x2.toNatClampNeg x11831.toNatClampNeg) := by rw [show x11829.toNatClampNeg = x11817.toNatClampNeg by omega, show x11831.toNatClampNeg = x11819.toNatClampNeg by omega]; exact hsp35
                obtain ⟨tk11991, tk11992, tk11993⟩ := tok_d hs11994 (by omega) hdg110 he11961
                have f11995 : TKP H11976 kq vq bt x2.toNatClampNeg (x11831.toNatClampNeg + 1) := TKP.add f11966 m11986 m11987 m11984 m11985 (by omega) (by rw [tk11991, if_pos (by omega)]; rfl) (by rw [tk11992]; exact m11964.symm)
                refine W.eq (g2 := F0 m 162 ls11825 []) rfl ?_
                refine lv_goto (tgt := 201) hx hb dX4_start_162 (by decide) ?_
                refine lv_goto (tgt := 35) hx hb dX4_start_201 (by decide) ?_
                have cn_x11831 := i_cl (x := x11831) (by omega)
                have cn_x11978 := i_cl (x := x11978) (by omega)
                have cl00 : (0 : Int32).toNatClampNeg = 0 := rfl
                have cn_x11828 := i_cl (x := x11828) (by omega)
                have cn_x11978 := i_cl (x := x11978) (by omega)
                have cn_x11819 := i_cl (x := x11819) (by omega)
                have cn_x2 := i_cl (x := x2) (by omega)
                have cn_x11831 := i_cl (x := x11831) (by omega)
                exact ih35  ls11825 H11976 locsH11976 (x11828) (x11977) (x11978) (x11979) (x11980) (x11834) (lv_sub hl11826 [0, 1, 2, 3] rfl) hTH11976 hSH11976 (by have := i_rng x11828; omega) (by have := i_rng x11977; omega) (by have := i_rng x11978; omega) (by have := i_rng x11979; omega) (by have := i_rng x11834; omega) ex11977 ex11978 ex11979 ex11980 m11989 m11981 m11982 m11983 f11988 (TKP.to f11995 (by omega)) (by omega) (by omega) (by rw [show x11978.toNatClampNeg = x11831.toNatClampNeg + 1 by omega, tk11993])
            · have k11922 := i_ne c11921
              obtain ⟨x11996, ex11996⟩ : ∃ y : Int32, y = x11828 + 1 := ⟨_, rfl⟩
              have tx11996 := i_add ex11996 (by omega)
              refine lv_iinc (v := x11996) (lv' := [(4, .int x11996), (0, .ref a0), (1, .ref a1), (2, .int x2), (5, .int x11829)]) hx hb dX4_start_126 hl11826 (k := 3) rfl (by rw [ex11996]; rfl) (by decide) rfl (fun ls11997 hl11998 => ?_)
              refine lv_goto (tgt := 110) hx hb dX4_start_129 (by decide) ?_
              have cn_x11831 := i_cl (x := x11831) (by omega)
              have cn_x11831 := i_cl (x := x11831) (by omega)
              have cl00 : (0 : Int32).toNatClampNeg = 0 := rfl
              have cn_x11996 := i_cl (x := x11996) (by omega)
              have cn_x11829 := i_cl (x := x11829) (by omega)
              have cn_x2 := i_cl (x := x2) (by omega)
              have cn_x11828 := i_cl (x := x11828) (by omega)
              exact ih110  ls11997 H11908 locsH11908 (x11996) (x11829) (x11830) (x11831) (x11832) (x11833) (x11834) (lv_sub hl11998 [1, 2, 3, 0, 4] rfl) hTH11908 hSH11908 (by have := i_rng x2; omega) (by have := i_rng x11996; omega) (by have := i_rng x11829; omega) (by have := i_rng x11830; omega) (by have := i_rng x11831; omega) (by have := i_rng x11832; omega) (by have := i_rng x11834; omega) m11912 m11913 m11914 m11915 m11916 m11917 m11918 m11919 f11910 (TKP.to f11911 (by omega)) (by omega) (by omega) (hsp110.trans (scn_go (inL_y (by omega) (iDg_y (by rw [qvx11907]; omega))) (by omega) (by omega))) hdg110
      have J62 : ∀ (nf : Nat)  (ls12000 : Array Slot) (H11999 : Heap) (locsH11999 : List Loc) (x12003 : Int32) (x12004 : Int32) (x12005 : Int32) (x12006 : Int32) (x12007 : Int32) (x12008 : Int32) (x12009 : Int32), lv_has ls12000 7 [(0, .ref a0), (1, .ref a1), (2, .int x2), (4, .int x12003), (5, .int x12004)] → TY K G H11999 → va_S (AE G [78, 79, 80, 81, 69] s.heap.size) s.heap H11999 locsH11999 → (1 ≤ x2.toInt ∧ x2.toInt ≤ 500) → (1 ≤ x12003.toInt ∧ x12003.toInt ≤ 500) → (0 ≤ x12004.toInt ∧ x12004.toInt ≤ 499) → (0 ≤ x12005.toInt ∧ x12005.toInt ≤ 500) → (0 ≤ x12006.toInt ∧ x12006.toInt ≤ 501) → (0 ≤ x12007.toInt ∧ x12007.toInt ≤ 1) → (0 ≤ x12009.toInt ∧ x12009.toInt ≤ 16) → (x12005 = fI H11999 a0 (K.1.2 4 7)) → (x12006 = fI H11999 a0 (K.1.2 4 6)) → (x12007 = fI H11999 a0 (K.1.2 4 8)) → (x12008 = fI H11999 a0 (K.1.2 4 1)) → (x12009 = fI H11999 mq (K.1.2 7 0)) → (mq = fR H11999 a0 (K.1.2 4 0)) → (kq = fR H11999 a0 (K.1.2 4 3)) → (vq = fR H11999 a0 (K.1.2 4 4)) → (∀ j : Nat, bt j = (fI H11999 a1 j).toInt) → (TKP H11999 kq vq bt x2.toNatClampNeg (x12006.toNatClampNeg)) → (500 - x12003.toInt < (nf : Int)) → (x12006.toInt ≤ x12004.toInt ∧ x12004.toInt < x12003.toInt ∧ x12004.toInt = x11817.toInt ∧ x12006.toInt = x11819.toInt ∧ x12004.toInt < x2.toInt ∧ x12005.toInt = 0 ∧ x12007.toInt = x3.toInt ∧ x12008.toInt = 0 ∧ x12009.toInt = 0) → (enL bt x2.toNatClampNeg (x12004.toNatClampNeg + 1) = scn (inL x2.toNatClampNeg iLt bt) (500 - x12003.toNatClampNeg) x12003.toNatClampNeg) → ((97 ≤ bt x12004.toNatClampNeg ∧ bt x12004.toNatClampNeg ≤ 122) ∨ (65 ≤ bt x12004.toNatClampNeg ∧ bt x12004.toNatClampNeg ≤ 90)) → W p l e ({ frames := 6, cells := 0, slots := 0, locals := 159 } : Room) s m (([.ref a0, .ref a1, .int x2, .int x3] : List Value).toArray) below meth c H11999 locsH11999 0 0 Q (F0 m 62 ls12000 []) := by
        intro nf
        induction nf with
        | zero =>
          intro  ls12000 H11999 locsH11999 x12003 x12004 x12005 x12006 x12007 x12008 x12009 hl12001 hTH11999 hSH11999 b12002 bx12003 bx12004 bx12005 bx12006 bx12007 bx12009 ex12005 ex12006 ex12007 ex12008 ex12009 cy12010_0 cy12010_1 cy12010_2 fy12010_bt fy12010_tp hm62 iv62 hsp62 hlt62
          have rx12008 := i_rng x12008
          exfalso
          omega
        | succ nf ih62 =>
          intro  ls12000 H11999 locsH11999 x12003 x12004 x12005 x12006 x12007 x12008 x12009 hl12001 hTH11999 hSH11999 b12002 bx12003 bx12004 bx12005 bx12006 bx12007 bx12009 ex12005 ex12006 ex12007 ex12008 ex12009 cy12010_0 cy12010_1 cy12010_2 fy12010_bt fy12010_tp hm62 iv62 hsp62 hlt62
          have rx12008 := i_rng x12008
          refine lv_iload hx hb dX4_start_62 (lv_at hl12001 3 rfl) ?_
          refine lv_iload_n hx hb dX4_start_64 rfl (lv_at hl12001 2 rfl) ?_
          refine lv_icmp_ge (tgt := 84) hx hb dX4_start_65 (by decide) (fun c12011 => ?_) (fun c12011 => ?_)
          · have k12012 := i_le c12011
            refine lv_aload_n hx hb dX4_start_84 rfl (lv_at hl12001 0 rfl) ?_
            refine lv_aload_n hx hb dX4_start_85 rfl (lv_at hl12001 1 rfl) ?_
            refine lv_iload hx hb dX4_start_86 (lv_at hl12001 4 rfl) ?_
            refine lv_iload hx hb dX4_start_88 (lv_at hl12001 3 rfl) ?_
            refine x_S (As := [.ref a1, .int x12004, .int x12003]) (rest := [.ref a0]) C (a_X4_wordAt_e l K G H11999 (x12004) (x12003) bt hTH11999 ga1 (by omega) (by omega) (by omega) fy12010_bt) yo_X4_wordAt wM_X4_52 ⟨⟨by decide, by decide⟩, by decide, by decide⟩ rfl hl12001.1 rfl (Nat.le_of_ble_eq_true rfl) dX4_start_90 hSH11999 (AE_sub (fun _ _ => rfl) (by decide) hSH11999.1) (fun vH12013 H12013 locsH12013 pH12013 zH12013 kH12013 hSH12013 => ?_)
            obtain ⟨x12014, hvH12013, bx12014, m12015, hTH12013⟩ := pH12013
            subst hvH12013
            have f12016 : ∀ j : Nat, bt j = (fI H12013 a1 j).toInt := fun j => (fy12010_bt j).trans (congrArg Int32.toInt (fI_kept (x_lt hTH11999 kH12013 ga1 (by decide))).symm)
            have f12017 : TKP H12013 kq vq bt x2.toNatClampNeg (x12006.toNatClampNeg) := TKP.kept fy12010_tp (x_lt hTH11999 kH12013 gkq (by decide)) (x_lt hTH11999 kH12013 gvq (by decide))
            have m12018 := (ex12005).trans (fI_kept (x_lt hTH11999 kH12013 ga0 (by decide))).symm
            have m12019 := (ex12006).trans (fI_kept (x_lt hTH11999 kH12013 ga0 (by decide))).symm
            have m12020 := (ex12007).trans (fI_kept (x_lt hTH11999 kH12013 ga0 (by decide))).symm
            have m12021 := (ex12008).trans (fI_kept (x_lt hTH11999 kH12013 ga0 (by decide))).symm
            have m12022 := (ex12009).trans (fI_kept (x_lt hTH11999 kH12013 gmq (by decide))).symm
            have m12023 := (cy12010_0).trans (fR_kept (x_lt hTH11999 kH12013 ga0 (by decide))).symm
            have m12024 := (cy12010_1).trans (fR_kept (x_lt hTH11999 kH12013 ga0 (by decide))).symm
            have m12025 := (cy12010_2).trans (fR_kept (x_lt hTH11999 kH12013 ga0 (by decide))).symm
            refine W.eq (g2 := F0 m 93 ls12000 [.int x12014, .ref a0]) rfl ?_
            refine lv_iconst (v := 0) hx hb dX4_start_93 (by decide) ?_
            refine lv_iload hx hb dX4_start_94 (lv_at hl12001 4 rfl) ?_
            refine x_V (As := [.int x12014, .int 0, .int x12004]) (rest := []) C (a_X4_addToken_e l K G H12013 (x12014) (0) (x12004) (x12005) (x12006) (x12007) (x12008) hTH12013 ga0 gmq m12023 gkq m12024 gvq m12025 m12018 m12019 m12020 m12021 (by omega)) yo_X4_addToken wM_X4_56 ⟨⟨by decide, by decide⟩, by decide, by decide⟩ (x_rv C hTH12013 (ci := 4) rfl ga0 rg_78) rfl hl12001.1 rfl (Nat.le_of_ble_eq_true rfl) dX4_start_96 hSH12013 (AE_sub (fun _ _ => rfl) (by decide) hSH12013.1) (fun vH12026 H12026 locsH12026 pH12026 zH12026 kH12026 hSH12026 => ?_)
            obtain ⟨x12027, x12028, x12029, x12030, hvH12026, ex12027, ex12028, ex12029, ex12030, hrH12026, m12031, m12032, m12033, m12034, m12035, m12036, m12037, hTH12026⟩ := pH12026
            subst hvH12026
            have f12038 : ∀ j : Nat, bt j = (fI H12026 a1 j).toInt := fun j => (f12016 j).trans (congrArg Int32.toInt (fI_kept (x_lt hTH12013 kH12026 ga1 (by decide))).symm)
            have m12039 := (m12022).trans (fI_kept (x_lt hTH12013 kH12026 gmq (by decide))).symm
            have bx12027 := ty_fi (x := x12027) (k := 7) ex12027 hTH12026 ga0 rg_78 rfl
            have bx12028 := ty_fi (x := x12028) (k := 6) ex12028 hTH12026 ga0 rg_78 rfl
            have bx12029 := ty_fi (x := x12029) (k := 8) ex12029 hTH12026 ga0 rg_78 rfl
            have bx12030 := ty_fi (x := x12030) (k := 1) ex12030 hTH12026 ga0 rg_78 rfl
            have cn_x12006 := i_cl (x := x12006) (by omega)
            have cn_x12006 := i_cl (x := x12006) (by omega)
            have cn_x12003 := i_cl (x := x12003) (by omega)
            have cn_x2 := i_cl (x := x2) (by omega)
            have cn_x12004 := i_cl (x := x12004) (by omega)
            have cn_x11817 := i_cl (x := x11817) (by omega)
            have cn_x11819 := i_cl (x := x11819) (by omega)
            have hs12043 : skB bt x2.toNatClampNeg x12004.toNatClampNeg = skB bt x2.toNatClampNeg (pS bt x2.toNatClampNeg x12006.toNatClampNeg) := by rw [show x12004.toNatClampNeg = x11817.toNatClampNeg by omega, show x12006.toNatClampNeg = x11819.toNatClampNeg by omega]; exact hsp35
            have cn_x12004 := i_cl (x := x12004) (by omega)
            have cn_x12003 := i_cl (x := x12003) (by omega)
            have cn_x2 := i_cl (x := x2) (by omega)
            have he12044 : enL bt x2.toNatClampNeg (x12004.toNatClampNeg + 1) = x12003.toNatClampNeg := hsp62.trans (scn_end (inL_o (by omega)))
            obtain ⟨tk12040, tk12041, tk12042⟩ := tok_w hs12043 (by omega) hlt62 he12044
            have f12045 : TKP H12026 kq vq bt x2.toNatClampNeg (x12006.toNatClampNeg + 1) := TKP.add f12017 m12036 m12037 m12034 m12035 (by omega) (by rw [tk12040]; exact m12015.symm) (by rw [tk12041]; rfl)
            refine W.eq (g2 := F0 m 99 ls12000 []) rfl ?_
            refine lv_goto (tgt := 201) hx hb dX4_start_99 (by decide) ?_
            refine lv_goto (tgt := 35) hx hb dX4_start_201 (by decide) ?_
            have cn_x12006 := i_cl (x := x12006) (by omega)
            have cn_x12028 := i_cl (x := x12028) (by omega)
            have cl00 : (0 : Int32).toNatClampNeg = 0 := rfl
            have cn_x12003 := i_cl (x := x12003) (by omega)
            have cn_x12028 := i_cl (x := x12028) (by omega)
            have cn_x11819 := i_cl (x := x11819) (by omega)
            have cn_x2 := i_cl (x := x2) (by omega)
            have cn_x12006 := i_cl (x := x12006) (by omega)
            exact ih35  ls12000 H12026 locsH12026 (x12003) (x12027) (x12028) (x12029) (x12030) (x12009) (lv_sub hl12001 [0, 1, 2, 3] rfl) hTH12026 hSH12026 (by have := i_rng x12003; omega) (by have := i_rng x12027; omega) (by have := i_rng x12028; omega) (by have := i_rng x12029; omega) (by have := i_rng x12009; omega) ex12027 ex12028 ex12029 ex12030 m12039 m12031 m12032 m12033 f12038 (TKP.to f12045 (by omega)) (by omega) (by omega) (by rw [show x12028.toNatClampNeg = x12006.toNatClampNeg + 1 by omega, tk12042])
          · have k12012 := i_nle c12011
            refine lv_aload_n hx hb dX4_start_68 rfl (lv_at hl12001 1 rfl) ?_
            refine lv_iload hx hb dX4_start_69 (lv_at hl12001 3 rfl) ?_
            refine x_ai C hTH11999 ga1 rg_108 ⟨by omega, by show _ < ((500 : Nat) : Int); omega⟩ dX4_start_71 (fun x12046 ex12046 bx12046 => ?_)
            have qvx12046 : bt x12003.toNatClampNeg = x12046.toInt := (fy12010_bt _).trans (congrArg Int32.toInt ex12046.symm)
            refine x_S (As := [.int x12046]) (rest := []) C (a_X4_isLetter_e l K G H11999 (x12046) hTH11999 ) yo_X4_isLetter wM_X4_48 ⟨⟨by decide, by decide⟩, by decide, by decide⟩ rfl hl12001.1 rfl (Nat.le_of_ble_eq_true rfl) dX4_start_72 hSH11999 (AE_sub (fun _ _ => rfl) (by decide) hSH11999.1) (fun vH12047 H12047 locsH12047 pH12047 zH12047 kH12047 hSH12047 => ?_)
            obtain ⟨x12048, hvH12047, bx12048, hrH12047, hTH12047⟩ := pH12047
            subst hvH12047
            have f12049 : ∀ j : Nat, bt j = (fI H12047 a1 j).toInt := fun j => (fy12010_bt j).trans (congrArg Int32.toInt (fI_kept (x_lt hTH11999 kH12047 ga1 (by decide))).symm)
            have f12050 : TKP H12047 kq vq bt x2.toNatClampNeg (x12006.toNatClampNeg) := TKP.kept fy12010_tp (x_lt hTH11999 kH12047 gkq (by decide)) (x_lt hTH11999 kH12047 gvq (by decide))
            have m12051 := (ex12005).trans (fI_kept (x_lt hTH11999 kH12047 ga0 (by decide))).symm
            have m12052 := (ex12006).trans (fI_kept (x_lt hTH11999 kH12047 ga0 (by decide))).symm
            have m12053 := (ex12007).trans (fI_kept (x_lt hTH11999 kH12047 ga0 (by decide))).symm
            have m12054 := (ex12008).trans (fI_kept (x_lt hTH11999 kH12047 ga0 (by decide))).symm
            have m12055 := (ex12009).trans (fI_kept (x_lt hTH11999 kH12047 gmq (by decide))).symm
            have m12056 := (cy12010_0).trans (fR_kept (x_lt hTH11999 kH12047 ga0 (by decide))).symm
            have m12057 := (cy12010_1).trans (fR_kept (x_lt hTH11999 kH12047 ga0 (by decide))).symm
            have m12058 := (cy12010_2).trans (fR_kept (x_lt hTH11999 kH12047 ga0 (by decide))).symm
            have m12059 := (ex12046).trans (fI_kept (x_lt hTH11999 kH12047 ga1 (by decide))).symm
            refine W.eq (g2 := F0 m 75 ls12000 [.int x12048]) rfl ?_
            refine lv_if_eq (tgt := 84) hx hb dX4_start_75 (by decide) (fun c12060 => ?_) (fun c12060 => ?_)
            · have k12061 := i_eq c12060
              refine lv_aload_n hx hb dX4_start_84 rfl (lv_at hl12001 0 rfl) ?_
              refine lv_aload_n hx hb dX4_start_85 rfl (lv_at hl12001 1 rfl) ?_
              refine lv_iload hx hb dX4_start_86 (lv_at hl12001 4 rfl) ?_
              refine lv_iload hx hb dX4_start_88 (lv_at hl12001 3 rfl) ?_
              refine x_S (As := [.ref a1, .int x12004, .int x12003]) (rest := [.ref a0]) C (a_X4_wordAt_e l K G H12047 (x12004) (x12003) bt hTH12047 ga1 (by omega) (by omega) (by omega) f12049) yo_X4_wordAt wM_X4_52 ⟨⟨by decide, by decide⟩, by decide, by decide⟩ rfl hl12001.1 rfl (Nat.le_of_ble_eq_true rfl) dX4_start_90 hSH12047 (AE_sub (fun _ _ => rfl) (by decide) hSH12047.1) (fun vH12062 H12062 locsH12062 pH12062 zH12062 kH12062 hSH12062 => ?_)
              obtain ⟨x12063, hvH12062, bx12063, m12064, hTH12062⟩ := pH12062
              subst hvH12062
              have f12065 : ∀ j : Nat, bt j = (fI H12062 a1 j).toInt := fun j => (f12049 j).trans (congrArg Int32.toInt (fI_kept (x_lt hTH12047 kH12062 ga1 (by decide))).symm)
              have f12066 : TKP H12062 kq vq bt x2.toNatClampNeg (x12006.toNatClampNeg) := TKP.kept f12050 (x_lt hTH12047 kH12062 gkq (by decide)) (x_lt hTH12047 kH12062 gvq (by decide))
              have m12067 := (m12051).trans (fI_kept (x_lt hTH12047 kH12062 ga0 (by decide))).symm
              have m12068 := (m12052).trans (fI_kept (x_lt hTH12047 kH12062 ga0 (by decide))).symm
              have m12069 := (m12053).trans (fI_kept (x_lt hTH12047 kH12062 ga0 (by decide))).symm
              have m12070 := (m12054).trans (fI_kept (x_lt hTH12047 kH12062 ga0 (by decide))).symm
              have m12071 := (m12055).trans (fI_kept (x_lt hTH12047 kH12062 gmq (by decide))).symm
              have m12072 := (m12056).trans (fR_kept (x_lt hTH12047 kH12062 ga0 (by decide))).symm
              have m12073 := (m12057).trans (fR_kept (x_lt hTH12047 kH12062 ga0 (by decide))).symm
              have m12074 := (m12058).trans (fR_kept (x_lt hTH12047 kH12062 ga0 (by decide))).symm
              have m12075 := (m12059).trans (fI_kept (x_lt hTH12047 kH12062 ga1 (by decide))).symm
              refine W.eq (g2 := F0 m 93 ls12000 [.int x12063, .ref a0]) rfl ?_
              refine lv_iconst (v := 0) hx hb dX4_start_93 (by decide) ?_
              refine lv_iload hx hb dX4_start_94 (lv_at hl12001 4 rfl) ?_
              refine x_V (As := [.int x12063, .int 0, .int x12004]) (rest := []) C (a_X4_addToken_e l K G H12062 (x12063) (0) (x12004) (x12005) (x12006) (x12007) (x12008) hTH12062 ga0 gmq m12072 gkq m12073 gvq m12074 m12067 m12068 m12069 m12070 (by omega)) yo_X4_addToken wM_X4_56 ⟨⟨by decide, by decide⟩, by decide, by decide⟩ (x_rv C hTH12062 (ci := 4) rfl ga0 rg_78) rfl hl12001.1 rfl (Nat.le_of_ble_eq_true rfl) dX4_start_96 hSH12062 (AE_sub (fun _ _ => rfl) (by decide) hSH12062.1) (fun vH12076 H12076 locsH12076 pH12076 zH12076 kH12076 hSH12076 => ?_)
              obtain ⟨x12077, x12078, x12079, x12080, hvH12076, ex12077, ex12078, ex12079, ex12080, hrH12076, m12081, m12082, m12083, m12084, m12085, m12086, m12087, hTH12076⟩ := pH12076
              subst hvH12076
              have f12088 : ∀ j : Nat, bt j = (fI H12076 a1 j).toInt := fun j => (f12065 j).trans (congrArg Int32.toInt (fI_kept (x_lt hTH12062 kH12076 ga1 (by decide))).symm)
              have m12089 := (m12071).trans (fI_kept (x_lt hTH12062 kH12076 gmq (by decide))).symm
              have m12090 := (m12075).trans (fI_kept (x_lt hTH12062 kH12076 ga1 (by decide))).symm
              have bx12077 := ty_fi (x := x12077) (k := 7) ex12077 hTH12076 ga0 rg_78 rfl
              have bx12078 := ty_fi (x := x12078) (k := 6) ex12078 hTH12076 ga0 rg_78 rfl
              have bx12079 := ty_fi (x := x12079) (k := 8) ex12079 hTH12076 ga0 rg_78 rfl
              have bx12080 := ty_fi (x := x12080) (k := 1) ex12080 hTH12076 ga0 rg_78 rfl
              have cn_x12006 := i_cl (x := x12006) (by omega)
              have cn_x12006 := i_cl (x := x12006) (by omega)
              have cn_x12003 := i_cl (x := x12003) (by omega)
              have cn_x2 := i_cl (x := x2) (by omega)
              have cn_x12004 := i_cl (x := x12004) (by omega)
              have cn_x11817 := i_cl (x := x11817) (by omega)
              have cn_x11819 := i_cl (x := x11819) (by omega)
              have hs12094 : skB bt x2.toNatClampNeg x12004.toNatClampNeg = skB bt x2.toNatClampNeg (pS bt x2.toNatClampNeg x12006.toNatClampNeg) := by rw [show x12004.toNatClampNeg = x11817.toNatClampNeg by omega, show x12006.toNatClampNeg = x11819.toNatClampNeg by omega]; exact hsp35
              have cn_x12004 := i_cl (x := x12004) (by omega)
              have cn_x12003 := i_cl (x := x12003) (by omega)
              have cn_x2 := i_cl (x := x2) (by omega)
              have he12095 : enL bt x2.toNatClampNeg (x12004.toNatClampNeg + 1) = x12003.toNatClampNeg := hsp62.trans (scn_end (inL_n (iLt_n (by rw [qvx12046]; omega))))
              obtain ⟨tk12091, tk12092, tk12093⟩ := tok_w hs12094 (by omega) hlt62 he12095
              have f12096 : TKP H12076 kq vq bt x2.toNatClampNeg (x12006.toNatClampNeg + 1) := TKP.add f12066 m12086 m12087 m12084 m12085 (by omega) (by rw [tk12091]; exact m12064.symm) (by rw [tk12092]; rfl)
              refine W.eq (g2 := F0 m 99 ls12000 []) rfl ?_
              refine lv_goto (tgt := 201) hx hb dX4_start_99 (by decide) ?_
              refine lv_goto (tgt := 35) hx hb dX4_start_201 (by decide) ?_
              have cn_x12006 := i_cl (x := x12006) (by omega)
              have cn_x12078 := i_cl (x := x12078) (by omega)
              have cl00 : (0 : Int32).toNatClampNeg = 0 := rfl
              have cn_x12003 := i_cl (x := x12003) (by omega)
              have cn_x12078 := i_cl (x := x12078) (by omega)
              have cn_x11819 := i_cl (x := x11819) (by omega)
              have cn_x2 := i_cl (x := x2) (by omega)
              have cn_x12006 := i_cl (x := x12006) (by omega)
              exact ih35  ls12000 H12076 locsH12076 (x12003) (x12077) (x12078) (x12079) (x12080) (x12009) (lv_sub hl12001 [0, 1, 2, 3] rfl) hTH12076 hSH12076 (by have := i_rng x12003; omega) (by have := i_rng x12077; omega) (by have := i_rng x12078; omega) (by have := i_rng x12079; omega) (by have := i_rng x12009; omega) ex12077 ex12078 ex12079 ex12080 m12089 m12081 m12082 m12083 f12088 (TKP.to f12096 (by omega)) (by omega) (by omega) (by rw [show x12078.toNatClampNeg = x12006.toNatClampNeg + 1 by omega, tk12093])
            · have k12061 := i_ne c12060
              obtain ⟨x12097, ex12097⟩ : ∃ y : Int32, y = x12003 + 1 := ⟨_, rfl⟩
              have tx12097 := i_add ex12097 (by omega)
              refine lv_iinc (v := x12097) (lv' := [(4, .int x12097), (0, .ref a0), (1, .ref a1), (2, .int x2), (5, .int x12004)]) hx hb dX4_start_78 hl12001 (k := 3) rfl (by rw [ex12097]; rfl) (by decide) rfl (fun ls12098 hl12099 => ?_)
              refine lv_goto (tgt := 62) hx hb dX4_start_81 (by decide) ?_
              have cn_x12006 := i_cl (x := x12006) (by omega)
              have cn_x12006 := i_cl (x := x12006) (by omega)
              have cl00 : (0 : Int32).toNatClampNeg = 0 := rfl
              have cn_x12097 := i_cl (x := x12097) (by omega)
              have cn_x12004 := i_cl (x := x12004) (by omega)
              have cn_x2 := i_cl (x := x2) (by omega)
              have cn_x12003 := i_cl (x := x12003) (by omega)
              exact ih62  ls12098 H12047 locsH12047 (x12097) (x12004) (x12005) (x12006) (x12007) (x12008) (x12009) (lv_sub hl12099 [1, 2, 3, 0, 4] rfl) hTH12047 hSH12047 (by have := i_rng x2; omega) (by have := i_rng x12097; omega) (by have := i_rng x12004; omega) (by have := i_rng x12005; omega) (by have := i_rng x12006; omega) (by have := i_rng x12007; omega) (by have := i_rng x12009; omega) m12051 m12052 m12053 m12054 m12055 m12056 m12057 m12058 f12049 (TKP.to f12050 (by omega)) (by omega) (by omega) (hsp62.trans (scn_go (inL_y (by omega) (iLt_y (by rw [qvx12046]; omega))) (by omega) (by omega))) hlt62
      refine lv_iload hx hb dX4_start_35 (lv_at hl11816 3 rfl) ?_
      refine lv_iload_n hx hb dX4_start_37 rfl (lv_at hl11816 2 rfl) ?_
      refine lv_icmp_ge (tgt := 204) hx hb dX4_start_38 (by decide) (fun c12100 => ?_) (fun c12100 => ?_)
      · have k12101 := i_le c12100
        refine lv_aload_n hx hb dX4_start_204 rfl (lv_at hl11816 0 rfl) ?_
        refine lv_bipush (v := 26) hx hb dX4_start_205 (by decide) ?_
        refine lv_iconst (v := 0) hx hb dX4_start_207 (by decide) ?_
        refine lv_iload_n hx hb dX4_start_208 rfl (lv_at hl11816 2 rfl) ?_
        refine x_V (As := [.int 26, .int 0, .int x2]) (rest := []) C (a_X4_addToken_e l K G H11814 (26) (0) (x2) (x11818) (x11819) (x11820) (x11821) hTH11814 ga0 gmq cy11823_0 gkq cy11823_1 gvq cy11823_2 ex11818 ex11819 ex11820 ex11821 (by omega)) yo_X4_addToken wM_X4_56 ⟨⟨by decide, by decide⟩, by decide, by decide⟩ (x_rv C hTH11814 (ci := 4) rfl ga0 rg_78) rfl hl11816.1 rfl (Nat.le_of_ble_eq_true rfl) dX4_start_209 hSH11814 (AE_sub (fun _ _ => rfl) (by decide) hSH11814.1) (fun vH12102 H12102 locsH12102 pH12102 zH12102 kH12102 hSH12102 => ?_)
        obtain ⟨x12103, x12104, x12105, x12106, hvH12102, ex12103, ex12104, ex12105, ex12106, hrH12102, m12107, m12108, m12109, m12110, m12111, m12112, m12113, hTH12102⟩ := pH12102
        subst hvH12102
        have f12114 : ∀ j : Nat, bt j = (fI H12102 a1 j).toInt := fun j => (fy11823_bt j).trans (congrArg Int32.toInt (fI_kept (x_lt hTH11814 kH12102 ga1 (by decide))).symm)
        have m12115 := (ex11822).trans (fI_kept (x_lt hTH11814 kH12102 gmq (by decide))).symm
        have bx12103 := ty_fi (x := x12103) (k := 7) ex12103 hTH12102 ga0 rg_78 rfl
        have bx12104 := ty_fi (x := x12104) (k := 6) ex12104 hTH12102 ga0 rg_78 rfl
        have bx12105 := ty_fi (x := x12105) (k := 8) ex12105 hTH12102 ga0 rg_78 rfl
        have bx12106 := ty_fi (x := x12106) (k := 1) ex12106 hTH12102 ga0 rg_78 rfl
        have cn_x11819 := i_cl (x := x11819) (by omega)
        have cn_x11819 := i_cl (x := x11819) (by omega)
        have cn_x11817 := i_cl (x := x11817) (by omega)
        have cn_x2 := i_cl (x := x2) (by omega)
        have cn_x11817 := i_cl (x := x11817) (by omega)
        have cn_x11817 := i_cl (x := x11817) (by omega)
        have cn_x11819 := i_cl (x := x11819) (by omega)
        have hs12119 : skB bt x2.toNatClampNeg x11817.toNatClampNeg = skB bt x2.toNatClampNeg (pS bt x2.toNatClampNeg x11819.toNatClampNeg) := hsp35
        obtain ⟨tk12116, tk12117⟩ := tok_e hs12119 (by omega)
        have f12120 : TKP H12102 kq vq bt x2.toNatClampNeg (x11819.toNatClampNeg + 1) := TKP.add fy11823_tp m12112 m12113 m12110 m12111 (by omega) (by rw [tk12116]; rfl) (by rw [tk12117]; rfl)
        refine W.eq (g2 := F0 m 212 ls11815 []) rfl ?_
        exact x_vret C hQ dX4_start_212 hSH12102 (by decide) (by decide) (⟨x12103, x12104, x12105, x12106, x11822, rfl, ex12103, ex12104, ex12105, ex12106, m12115, by omega, m12107, m12108, m12109, ⟨x11819, by omega, (m12110).symm, f12120⟩, hTH12102⟩)
      · have k12101 := i_nle c12100
        refine lv_iload hx hb dX4_start_41 (lv_at hl11816 3 rfl) ?_
        refine lv_istore (lv' := [(5, .int x11817), (0, .ref a0), (1, .ref a1), (2, .int x2), (4, .int x11817)]) hx hb dX4_start_43 hl11816 (by decide) rfl (fun ls12121 hl12122 => ?_)
        refine lv_aload_n hx hb dX4_start_45 rfl (lv_at hl12122 2 rfl) ?_
        refine lv_iload hx hb dX4_start_46 (lv_at hl12122 4 rfl) ?_
        refine x_ai C hTH11814 ga1 rg_108 ⟨by omega, by show _ < ((500 : Nat) : Int); omega⟩ dX4_start_48 (fun x12123 ex12123 bx12123 => ?_)
        have qvx12123 : bt x11817.toNatClampNeg = x12123.toInt := (fy11823_bt _).trans (congrArg Int32.toInt ex12123.symm)
        refine lv_istore (lv' := [(6, .int x12123), (5, .int x11817), (0, .ref a0), (1, .ref a1), (2, .int x2), (4, .int x11817)]) hx hb dX4_start_49 hl12122 (by decide) rfl (fun ls12124 hl12125 => ?_)
        obtain ⟨x12126, ex12126⟩ : ∃ y : Int32, y = x11817 + 1 := ⟨_, rfl⟩
        have tx12126 := i_add ex12126 (by omega)
        refine lv_iinc (v := x12126) (lv' := [(4, .int x12126), (6, .int x12123), (5, .int x11817), (0, .ref a0), (1, .ref a1), (2, .int x2)]) hx hb dX4_start_51 hl12125 (k := 5) rfl (by rw [ex12126]; rfl) (by decide) rfl (fun ls12127 hl12128 => ?_)
        refine lv_iload hx hb dX4_start_54 (lv_at hl12128 1 rfl) ?_
        refine x_S (As := [.int x12123]) (rest := []) C (a_X4_isLetter_e l K G H11814 (x12123) hTH11814 ) yo_X4_isLetter wM_X4_48 ⟨⟨by decide, by decide⟩, by decide, by decide⟩ rfl hl12128.1 rfl (Nat.le_of_ble_eq_true rfl) dX4_start_56 hSH11814 (AE_sub (fun _ _ => rfl) (by decide) hSH11814.1) (fun vH12129 H12129 locsH12129 pH12129 zH12129 kH12129 hSH12129 => ?_)
        obtain ⟨x12130, hvH12129, bx12130, hrH12129, hTH12129⟩ := pH12129
        subst hvH12129
        have f12131 : ∀ j : Nat, bt j = (fI H12129 a1 j).toInt := fun j => (fy11823_bt j).trans (congrArg Int32.toInt (fI_kept (x_lt hTH11814 kH12129 ga1 (by decide))).symm)
        have f12132 : TKP H12129 kq vq bt x2.toNatClampNeg (x11819.toNatClampNeg) := TKP.kept fy11823_tp (x_lt hTH11814 kH12129 gkq (by decide)) (x_lt hTH11814 kH12129 gvq (by decide))
        have m12133 := (ex11818).trans (fI_kept (x_lt hTH11814 kH12129 ga0 (by decide))).symm
        have m12134 := (ex11819).trans (fI_kept (x_lt hTH11814 kH12129 ga0 (by decide))).symm
        have m12135 := (ex11820).trans (fI_kept (x_lt hTH11814 kH12129 ga0 (by decide))).symm
        have m12136 := (ex11821).trans (fI_kept (x_lt hTH11814 kH12129 ga0 (by decide))).symm
        have m12137 := (ex11822).trans (fI_kept (x_lt hTH11814 kH12129 gmq (by decide))).symm
        have m12138 := (cy11823_0).trans (fR_kept (x_lt hTH11814 kH12129 ga0 (by decide))).symm
        have m12139 := (cy11823_1).trans (fR_kept (x_lt hTH11814 kH12129 ga0 (by decide))).symm
        have m12140 := (cy11823_2).trans (fR_kept (x_lt hTH11814 kH12129 ga0 (by decide))).symm
        have m12141 := (ex12123).trans (fI_kept (x_lt hTH11814 kH12129 ga1 (by decide))).symm
        refine W.eq (g2 := F0 m 59 ls12127 [.int x12130]) rfl ?_
        refine lv_if_eq (tgt := 102) hx hb dX4_start_59 (by decide) (fun c12142 => ?_) (fun c12142 => ?_)
        · have k12143 := i_eq c12142
          refine lv_iload hx hb dX4_start_102 (lv_at hl12128 1 rfl) ?_
          refine x_S (As := [.int x12123]) (rest := []) C (a_X4_isDigit_e l K G H12129 (x12123) hTH12129 ) yo_X4_isDigit wM_X4_60 ⟨⟨by decide, by decide⟩, by decide, by decide⟩ rfl hl12128.1 rfl (Nat.le_of_ble_eq_true rfl) dX4_start_104 hSH12129 (AE_sub (fun _ _ => rfl) (by decide) hSH12129.1) (fun vH12144 H12144 locsH12144 pH12144 zH12144 kH12144 hSH12144 => ?_)
          obtain ⟨x12145, hvH12144, bx12145, hrH12144, hTH12144⟩ := pH12144
          subst hvH12144
          have f12146 : ∀ j : Nat, bt j = (fI H12144 a1 j).toInt := fun j => (f12131 j).trans (congrArg Int32.toInt (fI_kept (x_lt hTH12129 kH12144 ga1 (by decide))).symm)
          have f12147 : TKP H12144 kq vq bt x2.toNatClampNeg (x11819.toNatClampNeg) := TKP.kept f12132 (x_lt hTH12129 kH12144 gkq (by decide)) (x_lt hTH12129 kH12144 gvq (by decide))
          have m12148 := (m12133).trans (fI_kept (x_lt hTH12129 kH12144 ga0 (by decide))).symm
          have m12149 := (m12134).trans (fI_kept (x_lt hTH12129 kH12144 ga0 (by decide))).symm
          have m12150 := (m12135).trans (fI_kept (x_lt hTH12129 kH12144 ga0 (by decide))).symm
          have m12151 := (m12136).trans (fI_kept (x_lt hTH12129 kH12144 ga0 (by decide))).symm
          have m12152 := (m12137).trans (fI_kept (x_lt hTH12129 kH12144 gmq (by decide))).symm
          have m12153 := (m12138).trans (fR_kept (x_lt hTH12129 kH12144 ga0 (by decide))).symm
          have m12154 := (m12139).trans (fR_kept (x_lt hTH12129 kH12144 ga0 (by decide))).symm
          have m12155 := (m12140).trans (fR_kept (x_lt hTH12129 kH12144 ga0 (by decide))).symm
          have m12156 := (m12141).trans (fI_kept (x_lt hTH12129 kH12144 ga1 (by decide))).symm
          refine W.eq (g2 := F0 m 107 ls12127 [.int x12145]) rfl ?_
          refine lv_if_eq (tgt := 165) hx hb dX4_start_107 (by decide) (fun c12157 => ?_) (fun c12157 => ?_)
          · have k12158 := i_eq c12157
            refine lv_iload hx hb dX4_start_165 (lv_at hl12128 1 rfl) ?_
            refine lv_bipush (v := 32) hx hb dX4_start_167 (by decide) ?_
            refine lv_icmp_eq (tgt := 201) hx hb dX4_start_169 (by decide) (fun c12159 => ?_) (fun c12159 => ?_)
            · have k12160 := i_eq c12159
              refine lv_goto (tgt := 35) hx hb dX4_start_201 (by decide) ?_
              have cn_x11819 := i_cl (x := x11819) (by omega)
              have cn_x11819 := i_cl (x := x11819) (by omega)
              have cl00 : (0 : Int32).toNatClampNeg = 0 := rfl
              have cn_x12126 := i_cl (x := x12126) (by omega)
              have cn_x11819 := i_cl (x := x11819) (by omega)
              have cn_x11819 := i_cl (x := x11819) (by omega)
              have cn_x2 := i_cl (x := x2) (by omega)
              have cn_x11817 := i_cl (x := x11817) (by omega)
              exact ih35  ls12127 H12144 locsH12144 (x12126) (x11818) (x11819) (x11820) (x11821) (x11822) (lv_sub hl12128 [3, 4, 5, 0] rfl) hTH12144 hSH12144 (by have := i_rng x12126; omega) (by have := i_rng x11818; omega) (by have := i_rng x11819; omega) (by have := i_rng x11820; omega) (by have := i_rng x11822; omega) m12148 m12149 m12150 m12151 m12152 m12153 m12154 m12155 f12146 (TKP.to f12147 (by omega)) (by omega) (by omega) (tok_b hsp35 (by omega) (by omega) (by rw [qvx12123]; omega) (by omega))
            · have k12160 := i_ne c12159
              refine lv_iload hx hb dX4_start_172 (lv_at hl12128 1 rfl) ?_
              refine lv_bipush (v := 10) hx hb dX4_start_174 (by decide) ?_
              refine lv_icmp_eq (tgt := 201) hx hb dX4_start_176 (by decide) (fun c12161 => ?_) (fun c12161 => ?_)
              · have k12162 := i_eq c12161
                refine lv_goto (tgt := 35) hx hb dX4_start_201 (by decide) ?_
                have cn_x11819 := i_cl (x := x11819) (by omega)
                have cn_x11819 := i_cl (x := x11819) (by omega)
                have cl00 : (0 : Int32).toNatClampNeg = 0 := rfl
                have cn_x12126 := i_cl (x := x12126) (by omega)
                have cn_x11819 := i_cl (x := x11819) (by omega)
                have cn_x11819 := i_cl (x := x11819) (by omega)
                have cn_x2 := i_cl (x := x2) (by omega)
                have cn_x11817 := i_cl (x := x11817) (by omega)
                exact ih35  ls12127 H12144 locsH12144 (x12126) (x11818) (x11819) (x11820) (x11821) (x11822) (lv_sub hl12128 [3, 4, 5, 0] rfl) hTH12144 hSH12144 (by have := i_rng x12126; omega) (by have := i_rng x11818; omega) (by have := i_rng x11819; omega) (by have := i_rng x11820; omega) (by have := i_rng x11822; omega) m12148 m12149 m12150 m12151 m12152 m12153 m12154 m12155 f12146 (TKP.to f12147 (by omega)) (by omega) (by omega) (tok_b hsp35 (by omega) (by omega) (by rw [qvx12123]; omega) (by omega))
              · have k12162 := i_ne c12161
                refine lv_aload_n hx hb dX4_start_179 rfl (lv_at hl12128 3 rfl) ?_
                refine lv_iload hx hb dX4_start_180 (lv_at hl12128 1 rfl) ?_
                refine x_S (As := [.int x12123]) (rest := [.ref a0]) C (a_X4_isSign_e l K G H12144 (x12123) hTH12144 ) yo_X4_isSign wM_X4_66 ⟨⟨by decide, by decide⟩, by decide, by decide⟩ rfl hl12128.1 rfl (Nat.le_of_ble_eq_true rfl) dX4_start_182 hSH12144 (AE_sub (fun _ _ => rfl) (by decide) hSH12144.1) (fun vH12163 H12163 locsH12163 pH12163 zH12163 kH12163 hSH12163 => ?_)
                obtain ⟨x12164, hvH12163, bx12164, hrH12163, hTH12163⟩ := pH12163
                subst hvH12163
                have f12165 : ∀ j : Nat, bt j = (fI H12163 a1 j).toInt := fun j => (f12146 j).trans (congrArg Int32.toInt (fI_kept (x_lt hTH12144 kH12163 ga1 (by decide))).symm)
                have f12166 : TKP H12163 kq vq bt x2.toNatClampNeg (x11819.toNatClampNeg) := TKP.kept f12147 (x_lt hTH12144 kH12163 gkq (by decide)) (x_lt hTH12144 kH12163 gvq (by decide))
                have m12167 := (m12148).trans (fI_kept (x_lt hTH12144 kH12163 ga0 (by decide))).symm
                have m12168 := (m12149).trans (fI_kept (x_lt hTH12144 kH12163 ga0 (by decide))).symm
                have m12169 := (m12150).trans (fI_kept (x_lt hTH12144 kH12163 ga0 (by decide))).symm
                have m12170 := (m12151).trans (fI_kept (x_lt hTH12144 kH12163 ga0 (by decide))).symm
                have m12171 := (m12152).trans (fI_kept (x_lt hTH12144 kH12163 gmq (by decide))).symm
                have m12172 := (m12153).trans (fR_kept (x_lt hTH12144 kH12163 ga0 (by decide))).symm
                have m12173 := (m12154).trans (fR_kept (x_lt hTH12144 kH12163 ga0 (by decide))).symm
                have m12174 := (m12155).trans (fR_kept (x_lt hTH12144 kH12163 ga0 (by decide))).symm
                have m12175 := (m12156).trans (fI_kept (x_lt hTH12144 kH12163 ga1 (by decide))).symm
                refine W.eq (g2 := F0 m 185 ls12127 [.int x12164, .ref a0]) rfl ?_
                refine lv_if_eq (tgt := 193) hx hb dX4_start_185 (by decide) (fun c12176 => ?_) (fun c12176 => ?_)
                · have k12177 := i_eq c12176
                  refine lv_bipush (v := 25) hx hb dX4_start_193 (by decide) ?_
                  refine lv_iconst (v := 0) hx hb dX4_start_195 (by decide) ?_
                  refine lv_iload hx hb dX4_start_196 (lv_at hl12128 2 rfl) ?_
                  refine x_V (As := [.int 25, .int 0, .int x11817]) (rest := []) C (a_X4_addToken_e l K G H12163 (25) (0) (x11817) (x11818) (x11819) (x11820) (x11821) hTH12163 ga0 gmq m12172 gkq m12173 gvq m12174 m12167 m12168 m12169 m12170 (by omega)) yo_X4_addToken wM_X4_56 ⟨⟨by decide, by decide⟩, by decide, by decide⟩ (x_rv C hTH12163 (ci := 4) rfl ga0 rg_78) rfl hl12128.1 rfl (Nat.le_of_ble_eq_true rfl) dX4_start_198 hSH12163 (AE_sub (fun _ _ => rfl) (by decide) hSH12163.1) (fun vH12178 H12178 locsH12178 pH12178 zH12178 kH12178 hSH12178 => ?_)
                  obtain ⟨x12179, x12180, x12181, x12182, hvH12178, ex12179, ex12180, ex12181, ex12182, hrH12178, m12183, m12184, m12185, m12186, m12187, m12188, m12189, hTH12178⟩ := pH12178
                  subst hvH12178
                  have f12190 : ∀ j : Nat, bt j = (fI H12178 a1 j).toInt := fun j => (f12165 j).trans (congrArg Int32.toInt (fI_kept (x_lt hTH12163 kH12178 ga1 (by decide))).symm)
                  have m12191 := (m12171).trans (fI_kept (x_lt hTH12163 kH12178 gmq (by decide))).symm
                  have m12192 := (m12175).trans (fI_kept (x_lt hTH12163 kH12178 ga1 (by decide))).symm
                  have bx12179 := ty_fi (x := x12179) (k := 7) ex12179 hTH12178 ga0 rg_78 rfl
                  have bx12180 := ty_fi (x := x12180) (k := 6) ex12180 hTH12178 ga0 rg_78 rfl
                  have bx12181 := ty_fi (x := x12181) (k := 8) ex12181 hTH12178 ga0 rg_78 rfl
                  have bx12182 := ty_fi (x := x12182) (k := 1) ex12182 hTH12178 ga0 rg_78 rfl
                  have cn_x11819 := i_cl (x := x11819) (by omega)
                  have cn_x11819 := i_cl (x := x11819) (by omega)
                  have cn_x12126 := i_cl (x := x12126) (by omega)
                  have cn_x2 := i_cl (x := x2) (by omega)
                  have cn_x11817 := i_cl (x := x11817) (by omega)
                  have cn_x11817 := i_cl (x := x11817) (by omega)
                  have cn_x11819 := i_cl (x := x11819) (by omega)
                  have hs12196 : skB bt x2.toNatClampNeg x11817.toNatClampNeg = skB bt x2.toNatClampNeg (pS bt x2.toNatClampNeg x11819.toNatClampNeg) := hsp35
                  obtain ⟨tk12193, tk12194, tk12195⟩ := tok_s hs12196 (by omega) (by rw [qvx12123]; omega) (by rw [qvx12123]; omega) (by rw [qvx12123]; omega) (Or.inr ⟨by rw [qvx12123]; omega, rfl⟩)
                  have f12197 : TKP H12178 kq vq bt x2.toNatClampNeg (x11819.toNatClampNeg + 1) := TKP.add f12166 m12188 m12189 m12186 m12187 (by omega) (by rw [tk12193]; rfl) (by rw [tk12194]; rfl)
                  refine W.eq (g2 := F0 m 201 ls12127 []) rfl ?_
                  refine lv_goto (tgt := 35) hx hb dX4_start_201 (by decide) ?_
                  have cn_x11819 := i_cl (x := x11819) (by omega)
                  have cn_x12180 := i_cl (x := x12180) (by omega)
                  have cl00 : (0 : Int32).toNatClampNeg = 0 := rfl
                  have cn_x12126 := i_cl (x := x12126) (by omega)
                  have cn_x12180 := i_cl (x := x12180) (by omega)
                  have cn_x11819 := i_cl (x := x11819) (by omega)
                  have cn_x2 := i_cl (x := x2) (by omega)
                  have cn_x11819 := i_cl (x := x11819) (by omega)
                  have cn_x11817 := i_cl (x := x11817) (by omega)
                  exact ih35  ls12127 H12178 locsH12178 (x12126) (x12179) (x12180) (x12181) (x12182) (x11822) (lv_sub hl12128 [3, 4, 5, 0] rfl) hTH12178 hSH12178 (by have := i_rng x12126; omega) (by have := i_rng x12179; omega) (by have := i_rng x12180; omega) (by have := i_rng x12181; omega) (by have := i_rng x11822; omega) ex12179 ex12180 ex12181 ex12182 m12191 m12183 m12184 m12185 f12190 (TKP.to f12197 (by omega)) (by omega) (by omega) (by rw [show x12180.toNatClampNeg = x11819.toNatClampNeg + 1 by omega, tk12195, show x12126.toNatClampNeg = x11817.toNatClampNeg + 1 by omega])
                · have k12177 := i_ne c12176
                  refine lv_iload hx hb dX4_start_188 (lv_at hl12128 1 rfl) ?_
                  refine lv_goto (tgt := 195) hx hb dX4_start_190 (by decide) ?_
                  refine lv_iconst (v := 0) hx hb dX4_start_195 (by decide) ?_
                  refine lv_iload hx hb dX4_start_196 (lv_at hl12128 2 rfl) ?_
                  refine x_V (As := [.int x12123, .int 0, .int x11817]) (rest := []) C (a_X4_addToken_e l K G H12163 (x12123) (0) (x11817) (x11818) (x11819) (x11820) (x11821) hTH12163 ga0 gmq m12172 gkq m12173 gvq m12174 m12167 m12168 m12169 m12170 (by omega)) yo_X4_addToken wM_X4_56 ⟨⟨by decide, by decide⟩, by decide, by decide⟩ (x_rv C hTH12163 (ci := 4) rfl ga0 rg_78) rfl hl12128.1 rfl (Nat.le_of_ble_eq_true rfl) dX4_start_198 hSH12163 (AE_sub (fun _ _ => rfl) (by decide) hSH12163.1) (fun vH12198 H12198 locsH12198 pH12198 zH12198 kH12198 hSH12198 => ?_)
                  obtain ⟨x12199, x12200, x12201, x12202, hvH12198, ex12199, ex12200, ex12201, ex12202, hrH12198, m12203, m12204, m12205, m12206, m12207, m12208, m12209, hTH12198⟩ := pH12198
                  subst hvH12198
                  have f12210 : ∀ j : Nat, bt j = (fI H12198 a1 j).toInt := fun j => (f12165 j).trans (congrArg Int32.toInt (fI_kept (x_lt hTH12163 kH12198 ga1 (by decide))).symm)
                  have m12211 := (m12171).trans (fI_kept (x_lt hTH12163 kH12198 gmq (by decide))).symm
                  have m12212 := (m12175).trans (fI_kept (x_lt hTH12163 kH12198 ga1 (by decide))).symm
                  have bx12199 := ty_fi (x := x12199) (k := 7) ex12199 hTH12198 ga0 rg_78 rfl
                  have bx12200 := ty_fi (x := x12200) (k := 6) ex12200 hTH12198 ga0 rg_78 rfl
                  have bx12201 := ty_fi (x := x12201) (k := 8) ex12201 hTH12198 ga0 rg_78 rfl
                  have bx12202 := ty_fi (x := x12202) (k := 1) ex12202 hTH12198 ga0 rg_78 rfl
                  have cn_x11819 := i_cl (x := x11819) (by omega)
                  have cn_x11819 := i_cl (x := x11819) (by omega)
                  have cn_x12126 := i_cl (x := x12126) (by omega)
                  have cn_x2 := i_cl (x := x2) (by omega)
                  have cn_x11817 := i_cl (x := x11817) (by omega)
                  have cn_x11817 := i_cl (x := x11817) (by omega)
                  have cn_x11819 := i_cl (x := x11819) (by omega)
                  have hs12216 : skB bt x2.toNatClampNeg x11817.toNatClampNeg = skB bt x2.toNatClampNeg (pS bt x2.toNatClampNeg x11819.toNatClampNeg) := hsp35
                  obtain ⟨tk12213, tk12214, tk12215⟩ := tok_s hs12216 (by omega) (by rw [qvx12123]; omega) (by rw [qvx12123]; omega) (by rw [qvx12123]; omega) (Or.inl ⟨by rw [qvx12123]; omega, qvx12123.symm⟩)
                  have f12217 : TKP H12198 kq vq bt x2.toNatClampNeg (x11819.toNatClampNeg + 1) := TKP.add f12166 m12208 m12209 m12206 m12207 (by omega) (tk12213).symm (by rw [tk12214]; rfl)
                  refine W.eq (g2 := F0 m 201 ls12127 []) rfl ?_
                  refine lv_goto (tgt := 35) hx hb dX4_start_201 (by decide) ?_
                  have cn_x11819 := i_cl (x := x11819) (by omega)
                  have cn_x12200 := i_cl (x := x12200) (by omega)
                  have cl00 : (0 : Int32).toNatClampNeg = 0 := rfl
                  have cn_x12126 := i_cl (x := x12126) (by omega)
                  have cn_x12200 := i_cl (x := x12200) (by omega)
                  have cn_x11819 := i_cl (x := x11819) (by omega)
                  have cn_x2 := i_cl (x := x2) (by omega)
                  have cn_x11819 := i_cl (x := x11819) (by omega)
                  have cn_x11817 := i_cl (x := x11817) (by omega)
                  exact ih35  ls12127 H12198 locsH12198 (x12126) (x12199) (x12200) (x12201) (x12202) (x11822) (lv_sub hl12128 [3, 4, 5, 0] rfl) hTH12198 hSH12198 (by have := i_rng x12126; omega) (by have := i_rng x12199; omega) (by have := i_rng x12200; omega) (by have := i_rng x12201; omega) (by have := i_rng x11822; omega) ex12199 ex12200 ex12201 ex12202 m12211 m12203 m12204 m12205 f12210 (TKP.to f12217 (by omega)) (by omega) (by omega) (by rw [show x12200.toNatClampNeg = x11819.toNatClampNeg + 1 by omega, tk12215, show x12126.toNatClampNeg = x11817.toNatClampNeg + 1 by omega])
          · have k12158 := i_ne c12157
            have cn_x11819 := i_cl (x := x11819) (by omega)
            have cn_x11819 := i_cl (x := x11819) (by omega)
            have cl00 : (0 : Int32).toNatClampNeg = 0 := rfl
            have cn_x12126 := i_cl (x := x12126) (by omega)
            have cn_x11817 := i_cl (x := x11817) (by omega)
            have cn_x2 := i_cl (x := x2) (by omega)
            exact J110 ((500 - x12126.toInt).toNat + 1)  ls12127 H12144 locsH12144 (x12126) (x11817) (x11818) (x11819) (x11820) (x11821) (x11822) (lv_sub hl12128 [3, 4, 5, 0, 2] rfl) hTH12144 hSH12144 (by have := i_rng x2; omega) (by have := i_rng x12126; omega) (by have := i_rng x11817; omega) (by have := i_rng x11818; omega) (by have := i_rng x11819; omega) (by have := i_rng x11820; omega) (by have := i_rng x11822; omega) m12148 m12149 m12150 m12151 m12152 m12153 m12154 m12155 f12146 (TKP.to f12147 (by omega)) (by omega) (by omega) (by rw [show x12126.toNatClampNeg = x11817.toNatClampNeg + 1 by omega]; rfl) (by rw [qvx12123]; omega)
        · have k12143 := i_ne c12142
          have cn_x11819 := i_cl (x := x11819) (by omega)
          have cn_x11819 := i_cl (x := x11819) (by omega)
          have cl00 : (0 : Int32).toNatClampNeg = 0 := rfl
          have cn_x12126 := i_cl (x := x12126) (by omega)
          have cn_x11817 := i_cl (x := x11817) (by omega)
          have cn_x2 := i_cl (x := x2) (by omega)
          exact J62 ((500 - x12126.toInt).toNat + 1)  ls12127 H12129 locsH12129 (x12126) (x11817) (x11818) (x11819) (x11820) (x11821) (x11822) (lv_sub hl12128 [3, 4, 5, 0, 2] rfl) hTH12129 hSH12129 (by have := i_rng x2; omega) (by have := i_rng x12126; omega) (by have := i_rng x11817; omega) (by have := i_rng x11818; omega) (by have := i_rng x11819; omega) (by have := i_rng x11820; omega) (by have := i_rng x11822; omega) m12133 m12134 m12135 m12136 m12137 m12138 m12139 m12140 f12131 (TKP.to f12132 (by omega)) (by omega) (by omega) (by rw [show x12126.toNatClampNeg = x11817.toNatClampNeg + 1 by omega]; rfl) (by rw [qvx12123]; omega)
  refine lv_aload_n hx hb dX4_start_0 rfl (lv_at hl 0 rfl) ?_
  refine lv_iload_n hx hb dX4_start_1 rfl (lv_at hl 3 rfl) ?_
  refine x_put C hT hS (ci := 4) (k := 8) (v := .int x3) (ty0 := tyX4) rfl inX4 tyX4_ok nmX4 (by decide) rfl wF_X4_28 ga0 rg_78 rfl rfl (okI (by have := i_rng x3; omega) (by have := i_rng x3; omega)) (by rcases i_01 (x := x3) (by omega) with h | h <;> rw [h] <;> rfl) (by rcases i_01 (x := x3) (by omega) with h | h <;> rw [h] <;> rfl) (AE_in ga0 (by decide)) dX4_start_2 (fun H12218 locsH12218 hTH12218 hSH12218 wH12218 => ?_)
  have f12219 : ∀ j : Nat, bt j = (fI H12218 a1 j).toInt := fun j => (f0_bt j).trans (congrArg Int32.toInt (Wr.neI wH12218 (Or.inl (G_ne ga1 ga0 (by decide)))).symm)
  have f12220 : TKP H12218 kq vq bt x2.toNatClampNeg (0) := TKP.kept f0_tp (wH12218.off (G_ne gkq ga0 (by decide))) (wH12218.off (G_ne gvq ga0 (by decide)))
  have m12221 := emq.trans (Wr.neR wH12218 (Or.inr (x_apart hKT hts inX4 tyX4 tyX4_ok nmX4 rfl 0 8 (by decide) (by decide) (by decide)))).symm
  have m12222 := ekq.trans (Wr.neR wH12218 (Or.inr (x_apart hKT hts inX4 tyX4 tyX4_ok nmX4 rfl 3 8 (by decide) (by decide) (by decide)))).symm
  have m12223 := evq.trans (Wr.neR wH12218 (Or.inr (x_apart hKT hts inX4 tyX4 tyX4_ok nmX4 rfl 4 8 (by decide) (by decide) (by decide)))).symm
  have m12224 := etat.trans (Wr.neI wH12218 (Or.inr (x_apart hKT hts inX4 tyX4 tyX4_ok nmX4 rfl 7 8 (by decide) (by decide) (by decide)))).symm
  have m12225 := etk.trans (Wr.neI wH12218 (Or.inr (x_apart hKT hts inX4 tyX4 tyX4_ok nmX4 rfl 6 8 (by decide) (by decide) (by decide)))).symm
  have m12227 := efa.trans (Wr.neI wH12218 (Or.inr (x_apart hKT hts inX4 tyX4 tyX4_ok nmX4 rfl 1 8 (by decide) (by decide) (by decide)))).symm
  have m12228 := eli.trans (Wr.neI wH12218 (Or.inl (G_ne gmq ga0 (by decide)))).symm
  have m12229 := Wr.I wH12218
  have m12229 := m12229.symm
  refine lv_aload_n hx hb dX4_start_5 rfl (lv_at hl 0 rfl) ?_
  refine lv_iconst (v := 0) hx hb dX4_start_6 (by decide) ?_
  refine x_put C hTH12218 hSH12218 (ci := 4) (k := 1) (v := .int 0) (ty0 := tyX4) rfl inX4 tyX4_ok nmX4 (by decide) rfl wF_X4_32 ga0 rg_78 rfl rfl (okI (by have := i_rng (0 : Int32); omega) (by have := i_rng (0 : Int32); omega)) rfl rfl (AE_in ga0 (by decide)) dX4_start_7 (fun H12230 locsH12230 hTH12230 hSH12230 wH12230 => ?_)
  have f12231 : ∀ j : Nat, bt j = (fI H12230 a1 j).toInt := fun j => (f12219 j).trans (congrArg Int32.toInt (Wr.neI wH12230 (Or.inl (G_ne ga1 ga0 (by decide)))).symm)
  have f12232 : TKP H12230 kq vq bt x2.toNatClampNeg (0) := TKP.kept f12220 (wH12230.off (G_ne gkq ga0 (by decide))) (wH12230.off (G_ne gvq ga0 (by decide)))
  have m12233 := m12221.trans (Wr.neR wH12230 (Or.inr (x_apart hKT hts inX4 tyX4 tyX4_ok nmX4 rfl 0 1 (by decide) (by decide) (by decide)))).symm
  have m12234 := m12222.trans (Wr.neR wH12230 (Or.inr (x_apart hKT hts inX4 tyX4 tyX4_ok nmX4 rfl 3 1 (by decide) (by decide) (by decide)))).symm
  have m12235 := m12223.trans (Wr.neR wH12230 (Or.inr (x_apart hKT hts inX4 tyX4 tyX4_ok nmX4 rfl 4 1 (by decide) (by decide) (by decide)))).symm
  have m12236 := m12224.trans (Wr.neI wH12230 (Or.inr (x_apart hKT hts inX4 tyX4 tyX4_ok nmX4 rfl 7 1 (by decide) (by decide) (by decide)))).symm
  have m12237 := m12225.trans (Wr.neI wH12230 (Or.inr (x_apart hKT hts inX4 tyX4 tyX4_ok nmX4 rfl 6 1 (by decide) (by decide) (by decide)))).symm
  have m12239 := m12228.trans (Wr.neI wH12230 (Or.inl (G_ne gmq ga0 (by decide)))).symm
  have m12240 := m12229.trans (Wr.neI wH12230 (Or.inr (x_apart hKT hts inX4 tyX4 tyX4_ok nmX4 rfl 8 1 (by decide) (by decide) (by decide)))).symm
  have m12241 := Wr.I wH12230
  refine lv_aload_n hx hb dX4_start_10 rfl (lv_at hl 0 rfl) ?_
  refine lv_iconst (v := (-1)) hx hb dX4_start_11 (by decide) ?_
  refine x_put C hTH12230 hSH12230 (ci := 4) (k := 2) (v := .int (-1)) (ty0 := tyX4) rfl inX4 tyX4_ok nmX4 (by decide) rfl wF_X4_36 ga0 rg_78 rfl rfl (okI (by have := i_rng ((-1) : Int32); omega) (by have := i_rng ((-1) : Int32); omega)) rfl rfl (AE_in ga0 (by decide)) dX4_start_12 (fun H12242 locsH12242 hTH12242 hSH12242 wH12242 => ?_)
  have f12243 : ∀ j : Nat, bt j = (fI H12242 a1 j).toInt := fun j => (f12231 j).trans (congrArg Int32.toInt (Wr.neI wH12242 (Or.inl (G_ne ga1 ga0 (by decide)))).symm)
  have f12244 : TKP H12242 kq vq bt x2.toNatClampNeg (0) := TKP.kept f12232 (wH12242.off (G_ne gkq ga0 (by decide))) (wH12242.off (G_ne gvq ga0 (by decide)))
  have m12245 := m12233.trans (Wr.neR wH12242 (Or.inr (x_apart hKT hts inX4 tyX4 tyX4_ok nmX4 rfl 0 2 (by decide) (by decide) (by decide)))).symm
  have m12246 := m12234.trans (Wr.neR wH12242 (Or.inr (x_apart hKT hts inX4 tyX4 tyX4_ok nmX4 rfl 3 2 (by decide) (by decide) (by decide)))).symm
  have m12247 := m12235.trans (Wr.neR wH12242 (Or.inr (x_apart hKT hts inX4 tyX4 tyX4_ok nmX4 rfl 4 2 (by decide) (by decide) (by decide)))).symm
  have m12248 := m12236.trans (Wr.neI wH12242 (Or.inr (x_apart hKT hts inX4 tyX4 tyX4_ok nmX4 rfl 7 2 (by decide) (by decide) (by decide)))).symm
  have m12249 := m12237.trans (Wr.neI wH12242 (Or.inr (x_apart hKT hts inX4 tyX4 tyX4_ok nmX4 rfl 6 2 (by decide) (by decide) (by decide)))).symm
  have m12250 := m12239.trans (Wr.neI wH12242 (Or.inl (G_ne gmq ga0 (by decide)))).symm
  have m12251 := m12240.trans (Wr.neI wH12242 (Or.inr (x_apart hKT hts inX4 tyX4 tyX4_ok nmX4 rfl 8 2 (by decide) (by decide) (by decide)))).symm
  have m12252 := (Wr.neI wH12242 (Or.inr (x_apart hKT hts inX4 tyX4 tyX4_ok nmX4 rfl 1 2 (by decide) (by decide) (by decide)))).trans m12241
  have m12253 := Wr.I wH12242
  refine lv_aload_n hx hb dX4_start_15 rfl (lv_at hl 0 rfl) ?_
  refine x_gr C hTH12242 (ci := 4) (k := 0) rfl inX4 (by decide) wF_X4_12 ga0 rg_78 rfl dX4_start_16 (fun q12254 eq12254 gq12254 => ?_)
  have uq12254 : mq = q12254 := (m12245).trans eq12254.symm
  subst uq12254
  refine x_V (As := []) (rest := []) C (a_X7_clear_e l K G H12242 (li) hTH12242 gmq m12250) yo_X7_clear wM_X4_39 ⟨⟨by decide, by decide⟩, by decide, by decide⟩ (x_rv C hTH12242 (ci := 7) rfl gmq rg_69) rfl hl.1 rfl (Nat.le_of_ble_eq_true rfl) dX4_start_19 hSH12242 (AE_sub (fun _ _ => rfl) (by decide) hSH12242.1) (fun vH12255 H12255 locsH12255 pH12255 zH12255 kH12255 hSH12255 => ?_)
  obtain ⟨x12256, hvH12255, ex12256, hrH12255, hTH12255⟩ := pH12255
  subst hvH12255
  have f12257 : ∀ j : Nat, bt j = (fI H12255 a1 j).toInt := fun j => (f12243 j).trans (congrArg Int32.toInt (fI_kept (x_lt hTH12242 kH12255 ga1 (by decide))).symm)
  have f12258 : TKP H12255 kq vq bt x2.toNatClampNeg (0) := TKP.kept f12244 (x_lt hTH12242 kH12255 gkq (by decide)) (x_lt hTH12242 kH12255 gvq (by decide))
  have m12259 := (m12245).trans (fR_kept (x_lt hTH12242 kH12255 ga0 (by decide))).symm
  have m12260 := (m12246).trans (fR_kept (x_lt hTH12242 kH12255 ga0 (by decide))).symm
  have m12261 := (m12247).trans (fR_kept (x_lt hTH12242 kH12255 ga0 (by decide))).symm
  have m12262 := (m12248).trans (fI_kept (x_lt hTH12242 kH12255 ga0 (by decide))).symm
  have m12263 := (m12249).trans (fI_kept (x_lt hTH12242 kH12255 ga0 (by decide))).symm
  have m12264 := (m12251).trans (fI_kept (x_lt hTH12242 kH12255 ga0 (by decide))).symm
  have m12265 := (fI_kept (x_lt hTH12242 kH12255 ga0 (by decide))).trans m12252
  have m12266 := (fI_kept (x_lt hTH12242 kH12255 ga0 (by decide))).trans m12253
  have bx12256 := ty_fi (x := x12256) (k := 0) ex12256 hTH12255 gmq rg_69 rfl
  refine W.eq (g2 := F0 m 22 ls []) rfl ?_
  refine lv_aload_n hx hb dX4_start_22 rfl (lv_at hl 0 rfl) ?_
  refine lv_iconst (v := 0) hx hb dX4_start_23 (by decide) ?_
  refine x_put C hTH12255 hSH12255 (ci := 4) (k := 7) (v := .int 0) (ty0 := tyX4) rfl inX4 tyX4_ok nmX4 (by decide) rfl wF_X4_42 ga0 rg_78 rfl rfl (okI (by have := i_rng (0 : Int32); omega) (by have := i_rng (0 : Int32); omega)) rfl rfl (AE_in ga0 (by decide)) dX4_start_24 (fun H12267 locsH12267 hTH12267 hSH12267 wH12267 => ?_)
  have f12268 : ∀ j : Nat, bt j = (fI H12267 a1 j).toInt := fun j => (f12257 j).trans (congrArg Int32.toInt (Wr.neI wH12267 (Or.inl (G_ne ga1 ga0 (by decide)))).symm)
  have f12269 : TKP H12267 kq vq bt x2.toNatClampNeg (0) := TKP.kept f12258 (wH12267.off (G_ne gkq ga0 (by decide))) (wH12267.off (G_ne gvq ga0 (by decide)))
  have m12270 := m12259.trans (Wr.neR wH12267 (Or.inr (x_apart hKT hts inX4 tyX4 tyX4_ok nmX4 rfl 0 7 (by decide) (by decide) (by decide)))).symm
  have m12271 := m12260.trans (Wr.neR wH12267 (Or.inr (x_apart hKT hts inX4 tyX4 tyX4_ok nmX4 rfl 3 7 (by decide) (by decide) (by decide)))).symm
  have m12272 := m12261.trans (Wr.neR wH12267 (Or.inr (x_apart hKT hts inX4 tyX4 tyX4_ok nmX4 rfl 4 7 (by decide) (by decide) (by decide)))).symm
  have m12274 := m12263.trans (Wr.neI wH12267 (Or.inr (x_apart hKT hts inX4 tyX4 tyX4_ok nmX4 rfl 6 7 (by decide) (by decide) (by decide)))).symm
  have m12275 := m12264.trans (Wr.neI wH12267 (Or.inr (x_apart hKT hts inX4 tyX4 tyX4_ok nmX4 rfl 8 7 (by decide) (by decide) (by decide)))).symm
  have m12276 := (Wr.neI wH12267 (Or.inr (x_apart hKT hts inX4 tyX4 tyX4_ok nmX4 rfl 1 7 (by decide) (by decide) (by decide)))).trans m12265
  have m12277 := (Wr.neI wH12267 (Or.inr (x_apart hKT hts inX4 tyX4 tyX4_ok nmX4 rfl 2 7 (by decide) (by decide) (by decide)))).trans m12266
  have m12278 := ex12256.trans (Wr.neI wH12267 (Or.inl (G_ne gmq ga0 (by decide)))).symm
  have m12279 := Wr.I wH12267
  refine lv_aload_n hx hb dX4_start_27 rfl (lv_at hl 0 rfl) ?_
  refine lv_iconst (v := 0) hx hb dX4_start_28 (by decide) ?_
  refine x_put C hTH12267 hSH12267 (ci := 4) (k := 6) (v := .int 0) (ty0 := tyX4) rfl inX4 tyX4_ok nmX4 (by decide) rfl wF_X4_45 ga0 rg_78 rfl rfl (okI (by have := i_rng (0 : Int32); omega) (by have := i_rng (0 : Int32); omega)) rfl rfl (AE_in ga0 (by decide)) dX4_start_29 (fun H12280 locsH12280 hTH12280 hSH12280 wH12280 => ?_)
  have f12281 : ∀ j : Nat, bt j = (fI H12280 a1 j).toInt := fun j => (f12268 j).trans (congrArg Int32.toInt (Wr.neI wH12280 (Or.inl (G_ne ga1 ga0 (by decide)))).symm)
  have f12282 : TKP H12280 kq vq bt x2.toNatClampNeg (0) := TKP.kept f12269 (wH12280.off (G_ne gkq ga0 (by decide))) (wH12280.off (G_ne gvq ga0 (by decide)))
  have m12283 := m12270.trans (Wr.neR wH12280 (Or.inr (x_apart hKT hts inX4 tyX4 tyX4_ok nmX4 rfl 0 6 (by decide) (by decide) (by decide)))).symm
  have m12284 := m12271.trans (Wr.neR wH12280 (Or.inr (x_apart hKT hts inX4 tyX4 tyX4_ok nmX4 rfl 3 6 (by decide) (by decide) (by decide)))).symm
  have m12285 := m12272.trans (Wr.neR wH12280 (Or.inr (x_apart hKT hts inX4 tyX4 tyX4_ok nmX4 rfl 4 6 (by decide) (by decide) (by decide)))).symm
  have m12287 := m12275.trans (Wr.neI wH12280 (Or.inr (x_apart hKT hts inX4 tyX4 tyX4_ok nmX4 rfl 8 6 (by decide) (by decide) (by decide)))).symm
  have m12288 := (Wr.neI wH12280 (Or.inr (x_apart hKT hts inX4 tyX4 tyX4_ok nmX4 rfl 1 6 (by decide) (by decide) (by decide)))).trans m12276
  have m12289 := (Wr.neI wH12280 (Or.inr (x_apart hKT hts inX4 tyX4 tyX4_ok nmX4 rfl 2 6 (by decide) (by decide) (by decide)))).trans m12277
  have m12290 := m12278.trans (Wr.neI wH12280 (Or.inl (G_ne gmq ga0 (by decide)))).symm
  have m12291 := (Wr.neI wH12280 (Or.inr (x_apart hKT hts inX4 tyX4 tyX4_ok nmX4 rfl 7 6 (by decide) (by decide) (by decide)))).trans m12279
  have m12292 := Wr.I wH12280
  refine lv_iconst (v := 0) hx hb dX4_start_32 (by decide) ?_
  refine lv_istore (lv' := [(4, .int 0), (0, .ref a0), (1, .ref a1), (2, .int x2), (3, .int x3)]) hx hb dX4_start_33 hl (by decide) rfl (fun ls12293 hl12294 => ?_)
  have cl00 : (0 : Int32).toNatClampNeg = 0 := rfl
  exact J35 ((500 - (0 : Int32).toInt).toNat + 1)  ls12293 H12280 locsH12280 (0) (0) (0) (x3) (0) (x12256) (lv_sub hl12294 [1, 2, 3, 0] rfl) hTH12280 hSH12280 (by decide) (by decide) (by decide) (by have := i_rng x3; omega) (by have := i_rng x12256; omega) (m12291).symm (m12292).symm m12287 (m12288).symm m12290 m12283 m12284 m12285 f12281 (TKP.to f12282 (by omega)) (by omega) (by omega) rfl
