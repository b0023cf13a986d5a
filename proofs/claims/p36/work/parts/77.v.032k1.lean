
set_option maxHeartbeats 4000000 in
set_option maxRecDepth 100000 in
theorem a_X4_isLetter_e (l : Launch) (K : KE) (G : Nat → Option Nat) (H : Heap) (x0 : Int32) (hT : TY K G H)  : MX l K yX4_isLetter cX4_isLetter 1 (some .boolean) 0 0 0 0 [.int x0] H (AE G [] H.size) (fun v H1 => ∃ (r : Int32), v = some (.int r) ∧ (0 ≤ r.toInt ∧ r.toInt ≤ 1) ∧ ((r.toInt = 1 ∧ ((97 ≤ x0.toInt ∧ x0.toInt ≤ 122) ∨ (65 ≤ x0.toInt ∧ x0.toInt ≤ 90))) ∨ (r.toInt = 0 ∧ ((x0.toInt < 97 ∨ 122 < x0.toInt) ∧ (x0.toInt < 65 ∨ 90 < x0.toInt)))) ∧ TY K G H1) := by
  refine MX.of (by decide +kernel) (Nat.le_of_ble_eq_true rfl) ?_
  intro p e s m below meth c ls Q C hH hl hQ
  subst hH
  have C : CX p K s m _ meth c RX4 cX4_isLetter 1 (some .boolean) "isLetter" := C
  obtain ⟨hx, hb, hml, hown, hts, hKT, hr, hlocks, hnm⟩ := id C
  have hl : lv_has ls 1 [(0, .int x0)] := hl
  have hS : va_S (AE G [] s.heap.size) s.heap s.heap [] := va_S.rf
  have n_0 : (0 : Int32).toInt = 0 := rfl
  have n_1 : (1 : Int32).toInt = 1 := rfl
  have n_65 : (65 : Int32).toInt = 65 := rfl
  have n_90 : (90 : Int32).toInt = 90 := rfl
  have n_97 : (97 : Int32).toInt = 97 := rfl
  have n_122 : (122 : Int32).toInt = 122 := rfl
  refine lv_iload_n hx hb dX4_isLetter_0 rfl (lv_at hl 0 rfl) ?_
  refine lv_bipush (v := 97) hx hb dX4_isLetter_1 (by decide) ?_
  refine lv_icmp_lt (tgt := 12) hx hb dX4_isLetter_3 (by decide) (fun c149 => ?_) (fun c149 => ?_)
  · have k150 := i_lt c149
    refine lv_iload_n hx hb dX4_isLetter_12 rfl (lv_at hl 0 rfl) ?_
    refine lv_bipush (v := 65) hx hb dX4_isLetter_13 (by decide) ?_
    refine lv_icmp_lt (tgt := 28) hx hb dX4_isLetter_15 (by decide) (fun c151 => ?_) (fun c151 => ?_)
    · have k152 := i_lt c151
      refine lv_iconst (v := 0) hx hb dX4_isLetter_28 (by decide) ?_
      exact x_zret C hQ (Or.inl rfl) dX4_isLetter_29 hS (by decide) (by decide) (⟨0, rfl, by decide, by omega, hT⟩)
    · have k152 := i_nlt c151
      refine lv_iload_n hx hb dX4_isLetter_18 rfl (lv_at hl 0 rfl) ?_
      refine lv_bipush (v := 90) hx hb dX4_isLetter_19 (by decide) ?_
      refine lv_icmp_gt (tgt := 28) hx hb dX4_isLetter_21 (by decide) (fun c153 => ?_) (fun c153 => ?_)
      · have k154 := i_lt c153
        refine lv_iconst (v := 0) hx hb dX4_isLetter_28 (by decide) ?_
        exact x_zret C hQ (Or.inl rfl) dX4_isLetter_29 hS (by decide) (by decide) (⟨0, rfl, by decide, by omega, hT⟩)
      · have k154 := i_nlt c153
        refine lv_iconst (v := 1) hx hb dX4_isLetter_24 (by decide) ?_
        refine lv_goto (tgt := 29) hx hb dX4_isLetter_25 (by decide) ?_
        exact x_zret C hQ (Or.inr rfl) dX4_isLetter_29 hS (by decide) (by decide) (⟨1, rfl, by decide, by omega, hT⟩)
  · have k150 := i_nlt c149
    refine lv_iload_n hx hb dX4_isLetter_6 rfl (lv_at hl 0 rfl) ?_
    refine lv_bipush (v := 122) hx hb dX4_isLetter_7 (by decide) ?_
    refine lv_icmp_le (tgt := 24) hx hb dX4_isLetter_9 (by decide) (fun c155 => ?_) (fun c155 => ?_)
    · have k156 := i_le c155
      refine lv_iconst (v := 1) hx hb dX4_isLetter_24 (by decide) ?_
      refine lv_goto (tgt := 29) hx hb dX4_isLetter_25 (by decide) ?_
      exact x_zret C hQ (Or.inr rfl) dX4_isLetter_29 hS (by decide) (by decide) (⟨1, rfl, by decide, by omega, hT⟩)
    · have k156 := i_nle c155
      refine lv_iload_n hx hb dX4_isLetter_12 rfl (lv_at hl 0 rfl) ?_
      refine lv_bipush (v := 65) hx hb dX4_isLetter_13 (by decide) ?_
      refine lv_icmp_lt (tgt := 28) hx hb dX4_isLetter_15 (by decide) (fun c157 => ?_) (fun c157 => ?_)
      · have k158 := i_lt c157
        exfalso
        omega
      · have k158 := i_nlt c157
        refine lv_iload_n hx hb dX4_isLetter_18 rfl (lv_at hl 0 rfl) ?_
        refine lv_bipush (v := 90) hx hb dX4_isLetter_19 (by decide) ?_
        refine lv_icmp_gt (tgt := 28) hx hb dX4_isLetter_21 (by decide) (fun c159 => ?_) (fun c159 => ?_)
        · have k160 := i_lt c159
          refine lv_iconst (v := 0) hx hb dX4_isLetter_28 (by decide) ?_
          exact x_zret C hQ (Or.inl rfl) dX4_isLetter_29 hS (by decide) (by decide) (⟨0, rfl, by decide, by omega, hT⟩)
        · have k160 := i_nlt c159
          exfalso
          omega

set_option maxHeartbeats 4000000 in
set_option maxRecDepth 100000 in
theorem a_X4_isDigit_e (l : Launch) (K : KE) (G : Nat → Option Nat) (H : Heap) (x0 : Int32) (hT : TY K G H)  : MX l K yX4_isDigit cX4_isDigit 1 (some .boolean) 0 0 0 0 [.int x0] H (AE G [] H.size) (fun v H1 => ∃ (r : Int32), v = some (.int r) ∧ (0 ≤ r.toInt ∧ r.toInt ≤ 1) ∧ ((r.toInt = 1 ∧ 48 ≤ x0.toInt ∧ x0.toInt ≤ 57) ∨ (r.toInt = 0 ∧ (x0.toInt < 48 ∨ 57 < x0.toInt))) ∧ TY K G H1) := by
  refine MX.of (by decide +kernel) (Nat.le_of_ble_eq_true rfl) ?_
  intro p e s m below meth c ls Q C hH hl hQ
  subst hH
  have C : CX p K s m _ meth c RX4 cX4_isDigit 1 (some .boolean) "isDigit" := C
  obtain ⟨hx, hb, hml, hown, hts, hKT, hr, hlocks, hnm⟩ := id C
  have hl : lv_has ls 1 [(0, .int x0)] := hl
  have hS : va_S (AE G [] s.heap.size) s.heap s.heap [] := va_S.rf
  have n_0 : (0 : Int32).toInt = 0 := rfl
  have n_1 : (1 : Int32).toInt = 1 := rfl
  have n_48 : (48 : Int32).toInt = 48 := rfl
  have n_57 : (57 : Int32).toInt = 57 := rfl
  refine lv_iload_n hx hb dX4_isDigit_0 rfl (lv_at hl 0 rfl) ?_
  refine lv_bipush (v := 48) hx hb dX4_isDigit_1 (by decide) ?_
  refine lv_icmp_lt (tgt := 16) hx hb dX4_isDigit_3 (by decide) (fun c117 => ?_) (fun c117 => ?_)
  · have k118 := i_lt c117
    refine lv_iconst (v := 0) hx hb dX4_isDigit_16 (by decide) ?_
    exact x_zret C hQ (Or.inl rfl) dX4_isDigit_17 hS (by decide) (by decide) (⟨0, rfl, by decide, by omega, hT⟩)
  · have k118 := i_nlt c117
    refine lv_iload_n hx hb dX4_isDigit_6 rfl (lv_at hl 0 rfl) ?_
    refine lv_bipush (v := 57) hx hb dX4_isDigit_7 (by decide) ?_
    refine lv_icmp_gt (tgt := 16) hx hb dX4_isDigit_9 (by decide) (fun c119 => ?_) (fun c119 => ?_)
    · have k120 := i_lt c119
      refine lv_iconst (v := 0) hx hb dX4_isDigit_16 (by decide) ?_
      exact x_zret C hQ (Or.inl rfl) dX4_isDigit_17 hS (by decide) (by decide) (⟨0, rfl, by decide, by omega, hT⟩)
    · have k120 := i_nlt c119
      refine lv_iconst (v := 1) hx hb dX4_isDigit_12 (by decide) ?_
      refine lv_goto (tgt := 17) hx hb dX4_isDigit_13 (by decide) ?_
      exact x_zret C hQ (Or.inr rfl) dX4_isDigit_17 hS (by decide) (by decide) (⟨1, rfl, by decide, by omega, hT⟩)

set_option maxHeartbeats 4000000 in
set_option maxRecDepth 100000 in
theorem a_X4_isSign_e (l : Launch) (K : KE) (G : Nat → Option Nat) (H : Heap) (x0 : Int32) (hT : TY K G H)  : MX l K yX4_isSign cX4_isSign 1 (some .boolean) 0 0 0 0 [.int x0] H (AE G [] H.size) (fun v H1 => ∃ (r : Int32), v = some (.int r) ∧ (0 ≤ r.toInt ∧ r.toInt ≤ 1) ∧ ((r.toInt = 1 ∧ ((40 ≤ x0.toInt ∧ x0.toInt ≤ 43) ∨ x0.toInt = 45 ∨ x0.toInt = 47 ∨ (59 ≤ x0.toInt ∧ x0.toInt ≤ 62))) ∨ (r.toInt = 0 ∧ ((x0.toInt < 40 ∨ 43 < x0.toInt) ∧ x0.toInt ≠ 45 ∧ x0.toInt ≠ 47 ∧ (x0.toInt < 59 ∨ 62 < x0.toInt)))) ∧ TY K G H1) := by
  refine MX.of (by decide +kernel) (Nat.le_of_ble_eq_true rfl) ?_
  intro p e s m below meth c ls Q C hH hl hQ
  subst hH
  have C : CX p K s m _ meth c RX4 cX4_isSign 1 (some .boolean) "isSign" := C
  obtain ⟨hx, hb, hml, hown, hts, hKT, hr, hlocks, hnm⟩ := id C
  have hl : lv_has ls 1 [(0, .int x0)] := hl
  have hS : va_S (AE G [] s.heap.size) s.heap s.heap [] := va_S.rf
  have n_0 : (0 : Int32).toInt = 0 := rfl
  have n_1 : (1 : Int32).toInt = 1 := rfl
  have n_40 : (40 : Int32).toInt = 40 := rfl
  have n_43 : (43 : Int32).toInt = 43 := rfl
  have n_45 : (45 : Int32).toInt = 45 := rfl
  have n_47 : (47 : Int32).toInt = 47 := rfl
  have n_59 : (59 : Int32).toInt = 59 := rfl
  have n_62 : (62 : Int32).toInt = 62 := rfl
  refine lv_iload_n hx hb dX4_isSign_0 rfl (lv_at hl 0 rfl) ?_
  refine lv_bipush (v := 40) hx hb dX4_isSign_1 (by decide) ?_
  refine lv_icmp_lt (tgt := 12) hx hb dX4_isSign_3 (by decide) (fun c173 => ?_) (fun c173 => ?_)
  · have k174 := i_lt c173
    refine lv_iload_n hx hb dX4_isSign_12 rfl (lv_at hl 0 rfl) ?_
    refine lv_bipush (v := 45) hx hb dX4_isSign_13 (by decide) ?_
    refine lv_icmp_eq (tgt := 36) hx hb dX4_isSign_15 (by decide) (fun c175 => ?_) (fun c175 => ?_)
    · have k176 := i_eq c175
      exfalso
      omega
    · have k176 := i_ne c175
      refine lv_iload_n hx hb dX4_isSign_18 rfl (lv_at hl 0 rfl) ?_
      refine lv_bipush (v := 47) hx hb dX4_isSign_19 (by decide) ?_
      refine lv_icmp_eq (tgt := 36) hx hb dX4_isSign_21 (by decide) (fun c177 => ?_) (fun c177 => ?_)
      · have k178 := i_eq c177
        exfalso
        omega
      · have k178 := i_ne c177
        refine lv_iload_n hx hb dX4_isSign_24 rfl (lv_at hl 0 rfl) ?_
        refine lv_bipush (v := 59) hx hb dX4_isSign_25 (by decide) ?_
        refine lv_icmp_lt (tgt := 40) hx hb dX4_isSign_27 (by decide) (fun c179 => ?_) (fun c179 => ?_)
        · have k180 := i_lt c179
          refine lv_iconst (v := 0) hx hb dX4_isSign_40 (by decide) ?_
          exact x_zret C hQ (Or.inl rfl) dX4_isSign_41 hS (by decide) (by decide) (⟨0, rfl, by decide, by omega, hT⟩)
        · have k180 := i_nlt c179
          exfalso
          omega
  · have k174 := i_nlt c173
    refine lv_iload_n hx hb dX4_isSign_6 rfl (lv_at hl 0 rfl) ?_
    refine lv_bipush (v := 43) hx hb dX4_isSign_7 (by decide) ?_
    refine lv_icmp_le (tgt := 36) hx hb dX4_isSign_9 (by decide) (fun c181 => ?_) (fun c181 => ?_)
    · have k182 := i_le c181
      refine lv_iconst (v := 1) hx hb dX4_isSign_36 (by decide) ?_
      refine lv_goto (tgt := 41) hx hb dX4_isSign_37 (by decide) ?_
      exact x_zret C hQ (Or.inr rfl) dX4_isSign_41 hS (by decide) (by decide) (⟨1, rfl, by decide, by omega, hT⟩)
    · have k182 := i_nle c181
      refine lv_iload_n hx hb dX4_isSign_12 rfl (lv_at hl 0 rfl) ?_
      refine lv_bipush (v := 45) hx hb dX4_isSign_13 (by decide) ?_
      refine lv_icmp_eq (tgt := 36) hx hb dX4_isSign_15 (by decide) (fun c183 => ?_) (fun c183 => ?_)
      · have k184 := i_eq c183
        refine lv_iconst (v := 1) hx hb dX4_isSign_36 (by decide) ?_
        refine lv_goto (tgt := 41) hx hb dX4_isSign_37 (by decide) ?_
        exact x_zret C hQ (Or.inr rfl) dX4_isSign_41 hS (by decide) (by decide) (⟨1, rfl, by decide, by omega, hT⟩)
      · have k184 := i_ne c183
        refine lv_iload_n hx hb dX4_isSign_18 rfl (lv_at hl 0 rfl) ?_
        refine lv_bipush (v := 47) hx hb dX4_isSign_19 (by decide) ?_
        refine lv_icmp_eq (tgt := 36) hx hb dX4_isSign_21 (by decide) (fun c185 => ?_) (fun c185 => ?_)
        · have k186 := i_eq c185
          refine lv_iconst (v := 1) hx hb dX4_isSign_36 (by decide) ?_
          refine lv_goto (tgt := 41) hx hb dX4_isSign_37 (by decide) ?_
          exact x_zret C hQ (Or.inr rfl) dX4_isSign_41 hS (by decide) (by decide) (⟨1, rfl, by decide, by omega, hT⟩)
        · have k186 := i_ne c185
          refine lv_iload_n hx hb dX4_isSign_24 rfl (lv_at hl 0 rfl) ?_
          refine lv_bipush (v := 59) hx hb dX4_isSign_25 (by decide) ?_
          refine lv_icmp_lt (tgt := 40) hx hb dX4_isSign_27 (by decide) (fun c187 => ?_) (fun c187 => ?_)
          · have k188 := i_lt c187
            refine lv_iconst (v := 0) hx hb dX4_isSign_40 (by decide) ?_
            exact x_zret C hQ (Or.inl rfl) dX4_isSign_41 hS (by decide) (by decide) (⟨0, rfl, by decide, by omega, hT⟩)
          · have k188 := i_nlt c187
            refine lv_iload_n hx hb dX4_isSign_30 rfl (lv_at hl 0 rfl) ?_
            refine lv_bipush (v := 62) hx hb dX4_isSign_31 (by decide) ?_
            refine lv_icmp_gt (tgt := 40) hx hb dX4_isSign_33 (by decide) (fun c189 => ?_) (fun c189 => ?_)
            · have k190 := i_lt c189
              refine lv_iconst (v := 0) hx hb dX4_isSign_40 (by decide) ?_
              exact x_zret C hQ (Or.inl rfl) dX4_isSign_41 hS (by decide) (by decide) (⟨0, rfl, by decide, by omega, hT⟩)
            · have k190 := i_nlt c189
              refine lv_iconst (v := 1) hx hb dX4_isSign_36 (by decide) ?_
              refine lv_goto (tgt := 41) hx hb dX4_isSign_37 (by decide) ?_
              exact x_zret C hQ (Or.inr rfl) dX4_isSign_41 hS (by decide) (by decide) (⟨1, rfl, by decide, by omega, hT⟩)

set_option maxHeartbeats 4000000 in
set_option maxRecDepth 100000 in
theorem a_X4_isWord_e (l : Launch) (K : KE) (G : Nat → Option Nat) (H : Heap) {a0 : Nat} (x1 : Int32) (x2 : Int32) (x3 : Int32) (bt : Nat → Int) (hT : TY K G H) (ga0 : G a0 = some 108) (hx1 : 0 ≤ x1.toInt ∧ x1.toInt ≤ 500) (hx2 : 0 ≤ x2.toInt ∧ x2.toInt ≤ 500) (hx3 : 0 ≤ x3.toInt ∧ x3.toInt ≤ 23) (hv_bt : ∀ j : Nat, bt j = (fI H a0 j).toInt) : MX l K yX4_isWord cX4_isWord 6 (some .boolean) 4 111 0 0 [.ref a0, .int x1, .int x2, .int x3] H (AE G [] H.size) (fun v H1 => ∃ (r : Int32), v = some (.int r) ∧ (0 ≤ r.toInt ∧ r.toInt ≤ 1) ∧ (wEq bt x1.toNatClampNeg x2.toNatClampNeg x3.toNatClampNeg = decide (r.toInt = 1)) ∧ TY K G H1) := by
  refine MX.of (by decide +kernel) (Nat.le_of_ble_eq_true rfl) ?_
  intro p e s m below meth c ls Q C hH hl hQ
  subst hH
  have C : CX p K s m _ meth c RX4 cX4_isWord 6 (some .boolean) "isWord" := C
  obtain ⟨hx, hb, hml, hown, hts, hKT, hr, hlocks, hnm⟩ := id C
  have hl : lv_has ls 6 [(0, .ref a0), (1, .int x1), (2, .int x2), (3, .int x3)] := hl
  have hS : va_S (AE G [] s.heap.size) s.heap s.heap [] := va_S.rf
  have n_0 : (0 : Int32).toInt = 0 := rfl
  have n_1 : (1 : Int32).toInt = 1 := rfl
  have n_6 : (6 : Int32).toInt = 6 := rfl
  have n_32 : (32 : Int32).toInt = 32 := rfl
  have hsp0 : wEq bt x1.toNatClampNeg x2.toNatClampNeg x3.toNatClampNeg = al (wMt bt x1.toNatClampNeg x2.toNatClampNeg x3.toNatClampNeg) 6 0 := rfl
  have f0_bt := hv_bt
  have J3 : ∀ (nf : Nat)  (ls410 : Array Slot) (H409 : Heap) (locsH409 : List Loc) (x412 : Int32), lv_has ls410 6 [(0, .ref a0), (1, .int x1), (2, .int x2), (3, .int x3), (4, .int x412)] → TY K G H409 → va_S (AE G [] s.heap.size) s.heap H409 locsH409 → (0 ≤ x412.toInt ∧ x412.toInt ≤ 6) → (∀ j : Nat, bt j = (fI H409 a0 j).toInt) → (6 - x412.toInt < (nf : Int)) → (wEq bt x1.toNatClampNeg x2.toNatClampNeg x3.toNatClampNeg = al (wMt bt x1.toNatClampNeg x2.toNatClampNeg x3.toNatClampNeg) (6 - x412.toNatClampNeg) x412.toNatClampNeg) → W p l e ({ frames := 4, cells := 0, slots := 0, locals := 111 } : Room) s m (([.ref a0, .int x1, .int x2, .int x3] : List Value).toArray) below meth c H409 locsH409 0 0 Q (F0 m 3 ls410 []) := by
    intro nf
    induction nf with
    | zero =>
      intro  ls410 H409 locsH409 x412 hl411 hTH409 hSH409 bx412 fy413_bt hm3 hsp3
      exfalso
      omega
    | succ nf ih3 =>
      intro  ls410 H409 locsH409 x412 hl411 hTH409 hSH409 bx412 fy413_bt hm3 hsp3
      refine lv_iload hx hb dX4_isWord_3 (lv_at hl411 4 rfl) ?_
      refine lv_bipush (v := 6) hx hb dX4_isWord_5 (by decide) ?_
      refine lv_icmp_ge (tgt := 56) hx hb dX4_isWord_7 (by decide) (fun c414 => ?_) (fun c414 => ?_)
      · have k415 := i_le c414
        refine lv_iconst (v := 1) hx hb dX4_isWord_56 (by decide) ?_
        have cn_x412 := i_cl (x := x412) (by omega)
        exact x_zret C hQ (Or.inr rfl) dX4_isWord_57 hSH409 (by decide) (by decide) (⟨1, rfl, by decide, (hsp3.trans (show _ = true by rw [show 6 - x412.toNatClampNeg = 0 by omega]; rfl)).trans (by decide), hTH409⟩)
      · have k415 := i_nle c414
        refine lv_iload_n hx hb dX4_isWord_10 rfl (lv_at hl411 1 rfl) ?_
        refine lv_iload hx hb dX4_isWord_11 (lv_at hl411 4 rfl) ?_
        refine lv_iadd hx hb dX4_isWord_13 ?_
        refine lv_topi (fun x416 ex416 => ?_)
        have tx416 := i_add ex416 (by omega)
        refine lv_iload_n hx hb dX4_isWord_14 rfl (lv_at hl411 2 rfl) ?_
        refine lv_icmp_ge (tgt := 27) hx hb dX4_isWord_15 (by decide) (fun c417 => ?_) (fun c417 => ?_)
        · have k418 := i_le c417
          refine lv_bipush (v := 32) hx hb dX4_isWord_27 (by decide) ?_
          refine lv_istore (lv' := [(5, .int 32), (0, .ref a0), (1, .int x1), (2, .int x2), (3, .int x3), (4, .int x412)]) hx hb dX4_isWord_29 hl411 (by decide) rfl (fun ls419 hl420 => ?_)
          refine va_ldcS hx hb hown hKT.2.2.2.2.2.2 dX4_isWord_31 ?_
          refine lv_iload_n hx hb dX4_isWord_33 rfl (lv_at hl420 4 rfl) ?_
          refine lv_bipush (v := 6) hx hb dX4_isWord_34 (by decide) ?_
          refine lv_imul hx hb dX4_isWord_36 ?_
          refine lv_topi (fun x421 ex421 => ?_)
          have tx421 := i_mul ex421 (by rw [n_6]; omega)
          rw [n_6] at tx421
          refine lv_iload hx hb dX4_isWord_37 (lv_at hl420 5 rfl) ?_
          refine lv_iadd hx hb dX4_isWord_39 ?_
          refine lv_topi (fun x422 ex422 => ?_)
          have tx422 := i_add ex422 (by omega)
          refine x_V (As := [.int x422]) (rest := []) C (c_charAt l K G H409 (x422) hTH409 (by omega)) yo_J0_charAt_5068e wM_X4_75 ⟨⟨by decide, by decide⟩, by decide, by decide⟩ (by obtain ⟨cell, h1, h2, h3, -⟩ := hTH409.2.2.2.1.moved hKT.2.2.2.2.2.1; exact ⟨cell, h1, h2, h3⟩) rfl hl420.1 rfl (Nat.le_of_ble_eq_true rfl) dX4_isWord_40 hSH409 (AE_sub (fun _ _ => rfl) (by decide) hSH409.1) (fun vH423 H423 locsH423 pH423 zH423 kH423 hSH423 => ?_)
          have hqH423 := pH423.1.symm
          subst hqH423
          obtain ⟨x424, hvH423, tx424⟩ : ∃ z : Int32, vH423 = some (.int z) ∧ z = _ := ⟨_, pH423.2, rfl⟩
          subst hvH423
          refine W.eq (g2 := F0 m 43 ls419 [.int x424]) rfl ?_
          refine lv_iload hx hb dX4_isWord_43 (lv_at hl420 0 rfl) ?_
          refine lv_icmp_eq (tgt := 50) hx hb dX4_isWord_45 (by decide) (fun c425 => ?_) (fun c425 => ?_)
          · have k426 := i_eq c425
            obtain ⟨x427, ex427⟩ : ∃ y : Int32, y = x412 + 1 := ⟨_, rfl⟩
            have tx427 := i_add ex427 (by omega)
            refine lv_iinc (v := x427) (lv' := [(4, .int x427), (5, .int 32), (0, .ref a0), (1, .int x1), (2, .int x2), (3, .int x3)]) hx hb dX4_isWord_50 hl420 (k := 5) rfl (by rw [ex427]; rfl) (by decide) rfl (fun ls428 hl429 => ?_)
            refine lv_goto (tgt := 3) hx hb dX4_isWord_53 (by decide) ?_
            have cn_x422 := i_cl (x := x422) (by omega)
            have cn_x412 := i_cl (x := x412) (by omega)
            have cn_x1 := i_cl (x := x1) (by omega)
            have cn_x2 := i_cl (x := x2) (by omega)
            have cn_x3 := i_cl (x := x3) (by omega)
            have wz : wdI (6 * x3.toNatClampNeg + x412.toNatClampNeg) = x424.toInt := by rw [show 6 * x3.toNatClampNeg + x412.toNatClampNeg = x422.toNatClampNeg by omega, tx424]; rfl
            have cn_x427 := i_cl (x := x427) (by omega)
            exact ih3  ls428 H409 locsH423 (x427) (lv_sub hl429 [2, 3, 4, 5, 0] rfl) hTH409 hSH423 (by have := i_rng x427; omega) fy413_bt (by omega) (hsp3.trans (by exact al_go (wMt_y wz (Or.inr ⟨by omega, rfl⟩) (by omega)) (by omega) (by omega)))
          · have k426 := i_ne c425
            refine lv_iconst (v := 0) hx hb dX4_isWord_48 (by decide) ?_
            have cn_x422 := i_cl (x := x422) (by omega)
            have cn_x412 := i_cl (x := x412) (by omega)
            have cn_x1 := i_cl (x := x1) (by omega)
            have cn_x2 := i_cl (x := x2) (by omega)
            have cn_x3 := i_cl (x := x3) (by omega)
            have wz : wdI (6 * x3.toNatClampNeg + x412.toNatClampNeg) = x424.toInt := by rw [show 6 * x3.toNatClampNeg + x412.toNatClampNeg = x422.toNatClampNeg by omega, tx424]; rfl
            exact x_zret C hQ (Or.inl rfl) dX4_isWord_49 hSH423 (by decide) (by decide) (⟨0, rfl, by decide, (hsp3.trans (al_no (wMt_n wz (Or.inr ⟨by omega, rfl⟩) (by omega)) (by omega))).trans (by decide), hTH409⟩)
        · have k418 := i_nle c417
          refine lv_aload_n hx hb dX4_isWord_18 rfl (lv_at hl411 0 rfl) ?_
          refine lv_iload_n hx hb dX4_isWord_19 rfl (lv_at hl411 1 rfl) ?_
          refine lv_iload hx hb dX4_isWord_20 (lv_at hl411 4 rfl) ?_
          refine lv_iadd hx hb dX4_isWord_22 ?_
          refine lv_topi (fun x430 ex430 => ?_)
          have tx430 := i_add ex430 (by omega)
          refine x_ai C hTH409 ga0 rg_108 ⟨by omega, by show _ < ((500 : Nat) : Int); omega⟩ dX4_isWord_23 (fun x431 ex431 bx431 => ?_)
          have qvx431 : bt x430.toNatClampNeg = x431.toInt := (fy413_bt _).trans (congrArg Int32.toInt ex431.symm)
          have cn_x430 := i_cl (x := x430) (by omega)
          have cn_x1 := i_cl (x := x1) (by omega)
          have cn_x412 := i_cl (x := x412) (by omega)
          have qn432 : bt (x1.toNatClampNeg + x412.toNatClampNeg) = x431.toInt := by rw [show x1.toNatClampNeg + x412.toNatClampNeg = x430.toNatClampNeg by omega]; exact qvx431
          refine lv_goto (tgt := 29) hx hb dX4_isWord_24 (by decide) ?_
          refine lv_istore (lv' := [(5, .int x431), (0, .ref a0), (1, .int x1), (2, .int x2), (3, .int x3), (4, .int x412)]) hx hb dX4_isWord_29 hl411 (by decide) rfl (fun ls433 hl434 => ?_)
          refine va_ldcS hx hb hown hKT.2.2.2.2.2.2 dX4_isWord_31 ?_
          refine lv_iload_n hx hb dX4_isWord_33 rfl (lv_at hl434 4 rfl) ?_
          refine lv_bipush (v := 6) hx hb dX4_isWord_34 (by decide) ?_
          refine lv_imul hx hb dX4_isWord_36 ?_
          refine lv_topi (fun x435 ex435 => ?_)
          have tx435 := i_mul ex435 (by rw [n_6]; omega)
          rw [n_6] at tx435
          refine lv_iload hx hb dX4_isWord_37 (lv_at hl434 5 rfl) ?_
          refine lv_iadd hx hb dX4_isWord_39 ?_
          refine lv_topi (fun x436 ex436 => ?_)
          have tx436 := i_add ex436 (by omega)
          refine x_V (As := [.int x436]) (rest := []) C (c_charAt l K G H409 (x436) hTH409 (by omega)) yo_J0_charAt_5068e wM_X4_75 ⟨⟨by decide, by decide⟩, by decide, by decide⟩ (by obtain ⟨cell, h1, h2, h3, -⟩ := hTH409.2.2.2.1.moved hKT.2.2.2.2.2.1; exact ⟨cell, h1, h2, h3⟩) rfl hl434.1 rfl (Nat.le_of_ble_eq_true rfl) dX4_isWord_40 hSH409 (AE_sub (fun _ _ => rfl) (by decide) hSH409.1) (fun vH437 H437 locsH437 pH437 zH437 kH437 hSH437 => ?_)
          have hqH437 := pH437.1.symm
          subst hqH437
          obtain ⟨x438, hvH437, tx438⟩ : ∃ z : Int32, vH437 = some (.int z) ∧ z = _ := ⟨_, pH437.2, rfl⟩
          subst hvH437
          refine W.eq (g2 := F0 m 43 ls433 [.int x438]) rfl ?_
          refine lv_iload hx hb dX4_isWord_43 (lv_at hl434 0 rfl) ?_
          refine lv_icmp_eq (tgt := 50) hx hb dX4_isWord_45 (by decide) (fun c439 => ?_) (fun c439 => ?_)
          · have k440 := i_eq c439
            obtain ⟨x441, ex441⟩ : ∃ y : Int32, y = x412 + 1 := ⟨_, rfl⟩
            have tx441 := i_add ex441 (by omega)
            refine lv_iinc (v := x441) (lv' := [(4, .int x441), (5, .int x431), (0, .ref a0), (1, .int x1), (2, .int x2), (3, .int x3)]) hx hb dX4_isWord_50 hl434 (k := 5) rfl (by rw [ex441]; rfl) (by decide) rfl (fun ls442 hl443 => ?_)
            refine lv_goto (tgt := 3) hx hb dX4_isWord_53 (by decide) ?_
            have cn_x436 := i_cl (x := x436) (by omega)
            have cn_x412 := i_cl (x := x412) (by omega)
            have cn_x1 := i_cl (x := x1) (by omega)
            have cn_x2 := i_cl (x := x2) (by omega)
            have cn_x3 := i_cl (x := x3) (by omega)
            have wz : wdI (6 * x3.toNatClampNeg + x412.toNatClampNeg) = x438.toInt := by rw [show 6 * x3.toNatClampNeg + x412.toNatClampNeg = x436.toNatClampNeg by omega, tx438]; rfl
            have cn_x441 := i_cl (x := x441) (by omega)
            exact ih3  ls442 H409 locsH437 (x441) (lv_sub hl443 [2, 3, 4, 5, 0] rfl) hTH409 hSH437 (by have := i_rng x441; omega) fy413_bt (by omega) (hsp3.trans (by exact al_go (wMt_y wz (Or.inl ⟨by omega, qn432⟩) (by omega)) (by omega) (by omega)))
          · have k440 := i_ne c439
            refine lv_iconst (v := 0) hx hb dX4_isWord_48 (by decide) ?_
            have cn_x436 := i_cl (x := x436) (by omega)
            have cn_x412 := i_cl (x := x412) (by omega)
            have cn_x1 := i_cl (x := x1) (by omega)
            have cn_x2 := i_cl (x := x2) (by omega)
            have cn_x3 := i_cl (x := x3) (by omega)
            have wz : wdI (6 * x3.toNatClampNeg + x412.toNatClampNeg) = x438.toInt := by rw [show 6 * x3.toNatClampNeg + x412.toNatClampNeg = x436.toNatClampNeg by omega, tx438]; rfl
            exact x_zret C hQ (Or.inl rfl) dX4_isWord_49 hSH437 (by decide) (by decide) (⟨0, rfl, by decide, (hsp3.trans (al_no (wMt_n wz (Or.inl ⟨by omega, qn432⟩) (by omega)) (by omega))).trans (by decide), hTH409⟩)
  refine lv_iconst (v := 0) hx hb dX4_isWord_0 (by decide) ?_
  refine lv_istore (lv' := [(4, .int 0), (0, .ref a0), (1, .int x1), (2, .int x2), (3, .int x3)]) hx hb dX4_isWord_1 hl (by decide) rfl (fun ls444 hl445 => ?_)
  exact J3 ((6 - (0 : Int32).toInt).toNat + 1)  ls444 s.heap [] (0) (lv_sub hl445 [1, 2, 3, 4, 0] rfl) hT hS (by decide) f0_bt (by omega) (hsp0.trans (by rfl))

set_option maxHeartbeats 4000000 in
set_option maxRecDepth 100000 in
theorem a_X4_wordAt_e (l : Launch) (K : KE) (G : Nat → Option Nat) (H : Heap) {a0 : Nat} (x1 : Int32) (x2 : Int32) (bt : Nat → Int) (hT : TY K G H) (ga0 : G a0 = some 108) (hx1 : 0 ≤ x1.toInt ∧ x1.toInt ≤ 500) (hx2 : 0 ≤ x2.toInt ∧ x2.toInt ≤ 500) (hp0 : x1.toInt ≤ x2.toInt) (hv_bt : ∀ j : Nat, bt j = (fI H a0 j).toInt) : MX l K yX4_wordAt cX4_wordAt 4 (some .int) 5 136 0 0 [.ref a0, .int x1, .int x2] H (AE G [] H.size) (fun v H1 => ∃ (r : Int32), v = some (.int r) ∧ (0 ≤ r.toInt ∧ r.toInt ≤ 25) ∧ (wNo bt x1.toNatClampNeg x2.toNatClampNeg = r.toInt) ∧ TY K G H1) := by
  refine MX.of (by decide +kernel) (Nat.le_of_ble_eq_true rfl) ?_
  intro p e s m below meth c ls Q C hH hl hQ
  subst hH
  have C : CX p K s m _ meth c RX4 cX4_wordAt 4 (some .int) "wordAt" := C
  obtain ⟨hx, hb, hml, hown, hts, hKT, hr, hlocks, hnm⟩ := id C
  have hl : lv_has ls 4 [(0, .ref a0), (1, .int x1), (2, .int x2)] := hl
  have hS : va_S (AE G [] s.heap.size) s.heap s.heap [] := va_S.rf
  have n_0 : (0 : Int32).toInt = 0 := rfl
  have n_1 : (1 : Int32).toInt = 1 := rfl
  have n_6 : (6 : Int32).toInt = 6 := rfl
  have n_24 : (24 : Int32).toInt = 24 := rfl
  have n_25 : (25 : Int32).toInt = 25 := rfl
  have hsp0 : wNo bt x1.toNatClampNeg x2.toNatClampNeg = wNo bt x1.toNatClampNeg x2.toNatClampNeg := rfl
  have f0_bt := hv_bt
  have J10 : ∀ (nf : Nat)  (ls386 : Array Slot) (H385 : Heap) (locsH385 : List Loc) (x388 : Int32), lv_has ls386 4 [(0, .ref a0), (1, .int x1), (2, .int x2), (3, .int x388)] → TY K G H385 → va_S (AE G [] s.heap.size) s.heap H385 locsH385 → (0 ≤ x388.toInt ∧ x388.toInt ≤ 24) → (∀ j : Nat, bt j = (fI H385 a0 j).toInt) → (24 - x388.toInt < (nf : Int)) → (wNo bt x1.toNatClampNeg x2.toNatClampNeg = wFd bt x1.toNatClampNeg x2.toNatClampNeg (24 - x388.toNatClampNeg) x388.toNatClampNeg) → W p l e ({ frames := 5, cells := 0, slots := 0, locals := 136 } : Room) s m (([.ref a0, .int x1, .int x2] : List Value).toArray) below meth c H385 locsH385 0 0 Q (F0 m 10 ls386 []) := by
    intro nf
    induction nf with
    | zero =>
      intro  ls386 H385 locsH385 x388 hl387 hTH385 hSH385 bx388 fy389_bt hm10 hsp10
      exfalso
      omega
    | succ nf ih10 =>
      intro  ls386 H385 locsH385 x388 hl387 hTH385 hSH385 bx388 fy389_bt hm10 hsp10
      refine lv_iload_n hx hb dX4_wordAt_10 rfl (lv_at hl387 3 rfl) ?_
      refine lv_bipush (v := 24) hx hb dX4_wordAt_11 (by decide) ?_
      refine lv_icmp_ge (tgt := 34) hx hb dX4_wordAt_13 (by decide) (fun c390 => ?_) (fun c390 => ?_)
      · have k391 := i_le c390
        refine lv_bipush (v := 25) hx hb dX4_wordAt_34 (by decide) ?_
        have cn_x1 := i_cl (x := x1) (by omega)
        have cn_x2 := i_cl (x := x2) (by omega)
        have cn_x388 := i_cl (x := x388) (by omega)
        exact x_iret C hQ dX4_wordAt_36 hSH385 (by decide) (by decide) (⟨25, rfl, by decide, hsp10.trans (show _ = (25 : Int32).toInt by rw [show 24 - x388.toNatClampNeg = 0 by omega]; rfl), hTH385⟩)
      · have k391 := i_nle c390
        refine lv_aload_n hx hb dX4_wordAt_16 rfl (lv_at hl387 0 rfl) ?_
        refine lv_iload_n hx hb dX4_wordAt_17 rfl (lv_at hl387 1 rfl) ?_
        refine lv_iload_n hx hb dX4_wordAt_18 rfl (lv_at hl387 2 rfl) ?_
        refine lv_iload_n hx hb dX4_wordAt_19 rfl (lv_at hl387 3 rfl) ?_
        refine x_S (As := [.ref a0, .int x1, .int x2, .int x388]) (rest := []) C (a_X4_isWord_e l K G H385 (x1) (x2) (x388) bt hTH385 ga0 (by omega) (by omega) (by omega) fy389_bt) yo_X4_isWord wM_X4_69 ⟨⟨by decide, by decide⟩, by decide, by decide⟩ rfl hl387.1 rfl (Nat.le_of_ble_eq_true rfl) dX4_wordAt_20 hSH385 (AE_sub (fun _ _ => rfl) (by decide) hSH385.1) (fun vH392 H392 locsH392 pH392 zH392 kH392 hSH392 => ?_)
        obtain ⟨x393, hvH392, bx393, m394, hTH392⟩ := pH392
        subst hvH392
        have f395 : ∀ j : Nat, bt j = (fI H392 a0 j).toInt := fun j => (fy389_bt j).trans (congrArg Int32.toInt (fI_kept (x_lt hTH385 kH392 ga0 (by decide))).symm)
        refine W.eq (g2 := F0 m 23 ls386 [.int x393]) rfl ?_
        refine lv_if_eq (tgt := 28) hx hb dX4_wordAt_23 (by decide) (fun c396 => ?_) (fun c396 => ?_)
        · have k397 := i_eq c396
          obtain ⟨x398, ex398⟩ : ∃ y : Int32, y = x388 + 1 := ⟨_, rfl⟩
          have tx398 := i_add ex398 (by omega)
          refine lv_iinc (v := x398) (lv' := [(3, .int x398), (0, .ref a0), (1, .int x1), (2, .int x2)]) hx hb dX4_wordAt_28 hl387 (k := 3) rfl (by rw [ex398]; rfl) (by decide) rfl (fun ls399 hl400 => ?_)
          refine lv_goto (tgt := 10) hx hb dX4_wordAt_31 (by decide) ?_
          have cn_x388 := i_cl (x := x388) (by omega)
          have cn_x398 := i_cl (x := x398) (by omega)
          exact ih10  ls399 H392 locsH392 (x398) (lv_sub hl400 [1, 2, 3, 0] rfl) hTH392 hSH392 (by have := i_rng x398; omega) f395 (by omega) (hsp10.trans (by exact wFd_n (m394.trans (decide_eq_false (by omega))) (by omega) (by omega)))
        · have k397 := i_ne c396
          refine lv_iload_n hx hb dX4_wordAt_26 rfl (lv_at hl387 3 rfl) ?_
          have cn_x1 := i_cl (x := x1) (by omega)
          have cn_x2 := i_cl (x := x2) (by omega)
          have cn_x388 := i_cl (x := x388) (by omega)
          exact x_iret C hQ dX4_wordAt_27 hSH392 (by decide) (by decide) (⟨x388, rfl, by omega, (hsp10.trans (wFd_y (m394.trans (decide_eq_true (by omega))) (by omega))).trans cn_x388, hTH392⟩)
  refine lv_iload_n hx hb dX4_wordAt_0 rfl (lv_at hl 2 rfl) ?_
  refine lv_iload_n hx hb dX4_wordAt_1 rfl (lv_at hl 1 rfl) ?_
  refine lv_isub hx hb dX4_wordAt_2 ?_
  refine lv_topi (fun x401 ex401 => ?_)
  have tx401 := i_sub ex401 (by omega)
  refine lv_bipush (v := 6) hx hb dX4_wordAt_3 (by decide) ?_
  refine lv_icmp_gt (tgt := 34) hx hb dX4_wordAt_5 (by decide) (fun c402 => ?_) (fun c402 => ?_)
  · have k403 := i_lt c402
    refine lv_bipush (v := 25) hx hb dX4_wordAt_34 (by decide) ?_
    have cn_x1 := i_cl (x := x1) (by omega)
    have cn_x2 := i_cl (x := x2) (by omega)
    exact x_iret C hQ dX4_wordAt_36 hS (by decide) (by decide) (⟨25, rfl, by decide, (show _ = (25 : Int32).toInt from if_neg (by omega)), hT⟩)
  · have k403 := i_nlt c402
    refine lv_iconst (v := 0) hx hb dX4_wordAt_8 (by decide) ?_
    refine lv_istore_n (lv' := [(3, .int 0), (0, .ref a0), (1, .int x1), (2, .int x2)]) hx hb dX4_wordAt_9 rfl hl (by decide) rfl (fun ls404 hl405 => ?_)
    have cn_x1 := i_cl (x := x1) (by omega)
    have cn_x2 := i_cl (x := x2) (by omega)
    exact J10 ((24 - (0 : Int32).toInt).toNat + 1)  ls404 s.heap [] (0) (lv_sub hl405 [1, 2, 3, 0] rfl) hT hS (by decide) f0_bt (by omega) (hsp0.trans (by rw [show wNo bt x1.toNatClampNeg x2.toNatClampNeg = wFd bt x1.toNatClampNeg x2.toNatClampNeg 24 0 from if_pos (by omega)]; rfl))

set_option maxHeartbeats 4000000 in
set_option maxRecDepth 100000 in
theorem a_X4_numberAt_e (l : Launch) (K : KE) (G : Nat → Option Nat) (H : Heap) {a0 : Nat} (x1 : Int32) (x2 : Int32) (bt : Nat → Int) (hT : TY K G H) (ga0 : G a0 = some 108) (hx1 : 0 ≤ x1.toInt ∧ x1.toInt ≤ 500) (hx2 : 0 ≤ x2.toInt ∧ x2.toInt ≤ 500) (hp0 : x1.toInt ≤ x2.toInt) (hy0 : ∀ j : Nat, x1.toNatClampNeg ≤ j → j < x2.toNatClampNeg → 48 ≤ bt j ∧ bt j ≤ 57) (hv_bt : ∀ j : Nat, bt j = (fI H a0 j).toInt) : MX l K yX4_numberAt cX4_numberAt 5 (some .int) 0 0 0 0 [.ref a0, .int x1, .int x2] H (AE G [] H.size) (fun v H1 => ∃ (r : Int32), v = some (.int r) ∧ (nmb bt (min (x2.toNatClampNeg - x1.toNatClampNeg) 5) x1.toNatClampNeg 0 = r.toInt) ∧ TY K G H1) := by
  refine MX.of (by decide +kernel) (Nat.le_of_ble_eq_true rfl) ?_
  intro p e s m below meth c ls Q C hH hl hQ
  subst hH
  have C : CX p K s m _ meth c RX4 cX4_numberAt 5 (some .int) "numberAt" := C
  obtain ⟨hx, hb, hml, hown, hts, hKT, hr, hlocks, hnm⟩ := id C
  have hl : lv_has ls 5 [(0, .ref a0), (1, .int x1), (2, .int x2)] := hl
  have hS : va_S (AE G [] s.heap.size) s.heap s.heap [] := va_S.rf
  have n_0 : (0 : Int32).toInt = 0 := rfl
  have n_1 : (1 : Int32).toInt = 1 := rfl
  have n_5 : (5 : Int32).toInt = 5 := rfl
  have n_10 : (10 : Int32).toInt = 10 := rfl
  have n_48 : (48 : Int32).toInt = 48 := rfl
  have hsp0 : nmb bt (min (x2.toNatClampNeg - x1.toNatClampNeg) 5) x1.toNatClampNeg 0 = nmb bt (min (x2.toNatClampNeg - x1.toNatClampNeg) 5) x1.toNatClampNeg 0 := rfl
  have f0_bt := hv_bt
  have J5 : ∀ (nf : Nat)  (ls262 : Array Slot) (H261 : Heap) (locsH261 : List Loc) (x264 : Int32) (x265 : Int32), lv_has ls262 5 [(0, .ref a0), (1, .int x1), (2, .int x2), (3, .int x264), (4, .int x265)] → TY K G H261 → va_S (AE G [] s.heap.size) s.heap H261 locsH261 → (0 ≤ x264.toInt ∧ x264.toInt ≤ 99999) → (0 ≤ x265.toInt ∧ x265.toInt ≤ 500) → (∀ j : Nat, bt j = (fI H261 a0 j).toInt) → (500 - x265.toInt < (nf : Int)) → ((x265.toInt = x1.toInt + 0 ∧ 0 ≤ x264.toInt ∧ x264.toInt ≤ 0) ∨ (x265.toInt = x1.toInt + 1 ∧ 0 ≤ x264.toInt ∧ x264.toInt ≤ 9) ∨ (x265.toInt = x1.toInt + 2 ∧ 0 ≤ x264.toInt ∧ x264.toInt ≤ 99) ∨ (x265.toInt = x1.toInt + 3 ∧ 0 ≤ x264.toInt ∧ x264.toInt ≤ 999) ∨ (x265.toInt = x1.toInt + 4 ∧ 0 ≤ x264.toInt ∧ x264.toInt ≤ 9999) ∨ (x265.toInt = x1.toInt + 5 ∧ 0 ≤ x264.toInt ∧ x264.toInt ≤ 99999)) → (nmb bt (min (x2.toNatClampNeg - x1.toNatClampNeg) 5) x1.toNatClampNeg 0 = nmb bt (min x2.toNatClampNeg (x1.toNatClampNeg + 5) - x265.toNatClampNeg) x265.toNatClampNeg x264.toInt) → W p l e ({ frames := 0, cells := 0, slots := 0, locals := 0 } : Room) s m (([.ref a0, .int x1, .int x2] : List Value).toArray) below meth c H261 locsH261 0 0 Q (F0 m 5 ls262 []) := by
    intro nf
    induction nf with
    | zero =>
      intro  ls262 H261 locsH261 x264 x265 hl263 hTH261 hSH261 bx264 bx265 fy266_bt hm5 iv5 hsp5
      exfalso
      omega
    | succ nf ih5 =>
      intro  ls262 H261 locsH261 x264 x265 hl263 hTH261 hSH261 bx264 bx265 fy266_bt hm5 iv5 hsp5
      refine lv_iload hx hb dX4_numberAt_5 (lv_at hl263 4 rfl) ?_
      refine lv_iload_n hx hb dX4_numberAt_7 rfl (lv_at hl263 2 rfl) ?_
      refine lv_icmp_ge (tgt := 38) hx hb dX4_numberAt_8 (by decide) (fun c267 => ?_) (fun c267 => ?_)
      · have k268 := i_le c267
        refine lv_iload_n hx hb dX4_numberAt_38 rfl (lv_at hl263 3 rfl) ?_
        have cn_x1 := i_cl (x := x1) (by omega)
        have cn_x2 := i_cl (x := x2) (by omega)
        have cn_x265 := i_cl (x := x265) (by omega)
        exact x_iret C hQ dX4_numberAt_39 hSH261 (by decide) (by decide) (⟨x264, rfl, hsp5.trans (by rw [show min x2.toNatClampNeg (x1.toNatClampNeg + 5) - x265.toNatClampNeg = 0 by omega]; rfl), hTH261⟩)
      · have k268 := i_nle c267
        refine lv_iload hx hb dX4_numberAt_11 (lv_at hl263 4 rfl) ?_
        refine lv_iload_n hx hb dX4_numberAt_13 rfl (lv_at hl263 1 rfl) ?_
        refine lv_iconst (v := 5) hx hb dX4_numberAt_14 (by decide) ?_
        refine lv_iadd hx hb dX4_numberAt_15 ?_
        refine lv_topi (fun x269 ex269 => ?_)
        have tx269 := i_add ex269 (by omega)
        refine lv_icmp_ge (tgt := 38) hx hb dX4_numberAt_16 (by decide) (fun c270 => ?_) (fun c270 => ?_)
        · have k271 := i_le c270
          refine lv_iload_n hx hb dX4_numberAt_38 rfl (lv_at hl263 3 rfl) ?_
          have cn_x1 := i_cl (x := x1) (by omega)
          have cn_x2 := i_cl (x := x2) (by omega)
          have cn_x265 := i_cl (x := x265) (by omega)
          exact x_iret C hQ dX4_numberAt_39 hSH261 (by decide) (by decide) (⟨x264, rfl, hsp5.trans (by rw [show min x2.toNatClampNeg (x1.toNatClampNeg + 5) - x265.toNatClampNeg = 0 by omega]; rfl), hTH261⟩)
        · have k271 := i_nle c270
          refine lv_iload_n hx hb dX4_numberAt_19 rfl (lv_at hl263 3 rfl) ?_
          refine lv_bipush (v := 10) hx hb dX4_numberAt_20 (by decide) ?_
          refine lv_imul hx hb dX4_numberAt_22 ?_
          refine lv_topi (fun x272 ex272 => ?_)
          have tx272 := i_mul ex272 (by rw [n_10]; omega)
          rw [n_10] at tx272
          refine lv_aload_n hx hb dX4_numberAt_23 rfl (lv_at hl263 0 rfl) ?_
          refine lv_iload hx hb dX4_numberAt_24 (lv_at hl263 4 rfl) ?_
          refine x_ai C hTH261 ga0 rg_108 ⟨by omega, by show _ < ((500 : Nat) : Int); omega⟩ dX4_numberAt_26 (fun x273 ex273 bx273 => ?_)
          have qvx273 : bt x265.toNatClampNeg = x273.toInt := (fy266_bt _).trans (congrArg Int32.toInt ex273.symm)
          have cn_x265 := i_cl (x := x265) (by omega)
          have cn_x265 := i_cl (x := x265) (by omega)
          have qn274 : bt (x265.toNatClampNeg) = x273.toInt := by rw [show x265.toNatClampNeg = x265.toNatClampNeg by omega]; exact qvx273
          have cn_x1 := i_cl (x := x1) (by omega)
          have cn_x2 := i_cl (x := x2) (by omega)
          have bdx273 := hy0 x265.toNatClampNeg (by omega) (by omega)
          rw [qn274] at bdx273
          refine lv_iadd hx hb dX4_numberAt_27 ?_
          refine lv_topi (fun x275 ex275 => ?_)
          have tx275 := i_add ex275 (by omega)
          refine lv_bipush (v := 48) hx hb dX4_numberAt_28 (by decide) ?_
          refine lv_isub hx hb dX4_numberAt_30 ?_
          refine lv_topi (fun x276 ex276 => ?_)
          have tx276 := i_sub ex276 (by omega)
          refine lv_istore_n (lv' := [(3, .int x276), (0, .ref a0), (1, .int x1), (2, .int x2), (4, .int x265)]) hx hb dX4_numberAt_31 rfl hl263 (by decide) rfl (fun ls277 hl278 => ?_)
          obtain ⟨x279, ex279⟩ : ∃ y : Int32, y = x265 + 1 := ⟨_, rfl⟩
          have tx279 := i_add ex279 (by omega)
          refine lv_iinc (v := x279) (lv' := [(4, .int x279), (3, .int x276), (0, .ref a0), (1, .int x1), (2, .int x2)]) hx hb dX4_numberAt_32 hl278 (k := 4) rfl (by rw [ex279]; rfl) (by decide) rfl (fun ls280 hl281 => ?_)
          refine lv_goto (tgt := 5) hx hb dX4_numberAt_35 (by decide) ?_
          have cn_x1 := i_cl (x := x1) (by omega)
          have cn_x2 := i_cl (x := x2) (by omega)
          have cn_x265 := i_cl (x := x265) (by omega)
          have cn_x279 := i_cl (x := x279) (by omega)
          exact ih5  ls280 H261 locsH261 (x276) (x279) (lv_sub hl281 [2, 3, 4, 1, 0] rfl) hTH261 hSH261 (by have := i_rng x276; omega) (by have := i_rng x279; omega) fy266_bt (by omega) (by omega) (hsp5.trans (by exact nmb_go (by omega) (by omega) (by rw [qn274]; omega)))
  refine lv_iconst (v := 0) hx hb dX4_numberAt_0 (by decide) ?_
  refine lv_istore_n (lv' := [(3, .int 0), (0, .ref a0), (1, .int x1), (2, .int x2)]) hx hb dX4_numberAt_1 rfl hl (by decide) rfl (fun ls282 hl283 => ?_)
  refine lv_iload_n hx hb dX4_numberAt_2 rfl (lv_at hl283 2 rfl) ?_
  refine lv_istore (lv' := [(4, .int x1), (3, .int 0), (0, .ref a0), (1, .int x1), (2, .int x2)]) hx hb dX4_numberAt_3 hl283 (by decide) rfl (fun ls284 hl285 => ?_)
  have cn_x1 := i_cl (x := x1) (by omega)
  have cn_x2 := i_cl (x := x2) (by omega)
  exact J5 ((500 - x1.toInt).toNat + 1)  ls284 s.heap [] (0) (x1) (lv_sub hl285 [2, 3, 4, 1, 0] rfl) hT hS (by decide) (by have := i_rng x1; omega) f0_bt (by omega) (by omega) (hsp0.trans (by rw [show min (x2.toNatClampNeg - x1.toNatClampNeg) 5 = min x2.toNatClampNeg (x1.toNatClampNeg + 5) - x1.toNatClampNeg by omega]; rfl))

set_option maxHeartbeats 4000000 in
set_option maxRecDepth 100000 in
theorem a_X4_addToken_e (l : Launch) (K : KE) (G : Nat → Option Nat) (H : Heap) {a0 : Nat} (x1 : Int32) (x2 : Int32) (x3 : Int32) {mq : Nat} {kq : Nat} {vq : Nat} (tat : Int32) (tk : Int32) (lw : Int32) (fa : Int32) (hT : TY K G H) (ga0 : G a0 = some 78) (gmq : G mq = some 69) (emq : mq = fR H a0 (K.1.2 4 0)) (gkq : G kq = some 79) (ekq : kq = fR H a0 (K.1.2 4 3)) (gvq : G vq = some 80) (evq : vq = fR H a0 (K.1.2 4 4)) (etat : tat = fI H a0 (K.1.2 4 7)) (etk : tk = fI H a0 (K.1.2 4 6)) (elw : lw = fI H a0 (K.1.2 4 8)) (efa : fa = fI H a0 (K.1.2 4 1)) (hp0 : tk.toInt ≤ 500) : MX l K yX4_addToken cX4_addToken 4 none 0 0 0 0 [.ref a0, .int x1, .int x2, .int x3] H (AE G [78, 79, 80, 81] H.size) (fun v H1 => ∃ (t0 : Int32) (t1 : Int32) (t2 : Int32) (t3 : Int32), v = none ∧ t0 = fI H1 a0 (K.1.2 4 7) ∧ t1 = fI H1 a0 (K.1.2 4 6) ∧ t2 = fI H1 a0 (K.1.2 4 8) ∧ t3 = fI H1 a0 (K.1.2 4 1) ∧ (t0.toInt = tat.toInt ∧ t1.toInt = tk.toInt + 1 ∧ t2.toInt = lw.toInt ∧ t3.toInt = fa.toInt) ∧ mq = fR H1 a0 (K.1.2 4 0) ∧ kq = fR H1 a0 (K.1.2 4 3) ∧ vq = fR H1 a0 (K.1.2 4 4) ∧ x1 = fI H1 kq tk.toNatClampNeg ∧ x2 = fI H1 vq tk.toNatClampNeg ∧ (∀ j : Nat, j ≠ tk.toNatClampNeg → fI H1 kq j = fI H kq j) ∧ (∀ j : Nat, j ≠ tk.toNatClampNeg → fI H1 vq j = fI H vq j) ∧ TY K G H1) := by
  refine MX.of (by decide +kernel) (Nat.le_of_ble_eq_true rfl) ?_
  intro p e s m below meth c ls Q C hH hl hQ
  subst hH
  have C : CX p K s m _ meth c RX4 cX4_addToken 4 none "addToken" := C
  obtain ⟨hx, hb, hml, hown, hts, hKT, hr, hlocks, hnm⟩ := id C
  have hl : lv_has ls 4 [(0, .ref a0), (1, .int x1), (2, .int x2), (3, .int x3)] := hl
  have hS : va_S (AE G [78, 79, 80, 81] s.heap.size) s.heap s.heap [] := va_S.rf
  have n_1 : (1 : Int32).toInt = 1 := rfl
  have n_500 : (500 : Int32).toInt = 500 := rfl
  have btat := ty_fi (x := tat) (k := 7) etat hT ga0 rg_78 rfl
  have btk := ty_fi (x := tk) (k := 6) etk hT ga0 rg_78 rfl
  have blw := ty_fi (x := lw) (k := 8) elw hT ga0 rg_78 rfl
  have bfa := ty_fi (x := fa) (k := 1) efa hT ga0 rg_78 rfl
  have f0_ko : ∀ j : Nat, j ≠ tk.toNatClampNeg → fI s.heap kq j = fI s.heap kq j := fun _ _ => rfl
  have f0_vo : ∀ j : Nat, j ≠ tk.toNatClampNeg → fI s.heap vq j = fI s.heap vq j := fun _ _ => rfl
  refine lv_aload_n hx hb dX4_addToken_0 rfl (lv_at hl 0 rfl) ?_
  refine x_gi C hT (ci := 4) (k := 6) rfl inX4 (by decide) wF_X4_45 ga0 rg_78 rfl dX4_addToken_1 (fun x353 ex353 bx353 => ?_)
  have ux353 : tk = x353 := (etk).trans ex353.symm
  subst ux353
  refine lv_sipush (v := 500) hx hb dX4_addToken_4 (by decide) ?_
  refine lv_icmp_gt (tgt := 50) hx hb dX4_addToken_7 (by decide) (fun c354 => ?_) (fun c354 => ?_)
  · have k355 := i_lt c354
    exfalso
    omega
  · have k355 := i_nlt c354
    refine lv_aload_n hx hb dX4_addToken_10 rfl (lv_at hl 0 rfl) ?_
    refine x_gr C hT (ci := 4) (k := 3) rfl inX4 (by decide) wF_X4_18 ga0 rg_78 rfl dX4_addToken_11 (fun q356 eq356 gq356 => ?_)
    have uq356 : kq = q356 := (ekq).trans eq356.symm
    subst uq356
    refine lv_aload_n hx hb dX4_addToken_14 rfl (lv_at hl 0 rfl) ?_
    refine x_gi C hT (ci := 4) (k := 6) rfl inX4 (by decide) wF_X4_45 ga0 rg_78 rfl dX4_addToken_15 (fun x357 ex357 bx357 => ?_)
    have ux357 : tk = x357 := (etk).trans ex357.symm
    subst ux357
    refine lv_iload_n hx hb dX4_addToken_18 rfl (lv_at hl 1 rfl) ?_
    refine x_iast C hT hS gkq rg_79 (by omega) (by show _ < ((501 : Nat) : Int); omega) ⟨by have := i_rng x1; omega, by have := i_rng x1; omega⟩ (AE_in gkq (by decide)) dX4_addToken_19 (fun H358 locsH358 hTH358 hSH358 wH358 => ?_)
    have f359 : ∀ j : Nat, j ≠ tk.toNatClampNeg → fI H358 kq j = fI s.heap kq j := fun j hj => (Wr.neI wH358 (Or.inr hj)).trans (f0_ko j hj)
    have f360 : ∀ j : Nat, j ≠ tk.toNatClampNeg → fI H358 vq j = fI s.heap vq j := fun j hj => (Wr.neI wH358 (Or.inl (G_ne gvq gkq (by decide)))).trans (f0_vo j hj)
    have m361 := emq.trans (Wr.neR wH358 (Or.inl (G_ne ga0 gkq (by decide)))).symm
    have m362 := ekq.trans (Wr.neR wH358 (Or.inl (G_ne ga0 gkq (by decide)))).symm
    have m363 := evq.trans (Wr.neR wH358 (Or.inl (G_ne ga0 gkq (by decide)))).symm
    have m364 := etat.trans (Wr.neI wH358 (Or.inl (G_ne ga0 gkq (by decide)))).symm
    have m365 := etk.trans (Wr.neI wH358 (Or.inl (G_ne ga0 gkq (by decide)))).symm
    have m366 := elw.trans (Wr.neI wH358 (Or.inl (G_ne ga0 gkq (by decide)))).symm
    have m367 := efa.trans (Wr.neI wH358 (Or.inl (G_ne ga0 gkq (by decide)))).symm
    have m368 := Wr.I wH358
    have m368 := m368.symm
    refine lv_aload_n hx hb dX4_addToken_20 rfl (lv_at hl 0 rfl) ?_
    refine x_gr C hTH358 (ci := 4) (k := 4) rfl inX4 (by decide) wF_X4_22 ga0 rg_78 rfl dX4_addToken_21 (fun q369 eq369 gq369 => ?_)
    have uq369 : vq = q369 := (m363).trans eq369.symm
    subst uq369
    refine lv_aload_n hx hb dX4_addToken_24 rfl (lv_at hl 0 rfl) ?_
    refine x_gi C hTH358 (ci := 4) (k := 6) rfl inX4 (by decide) wF_X4_45 ga0 rg_78 rfl dX4_addToken_25 (fun x370 ex370 bx370 => ?_)
    have ux370 : tk = x370 := (m365).trans ex370.symm
    subst ux370
    refine lv_iload_n hx hb dX4_addToken_28 rfl (lv_at hl 2 rfl) ?_
    refine x_iast C hTH358 hSH358 gvq rg_80 (by omega) (by show _ < ((501 : Nat) : Int); omega) ⟨by have := i_rng x2; omega, by have := i_rng x2; omega⟩ (AE_in gvq (by decide)) dX4_addToken_29 (fun H371 locsH371 hTH371 hSH371 wH371 => ?_)
    have f372 : ∀ j : Nat, j ≠ tk.toNatClampNeg → fI H371 kq j = fI s.heap kq j := fun j hj => (Wr.neI wH371 (Or.inl (G_ne gkq gvq (by decide)))).trans (f359 j hj)
    have f373 : ∀ j : Nat, j ≠ tk.toNatClampNeg → fI H371 vq j = fI s.heap vq j := fun j hj => (Wr.neI wH371 (Or.inr hj)).trans (f360 j hj)
    have m374 := m361.trans (Wr.neR wH371 (Or.inl (G_ne ga0 gvq (by decide)))).symm
    have m375 := m362.trans (Wr.neR wH371 (Or.inl (G_ne ga0 gvq (by decide)))).symm
    have m376 := m363.trans (Wr.neR wH371 (Or.inl (G_ne ga0 gvq (by decide)))).symm
    have m377 := m364.trans (Wr.neI wH371 (Or.inl (G_ne ga0 gvq (by decide)))).symm
    have m378 := m365.trans (Wr.neI wH371 (Or.inl (G_ne ga0 gvq (by decide)))).symm
    have m379 := m366.trans (Wr.neI wH371 (Or.inl (G_ne ga0 gvq (by decide)))).symm
    have m380 := m367.trans (Wr.neI wH371 (Or.inl (G_ne ga0 gvq (by decide)))).symm
    have m381 := m368.trans (Wr.neI wH371 (Or.inl (G_ne gkq gvq (by decide)))).symm
    have m382 := Wr.I wH371
    have m382 := m382.symm
    refine lv_aload_n hx hb dX4_addToken_30 rfl (lv_at hl 0 rfl) ?_
    refine x_gr C hTH371 (ci := 4) (k := 5) rfl inX4 (by decide) wF_X4_25 ga0 rg_78 rfl dX4_addToken_31 (fun q383 eq383 gq383 => ?_)
    refine lv_aload_n hx hb dX4_addToken_34 rfl (lv_at hl 0 rfl) ?_
    refine x_gi C hTH371 (ci := 4) (k := 6) rfl inX4 (by decide) wF_X4_45 ga0 rg_78 rfl dX4_addToken_35 (fun x384 ex384 bx384 => ?_)
    have ux384 : tk = x384 := (m378).trans ex384.symm
    subst ux384
    refine lv_iload_n hx hb dX4_addToken_38 rfl (lv_at hl 3 rfl) ?_
    refine x_iast C hTH371 hSH371 gq383 rg_81 (by omega) (by show _ < ((501 : Nat) : Int); omega) ⟨by have := i_rng x3; omega, by have := i_rng x3; omega⟩ (AE_in gq383 (by decide)) dX4_addToken_39 (fun H385 locsH385 hTH385 hSH385 wH385 => ?_)
    have f386 : ∀ j : Nat, j ≠ tk.toNatClampNeg → fI H385 kq j = fI s.heap kq j := fun j hj => (Wr.neI wH385 (Or.inl (G_ne gkq gq383 (by decide)))).trans (f372 j hj)
    have f387 : ∀ j : Nat, j ≠ tk.toNatClampNeg → fI H385 vq j = fI s.heap vq j := fun j hj => (Wr.neI wH385 (Or.inl (G_ne gvq gq383 (by decide)))).trans (f373 j hj)
    have m388 := m374.trans (Wr.neR wH385 (Or.inl (G_ne ga0 gq383 (by decide)))).symm
    have m389 := m375.trans (Wr.neR wH385 (Or.inl (G_ne ga0 gq383 (by decide)))).symm
    have m390 := m376.trans (Wr.neR wH385 (Or.inl (G_ne ga0 gq383 (by decide)))).symm
    have m391 := m377.trans (Wr.neI wH385 (Or.inl (G_ne ga0 gq383 (by decide)))).symm
    have m392 := m378.trans (Wr.neI wH385 (Or.inl (G_ne ga0 gq383 (by decide)))).symm
    have m393 := m379.trans (Wr.neI wH385 (Or.inl (G_ne ga0 gq383 (by decide)))).symm
    have m394 := m380.trans (Wr.neI wH385 (Or.inl (G_ne ga0 gq383 (by decide)))).symm
    have m395 := m381.trans (Wr.neI wH385 (Or.inl (G_ne gkq gq383 (by decide)))).symm
    have m396 := m382.trans (Wr.neI wH385 (Or.inl (G_ne gvq gq383 (by decide)))).symm
    have m397 := eq383.trans (Wr.neR wH385 (Or.inl (G_ne ga0 gq383 (by decide)))).symm
    have m398 := Wr.I wH385
    have m398 := m398.symm
    refine lv_aload_n hx hb dX4_addToken_40 rfl (lv_at hl 0 rfl) ?_
    refine lv_dup hx hb dX4_addToken_41 rfl ?_
    refine x_gi C hTH385 (ci := 4) (k := 6) rfl inX4 (by decide) wF_X4_45 ga0 rg_78 rfl dX4_addToken_42 (fun x399 ex399 bx399 => ?_)
    have ux399 : tk = x399 := (m392).trans ex399.symm
    subst ux399
    refine lv_iconst (v := 1) hx hb dX4_addToken_45 (by decide) ?_
    refine lv_iadd hx hb dX4_addToken_46 ?_
    refine lv_topi (fun x400 ex400 => ?_)
    have tx400 := i_add ex400 (by omega)
    refine x_put C hTH385 hSH385 (ci := 4) (k := 6) (v := .int x400) (ty0 := tyX4) rfl inX4 tyX4_ok nmX4 (by decide) rfl wF_X4_45 ga0 rg_78 rfl rfl (okI (by have := i_rng x400; omega) (by have := i_rng x400; omega)) rfl rfl (AE_in ga0 (by decide)) dX4_addToken_47 (fun H401 locsH401 hTH401 hSH401 wH401 => ?_)
    have f402 : ∀ j : Nat, j ≠ tk.toNatClampNeg → fI H401 kq j = fI s.heap kq j := fun j hj => (Wr.neI wH401 (Or.inl (G_ne gkq ga0 (by decide)))).trans (f386 j hj)
    have f403 : ∀ j : Nat, j ≠ tk.toNatClampNeg → fI H401 vq j = fI s.heap vq j := fun j hj => (Wr.neI wH401 (Or.inl (G_ne gvq ga0 (by decide)))).trans (f387 j hj)
    have m404 := m388.trans (Wr.neR wH401 (Or.inr (x_apart hKT hts inX4 tyX4 tyX4_ok nmX4 rfl 0 6 (by decide) (by decide) (by decide)))).symm
    have m405 := m389.trans (Wr.neR wH401 (Or.inr (x_apart hKT hts inX4 tyX4 tyX4_ok nmX4 rfl 3 6 (by decide) (by decide) (by decide)))).symm
    have m406 := m390.trans (Wr.neR wH401 (Or.inr (x_apart hKT hts inX4 tyX4 tyX4_ok nmX4 rfl 4 6 (by decide) (by decide) (by decide)))).symm
    have m407 := m391.trans (Wr.neI wH401 (Or.inr (x_apart hKT hts inX4 tyX4 tyX4_ok nmX4 rfl 7 6 (by decide) (by decide) (by decide)))).symm
    have m409 := m393.trans (Wr.neI wH401 (Or.inr (x_apart hKT hts inX4 tyX4 tyX4_ok nmX4 rfl 8 6 (by decide) (by decide) (by decide)))).symm
    have m410 := m394.trans (Wr.neI wH401 (Or.inr (x_apart hKT hts inX4 tyX4 tyX4_ok nmX4 rfl 1 6 (by decide) (by decide) (by decide)))).symm
    have m411 := m395.trans (Wr.neI wH401 (Or.inl (G_ne gkq ga0 (by decide)))).symm
    have m412 := m396.trans (Wr.neI wH401 (Or.inl (G_ne gvq ga0 (by decide)))).symm
    have m413 := m397.trans (Wr.neR wH401 (Or.inr (x_apart hKT hts inX4 tyX4 tyX4_ok nmX4 rfl 5 6 (by decide) (by decide) (by decide)))).symm
    have m414 := m398.trans (Wr.neI wH401 (Or.inl (G_ne gq383 ga0 (by decide)))).symm
    have m415 := Wr.I wH401
    have m415 := m415.symm
    exact x_vret C hQ dX4_addToken_50 hSH401 (by decide) (by decide) (⟨tat, x400, lw, fa, rfl, m407, m415, m409, m410, by omega, m404, m405, m406, m411, m412, f402, f403, hTH401⟩)
