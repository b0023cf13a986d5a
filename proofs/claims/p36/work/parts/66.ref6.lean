def cntW : Nat → Nat
  | 0 => 0
  | n + 1 => cntW n + (if wdN n = 32 then 1 else 0)
theorem cntW_le : ∀ k : Nat, k < 114 → wdN k = 32 → cntW k ≤ 23 := by decide +kernel
theorem cntW_s {n : Nat} (h : wdN n = 32) : cntW (n + 1) = cntW n + 1 := by rw [cntW, if_pos h]
theorem cntW_n {n : Nat} (h : wdN n ≠ 32) : cntW (n + 1) = cntW n := by rw [cntW, if_neg h, Nat.add_zero]
theorem wd_at {K : KE} {H : Heap} {b wq n : Nat} {x k : Int32} (h : WD (avw K H b)) (ew : wq = fR H b (K.1.2 10 23)) (ex : x = fI H wq k.toNatClampNeg) (hk : k.toInt = (n : Int)) (hn : n < 115) : x.toInt = wdN n := by
  subst ew
  rw [ex, i_nk hk]
  exact h n hn
def NB (H : Heap) (q : Nat) (a b : Int) : Prop := ∀ j : Nat, a ≤ (j : Int) → (j : Int) < b → (fI H q j).toInt ≠ 32
theorem NB.kept {H H1 : Heap} {q : Nat} {a b : Int} (e : ∀ j : Nat, fI H1 q j = fI H q j) (h : NB H q a b) : NB H1 q a b := fun j h1 h2 => by rw [e j]; exact h j h1 h2
theorem NB.at {H : Heap} {q : Nat} {a b : Int} {x j : Int32} (h : NB H q a b) (e : x = fI H q j.toNatClampNeg) (hj : 0 ≤ j.toInt ∧ a ≤ j.toInt ∧ j.toInt < b) : x.toInt ≠ 32 := by
  have := i_cl (x := j) (by omega)
  rw [e]
  exact h _ (by omega) (by omega)
theorem NB.ext {H : Heap} {q : Nat} {a b b' : Int} {x j : Int32} (h : NB H q a b) (e : x = fI H q j.toNatClampNeg) (hx : x.toInt ≠ 32) (hj : 0 ≤ j.toInt ∧ j.toInt = b) (hb : b' = b + 1) : NB H q a b' := by
  intro i h1 h2
  by_cases c : (i : Int) = b
  · have := i_cl (x := j) (by omega)
    have e2 : i = j.toNatClampNeg := by omega
    rw [e2, ← e]
    exact hx
  · exact h i h1 (by omega)
theorem NB.nil {H : Heap} {q : Nat} {a b : Int} (h : b ≤ a) : NB H q a b := fun j h1 h2 => by omega
theorem wd_end {K : KE} {H : Heap} {b wq : Nat} {x j : Int32} (h : WD (avw K H b)) (ew : wq = fR H b (K.1.2 10 23)) (ex : x = fI H wq j.toNatClampNeg) (hj : 0 ≤ j.toInt ∧ j.toInt ≤ 114) : j.toInt ≠ 114 ∨ x.toInt = 32 := by
  by_cases e : j.toInt = 114
  · exact Or.inr ((wd_at (n := 114) h ew ex (by omega) (by decide)).trans (by decide))
  · exact Or.inl e
set_option maxHeartbeats 4000000 in
set_option maxRecDepth 100000 in
theorem a_X10_raw (l : Launch) (K : KE) (G : Nat → Option Nat) (H : Heap) {a0 : Nat} (x1 : Int32) {tq : Nat} (tp : Int32) (hT : TY K G H) (ga0 : G a0 = some 112) (hx1 : 0 ≤ x1.toInt ∧ x1.toInt ≤ 500) (gtq : G tq = some 126) (etq : tq = fR H a0 (K.1.2 10 17)) (etp : tp = fI H a0 (K.1.2 10 18)) : MX l K yX10_raw cX10_raw 2 (some .int) 0 0 0 0 [.ref a0, .int x1] H (AE G [] H.size) (fun v H1 => ∃ (r : Int32), v = some (.int r) ∧ (r.toInt = -1 ∨ x1.toInt < tp.toInt) ∧ (tp.toInt ≤ x1.toInt ∨ r = fI H1 tq x1.toNatClampNeg) ∧ TY K G H1) := by
  refine MX.of (by decide +kernel) (Nat.le_of_ble_eq_true rfl) ?_
  intro p e s m below meth c ls Q C hH hl hQ
  subst hH
  have C : CX p K s m _ meth c RX10 cX10_raw 2 (some .int) "raw" := C
  obtain ⟨hx, hb, hml, hown, hts, hKT, hr, hlocks, hnm⟩ := id C
  have hl : lv_has ls 2 [(0, .ref a0), (1, .int x1)] := hl
  have hS : va_S (AE G [] s.heap.size) s.heap s.heap [] := va_S.rf
  have n_m1 : ((-1) : Int32).toInt = -1 := rfl
  have btp := ty_fi (x := tp) (k := 18) etp hT ga0 rg_112 rfl
  have hap : ∀ x y, x < 74 → y < 74 → x ≠ y → K.1.2 10 x ≠ K.1.2 10 y := x_apart hKT hts inX10 tyX10 tyX10_ok nmX10 rfl
  refine lv_iload_n hx hb dX10_raw_0 rfl (lv_at hl 1 rfl) ?_
  refine lv_aload_n hx hb dX10_raw_1 rfl (lv_at hl 0 rfl) ?_
  refine x_gi C hT (ci := 10) (k := 18) rfl inX10 (by decide) wF_X10_185 ga0 rg_112 rfl dX10_raw_2 (fun x121 ex121 bx121 => ?_)
  have ux121 : tp = x121 := (etp).trans ex121.symm
  subst ux121
  refine lv_icmp_ge (tgt := 17) hx hb dX10_raw_5 (by decide) (fun c122 => ?_) (fun c122 => ?_)
  · have k123 := i_le c122
    refine lv_iconst (v := (-1)) hx hb dX10_raw_17 (by decide) ?_
    exact x_iret C hQ dX10_raw_18 hS (by decide) (by decide) (⟨(-1), rfl, by omega, Or.inl (by omega), hT⟩)
  · have k123 := i_nle c122
    refine lv_aload_n hx hb dX10_raw_8 rfl (lv_at hl 0 rfl) ?_
    refine x_gr C hT (ci := 10) (k := 17) rfl inX10 (by decide) wF_X10_53 ga0 rg_112 rfl dX10_raw_9 (fun q124 eq124 gq124 => ?_)
    have uq124 : tq = q124 := (etq).trans eq124.symm
    subst uq124
    refine lv_iload_n hx hb dX10_raw_12 rfl (lv_at hl 1 rfl) ?_
    refine x_ai C hT gtq rg_126 ⟨by omega, by show _ < ((500 : Nat) : Int); omega⟩ dX10_raw_13 (fun x125 ex125 bx125 => ?_)
    refine lv_goto (tgt := 18) hx hb dX10_raw_14 (by decide) ?_
    exact x_iret C hQ dX10_raw_18 hS (by decide) (by decide) (⟨x125, rfl, by omega, Or.inr ex125, hT⟩)

set_option maxHeartbeats 4000000 in
set_option maxRecDepth 100000 in
theorem a_X10_isLetter (l : Launch) (K : KE) (G : Nat → Option Nat) (H : Heap) {a0 : Nat} (x1 : Int32) (hT : TY K G H) (ga0 : G a0 = some 112) : MX l K yX10_isLetter cX10_isLetter 2 (some .boolean) 1 23 0 0 [.ref a0, .int x1] H (AE G [] H.size) (fun v H1 => ∃ (r : Int32), v = some (.int r) ∧ (0 ≤ r.toInt ∧ r.toInt ≤ 1) ∧ (r.toInt = 0 ∨ (65 ≤ x1.toInt ∧ x1.toInt ≤ 122)) ∧ TY K G H1) := by
  refine MX.of (by decide +kernel) (Nat.le_of_ble_eq_true rfl) ?_
  intro p e s m below meth c ls Q C hH hl hQ
  subst hH
  have C : CX p K s m _ meth c RX10 cX10_isLetter 2 (some .boolean) "isLetter" := C
  obtain ⟨hx, hb, hml, hown, hts, hKT, hr, hlocks, hnm⟩ := id C
  have hl : lv_has ls 2 [(0, .ref a0), (1, .int x1)] := hl
  have hS : va_S (AE G [] s.heap.size) s.heap s.heap [] := va_S.rf
  have n_0 : (0 : Int32).toInt = 0 := rfl
  have n_1 : (1 : Int32).toInt = 1 := rfl
  have n_65 : (65 : Int32).toInt = 65 := rfl
  have n_90 : (90 : Int32).toInt = 90 := rfl
  have n_97 : (97 : Int32).toInt = 97 := rfl
  have n_122 : (122 : Int32).toInt = 122 := rfl
  have hap : ∀ x y, x < 74 → y < 74 → x ≠ y → K.1.2 10 x ≠ K.1.2 10 y := x_apart hKT hts inX10 tyX10 tyX10_ok nmX10 rfl
  refine lv_aload_n hx hb dX10_isLetter_0 rfl (lv_at hl 0 rfl) ?_
  refine lv_iload_n hx hb dX10_isLetter_1 rfl (lv_at hl 1 rfl) ?_
  refine lv_bipush (v := 97) hx hb dX10_isLetter_2 (by decide) ?_
  refine lv_bipush (v := 122) hx hb dX10_isLetter_4 (by decide) ?_
  refine x_V (As := [.int x1, .int 97, .int 122]) (rest := []) C (c_X10_isIn l K G s.heap (x1) (97) (122) hT ga0) yo_X10_isIn wM_X10_177 ⟨⟨by decide, by decide⟩, by decide, by decide⟩ (x_rv C hT (ci := 10) rfl ga0 rg_112) rfl hl.1 rfl (Nat.le_of_ble_eq_true rfl) dX10_isLetter_6 hS (AE_sub (fun _ _ => rfl) (by decide) hS.1) (fun vH141 H141 locsH141 pH141 zH141 kH141 hSH141 => ?_)
  have hqH141 := pH141.1.symm
  subst hqH141
  rcases pH141.2 with ⟨hvH141, hcH141⟩ | ⟨hvH141, hcH141⟩
  · subst hvH141
    refine W.eq (g2 := F0 m 9 ls [.int 1]) rfl ?_
    refine lv_if_ne (tgt := 24) hx hb dX10_isLetter_9 (by decide) (fun c142 => ?_) (fun c142 => ?_)
    · have k143 := i_ne c142
      refine lv_iconst (v := 1) hx hb dX10_isLetter_24 (by decide) ?_
      refine lv_goto (tgt := 29) hx hb dX10_isLetter_25 (by decide) ?_
      exact x_zret C hQ (Or.inr rfl) dX10_isLetter_29 hSH141 (by decide) (by decide) (⟨1, rfl, by decide, by omega, hT⟩)
    · have k143 := i_eq c142
      exfalso
      omega
  · subst hvH141
    refine W.eq (g2 := F0 m 9 ls [.int 0]) rfl ?_
    refine lv_if_ne (tgt := 24) hx hb dX10_isLetter_9 (by decide) (fun c144 => ?_) (fun c144 => ?_)
    · have k145 := i_ne c144
      exfalso
      omega
    · have k145 := i_eq c144
      refine lv_aload_n hx hb dX10_isLetter_12 rfl (lv_at hl 0 rfl) ?_
      refine lv_iload_n hx hb dX10_isLetter_13 rfl (lv_at hl 1 rfl) ?_
      refine lv_bipush (v := 65) hx hb dX10_isLetter_14 (by decide) ?_
      refine lv_bipush (v := 90) hx hb dX10_isLetter_16 (by decide) ?_
      refine x_V (As := [.int x1, .int 65, .int 90]) (rest := []) C (c_X10_isIn l K G s.heap (x1) (65) (90) hT ga0) yo_X10_isIn wM_X10_177 ⟨⟨by decide, by decide⟩, by decide, by decide⟩ (x_rv C hT (ci := 10) rfl ga0 rg_112) rfl hl.1 rfl (Nat.le_of_ble_eq_true rfl) dX10_isLetter_18 hSH141 (AE_sub (fun _ _ => rfl) (by decide) hSH141.1) (fun vH146 H146 locsH146 pH146 zH146 kH146 hSH146 => ?_)
      have hqH146 := pH146.1.symm
      subst hqH146
      rcases pH146.2 with ⟨hvH146, hcH146⟩ | ⟨hvH146, hcH146⟩
      · subst hvH146
        refine W.eq (g2 := F0 m 21 ls [.int 1]) rfl ?_
        refine lv_if_eq (tgt := 28) hx hb dX10_isLetter_21 (by decide) (fun c147 => ?_) (fun c147 => ?_)
        · have k148 := i_eq c147
          exfalso
          omega
        · have k148 := i_ne c147
          refine lv_iconst (v := 1) hx hb dX10_isLetter_24 (by decide) ?_
          refine lv_goto (tgt := 29) hx hb dX10_isLetter_25 (by decide) ?_
          exact x_zret C hQ (Or.inr rfl) dX10_isLetter_29 hSH146 (by decide) (by decide) (⟨1, rfl, by decide, by omega, hT⟩)
      · subst hvH146
        refine W.eq (g2 := F0 m 21 ls [.int 0]) rfl ?_
        refine lv_if_eq (tgt := 28) hx hb dX10_isLetter_21 (by decide) (fun c149 => ?_) (fun c149 => ?_)
        · have k150 := i_eq c149
          refine lv_iconst (v := 0) hx hb dX10_isLetter_28 (by decide) ?_
          exact x_zret C hQ (Or.inl rfl) dX10_isLetter_29 hSH146 (by decide) (by decide) (⟨0, rfl, by decide, by omega, hT⟩)
        · have k150 := i_ne c149
          exfalso
          omega

set_option maxHeartbeats 4000000 in
set_option maxRecDepth 100000 in
theorem a_X10_isDigit (l : Launch) (K : KE) (G : Nat → Option Nat) (H : Heap) {a0 : Nat} (x1 : Int32) (hT : TY K G H) (ga0 : G a0 = some 112) : MX l K yX10_isDigit cX10_isDigit 2 (some .boolean) 1 23 0 0 [.ref a0, .int x1] H (AE G [] H.size) (fun v H1 => ∃ (r : Int32), v = some (.int r) ∧ (0 ≤ r.toInt ∧ r.toInt ≤ 1) ∧ (r.toInt = 0 ∨ (48 ≤ x1.toInt ∧ x1.toInt ≤ 57)) ∧ TY K G H1) := by
  refine MX.of (by decide +kernel) (Nat.le_of_ble_eq_true rfl) ?_
  intro p e s m below meth c ls Q C hH hl hQ
  subst hH
  have C : CX p K s m _ meth c RX10 cX10_isDigit 2 (some .boolean) "isDigit" := C
  obtain ⟨hx, hb, hml, hown, hts, hKT, hr, hlocks, hnm⟩ := id C
  have hl : lv_has ls 2 [(0, .ref a0), (1, .int x1)] := hl
  have hS : va_S (AE G [] s.heap.size) s.heap s.heap [] := va_S.rf
  have n_0 : (0 : Int32).toInt = 0 := rfl
  have n_1 : (1 : Int32).toInt = 1 := rfl
  have n_48 : (48 : Int32).toInt = 48 := rfl
  have n_57 : (57 : Int32).toInt = 57 := rfl
  have hap : ∀ x y, x < 74 → y < 74 → x ≠ y → K.1.2 10 x ≠ K.1.2 10 y := x_apart hKT hts inX10 tyX10 tyX10_ok nmX10 rfl
  refine lv_aload_n hx hb dX10_isDigit_0 rfl (lv_at hl 0 rfl) ?_
  refine lv_iload_n hx hb dX10_isDigit_1 rfl (lv_at hl 1 rfl) ?_
  refine lv_bipush (v := 48) hx hb dX10_isDigit_2 (by decide) ?_
  refine lv_bipush (v := 57) hx hb dX10_isDigit_4 (by decide) ?_
  refine x_V (As := [.int x1, .int 48, .int 57]) (rest := []) C (c_X10_isIn l K G s.heap (x1) (48) (57) hT ga0) yo_X10_isIn wM_X10_177 ⟨⟨by decide, by decide⟩, by decide, by decide⟩ (x_rv C hT (ci := 10) rfl ga0 rg_112) rfl hl.1 rfl (Nat.le_of_ble_eq_true rfl) dX10_isDigit_6 hS (AE_sub (fun _ _ => rfl) (by decide) hS.1) (fun vH105 H105 locsH105 pH105 zH105 kH105 hSH105 => ?_)
  have hqH105 := pH105.1.symm
  subst hqH105
  rcases pH105.2 with ⟨hvH105, hcH105⟩ | ⟨hvH105, hcH105⟩
  · subst hvH105
    refine W.eq (g2 := F0 m 9 ls [.int 1]) rfl ?_
    exact x_zret C hQ (Or.inr rfl) dX10_isDigit_9 hSH105 (by decide) (by decide) (⟨1, rfl, by decide, by omega, hT⟩)
  · subst hvH105
    refine W.eq (g2 := F0 m 9 ls [.int 0]) rfl ?_
    exact x_zret C hQ (Or.inl rfl) dX10_isDigit_9 hSH105 (by decide) (by decide) (⟨0, rfl, by decide, by omega, hT⟩)

set_option maxHeartbeats 4000000 in
set_option maxRecDepth 100000 in
theorem a_X10_isMarkSign (l : Launch) (K : KE) (G : Nat → Option Nat) (H : Heap) {a0 : Nat} (x1 : Int32) (hT : TY K G H) (ga0 : G a0 = some 112) : MX l K yX10_isMarkSign cX10_isMarkSign 2 (some .boolean) 0 0 0 0 [.ref a0, .int x1] H (AE G [] H.size) (fun v H1 => ∃ (r : Int32), v = some (.int r) ∧ (0 ≤ r.toInt ∧ r.toInt ≤ 1) ∧ (r.toInt = 0 ∨ (40 ≤ x1.toInt ∧ x1.toInt ≤ 62)) ∧ TY K G H1) := by
  refine MX.of (by decide +kernel) (Nat.le_of_ble_eq_true rfl) ?_
  intro p e s m below meth c ls Q C hH hl hQ
  subst hH
  have C : CX p K s m _ meth c RX10 cX10_isMarkSign 2 (some .boolean) "isMarkSign" := C
  obtain ⟨hx, hb, hml, hown, hts, hKT, hr, hlocks, hnm⟩ := id C
  have hl : lv_has ls 2 [(0, .ref a0), (1, .int x1)] := hl
  have hS : va_S (AE G [] s.heap.size) s.heap s.heap [] := va_S.rf
  have n_0 : (0 : Int32).toInt = 0 := rfl
  have n_1 : (1 : Int32).toInt = 1 := rfl
  have n_40 : (40 : Int32).toInt = 40 := rfl
  have n_41 : (41 : Int32).toInt = 41 := rfl
  have n_42 : (42 : Int32).toInt = 42 := rfl
  have n_43 : (43 : Int32).toInt = 43 := rfl
  have n_45 : (45 : Int32).toInt = 45 := rfl
  have n_47 : (47 : Int32).toInt = 47 := rfl
  have n_59 : (59 : Int32).toInt = 59 := rfl
  have n_60 : (60 : Int32).toInt = 60 := rfl
  have n_61 : (61 : Int32).toInt = 61 := rfl
  have n_62 : (62 : Int32).toInt = 62 := rfl
  have hap : ∀ x y, x < 74 → y < 74 → x ≠ y → K.1.2 10 x ≠ K.1.2 10 y := x_apart hKT hts inX10 tyX10 tyX10_ok nmX10 rfl
  refine lv_iload_n hx hb dX10_isMarkSign_0 rfl (lv_at hl 1 rfl) ?_
  refine lv_bipush (v := 59) hx hb dX10_isMarkSign_1 (by decide) ?_
  refine lv_icmp_eq (tgt := 60) hx hb dX10_isMarkSign_3 (by decide) (fun c181 => ?_) (fun c181 => ?_)
  · have k182 := i_eq c181
    refine lv_iconst (v := 1) hx hb dX10_isMarkSign_60 (by decide) ?_
    refine lv_goto (tgt := 65) hx hb dX10_isMarkSign_61 (by decide) ?_
    exact x_zret C hQ (Or.inr rfl) dX10_isMarkSign_65 hS (by decide) (by decide) (⟨1, rfl, by decide, by omega, hT⟩)
  · have k182 := i_ne c181
    refine lv_iload_n hx hb dX10_isMarkSign_6 rfl (lv_at hl 1 rfl) ?_
    refine lv_bipush (v := 43) hx hb dX10_isMarkSign_7 (by decide) ?_
    refine lv_icmp_eq (tgt := 60) hx hb dX10_isMarkSign_9 (by decide) (fun c183 => ?_) (fun c183 => ?_)
    · have k184 := i_eq c183
      refine lv_iconst (v := 1) hx hb dX10_isMarkSign_60 (by decide) ?_
      refine lv_goto (tgt := 65) hx hb dX10_isMarkSign_61 (by decide) ?_
      exact x_zret C hQ (Or.inr rfl) dX10_isMarkSign_65 hS (by decide) (by decide) (⟨1, rfl, by decide, by omega, hT⟩)
    · have k184 := i_ne c183
      refine lv_iload_n hx hb dX10_isMarkSign_12 rfl (lv_at hl 1 rfl) ?_
      refine lv_bipush (v := 45) hx hb dX10_isMarkSign_13 (by decide) ?_
      refine lv_icmp_eq (tgt := 60) hx hb dX10_isMarkSign_15 (by decide) (fun c185 => ?_) (fun c185 => ?_)
      · have k186 := i_eq c185
        refine lv_iconst (v := 1) hx hb dX10_isMarkSign_60 (by decide) ?_
        refine lv_goto (tgt := 65) hx hb dX10_isMarkSign_61 (by decide) ?_
        exact x_zret C hQ (Or.inr rfl) dX10_isMarkSign_65 hS (by decide) (by decide) (⟨1, rfl, by decide, by omega, hT⟩)
      · have k186 := i_ne c185
        refine lv_iload_n hx hb dX10_isMarkSign_18 rfl (lv_at hl 1 rfl) ?_
        refine lv_bipush (v := 42) hx hb dX10_isMarkSign_19 (by decide) ?_
        refine lv_icmp_eq (tgt := 60) hx hb dX10_isMarkSign_21 (by decide) (fun c187 => ?_) (fun c187 => ?_)
        · have k188 := i_eq c187
          refine lv_iconst (v := 1) hx hb dX10_isMarkSign_60 (by decide) ?_
          refine lv_goto (tgt := 65) hx hb dX10_isMarkSign_61 (by decide) ?_
          exact x_zret C hQ (Or.inr rfl) dX10_isMarkSign_65 hS (by decide) (by decide) (⟨1, rfl, by decide, by omega, hT⟩)
        · have k188 := i_ne c187
          refine lv_iload_n hx hb dX10_isMarkSign_24 rfl (lv_at hl 1 rfl) ?_
          refine lv_bipush (v := 47) hx hb dX10_isMarkSign_25 (by decide) ?_
          refine lv_icmp_eq (tgt := 60) hx hb dX10_isMarkSign_27 (by decide) (fun c189 => ?_) (fun c189 => ?_)
          · have k190 := i_eq c189
            refine lv_iconst (v := 1) hx hb dX10_isMarkSign_60 (by decide) ?_
            refine lv_goto (tgt := 65) hx hb dX10_isMarkSign_61 (by decide) ?_
            exact x_zret C hQ (Or.inr rfl) dX10_isMarkSign_65 hS (by decide) (by decide) (⟨1, rfl, by decide, by omega, hT⟩)
          · have k190 := i_ne c189
            refine lv_iload_n hx hb dX10_isMarkSign_30 rfl (lv_at hl 1 rfl) ?_
            refine lv_bipush (v := 40) hx hb dX10_isMarkSign_31 (by decide) ?_
            refine lv_icmp_eq (tgt := 60) hx hb dX10_isMarkSign_33 (by decide) (fun c191 => ?_) (fun c191 => ?_)
            · have k192 := i_eq c191
              refine lv_iconst (v := 1) hx hb dX10_isMarkSign_60 (by decide) ?_
              refine lv_goto (tgt := 65) hx hb dX10_isMarkSign_61 (by decide) ?_
              exact x_zret C hQ (Or.inr rfl) dX10_isMarkSign_65 hS (by decide) (by decide) (⟨1, rfl, by decide, by omega, hT⟩)
            · have k192 := i_ne c191
              refine lv_iload_n hx hb dX10_isMarkSign_36 rfl (lv_at hl 1 rfl) ?_
              refine lv_bipush (v := 41) hx hb dX10_isMarkSign_37 (by decide) ?_
              refine lv_icmp_eq (tgt := 60) hx hb dX10_isMarkSign_39 (by decide) (fun c193 => ?_) (fun c193 => ?_)
              · have k194 := i_eq c193
                refine lv_iconst (v := 1) hx hb dX10_isMarkSign_60 (by decide) ?_
                refine lv_goto (tgt := 65) hx hb dX10_isMarkSign_61 (by decide) ?_
                exact x_zret C hQ (Or.inr rfl) dX10_isMarkSign_65 hS (by decide) (by decide) (⟨1, rfl, by decide, by omega, hT⟩)
              · have k194 := i_ne c193
                refine lv_iload_n hx hb dX10_isMarkSign_42 rfl (lv_at hl 1 rfl) ?_
                refine lv_bipush (v := 60) hx hb dX10_isMarkSign_43 (by decide) ?_
                refine lv_icmp_eq (tgt := 60) hx hb dX10_isMarkSign_45 (by decide) (fun c195 => ?_) (fun c195 => ?_)
                · have k196 := i_eq c195
                  refine lv_iconst (v := 1) hx hb dX10_isMarkSign_60 (by decide) ?_
                  refine lv_goto (tgt := 65) hx hb dX10_isMarkSign_61 (by decide) ?_
                  exact x_zret C hQ (Or.inr rfl) dX10_isMarkSign_65 hS (by decide) (by decide) (⟨1, rfl, by decide, by omega, hT⟩)
                · have k196 := i_ne c195
                  refine lv_iload_n hx hb dX10_isMarkSign_48 rfl (lv_at hl 1 rfl) ?_
                  refine lv_bipush (v := 61) hx hb dX10_isMarkSign_49 (by decide) ?_
                  refine lv_icmp_eq (tgt := 60) hx hb dX10_isMarkSign_51 (by decide) (fun c197 => ?_) (fun c197 => ?_)
                  · have k198 := i_eq c197
                    refine lv_iconst (v := 1) hx hb dX10_isMarkSign_60 (by decide) ?_
                    refine lv_goto (tgt := 65) hx hb dX10_isMarkSign_61 (by decide) ?_
                    exact x_zret C hQ (Or.inr rfl) dX10_isMarkSign_65 hS (by decide) (by decide) (⟨1, rfl, by decide, by omega, hT⟩)
                  · have k198 := i_ne c197
                    refine lv_iload_n hx hb dX10_isMarkSign_54 rfl (lv_at hl 1 rfl) ?_
                    refine lv_bipush (v := 62) hx hb dX10_isMarkSign_55 (by decide) ?_
                    refine lv_icmp_ne (tgt := 64) hx hb dX10_isMarkSign_57 (by decide) (fun c199 => ?_) (fun c199 => ?_)
                    · have k200 := i_ne c199
                      refine lv_iconst (v := 0) hx hb dX10_isMarkSign_64 (by decide) ?_
                      exact x_zret C hQ (Or.inl rfl) dX10_isMarkSign_65 hS (by decide) (by decide) (⟨0, rfl, by decide, by omega, hT⟩)
                    · have k200 := i_eq c199
                      refine lv_iconst (v := 1) hx hb dX10_isMarkSign_60 (by decide) ?_
                      refine lv_goto (tgt := 65) hx hb dX10_isMarkSign_61 (by decide) ?_
                      exact x_zret C hQ (Or.inr rfl) dX10_isMarkSign_65 hS (by decide) (by decide) (⟨1, rfl, by decide, by omega, hT⟩)

set_option maxHeartbeats 4000000 in
set_option maxRecDepth 100000 in
theorem a_X10_wordAt (l : Launch) (K : KE) (G : Nat → Option Nat) (H : Heap) {a0 : Nat} (x1 : Int32) (x2 : Int32) {wq : Nat} {tq : Nat} (hT : TY K G H) (ga0 : G a0 = some 112) (hx1 : 0 ≤ x1.toInt ∧ x1.toInt ≤ 499) (hx2 : 1 ≤ x2.toInt ∧ x2.toInt ≤ 500) (gwq : G wq = some 127) (ewq : wq = fR H a0 (K.1.2 10 23)) (gtq : G tq = some 126) (etq : tq = fR H a0 (K.1.2 10 17)) (hg_WD : WD (avw K H a0)) (hb_nb : NB H tq (x1.toInt) (x2.toInt)) : MX l K yX10_wordAt cX10_wordAt 6 (some .int) 0 0 0 0 [.ref a0, .int x1, .int x2] H (AE G [] H.size) (fun v H1 => ∃ (r : Int32), v = some (.int r) ∧ ((-1) ≤ r.toInt ∧ r.toInt ≤ 23) ∧ TY K G H1) := by
  refine MX.of (by decide +kernel) (Nat.le_of_ble_eq_true rfl) ?_
  intro p e s m below meth c ls Q C hH hl hQ
  subst hH
  have C : CX p K s m _ meth c RX10 cX10_wordAt 6 (some .int) "wordAt" := C
  obtain ⟨hx, hb, hml, hown, hts, hKT, hr, hlocks, hnm⟩ := id C
  have hl : lv_has ls 6 [(0, .ref a0), (1, .int x1), (2, .int x2)] := hl
  have hS : va_S (AE G [] s.heap.size) s.heap s.heap [] := va_S.rf
  have n_m1 : ((-1) : Int32).toInt = -1 := rfl
  have n_0 : (0 : Int32).toInt = 0 := rfl
  have n_1 : (1 : Int32).toInt = 1 := rfl
  have n_32 : (32 : Int32).toInt = 32 := rfl
  have n_114 : (114 : Int32).toInt = 114 := rfl
  have hap : ∀ x y, x < 74 → y < 74 → x ≠ y → K.1.2 10 x ≠ K.1.2 10 y := x_apart hKT hts inX10 tyX10 tyX10_ok nmX10 rfl
  have J5 : ∀ (nf : Nat) (kn : Nat) (ls2176 : Array Slot) (H2175 : Heap) (locsH2175 : List Loc) (x2178 : Int32) (x2179 : Int32), lv_has ls2176 6 [(0, .ref a0), (1, .int x1), (2, .int x2), (3, .int x2178), (4, .int x2179)] → TY K G H2175 → va_S (AE G [] s.heap.size) s.heap H2175 locsH2175 → ((-1) ≤ x2178.toInt ∧ x2178.toInt ≤ 23) → (0 ≤ x2179.toInt ∧ x2179.toInt ≤ 114) → (wq = fR H2175 a0 (K.1.2 10 23)) → (tq = fR H2175 a0 (K.1.2 10 17)) → (NB H2175 tq (x1.toInt) (x2.toInt)) → (WD (avw K H2175 a0)) → (114 - x2179.toInt < (nf : Int)) → (x2179.toInt = (kn : Int)) → (wdN kn = 32) → (x2178.toInt + 1 = (cntW kn : Int)) → W p l e ({ frames := 0, cells := 0, slots := 0, locals := 0 } : Room) s m (([.ref a0, .int x1, .int x2] : List Value).toArray) below meth c H2175 locsH2175 0 0 Q (F0 m 5 ls2176 []) := by
    intro nf
    induction nf with
    | zero =>
      intro kn ls2176 H2175 locsH2175 x2178 x2179 hl2177 hTH2175 hSH2175 bx2178 bx2179 cy2180_0 cy2180_1 by2180_nb gy2180_WD hm5 hk1 hk2 hk3
      exfalso
      omega
    | succ nf ih5 =>
      intro kn ls2176 H2175 locsH2175 x2178 x2179 hl2177 hTH2175 hSH2175 bx2178 bx2179 cy2180_0 cy2180_1 by2180_nb gy2180_WD hm5 hk1 hk2 hk3
      have J19 : ∀ (nf : Nat) (ls2182 : Array Slot) (H2181 : Heap) (locsH2181 : List Loc) (x2184 : Int32) (x2186 : Int32), lv_has ls2182 6 [(0, .ref a0), (1, .int x1), (2, .int x2), (3, .int x2184), (4, .int x2179), (5, .int x2186)] → TY K G H2181 → va_S (AE G [] s.heap.size) s.heap H2181 locsH2181 → (0 ≤ x2184.toInt ∧ x2184.toInt ≤ 23) → (0 ≤ x2179.toInt ∧ x2179.toInt ≤ 113) → (0 ≤ x2186.toInt ∧ x2186.toInt ≤ 114) → (wq = fR H2181 a0 (K.1.2 10 23)) → (tq = fR H2181 a0 (K.1.2 10 17)) → (NB H2181 tq (x1.toInt) (x2.toInt)) → (WD (avw K H2181 a0)) → (114 - x2186.toInt < (nf : Int)) → (x2184.toInt = (cntW kn : Int) ∧ x2179.toInt ≤ 113 ∧ x2179.toInt + 1 + x2186.toInt ≤ 114) → W p l e ({ frames := 0, cells := 0, slots := 0, locals := 0 } : Room) s m (([.ref a0, .int x1, .int x2] : List Value).toArray) below meth c H2181 locsH2181 0 0 Q (F0 m 19 ls2182 []) := by
        intro nf
        induction nf with
        | zero =>
          intro ls2182 H2181 locsH2181 x2184 x2186 hl2183 hTH2181 hSH2181 bx2184 b2185 bx2186 cy2187_0 cy2187_1 by2187_nb gy2187_WD hm19 iv19
          exfalso
          omega
        | succ nf ih19 =>
          intro ls2182 H2181 locsH2181 x2184 x2186 hl2183 hTH2181 hSH2181 bx2184 b2185 bx2186 cy2187_0 cy2187_1 by2187_nb gy2187_WD hm19 iv19
          have J60 : ∀ (ls2189 : Array Slot) (H2188 : Heap) (locsH2188 : List Loc) , lv_has ls2189 6 [(0, .ref a0), (1, .int x1), (2, .int x2), (3, .int x2184), (4, .int x2179), (5, .int x2186)] → TY K G H2188 → va_S (AE G [] s.heap.size) s.heap H2188 locsH2188 → (wq = fR H2188 a0 (K.1.2 10 23)) → (tq = fR H2188 a0 (K.1.2 10 17)) → (NB H2188 tq (x1.toInt) (x2.toInt)) → (WD (avw K H2188 a0)) → W p l e ({ frames := 0, cells := 0, slots := 0, locals := 0 } : Room) s m (([.ref a0, .int x1, .int x2] : List Value).toArray) below meth c H2188 locsH2188 0 0 Q (F0 m 60 ls2189 []) := by
            intro ls2189 H2188 locsH2188  hl2190 hTH2188 hSH2188 cy2191_0 cy2191_1 by2191_nb gy2191_WD
            have J87 : ∀ (ls2193 : Array Slot) (H2192 : Heap) (locsH2192 : List Loc) , lv_has ls2193 6 [(0, .ref a0), (1, .int x1), (2, .int x2), (3, .int x2184), (4, .int x2179)] → TY K G H2192 → va_S (AE G [] s.heap.size) s.heap H2192 locsH2192 → (wq = fR H2192 a0 (K.1.2 10 23)) → (tq = fR H2192 a0 (K.1.2 10 17)) → (NB H2192 tq (x1.toInt) (x2.toInt)) → (WD (avw K H2192 a0)) → W p l e ({ frames := 0, cells := 0, slots := 0, locals := 0 } : Room) s m (([.ref a0, .int x1, .int x2] : List Value).toArray) below meth c H2192 locsH2192 0 0 Q (F0 m 87 ls2193 []) := by
              intro ls2193 H2192 locsH2192  hl2194 hTH2192 hSH2192 cy2195_0 cy2195_1 by2195_nb gy2195_WD
              have J93 : ∀ (nf : Nat) (km : Nat) (ls2197 : Array Slot) (H2196 : Heap) (locsH2196 : List Loc) (x2199 : Int32), lv_has ls2197 6 [(0, .ref a0), (1, .int x1), (2, .int x2), (3, .int x2184), (4, .int x2199)] → TY K G H2196 → va_S (AE G [] s.heap.size) s.heap H2196 locsH2196 → (1 ≤ x2199.toInt ∧ x2199.toInt ≤ 114) → (wq = fR H2196 a0 (K.1.2 10 23)) → (tq = fR H2196 a0 (K.1.2 10 17)) → (NB H2196 tq (x1.toInt) (x2.toInt)) → (WD (avw K H2196 a0)) → (114 - x2199.toInt < (nf : Int)) → (x2199.toInt = (km : Int)) → (kn < km ∧ km ≤ 114) → (cntW km = cntW kn + 1) → W p l e ({ frames := 0, cells := 0, slots := 0, locals := 0 } : Room) s m (([.ref a0, .int x1, .int x2] : List Value).toArray) below meth c H2196 locsH2196 0 0 Q (F0 m 93 ls2197 []) := by
                intro nf
                induction nf with
                | zero =>
                  intro km ls2197 H2196 locsH2196 x2199 hl2198 hTH2196 hSH2196 bx2199 cy2200_0 cy2200_1 by2200_nb gy2200_WD hm93 hm1 hm2 hm3
                  exfalso
                  omega
                | succ nf ih93 =>
                  intro km ls2197 H2196 locsH2196 x2199 hl2198 hTH2196 hSH2196 bx2199 cy2200_0 cy2200_1 by2200_nb gy2200_WD hm93 hm1 hm2 hm3
                  have h114 : km ≠ 114 ∨ wdN km = 32 := (Nat.lt_or_ge km 114).elim (fun h => Or.inl (by omega)) (fun h => Or.inr (by rw [show km = 114 by omega]; decide))
                  refine lv_aload_n hx hb dX10_wordAt_93 rfl (lv_at hl2198 0 rfl) ?_
                  refine x_gr C hTH2196 (ci := 10) (k := 23) rfl inX10 (by decide) wF_X10_56 ga0 rg_112 rfl dX10_wordAt_94 (fun q2201 eq2201 gq2201 => ?_)
                  have uq2201 : wq = q2201 := (cy2200_0).trans eq2201.symm
                  subst uq2201
                  refine lv_iload hx hb dX10_wordAt_97 (lv_at hl2198 4 rfl) ?_
                  refine x_ai C hTH2196 gwq rg_127 ⟨by omega, by show _ < ((115 : Nat) : Int); omega⟩ dX10_wordAt_99 (fun x2202 ex2202 bx2202 => ?_)
                  have wdx2202 := wd_at (n := km) gy2200_WD cy2200_0 ex2202 (by omega) (by omega)
                  refine lv_bipush (v := 32) hx hb dX10_wordAt_100 (by decide) ?_
                  refine lv_icmp_eq (tgt := 114) hx hb dX10_wordAt_102 (by decide) (fun c2203 => ?_) (fun c2203 => ?_)
                  · have k2204 := i_eq c2203
                    refine lv_goto (tgt := 5) hx hb dX10_wordAt_114 (by decide) ?_
                    exact ih5 km ls2197 H2196 locsH2196 (x2184) (x2199) (lv_sub hl2198 [0, 1, 2, 3, 4] rfl) hTH2196 hSH2196 (by have := i_rng x2184; omega) (by have := i_rng x2199; omega) cy2200_0 cy2200_1 by2200_nb gy2200_WD (by omega) (by omega) (by omega) (by omega)
                  · have k2204 := i_ne c2203
                    refine lv_iload hx hb dX10_wordAt_105 (lv_at hl2198 4 rfl) ?_
                    refine lv_iconst (v := 1) hx hb dX10_wordAt_107 (by decide) ?_
                    refine lv_iadd hx hb dX10_wordAt_108 ?_
                    refine lv_topi (fun x2205 ex2205 => ?_)
                    have tx2205 := i_add ex2205 (by omega)
                    refine lv_istore (lv' := [(4, .int x2205), (0, .ref a0), (1, .int x1), (2, .int x2), (3, .int x2184)]) hx hb dX10_wordAt_109 hl2198 (by decide) rfl (fun ls2206 hl2207 => ?_)
                    refine lv_goto (tgt := 93) hx hb dX10_wordAt_111 (by decide) ?_
                    have hcn := cntW_n (n := km) (by omega)
                    exact ih93 (km + 1) ls2206 H2196 locsH2196 (x2205) (lv_sub hl2207 [1, 2, 3, 4, 0] rfl) hTH2196 hSH2196 (by have := i_rng x2205; omega) cy2200_0 cy2200_1 by2200_nb gy2200_WD (by omega) (by omega) (by omega) (by omega)
              refine lv_iload hx hb dX10_wordAt_87 (lv_at hl2194 4 rfl) ?_
              refine lv_iconst (v := 1) hx hb dX10_wordAt_89 (by decide) ?_
              refine lv_iadd hx hb dX10_wordAt_90 ?_
              refine lv_topi (fun x2208 ex2208 => ?_)
              have tx2208 := i_add ex2208 (by omega)
              refine lv_istore (lv' := [(4, .int x2208), (0, .ref a0), (1, .int x1), (2, .int x2), (3, .int x2184)]) hx hb dX10_wordAt_91 hl2194 (by decide) rfl (fun ls2209 hl2210 => ?_)
              exact J93 ((114 - x2208.toInt).toNat + 1) (kn + 1) ls2209 H2192 locsH2192 (x2208) (lv_sub hl2210 [1, 2, 3, 4, 0] rfl) hTH2192 hSH2192 (by have := i_rng x2208; omega) cy2195_0 cy2195_1 by2195_nb gy2195_WD (by omega) (by omega) (by omega) (cntW_s hk2)
            refine lv_iload_n hx hb dX10_wordAt_60 rfl (lv_at hl2190 1 rfl) ?_
            refine lv_iload hx hb dX10_wordAt_61 (lv_at hl2190 5 rfl) ?_
            refine lv_iadd hx hb dX10_wordAt_63 ?_
            refine lv_topi (fun x2211 ex2211 => ?_)
            have tx2211 := i_add ex2211 (by omega)
            refine lv_iload_n hx hb dX10_wordAt_64 rfl (lv_at hl2190 2 rfl) ?_
            refine lv_icmp_ne (tgt := 87) hx hb dX10_wordAt_65 (by decide) (fun c2212 => ?_) (fun c2212 => ?_)
            · have k2213 := i_ne c2212
              exact J87 ls2189 H2188 locsH2188 (lv_sub hl2190 [0, 1, 2, 3, 4] rfl) hTH2188 hSH2188 cy2191_0 cy2191_1 by2191_nb gy2191_WD
            · have k2213 := i_eq c2212
              refine lv_aload_n hx hb dX10_wordAt_68 rfl (lv_at hl2190 0 rfl) ?_
              refine x_gr C hTH2188 (ci := 10) (k := 23) rfl inX10 (by decide) wF_X10_56 ga0 rg_112 rfl dX10_wordAt_69 (fun q2214 eq2214 gq2214 => ?_)
              have uq2214 : wq = q2214 := (cy2191_0).trans eq2214.symm
              subst uq2214
              refine lv_iload hx hb dX10_wordAt_72 (lv_at hl2190 4 rfl) ?_
              refine lv_iconst (v := 1) hx hb dX10_wordAt_74 (by decide) ?_
              refine lv_iadd hx hb dX10_wordAt_75 ?_
              refine lv_topi (fun x2215 ex2215 => ?_)
              have tx2215 := i_add ex2215 (by omega)
              refine lv_iload hx hb dX10_wordAt_76 (lv_at hl2190 5 rfl) ?_
              refine lv_iadd hx hb dX10_wordAt_78 ?_
              refine lv_topi (fun x2216 ex2216 => ?_)
              have tx2216 := i_add ex2216 (by omega)
              refine x_ai C hTH2188 gwq rg_127 ⟨by omega, by show _ < ((115 : Nat) : Int); omega⟩ dX10_wordAt_79 (fun x2217 ex2217 bx2217 => ?_)
              have wdx2217 := wd_end gy2191_WD cy2191_0 ex2217 (by omega)
              refine lv_bipush (v := 32) hx hb dX10_wordAt_80 (by decide) ?_
              refine lv_icmp_ne (tgt := 87) hx hb dX10_wordAt_82 (by decide) (fun c2218 => ?_) (fun c2218 => ?_)
              · have k2219 := i_ne c2218
                exact J87 ls2189 H2188 locsH2188 (lv_sub hl2190 [0, 1, 2, 3, 4] rfl) hTH2188 hSH2188 cy2191_0 cy2191_1 by2191_nb gy2191_WD
              · have k2219 := i_eq c2218
                refine lv_iload_n hx hb dX10_wordAt_85 rfl (lv_at hl2190 3 rfl) ?_
                exact x_iret C hQ dX10_wordAt_86 hSH2188 (by decide) (by decide) (⟨x2184, rfl, by omega, hTH2188⟩)
          refine lv_iload_n hx hb dX10_wordAt_19 rfl (lv_at hl2183 1 rfl) ?_
          refine lv_iload hx hb dX10_wordAt_20 (lv_at hl2183 5 rfl) ?_
          refine lv_iadd hx hb dX10_wordAt_22 ?_
          refine lv_topi (fun x2220 ex2220 => ?_)
          have tx2220 := i_add ex2220 (by omega)
          refine lv_iload_n hx hb dX10_wordAt_23 rfl (lv_at hl2183 2 rfl) ?_
          refine lv_icmp_ge (tgt := 60) hx hb dX10_wordAt_24 (by decide) (fun c2221 => ?_) (fun c2221 => ?_)
          · have k2222 := i_le c2221
            exact J60 ls2182 H2181 locsH2181 (lv_sub hl2183 [0, 1, 2, 3, 4, 5] rfl) hTH2181 hSH2181 cy2187_0 cy2187_1 by2187_nb gy2187_WD
          · have k2222 := i_nle c2221
            refine lv_aload_n hx hb dX10_wordAt_27 rfl (lv_at hl2183 0 rfl) ?_
            refine x_gr C hTH2181 (ci := 10) (k := 23) rfl inX10 (by decide) wF_X10_56 ga0 rg_112 rfl dX10_wordAt_28 (fun q2223 eq2223 gq2223 => ?_)
            have uq2223 : wq = q2223 := (cy2187_0).trans eq2223.symm
            subst uq2223
            refine lv_iload hx hb dX10_wordAt_31 (lv_at hl2183 4 rfl) ?_
            refine lv_iconst (v := 1) hx hb dX10_wordAt_33 (by decide) ?_
            refine lv_iadd hx hb dX10_wordAt_34 ?_
            refine lv_topi (fun x2224 ex2224 => ?_)
            have tx2224 := i_add ex2224 (by omega)
            refine lv_iload hx hb dX10_wordAt_35 (lv_at hl2183 5 rfl) ?_
            refine lv_iadd hx hb dX10_wordAt_37 ?_
            refine lv_topi (fun x2225 ex2225 => ?_)
            have tx2225 := i_add ex2225 (by omega)
            refine x_ai C hTH2181 gwq rg_127 ⟨by omega, by show _ < ((115 : Nat) : Int); omega⟩ dX10_wordAt_38 (fun x2226 ex2226 bx2226 => ?_)
            have wdx2226 := wd_end gy2187_WD cy2187_0 ex2226 (by omega)
            refine lv_aload_n hx hb dX10_wordAt_39 rfl (lv_at hl2183 0 rfl) ?_
            refine x_gr C hTH2181 (ci := 10) (k := 17) rfl inX10 (by decide) wF_X10_53 ga0 rg_112 rfl dX10_wordAt_40 (fun q2227 eq2227 gq2227 => ?_)
            have uq2227 : tq = q2227 := (cy2187_1).trans eq2227.symm
            subst uq2227
            refine lv_iload_n hx hb dX10_wordAt_43 rfl (lv_at hl2183 1 rfl) ?_
            refine lv_iload hx hb dX10_wordAt_44 (lv_at hl2183 5 rfl) ?_
            refine lv_iadd hx hb dX10_wordAt_46 ?_
            refine lv_topi (fun x2228 ex2228 => ?_)
            have tx2228 := i_add ex2228 (by omega)
            refine x_ai C hTH2181 gtq rg_126 ⟨by omega, by show _ < ((500 : Nat) : Int); omega⟩ dX10_wordAt_47 (fun x2229 ex2229 bx2229 => ?_)
            have nbx2229 := (by2187_nb).at ex2229 (by omega)
            refine lv_icmp_ne (tgt := 60) hx hb dX10_wordAt_48 (by decide) (fun c2230 => ?_) (fun c2230 => ?_)
            · have k2231 := i_ne c2230
              exact J60 ls2182 H2181 locsH2181 (lv_sub hl2183 [0, 1, 2, 3, 4, 5] rfl) hTH2181 hSH2181 cy2187_0 cy2187_1 by2187_nb gy2187_WD
            · have k2231 := i_eq c2230
              refine lv_iload hx hb dX10_wordAt_51 (lv_at hl2183 5 rfl) ?_
              refine lv_iconst (v := 1) hx hb dX10_wordAt_53 (by decide) ?_
              refine lv_iadd hx hb dX10_wordAt_54 ?_
              refine lv_topi (fun x2232 ex2232 => ?_)
              have tx2232 := i_add ex2232 (by omega)
              refine lv_istore (lv' := [(5, .int x2232), (0, .ref a0), (1, .int x1), (2, .int x2), (3, .int x2184), (4, .int x2179)]) hx hb dX10_wordAt_55 hl2183 (by decide) rfl (fun ls2233 hl2234 => ?_)
              refine lv_goto (tgt := 19) hx hb dX10_wordAt_57 (by decide) ?_
              exact ih19 ls2233 H2181 locsH2181 (x2184) (x2232) (lv_sub hl2234 [1, 2, 3, 4, 5, 0] rfl) hTH2181 hSH2181 (by have := i_rng x2184; omega) (by have := i_rng x2179; omega) (by have := i_rng x2232; omega) cy2187_0 cy2187_1 by2187_nb gy2187_WD (by omega) (by omega)
      refine lv_iload hx hb dX10_wordAt_5 (lv_at hl2177 4 rfl) ?_
      refine lv_bipush (v := 114) hx hb dX10_wordAt_7 (by decide) ?_
      refine lv_icmp_ge (tgt := 117) hx hb dX10_wordAt_9 (by decide) (fun c2235 => ?_) (fun c2235 => ?_)
      · have k2236 := i_le c2235
        refine lv_iconst (v := (-1)) hx hb dX10_wordAt_117 (by decide) ?_
        exact x_iret C hQ dX10_wordAt_118 hSH2175 (by decide) (by decide) (⟨(-1), rfl, by decide, hTH2175⟩)
      · have k2236 := i_nle c2235
        refine lv_iconst (v := 0) hx hb dX10_wordAt_12 (by decide) ?_
        refine lv_istore (lv' := [(5, .int 0), (0, .ref a0), (1, .int x1), (2, .int x2), (3, .int x2178), (4, .int x2179)]) hx hb dX10_wordAt_13 hl2177 (by decide) rfl (fun ls2237 hl2238 => ?_)
        have hc23 := cntW_le kn (by omega) hk2
        refine lv_iload_n hx hb dX10_wordAt_15 rfl (lv_at hl2238 4 rfl) ?_
        refine lv_iconst (v := 1) hx hb dX10_wordAt_16 (by decide) ?_
        refine lv_iadd hx hb dX10_wordAt_17 ?_
        refine lv_topi (fun x2239 ex2239 => ?_)
        have tx2239 := i_add ex2239 (by omega)
        refine lv_istore_n (lv' := [(3, .int x2239), (5, .int 0), (0, .ref a0), (1, .int x1), (2, .int x2), (4, .int x2179)]) hx hb dX10_wordAt_18 rfl hl2238 (by decide) rfl (fun ls2240 hl2241 => ?_)
        exact J19 ((114 - (0 : Int32).toInt).toNat + 1) ls2240 H2175 locsH2175 (x2239) (0) (lv_sub hl2241 [2, 3, 4, 0, 5, 1] rfl) hTH2175 hSH2175 (by have := i_rng x2239; omega) (by have := i_rng x2179; omega) (by decide) cy2180_0 cy2180_1 by2180_nb gy2180_WD (by omega) (by omega)
  refine lv_iconst (v := (-1)) hx hb dX10_wordAt_0 (by decide) ?_
  refine lv_istore_n (lv' := [(3, .int (-1)), (0, .ref a0), (1, .int x1), (2, .int x2)]) hx hb dX10_wordAt_1 rfl hl (by decide) rfl (fun ls2242 hl2243 => ?_)
  refine lv_iconst (v := 0) hx hb dX10_wordAt_2 (by decide) ?_
  refine lv_istore (lv' := [(4, .int 0), (3, .int (-1)), (0, .ref a0), (1, .int x1), (2, .int x2)]) hx hb dX10_wordAt_3 hl2243 (by decide) rfl (fun ls2244 hl2245 => ?_)
  exact J5 ((114 - (0 : Int32).toInt).toNat + 1) (0 : Nat) ls2244 s.heap [] ((-1)) (0) (lv_sub hl2245 [2, 3, 4, 1, 0] rfl) hT hS (by decide) (by decide) ewq etq hb_nb hg_WD (by omega) (by omega) (by decide) (by show _ = ((0 : Nat) : Int); omega)

set_option maxHeartbeats 4000000 in
set_option maxRecDepth 100000 in
theorem a_X10_reads (l : Launch) (K : KE) (G : Nat → Option Nat) (H : Heap) {a0 : Nat} {tq : Nat} (sp : Int32) (fr : Int32) (tk : Int32) (vl : Int32) (tp : Int32) (hT : TY K G H) (ga0 : G a0 = some 112) (gtq : G tq = some 126) (etq : tq = fR H a0 (K.1.2 10 17)) (esp : sp = fI H a0 (K.1.2 10 19)) (efr : fr = fI H a0 (K.1.2 10 20)) (etk : tk = fI H a0 (K.1.2 10 21)) (evl : vl = fI H a0 (K.1.2 10 22)) (etp : tp = fI H a0 (K.1.2 10 18)) (hg_CG : CG (avw K H a0)) (hg_TU : TU (avw K H a0) (svw K H a0)) (hg_WD : WD (avw K H a0)) (hg_IM : IM (avw K H a0)) (hp0 : sp.toInt ≤ tp.toInt) : MX l K yX10_reads cX10_reads 2 none 2 44 0 0 [.ref a0] H (AE G [112] H.size) (fun v H1 => ∃ (t0 : Int32) (t1 : Int32) (t2 : Int32) (t3 : Int32), v = none ∧ t0 = fI H1 a0 (K.1.2 10 19) ∧ t1 = fI H1 a0 (K.1.2 10 20) ∧ t2 = fI H1 a0 (K.1.2 10 21) ∧ t3 = fI H1 a0 (K.1.2 10 22) ∧ (sp.toInt ≤ t1.toInt ∧ t1.toInt ≤ t0.toInt ∧ t0.toInt ≤ tp.toInt ∧ (t2.toInt = 0 ∨ t1.toInt < t0.toInt) ∧ (t2.toInt ≠ 2 ∨ (0 ≤ t3.toInt ∧ t3.toInt ≤ 23)) ∧ 0 ≤ t2.toInt ∧ t2.toInt ≤ 4) ∧ tq = fR H1 a0 (K.1.2 10 17) ∧ (CG (avw K H1 a0)) ∧ (TU (avw K H1 a0) (svw K H1 a0)) ∧ (WD (avw K H1 a0)) ∧ (IM (avw K H1 a0)) ∧ MF K H H1 a0 [19, 20, 21, 22] ∧ TY K G H1) := by
  refine MX.of (by decide +kernel) (Nat.le_of_ble_eq_true rfl) ?_
  intro p e s m below meth c ls Q C hH hl hQ
  subst hH
  have C : CX p K s m _ meth c RX10 cX10_reads 2 none "reads" := C
  obtain ⟨hx, hb, hml, hown, hts, hKT, hr, hlocks, hnm⟩ := id C
  have hl : lv_has ls 2 [(0, .ref a0)] := hl
  have hS : va_S (AE G [112] s.heap.size) s.heap s.heap [] := va_S.rf
  have n_m1 : ((-1) : Int32).toInt = -1 := rfl
  have n_0 : (0 : Int32).toInt = 0 := rfl
  have n_1 : (1 : Int32).toInt = 1 := rfl
  have n_2 : (2 : Int32).toInt = 2 := rfl
  have n_3 : (3 : Int32).toInt = 3 := rfl
  have n_4 : (4 : Int32).toInt = 4 := rfl
  have n_6 : (6 : Int32).toInt = 6 := rfl
  have n_10 : (10 : Int32).toInt = 10 := rfl
  have n_32 : (32 : Int32).toInt = 32 := rfl
  have n_48 : (48 : Int32).toInt = 48 := rfl
  have n_100000 : (100000 : Int32).toInt = 100000 := rfl
  have bsp := ty_fi (x := sp) (k := 19) esp hT ga0 rg_112 rfl
  have bfr := ty_fi (x := fr) (k := 20) efr hT ga0 rg_112 rfl
  have btk := ty_fi (x := tk) (k := 21) etk hT ga0 rg_112 rfl
  have bvl := ty_fi (x := vl) (k := 22) evl hT ga0 rg_112 rfl
  have btp := ty_fi (x := tp) (k := 18) etp hT ga0 rg_112 rfl
  have hap : ∀ x y, x < 74 → y < 74 → x ≠ y → K.1.2 10 x ≠ K.1.2 10 y := x_apart hKT hts inX10 tyX10 tyX10_ok nmX10 rfl
  have mf0 : MF K s.heap s.heap a0 [19, 20, 21, 22] := fun _ _ _ => rfl
  have f0_ta : ∀ j : Nat, fI s.heap tq j = fI s.heap tq j := fun _ => rfl
  have J0 : ∀ (nf : Nat) (ls2076 : Array Slot) (H2075 : Heap) (locsH2075 : List Loc) (x2078 : Int32) (x2079 : Int32) (x2080 : Int32) (x2081 : Int32), lv_has ls2076 2 [(0, .ref a0)] → TY K G H2075 → va_S (AE G [112] s.heap.size) s.heap H2075 locsH2075 → (0 ≤ x2078.toInt ∧ x2078.toInt ≤ 500) → (0 ≤ x2079.toInt ∧ x2079.toInt ≤ 500) → (x2078 = fI H2075 a0 (K.1.2 10 19)) → (x2079 = fI H2075 a0 (K.1.2 10 20)) → (x2080 = fI H2075 a0 (K.1.2 10 21)) → (x2081 = fI H2075 a0 (K.1.2 10 22)) → (tq = fR H2075 a0 (K.1.2 10 17)) → (tp = fI H2075 a0 (K.1.2 10 18)) → (MF K s.heap H2075 a0 [19, 20, 21, 22]) → (CG (avw K H2075 a0)) → (TU (avw K H2075 a0) (svw K H2075 a0)) → (WD (avw K H2075 a0)) → (IM (avw K H2075 a0)) → (∀ j : Nat, fI H2075 tq j = fI s.heap tq j) → (500 - x2078.toInt < (nf : Int)) → (sp.toInt ≤ x2078.toInt ∧ x2078.toInt ≤ tp.toInt) → W p l e ({ frames := 2, cells := 0, slots := 0, locals := 44 } : Room) s m (([.ref a0] : List Value).toArray) below meth c H2075 locsH2075 0 0 Q (F0 m 0 ls2076 []) := by
    intro nf
    induction nf with
    | zero =>
      intro ls2076 H2075 locsH2075 x2078 x2079 x2080 x2081 hl2077 hTH2075 hSH2075 bx2078 bx2079 ex2078 ex2079 ex2080 ex2081 cy2082_0 cy2082_1 mfy2082 gy2082_CG gy2082_TU gy2082_WD gy2082_IM fy2082_ta hm0 iv0
      have rx2080 := i_rng x2080
      have rx2081 := i_rng x2081
      exfalso
      omega
    | succ nf ih0 =>
      intro ls2076 H2075 locsH2075 x2078 x2079 x2080 x2081 hl2077 hTH2075 hSH2075 bx2078 bx2079 ex2078 ex2079 ex2080 ex2081 cy2082_0 cy2082_1 mfy2082 gy2082_CG gy2082_TU gy2082_WD gy2082_IM fy2082_ta hm0 iv0
      have rx2080 := i_rng x2080
      have rx2081 := i_rng x2081
      have J26 : ∀ (ls2084 : Array Slot) (H2083 : Heap) (locsH2083 : List Loc) (x2086 : Int32) (x2087 : Int32) (x2088 : Int32) (x2089 : Int32), lv_has ls2084 2 [(0, .ref a0)] → TY K G H2083 → va_S (AE G [112] s.heap.size) s.heap H2083 locsH2083 → (0 ≤ x2086.toInt ∧ x2086.toInt ≤ 500) → (0 ≤ x2087.toInt ∧ x2087.toInt ≤ 500) → (x2086 = fI H2083 a0 (K.1.2 10 19)) → (x2087 = fI H2083 a0 (K.1.2 10 20)) → (x2088 = fI H2083 a0 (K.1.2 10 21)) → (x2089 = fI H2083 a0 (K.1.2 10 22)) → (tq = fR H2083 a0 (K.1.2 10 17)) → (tp = fI H2083 a0 (K.1.2 10 18)) → (MF K s.heap H2083 a0 [19, 20, 21, 22]) → (CG (avw K H2083 a0)) → (TU (avw K H2083 a0) (svw K H2083 a0)) → (WD (avw K H2083 a0)) → (IM (avw K H2083 a0)) → (∀ j : Nat, fI H2083 tq j = fI s.heap tq j) → (sp.toInt ≤ x2086.toInt ∧ x2086.toInt ≤ tp.toInt ∧ x2086.toInt < tp.toInt ∧ x2086.toInt = x2078.toInt) → W p l e ({ frames := 2, cells := 0, slots := 0, locals := 44 } : Room) s m (([.ref a0] : List Value).toArray) below meth c H2083 locsH2083 0 0 Q (F0 m 26 ls2084 []) := by
        intro ls2084 H2083 locsH2083 x2086 x2087 x2088 x2089 hl2085 hTH2083 hSH2083 bx2086 bx2087 ex2086 ex2087 ex2088 ex2089 cy2090_0 cy2090_1 mfy2090 gy2090_CG gy2090_TU gy2090_WD gy2090_IM fy2090_ta iv26
        refine lv_aload_n hx hb dX10_reads_26 rfl (lv_at hl2085 0 rfl) ?_
        refine lv_aload_n hx hb dX10_reads_27 rfl (lv_at hl2085 0 rfl) ?_
        refine x_gi C hTH2083 (ci := 10) (k := 19) rfl inX10 (by decide) wF_X10_192 ga0 rg_112 rfl dX10_reads_28 (fun x2091 ex2091 bx2091 => ?_)
        have ux2091 : x2086 = x2091 := (ex2086).trans ex2091.symm
        subst ux2091
        refine lv_iconst (v := 1) hx hb dX10_reads_31 (by decide) ?_
        refine lv_iadd hx hb dX10_reads_32 ?_
        refine lv_topi (fun x2092 ex2092 => ?_)
        have tx2092 := i_add ex2092 (by omega)
        have fz2094 : 0 ≤ x2092.toInt ∧ x2092.toInt ≤ 500 := by have := i_rng x2092; omega
        refine x_put C hTH2083 hSH2083 (ci := 10) (k := 19) (v := .int x2092) (ty0 := tyX10) rfl inX10 tyX10_ok nmX10 (by decide) rfl wF_X10_192 ga0 rg_112 rfl rfl (okI (by have := i_rng x2092; omega) (by have := i_rng x2092; omega)) rfl rfl (AE_in ga0 (by decide)) dX10_reads_33 (fun H2093 locsH2093 hTH2093 hSH2093 wH2093 => ?_)
        have mf2095 : MF K s.heap H2093 a0 [19, 20, 21, 22] := MF.fld hap wH2093 (by decide) (by decide) mfy2090
        have g2096 : CG (avw K H2093 a0) := CG.congr (fun k hk j => av_fld hTH2083 ga0 hap wH2093 (by decide) (CG_ok 112 (by decide) k hk) (CG_ne 19 (by decide) k hk)) gy2090_CG
        have g2097 : TU (avw K H2093 a0) (svw K H2093 a0) := TU.congr (fun k hk j => av_fld hTH2083 ga0 hap wH2093 (by decide) (TU_ok 112 (by decide) k hk) (TU_ne 19 (by decide) k hk)) (fun k hk => sv_fld hap wH2093 (by decide) (TU_slt k hk) (TU_sne 19 (by decide) k hk)) gy2090_TU
        have g2098 : WD (avw K H2093 a0) := WD.congr (fun k hk j => av_fld hTH2083 ga0 hap wH2093 (by decide) (WD_ok 112 (by decide) k hk) (WD_ne 19 (by decide) k hk)) gy2090_WD
        have g2099 : IM (avw K H2093 a0) := IM.congr (fun k hk j => av_fld hTH2083 ga0 hap wH2093 (by decide) (IM_ok 112 (by decide) k hk) (IM_ne 19 (by decide) k hk)) gy2090_IM
        have f2100 : ∀ j : Nat, fI H2093 tq j = fI s.heap tq j := fun j => (Wr.neI wH2093 (Or.inl (G_ne gtq ga0 (by decide)))).trans (fy2090_ta j)
        have m2102 := ex2087.trans (Wr.neI wH2093 (Or.inr (x_apart hKT hts inX10 tyX10 tyX10_ok nmX10 rfl 20 19 (by decide) (by decide) (by decide)))).symm
        have m2103 := ex2088.trans (Wr.neI wH2093 (Or.inr (x_apart hKT hts inX10 tyX10 tyX10_ok nmX10 rfl 21 19 (by decide) (by decide) (by decide)))).symm
        have m2104 := ex2089.trans (Wr.neI wH2093 (Or.inr (x_apart hKT hts inX10 tyX10 tyX10_ok nmX10 rfl 22 19 (by decide) (by decide) (by decide)))).symm
        have m2105 := cy2090_0.trans (Wr.neR wH2093 (Or.inr (x_apart hKT hts inX10 tyX10 tyX10_ok nmX10 rfl 17 19 (by decide) (by decide) (by decide)))).symm
        have m2106 := cy2090_1.trans (Wr.neI wH2093 (Or.inr (x_apart hKT hts inX10 tyX10 tyX10_ok nmX10 rfl 18 19 (by decide) (by decide) (by decide)))).symm
        have m2107 := Wr.I wH2093
        have m2107 := m2107.symm
        refine lv_goto (tgt := 0) hx hb dX10_reads_36 (by decide) ?_
        exact ih0 ls2084 H2093 locsH2093 (x2092) (x2087) (x2088) (x2089) (lv_sub hl2085 [0] rfl) hTH2093 hSH2093 (by have := i_rng x2092; omega) (by have := i_rng x2087; omega) m2107 m2102 m2103 m2104 m2105 m2106 mf2095 g2096 g2097 g2098 g2099 f2100 (by omega) (by omega)
      have J273 : ∀ (ls2109 : Array Slot) (H2108 : Heap) (locsH2108 : List Loc) (x2111 : Int32) (x2112 : Int32) (x2113 : Int32) (x2114 : Int32), lv_has ls2109 2 [] → TY K G H2108 → va_S (AE G [112] s.heap.size) s.heap H2108 locsH2108 → (1 ≤ x2111.toInt ∧ x2111.toInt ≤ 500) → (0 ≤ x2112.toInt ∧ x2112.toInt ≤ 500) → (1 ≤ x2113.toInt ∧ x2113.toInt ≤ 4) → (x2111 = fI H2108 a0 (K.1.2 10 19)) → (x2112 = fI H2108 a0 (K.1.2 10 20)) → (x2113 = fI H2108 a0 (K.1.2 10 21)) → (x2114 = fI H2108 a0 (K.1.2 10 22)) → (tq = fR H2108 a0 (K.1.2 10 17)) → (tp = fI H2108 a0 (K.1.2 10 18)) → (MF K s.heap H2108 a0 [19, 20, 21, 22]) → (CG (avw K H2108 a0)) → (TU (avw K H2108 a0) (svw K H2108 a0)) → (WD (avw K H2108 a0)) → (IM (avw K H2108 a0)) → (∀ j : Nat, fI H2108 tq j = fI s.heap tq j) → (sp.toInt ≤ x2112.toInt ∧ x2112.toInt < x2111.toInt ∧ x2111.toInt ≤ tp.toInt ∧ 1 ≤ x2113.toInt ∧ x2113.toInt ≤ 4 ∧ (x2113.toInt ≠ 2 ∨ (0 ≤ x2114.toInt ∧ x2114.toInt ≤ 23))) → W p l e ({ frames := 2, cells := 0, slots := 0, locals := 44 } : Room) s m (([.ref a0] : List Value).toArray) below meth c H2108 locsH2108 0 0 Q (F0 m 273 ls2109 []) := by
        intro ls2109 H2108 locsH2108 x2111 x2112 x2113 x2114 hl2110 hTH2108 hSH2108 bx2111 bx2112 bx2113 ex2111 ex2112 ex2113 ex2114 cy2115_0 cy2115_1 mfy2115 gy2115_CG gy2115_TU gy2115_WD gy2115_IM fy2115_ta iv273
        exact x_vret C hQ dX10_reads_273 hSH2108 (by decide) (by decide) (⟨x2111, x2112, x2113, x2114, rfl, ex2111, ex2112, ex2113, ex2114, by omega, cy2115_0, gy2115_CG, gy2115_TU, gy2115_WD, gy2115_IM, mfy2115, hTH2108⟩)
      have J171 : ∀ (nf : Nat) (ls2117 : Array Slot) (H2116 : Heap) (locsH2116 : List Loc) (x2119 : Int32) (x2120 : Int32) (x2121 : Int32) (x2122 : Int32), lv_has ls2117 2 [(0, .ref a0)] → TY K G H2116 → va_S (AE G [112] s.heap.size) s.heap H2116 locsH2116 → (1 ≤ x2119.toInt ∧ x2119.toInt ≤ 500) → (0 ≤ x2120.toInt ∧ x2120.toInt ≤ 500) → (1 ≤ x2121.toInt ∧ x2121.toInt ≤ 1) → (x2119 = fI H2116 a0 (K.1.2 10 19)) → (x2120 = fI H2116 a0 (K.1.2 10 20)) → (x2121 = fI H2116 a0 (K.1.2 10 21)) → (x2122 = fI H2116 a0 (K.1.2 10 22)) → (tq = fR H2116 a0 (K.1.2 10 17)) → (tp = fI H2116 a0 (K.1.2 10 18)) → (MF K s.heap H2116 a0 [19, 20, 21, 22]) → (CG (avw K H2116 a0)) → (TU (avw K H2116 a0) (svw K H2116 a0)) → (WD (avw K H2116 a0)) → (IM (avw K H2116 a0)) → (∀ j : Nat, fI H2116 tq j = fI s.heap tq j) → (500 - x2119.toInt < (nf : Int)) → (sp.toInt ≤ x2120.toInt ∧ x2120.toInt < x2119.toInt ∧ x2119.toInt ≤ tp.toInt ∧ 1 ≤ x2121.toInt ∧ x2121.toInt ≤ 4) → W p l e ({ frames := 2, cells := 0, slots := 0, locals := 44 } : Room) s m (([.ref a0] : List Value).toArray) below meth c H2116 locsH2116 0 0 Q (F0 m 171 ls2117 []) := by
        intro nf
        induction nf with
        | zero =>
          intro ls2117 H2116 locsH2116 x2119 x2120 x2121 x2122 hl2118 hTH2116 hSH2116 bx2119 bx2120 bx2121 ex2119 ex2120 ex2121 ex2122 cy2123_0 cy2123_1 mfy2123 gy2123_CG gy2123_TU gy2123_WD gy2123_IM fy2123_ta hm171 iv171
          have rx2122 := i_rng x2122
          exfalso
          omega
        | succ nf ih171 =>
          intro ls2117 H2116 locsH2116 x2119 x2120 x2121 x2122 hl2118 hTH2116 hSH2116 bx2119 bx2120 bx2121 ex2119 ex2120 ex2121 ex2122 cy2123_0 cy2123_1 mfy2123 gy2123_CG gy2123_TU gy2123_WD gy2123_IM fy2123_ta hm171 iv171
          have rx2122 := i_rng x2122
          have J222 : ∀ (ls2125 : Array Slot) (H2124 : Heap) (locsH2124 : List Loc) (x2127 : Int32) (x2128 : Int32) (x2129 : Int32) (x2130 : Int32) (x2131 : Int32), lv_has ls2125 2 [(0, .ref a0)] → TY K G H2124 → va_S (AE G [112] s.heap.size) s.heap H2124 locsH2124 → (1 ≤ x2128.toInt ∧ x2128.toInt ≤ 500) → (0 ≤ x2129.toInt ∧ x2129.toInt ≤ 500) → (1 ≤ x2130.toInt ∧ x2130.toInt ≤ 1) → (x2128 = fI H2124 a0 (K.1.2 10 19)) → (x2129 = fI H2124 a0 (K.1.2 10 20)) → (x2130 = fI H2124 a0 (K.1.2 10 21)) → (x2131 = fI H2124 a0 (K.1.2 10 22)) → (tq = fR H2124 a0 (K.1.2 10 17)) → (tp = fI H2124 a0 (K.1.2 10 18)) → (MF K s.heap H2124 a0 [19, 20, 21, 22]) → (CG (avw K H2124 a0)) → (TU (avw K H2124 a0) (svw K H2124 a0)) → (WD (avw K H2124 a0)) → (IM (avw K H2124 a0)) → (∀ j : Nat, fI H2124 tq j = fI s.heap tq j) → (sp.toInt ≤ x2129.toInt ∧ x2129.toInt < x2128.toInt ∧ x2128.toInt ≤ tp.toInt ∧ 1 ≤ x2130.toInt ∧ x2130.toInt ≤ 4 ∧ x2128.toInt < tp.toInt ∧ x2128.toInt = x2119.toInt) → W p l e ({ frames := 2, cells := 0, slots := 0, locals := 44 } : Room) s m (([.ref a0] : List Value).toArray) below meth c H2124 locsH2124 0 0 Q (F0 m 222 ls2125 [.int x2127, .ref a0]) := by
            intro ls2125 H2124 locsH2124 x2127 x2128 x2129 x2130 x2131 hl2126 hTH2124 hSH2124 bx2128 bx2129 bx2130 ex2128 ex2129 ex2130 ex2131 cy2132_0 cy2132_1 mfy2132 gy2132_CG gy2132_TU gy2132_WD gy2132_IM fy2132_ta iv222
            refine x_put C hTH2124 hSH2124 (ci := 10) (k := 22) (v := .int x2127) (ty0 := tyX10) rfl inX10 tyX10_ok nmX10 (by decide) rfl wF_X10_205 ga0 rg_112 rfl rfl (okI (by have := i_rng x2127; omega) (by have := i_rng x2127; omega)) rfl rfl (AE_in ga0 (by decide)) dX10_reads_222 (fun H2133 locsH2133 hTH2133 hSH2133 wH2133 => ?_)
            have mf2134 : MF K s.heap H2133 a0 [19, 20, 21, 22] := MF.fld hap wH2133 (by decide) (by decide) mfy2132
            have g2135 : CG (avw K H2133 a0) := CG.congr (fun k hk j => av_fld hTH2124 ga0 hap wH2133 (by decide) (CG_ok 112 (by decide) k hk) (CG_ne 22 (by decide) k hk)) gy2132_CG
            have g2136 : TU (avw K H2133 a0) (svw K H2133 a0) := TU.congr (fun k hk j => av_fld hTH2124 ga0 hap wH2133 (by decide) (TU_ok 112 (by decide) k hk) (TU_ne 22 (by decide) k hk)) (fun k hk => sv_fld hap wH2133 (by decide) (TU_slt k hk) (TU_sne 22 (by decide) k hk)) gy2132_TU
            have g2137 : WD (avw K H2133 a0) := WD.congr (fun k hk j => av_fld hTH2124 ga0 hap wH2133 (by decide) (WD_ok 112 (by decide) k hk) (WD_ne 22 (by decide) k hk)) gy2132_WD
            have g2138 : IM (avw K H2133 a0) := IM.congr (fun k hk j => av_fld hTH2124 ga0 hap wH2133 (by decide) (IM_ok 112 (by decide) k hk) (IM_ne 22 (by decide) k hk)) gy2132_IM
            have f2139 : ∀ j : Nat, fI H2133 tq j = fI s.heap tq j := fun j => (Wr.neI wH2133 (Or.inl (G_ne gtq ga0 (by decide)))).trans (fy2132_ta j)
            have m2140 := ex2128.trans (Wr.neI wH2133 (Or.inr (x_apart hKT hts inX10 tyX10 tyX10_ok nmX10 rfl 19 22 (by decide) (by decide) (by decide)))).symm
            have m2141 := ex2129.trans (Wr.neI wH2133 (Or.inr (x_apart hKT hts inX10 tyX10 tyX10_ok nmX10 rfl 20 22 (by decide) (by decide) (by decide)))).symm
            have m2142 := ex2130.trans (Wr.neI wH2133 (Or.inr (x_apart hKT hts inX10 tyX10 tyX10_ok nmX10 rfl 21 22 (by decide) (by decide) (by decide)))).symm
            have m2144 := cy2132_0.trans (Wr.neR wH2133 (Or.inr (x_apart hKT hts inX10 tyX10 tyX10_ok nmX10 rfl 17 22 (by decide) (by decide) (by decide)))).symm
            have m2145 := cy2132_1.trans (Wr.neI wH2133 (Or.inr (x_apart hKT hts inX10 tyX10 tyX10_ok nmX10 rfl 18 22 (by decide) (by decide) (by decide)))).symm
            have m2146 := Wr.I wH2133
            have m2146 := m2146.symm
            refine lv_aload_n hx hb dX10_reads_225 rfl (lv_at hl2126 0 rfl) ?_
            refine lv_aload_n hx hb dX10_reads_226 rfl (lv_at hl2126 0 rfl) ?_
            refine x_gi C hTH2133 (ci := 10) (k := 19) rfl inX10 (by decide) wF_X10_192 ga0 rg_112 rfl dX10_reads_227 (fun x2147 ex2147 bx2147 => ?_)
            have ux2147 : x2128 = x2147 := (m2140).trans ex2147.symm
            subst ux2147
            refine lv_iconst (v := 1) hx hb dX10_reads_230 (by decide) ?_
            refine lv_iadd hx hb dX10_reads_231 ?_
            refine lv_topi (fun x2148 ex2148 => ?_)
            have tx2148 := i_add ex2148 (by omega)
            have fz2150 : 0 ≤ x2148.toInt ∧ x2148.toInt ≤ 500 := by have := i_rng x2148; omega
            refine x_put C hTH2133 hSH2133 (ci := 10) (k := 19) (v := .int x2148) (ty0 := tyX10) rfl inX10 tyX10_ok nmX10 (by decide) rfl wF_X10_192 ga0 rg_112 rfl rfl (okI (by have := i_rng x2148; omega) (by have := i_rng x2148; omega)) rfl rfl (AE_in ga0 (by decide)) dX10_reads_232 (fun H2149 locsH2149 hTH2149 hSH2149 wH2149 => ?_)
            have mf2151 : MF K s.heap H2149 a0 [19, 20, 21, 22] := MF.fld hap wH2149 (by decide) (by decide) mf2134
            have g2152 : CG (avw K H2149 a0) := CG.congr (fun k hk j => av_fld hTH2133 ga0 hap wH2149 (by decide) (CG_ok 112 (by decide) k hk) (CG_ne 19 (by decide) k hk)) g2135
            have g2153 : TU (avw K H2149 a0) (svw K H2149 a0) := TU.congr (fun k hk j => av_fld hTH2133 ga0 hap wH2149 (by decide) (TU_ok 112 (by decide) k hk) (TU_ne 19 (by decide) k hk)) (fun k hk => sv_fld hap wH2149 (by decide) (TU_slt k hk) (TU_sne 19 (by decide) k hk)) g2136
            have g2154 : WD (avw K H2149 a0) := WD.congr (fun k hk j => av_fld hTH2133 ga0 hap wH2149 (by decide) (WD_ok 112 (by decide) k hk) (WD_ne 19 (by decide) k hk)) g2137
            have g2155 : IM (avw K H2149 a0) := IM.congr (fun k hk j => av_fld hTH2133 ga0 hap wH2149 (by decide) (IM_ok 112 (by decide) k hk) (IM_ne 19 (by decide) k hk)) g2138
            have f2156 : ∀ j : Nat, fI H2149 tq j = fI s.heap tq j := fun j => (Wr.neI wH2149 (Or.inl (G_ne gtq ga0 (by decide)))).trans (f2139 j)
            have m2158 := m2141.trans (Wr.neI wH2149 (Or.inr (x_apart hKT hts inX10 tyX10 tyX10_ok nmX10 rfl 20 19 (by decide) (by decide) (by decide)))).symm
            have m2159 := m2142.trans (Wr.neI wH2149 (Or.inr (x_apart hKT hts inX10 tyX10 tyX10_ok nmX10 rfl 21 19 (by decide) (by decide) (by decide)))).symm
            have m2160 := m2144.trans (Wr.neR wH2149 (Or.inr (x_apart hKT hts inX10 tyX10 tyX10_ok nmX10 rfl 17 19 (by decide) (by decide) (by decide)))).symm
            have m2161 := m2145.trans (Wr.neI wH2149 (Or.inr (x_apart hKT hts inX10 tyX10 tyX10_ok nmX10 rfl 18 19 (by decide) (by decide) (by decide)))).symm
            have m2162 := m2146.trans (Wr.neI wH2149 (Or.inr (x_apart hKT hts inX10 tyX10 tyX10_ok nmX10 rfl 22 19 (by decide) (by decide) (by decide)))).symm
            have m2163 := Wr.I wH2149
            have m2163 := m2163.symm
            refine lv_goto (tgt := 171) hx hb dX10_reads_235 (by decide) ?_
            exact ih171 ls2125 H2149 locsH2149 (x2148) (x2129) (x2130) (x2127) (lv_sub hl2126 [0] rfl) hTH2149 hSH2149 (by have := i_rng x2148; omega) (by have := i_rng x2129; omega) (by have := i_rng x2130; omega) m2163 m2158 m2159 m2162 m2160 m2161 mf2151 g2152 g2153 g2154 g2155 f2156 (by omega) (by omega)
          refine lv_aload_n hx hb dX10_reads_171 rfl (lv_at hl2118 0 rfl) ?_
          refine lv_aload_n hx hb dX10_reads_172 rfl (lv_at hl2118 0 rfl) ?_
          refine lv_aload_n hx hb dX10_reads_173 rfl (lv_at hl2118 0 rfl) ?_
          refine x_gi C hTH2116 (ci := 10) (k := 19) rfl inX10 (by decide) wF_X10_192 ga0 rg_112 rfl dX10_reads_174 (fun x2164 ex2164 bx2164 => ?_)
          have ux2164 : x2119 = x2164 := (ex2119).trans ex2164.symm
          subst ux2164
          refine x_V (As := [.int x2119]) (rest := [.ref a0]) C (a_X10_raw l K G H2116 (x2119) (tp) hTH2116 ga0 (by omega) gtq cy2123_0 cy2123_1) yo_X10_raw wM_X10_195 ⟨⟨by decide, by decide⟩, by decide, by decide⟩ (x_rv C hTH2116 (ci := 10) rfl ga0 rg_112) rfl hl2118.1 rfl (Nat.le_of_ble_eq_true rfl) dX10_reads_177 hSH2116 (AE_sub (fun _ _ => rfl) (by decide) hSH2116.1) (fun vH2165 H2165 locsH2165 pH2165 zH2165 kH2165 hSH2165 => ?_)
          obtain ⟨x2166, hvH2165, hrH2165, m2167, hTH2165⟩ := pH2165
          subst hvH2165
          have mf2168 : MF K s.heap H2165 a0 [19, 20, 21, 22] := MF.eff (x_lt hTH2116 kH2165 ga0 (by decide)) mfy2123
          have g2169 : CG (avw K H2165 a0) := CG.congr (fun k hk j => av_eff hTH2116 kH2165 ga0 (by decide) (CG_eff [] (by decide) k hk)) gy2123_CG
          have g2170 : TU (avw K H2165 a0) (svw K H2165 a0) := TU.congr (fun k hk j => av_eff hTH2116 kH2165 ga0 (by decide) (TU_eff [] (by decide) k hk)) (fun k hk => sv_eff hTH2116 kH2165 ga0 (by decide)) gy2123_TU
          have g2171 : WD (avw K H2165 a0) := WD.congr (fun k hk j => av_eff hTH2116 kH2165 ga0 (by decide) (WD_eff [] (by decide) k hk)) gy2123_WD
          have g2172 : IM (avw K H2165 a0) := IM.congr (fun k hk j => av_eff hTH2116 kH2165 ga0 (by decide) (IM_eff [] (by decide) k hk)) gy2123_IM
          have f2173 : ∀ j : Nat, fI H2165 tq j = fI s.heap tq j := fun j => (fI_kept (x_lt hTH2116 kH2165 gtq (by decide))).trans (fy2123_ta j)
          have m2174 := (ex2119).trans (fI_kept (x_lt hTH2116 kH2165 ga0 (by decide))).symm
          have m2175 := (ex2120).trans (fI_kept (x_lt hTH2116 kH2165 ga0 (by decide))).symm
          have m2176 := (ex2121).trans (fI_kept (x_lt hTH2116 kH2165 ga0 (by decide))).symm
          have m2177 := (ex2122).trans (fI_kept (x_lt hTH2116 kH2165 ga0 (by decide))).symm
          have m2178 := (cy2123_0).trans (fR_kept (x_lt hTH2116 kH2165 ga0 (by decide))).symm
          have m2179 := (cy2123_1).trans (fI_kept (x_lt hTH2116 kH2165 ga0 (by decide))).symm
          refine W.eq (g2 := F0 m 180 ls2117 [.int x2166, .ref a0]) rfl ?_
          refine x_V (As := [.int x2166]) (rest := []) C (a_X10_isDigit l K G H2165 (x2166) hTH2165 ga0) yo_X10_isDigit wM_X10_215 ⟨⟨by decide, by decide⟩, by decide, by decide⟩ (x_rv C hTH2165 (ci := 10) rfl ga0 rg_112) rfl hl2118.1 rfl (Nat.le_of_ble_eq_true rfl) dX10_reads_180 hSH2165 (AE_sub (fun _ _ => rfl) (by decide) hSH2165.1) (fun vH2180 H2180 locsH2180 pH2180 zH2180 kH2180 hSH2180 => ?_)
          obtain ⟨x2181, hvH2180, bx2181, hrH2180, hTH2180⟩ := pH2180
          subst hvH2180
          have mf2182 : MF K s.heap H2180 a0 [19, 20, 21, 22] := MF.eff (x_lt hTH2165 kH2180 ga0 (by decide)) mf2168
          have g2183 : CG (avw K H2180 a0) := CG.congr (fun k hk j => av_eff hTH2165 kH2180 ga0 (by decide) (CG_eff [] (by decide) k hk)) g2169
          have g2184 : TU (avw K H2180 a0) (svw K H2180 a0) := TU.congr (fun k hk j => av_eff hTH2165 kH2180 ga0 (by decide) (TU_eff [] (by decide) k hk)) (fun k hk => sv_eff hTH2165 kH2180 ga0 (by decide)) g2170
          have g2185 : WD (avw K H2180 a0) := WD.congr (fun k hk j => av_eff hTH2165 kH2180 ga0 (by decide) (WD_eff [] (by decide) k hk)) g2171
          have g2186 : IM (avw K H2180 a0) := IM.congr (fun k hk j => av_eff hTH2165 kH2180 ga0 (by decide) (IM_eff [] (by decide) k hk)) g2172
          have f2187 : ∀ j : Nat, fI H2180 tq j = fI s.heap tq j := fun j => (fI_kept (x_lt hTH2165 kH2180 gtq (by decide))).trans (f2173 j)
          have m2188 := (m2174).trans (fI_kept (x_lt hTH2165 kH2180 ga0 (by decide))).symm
          have m2189 := (m2175).trans (fI_kept (x_lt hTH2165 kH2180 ga0 (by decide))).symm
          have m2190 := (m2176).trans (fI_kept (x_lt hTH2165 kH2180 ga0 (by decide))).symm
          have m2191 := (m2177).trans (fI_kept (x_lt hTH2165 kH2180 ga0 (by decide))).symm
          have m2192 := (m2178).trans (fR_kept (x_lt hTH2165 kH2180 ga0 (by decide))).symm
          have m2193 := (m2179).trans (fI_kept (x_lt hTH2165 kH2180 ga0 (by decide))).symm
          refine W.eq (g2 := F0 m 183 ls2117 [.int x2181]) rfl ?_
          refine lv_if_eq (tgt := 238) hx hb dX10_reads_183 (by decide) (fun c2194 => ?_) (fun c2194 => ?_)
          · have k2195 := i_eq c2194
            refine lv_aload_n hx hb dX10_reads_238 rfl (lv_at hl2118 0 rfl) ?_
            refine x_gi C hTH2180 (ci := 10) (k := 19) rfl inX10 (by decide) wF_X10_192 ga0 rg_112 rfl dX10_reads_239 (fun x2196 ex2196 bx2196 => ?_)
            have ux2196 : x2119 = x2196 := (m2188).trans ex2196.symm
            subst ux2196
            refine lv_aload_n hx hb dX10_reads_242 rfl (lv_at hl2118 0 rfl) ?_
            refine x_gi C hTH2180 (ci := 10) (k := 20) rfl inX10 (by decide) wF_X10_199 ga0 rg_112 rfl dX10_reads_243 (fun x2197 ex2197 bx2197 => ?_)
            have ux2197 : x2120 = x2197 := (m2189).trans ex2197.symm
            subst ux2197
            refine lv_isub hx hb dX10_reads_246 ?_
            refine lv_topi (fun x2198 ex2198 => ?_)
            have tx2198 := i_sub ex2198 (by omega)
            refine lv_bipush (v := 6) hx hb dX10_reads_247 (by decide) ?_
            refine lv_icmp_ge (tgt := 273) hx hb dX10_reads_249 (by decide) (fun c2199 => ?_) (fun c2199 => ?_)
            · have k2200 := i_le c2199
              exact J273 ls2117 H2180 locsH2180 (x2119) (x2120) (x2121) (x2122) (lv_sub hl2118 [] rfl) hTH2180 hSH2180 (by have := i_rng x2119; omega) (by have := i_rng x2120; omega) (by have := i_rng x2121; omega) m2188 m2189 m2190 m2191 m2192 m2193 mf2182 g2183 g2184 g2185 g2186 f2187 (by omega)
            · have k2200 := i_nle c2199
              refine lv_aload_n hx hb dX10_reads_252 rfl (lv_at hl2118 0 rfl) ?_
              refine lv_iconst (v := 3) hx hb dX10_reads_253 (by decide) ?_
              refine x_put C hTH2180 hSH2180 (ci := 10) (k := 21) (v := .int 3) (ty0 := tyX10) rfl inX10 tyX10_ok nmX10 (by decide) rfl wF_X10_202 ga0 rg_112 rfl rfl (okI (by have := i_rng (3 : Int32); omega) (by have := i_rng (3 : Int32); omega)) rfl rfl (AE_in ga0 (by decide)) dX10_reads_254 (fun H2201 locsH2201 hTH2201 hSH2201 wH2201 => ?_)
              have mf2202 : MF K s.heap H2201 a0 [19, 20, 21, 22] := MF.fld hap wH2201 (by decide) (by decide) mf2182
              have g2203 : CG (avw K H2201 a0) := CG.congr (fun k hk j => av_fld hTH2180 ga0 hap wH2201 (by decide) (CG_ok 112 (by decide) k hk) (CG_ne 21 (by decide) k hk)) g2183
              have g2204 : TU (avw K H2201 a0) (svw K H2201 a0) := TU.congr (fun k hk j => av_fld hTH2180 ga0 hap wH2201 (by decide) (TU_ok 112 (by decide) k hk) (TU_ne 21 (by decide) k hk)) (fun k hk => sv_fld hap wH2201 (by decide) (TU_slt k hk) (TU_sne 21 (by decide) k hk)) g2184
              have g2205 : WD (avw K H2201 a0) := WD.congr (fun k hk j => av_fld hTH2180 ga0 hap wH2201 (by decide) (WD_ok 112 (by decide) k hk) (WD_ne 21 (by decide) k hk)) g2185
              have g2206 : IM (avw K H2201 a0) := IM.congr (fun k hk j => av_fld hTH2180 ga0 hap wH2201 (by decide) (IM_ok 112 (by decide) k hk) (IM_ne 21 (by decide) k hk)) g2186
              have f2207 : ∀ j : Nat, fI H2201 tq j = fI s.heap tq j := fun j => (Wr.neI wH2201 (Or.inl (G_ne gtq ga0 (by decide)))).trans (f2187 j)
              have m2208 := m2188.trans (Wr.neI wH2201 (Or.inr (x_apart hKT hts inX10 tyX10 tyX10_ok nmX10 rfl 19 21 (by decide) (by decide) (by decide)))).symm
              have m2209 := m2189.trans (Wr.neI wH2201 (Or.inr (x_apart hKT hts inX10 tyX10 tyX10_ok nmX10 rfl 20 21 (by decide) (by decide) (by decide)))).symm
              have m2211 := m2191.trans (Wr.neI wH2201 (Or.inr (x_apart hKT hts inX10 tyX10 tyX10_ok nmX10 rfl 22 21 (by decide) (by decide) (by decide)))).symm
              have m2212 := m2192.trans (Wr.neR wH2201 (Or.inr (x_apart hKT hts inX10 tyX10 tyX10_ok nmX10 rfl 17 21 (by decide) (by decide) (by decide)))).symm
              have m2213 := m2193.trans (Wr.neI wH2201 (Or.inr (x_apart hKT hts inX10 tyX10 tyX10_ok nmX10 rfl 18 21 (by decide) (by decide) (by decide)))).symm
              have m2214 := Wr.I wH2201
              refine lv_goto (tgt := 273) hx hb dX10_reads_257 (by decide) ?_
              exact J273 ls2117 H2201 locsH2201 (x2119) (x2120) (3) (x2122) (lv_sub hl2118 [] rfl) hTH2201 hSH2201 (by have := i_rng x2119; omega) (by have := i_rng x2120; omega) (by decide) m2208 m2209 (m2214).symm m2211 m2212 m2213 mf2202 g2203 g2204 g2205 g2206 f2207 (by omega)
          · have k2195 := i_ne c2194
            refine lv_aload_n hx hb dX10_reads_186 rfl (lv_at hl2118 0 rfl) ?_
            refine lv_aload_n hx hb dX10_reads_187 rfl (lv_at hl2118 0 rfl) ?_
            refine x_gi C hTH2180 (ci := 10) (k := 22) rfl inX10 (by decide) wF_X10_205 ga0 rg_112 rfl dX10_reads_188 (fun x2215 ex2215 bx2215 => ?_)
            have ux2215 : x2122 = x2215 := (m2191).trans ex2215.symm
            subst ux2215
            refine lv_ldc (v := 100000) hx hb hown (hts _ wK_X10_218) dX10_reads_191 ?_
            refine lv_icmp_ge (tgt := 218) hx hb dX10_reads_193 (by decide) (fun c2216 => ?_) (fun c2216 => ?_)
            · have k2217 := i_le c2216
              refine lv_aload_n hx hb dX10_reads_218 rfl (lv_at hl2118 0 rfl) ?_
              refine x_gi C hTH2180 (ci := 10) (k := 22) rfl inX10 (by decide) wF_X10_205 ga0 rg_112 rfl dX10_reads_219 (fun x2218 ex2218 bx2218 => ?_)
              have ux2218 : x2122 = x2218 := (m2191).trans ex2218.symm
              subst ux2218
              exact J222 ls2117 H2180 locsH2180 (x2122) (x2119) (x2120) (x2121) (x2122) (lv_sub hl2118 [0] rfl) hTH2180 hSH2180 (by have := i_rng x2119; omega) (by have := i_rng x2120; omega) (by have := i_rng x2121; omega) m2188 m2189 m2190 m2191 m2192 m2193 mf2182 g2183 g2184 g2185 g2186 f2187 (by omega)
            · have k2217 := i_nle c2216
              refine lv_bipush (v := 10) hx hb dX10_reads_196 (by decide) ?_
              refine lv_aload_n hx hb dX10_reads_198 rfl (lv_at hl2118 0 rfl) ?_
              refine x_gi C hTH2180 (ci := 10) (k := 22) rfl inX10 (by decide) wF_X10_205 ga0 rg_112 rfl dX10_reads_199 (fun x2219 ex2219 bx2219 => ?_)
              have ux2219 : x2122 = x2219 := (m2191).trans ex2219.symm
              subst ux2219
              refine lv_imul hx hb dX10_reads_202 ?_
              refine lv_topi (fun x2220 ex2220 => ?_)
              refine lv_aload_n hx hb dX10_reads_203 rfl (lv_at hl2118 0 rfl) ?_
              refine lv_aload_n hx hb dX10_reads_204 rfl (lv_at hl2118 0 rfl) ?_
              refine x_gi C hTH2180 (ci := 10) (k := 19) rfl inX10 (by decide) wF_X10_192 ga0 rg_112 rfl dX10_reads_205 (fun x2221 ex2221 bx2221 => ?_)
              have ux2221 : x2119 = x2221 := (m2188).trans ex2221.symm
              subst ux2221
              refine x_V (As := [.int x2119]) (rest := [.int x2220, .ref a0]) C (a_X10_raw l K G H2180 (x2119) (tp) hTH2180 ga0 (by omega) gtq m2192 m2193) yo_X10_raw wM_X10_195 ⟨⟨by decide, by decide⟩, by decide, by decide⟩ (x_rv C hTH2180 (ci := 10) rfl ga0 rg_112) rfl hl2118.1 rfl (Nat.le_of_ble_eq_true rfl) dX10_reads_208 hSH2180 (AE_sub (fun _ _ => rfl) (by decide) hSH2180.1) (fun vH2222 H2222 locsH2222 pH2222 zH2222 kH2222 hSH2222 => ?_)
              obtain ⟨x2223, hvH2222, hrH2222, m2224, hTH2222⟩ := pH2222
              subst hvH2222
              have mf2225 : MF K s.heap H2222 a0 [19, 20, 21, 22] := MF.eff (x_lt hTH2180 kH2222 ga0 (by decide)) mf2182
              have g2226 : CG (avw K H2222 a0) := CG.congr (fun k hk j => av_eff hTH2180 kH2222 ga0 (by decide) (CG_eff [] (by decide) k hk)) g2183
              have g2227 : TU (avw K H2222 a0) (svw K H2222 a0) := TU.congr (fun k hk j => av_eff hTH2180 kH2222 ga0 (by decide) (TU_eff [] (by decide) k hk)) (fun k hk => sv_eff hTH2180 kH2222 ga0 (by decide)) g2184
              have g2228 : WD (avw K H2222 a0) := WD.congr (fun k hk j => av_eff hTH2180 kH2222 ga0 (by decide) (WD_eff [] (by decide) k hk)) g2185
              have g2229 : IM (avw K H2222 a0) := IM.congr (fun k hk j => av_eff hTH2180 kH2222 ga0 (by decide) (IM_eff [] (by decide) k hk)) g2186
              have f2230 : ∀ j : Nat, fI H2222 tq j = fI s.heap tq j := fun j => (fI_kept (x_lt hTH2180 kH2222 gtq (by decide))).trans (f2187 j)
              have m2231 := (m2188).trans (fI_kept (x_lt hTH2180 kH2222 ga0 (by decide))).symm
              have m2232 := (m2189).trans (fI_kept (x_lt hTH2180 kH2222 ga0 (by decide))).symm
              have m2233 := (m2190).trans (fI_kept (x_lt hTH2180 kH2222 ga0 (by decide))).symm
              have m2234 := (m2191).trans (fI_kept (x_lt hTH2180 kH2222 ga0 (by decide))).symm
              have m2235 := (m2192).trans (fR_kept (x_lt hTH2180 kH2222 ga0 (by decide))).symm
              have m2236 := (m2193).trans (fI_kept (x_lt hTH2180 kH2222 ga0 (by decide))).symm
              refine W.eq (g2 := F0 m 211 ls2117 [.int x2223, .int x2220, .ref a0]) rfl ?_
              refine lv_iadd hx hb dX10_reads_211 ?_
              refine lv_topi (fun x2237 ex2237 => ?_)
              refine lv_bipush (v := 48) hx hb dX10_reads_212 (by decide) ?_
              refine lv_isub hx hb dX10_reads_214 ?_
              refine lv_topi (fun x2238 ex2238 => ?_)
              refine lv_goto (tgt := 222) hx hb dX10_reads_215 (by decide) ?_
              exact J222 ls2117 H2222 locsH2222 (x2238) (x2119) (x2120) (x2121) (x2122) (lv_sub hl2118 [0] rfl) hTH2222 hSH2222 (by have := i_rng x2119; omega) (by have := i_rng x2120; omega) (by have := i_rng x2121; omega) m2231 m2232 m2233 m2234 m2235 m2236 mf2225 g2226 g2227 g2228 g2229 f2230 (by omega)
      have J95 : ∀ (nf : Nat)  (ls2240 : Array Slot) (H2239 : Heap) (locsH2239 : List Loc) (x2242 : Int32) (x2243 : Int32) (x2244 : Int32) (x2245 : Int32), lv_has ls2240 2 [(0, .ref a0)] → TY K G H2239 → va_S (AE G [112] s.heap.size) s.heap H2239 locsH2239 → (1 ≤ x2242.toInt ∧ x2242.toInt ≤ 500) → (0 ≤ x2243.toInt ∧ x2243.toInt ≤ 500) → (1 ≤ x2244.toInt ∧ x2244.toInt ≤ 1) → (65 ≤ x2245.toInt ∧ x2245.toInt ≤ 122) → (x2242 = fI H2239 a0 (K.1.2 10 19)) → (x2243 = fI H2239 a0 (K.1.2 10 20)) → (x2244 = fI H2239 a0 (K.1.2 10 21)) → (x2245 = fI H2239 a0 (K.1.2 10 22)) → (tq = fR H2239 a0 (K.1.2 10 17)) → (tp = fI H2239 a0 (K.1.2 10 18)) → (MF K s.heap H2239 a0 [19, 20, 21, 22]) → (CG (avw K H2239 a0)) → (TU (avw K H2239 a0) (svw K H2239 a0)) → (WD (avw K H2239 a0)) → (IM (avw K H2239 a0)) → (∀ j : Nat, fI H2239 tq j = fI s.heap tq j) → (500 - x2242.toInt < (nf : Int)) → (sp.toInt ≤ x2243.toInt ∧ x2243.toInt < x2242.toInt ∧ x2242.toInt ≤ tp.toInt ∧ 1 ≤ x2244.toInt ∧ x2244.toInt ≤ 4) → (NB s.heap tq x2243.toInt x2242.toInt) → W p l e ({ frames := 2, cells := 0, slots := 0, locals := 44 } : Room) s m (([.ref a0] : List Value).toArray) below meth c H2239 locsH2239 0 0 Q (F0 m 95 ls2240 []) := by
        intro nf
        induction nf with
        | zero =>
          intro  ls2240 H2239 locsH2239 x2242 x2243 x2244 x2245 hl2241 hTH2239 hSH2239 bx2242 bx2243 bx2244 bx2245 ex2242 ex2243 ex2244 ex2245 cy2246_0 cy2246_1 mfy2246 gy2246_CG gy2246_TU gy2246_WD gy2246_IM fy2246_ta hm95 iv95 hnb
          exfalso
          omega
        | succ nf ih95 =>
          intro  ls2240 H2239 locsH2239 x2242 x2243 x2244 x2245 hl2241 hTH2239 hSH2239 bx2242 bx2243 bx2244 bx2245 ex2242 ex2243 ex2244 ex2245 cy2246_0 cy2246_1 mfy2246 gy2246_CG gy2246_TU gy2246_WD gy2246_IM fy2246_ta hm95 iv95 hnb
          refine lv_aload_n hx hb dX10_reads_95 rfl (lv_at hl2241 0 rfl) ?_
          refine lv_aload_n hx hb dX10_reads_96 rfl (lv_at hl2241 0 rfl) ?_
          refine lv_aload_n hx hb dX10_reads_97 rfl (lv_at hl2241 0 rfl) ?_
          refine x_gi C hTH2239 (ci := 10) (k := 19) rfl inX10 (by decide) wF_X10_192 ga0 rg_112 rfl dX10_reads_98 (fun x2247 ex2247 bx2247 => ?_)
          have ux2247 : x2242 = x2247 := (ex2242).trans ex2247.symm
          subst ux2247
          refine x_V (As := [.int x2242]) (rest := [.ref a0]) C (a_X10_raw l K G H2239 (x2242) (tp) hTH2239 ga0 (by omega) gtq cy2246_0 cy2246_1) yo_X10_raw wM_X10_195 ⟨⟨by decide, by decide⟩, by decide, by decide⟩ (x_rv C hTH2239 (ci := 10) rfl ga0 rg_112) rfl hl2241.1 rfl (Nat.le_of_ble_eq_true rfl) dX10_reads_101 hSH2239 (AE_sub (fun _ _ => rfl) (by decide) hSH2239.1) (fun vH2248 H2248 locsH2248 pH2248 zH2248 kH2248 hSH2248 => ?_)
          obtain ⟨x2249, hvH2248, hrH2248, m2250, hTH2248⟩ := pH2248
          subst hvH2248
          have mf2251 : MF K s.heap H2248 a0 [19, 20, 21, 22] := MF.eff (x_lt hTH2239 kH2248 ga0 (by decide)) mfy2246
          have g2252 : CG (avw K H2248 a0) := CG.congr (fun k hk j => av_eff hTH2239 kH2248 ga0 (by decide) (CG_eff [] (by decide) k hk)) gy2246_CG
          have g2253 : TU (avw K H2248 a0) (svw K H2248 a0) := TU.congr (fun k hk j => av_eff hTH2239 kH2248 ga0 (by decide) (TU_eff [] (by decide) k hk)) (fun k hk => sv_eff hTH2239 kH2248 ga0 (by decide)) gy2246_TU
          have g2254 : WD (avw K H2248 a0) := WD.congr (fun k hk j => av_eff hTH2239 kH2248 ga0 (by decide) (WD_eff [] (by decide) k hk)) gy2246_WD
          have g2255 : IM (avw K H2248 a0) := IM.congr (fun k hk j => av_eff hTH2239 kH2248 ga0 (by decide) (IM_eff [] (by decide) k hk)) gy2246_IM
          have f2256 : ∀ j : Nat, fI H2248 tq j = fI s.heap tq j := fun j => (fI_kept (x_lt hTH2239 kH2248 gtq (by decide))).trans (fy2246_ta j)
          have m2257 := (ex2242).trans (fI_kept (x_lt hTH2239 kH2248 ga0 (by decide))).symm
          have m2258 := (ex2243).trans (fI_kept (x_lt hTH2239 kH2248 ga0 (by decide))).symm
          have m2259 := (ex2244).trans (fI_kept (x_lt hTH2239 kH2248 ga0 (by decide))).symm
          have m2260 := (ex2245).trans (fI_kept (x_lt hTH2239 kH2248 ga0 (by decide))).symm
          have m2261 := (cy2246_0).trans (fR_kept (x_lt hTH2239 kH2248 ga0 (by decide))).symm
          have m2262 := (cy2246_1).trans (fI_kept (x_lt hTH2239 kH2248 ga0 (by decide))).symm
          refine W.eq (g2 := F0 m 104 ls2240 [.int x2249, .ref a0]) rfl ?_
          refine x_V (As := [.int x2249]) (rest := []) C (a_X10_isLetter l K G H2248 (x2249) hTH2248 ga0) yo_X10_isLetter wM_X10_208 ⟨⟨by decide, by decide⟩, by decide, by decide⟩ (x_rv C hTH2248 (ci := 10) rfl ga0 rg_112) rfl hl2241.1 rfl (Nat.le_of_ble_eq_true rfl) dX10_reads_104 hSH2248 (AE_sub (fun _ _ => rfl) (by decide) hSH2248.1) (fun vH2263 H2263 locsH2263 pH2263 zH2263 kH2263 hSH2263 => ?_)
          obtain ⟨x2264, hvH2263, bx2264, hrH2263, hTH2263⟩ := pH2263
          subst hvH2263
          have mf2265 : MF K s.heap H2263 a0 [19, 20, 21, 22] := MF.eff (x_lt hTH2248 kH2263 ga0 (by decide)) mf2251
          have g2266 : CG (avw K H2263 a0) := CG.congr (fun k hk j => av_eff hTH2248 kH2263 ga0 (by decide) (CG_eff [] (by decide) k hk)) g2252
          have g2267 : TU (avw K H2263 a0) (svw K H2263 a0) := TU.congr (fun k hk j => av_eff hTH2248 kH2263 ga0 (by decide) (TU_eff [] (by decide) k hk)) (fun k hk => sv_eff hTH2248 kH2263 ga0 (by decide)) g2253
          have g2268 : WD (avw K H2263 a0) := WD.congr (fun k hk j => av_eff hTH2248 kH2263 ga0 (by decide) (WD_eff [] (by decide) k hk)) g2254
          have g2269 : IM (avw K H2263 a0) := IM.congr (fun k hk j => av_eff hTH2248 kH2263 ga0 (by decide) (IM_eff [] (by decide) k hk)) g2255
          have f2270 : ∀ j : Nat, fI H2263 tq j = fI s.heap tq j := fun j => (fI_kept (x_lt hTH2248 kH2263 gtq (by decide))).trans (f2256 j)
          have m2271 := (m2257).trans (fI_kept (x_lt hTH2248 kH2263 ga0 (by decide))).symm
          have m2272 := (m2258).trans (fI_kept (x_lt hTH2248 kH2263 ga0 (by decide))).symm
          have m2273 := (m2259).trans (fI_kept (x_lt hTH2248 kH2263 ga0 (by decide))).symm
          have m2274 := (m2260).trans (fI_kept (x_lt hTH2248 kH2263 ga0 (by decide))).symm
          have m2275 := (m2261).trans (fR_kept (x_lt hTH2248 kH2263 ga0 (by decide))).symm
          have m2276 := (m2262).trans (fI_kept (x_lt hTH2248 kH2263 ga0 (by decide))).symm
          refine W.eq (g2 := F0 m 107 ls2240 [.int x2264]) rfl ?_
          refine lv_if_eq (tgt := 123) hx hb dX10_reads_107 (by decide) (fun c2277 => ?_) (fun c2277 => ?_)
          · have k2278 := i_eq c2277
            have nbH : NB H2263 tq x2243.toInt x2242.toInt := NB.kept f2270 hnb
            refine lv_aload_n hx hb dX10_reads_123 rfl (lv_at hl2241 0 rfl) ?_
            refine lv_aload_n hx hb dX10_reads_124 rfl (lv_at hl2241 0 rfl) ?_
            refine lv_aload_n hx hb dX10_reads_125 rfl (lv_at hl2241 0 rfl) ?_
            refine x_gi C hTH2263 (ci := 10) (k := 20) rfl inX10 (by decide) wF_X10_199 ga0 rg_112 rfl dX10_reads_126 (fun x2279 ex2279 bx2279 => ?_)
            have ux2279 : x2243 = x2279 := (m2272).trans ex2279.symm
            subst ux2279
            refine lv_aload_n hx hb dX10_reads_129 rfl (lv_at hl2241 0 rfl) ?_
            refine x_gi C hTH2263 (ci := 10) (k := 19) rfl inX10 (by decide) wF_X10_192 ga0 rg_112 rfl dX10_reads_130 (fun x2280 ex2280 bx2280 => ?_)
            have ux2280 : x2242 = x2280 := (m2271).trans ex2280.symm
            subst ux2280
            obtain ⟨q2281, eq2281⟩ : ∃ z : Nat, z = fR H2263 a0 (K.1.2 10 23) := ⟨_, rfl⟩
            have gq2281 := ty_fr (q := q2281) (k := 23) (u := 127) eq2281 hTH2263 ga0 rg_112 rfl
            refine x_V (As := [.int x2243, .int x2242]) (rest := [.ref a0]) C (a_X10_wordAt l K G H2263 (x2243) (x2242) hTH2263 ga0 (by omega) (by omega) gq2281 eq2281 gtq m2275 g2268 nbH) yo_X10_wordAt wM_X10_211 ⟨⟨by decide, by decide⟩, by decide, by decide⟩ (x_rv C hTH2263 (ci := 10) rfl ga0 rg_112) rfl hl2241.1 rfl (Nat.le_of_ble_eq_true rfl) dX10_reads_133 hSH2263 (AE_sub (fun _ _ => rfl) (by decide) hSH2263.1) (fun vH2282 H2282 locsH2282 pH2282 zH2282 kH2282 hSH2282 => ?_)
            obtain ⟨x2283, hvH2282, bx2283, hTH2282⟩ := pH2282
            subst hvH2282
            have mf2284 : MF K s.heap H2282 a0 [19, 20, 21, 22] := MF.eff (x_lt hTH2263 kH2282 ga0 (by decide)) mf2265
            have b2285 : NB H2282 tq (x2243.toInt) (x2242.toInt) := NB.kept (fun j => fI_kept (x_lt hTH2263 kH2282 gtq (by decide))) nbH
            have g2286 : CG (avw K H2282 a0) := CG.congr (fun k hk j => av_eff hTH2263 kH2282 ga0 (by decide) (CG_eff [] (by decide) k hk)) g2266
            have g2287 : TU (avw K H2282 a0) (svw K H2282 a0) := TU.congr (fun k hk j => av_eff hTH2263 kH2282 ga0 (by decide) (TU_eff [] (by decide) k hk)) (fun k hk => sv_eff hTH2263 kH2282 ga0 (by decide)) g2267
            have g2288 : WD (avw K H2282 a0) := WD.congr (fun k hk j => av_eff hTH2263 kH2282 ga0 (by decide) (WD_eff [] (by decide) k hk)) g2268
            have g2289 : IM (avw K H2282 a0) := IM.congr (fun k hk j => av_eff hTH2263 kH2282 ga0 (by decide) (IM_eff [] (by decide) k hk)) g2269
            have f2290 : ∀ j : Nat, fI H2282 tq j = fI s.heap tq j := fun j => (fI_kept (x_lt hTH2263 kH2282 gtq (by decide))).trans (f2270 j)
            have m2291 := (m2271).trans (fI_kept (x_lt hTH2263 kH2282 ga0 (by decide))).symm
            have m2292 := (m2272).trans (fI_kept (x_lt hTH2263 kH2282 ga0 (by decide))).symm
            have m2293 := (m2273).trans (fI_kept (x_lt hTH2263 kH2282 ga0 (by decide))).symm
            have m2294 := (m2274).trans (fI_kept (x_lt hTH2263 kH2282 ga0 (by decide))).symm
            have m2295 := (m2275).trans (fR_kept (x_lt hTH2263 kH2282 ga0 (by decide))).symm
            have m2296 := (m2276).trans (fI_kept (x_lt hTH2263 kH2282 ga0 (by decide))).symm
            have m2297 := (eq2281).trans (fR_kept (x_lt hTH2263 kH2282 ga0 (by decide))).symm
            refine W.eq (g2 := F0 m 136 ls2240 [.int x2283, .ref a0]) rfl ?_
            refine x_put C hTH2282 hSH2282 (ci := 10) (k := 22) (v := .int x2283) (ty0 := tyX10) rfl inX10 tyX10_ok nmX10 (by decide) rfl wF_X10_205 ga0 rg_112 rfl rfl (okI (by have := i_rng x2283; omega) (by have := i_rng x2283; omega)) rfl rfl (AE_in ga0 (by decide)) dX10_reads_136 (fun H2298 locsH2298 hTH2298 hSH2298 wH2298 => ?_)
            have mf2299 : MF K s.heap H2298 a0 [19, 20, 21, 22] := MF.fld hap wH2298 (by decide) (by decide) mf2284
            have g2300 : CG (avw K H2298 a0) := CG.congr (fun k hk j => av_fld hTH2282 ga0 hap wH2298 (by decide) (CG_ok 112 (by decide) k hk) (CG_ne 22 (by decide) k hk)) g2286
            have g2301 : TU (avw K H2298 a0) (svw K H2298 a0) := TU.congr (fun k hk j => av_fld hTH2282 ga0 hap wH2298 (by decide) (TU_ok 112 (by decide) k hk) (TU_ne 22 (by decide) k hk)) (fun k hk => sv_fld hap wH2298 (by decide) (TU_slt k hk) (TU_sne 22 (by decide) k hk)) g2287
            have g2302 : WD (avw K H2298 a0) := WD.congr (fun k hk j => av_fld hTH2282 ga0 hap wH2298 (by decide) (WD_ok 112 (by decide) k hk) (WD_ne 22 (by decide) k hk)) g2288
            have g2303 : IM (avw K H2298 a0) := IM.congr (fun k hk j => av_fld hTH2282 ga0 hap wH2298 (by decide) (IM_ok 112 (by decide) k hk) (IM_ne 22 (by decide) k hk)) g2289
            have b2304 : NB H2298 tq (x2243.toInt) (x2242.toInt) := NB.kept (fun j => Wr.neI wH2298 (Or.inl (G_ne gtq ga0 (by decide)))) b2285
            have f2305 : ∀ j : Nat, fI H2298 tq j = fI s.heap tq j := fun j => (Wr.neI wH2298 (Or.inl (G_ne gtq ga0 (by decide)))).trans (f2290 j)
            have m2306 := m2291.trans (Wr.neI wH2298 (Or.inr (x_apart hKT hts inX10 tyX10 tyX10_ok nmX10 rfl 19 22 (by decide) (by decide) (by decide)))).symm
            have m2307 := m2292.trans (Wr.neI wH2298 (Or.inr (x_apart hKT hts inX10 tyX10 tyX10_ok nmX10 rfl 20 22 (by decide) (by decide) (by decide)))).symm
            have m2308 := m2293.trans (Wr.neI wH2298 (Or.inr (x_apart hKT hts inX10 tyX10 tyX10_ok nmX10 rfl 21 22 (by decide) (by decide) (by decide)))).symm
            have m2310 := m2295.trans (Wr.neR wH2298 (Or.inr (x_apart hKT hts inX10 tyX10 tyX10_ok nmX10 rfl 17 22 (by decide) (by decide) (by decide)))).symm
            have m2311 := m2296.trans (Wr.neI wH2298 (Or.inr (x_apart hKT hts inX10 tyX10 tyX10_ok nmX10 rfl 18 22 (by decide) (by decide) (by decide)))).symm
            have m2312 := m2297.trans (Wr.neR wH2298 (Or.inr (x_apart hKT hts inX10 tyX10 tyX10_ok nmX10 rfl 23 22 (by decide) (by decide) (by decide)))).symm
            have m2313 := Wr.I wH2298
            have m2313 := m2313.symm
            refine lv_aload_n hx hb dX10_reads_139 rfl (lv_at hl2241 0 rfl) ?_
            refine x_gi C hTH2298 (ci := 10) (k := 22) rfl inX10 (by decide) wF_X10_205 ga0 rg_112 rfl dX10_reads_140 (fun x2314 ex2314 bx2314 => ?_)
            have ux2314 : x2283 = x2314 := (m2313).trans ex2314.symm
            subst ux2314
            refine lv_iconst (v := (-1)) hx hb dX10_reads_143 (by decide) ?_
            refine lv_icmp_eq (tgt := 273) hx hb dX10_reads_144 (by decide) (fun c2315 => ?_) (fun c2315 => ?_)
            · have k2316 := i_eq c2315
              exact J273 ls2240 H2298 locsH2298 (x2242) (x2243) (x2244) (x2283) (lv_sub hl2241 [] rfl) hTH2298 hSH2298 (by have := i_rng x2242; omega) (by have := i_rng x2243; omega) (by have := i_rng x2244; omega) m2306 m2307 m2308 m2313 m2310 m2311 mf2299 g2300 g2301 g2302 g2303 f2305 (by omega)
            · have k2316 := i_ne c2315
              refine lv_aload_n hx hb dX10_reads_147 rfl (lv_at hl2241 0 rfl) ?_
              refine lv_iconst (v := 2) hx hb dX10_reads_148 (by decide) ?_
              refine x_put C hTH2298 hSH2298 (ci := 10) (k := 21) (v := .int 2) (ty0 := tyX10) rfl inX10 tyX10_ok nmX10 (by decide) rfl wF_X10_202 ga0 rg_112 rfl rfl (okI (by have := i_rng (2 : Int32); omega) (by have := i_rng (2 : Int32); omega)) rfl rfl (AE_in ga0 (by decide)) dX10_reads_149 (fun H2317 locsH2317 hTH2317 hSH2317 wH2317 => ?_)
              have mf2318 : MF K s.heap H2317 a0 [19, 20, 21, 22] := MF.fld hap wH2317 (by decide) (by decide) mf2299
              have g2319 : CG (avw K H2317 a0) := CG.congr (fun k hk j => av_fld hTH2298 ga0 hap wH2317 (by decide) (CG_ok 112 (by decide) k hk) (CG_ne 21 (by decide) k hk)) g2300
              have g2320 : TU (avw K H2317 a0) (svw K H2317 a0) := TU.congr (fun k hk j => av_fld hTH2298 ga0 hap wH2317 (by decide) (TU_ok 112 (by decide) k hk) (TU_ne 21 (by decide) k hk)) (fun k hk => sv_fld hap wH2317 (by decide) (TU_slt k hk) (TU_sne 21 (by decide) k hk)) g2301
              have g2321 : WD (avw K H2317 a0) := WD.congr (fun k hk j => av_fld hTH2298 ga0 hap wH2317 (by decide) (WD_ok 112 (by decide) k hk) (WD_ne 21 (by decide) k hk)) g2302
              have g2322 : IM (avw K H2317 a0) := IM.congr (fun k hk j => av_fld hTH2298 ga0 hap wH2317 (by decide) (IM_ok 112 (by decide) k hk) (IM_ne 21 (by decide) k hk)) g2303
              have b2323 : NB H2317 tq (x2243.toInt) (x2242.toInt) := NB.kept (fun j => Wr.neI wH2317 (Or.inl (G_ne gtq ga0 (by decide)))) b2304
              have f2324 : ∀ j : Nat, fI H2317 tq j = fI s.heap tq j := fun j => (Wr.neI wH2317 (Or.inl (G_ne gtq ga0 (by decide)))).trans (f2305 j)
              have m2325 := m2306.trans (Wr.neI wH2317 (Or.inr (x_apart hKT hts inX10 tyX10 tyX10_ok nmX10 rfl 19 21 (by decide) (by decide) (by decide)))).symm
              have m2326 := m2307.trans (Wr.neI wH2317 (Or.inr (x_apart hKT hts inX10 tyX10 tyX10_ok nmX10 rfl 20 21 (by decide) (by decide) (by decide)))).symm
              have m2328 := m2310.trans (Wr.neR wH2317 (Or.inr (x_apart hKT hts inX10 tyX10 tyX10_ok nmX10 rfl 17 21 (by decide) (by decide) (by decide)))).symm
              have m2329 := m2311.trans (Wr.neI wH2317 (Or.inr (x_apart hKT hts inX10 tyX10 tyX10_ok nmX10 rfl 18 21 (by decide) (by decide) (by decide)))).symm
              have m2330 := m2312.trans (Wr.neR wH2317 (Or.inr (x_apart hKT hts inX10 tyX10 tyX10_ok nmX10 rfl 23 21 (by decide) (by decide) (by decide)))).symm
              have m2331 := m2313.trans (Wr.neI wH2317 (Or.inr (x_apart hKT hts inX10 tyX10 tyX10_ok nmX10 rfl 22 21 (by decide) (by decide) (by decide)))).symm
              have m2332 := Wr.I wH2317
              refine lv_goto (tgt := 273) hx hb dX10_reads_152 (by decide) ?_
              exact J273 ls2240 H2317 locsH2317 (x2242) (x2243) (2) (x2283) (lv_sub hl2241 [] rfl) hTH2317 hSH2317 (by have := i_rng x2242; omega) (by have := i_rng x2243; omega) (by decide) m2325 m2326 (m2332).symm m2331 m2328 m2329 mf2318 g2319 g2320 g2321 g2322 f2324 (by omega)
          · have k2278 := i_ne c2277
            have hc2 : x2249 = fI s.heap tq x2242.toNatClampNeg := by
              rcases m2250 with h | h
              · exfalso; omega
              · rw [h]; exact f2256 _
            refine lv_aload_n hx hb dX10_reads_110 rfl (lv_at hl2241 0 rfl) ?_
            refine lv_aload_n hx hb dX10_reads_111 rfl (lv_at hl2241 0 rfl) ?_
            refine x_gi C hTH2263 (ci := 10) (k := 19) rfl inX10 (by decide) wF_X10_192 ga0 rg_112 rfl dX10_reads_112 (fun x2333 ex2333 bx2333 => ?_)
            have ux2333 : x2242 = x2333 := (m2271).trans ex2333.symm
            subst ux2333
            refine lv_iconst (v := 1) hx hb dX10_reads_115 (by decide) ?_
            refine lv_iadd hx hb dX10_reads_116 ?_
            refine lv_topi (fun x2334 ex2334 => ?_)
            have tx2334 := i_add ex2334 (by omega)
            have fz2336 : 0 ≤ x2334.toInt ∧ x2334.toInt ≤ 500 := by have := i_rng x2334; omega
            refine x_put C hTH2263 hSH2263 (ci := 10) (k := 19) (v := .int x2334) (ty0 := tyX10) rfl inX10 tyX10_ok nmX10 (by decide) rfl wF_X10_192 ga0 rg_112 rfl rfl (okI (by have := i_rng x2334; omega) (by have := i_rng x2334; omega)) rfl rfl (AE_in ga0 (by decide)) dX10_reads_117 (fun H2335 locsH2335 hTH2335 hSH2335 wH2335 => ?_)
            have mf2337 : MF K s.heap H2335 a0 [19, 20, 21, 22] := MF.fld hap wH2335 (by decide) (by decide) mf2265
            have g2338 : CG (avw K H2335 a0) := CG.congr (fun k hk j => av_fld hTH2263 ga0 hap wH2335 (by decide) (CG_ok 112 (by decide) k hk) (CG_ne 19 (by decide) k hk)) g2266
            have g2339 : TU (avw K H2335 a0) (svw K H2335 a0) := TU.congr (fun k hk j => av_fld hTH2263 ga0 hap wH2335 (by decide) (TU_ok 112 (by decide) k hk) (TU_ne 19 (by decide) k hk)) (fun k hk => sv_fld hap wH2335 (by decide) (TU_slt k hk) (TU_sne 19 (by decide) k hk)) g2267
            have g2340 : WD (avw K H2335 a0) := WD.congr (fun k hk j => av_fld hTH2263 ga0 hap wH2335 (by decide) (WD_ok 112 (by decide) k hk) (WD_ne 19 (by decide) k hk)) g2268
            have g2341 : IM (avw K H2335 a0) := IM.congr (fun k hk j => av_fld hTH2263 ga0 hap wH2335 (by decide) (IM_ok 112 (by decide) k hk) (IM_ne 19 (by decide) k hk)) g2269
            have f2342 : ∀ j : Nat, fI H2335 tq j = fI s.heap tq j := fun j => (Wr.neI wH2335 (Or.inl (G_ne gtq ga0 (by decide)))).trans (f2270 j)
            have m2344 := m2272.trans (Wr.neI wH2335 (Or.inr (x_apart hKT hts inX10 tyX10 tyX10_ok nmX10 rfl 20 19 (by decide) (by decide) (by decide)))).symm
            have m2345 := m2273.trans (Wr.neI wH2335 (Or.inr (x_apart hKT hts inX10 tyX10 tyX10_ok nmX10 rfl 21 19 (by decide) (by decide) (by decide)))).symm
            have m2346 := m2274.trans (Wr.neI wH2335 (Or.inr (x_apart hKT hts inX10 tyX10 tyX10_ok nmX10 rfl 22 19 (by decide) (by decide) (by decide)))).symm
            have m2347 := m2275.trans (Wr.neR wH2335 (Or.inr (x_apart hKT hts inX10 tyX10 tyX10_ok nmX10 rfl 17 19 (by decide) (by decide) (by decide)))).symm
            have m2348 := m2276.trans (Wr.neI wH2335 (Or.inr (x_apart hKT hts inX10 tyX10 tyX10_ok nmX10 rfl 18 19 (by decide) (by decide) (by decide)))).symm
            have m2349 := Wr.I wH2335
            have m2349 := m2349.symm
            refine lv_goto (tgt := 95) hx hb dX10_reads_120 (by decide) ?_
            exact ih95  ls2240 H2335 locsH2335 (x2334) (x2243) (x2244) (x2245) (lv_sub hl2241 [0] rfl) hTH2335 hSH2335 (by have := i_rng x2334; omega) (by have := i_rng x2243; omega) (by have := i_rng x2244; omega) (by have := i_rng x2245; omega) m2349 m2344 m2345 m2346 m2347 m2348 mf2337 g2338 g2339 g2340 g2341 f2342 (by omega) (by omega) (NB.ext hnb hc2 (by omega) (by omega) (by omega))
      refine lv_aload_n hx hb dX10_reads_0 rfl (lv_at hl2077 0 rfl) ?_
      refine lv_aload_n hx hb dX10_reads_1 rfl (lv_at hl2077 0 rfl) ?_
      refine x_gi C hTH2075 (ci := 10) (k := 19) rfl inX10 (by decide) wF_X10_192 ga0 rg_112 rfl dX10_reads_2 (fun x2350 ex2350 bx2350 => ?_)
      have ux2350 : x2078 = x2350 := (ex2078).trans ex2350.symm
      subst ux2350
      refine x_V (As := [.int x2078]) (rest := []) C (a_X10_raw l K G H2075 (x2078) (tp) hTH2075 ga0 (by omega) gtq cy2082_0 cy2082_1) yo_X10_raw wM_X10_195 ⟨⟨by decide, by decide⟩, by decide, by decide⟩ (x_rv C hTH2075 (ci := 10) rfl ga0 rg_112) rfl hl2077.1 rfl (Nat.le_of_ble_eq_true rfl) dX10_reads_5 hSH2075 (AE_sub (fun _ _ => rfl) (by decide) hSH2075.1) (fun vH2351 H2351 locsH2351 pH2351 zH2351 kH2351 hSH2351 => ?_)
      obtain ⟨x2352, hvH2351, hrH2351, m2353, hTH2351⟩ := pH2351
      subst hvH2351
      have mf2354 : MF K s.heap H2351 a0 [19, 20, 21, 22] := MF.eff (x_lt hTH2075 kH2351 ga0 (by decide)) mfy2082
      have g2355 : CG (avw K H2351 a0) := CG.congr (fun k hk j => av_eff hTH2075 kH2351 ga0 (by decide) (CG_eff [] (by decide) k hk)) gy2082_CG
      have g2356 : TU (avw K H2351 a0) (svw K H2351 a0) := TU.congr (fun k hk j => av_eff hTH2075 kH2351 ga0 (by decide) (TU_eff [] (by decide) k hk)) (fun k hk => sv_eff hTH2075 kH2351 ga0 (by decide)) gy2082_TU
      have g2357 : WD (avw K H2351 a0) := WD.congr (fun k hk j => av_eff hTH2075 kH2351 ga0 (by decide) (WD_eff [] (by decide) k hk)) gy2082_WD
      have g2358 : IM (avw K H2351 a0) := IM.congr (fun k hk j => av_eff hTH2075 kH2351 ga0 (by decide) (IM_eff [] (by decide) k hk)) gy2082_IM
      have f2359 : ∀ j : Nat, fI H2351 tq j = fI s.heap tq j := fun j => (fI_kept (x_lt hTH2075 kH2351 gtq (by decide))).trans (fy2082_ta j)
      have m2360 := (ex2078).trans (fI_kept (x_lt hTH2075 kH2351 ga0 (by decide))).symm
      have m2361 := (ex2079).trans (fI_kept (x_lt hTH2075 kH2351 ga0 (by decide))).symm
      have m2362 := (ex2080).trans (fI_kept (x_lt hTH2075 kH2351 ga0 (by decide))).symm
      have m2363 := (ex2081).trans (fI_kept (x_lt hTH2075 kH2351 ga0 (by decide))).symm
      have m2364 := (cy2082_0).trans (fR_kept (x_lt hTH2075 kH2351 ga0 (by decide))).symm
      have m2365 := (cy2082_1).trans (fI_kept (x_lt hTH2075 kH2351 ga0 (by decide))).symm
      refine W.eq (g2 := F0 m 8 ls2076 [.int x2352]) rfl ?_
      refine lv_bipush (v := 32) hx hb dX10_reads_8 (by decide) ?_
      refine lv_icmp_eq (tgt := 26) hx hb dX10_reads_10 (by decide) (fun c2366 => ?_) (fun c2366 => ?_)
      · have k2367 := i_eq c2366
        exact J26 ls2076 H2351 locsH2351 (x2078) (x2079) (x2080) (x2081) (lv_sub hl2077 [0] rfl) hTH2351 hSH2351 (by have := i_rng x2078; omega) (by have := i_rng x2079; omega) m2360 m2361 m2362 m2363 m2364 m2365 mf2354 g2355 g2356 g2357 g2358 f2359 (by omega)
      · have k2367 := i_ne c2366
        refine lv_aload_n hx hb dX10_reads_13 rfl (lv_at hl2077 0 rfl) ?_
        refine lv_aload_n hx hb dX10_reads_14 rfl (lv_at hl2077 0 rfl) ?_
        refine x_gi C hTH2351 (ci := 10) (k := 19) rfl inX10 (by decide) wF_X10_192 ga0 rg_112 rfl dX10_reads_15 (fun x2368 ex2368 bx2368 => ?_)
        have ux2368 : x2078 = x2368 := (m2360).trans ex2368.symm
        subst ux2368
        refine x_V (As := [.int x2078]) (rest := []) C (a_X10_raw l K G H2351 (x2078) (tp) hTH2351 ga0 (by omega) gtq m2364 m2365) yo_X10_raw wM_X10_195 ⟨⟨by decide, by decide⟩, by decide, by decide⟩ (x_rv C hTH2351 (ci := 10) rfl ga0 rg_112) rfl hl2077.1 rfl (Nat.le_of_ble_eq_true rfl) dX10_reads_18 hSH2351 (AE_sub (fun _ _ => rfl) (by decide) hSH2351.1) (fun vH2369 H2369 locsH2369 pH2369 zH2369 kH2369 hSH2369 => ?_)
        obtain ⟨x2370, hvH2369, hrH2369, m2371, hTH2369⟩ := pH2369
        subst hvH2369
        have mf2372 : MF K s.heap H2369 a0 [19, 20, 21, 22] := MF.eff (x_lt hTH2351 kH2369 ga0 (by decide)) mf2354
        have g2373 : CG (avw K H2369 a0) := CG.congr (fun k hk j => av_eff hTH2351 kH2369 ga0 (by decide) (CG_eff [] (by decide) k hk)) g2355
        have g2374 : TU (avw K H2369 a0) (svw K H2369 a0) := TU.congr (fun k hk j => av_eff hTH2351 kH2369 ga0 (by decide) (TU_eff [] (by decide) k hk)) (fun k hk => sv_eff hTH2351 kH2369 ga0 (by decide)) g2356
        have g2375 : WD (avw K H2369 a0) := WD.congr (fun k hk j => av_eff hTH2351 kH2369 ga0 (by decide) (WD_eff [] (by decide) k hk)) g2357
        have g2376 : IM (avw K H2369 a0) := IM.congr (fun k hk j => av_eff hTH2351 kH2369 ga0 (by decide) (IM_eff [] (by decide) k hk)) g2358
        have f2377 : ∀ j : Nat, fI H2369 tq j = fI s.heap tq j := fun j => (fI_kept (x_lt hTH2351 kH2369 gtq (by decide))).trans (f2359 j)
        have m2378 := (m2360).trans (fI_kept (x_lt hTH2351 kH2369 ga0 (by decide))).symm
        have m2379 := (m2361).trans (fI_kept (x_lt hTH2351 kH2369 ga0 (by decide))).symm
        have m2380 := (m2362).trans (fI_kept (x_lt hTH2351 kH2369 ga0 (by decide))).symm
        have m2381 := (m2363).trans (fI_kept (x_lt hTH2351 kH2369 ga0 (by decide))).symm
        have m2382 := (m2364).trans (fR_kept (x_lt hTH2351 kH2369 ga0 (by decide))).symm
        have m2383 := (m2365).trans (fI_kept (x_lt hTH2351 kH2369 ga0 (by decide))).symm
        refine W.eq (g2 := F0 m 21 ls2076 [.int x2370]) rfl ?_
        refine lv_bipush (v := 10) hx hb dX10_reads_21 (by decide) ?_
        refine lv_icmp_ne (tgt := 39) hx hb dX10_reads_23 (by decide) (fun c2384 => ?_) (fun c2384 => ?_)
        · have k2385 := i_ne c2384
          refine lv_aload_n hx hb dX10_reads_39 rfl (lv_at hl2077 0 rfl) ?_
          refine lv_aload_n hx hb dX10_reads_40 rfl (lv_at hl2077 0 rfl) ?_
          refine x_gi C hTH2369 (ci := 10) (k := 19) rfl inX10 (by decide) wF_X10_192 ga0 rg_112 rfl dX10_reads_41 (fun x2386 ex2386 bx2386 => ?_)
          have ux2386 : x2078 = x2386 := (m2378).trans ex2386.symm
          subst ux2386
          refine x_put C hTH2369 hSH2369 (ci := 10) (k := 20) (v := .int x2078) (ty0 := tyX10) rfl inX10 tyX10_ok nmX10 (by decide) rfl wF_X10_199 ga0 rg_112 rfl rfl (okI (by have := i_rng x2078; omega) (by have := i_rng x2078; omega)) rfl rfl (AE_in ga0 (by decide)) dX10_reads_44 (fun H2387 locsH2387 hTH2387 hSH2387 wH2387 => ?_)
          have mf2388 : MF K s.heap H2387 a0 [19, 20, 21, 22] := MF.fld hap wH2387 (by decide) (by decide) mf2372
          have g2389 : CG (avw K H2387 a0) := CG.congr (fun k hk j => av_fld hTH2369 ga0 hap wH2387 (by decide) (CG_ok 112 (by decide) k hk) (CG_ne 20 (by decide) k hk)) g2373
          have g2390 : TU (avw K H2387 a0) (svw K H2387 a0) := TU.congr (fun k hk j => av_fld hTH2369 ga0 hap wH2387 (by decide) (TU_ok 112 (by decide) k hk) (TU_ne 20 (by decide) k hk)) (fun k hk => sv_fld hap wH2387 (by decide) (TU_slt k hk) (TU_sne 20 (by decide) k hk)) g2374
          have g2391 : WD (avw K H2387 a0) := WD.congr (fun k hk j => av_fld hTH2369 ga0 hap wH2387 (by decide) (WD_ok 112 (by decide) k hk) (WD_ne 20 (by decide) k hk)) g2375
          have g2392 : IM (avw K H2387 a0) := IM.congr (fun k hk j => av_fld hTH2369 ga0 hap wH2387 (by decide) (IM_ok 112 (by decide) k hk) (IM_ne 20 (by decide) k hk)) g2376
          have f2393 : ∀ j : Nat, fI H2387 tq j = fI s.heap tq j := fun j => (Wr.neI wH2387 (Or.inl (G_ne gtq ga0 (by decide)))).trans (f2377 j)
          have m2394 := m2378.trans (Wr.neI wH2387 (Or.inr (x_apart hKT hts inX10 tyX10 tyX10_ok nmX10 rfl 19 20 (by decide) (by decide) (by decide)))).symm
          have m2396 := m2380.trans (Wr.neI wH2387 (Or.inr (x_apart hKT hts inX10 tyX10 tyX10_ok nmX10 rfl 21 20 (by decide) (by decide) (by decide)))).symm
          have m2397 := m2381.trans (Wr.neI wH2387 (Or.inr (x_apart hKT hts inX10 tyX10 tyX10_ok nmX10 rfl 22 20 (by decide) (by decide) (by decide)))).symm
          have m2398 := m2382.trans (Wr.neR wH2387 (Or.inr (x_apart hKT hts inX10 tyX10 tyX10_ok nmX10 rfl 17 20 (by decide) (by decide) (by decide)))).symm
          have m2399 := m2383.trans (Wr.neI wH2387 (Or.inr (x_apart hKT hts inX10 tyX10 tyX10_ok nmX10 rfl 18 20 (by decide) (by decide) (by decide)))).symm
          have m2400 := Wr.I wH2387
          have m2400 := m2400.symm
          refine lv_aload_n hx hb dX10_reads_47 rfl (lv_at hl2077 0 rfl) ?_
          refine lv_iconst (v := 1) hx hb dX10_reads_48 (by decide) ?_
          refine x_put C hTH2387 hSH2387 (ci := 10) (k := 21) (v := .int 1) (ty0 := tyX10) rfl inX10 tyX10_ok nmX10 (by decide) rfl wF_X10_202 ga0 rg_112 rfl rfl (okI (by have := i_rng (1 : Int32); omega) (by have := i_rng (1 : Int32); omega)) rfl rfl (AE_in ga0 (by decide)) dX10_reads_49 (fun H2401 locsH2401 hTH2401 hSH2401 wH2401 => ?_)
          have mf2402 : MF K s.heap H2401 a0 [19, 20, 21, 22] := MF.fld hap wH2401 (by decide) (by decide) mf2388
          have g2403 : CG (avw K H2401 a0) := CG.congr (fun k hk j => av_fld hTH2387 ga0 hap wH2401 (by decide) (CG_ok 112 (by decide) k hk) (CG_ne 21 (by decide) k hk)) g2389
          have g2404 : TU (avw K H2401 a0) (svw K H2401 a0) := TU.congr (fun k hk j => av_fld hTH2387 ga0 hap wH2401 (by decide) (TU_ok 112 (by decide) k hk) (TU_ne 21 (by decide) k hk)) (fun k hk => sv_fld hap wH2401 (by decide) (TU_slt k hk) (TU_sne 21 (by decide) k hk)) g2390
          have g2405 : WD (avw K H2401 a0) := WD.congr (fun k hk j => av_fld hTH2387 ga0 hap wH2401 (by decide) (WD_ok 112 (by decide) k hk) (WD_ne 21 (by decide) k hk)) g2391
          have g2406 : IM (avw K H2401 a0) := IM.congr (fun k hk j => av_fld hTH2387 ga0 hap wH2401 (by decide) (IM_ok 112 (by decide) k hk) (IM_ne 21 (by decide) k hk)) g2392
          have f2407 : ∀ j : Nat, fI H2401 tq j = fI s.heap tq j := fun j => (Wr.neI wH2401 (Or.inl (G_ne gtq ga0 (by decide)))).trans (f2393 j)
          have m2408 := m2394.trans (Wr.neI wH2401 (Or.inr (x_apart hKT hts inX10 tyX10 tyX10_ok nmX10 rfl 19 21 (by decide) (by decide) (by decide)))).symm
          have m2410 := m2397.trans (Wr.neI wH2401 (Or.inr (x_apart hKT hts inX10 tyX10 tyX10_ok nmX10 rfl 22 21 (by decide) (by decide) (by decide)))).symm
          have m2411 := m2398.trans (Wr.neR wH2401 (Or.inr (x_apart hKT hts inX10 tyX10 tyX10_ok nmX10 rfl 17 21 (by decide) (by decide) (by decide)))).symm
          have m2412 := m2399.trans (Wr.neI wH2401 (Or.inr (x_apart hKT hts inX10 tyX10 tyX10_ok nmX10 rfl 18 21 (by decide) (by decide) (by decide)))).symm
          have m2413 := m2400.trans (Wr.neI wH2401 (Or.inr (x_apart hKT hts inX10 tyX10 tyX10_ok nmX10 rfl 20 21 (by decide) (by decide) (by decide)))).symm
          have m2414 := Wr.I wH2401
          refine lv_aload_n hx hb dX10_reads_52 rfl (lv_at hl2077 0 rfl) ?_
          refine lv_aload_n hx hb dX10_reads_53 rfl (lv_at hl2077 0 rfl) ?_
          refine x_gi C hTH2401 (ci := 10) (k := 19) rfl inX10 (by decide) wF_X10_192 ga0 rg_112 rfl dX10_reads_54 (fun x2415 ex2415 bx2415 => ?_)
          have ux2415 : x2078 = x2415 := (m2408).trans ex2415.symm
          subst ux2415
          refine x_V (As := [.int x2078]) (rest := []) C (a_X10_raw l K G H2401 (x2078) (tp) hTH2401 ga0 (by omega) gtq m2411 m2412) yo_X10_raw wM_X10_195 ⟨⟨by decide, by decide⟩, by decide, by decide⟩ (x_rv C hTH2401 (ci := 10) rfl ga0 rg_112) rfl hl2077.1 rfl (Nat.le_of_ble_eq_true rfl) dX10_reads_57 hSH2401 (AE_sub (fun _ _ => rfl) (by decide) hSH2401.1) (fun vH2416 H2416 locsH2416 pH2416 zH2416 kH2416 hSH2416 => ?_)
          obtain ⟨x2417, hvH2416, hrH2416, m2418, hTH2416⟩ := pH2416
          subst hvH2416
          have mf2419 : MF K s.heap H2416 a0 [19, 20, 21, 22] := MF.eff (x_lt hTH2401 kH2416 ga0 (by decide)) mf2402
          have g2420 : CG (avw K H2416 a0) := CG.congr (fun k hk j => av_eff hTH2401 kH2416 ga0 (by decide) (CG_eff [] (by decide) k hk)) g2403
          have g2421 : TU (avw K H2416 a0) (svw K H2416 a0) := TU.congr (fun k hk j => av_eff hTH2401 kH2416 ga0 (by decide) (TU_eff [] (by decide) k hk)) (fun k hk => sv_eff hTH2401 kH2416 ga0 (by decide)) g2404
          have g2422 : WD (avw K H2416 a0) := WD.congr (fun k hk j => av_eff hTH2401 kH2416 ga0 (by decide) (WD_eff [] (by decide) k hk)) g2405
          have g2423 : IM (avw K H2416 a0) := IM.congr (fun k hk j => av_eff hTH2401 kH2416 ga0 (by decide) (IM_eff [] (by decide) k hk)) g2406
          have f2424 : ∀ j : Nat, fI H2416 tq j = fI s.heap tq j := fun j => (fI_kept (x_lt hTH2401 kH2416 gtq (by decide))).trans (f2407 j)
          have m2425 := (m2408).trans (fI_kept (x_lt hTH2401 kH2416 ga0 (by decide))).symm
          have m2426 := (m2410).trans (fI_kept (x_lt hTH2401 kH2416 ga0 (by decide))).symm
          have m2427 := (m2411).trans (fR_kept (x_lt hTH2401 kH2416 ga0 (by decide))).symm
          have m2428 := (m2412).trans (fI_kept (x_lt hTH2401 kH2416 ga0 (by decide))).symm
          have m2429 := (m2413).trans (fI_kept (x_lt hTH2401 kH2416 ga0 (by decide))).symm
          have m2430 := (fI_kept (x_lt hTH2401 kH2416 ga0 (by decide))).trans m2414
          refine W.eq (g2 := F0 m 60 ls2076 [.int x2417]) rfl ?_
          refine lv_istore_n (lv' := [(1, .int x2417), (0, .ref a0)]) hx hb dX10_reads_60 rfl hl2077 (by decide) rfl (fun ls2431 hl2432 => ?_)
          refine lv_iload_n hx hb dX10_reads_61 rfl (lv_at hl2432 0 rfl) ?_
          refine lv_iconst (v := (-1)) hx hb dX10_reads_62 (by decide) ?_
          refine lv_icmp_ne (tgt := 72) hx hb dX10_reads_63 (by decide) (fun c2433 => ?_) (fun c2433 => ?_)
          · have k2434 := i_ne c2433
            have hc : x2417 = fI s.heap tq x2078.toNatClampNeg := by
              rcases m2418 with h | h
              · exfalso; omega
              · rw [h]; exact f2424 _
            refine lv_aload_n hx hb dX10_reads_72 rfl (lv_at hl2432 1 rfl) ?_
            refine lv_aload_n hx hb dX10_reads_73 rfl (lv_at hl2432 1 rfl) ?_
            refine x_gi C hTH2416 (ci := 10) (k := 19) rfl inX10 (by decide) wF_X10_192 ga0 rg_112 rfl dX10_reads_74 (fun x2435 ex2435 bx2435 => ?_)
            have ux2435 : x2078 = x2435 := (m2425).trans ex2435.symm
            subst ux2435
            refine lv_iconst (v := 1) hx hb dX10_reads_77 (by decide) ?_
            refine lv_iadd hx hb dX10_reads_78 ?_
            refine lv_topi (fun x2436 ex2436 => ?_)
            have tx2436 := i_add ex2436 (by omega)
            have fz2438 : 0 ≤ x2436.toInt ∧ x2436.toInt ≤ 500 := by have := i_rng x2436; omega
            refine x_put C hTH2416 hSH2416 (ci := 10) (k := 19) (v := .int x2436) (ty0 := tyX10) rfl inX10 tyX10_ok nmX10 (by decide) rfl wF_X10_192 ga0 rg_112 rfl rfl (okI (by have := i_rng x2436; omega) (by have := i_rng x2436; omega)) rfl rfl (AE_in ga0 (by decide)) dX10_reads_79 (fun H2437 locsH2437 hTH2437 hSH2437 wH2437 => ?_)
            have mf2439 : MF K s.heap H2437 a0 [19, 20, 21, 22] := MF.fld hap wH2437 (by decide) (by decide) mf2419
            have g2440 : CG (avw K H2437 a0) := CG.congr (fun k hk j => av_fld hTH2416 ga0 hap wH2437 (by decide) (CG_ok 112 (by decide) k hk) (CG_ne 19 (by decide) k hk)) g2420
            have g2441 : TU (avw K H2437 a0) (svw K H2437 a0) := TU.congr (fun k hk j => av_fld hTH2416 ga0 hap wH2437 (by decide) (TU_ok 112 (by decide) k hk) (TU_ne 19 (by decide) k hk)) (fun k hk => sv_fld hap wH2437 (by decide) (TU_slt k hk) (TU_sne 19 (by decide) k hk)) g2421
            have g2442 : WD (avw K H2437 a0) := WD.congr (fun k hk j => av_fld hTH2416 ga0 hap wH2437 (by decide) (WD_ok 112 (by decide) k hk) (WD_ne 19 (by decide) k hk)) g2422
            have g2443 : IM (avw K H2437 a0) := IM.congr (fun k hk j => av_fld hTH2416 ga0 hap wH2437 (by decide) (IM_ok 112 (by decide) k hk) (IM_ne 19 (by decide) k hk)) g2423
            have f2444 : ∀ j : Nat, fI H2437 tq j = fI s.heap tq j := fun j => (Wr.neI wH2437 (Or.inl (G_ne gtq ga0 (by decide)))).trans (f2424 j)
            have m2446 := m2426.trans (Wr.neI wH2437 (Or.inr (x_apart hKT hts inX10 tyX10 tyX10_ok nmX10 rfl 22 19 (by decide) (by decide) (by decide)))).symm
            have m2447 := m2427.trans (Wr.neR wH2437 (Or.inr (x_apart hKT hts inX10 tyX10 tyX10_ok nmX10 rfl 17 19 (by decide) (by decide) (by decide)))).symm
            have m2448 := m2428.trans (Wr.neI wH2437 (Or.inr (x_apart hKT hts inX10 tyX10 tyX10_ok nmX10 rfl 18 19 (by decide) (by decide) (by decide)))).symm
            have m2449 := m2429.trans (Wr.neI wH2437 (Or.inr (x_apart hKT hts inX10 tyX10 tyX10_ok nmX10 rfl 20 19 (by decide) (by decide) (by decide)))).symm
            have m2450 := (Wr.neI wH2437 (Or.inr (x_apart hKT hts inX10 tyX10 tyX10_ok nmX10 rfl 21 19 (by decide) (by decide) (by decide)))).trans m2430
            have m2451 := Wr.I wH2437
            have m2451 := m2451.symm
            refine lv_aload_n hx hb dX10_reads_82 rfl (lv_at hl2432 1 rfl) ?_
            refine lv_iload_n hx hb dX10_reads_83 rfl (lv_at hl2432 0 rfl) ?_
            refine x_put C hTH2437 hSH2437 (ci := 10) (k := 22) (v := .int x2417) (ty0 := tyX10) rfl inX10 tyX10_ok nmX10 (by decide) rfl wF_X10_205 ga0 rg_112 rfl rfl (okI (by have := i_rng x2417; omega) (by have := i_rng x2417; omega)) rfl rfl (AE_in ga0 (by decide)) dX10_reads_84 (fun H2452 locsH2452 hTH2452 hSH2452 wH2452 => ?_)
            have mf2453 : MF K s.heap H2452 a0 [19, 20, 21, 22] := MF.fld hap wH2452 (by decide) (by decide) mf2439
            have g2454 : CG (avw K H2452 a0) := CG.congr (fun k hk j => av_fld hTH2437 ga0 hap wH2452 (by decide) (CG_ok 112 (by decide) k hk) (CG_ne 22 (by decide) k hk)) g2440
            have g2455 : TU (avw K H2452 a0) (svw K H2452 a0) := TU.congr (fun k hk j => av_fld hTH2437 ga0 hap wH2452 (by decide) (TU_ok 112 (by decide) k hk) (TU_ne 22 (by decide) k hk)) (fun k hk => sv_fld hap wH2452 (by decide) (TU_slt k hk) (TU_sne 22 (by decide) k hk)) g2441
            have g2456 : WD (avw K H2452 a0) := WD.congr (fun k hk j => av_fld hTH2437 ga0 hap wH2452 (by decide) (WD_ok 112 (by decide) k hk) (WD_ne 22 (by decide) k hk)) g2442
            have g2457 : IM (avw K H2452 a0) := IM.congr (fun k hk j => av_fld hTH2437 ga0 hap wH2452 (by decide) (IM_ok 112 (by decide) k hk) (IM_ne 22 (by decide) k hk)) g2443
            have f2458 : ∀ j : Nat, fI H2452 tq j = fI s.heap tq j := fun j => (Wr.neI wH2452 (Or.inl (G_ne gtq ga0 (by decide)))).trans (f2444 j)
            have m2460 := m2447.trans (Wr.neR wH2452 (Or.inr (x_apart hKT hts inX10 tyX10 tyX10_ok nmX10 rfl 17 22 (by decide) (by decide) (by decide)))).symm
            have m2461 := m2448.trans (Wr.neI wH2452 (Or.inr (x_apart hKT hts inX10 tyX10 tyX10_ok nmX10 rfl 18 22 (by decide) (by decide) (by decide)))).symm
            have m2462 := m2449.trans (Wr.neI wH2452 (Or.inr (x_apart hKT hts inX10 tyX10 tyX10_ok nmX10 rfl 20 22 (by decide) (by decide) (by decide)))).symm
            have m2463 := (Wr.neI wH2452 (Or.inr (x_apart hKT hts inX10 tyX10 tyX10_ok nmX10 rfl 21 22 (by decide) (by decide) (by decide)))).trans m2450
            have m2464 := m2451.trans (Wr.neI wH2452 (Or.inr (x_apart hKT hts inX10 tyX10 tyX10_ok nmX10 rfl 19 22 (by decide) (by decide) (by decide)))).symm
            have m2465 := Wr.I wH2452
            have m2465 := m2465.symm
            refine lv_aload_n hx hb dX10_reads_87 rfl (lv_at hl2432 1 rfl) ?_
            refine lv_iload_n hx hb dX10_reads_88 rfl (lv_at hl2432 0 rfl) ?_
            refine x_V (As := [.int x2417]) (rest := []) C (a_X10_isLetter l K G H2452 (x2417) hTH2452 ga0) yo_X10_isLetter wM_X10_208 ⟨⟨by decide, by decide⟩, by decide, by decide⟩ (x_rv C hTH2452 (ci := 10) rfl ga0 rg_112) rfl hl2432.1 rfl (Nat.le_of_ble_eq_true rfl) dX10_reads_89 hSH2452 (AE_sub (fun _ _ => rfl) (by decide) hSH2452.1) (fun vH2466 H2466 locsH2466 pH2466 zH2466 kH2466 hSH2466 => ?_)
            obtain ⟨x2467, hvH2466, bx2467, hrH2466, hTH2466⟩ := pH2466
            subst hvH2466
            have mf2468 : MF K s.heap H2466 a0 [19, 20, 21, 22] := MF.eff (x_lt hTH2452 kH2466 ga0 (by decide)) mf2453
            have g2469 : CG (avw K H2466 a0) := CG.congr (fun k hk j => av_eff hTH2452 kH2466 ga0 (by decide) (CG_eff [] (by decide) k hk)) g2454
            have g2470 : TU (avw K H2466 a0) (svw K H2466 a0) := TU.congr (fun k hk j => av_eff hTH2452 kH2466 ga0 (by decide) (TU_eff [] (by decide) k hk)) (fun k hk => sv_eff hTH2452 kH2466 ga0 (by decide)) g2455
            have g2471 : WD (avw K H2466 a0) := WD.congr (fun k hk j => av_eff hTH2452 kH2466 ga0 (by decide) (WD_eff [] (by decide) k hk)) g2456
            have g2472 : IM (avw K H2466 a0) := IM.congr (fun k hk j => av_eff hTH2452 kH2466 ga0 (by decide) (IM_eff [] (by decide) k hk)) g2457
            have f2473 : ∀ j : Nat, fI H2466 tq j = fI s.heap tq j := fun j => (fI_kept (x_lt hTH2452 kH2466 gtq (by decide))).trans (f2458 j)
            have m2474 := (m2460).trans (fR_kept (x_lt hTH2452 kH2466 ga0 (by decide))).symm
            have m2475 := (m2461).trans (fI_kept (x_lt hTH2452 kH2466 ga0 (by decide))).symm
            have m2476 := (m2462).trans (fI_kept (x_lt hTH2452 kH2466 ga0 (by decide))).symm
            have m2477 := (fI_kept (x_lt hTH2452 kH2466 ga0 (by decide))).trans m2463
            have m2478 := (m2464).trans (fI_kept (x_lt hTH2452 kH2466 ga0 (by decide))).symm
            have m2479 := (m2465).trans (fI_kept (x_lt hTH2452 kH2466 ga0 (by decide))).symm
            refine W.eq (g2 := F0 m 92 ls2431 [.int x2467]) rfl ?_
            refine lv_if_eq (tgt := 155) hx hb dX10_reads_92 (by decide) (fun c2480 => ?_) (fun c2480 => ?_)
            · have k2481 := i_eq c2480
              refine lv_aload_n hx hb dX10_reads_155 rfl (lv_at hl2432 1 rfl) ?_
              refine lv_iload_n hx hb dX10_reads_156 rfl (lv_at hl2432 0 rfl) ?_
              refine x_V (As := [.int x2417]) (rest := []) C (a_X10_isDigit l K G H2466 (x2417) hTH2466 ga0) yo_X10_isDigit wM_X10_215 ⟨⟨by decide, by decide⟩, by decide, by decide⟩ (x_rv C hTH2466 (ci := 10) rfl ga0 rg_112) rfl hl2432.1 rfl (Nat.le_of_ble_eq_true rfl) dX10_reads_157 hSH2466 (AE_sub (fun _ _ => rfl) (by decide) hSH2466.1) (fun vH2482 H2482 locsH2482 pH2482 zH2482 kH2482 hSH2482 => ?_)
              obtain ⟨x2483, hvH2482, bx2483, hrH2482, hTH2482⟩ := pH2482
              subst hvH2482
              have mf2484 : MF K s.heap H2482 a0 [19, 20, 21, 22] := MF.eff (x_lt hTH2466 kH2482 ga0 (by decide)) mf2468
              have g2485 : CG (avw K H2482 a0) := CG.congr (fun k hk j => av_eff hTH2466 kH2482 ga0 (by decide) (CG_eff [] (by decide) k hk)) g2469
              have g2486 : TU (avw K H2482 a0) (svw K H2482 a0) := TU.congr (fun k hk j => av_eff hTH2466 kH2482 ga0 (by decide) (TU_eff [] (by decide) k hk)) (fun k hk => sv_eff hTH2466 kH2482 ga0 (by decide)) g2470
              have g2487 : WD (avw K H2482 a0) := WD.congr (fun k hk j => av_eff hTH2466 kH2482 ga0 (by decide) (WD_eff [] (by decide) k hk)) g2471
              have g2488 : IM (avw K H2482 a0) := IM.congr (fun k hk j => av_eff hTH2466 kH2482 ga0 (by decide) (IM_eff [] (by decide) k hk)) g2472
              have f2489 : ∀ j : Nat, fI H2482 tq j = fI s.heap tq j := fun j => (fI_kept (x_lt hTH2466 kH2482 gtq (by decide))).trans (f2473 j)
              have m2490 := (m2474).trans (fR_kept (x_lt hTH2466 kH2482 ga0 (by decide))).symm
              have m2491 := (m2475).trans (fI_kept (x_lt hTH2466 kH2482 ga0 (by decide))).symm
              have m2492 := (m2476).trans (fI_kept (x_lt hTH2466 kH2482 ga0 (by decide))).symm
              have m2493 := (fI_kept (x_lt hTH2466 kH2482 ga0 (by decide))).trans m2477
              have m2494 := (m2478).trans (fI_kept (x_lt hTH2466 kH2482 ga0 (by decide))).symm
              have m2495 := (m2479).trans (fI_kept (x_lt hTH2466 kH2482 ga0 (by decide))).symm
              refine W.eq (g2 := F0 m 160 ls2431 [.int x2483]) rfl ?_
              refine lv_if_eq (tgt := 260) hx hb dX10_reads_160 (by decide) (fun c2496 => ?_) (fun c2496 => ?_)
              · have k2497 := i_eq c2496
                refine lv_aload_n hx hb dX10_reads_260 rfl (lv_at hl2432 1 rfl) ?_
                refine lv_iload_n hx hb dX10_reads_261 rfl (lv_at hl2432 0 rfl) ?_
                refine x_V (As := [.int x2417]) (rest := []) C (a_X10_isMarkSign l K G H2482 (x2417) hTH2482 ga0) yo_X10_isMarkSign wM_X10_219 ⟨⟨by decide, by decide⟩, by decide, by decide⟩ (x_rv C hTH2482 (ci := 10) rfl ga0 rg_112) rfl hl2432.1 rfl (Nat.le_of_ble_eq_true rfl) dX10_reads_262 hSH2482 (AE_sub (fun _ _ => rfl) (by decide) hSH2482.1) (fun vH2498 H2498 locsH2498 pH2498 zH2498 kH2498 hSH2498 => ?_)
                obtain ⟨x2499, hvH2498, bx2499, hrH2498, hTH2498⟩ := pH2498
                subst hvH2498
                have mf2500 : MF K s.heap H2498 a0 [19, 20, 21, 22] := MF.eff (x_lt hTH2482 kH2498 ga0 (by decide)) mf2484
                have g2501 : CG (avw K H2498 a0) := CG.congr (fun k hk j => av_eff hTH2482 kH2498 ga0 (by decide) (CG_eff [] (by decide) k hk)) g2485
                have g2502 : TU (avw K H2498 a0) (svw K H2498 a0) := TU.congr (fun k hk j => av_eff hTH2482 kH2498 ga0 (by decide) (TU_eff [] (by decide) k hk)) (fun k hk => sv_eff hTH2482 kH2498 ga0 (by decide)) g2486
                have g2503 : WD (avw K H2498 a0) := WD.congr (fun k hk j => av_eff hTH2482 kH2498 ga0 (by decide) (WD_eff [] (by decide) k hk)) g2487
                have g2504 : IM (avw K H2498 a0) := IM.congr (fun k hk j => av_eff hTH2482 kH2498 ga0 (by decide) (IM_eff [] (by decide) k hk)) g2488
                have f2505 : ∀ j : Nat, fI H2498 tq j = fI s.heap tq j := fun j => (fI_kept (x_lt hTH2482 kH2498 gtq (by decide))).trans (f2489 j)
                have m2506 := (m2490).trans (fR_kept (x_lt hTH2482 kH2498 ga0 (by decide))).symm
                have m2507 := (m2491).trans (fI_kept (x_lt hTH2482 kH2498 ga0 (by decide))).symm
                have m2508 := (m2492).trans (fI_kept (x_lt hTH2482 kH2498 ga0 (by decide))).symm
                have m2509 := (fI_kept (x_lt hTH2482 kH2498 ga0 (by decide))).trans m2493
                have m2510 := (m2494).trans (fI_kept (x_lt hTH2482 kH2498 ga0 (by decide))).symm
                have m2511 := (m2495).trans (fI_kept (x_lt hTH2482 kH2498 ga0 (by decide))).symm
                refine W.eq (g2 := F0 m 265 ls2431 [.int x2499]) rfl ?_
                refine lv_if_eq (tgt := 273) hx hb dX10_reads_265 (by decide) (fun c2512 => ?_) (fun c2512 => ?_)
                · have k2513 := i_eq c2512
                  exact J273 ls2431 H2498 locsH2498 (x2436) (x2078) (1) (x2417) (lv_sub hl2432 [] rfl) hTH2498 hSH2498 (by have := i_rng x2436; omega) (by have := i_rng x2078; omega) (by decide) m2510 m2508 (m2509).symm m2511 m2506 m2507 mf2500 g2501 g2502 g2503 g2504 f2505 (by omega)
                · have k2513 := i_ne c2512
                  refine lv_aload_n hx hb dX10_reads_268 rfl (lv_at hl2432 1 rfl) ?_
                  refine lv_iconst (v := 4) hx hb dX10_reads_269 (by decide) ?_
                  refine x_put C hTH2498 hSH2498 (ci := 10) (k := 21) (v := .int 4) (ty0 := tyX10) rfl inX10 tyX10_ok nmX10 (by decide) rfl wF_X10_202 ga0 rg_112 rfl rfl (okI (by have := i_rng (4 : Int32); omega) (by have := i_rng (4 : Int32); omega)) rfl rfl (AE_in ga0 (by decide)) dX10_reads_270 (fun H2514 locsH2514 hTH2514 hSH2514 wH2514 => ?_)
                  have mf2515 : MF K s.heap H2514 a0 [19, 20, 21, 22] := MF.fld hap wH2514 (by decide) (by decide) mf2500
                  have g2516 : CG (avw K H2514 a0) := CG.congr (fun k hk j => av_fld hTH2498 ga0 hap wH2514 (by decide) (CG_ok 112 (by decide) k hk) (CG_ne 21 (by decide) k hk)) g2501
                  have g2517 : TU (avw K H2514 a0) (svw K H2514 a0) := TU.congr (fun k hk j => av_fld hTH2498 ga0 hap wH2514 (by decide) (TU_ok 112 (by decide) k hk) (TU_ne 21 (by decide) k hk)) (fun k hk => sv_fld hap wH2514 (by decide) (TU_slt k hk) (TU_sne 21 (by decide) k hk)) g2502
                  have g2518 : WD (avw K H2514 a0) := WD.congr (fun k hk j => av_fld hTH2498 ga0 hap wH2514 (by decide) (WD_ok 112 (by decide) k hk) (WD_ne 21 (by decide) k hk)) g2503
                  have g2519 : IM (avw K H2514 a0) := IM.congr (fun k hk j => av_fld hTH2498 ga0 hap wH2514 (by decide) (IM_ok 112 (by decide) k hk) (IM_ne 21 (by decide) k hk)) g2504
                  have f2520 : ∀ j : Nat, fI H2514 tq j = fI s.heap tq j := fun j => (Wr.neI wH2514 (Or.inl (G_ne gtq ga0 (by decide)))).trans (f2505 j)
                  have m2521 := m2506.trans (Wr.neR wH2514 (Or.inr (x_apart hKT hts inX10 tyX10 tyX10_ok nmX10 rfl 17 21 (by decide) (by decide) (by decide)))).symm
                  have m2522 := m2507.trans (Wr.neI wH2514 (Or.inr (x_apart hKT hts inX10 tyX10 tyX10_ok nmX10 rfl 18 21 (by decide) (by decide) (by decide)))).symm
                  have m2523 := m2508.trans (Wr.neI wH2514 (Or.inr (x_apart hKT hts inX10 tyX10 tyX10_ok nmX10 rfl 20 21 (by decide) (by decide) (by decide)))).symm
                  have m2525 := m2510.trans (Wr.neI wH2514 (Or.inr (x_apart hKT hts inX10 tyX10 tyX10_ok nmX10 rfl 19 21 (by decide) (by decide) (by decide)))).symm
                  have m2526 := m2511.trans (Wr.neI wH2514 (Or.inr (x_apart hKT hts inX10 tyX10 tyX10_ok nmX10 rfl 22 21 (by decide) (by decide) (by decide)))).symm
                  have m2527 := Wr.I wH2514
                  exact J273 ls2431 H2514 locsH2514 (x2436) (x2078) (4) (x2417) (lv_sub hl2432 [] rfl) hTH2514 hSH2514 (by have := i_rng x2436; omega) (by have := i_rng x2078; omega) (by decide) m2525 m2523 (m2527).symm m2526 m2521 m2522 mf2515 g2516 g2517 g2518 g2519 f2520 (by omega)
              · have k2497 := i_ne c2496
                refine lv_aload_n hx hb dX10_reads_163 rfl (lv_at hl2432 1 rfl) ?_
                refine lv_iload_n hx hb dX10_reads_164 rfl (lv_at hl2432 0 rfl) ?_
                refine lv_bipush (v := 48) hx hb dX10_reads_165 (by decide) ?_
                refine lv_isub hx hb dX10_reads_167 ?_
                refine lv_topi (fun x2528 ex2528 => ?_)
                have tx2528 := i_sub ex2528 (by omega)
                refine x_put C hTH2482 hSH2482 (ci := 10) (k := 22) (v := .int x2528) (ty0 := tyX10) rfl inX10 tyX10_ok nmX10 (by decide) rfl wF_X10_205 ga0 rg_112 rfl rfl (okI (by have := i_rng x2528; omega) (by have := i_rng x2528; omega)) rfl rfl (AE_in ga0 (by decide)) dX10_reads_168 (fun H2529 locsH2529 hTH2529 hSH2529 wH2529 => ?_)
                have mf2530 : MF K s.heap H2529 a0 [19, 20, 21, 22] := MF.fld hap wH2529 (by decide) (by decide) mf2484
                have g2531 : CG (avw K H2529 a0) := CG.congr (fun k hk j => av_fld hTH2482 ga0 hap wH2529 (by decide) (CG_ok 112 (by decide) k hk) (CG_ne 22 (by decide) k hk)) g2485
                have g2532 : TU (avw K H2529 a0) (svw K H2529 a0) := TU.congr (fun k hk j => av_fld hTH2482 ga0 hap wH2529 (by decide) (TU_ok 112 (by decide) k hk) (TU_ne 22 (by decide) k hk)) (fun k hk => sv_fld hap wH2529 (by decide) (TU_slt k hk) (TU_sne 22 (by decide) k hk)) g2486
                have g2533 : WD (avw K H2529 a0) := WD.congr (fun k hk j => av_fld hTH2482 ga0 hap wH2529 (by decide) (WD_ok 112 (by decide) k hk) (WD_ne 22 (by decide) k hk)) g2487
                have g2534 : IM (avw K H2529 a0) := IM.congr (fun k hk j => av_fld hTH2482 ga0 hap wH2529 (by decide) (IM_ok 112 (by decide) k hk) (IM_ne 22 (by decide) k hk)) g2488
                have f2535 : ∀ j : Nat, fI H2529 tq j = fI s.heap tq j := fun j => (Wr.neI wH2529 (Or.inl (G_ne gtq ga0 (by decide)))).trans (f2489 j)
                have m2536 := m2490.trans (Wr.neR wH2529 (Or.inr (x_apart hKT hts inX10 tyX10 tyX10_ok nmX10 rfl 17 22 (by decide) (by decide) (by decide)))).symm
                have m2537 := m2491.trans (Wr.neI wH2529 (Or.inr (x_apart hKT hts inX10 tyX10 tyX10_ok nmX10 rfl 18 22 (by decide) (by decide) (by decide)))).symm
                have m2538 := m2492.trans (Wr.neI wH2529 (Or.inr (x_apart hKT hts inX10 tyX10 tyX10_ok nmX10 rfl 20 22 (by decide) (by decide) (by decide)))).symm
                have m2539 := (Wr.neI wH2529 (Or.inr (x_apart hKT hts inX10 tyX10 tyX10_ok nmX10 rfl 21 22 (by decide) (by decide) (by decide)))).trans m2493
                have m2540 := m2494.trans (Wr.neI wH2529 (Or.inr (x_apart hKT hts inX10 tyX10 tyX10_ok nmX10 rfl 19 22 (by decide) (by decide) (by decide)))).symm
                have m2542 := Wr.I wH2529
                have m2542 := m2542.symm
                exact J171 ((500 - x2436.toInt).toNat + 1) ls2431 H2529 locsH2529 (x2436) (x2078) (1) (x2528) (lv_sub hl2432 [1] rfl) hTH2529 hSH2529 (by have := i_rng x2436; omega) (by have := i_rng x2078; omega) (by decide) m2540 m2538 (m2539).symm m2542 m2536 m2537 mf2530 g2531 g2532 g2533 g2534 f2535 (by omega) (by omega)
            · have k2481 := i_ne c2480
              exact J95 ((500 - x2436.toInt).toNat + 1)  ls2431 H2466 locsH2466 (x2436) (x2078) (1) (x2417) (lv_sub hl2432 [1] rfl) hTH2466 hSH2466 (by have := i_rng x2436; omega) (by have := i_rng x2078; omega) (by decide) (by have := i_rng x2417; omega) m2478 m2476 (m2477).symm m2479 m2474 m2475 mf2468 g2469 g2470 g2471 g2472 f2473 (by omega) (by omega) (NB.ext (b := x2078.toInt) (NB.nil (by omega)) hc (by omega) (by omega) (by omega))
          · have k2434 := i_eq c2433
            refine lv_aload_n hx hb dX10_reads_66 rfl (lv_at hl2432 1 rfl) ?_
            refine lv_iconst (v := 0) hx hb dX10_reads_67 (by decide) ?_
            refine x_put C hTH2416 hSH2416 (ci := 10) (k := 21) (v := .int 0) (ty0 := tyX10) rfl inX10 tyX10_ok nmX10 (by decide) rfl wF_X10_202 ga0 rg_112 rfl rfl (okI (by have := i_rng (0 : Int32); omega) (by have := i_rng (0 : Int32); omega)) rfl rfl (AE_in ga0 (by decide)) dX10_reads_68 (fun H2543 locsH2543 hTH2543 hSH2543 wH2543 => ?_)
            have mf2544 : MF K s.heap H2543 a0 [19, 20, 21, 22] := MF.fld hap wH2543 (by decide) (by decide) mf2419
            have g2545 : CG (avw K H2543 a0) := CG.congr (fun k hk j => av_fld hTH2416 ga0 hap wH2543 (by decide) (CG_ok 112 (by decide) k hk) (CG_ne 21 (by decide) k hk)) g2420
            have g2546 : TU (avw K H2543 a0) (svw K H2543 a0) := TU.congr (fun k hk j => av_fld hTH2416 ga0 hap wH2543 (by decide) (TU_ok 112 (by decide) k hk) (TU_ne 21 (by decide) k hk)) (fun k hk => sv_fld hap wH2543 (by decide) (TU_slt k hk) (TU_sne 21 (by decide) k hk)) g2421
            have g2547 : WD (avw K H2543 a0) := WD.congr (fun k hk j => av_fld hTH2416 ga0 hap wH2543 (by decide) (WD_ok 112 (by decide) k hk) (WD_ne 21 (by decide) k hk)) g2422
            have g2548 : IM (avw K H2543 a0) := IM.congr (fun k hk j => av_fld hTH2416 ga0 hap wH2543 (by decide) (IM_ok 112 (by decide) k hk) (IM_ne 21 (by decide) k hk)) g2423
            have f2549 : ∀ j : Nat, fI H2543 tq j = fI s.heap tq j := fun j => (Wr.neI wH2543 (Or.inl (G_ne gtq ga0 (by decide)))).trans (f2424 j)
            have m2550 := m2425.trans (Wr.neI wH2543 (Or.inr (x_apart hKT hts inX10 tyX10 tyX10_ok nmX10 rfl 19 21 (by decide) (by decide) (by decide)))).symm
            have m2551 := m2426.trans (Wr.neI wH2543 (Or.inr (x_apart hKT hts inX10 tyX10 tyX10_ok nmX10 rfl 22 21 (by decide) (by decide) (by decide)))).symm
            have m2552 := m2427.trans (Wr.neR wH2543 (Or.inr (x_apart hKT hts inX10 tyX10 tyX10_ok nmX10 rfl 17 21 (by decide) (by decide) (by decide)))).symm
            have m2553 := m2428.trans (Wr.neI wH2543 (Or.inr (x_apart hKT hts inX10 tyX10 tyX10_ok nmX10 rfl 18 21 (by decide) (by decide) (by decide)))).symm
            have m2554 := m2429.trans (Wr.neI wH2543 (Or.inr (x_apart hKT hts inX10 tyX10 tyX10_ok nmX10 rfl 20 21 (by decide) (by decide) (by decide)))).symm
            have m2556 := Wr.I wH2543
            exact x_vret C hQ dX10_reads_71 hSH2543 (by decide) (by decide) (⟨x2078, x2078, 0, x2081, rfl, m2550, m2554, (m2556).symm, m2551, by omega, m2552, g2545, g2546, g2547, g2548, mf2544, hTH2543⟩)
        · have k2385 := i_eq c2384
          exact J26 ls2076 H2369 locsH2369 (x2078) (x2079) (x2080) (x2081) (lv_sub hl2077 [0] rfl) hTH2369 hSH2369 (by have := i_rng x2078; omega) (by have := i_rng x2079; omega) m2378 m2379 m2380 m2381 m2382 m2383 mf2372 g2373 g2374 g2375 g2376 f2377 (by omega)
  exact J0 ((500 - sp.toInt).toNat + 1) ls s.heap [] (sp) (fr) (tk) (vl) (lv_sub hl [0] rfl) hT hS (by have := i_rng sp; omega) (by have := i_rng fr; omega) esp efr etk evl etq etp mf0 hg_CG hg_TU hg_WD hg_IM f0_ta (by omega) (by omega)
