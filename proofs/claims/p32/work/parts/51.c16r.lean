set_option maxHeartbeats 4000000 in
set_option maxRecDepth 100000 in
theorem a_X4_isLetter (l : Launch) (K : KE) (G : Nat → Option Nat) (H : Heap) (x0 : Int32) (hT : TY K G H)  : MX l K yX4_isLetter cX4_isLetter 1 (some .boolean) 0 0 0 0 [.int x0] H (AE G [] H.size) (fun v H1 => ∃ (r : Int32), v = some (.int r) ∧ (0 ≤ r.toInt ∧ r.toInt ≤ 1) ∧ TY K G H1) := by
  refine MX.of (by decide +kernel) (Nat.le_of_ble_eq_true rfl) ?_
  intro p e s m below meth c ls Q C hH hl hQ
  subst hH
  have C : CX p K s m _ meth c RX4 cX4_isLetter 1 (some .boolean) "isLetter" := C
  obtain ⟨hx, hb, hml, hown, hts, hKT, hr, hlocks, hnm⟩ := id C
  have hl : lv_has ls 1 [(0, .int x0)] := hl
  have hS : va_S (AE G [] s.heap.size) s.heap s.heap [] := va_S.rf
  have n_0 : (0 : Int32).toInt = 0 := rfl
  have n_1 : (1 : Int32).toInt = 1 := rfl
  have n_65 : (65 : Int32).toInt = 65 := rfl
  have n_90 : (90 : Int32).toInt = 90 := rfl
  have n_97 : (97 : Int32).toInt = 97 := rfl
  have n_122 : (122 : Int32).toInt = 122 := rfl
  have J29 : ∀ (ls143 : Array Slot) (H142 : Heap) (locsH142 : List Loc) (x145 : Int32), lv_has ls143 1 [] → TY K G H142 → va_S (AE G [] s.heap.size) s.heap H142 locsH142 → (0 ≤ x145.toInt ∧ x145.toInt ≤ 1) → W p l e ({ frames := 0, cells := 0, slots := 0, locals := 0 } : Room) s m (([.int x0] : List Value).toArray) below meth c H142 locsH142 0 0 Q (F0 m 29 ls143 [.int x145]) := by
    intro ls143 H142 locsH142 x145 hl144 hTH142 hSH142 bx145
    exact x_zret C hQ (i_01 (by omega)) dX4_isLetter_29 hSH142 (by decide) (by decide) (⟨x145, rfl, by omega, hTH142⟩)
  have J24 : ∀ (ls148 : Array Slot) (H147 : Heap) (locsH147 : List Loc) , lv_has ls148 1 [] → TY K G H147 → va_S (AE G [] s.heap.size) s.heap H147 locsH147 → W p l e ({ frames := 0, cells := 0, slots := 0, locals := 0 } : Room) s m (([.int x0] : List Value).toArray) below meth c H147 locsH147 0 0 Q (F0 m 24 ls148 []) := by
    intro ls148 H147 locsH147  hl149 hTH147 hSH147 
    refine lv_iconst (v := 1) hx hb dX4_isLetter_24 (by decide) ?_
    refine lv_goto (tgt := 29) hx hb dX4_isLetter_25 (by decide) ?_
    exact J29 ls148 H147 locsH147 (1) (lv_sub hl149 [] rfl) hTH147 hSH147 (by decide)
  have J12 : ∀ (ls152 : Array Slot) (H151 : Heap) (locsH151 : List Loc) , lv_has ls152 1 [(0, .int x0)] → TY K G H151 → va_S (AE G [] s.heap.size) s.heap H151 locsH151 → W p l e ({ frames := 0, cells := 0, slots := 0, locals := 0 } : Room) s m (([.int x0] : List Value).toArray) below meth c H151 locsH151 0 0 Q (F0 m 12 ls152 []) := by
    intro ls152 H151 locsH151  hl153 hTH151 hSH151 
    have J28 : ∀ (ls156 : Array Slot) (H155 : Heap) (locsH155 : List Loc) , lv_has ls156 1 [] → TY K G H155 → va_S (AE G [] s.heap.size) s.heap H155 locsH155 → W p l e ({ frames := 0, cells := 0, slots := 0, locals := 0 } : Room) s m (([.int x0] : List Value).toArray) below meth c H155 locsH155 0 0 Q (F0 m 28 ls156 []) := by
      intro ls156 H155 locsH155  hl157 hTH155 hSH155 
      refine lv_iconst (v := 0) hx hb dX4_isLetter_28 (by decide) ?_
      exact J29 ls156 H155 locsH155 (0) (lv_sub hl157 [] rfl) hTH155 hSH155 (by decide)
    refine lv_iload_n hx hb dX4_isLetter_12 rfl (lv_at hl153 0 rfl) ?_
    refine lv_bipush (v := 65) hx hb dX4_isLetter_13 (by decide) ?_
    refine lv_icmp_lt (tgt := 28) hx hb dX4_isLetter_15 (by decide) (fun c159 => ?_) (fun c159 => ?_)
    · have k160 := i_lt c159
      exact J28 ls152 H151 locsH151 (lv_sub hl153 [] rfl) hTH151 hSH151 
    · have k160 := i_nlt c159
      refine lv_iload_n hx hb dX4_isLetter_18 rfl (lv_at hl153 0 rfl) ?_
      refine lv_bipush (v := 90) hx hb dX4_isLetter_19 (by decide) ?_
      refine lv_icmp_gt (tgt := 28) hx hb dX4_isLetter_21 (by decide) (fun c161 => ?_) (fun c161 => ?_)
      · have k162 := i_lt c161
        exact J28 ls152 H151 locsH151 (lv_sub hl153 [] rfl) hTH151 hSH151 
      · have k162 := i_nlt c161
        exact J24 ls152 H151 locsH151 (lv_sub hl153 [] rfl) hTH151 hSH151 
  refine lv_iload_n hx hb dX4_isLetter_0 rfl (lv_at hl 0 rfl) ?_
  refine lv_bipush (v := 97) hx hb dX4_isLetter_1 (by decide) ?_
  refine lv_icmp_lt (tgt := 12) hx hb dX4_isLetter_3 (by decide) (fun c163 => ?_) (fun c163 => ?_)
  · have k164 := i_lt c163
    exact J12 ls s.heap [] (lv_sub hl [0] rfl) hT hS 
  · have k164 := i_nlt c163
    refine lv_iload_n hx hb dX4_isLetter_6 rfl (lv_at hl 0 rfl) ?_
    refine lv_bipush (v := 122) hx hb dX4_isLetter_7 (by decide) ?_
    refine lv_icmp_le (tgt := 24) hx hb dX4_isLetter_9 (by decide) (fun c165 => ?_) (fun c165 => ?_)
    · have k166 := i_le c165
      exact J24 ls s.heap [] (lv_sub hl [] rfl) hT hS 
    · have k166 := i_nle c165
      exact J12 ls s.heap [] (lv_sub hl [0] rfl) hT hS 

set_option maxHeartbeats 4000000 in
set_option maxRecDepth 100000 in
theorem a_X4_isDigit (l : Launch) (K : KE) (G : Nat → Option Nat) (H : Heap) (x0 : Int32) (hT : TY K G H)  : MX l K yX4_isDigit cX4_isDigit 1 (some .boolean) 0 0 0 0 [.int x0] H (AE G [] H.size) (fun v H1 => ∃ (r : Int32), v = some (.int r) ∧ (0 ≤ r.toInt ∧ r.toInt ≤ 1) ∧ TY K G H1) := by
  refine MX.of (by decide +kernel) (Nat.le_of_ble_eq_true rfl) ?_
  intro p e s m below meth c ls Q C hH hl hQ
  subst hH
  have C : CX p K s m _ meth c RX4 cX4_isDigit 1 (some .boolean) "isDigit" := C
  obtain ⟨hx, hb, hml, hown, hts, hKT, hr, hlocks, hnm⟩ := id C
  have hl : lv_has ls 1 [(0, .int x0)] := hl
  have hS : va_S (AE G [] s.heap.size) s.heap s.heap [] := va_S.rf
  have n_0 : (0 : Int32).toInt = 0 := rfl
  have n_1 : (1 : Int32).toInt = 1 := rfl
  have n_48 : (48 : Int32).toInt = 48 := rfl
  have n_57 : (57 : Int32).toInt = 57 := rfl
  have J17 : ∀ (ls123 : Array Slot) (H122 : Heap) (locsH122 : List Loc) (x125 : Int32), lv_has ls123 1 [] → TY K G H122 → va_S (AE G [] s.heap.size) s.heap H122 locsH122 → (0 ≤ x125.toInt ∧ x125.toInt ≤ 1) → W p l e ({ frames := 0, cells := 0, slots := 0, locals := 0 } : Room) s m (([.int x0] : List Value).toArray) below meth c H122 locsH122 0 0 Q (F0 m 17 ls123 [.int x125]) := by
    intro ls123 H122 locsH122 x125 hl124 hTH122 hSH122 bx125
    exact x_zret C hQ (i_01 (by omega)) dX4_isDigit_17 hSH122 (by decide) (by decide) (⟨x125, rfl, by omega, hTH122⟩)
  have J16 : ∀ (ls128 : Array Slot) (H127 : Heap) (locsH127 : List Loc) , lv_has ls128 1 [] → TY K G H127 → va_S (AE G [] s.heap.size) s.heap H127 locsH127 → W p l e ({ frames := 0, cells := 0, slots := 0, locals := 0 } : Room) s m (([.int x0] : List Value).toArray) below meth c H127 locsH127 0 0 Q (F0 m 16 ls128 []) := by
    intro ls128 H127 locsH127  hl129 hTH127 hSH127 
    refine lv_iconst (v := 0) hx hb dX4_isDigit_16 (by decide) ?_
    exact J17 ls128 H127 locsH127 (0) (lv_sub hl129 [] rfl) hTH127 hSH127 (by decide)
  refine lv_iload_n hx hb dX4_isDigit_0 rfl (lv_at hl 0 rfl) ?_
  refine lv_bipush (v := 48) hx hb dX4_isDigit_1 (by decide) ?_
  refine lv_icmp_lt (tgt := 16) hx hb dX4_isDigit_3 (by decide) (fun c131 => ?_) (fun c131 => ?_)
  · have k132 := i_lt c131
    exact J16 ls s.heap [] (lv_sub hl [] rfl) hT hS 
  · have k132 := i_nlt c131
    refine lv_iload_n hx hb dX4_isDigit_6 rfl (lv_at hl 0 rfl) ?_
    refine lv_bipush (v := 57) hx hb dX4_isDigit_7 (by decide) ?_
    refine lv_icmp_gt (tgt := 16) hx hb dX4_isDigit_9 (by decide) (fun c133 => ?_) (fun c133 => ?_)
    · have k134 := i_lt c133
      exact J16 ls s.heap [] (lv_sub hl [] rfl) hT hS 
    · have k134 := i_nlt c133
      refine lv_iconst (v := 1) hx hb dX4_isDigit_12 (by decide) ?_
      refine lv_goto (tgt := 17) hx hb dX4_isDigit_13 (by decide) ?_
      exact J17 ls s.heap [] (1) (lv_sub hl [] rfl) hT hS (by decide)

set_option maxHeartbeats 4000000 in
set_option maxRecDepth 100000 in
theorem a_X4_isSign (l : Launch) (K : KE) (G : Nat → Option Nat) (H : Heap) (x0 : Int32) (hT : TY K G H)  : MX l K yX4_isSign cX4_isSign 1 (some .boolean) 0 0 0 0 [.int x0] H (AE G [] H.size) (fun v H1 => ∃ (r : Int32), v = some (.int r) ∧ (0 ≤ r.toInt ∧ r.toInt ≤ 1) ∧ TY K G H1) := by
  refine MX.of (by decide +kernel) (Nat.le_of_ble_eq_true rfl) ?_
  intro p e s m below meth c ls Q C hH hl hQ
  subst hH
  have C : CX p K s m _ meth c RX4 cX4_isSign 1 (some .boolean) "isSign" := C
  obtain ⟨hx, hb, hml, hown, hts, hKT, hr, hlocks, hnm⟩ := id C
  have hl : lv_has ls 1 [(0, .int x0)] := hl
  have hS : va_S (AE G [] s.heap.size) s.heap s.heap [] := va_S.rf
  have n_0 : (0 : Int32).toInt = 0 := rfl
  have n_1 : (1 : Int32).toInt = 1 := rfl
  have n_40 : (40 : Int32).toInt = 40 := rfl
  have n_43 : (43 : Int32).toInt = 43 := rfl
  have n_45 : (45 : Int32).toInt = 45 := rfl
  have n_47 : (47 : Int32).toInt = 47 := rfl
  have n_59 : (59 : Int32).toInt = 59 := rfl
  have n_62 : (62 : Int32).toInt = 62 := rfl
  have J41 : ∀ (ls163 : Array Slot) (H162 : Heap) (locsH162 : List Loc) (x165 : Int32), lv_has ls163 1 [] → TY K G H162 → va_S (AE G [] s.heap.size) s.heap H162 locsH162 → (0 ≤ x165.toInt ∧ x165.toInt ≤ 1) → W p l e ({ frames := 0, cells := 0, slots := 0, locals := 0 } : Room) s m (([.int x0] : List Value).toArray) below meth c H162 locsH162 0 0 Q (F0 m 41 ls163 [.int x165]) := by
    intro ls163 H162 locsH162 x165 hl164 hTH162 hSH162 bx165
    exact x_zret C hQ (i_01 (by omega)) dX4_isSign_41 hSH162 (by decide) (by decide) (⟨x165, rfl, by omega, hTH162⟩)
  have J36 : ∀ (ls168 : Array Slot) (H167 : Heap) (locsH167 : List Loc) , lv_has ls168 1 [] → TY K G H167 → va_S (AE G [] s.heap.size) s.heap H167 locsH167 → W p l e ({ frames := 0, cells := 0, slots := 0, locals := 0 } : Room) s m (([.int x0] : List Value).toArray) below meth c H167 locsH167 0 0 Q (F0 m 36 ls168 []) := by
    intro ls168 H167 locsH167  hl169 hTH167 hSH167 
    refine lv_iconst (v := 1) hx hb dX4_isSign_36 (by decide) ?_
    refine lv_goto (tgt := 41) hx hb dX4_isSign_37 (by decide) ?_
    exact J41 ls168 H167 locsH167 (1) (lv_sub hl169 [] rfl) hTH167 hSH167 (by decide)
  have J12 : ∀ (ls172 : Array Slot) (H171 : Heap) (locsH171 : List Loc) , lv_has ls172 1 [(0, .int x0)] → TY K G H171 → va_S (AE G [] s.heap.size) s.heap H171 locsH171 → W p l e ({ frames := 0, cells := 0, slots := 0, locals := 0 } : Room) s m (([.int x0] : List Value).toArray) below meth c H171 locsH171 0 0 Q (F0 m 12 ls172 []) := by
    intro ls172 H171 locsH171  hl173 hTH171 hSH171 
    have J40 : ∀ (ls176 : Array Slot) (H175 : Heap) (locsH175 : List Loc) , lv_has ls176 1 [] → TY K G H175 → va_S (AE G [] s.heap.size) s.heap H175 locsH175 → W p l e ({ frames := 0, cells := 0, slots := 0, locals := 0 } : Room) s m (([.int x0] : List Value).toArray) below meth c H175 locsH175 0 0 Q (F0 m 40 ls176 []) := by
      intro ls176 H175 locsH175  hl177 hTH175 hSH175 
      refine lv_iconst (v := 0) hx hb dX4_isSign_40 (by decide) ?_
      exact J41 ls176 H175 locsH175 (0) (lv_sub hl177 [] rfl) hTH175 hSH175 (by decide)
    refine lv_iload_n hx hb dX4_isSign_12 rfl (lv_at hl173 0 rfl) ?_
    refine lv_bipush (v := 45) hx hb dX4_isSign_13 (by decide) ?_
    refine lv_icmp_eq (tgt := 36) hx hb dX4_isSign_15 (by decide) (fun c179 => ?_) (fun c179 => ?_)
    · have k180 := i_eq c179
      exact J36 ls172 H171 locsH171 (lv_sub hl173 [] rfl) hTH171 hSH171 
    · have k180 := i_ne c179
      refine lv_iload_n hx hb dX4_isSign_18 rfl (lv_at hl173 0 rfl) ?_
      refine lv_bipush (v := 47) hx hb dX4_isSign_19 (by decide) ?_
      refine lv_icmp_eq (tgt := 36) hx hb dX4_isSign_21 (by decide) (fun c181 => ?_) (fun c181 => ?_)
      · have k182 := i_eq c181
        exact J36 ls172 H171 locsH171 (lv_sub hl173 [] rfl) hTH171 hSH171 
      · have k182 := i_ne c181
        refine lv_iload_n hx hb dX4_isSign_24 rfl (lv_at hl173 0 rfl) ?_
        refine lv_bipush (v := 59) hx hb dX4_isSign_25 (by decide) ?_
        refine lv_icmp_lt (tgt := 40) hx hb dX4_isSign_27 (by decide) (fun c183 => ?_) (fun c183 => ?_)
        · have k184 := i_lt c183
          exact J40 ls172 H171 locsH171 (lv_sub hl173 [] rfl) hTH171 hSH171 
        · have k184 := i_nlt c183
          refine lv_iload_n hx hb dX4_isSign_30 rfl (lv_at hl173 0 rfl) ?_
          refine lv_bipush (v := 62) hx hb dX4_isSign_31 (by decide) ?_
          refine lv_icmp_gt (tgt := 40) hx hb dX4_isSign_33 (by decide) (fun c185 => ?_) (fun c185 => ?_)
          · have k186 := i_lt c185
            exact J40 ls172 H171 locsH171 (lv_sub hl173 [] rfl) hTH171 hSH171 
          · have k186 := i_nlt c185
            exact J36 ls172 H171 locsH171 (lv_sub hl173 [] rfl) hTH171 hSH171 
  refine lv_iload_n hx hb dX4_isSign_0 rfl (lv_at hl 0 rfl) ?_
  refine lv_bipush (v := 40) hx hb dX4_isSign_1 (by decide) ?_
  refine lv_icmp_lt (tgt := 12) hx hb dX4_isSign_3 (by decide) (fun c187 => ?_) (fun c187 => ?_)
  · have k188 := i_lt c187
    exact J12 ls s.heap [] (lv_sub hl [0] rfl) hT hS 
  · have k188 := i_nlt c187
    refine lv_iload_n hx hb dX4_isSign_6 rfl (lv_at hl 0 rfl) ?_
    refine lv_bipush (v := 43) hx hb dX4_isSign_7 (by decide) ?_
    refine lv_icmp_le (tgt := 36) hx hb dX4_isSign_9 (by decide) (fun c189 => ?_) (fun c189 => ?_)
    · have k190 := i_le c189
      exact J36 ls s.heap [] (lv_sub hl [] rfl) hT hS 
    · have k190 := i_nle c189
      exact J12 ls s.heap [] (lv_sub hl [0] rfl) hT hS 

set_option maxHeartbeats 4000000 in
set_option maxRecDepth 100000 in
theorem a_X4_isWord (l : Launch) (K : KE) (G : Nat → Option Nat) (H : Heap) {a0 : Nat} (x1 : Int32) (x2 : Int32) (x3 : Int32) (hT : TY K G H) (ga0 : G a0 = some 108) (hx1 : 0 ≤ x1.toInt ∧ x1.toInt ≤ 500) (hx2 : 0 ≤ x2.toInt ∧ x2.toInt ≤ 500) (hx3 : 0 ≤ x3.toInt ∧ x3.toInt ≤ 23) : MX l K yX4_isWord cX4_isWord 6 (some .boolean) 4 111 0 0 [.ref a0, .int x1, .int x2, .int x3] H (AE G [] H.size) (fun v H1 => ∃ (r : Int32), v = some (.int r) ∧ (0 ≤ r.toInt ∧ r.toInt ≤ 1) ∧ TY K G H1) := by
  refine MX.of (by decide +kernel) (Nat.le_of_ble_eq_true rfl) ?_
  intro p e s m below meth c ls Q C hH hl hQ
  subst hH
  have C : CX p K s m _ meth c RX4 cX4_isWord 6 (some .boolean) "isWord" := C
  obtain ⟨hx, hb, hml, hown, hts, hKT, hr, hlocks, hnm⟩ := id C
  have hl : lv_has ls 6 [(0, .ref a0), (1, .int x1), (2, .int x2), (3, .int x3)] := hl
  have hS : va_S (AE G [] s.heap.size) s.heap s.heap [] := va_S.rf
  have n_0 : (0 : Int32).toInt = 0 := rfl
  have n_1 : (1 : Int32).toInt = 1 := rfl
  have n_6 : (6 : Int32).toInt = 6 := rfl
  have n_32 : (32 : Int32).toInt = 32 := rfl
  have J3 : ∀ (nf : Nat) (ls320 : Array Slot) (H319 : Heap) (locsH319 : List Loc) (x322 : Int32), lv_has ls320 6 [(0, .ref a0), (1, .int x1), (2, .int x2), (3, .int x3), (4, .int x322)] → TY K G H319 → va_S (AE G [] s.heap.size) s.heap H319 locsH319 → (0 ≤ x322.toInt ∧ x322.toInt ≤ 6) → (6 - x322.toInt < (nf : Int)) → W p l e ({ frames := 4, cells := 0, slots := 0, locals := 111 } : Room) s m (([.ref a0, .int x1, .int x2, .int x3] : List Value).toArray) below meth c H319 locsH319 0 0 Q (F0 m 3 ls320 []) := by
    intro nf
    induction nf with
    | zero =>
      intro ls320 H319 locsH319 x322 hl321 hTH319 hSH319 bx322 hm3
      exfalso
      omega
    | succ nf ih3 =>
      intro ls320 H319 locsH319 x322 hl321 hTH319 hSH319 bx322 hm3
      have J29 : ∀ (ls325 : Array Slot) (H324 : Heap) (locsH324 : List Loc) (x328 : Int32), lv_has ls325 6 [(0, .ref a0), (1, .int x1), (2, .int x2), (3, .int x3), (4, .int x322)] → TY K G H324 → va_S (AE G [] s.heap.size) s.heap H324 locsH324 → (0 ≤ x322.toInt ∧ x322.toInt ≤ 5) → W p l e ({ frames := 4, cells := 0, slots := 0, locals := 111 } : Room) s m (([.ref a0, .int x1, .int x2, .int x3] : List Value).toArray) below meth c H324 locsH324 0 0 Q (F0 m 29 ls325 [.int x328]) := by
        intro ls325 H324 locsH324 x328 hl326 hTH324 hSH324 b327
        refine lv_istore (lv' := [(5, .int x328), (0, .ref a0), (1, .int x1), (2, .int x2), (3, .int x3), (4, .int x322)]) hx hb dX4_isWord_29 hl326 (by decide) rfl (fun ls330 hl331 => ?_)
        refine va_ldcS hx hb hown hKT.2.2.2.2.2.2 dX4_isWord_31 ?_
        refine lv_iload_n hx hb dX4_isWord_33 rfl (lv_at hl331 4 rfl) ?_
        refine lv_bipush (v := 6) hx hb dX4_isWord_34 (by decide) ?_
        refine lv_imul hx hb dX4_isWord_36 ?_
        refine lv_topi (fun x332 ex332 => ?_)
        have tx332 := i_mul ex332 (by rw [n_6]; omega)
        rw [n_6] at tx332
        refine lv_iload hx hb dX4_isWord_37 (lv_at hl331 5 rfl) ?_
        refine lv_iadd hx hb dX4_isWord_39 ?_
        refine lv_topi (fun x333 ex333 => ?_)
        have tx333 := i_add ex333 (by omega)
        refine x_V (As := [.int x333]) (rest := []) C (c_charAt l K G H324 (x333) hTH324 (by omega)) yo_J0_charAt_5068e wM_X4_75 ⟨⟨by decide, by decide⟩, by decide, by decide⟩ (by obtain ⟨cell, h1, h2, h3, -⟩ := hTH324.2.2.2.1.moved hKT.2.2.2.2.2.1; exact ⟨cell, h1, h2, h3⟩) rfl hl331.1 rfl (Nat.le_of_ble_eq_true rfl) dX4_isWord_40 hSH324 (AE_sub (fun _ _ => rfl) (by decide) hSH324.1) (fun vH334 H334 locsH334 pH334 zH334 kH334 hSH334 => ?_)
        have hqH334 := pH334.1.symm
        subst hqH334
        obtain ⟨x335, hvH334, tx335⟩ : ∃ z : Int32, vH334 = some (.int z) ∧ z = _ := ⟨_, pH334.2, rfl⟩
        subst hvH334
        refine W.eq (g2 := F0 m 43 ls330 [.int x335]) rfl ?_
        refine lv_iload hx hb dX4_isWord_43 (lv_at hl331 0 rfl) ?_
        refine lv_icmp_eq (tgt := 50) hx hb dX4_isWord_45 (by decide) (fun c336 => ?_) (fun c336 => ?_)
        · have k337 := i_eq c336
          obtain ⟨x338, ex338⟩ : ∃ y : Int32, y = x322 + 1 := ⟨_, rfl⟩
          have tx338 := i_add ex338 (by omega)
          refine lv_iinc (v := x338) (lv' := [(4, .int x338), (5, .int x328), (0, .ref a0), (1, .int x1), (2, .int x2), (3, .int x3)]) hx hb dX4_isWord_50 hl331 (k := 5) rfl (by rw [ex338]; rfl) (by decide) rfl (fun ls339 hl340 => ?_)
          refine lv_goto (tgt := 3) hx hb dX4_isWord_53 (by decide) ?_
          exact ih3 ls339 H324 locsH334 (x338) (lv_sub hl340 [2, 3, 4, 5, 0] rfl) hTH324 hSH334 (by have := i_rng x338; omega) (by omega)
        · have k337 := i_ne c336
          refine lv_iconst (v := 0) hx hb dX4_isWord_48 (by decide) ?_
          exact x_zret C hQ (Or.inl rfl) dX4_isWord_49 hSH334 (by decide) (by decide) (⟨0, rfl, by decide, hTH324⟩)
      refine lv_iload hx hb dX4_isWord_3 (lv_at hl321 4 rfl) ?_
      refine lv_bipush (v := 6) hx hb dX4_isWord_5 (by decide) ?_
      refine lv_icmp_ge (tgt := 56) hx hb dX4_isWord_7 (by decide) (fun c341 => ?_) (fun c341 => ?_)
      · have k342 := i_le c341
        refine lv_iconst (v := 1) hx hb dX4_isWord_56 (by decide) ?_
        exact x_zret C hQ (Or.inr rfl) dX4_isWord_57 hSH319 (by decide) (by decide) (⟨1, rfl, by decide, hTH319⟩)
      · have k342 := i_nle c341
        refine lv_iload_n hx hb dX4_isWord_10 rfl (lv_at hl321 1 rfl) ?_
        refine lv_iload hx hb dX4_isWord_11 (lv_at hl321 4 rfl) ?_
        refine lv_iadd hx hb dX4_isWord_13 ?_
        refine lv_topi (fun x343 ex343 => ?_)
        have tx343 := i_add ex343 (by omega)
        refine lv_iload_n hx hb dX4_isWord_14 rfl (lv_at hl321 2 rfl) ?_
        refine lv_icmp_ge (tgt := 27) hx hb dX4_isWord_15 (by decide) (fun c344 => ?_) (fun c344 => ?_)
        · have k345 := i_le c344
          refine lv_bipush (v := 32) hx hb dX4_isWord_27 (by decide) ?_
          exact J29 ls320 H319 locsH319 (32) (lv_sub hl321 [0, 1, 2, 3, 4] rfl) hTH319 hSH319 (by have := i_rng x322; omega)
        · have k345 := i_nle c344
          refine lv_aload_n hx hb dX4_isWord_18 rfl (lv_at hl321 0 rfl) ?_
          refine lv_iload_n hx hb dX4_isWord_19 rfl (lv_at hl321 1 rfl) ?_
          refine lv_iload hx hb dX4_isWord_20 (lv_at hl321 4 rfl) ?_
          refine lv_iadd hx hb dX4_isWord_22 ?_
          refine lv_topi (fun x346 ex346 => ?_)
          have tx346 := i_add ex346 (by omega)
          refine x_ai C hTH319 ga0 rg_108 ⟨by omega, by show _ < ((500 : Nat) : Int); omega⟩ dX4_isWord_23 (fun x347 ex347 bx347 => ?_)
          refine lv_goto (tgt := 29) hx hb dX4_isWord_24 (by decide) ?_
          exact J29 ls320 H319 locsH319 (x347) (lv_sub hl321 [0, 1, 2, 3, 4] rfl) hTH319 hSH319 (by have := i_rng x322; omega)
  refine lv_iconst (v := 0) hx hb dX4_isWord_0 (by decide) ?_
  refine lv_istore (lv' := [(4, .int 0), (0, .ref a0), (1, .int x1), (2, .int x2), (3, .int x3)]) hx hb dX4_isWord_1 hl (by decide) rfl (fun ls348 hl349 => ?_)
  exact J3 ((6 - (0 : Int32).toInt).toNat + 1) ls348 s.heap [] (0) (lv_sub hl349 [1, 2, 3, 4, 0] rfl) hT hS (by decide) (by omega)

set_option maxHeartbeats 4000000 in
set_option maxRecDepth 100000 in
theorem a_X4_wordAt (l : Launch) (K : KE) (G : Nat → Option Nat) (H : Heap) {a0 : Nat} (x1 : Int32) (x2 : Int32) (hT : TY K G H) (ga0 : G a0 = some 108) (hx1 : 0 ≤ x1.toInt ∧ x1.toInt ≤ 500) (hx2 : 0 ≤ x2.toInt ∧ x2.toInt ≤ 500) : MX l K yX4_wordAt cX4_wordAt 4 (some .int) 5 136 0 0 [.ref a0, .int x1, .int x2] H (AE G [] H.size) (fun v H1 => ∃ (r : Int32), v = some (.int r) ∧ TY K G H1) := by
  refine MX.of (by decide +kernel) (Nat.le_of_ble_eq_true rfl) ?_
  intro p e s m below meth c ls Q C hH hl hQ
  subst hH
  have C : CX p K s m _ meth c RX4 cX4_wordAt 4 (some .int) "wordAt" := C
  obtain ⟨hx, hb, hml, hown, hts, hKT, hr, hlocks, hnm⟩ := id C
  have hl : lv_has ls 4 [(0, .ref a0), (1, .int x1), (2, .int x2)] := hl
  have hS : va_S (AE G [] s.heap.size) s.heap s.heap [] := va_S.rf
  have n_0 : (0 : Int32).toInt = 0 := rfl
  have n_1 : (1 : Int32).toInt = 1 := rfl
  have n_6 : (6 : Int32).toInt = 6 := rfl
  have n_24 : (24 : Int32).toInt = 24 := rfl
  have n_25 : (25 : Int32).toInt = 25 := rfl
  have J34 : ∀ (ls342 : Array Slot) (H341 : Heap) (locsH341 : List Loc) , lv_has ls342 4 [] → TY K G H341 → va_S (AE G [] s.heap.size) s.heap H341 locsH341 → W p l e ({ frames := 5, cells := 0, slots := 0, locals := 136 } : Room) s m (([.ref a0, .int x1, .int x2] : List Value).toArray) below meth c H341 locsH341 0 0 Q (F0 m 34 ls342 []) := by
    intro ls342 H341 locsH341  hl343 hTH341 hSH341 
    refine lv_bipush (v := 25) hx hb dX4_wordAt_34 (by decide) ?_
    exact x_iret C hQ dX4_wordAt_36 hSH341 (by decide) (by decide) (⟨25, rfl, hTH341⟩)
  have J10 : ∀ (nf : Nat) (ls346 : Array Slot) (H345 : Heap) (locsH345 : List Loc) (x348 : Int32), lv_has ls346 4 [(0, .ref a0), (1, .int x1), (2, .int x2), (3, .int x348)] → TY K G H345 → va_S (AE G [] s.heap.size) s.heap H345 locsH345 → (0 ≤ x348.toInt ∧ x348.toInt ≤ 24) → (24 - x348.toInt < (nf : Int)) → W p l e ({ frames := 5, cells := 0, slots := 0, locals := 136 } : Room) s m (([.ref a0, .int x1, .int x2] : List Value).toArray) below meth c H345 locsH345 0 0 Q (F0 m 10 ls346 []) := by
    intro nf
    induction nf with
    | zero =>
      intro ls346 H345 locsH345 x348 hl347 hTH345 hSH345 bx348 hm10
      exfalso
      omega
    | succ nf ih10 =>
      intro ls346 H345 locsH345 x348 hl347 hTH345 hSH345 bx348 hm10
      refine lv_iload_n hx hb dX4_wordAt_10 rfl (lv_at hl347 3 rfl) ?_
      refine lv_bipush (v := 24) hx hb dX4_wordAt_11 (by decide) ?_
      refine lv_icmp_ge (tgt := 34) hx hb dX4_wordAt_13 (by decide) (fun c350 => ?_) (fun c350 => ?_)
      · have k351 := i_le c350
        exact J34 ls346 H345 locsH345 (lv_sub hl347 [] rfl) hTH345 hSH345 
      · have k351 := i_nle c350
        refine lv_aload_n hx hb dX4_wordAt_16 rfl (lv_at hl347 0 rfl) ?_
        refine lv_iload_n hx hb dX4_wordAt_17 rfl (lv_at hl347 1 rfl) ?_
        refine lv_iload_n hx hb dX4_wordAt_18 rfl (lv_at hl347 2 rfl) ?_
        refine lv_iload_n hx hb dX4_wordAt_19 rfl (lv_at hl347 3 rfl) ?_
        refine x_S (As := [.ref a0, .int x1, .int x2, .int x348]) (rest := []) C (a_X4_isWord l K G H345 (x1) (x2) (x348) hTH345 ga0 (by omega) (by omega) (by omega)) yo_X4_isWord wM_X4_69 ⟨⟨by decide, by decide⟩, by decide, by decide⟩ rfl hl347.1 rfl (Nat.le_of_ble_eq_true rfl) dX4_wordAt_20 hSH345 (AE_sub (fun _ _ => rfl) (by decide) hSH345.1) (fun vH352 H352 locsH352 pH352 zH352 kH352 hSH352 => ?_)
        obtain ⟨x353, hvH352, bx353, hTH352⟩ := pH352
        subst hvH352
        refine W.eq (g2 := F0 m 23 ls346 [.int x353]) rfl ?_
        refine lv_if_eq (tgt := 28) hx hb dX4_wordAt_23 (by decide) (fun c354 => ?_) (fun c354 => ?_)
        · have k355 := i_eq c354
          obtain ⟨x356, ex356⟩ : ∃ y : Int32, y = x348 + 1 := ⟨_, rfl⟩
          have tx356 := i_add ex356 (by omega)
          refine lv_iinc (v := x356) (lv' := [(3, .int x356), (0, .ref a0), (1, .int x1), (2, .int x2)]) hx hb dX4_wordAt_28 hl347 (k := 3) rfl (by rw [ex356]; rfl) (by decide) rfl (fun ls357 hl358 => ?_)
          refine lv_goto (tgt := 10) hx hb dX4_wordAt_31 (by decide) ?_
          exact ih10 ls357 H352 locsH352 (x356) (lv_sub hl358 [1, 2, 3, 0] rfl) hTH352 hSH352 (by have := i_rng x356; omega) (by omega)
        · have k355 := i_ne c354
          refine lv_iload_n hx hb dX4_wordAt_26 rfl (lv_at hl347 3 rfl) ?_
          exact x_iret C hQ dX4_wordAt_27 hSH352 (by decide) (by decide) (⟨x348, rfl, hTH352⟩)
  refine lv_iload_n hx hb dX4_wordAt_0 rfl (lv_at hl 2 rfl) ?_
  refine lv_iload_n hx hb dX4_wordAt_1 rfl (lv_at hl 1 rfl) ?_
  refine lv_isub hx hb dX4_wordAt_2 ?_
  refine lv_topi (fun x359 ex359 => ?_)
  have tx359 := i_sub ex359 (by omega)
  refine lv_bipush (v := 6) hx hb dX4_wordAt_3 (by decide) ?_
  refine lv_icmp_gt (tgt := 34) hx hb dX4_wordAt_5 (by decide) (fun c360 => ?_) (fun c360 => ?_)
  · have k361 := i_lt c360
    exact J34 ls s.heap [] (lv_sub hl [] rfl) hT hS 
  · have k361 := i_nlt c360
    refine lv_iconst (v := 0) hx hb dX4_wordAt_8 (by decide) ?_
    refine lv_istore_n (lv' := [(3, .int 0), (0, .ref a0), (1, .int x1), (2, .int x2)]) hx hb dX4_wordAt_9 rfl hl (by decide) rfl (fun ls362 hl363 => ?_)
    exact J10 ((24 - (0 : Int32).toInt).toNat + 1) ls362 s.heap [] (0) (lv_sub hl363 [1, 2, 3, 0] rfl) hT hS (by decide) (by omega)

set_option maxHeartbeats 4000000 in
set_option maxRecDepth 100000 in
theorem a_X4_numberAt (l : Launch) (K : KE) (G : Nat → Option Nat) (H : Heap) {a0 : Nat} (x1 : Int32) (x2 : Int32) (hT : TY K G H) (ga0 : G a0 = some 108) (hx1 : 0 ≤ x1.toInt ∧ x1.toInt ≤ 500) (hx2 : 0 ≤ x2.toInt ∧ x2.toInt ≤ 500) : MX l K yX4_numberAt cX4_numberAt 5 (some .int) 0 0 0 0 [.ref a0, .int x1, .int x2] H (AE G [] H.size) (fun v H1 => ∃ (r : Int32), v = some (.int r) ∧ TY K G H1) := by
  refine MX.of (by decide +kernel) (Nat.le_of_ble_eq_true rfl) ?_
  intro p e s m below meth c ls Q C hH hl hQ
  subst hH
  have C : CX p K s m _ meth c RX4 cX4_numberAt 5 (some .int) "numberAt" := C
  obtain ⟨hx, hb, hml, hown, hts, hKT, hr, hlocks, hnm⟩ := id C
  have hl : lv_has ls 5 [(0, .ref a0), (1, .int x1), (2, .int x2)] := hl
  have hS : va_S (AE G [] s.heap.size) s.heap s.heap [] := va_S.rf
  have n_0 : (0 : Int32).toInt = 0 := rfl
  have n_1 : (1 : Int32).toInt = 1 := rfl
  have n_5 : (5 : Int32).toInt = 5 := rfl
  have n_10 : (10 : Int32).toInt = 10 := rfl
  have n_48 : (48 : Int32).toInt = 48 := rfl
  have J5 : ∀ (nf : Nat) (ls203 : Array Slot) (H202 : Heap) (locsH202 : List Loc) (x205 : Int32) (x206 : Int32), lv_has ls203 5 [(0, .ref a0), (1, .int x1), (2, .int x2), (3, .int x205), (4, .int x206)] → TY K G H202 → va_S (AE G [] s.heap.size) s.heap H202 locsH202 → (0 ≤ x206.toInt ∧ x206.toInt ≤ 500) → (500 - x206.toInt < (nf : Int)) → W p l e ({ frames := 0, cells := 0, slots := 0, locals := 0 } : Room) s m (([.ref a0, .int x1, .int x2] : List Value).toArray) below meth c H202 locsH202 0 0 Q (F0 m 5 ls203 []) := by
    intro nf
    induction nf with
    | zero =>
      intro ls203 H202 locsH202 x205 x206 hl204 hTH202 hSH202 bx206 hm5
      have rx205 := i_rng x205
      exfalso
      omega
    | succ nf ih5 =>
      intro ls203 H202 locsH202 x205 x206 hl204 hTH202 hSH202 bx206 hm5
      have rx205 := i_rng x205
      have J38 : ∀ (ls209 : Array Slot) (H208 : Heap) (locsH208 : List Loc) , lv_has ls209 5 [(3, .int x205)] → TY K G H208 → va_S (AE G [] s.heap.size) s.heap H208 locsH208 → W p l e ({ frames := 0, cells := 0, slots := 0, locals := 0 } : Room) s m (([.ref a0, .int x1, .int x2] : List Value).toArray) below meth c H208 locsH208 0 0 Q (F0 m 38 ls209 []) := by
        intro ls209 H208 locsH208  hl210 hTH208 hSH208 
        refine lv_iload_n hx hb dX4_numberAt_38 rfl (lv_at hl210 0 rfl) ?_
        exact x_iret C hQ dX4_numberAt_39 hSH208 (by decide) (by decide) (⟨x205, rfl, hTH208⟩)
      refine lv_iload hx hb dX4_numberAt_5 (lv_at hl204 4 rfl) ?_
      refine lv_iload_n hx hb dX4_numberAt_7 rfl (lv_at hl204 2 rfl) ?_
      refine lv_icmp_ge (tgt := 38) hx hb dX4_numberAt_8 (by decide) (fun c212 => ?_) (fun c212 => ?_)
      · have k213 := i_le c212
        exact J38 ls203 H202 locsH202 (lv_sub hl204 [3] rfl) hTH202 hSH202 
      · have k213 := i_nle c212
        refine lv_iload hx hb dX4_numberAt_11 (lv_at hl204 4 rfl) ?_
        refine lv_iload_n hx hb dX4_numberAt_13 rfl (lv_at hl204 1 rfl) ?_
        refine lv_iconst (v := 5) hx hb dX4_numberAt_14 (by decide) ?_
        refine lv_iadd hx hb dX4_numberAt_15 ?_
        refine lv_topi (fun x214 ex214 => ?_)
        have tx214 := i_add ex214 (by omega)
        refine lv_icmp_ge (tgt := 38) hx hb dX4_numberAt_16 (by decide) (fun c215 => ?_) (fun c215 => ?_)
        · have k216 := i_le c215
          exact J38 ls203 H202 locsH202 (lv_sub hl204 [3] rfl) hTH202 hSH202 
        · have k216 := i_nle c215
          refine lv_iload_n hx hb dX4_numberAt_19 rfl (lv_at hl204 3 rfl) ?_
          refine lv_bipush (v := 10) hx hb dX4_numberAt_20 (by decide) ?_
          refine lv_imul hx hb dX4_numberAt_22 ?_
          refine lv_topi (fun x217 ex217 => ?_)
          refine lv_aload_n hx hb dX4_numberAt_23 rfl (lv_at hl204 0 rfl) ?_
          refine lv_iload hx hb dX4_numberAt_24 (lv_at hl204 4 rfl) ?_
          refine x_ai C hTH202 ga0 rg_108 ⟨by omega, by show _ < ((500 : Nat) : Int); omega⟩ dX4_numberAt_26 (fun x218 ex218 bx218 => ?_)
          refine lv_iadd hx hb dX4_numberAt_27 ?_
          refine lv_topi (fun x219 ex219 => ?_)
          refine lv_bipush (v := 48) hx hb dX4_numberAt_28 (by decide) ?_
          refine lv_isub hx hb dX4_numberAt_30 ?_
          refine lv_topi (fun x220 ex220 => ?_)
          refine lv_istore_n (lv' := [(3, .int x220), (0, .ref a0), (1, .int x1), (2, .int x2), (4, .int x206)]) hx hb dX4_numberAt_31 rfl hl204 (by decide) rfl (fun ls221 hl222 => ?_)
          obtain ⟨x223, ex223⟩ : ∃ y : Int32, y = x206 + 1 := ⟨_, rfl⟩
          have tx223 := i_add ex223 (by omega)
          refine lv_iinc (v := x223) (lv' := [(4, .int x223), (3, .int x220), (0, .ref a0), (1, .int x1), (2, .int x2)]) hx hb dX4_numberAt_32 hl222 (k := 4) rfl (by rw [ex223]; rfl) (by decide) rfl (fun ls224 hl225 => ?_)
          refine lv_goto (tgt := 5) hx hb dX4_numberAt_35 (by decide) ?_
          exact ih5 ls224 H202 locsH202 (x220) (x223) (lv_sub hl225 [2, 3, 4, 1, 0] rfl) hTH202 hSH202 (by have := i_rng x223; omega) (by omega)
  refine lv_iconst (v := 0) hx hb dX4_numberAt_0 (by decide) ?_
  refine lv_istore_n (lv' := [(3, .int 0), (0, .ref a0), (1, .int x1), (2, .int x2)]) hx hb dX4_numberAt_1 rfl hl (by decide) rfl (fun ls226 hl227 => ?_)
  refine lv_iload_n hx hb dX4_numberAt_2 rfl (lv_at hl227 2 rfl) ?_
  refine lv_istore (lv' := [(4, .int x1), (3, .int 0), (0, .ref a0), (1, .int x1), (2, .int x2)]) hx hb dX4_numberAt_3 hl227 (by decide) rfl (fun ls228 hl229 => ?_)
  exact J5 ((500 - x1.toInt).toNat + 1) ls228 s.heap [] (0) (x1) (lv_sub hl229 [2, 3, 4, 1, 0] rfl) hT hS (by have := i_rng x1; omega) (by omega)

set_option maxHeartbeats 4000000 in
set_option maxRecDepth 100000 in
theorem a_X7_addStep (l : Launch) (K : KE) (G : Nat → Option Nat) (H : Heap) {a0 : Nat} (x1 : Int32) (x2 : Int32) (li : Int32) (hT : TY K G H) (ga0 : G a0 = some 69) (eli : li = fI H a0 (K.1.2 7 0)) : MX l K yX7_addStep cX7_addStep 3 none 0 0 0 0 [.ref a0, .int x1, .int x2] H (AE G [69, 77] H.size) (fun v H1 => ∃ (t0 : Int32), v = none ∧ t0 = fI H1 a0 (K.1.2 7 0) ∧ (t0.toInt = li.toInt) ∧ TY K G H1) := by
  refine MX.of (by decide +kernel) (Nat.le_of_ble_eq_true rfl) ?_
  intro p e s m below meth c ls Q C hH hl hQ
  subst hH
  have C : CX p K s m _ meth c RX7 cX7_addStep 3 none "addStep" := C
  obtain ⟨hx, hb, hml, hown, hts, hKT, hr, hlocks, hnm⟩ := id C
  have hl : lv_has ls 3 [(0, .ref a0), (1, .int x1), (2, .int x2)] := hl
  have hS : va_S (AE G [69, 77] s.heap.size) s.heap s.heap [] := va_S.rf
  have n_1 : (1 : Int32).toInt = 1 := rfl
  have n_500 : (500 : Int32).toInt = 500 := rfl
  have n_100000 : (100000 : Int32).toInt = 100000 := rfl
  have bli := ty_fi (x := li) (k := 0) eli hT ga0 rg_69 rfl
  have J35 : ∀ (ls178 : Array Slot) (H177 : Heap) (locsH177 : List Loc) (x180 : Int32), lv_has ls178 3 [] → TY K G H177 → va_S (AE G [69, 77] s.heap.size) s.heap H177 locsH177 → (0 ≤ x180.toInt ∧ x180.toInt ≤ 16) → (x180 = fI H177 a0 (K.1.2 7 0)) → (x180.toInt = li.toInt) → W p l e ({ frames := 0, cells := 0, slots := 0, locals := 0 } : Room) s m (([.ref a0, .int x1, .int x2] : List Value).toArray) below meth c H177 locsH177 0 0 Q (F0 m 35 ls178 []) := by
    intro ls178 H177 locsH177 x180 hl179 hTH177 hSH177 bx180 ex180 iv35
    exact x_vret C hQ dX7_addStep_35 hSH177 (by decide) (by decide) (⟨x180, rfl, ex180, by omega, hTH177⟩)
  refine lv_aload_n hx hb dX7_addStep_0 rfl (lv_at hl 0 rfl) ?_
  refine x_gi C hT (ci := 7) (k := 9) rfl inX7 (by decide) wF_X7_40 ga0 rg_69 rfl dX7_addStep_1 (fun x182 ex182 bx182 => ?_)
  refine lv_sipush (v := 500) hx hb dX7_addStep_4 (by decide) ?_
  refine lv_icmp_ge (tgt := 35) hx hb dX7_addStep_7 (by decide) (fun c183 => ?_) (fun c183 => ?_)
  · have k184 := i_le c183
    exact J35 ls s.heap [] (li) (lv_sub hl [] rfl) hT hS (by have := i_rng li; omega) eli (by omega)
  · have k184 := i_nle c183
    refine lv_aload_n hx hb dX7_addStep_10 rfl (lv_at hl 0 rfl) ?_
    refine x_gr C hT (ci := 7) (k := 8) rfl inX7 (by decide) wF_X7_33 ga0 rg_69 rfl dX7_addStep_11 (fun q185 eq185 gq185 => ?_)
    refine lv_aload_n hx hb dX7_addStep_14 rfl (lv_at hl 0 rfl) ?_
    refine x_gi C hT (ci := 7) (k := 9) rfl inX7 (by decide) wF_X7_40 ga0 rg_69 rfl dX7_addStep_15 (fun x186 ex186 bx186 => ?_)
    have ux186 : x182 = x186 := (ex182).trans ex186.symm
    subst ux186
    refine lv_iload_n hx hb dX7_addStep_18 rfl (lv_at hl 1 rfl) ?_
    refine lv_ldc (v := 100000) hx hb hown (hts _ wK_X7_43) dX7_addStep_19 ?_
    refine lv_imul hx hb dX7_addStep_21 ?_
    refine lv_topi (fun x187 ex187 => ?_)
    refine lv_iload_n hx hb dX7_addStep_22 rfl (lv_at hl 2 rfl) ?_
    refine lv_iadd hx hb dX7_addStep_23 ?_
    refine lv_topi (fun x188 ex188 => ?_)
    refine x_iast C hT hS gq185 rg_77 (by omega) (by show _ < ((500 : Nat) : Int); omega) ⟨by have := i_rng x188; omega, by have := i_rng x188; omega⟩ (AE_in gq185 (by decide)) dX7_addStep_24 (fun H189 locsH189 hTH189 hSH189 wH189 => ?_)
    have m190 := eli.trans (Wr.neI wH189 (Or.inl (G_ne ga0 gq185 (by decide)))).symm
    have m191 := ex182.trans (Wr.neI wH189 (Or.inl (G_ne ga0 gq185 (by decide)))).symm
    have m192 := eq185.trans (Wr.neR wH189 (Or.inl (G_ne ga0 gq185 (by decide)))).symm
    refine lv_aload_n hx hb dX7_addStep_25 rfl (lv_at hl 0 rfl) ?_
    refine lv_dup hx hb dX7_addStep_26 rfl ?_
    refine x_gi C hTH189 (ci := 7) (k := 9) rfl inX7 (by decide) wF_X7_40 ga0 rg_69 rfl dX7_addStep_27 (fun x193 ex193 bx193 => ?_)
    have ux193 : x182 = x193 := (m191).trans ex193.symm
    subst ux193
    refine lv_iconst (v := 1) hx hb dX7_addStep_30 (by decide) ?_
    refine lv_iadd hx hb dX7_addStep_31 ?_
    refine lv_topi (fun x194 ex194 => ?_)
    have tx194 := i_add ex194 (by omega)
    refine x_put C hTH189 hSH189 (ci := 7) (k := 9) (v := .int x194) (ty0 := tyX7) rfl inX7 tyX7_ok nmX7 (by decide) rfl wF_X7_40 ga0 rg_69 rfl rfl (okI (by have := i_rng x194; omega) (by have := i_rng x194; omega)) rfl rfl (AE_in ga0 (by decide)) dX7_addStep_32 (fun H195 locsH195 hTH195 hSH195 wH195 => ?_)
    have m196 := m190.trans (Wr.neI wH195 (Or.inr (x_apart hKT hts inX7 tyX7 tyX7_ok nmX7 rfl 0 9 (by decide) (by decide) (by decide)))).symm
    have m198 := m192.trans (Wr.neR wH195 (Or.inr (x_apart hKT hts inX7 tyX7 tyX7_ok nmX7 rfl 8 9 (by decide) (by decide) (by decide)))).symm
    have m199 := Wr.I wH195
    have m199 := m199.symm
    exact J35 ls H195 locsH195 (li) (lv_sub hl [] rfl) hTH195 hSH195 (by have := i_rng li; omega) m196 (by omega)

set_option maxHeartbeats 4000000 in
set_option maxRecDepth 100000 in
theorem a_X7_clear (l : Launch) (K : KE) (G : Nat → Option Nat) (H : Heap) {a0 : Nat} (hT : TY K G H) (ga0 : G a0 = some 69) : MX l K yX7_clear cX7_clear 1 none 0 0 0 0 [.ref a0] H (AE G [69] H.size) (fun v H1 => v = none ∧ TY K G H1) := by
  refine MX.of (by decide +kernel) (Nat.le_of_ble_eq_true rfl) ?_
  intro p e s m below meth c ls Q C hH hl hQ
  subst hH
  have C : CX p K s m _ meth c RX7 cX7_clear 1 none "clear" := C
  obtain ⟨hx, hb, hml, hown, hts, hKT, hr, hlocks, hnm⟩ := id C
  have hl : lv_has ls 1 [(0, .ref a0)] := hl
  have hS : va_S (AE G [69] s.heap.size) s.heap s.heap [] := va_S.rf
  have n_0 : (0 : Int32).toInt = 0 := rfl
  refine lv_aload_n hx hb dX7_clear_0 rfl (lv_at hl 0 rfl) ?_
  refine lv_iconst (v := 0) hx hb dX7_clear_1 (by decide) ?_
  refine x_put C hT hS (ci := 7) (k := 0) (v := .int 0) (ty0 := tyX7) rfl inX7 tyX7_ok nmX7 (by decide) rfl wF_X7_36 ga0 rg_69 rfl rfl (okI (by have := i_rng (0 : Int32); omega) (by have := i_rng (0 : Int32); omega)) rfl rfl (AE_in ga0 (by decide)) dX7_clear_2 (fun H121 locsH121 hTH121 hSH121 wH121 => ?_)
  have m122 := Wr.I wH121
  refine lv_aload_n hx hb dX7_clear_5 rfl (lv_at hl 0 rfl) ?_
  refine lv_iconst (v := 0) hx hb dX7_clear_6 (by decide) ?_
  refine x_put C hTH121 hSH121 (ci := 7) (k := 9) (v := .int 0) (ty0 := tyX7) rfl inX7 tyX7_ok nmX7 (by decide) rfl wF_X7_40 ga0 rg_69 rfl rfl (okI (by have := i_rng (0 : Int32); omega) (by have := i_rng (0 : Int32); omega)) rfl rfl (AE_in ga0 (by decide)) dX7_clear_7 (fun H123 locsH123 hTH123 hSH123 wH123 => ?_)
  have m124 := (Wr.neI wH123 (Or.inr (x_apart hKT hts inX7 tyX7 tyX7_ok nmX7 rfl 0 9 (by decide) (by decide) (by decide)))).trans m122
  have m125 := Wr.I wH123
  exact x_vret C hQ dX7_clear_10 hSH123 (by decide) (by decide) (⟨rfl, hTH123⟩)

set_option maxHeartbeats 4000000 in
set_option maxRecDepth 100000 in
theorem a_X4_addToken (l : Launch) (K : KE) (G : Nat → Option Nat) (H : Heap) {a0 : Nat} (x1 : Int32) (x2 : Int32) (x3 : Int32) {mq : Nat} {kq : Nat} (tat : Int32) (tk : Int32) (hT : TY K G H) (ga0 : G a0 = some 78) (gmq : G mq = some 69) (emq : mq = fR H a0 (K.1.2 4 0)) (gkq : G kq = some 79) (ekq : kq = fR H a0 (K.1.2 4 3)) (etat : tat = fI H a0 (K.1.2 4 7)) (etk : tk = fI H a0 (K.1.2 4 6)) (hp0 : tk.toInt ≤ 500) : MX l K yX4_addToken cX4_addToken 4 none 0 0 0 0 [.ref a0, .int x1, .int x2, .int x3] H (AE G [78, 79, 80, 81] H.size) (fun v H1 => ∃ (t0 : Int32) (t1 : Int32), v = none ∧ t0 = fI H1 a0 (K.1.2 4 7) ∧ t1 = fI H1 a0 (K.1.2 4 6) ∧ (t0.toInt = tat.toInt ∧ t1.toInt = tk.toInt + 1) ∧ mq = fR H1 a0 (K.1.2 4 0) ∧ kq = fR H1 a0 (K.1.2 4 3) ∧ x1 = fI H1 kq tk.toNatClampNeg ∧ TY K G H1) := by
  refine MX.of (by decide +kernel) (Nat.le_of_ble_eq_true rfl) ?_
  intro p e s m below meth c ls Q C hH hl hQ
  subst hH
  have C : CX p K s m _ meth c RX4 cX4_addToken 4 none "addToken" := C
  obtain ⟨hx, hb, hml, hown, hts, hKT, hr, hlocks, hnm⟩ := id C
  have hl : lv_has ls 4 [(0, .ref a0), (1, .int x1), (2, .int x2), (3, .int x3)] := hl
  have hS : va_S (AE G [78, 79, 80, 81] s.heap.size) s.heap s.heap [] := va_S.rf
  have n_1 : (1 : Int32).toInt = 1 := rfl
  have n_500 : (500 : Int32).toInt = 500 := rfl
  have btat := ty_fi (x := tat) (k := 7) etat hT ga0 rg_78 rfl
  have btk := ty_fi (x := tk) (k := 6) etk hT ga0 rg_78 rfl
  refine lv_aload_n hx hb dX4_addToken_0 rfl (lv_at hl 0 rfl) ?_
  refine x_gi C hT (ci := 4) (k := 6) rfl inX4 (by decide) wF_X4_45 ga0 rg_78 rfl dX4_addToken_1 (fun x285 ex285 bx285 => ?_)
  have ux285 : tk = x285 := (etk).trans ex285.symm
  subst ux285
  refine lv_sipush (v := 500) hx hb dX4_addToken_4 (by decide) ?_
  refine lv_icmp_gt (tgt := 50) hx hb dX4_addToken_7 (by decide) (fun c286 => ?_) (fun c286 => ?_)
  · have k287 := i_lt c286
    exfalso
    omega
  · have k287 := i_nlt c286
    refine lv_aload_n hx hb dX4_addToken_10 rfl (lv_at hl 0 rfl) ?_
    refine x_gr C hT (ci := 4) (k := 3) rfl inX4 (by decide) wF_X4_18 ga0 rg_78 rfl dX4_addToken_11 (fun q288 eq288 gq288 => ?_)
    have uq288 : kq = q288 := (ekq).trans eq288.symm
    subst uq288
    refine lv_aload_n hx hb dX4_addToken_14 rfl (lv_at hl 0 rfl) ?_
    refine x_gi C hT (ci := 4) (k := 6) rfl inX4 (by decide) wF_X4_45 ga0 rg_78 rfl dX4_addToken_15 (fun x289 ex289 bx289 => ?_)
    have ux289 : tk = x289 := (etk).trans ex289.symm
    subst ux289
    refine lv_iload_n hx hb dX4_addToken_18 rfl (lv_at hl 1 rfl) ?_
    refine x_iast C hT hS gkq rg_79 (by omega) (by show _ < ((501 : Nat) : Int); omega) ⟨by have := i_rng x1; omega, by have := i_rng x1; omega⟩ (AE_in gkq (by decide)) dX4_addToken_19 (fun H290 locsH290 hTH290 hSH290 wH290 => ?_)
    have m291 := emq.trans (Wr.neR wH290 (Or.inl (G_ne ga0 gkq (by decide)))).symm
    have m292 := ekq.trans (Wr.neR wH290 (Or.inl (G_ne ga0 gkq (by decide)))).symm
    have m293 := etat.trans (Wr.neI wH290 (Or.inl (G_ne ga0 gkq (by decide)))).symm
    have m294 := etk.trans (Wr.neI wH290 (Or.inl (G_ne ga0 gkq (by decide)))).symm
    have m295 := Wr.I wH290
    have m295 := m295.symm
    refine lv_aload_n hx hb dX4_addToken_20 rfl (lv_at hl 0 rfl) ?_
    refine x_gr C hTH290 (ci := 4) (k := 4) rfl inX4 (by decide) wF_X4_22 ga0 rg_78 rfl dX4_addToken_21 (fun q296 eq296 gq296 => ?_)
    refine lv_aload_n hx hb dX4_addToken_24 rfl (lv_at hl 0 rfl) ?_
    refine x_gi C hTH290 (ci := 4) (k := 6) rfl inX4 (by decide) wF_X4_45 ga0 rg_78 rfl dX4_addToken_25 (fun x297 ex297 bx297 => ?_)
    have ux297 : tk = x297 := (m294).trans ex297.symm
    subst ux297
    refine lv_iload_n hx hb dX4_addToken_28 rfl (lv_at hl 2 rfl) ?_
    refine x_iast C hTH290 hSH290 gq296 rg_80 (by omega) (by show _ < ((501 : Nat) : Int); omega) ⟨by have := i_rng x2; omega, by have := i_rng x2; omega⟩ (AE_in gq296 (by decide)) dX4_addToken_29 (fun H298 locsH298 hTH298 hSH298 wH298 => ?_)
    have m299 := m291.trans (Wr.neR wH298 (Or.inl (G_ne ga0 gq296 (by decide)))).symm
    have m300 := m292.trans (Wr.neR wH298 (Or.inl (G_ne ga0 gq296 (by decide)))).symm
    have m301 := m293.trans (Wr.neI wH298 (Or.inl (G_ne ga0 gq296 (by decide)))).symm
    have m302 := m294.trans (Wr.neI wH298 (Or.inl (G_ne ga0 gq296 (by decide)))).symm
    have m303 := m295.trans (Wr.neI wH298 (Or.inl (G_ne gkq gq296 (by decide)))).symm
    have m304 := eq296.trans (Wr.neR wH298 (Or.inl (G_ne ga0 gq296 (by decide)))).symm
    have m305 := Wr.I wH298
    have m305 := m305.symm
    refine lv_aload_n hx hb dX4_addToken_30 rfl (lv_at hl 0 rfl) ?_
    refine x_gr C hTH298 (ci := 4) (k := 5) rfl inX4 (by decide) wF_X4_25 ga0 rg_78 rfl dX4_addToken_31 (fun q306 eq306 gq306 => ?_)
    refine lv_aload_n hx hb dX4_addToken_34 rfl (lv_at hl 0 rfl) ?_
    refine x_gi C hTH298 (ci := 4) (k := 6) rfl inX4 (by decide) wF_X4_45 ga0 rg_78 rfl dX4_addToken_35 (fun x307 ex307 bx307 => ?_)
    have ux307 : tk = x307 := (m302).trans ex307.symm
    subst ux307
    refine lv_iload_n hx hb dX4_addToken_38 rfl (lv_at hl 3 rfl) ?_
    refine x_iast C hTH298 hSH298 gq306 rg_81 (by omega) (by show _ < ((501 : Nat) : Int); omega) ⟨by have := i_rng x3; omega, by have := i_rng x3; omega⟩ (AE_in gq306 (by decide)) dX4_addToken_39 (fun H308 locsH308 hTH308 hSH308 wH308 => ?_)
    have m309 := m299.trans (Wr.neR wH308 (Or.inl (G_ne ga0 gq306 (by decide)))).symm
    have m310 := m300.trans (Wr.neR wH308 (Or.inl (G_ne ga0 gq306 (by decide)))).symm
    have m311 := m301.trans (Wr.neI wH308 (Or.inl (G_ne ga0 gq306 (by decide)))).symm
    have m312 := m302.trans (Wr.neI wH308 (Or.inl (G_ne ga0 gq306 (by decide)))).symm
    have m313 := m303.trans (Wr.neI wH308 (Or.inl (G_ne gkq gq306 (by decide)))).symm
    have m314 := m304.trans (Wr.neR wH308 (Or.inl (G_ne ga0 gq306 (by decide)))).symm
    have m315 := m305.trans (Wr.neI wH308 (Or.inl (G_ne gq296 gq306 (by decide)))).symm
    have m316 := eq306.trans (Wr.neR wH308 (Or.inl (G_ne ga0 gq306 (by decide)))).symm
    have m317 := Wr.I wH308
    have m317 := m317.symm
    refine lv_aload_n hx hb dX4_addToken_40 rfl (lv_at hl 0 rfl) ?_
    refine lv_dup hx hb dX4_addToken_41 rfl ?_
    refine x_gi C hTH308 (ci := 4) (k := 6) rfl inX4 (by decide) wF_X4_45 ga0 rg_78 rfl dX4_addToken_42 (fun x318 ex318 bx318 => ?_)
    have ux318 : tk = x318 := (m312).trans ex318.symm
    subst ux318
    refine lv_iconst (v := 1) hx hb dX4_addToken_45 (by decide) ?_
    refine lv_iadd hx hb dX4_addToken_46 ?_
    refine lv_topi (fun x319 ex319 => ?_)
    have tx319 := i_add ex319 (by omega)
    refine x_put C hTH308 hSH308 (ci := 4) (k := 6) (v := .int x319) (ty0 := tyX4) rfl inX4 tyX4_ok nmX4 (by decide) rfl wF_X4_45 ga0 rg_78 rfl rfl (okI (by have := i_rng x319; omega) (by have := i_rng x319; omega)) rfl rfl (AE_in ga0 (by decide)) dX4_addToken_47 (fun H320 locsH320 hTH320 hSH320 wH320 => ?_)
    have m321 := m309.trans (Wr.neR wH320 (Or.inr (x_apart hKT hts inX4 tyX4 tyX4_ok nmX4 rfl 0 6 (by decide) (by decide) (by decide)))).symm
    have m322 := m310.trans (Wr.neR wH320 (Or.inr (x_apart hKT hts inX4 tyX4 tyX4_ok nmX4 rfl 3 6 (by decide) (by decide) (by decide)))).symm
    have m323 := m311.trans (Wr.neI wH320 (Or.inr (x_apart hKT hts inX4 tyX4 tyX4_ok nmX4 rfl 7 6 (by decide) (by decide) (by decide)))).symm
    have m325 := m313.trans (Wr.neI wH320 (Or.inl (G_ne gkq ga0 (by decide)))).symm
    have m326 := m314.trans (Wr.neR wH320 (Or.inr (x_apart hKT hts inX4 tyX4 tyX4_ok nmX4 rfl 4 6 (by decide) (by decide) (by decide)))).symm
    have m327 := m315.trans (Wr.neI wH320 (Or.inl (G_ne gq296 ga0 (by decide)))).symm
    have m328 := m316.trans (Wr.neR wH320 (Or.inr (x_apart hKT hts inX4 tyX4 tyX4_ok nmX4 rfl 5 6 (by decide) (by decide) (by decide)))).symm
    have m329 := m317.trans (Wr.neI wH320 (Or.inl (G_ne gq306 ga0 (by decide)))).symm
    have m330 := Wr.I wH320
    have m330 := m330.symm
    exact x_vret C hQ dX4_addToken_50 hSH320 (by decide) (by decide) (⟨tat, x319, rfl, m323, m330, by omega, m321, m322, m325, hTH320⟩)

set_option maxHeartbeats 4000000 in
set_option maxRecDepth 100000 in
theorem a_X4_goesOn (l : Launch) (K : KE) (G : Nat → Option Nat) (H : Heap) {a0 : Nat} (hT : TY K G H) (ga0 : G a0 = some 78) : MX l K yX4_goesOn cX4_goesOn 1 (some .boolean) 0 0 0 0 [.ref a0] H (AE G [] H.size) (fun v H1 => ∃ (r : Int32), v = some (.int r) ∧ (0 ≤ r.toInt ∧ r.toInt ≤ 1) ∧ TY K G H1) := by
  refine MX.of (by decide +kernel) (Nat.le_of_ble_eq_true rfl) ?_
  intro p e s m below meth c ls Q C hH hl hQ
  subst hH
  have C : CX p K s m _ meth c RX4 cX4_goesOn 1 (some .boolean) "goesOn" := C
  obtain ⟨hx, hb, hml, hown, hts, hKT, hr, hlocks, hnm⟩ := id C
  have hl : lv_has ls 1 [(0, .ref a0)] := hl
  have hS : va_S (AE G [] s.heap.size) s.heap s.heap [] := va_S.rf
  have n_0 : (0 : Int32).toInt = 0 := rfl
  have n_1 : (1 : Int32).toInt = 1 := rfl
  have n_26 : (26 : Int32).toInt = 26 := rfl
  have J26 : ∀ (ls139 : Array Slot) (H138 : Heap) (locsH138 : List Loc) (x141 : Int32), lv_has ls139 1 [] → TY K G H138 → va_S (AE G [] s.heap.size) s.heap H138 locsH138 → (0 ≤ x141.toInt ∧ x141.toInt ≤ 1) → W p l e ({ frames := 0, cells := 0, slots := 0, locals := 0 } : Room) s m (([.ref a0] : List Value).toArray) below meth c H138 locsH138 0 0 Q (F0 m 26 ls139 [.int x141]) := by
    intro ls139 H138 locsH138 x141 hl140 hTH138 hSH138 bx141
    exact x_zret C hQ (i_01 (by omega)) dX4_goesOn_26 hSH138 (by decide) (by decide) (⟨x141, rfl, by omega, hTH138⟩)
  have J25 : ∀ (ls144 : Array Slot) (H143 : Heap) (locsH143 : List Loc) , lv_has ls144 1 [] → TY K G H143 → va_S (AE G [] s.heap.size) s.heap H143 locsH143 → W p l e ({ frames := 0, cells := 0, slots := 0, locals := 0 } : Room) s m (([.ref a0] : List Value).toArray) below meth c H143 locsH143 0 0 Q (F0 m 25 ls144 []) := by
    intro ls144 H143 locsH143  hl145 hTH143 hSH143 
    refine lv_iconst (v := 0) hx hb dX4_goesOn_25 (by decide) ?_
    exact J26 ls144 H143 locsH143 (0) (lv_sub hl145 [] rfl) hTH143 hSH143 (by decide)
  refine lv_aload_n hx hb dX4_goesOn_0 rfl (lv_at hl 0 rfl) ?_
  refine x_gi C hT (ci := 4) (k := 1) rfl inX4 (by decide) wF_X4_32 ga0 rg_78 rfl dX4_goesOn_1 (fun x147 ex147 bx147 => ?_)
  refine lv_if_ne (tgt := 25) hx hb dX4_goesOn_4 (by decide) (fun c148 => ?_) (fun c148 => ?_)
  · have k149 := i_ne c148
    exact J25 ls s.heap [] (lv_sub hl [] rfl) hT hS 
  · have k149 := i_eq c148
    refine lv_aload_n hx hb dX4_goesOn_7 rfl (lv_at hl 0 rfl) ?_
    refine x_gr C hT (ci := 4) (k := 3) rfl inX4 (by decide) wF_X4_18 ga0 rg_78 rfl dX4_goesOn_8 (fun q150 eq150 gq150 => ?_)
    refine lv_aload_n hx hb dX4_goesOn_11 rfl (lv_at hl 0 rfl) ?_
    refine x_gi C hT (ci := 4) (k := 7) rfl inX4 (by decide) wF_X4_42 ga0 rg_78 rfl dX4_goesOn_12 (fun x151 ex151 bx151 => ?_)
    refine x_ai C hT gq150 rg_79 ⟨by omega, by show _ < ((501 : Nat) : Int); omega⟩ dX4_goesOn_15 (fun x152 ex152 bx152 => ?_)
    refine lv_bipush (v := 26) hx hb dX4_goesOn_16 (by decide) ?_
    refine lv_icmp_eq (tgt := 25) hx hb dX4_goesOn_18 (by decide) (fun c153 => ?_) (fun c153 => ?_)
    · have k154 := i_eq c153
      exact J25 ls s.heap [] (lv_sub hl [] rfl) hT hS 
    · have k154 := i_ne c153
      refine lv_iconst (v := 1) hx hb dX4_goesOn_21 (by decide) ?_
      refine lv_goto (tgt := 26) hx hb dX4_goesOn_22 (by decide) ?_
      exact J26 ls s.heap [] (1) (lv_sub hl [] rfl) hT hS (by decide)

set_option maxHeartbeats 4000000 in
set_option maxRecDepth 100000 in
theorem a_X4_isUnit (l : Launch) (K : KE) (G : Nat → Option Nat) (H : Heap) {a0 : Nat} (x1 : Int32) (hT : TY K G H) (ga0 : G a0 = some 78) : MX l K yX4_isUnit cX4_isUnit 2 (some .boolean) 0 0 0 0 [.ref a0, .int x1] H (AE G [] H.size) (fun v H1 => ∃ (r : Int32), v = some (.int r) ∧ (0 ≤ r.toInt ∧ r.toInt ≤ 1) ∧ (r.toInt = 0 ∨ x1.toInt ≤ 23) ∧ TY K G H1) := by
  refine MX.of (by decide +kernel) (Nat.le_of_ble_eq_true rfl) ?_
  intro p e s m below meth c ls Q C hH hl hQ
  subst hH
  have C : CX p K s m _ meth c RX4 cX4_isUnit 2 (some .boolean) "isUnit" := C
  obtain ⟨hx, hb, hml, hown, hts, hKT, hr, hlocks, hnm⟩ := id C
  have hl : lv_has ls 2 [(0, .ref a0), (1, .int x1)] := hl
  have hS : va_S (AE G [] s.heap.size) s.heap s.heap [] := va_S.rf
  have n_0 : (0 : Int32).toInt = 0 := rfl
  have n_1 : (1 : Int32).toInt = 1 := rfl
  have n_6 : (6 : Int32).toInt = 6 := rfl
  have n_11 : (11 : Int32).toInt = 11 := rfl
  have n_19 : (19 : Int32).toInt = 19 := rfl
  have n_20 : (20 : Int32).toInt = 20 := rfl
  have n_23 : (23 : Int32).toInt = 23 := rfl
  refine lv_aload_n hx hb dX4_isUnit_0 rfl (lv_at hl 0 rfl) ?_
  refine x_gi C hT (ci := 4) (k := 8) rfl inX4 (by decide) wF_X4_28 ga0 rg_78 rfl dX4_isUnit_1 (fun x153 ex153 bx153 => ?_)
  refine lv_if_eq (tgt := 33) hx hb dX4_isUnit_4 (by decide) (fun c154 => ?_) (fun c154 => ?_)
  · have k155 := i_eq c154
    refine lv_iload_n hx hb dX4_isUnit_33 rfl (lv_at hl 1 rfl) ?_
    refine lv_bipush (v := 20) hx hb dX4_isUnit_34 (by decide) ?_
    refine lv_icmp_lt (tgt := 49) hx hb dX4_isUnit_36 (by decide) (fun c156 => ?_) (fun c156 => ?_)
    · have k157 := i_lt c156
      refine lv_iconst (v := 0) hx hb dX4_isUnit_49 (by decide) ?_
      exact x_zret C hQ (Or.inl rfl) dX4_isUnit_50 hS (by decide) (by decide) (⟨0, rfl, by decide, by omega, hT⟩)
    · have k157 := i_nlt c156
      refine lv_iload_n hx hb dX4_isUnit_39 rfl (lv_at hl 1 rfl) ?_
      refine lv_bipush (v := 23) hx hb dX4_isUnit_40 (by decide) ?_
      refine lv_icmp_gt (tgt := 49) hx hb dX4_isUnit_42 (by decide) (fun c158 => ?_) (fun c158 => ?_)
      · have k159 := i_lt c158
        refine lv_iconst (v := 0) hx hb dX4_isUnit_49 (by decide) ?_
        exact x_zret C hQ (Or.inl rfl) dX4_isUnit_50 hS (by decide) (by decide) (⟨0, rfl, by decide, by omega, hT⟩)
      · have k159 := i_nlt c158
        refine lv_iconst (v := 1) hx hb dX4_isUnit_45 (by decide) ?_
        refine lv_goto (tgt := 50) hx hb dX4_isUnit_46 (by decide) ?_
        exact x_zret C hQ (Or.inr rfl) dX4_isUnit_50 hS (by decide) (by decide) (⟨1, rfl, by decide, by omega, hT⟩)
  · have k155 := i_ne c154
    refine lv_iload_n hx hb dX4_isUnit_7 rfl (lv_at hl 1 rfl) ?_
    refine lv_bipush (v := 6) hx hb dX4_isUnit_8 (by decide) ?_
    refine lv_icmp_eq (tgt := 25) hx hb dX4_isUnit_10 (by decide) (fun c160 => ?_) (fun c160 => ?_)
    · have k161 := i_eq c160
      refine lv_iconst (v := 1) hx hb dX4_isUnit_25 (by decide) ?_
      refine lv_goto (tgt := 50) hx hb dX4_isUnit_26 (by decide) ?_
      exact x_zret C hQ (Or.inr rfl) dX4_isUnit_50 hS (by decide) (by decide) (⟨1, rfl, by decide, by omega, hT⟩)
    · have k161 := i_ne c160
      refine lv_iload_n hx hb dX4_isUnit_13 rfl (lv_at hl 1 rfl) ?_
      refine lv_bipush (v := 11) hx hb dX4_isUnit_14 (by decide) ?_
      refine lv_icmp_lt (tgt := 29) hx hb dX4_isUnit_16 (by decide) (fun c162 => ?_) (fun c162 => ?_)
      · have k163 := i_lt c162
        refine lv_iconst (v := 0) hx hb dX4_isUnit_29 (by decide) ?_
        refine lv_goto (tgt := 50) hx hb dX4_isUnit_30 (by decide) ?_
        exact x_zret C hQ (Or.inl rfl) dX4_isUnit_50 hS (by decide) (by decide) (⟨0, rfl, by decide, by omega, hT⟩)
      · have k163 := i_nlt c162
        refine lv_iload_n hx hb dX4_isUnit_19 rfl (lv_at hl 1 rfl) ?_
        refine lv_bipush (v := 19) hx hb dX4_isUnit_20 (by decide) ?_
        refine lv_icmp_gt (tgt := 29) hx hb dX4_isUnit_22 (by decide) (fun c164 => ?_) (fun c164 => ?_)
        · have k165 := i_lt c164
          refine lv_iconst (v := 0) hx hb dX4_isUnit_29 (by decide) ?_
          refine lv_goto (tgt := 50) hx hb dX4_isUnit_30 (by decide) ?_
          exact x_zret C hQ (Or.inl rfl) dX4_isUnit_50 hS (by decide) (by decide) (⟨0, rfl, by decide, by omega, hT⟩)
        · have k165 := i_nlt c164
          refine lv_iconst (v := 1) hx hb dX4_isUnit_25 (by decide) ?_
          refine lv_goto (tgt := 50) hx hb dX4_isUnit_26 (by decide) ?_
          exact x_zret C hQ (Or.inr rfl) dX4_isUnit_50 hS (by decide) (by decide) (⟨1, rfl, by decide, by omega, hT⟩)

set_option maxHeartbeats 4000000 in
set_option maxRecDepth 100000 in
theorem a_X4_refuse (l : Launch) (K : KE) (G : Nat → Option Nat) (H : Heap) {a0 : Nat} (x1 : Int32) {mq : Nat} {kq : Nat} (tat : Int32) (hT : TY K G H) (ga0 : G a0 = some 78) (gmq : G mq = some 69) (emq : mq = fR H a0 (K.1.2 4 0)) (gkq : G kq = some 79) (ekq : kq = fR H a0 (K.1.2 4 3)) (etat : tat = fI H a0 (K.1.2 4 7)) : MX l K yX4_refuse cX4_refuse 2 (some .boolean) 0 0 0 0 [.ref a0, .int x1] H (AE G [78] H.size) (fun v H1 => ∃ (r : Int32) (t0 : Int32), v = some (.int r) ∧ (0 ≤ r.toInt ∧ r.toInt ≤ 0) ∧ t0 = fI H1 a0 (K.1.2 4 7) ∧ (t0.toInt = tat.toInt) ∧ mq = fR H1 a0 (K.1.2 4 0) ∧ kq = fR H1 a0 (K.1.2 4 3) ∧ TY K G H1) := by
  refine MX.of (by decide +kernel) (Nat.le_of_ble_eq_true rfl) ?_
  intro p e s m below meth c ls Q C hH hl hQ
  subst hH
  have C : CX p K s m _ meth c RX4 cX4_refuse 2 (some .boolean) "refuse" := C
  obtain ⟨hx, hb, hml, hown, hts, hKT, hr, hlocks, hnm⟩ := id C
  have hl : lv_has ls 2 [(0, .ref a0), (1, .int x1)] := hl
  have hS : va_S (AE G [78] s.heap.size) s.heap s.heap [] := va_S.rf
  have n_0 : (0 : Int32).toInt = 0 := rfl
  have btat := ty_fi (x := tat) (k := 7) etat hT ga0 rg_78 rfl
  refine lv_aload_n hx hb dX4_refuse_0 rfl (lv_at hl 0 rfl) ?_
  refine lv_iload_n hx hb dX4_refuse_1 rfl (lv_at hl 1 rfl) ?_
  refine x_put C hT hS (ci := 4) (k := 1) (v := .int x1) (ty0 := tyX4) rfl inX4 tyX4_ok nmX4 (by decide) rfl wF_X4_32 ga0 rg_78 rfl rfl (okI (by have := i_rng x1; omega) (by have := i_rng x1; omega)) rfl rfl (AE_in ga0 (by decide)) dX4_refuse_2 (fun H161 locsH161 hTH161 hSH161 wH161 => ?_)
  have m162 := emq.trans (Wr.neR wH161 (Or.inr (x_apart hKT hts inX4 tyX4 tyX4_ok nmX4 rfl 0 1 (by decide) (by decide) (by decide)))).symm
  have m163 := ekq.trans (Wr.neR wH161 (Or.inr (x_apart hKT hts inX4 tyX4 tyX4_ok nmX4 rfl 3 1 (by decide) (by decide) (by decide)))).symm
  have m164 := etat.trans (Wr.neI wH161 (Or.inr (x_apart hKT hts inX4 tyX4 tyX4_ok nmX4 rfl 7 1 (by decide) (by decide) (by decide)))).symm
  have m165 := Wr.I wH161
  have m165 := m165.symm
  refine lv_aload_n hx hb dX4_refuse_5 rfl (lv_at hl 0 rfl) ?_
  refine lv_aload_n hx hb dX4_refuse_6 rfl (lv_at hl 0 rfl) ?_
  refine x_gr C hTH161 (ci := 4) (k := 5) rfl inX4 (by decide) wF_X4_25 ga0 rg_78 rfl dX4_refuse_7 (fun q166 eq166 gq166 => ?_)
  refine lv_aload_n hx hb dX4_refuse_10 rfl (lv_at hl 0 rfl) ?_
  refine x_gi C hTH161 (ci := 4) (k := 7) rfl inX4 (by decide) wF_X4_42 ga0 rg_78 rfl dX4_refuse_11 (fun x167 ex167 bx167 => ?_)
  have ux167 : tat = x167 := (m164).trans ex167.symm
  subst ux167
  refine x_ai C hTH161 gq166 rg_81 ⟨by omega, by show _ < ((501 : Nat) : Int); omega⟩ dX4_refuse_14 (fun x168 ex168 bx168 => ?_)
  refine x_put C hTH161 hSH161 (ci := 4) (k := 2) (v := .int x168) (ty0 := tyX4) rfl inX4 tyX4_ok nmX4 (by decide) rfl wF_X4_36 ga0 rg_78 rfl rfl (okI (by have := i_rng x168; omega) (by have := i_rng x168; omega)) rfl rfl (AE_in ga0 (by decide)) dX4_refuse_15 (fun H169 locsH169 hTH169 hSH169 wH169 => ?_)
  have m170 := m162.trans (Wr.neR wH169 (Or.inr (x_apart hKT hts inX4 tyX4 tyX4_ok nmX4 rfl 0 2 (by decide) (by decide) (by decide)))).symm
  have m171 := m163.trans (Wr.neR wH169 (Or.inr (x_apart hKT hts inX4 tyX4 tyX4_ok nmX4 rfl 3 2 (by decide) (by decide) (by decide)))).symm
  have m172 := m164.trans (Wr.neI wH169 (Or.inr (x_apart hKT hts inX4 tyX4 tyX4_ok nmX4 rfl 7 2 (by decide) (by decide) (by decide)))).symm
  have m173 := m165.trans (Wr.neI wH169 (Or.inr (x_apart hKT hts inX4 tyX4 tyX4_ok nmX4 rfl 1 2 (by decide) (by decide) (by decide)))).symm
  have m174 := eq166.trans (Wr.neR wH169 (Or.inr (x_apart hKT hts inX4 tyX4 tyX4_ok nmX4 rfl 5 2 (by decide) (by decide) (by decide)))).symm
  have m175 := Wr.I wH169
  have m175 := m175.symm
  refine lv_iconst (v := 0) hx hb dX4_refuse_18 (by decide) ?_
  exact x_zret C hQ (Or.inl rfl) dX4_refuse_19 hSH169 (by decide) (by decide) (⟨0, tat, rfl, by decide, m172, by omega, m170, m171, hTH169⟩)

set_option maxHeartbeats 4000000 in
set_option maxRecDepth 100000 in
theorem a_X4_number (l : Launch) (K : KE) (G : Nat → Option Nat) (H : Heap) {a0 : Nat} (x1 : Int32) (x2 : Int32) {mq : Nat} {kq : Nat} (F : Int32) (tat : Int32) (hT : TY K G H) (ga0 : G a0 = some 78) (gmq : G mq = some 69) (emq : mq = fR H a0 (K.1.2 4 0)) (gkq : G kq = some 79) (ekq : kq = fR H a0 (K.1.2 4 3)) (etat : tat = fI H a0 (K.1.2 4 7)) (hel0 : fI H kq (F : Int32).toNatClampNeg = 26) (hp0 : tat.toInt ≤ F.toInt) (hp1 : F.toInt ≤ 500) : MX l K yX4_number cX4_number 3 (some .boolean) 1 21 0 0 [.ref a0, .int x1, .int x2] H (AE G [78] H.size) (fun v H1 => ∃ (r : Int32) (t0 : Int32), v = some (.int r) ∧ (0 ≤ r.toInt ∧ r.toInt ≤ 1) ∧ t0 = fI H1 a0 (K.1.2 4 7) ∧ ((r.toInt = 1 ∧ t0.toInt = tat.toInt + 1 ∧ tat.toInt < F.toInt) ∨ (r.toInt = 0 ∧ t0.toInt = tat.toInt)) ∧ mq = fR H1 a0 (K.1.2 4 0) ∧ kq = fR H1 a0 (K.1.2 4 3) ∧ TY K G H1) := by
  refine MX.of (by decide +kernel) (Nat.le_of_ble_eq_true rfl) ?_
  intro p e s m below meth c ls Q C hH hl hQ
  subst hH
  have C : CX p K s m _ meth c RX4 cX4_number 3 (some .boolean) "number" := C
  obtain ⟨hx, hb, hml, hown, hts, hKT, hr, hlocks, hnm⟩ := id C
  have hl : lv_has ls 3 [(0, .ref a0), (1, .int x1), (2, .int x2)] := hl
  have hS : va_S (AE G [78] s.heap.size) s.heap s.heap [] := va_S.rf
  have n_1 : (1 : Int32).toInt = 1 := rfl
  have n_2 : (2 : Int32).toInt = 2 := rfl
  have n_24 : (24 : Int32).toInt = 24 := rfl
  have n_26 : (26 : Int32).toInt = 26 := rfl
  have btat := ty_fi (x := tat) (k := 7) etat hT ga0 rg_78 rfl
  have J46 : ∀ (ls254 : Array Slot) (H253 : Heap) (locsH253 : List Loc) (x256 : Int32), lv_has ls254 3 [(0, .ref a0)] → TY K G H253 → va_S (AE G [78] s.heap.size) s.heap H253 locsH253 → (0 ≤ x256.toInt ∧ x256.toInt ≤ 500) → (x256 = fI H253 a0 (K.1.2 4 7)) → (mq = fR H253 a0 (K.1.2 4 0)) → (kq = fR H253 a0 (K.1.2 4 3)) → (fI H253 kq (F : Int32).toNatClampNeg = 26) → (x256.toInt = tat.toInt) → W p l e ({ frames := 1, cells := 0, slots := 0, locals := 21 } : Room) s m (([.ref a0, .int x1, .int x2] : List Value).toArray) below meth c H253 locsH253 0 0 Q (F0 m 46 ls254 []) := by
    intro ls254 H253 locsH253 x256 hl255 hTH253 hSH253 bx256 ex256 cy257_0 cy257_1 cy257_2 iv46
    refine lv_aload_n hx hb dX4_number_46 rfl (lv_at hl255 0 rfl) ?_
    refine lv_iconst (v := 2) hx hb dX4_number_47 (by decide) ?_
    refine x_V (As := [.int 2]) (rest := []) C (a_X4_refuse l K G H253 (2) (x256) hTH253 ga0 gmq cy257_0 gkq cy257_1 ex256) yo_X4_refuse wM_X4_81 ⟨⟨by decide, by decide⟩, by decide, by decide⟩ (x_rv C hTH253 (ci := 4) rfl ga0 rg_78) rfl hl255.1 rfl (Nat.le_of_ble_eq_true rfl) dX4_number_48 hSH253 (AE_sub (fun _ _ => rfl) (by decide) hSH253.1) (fun vH258 H258 locsH258 pH258 zH258 kH258 hSH258 => ?_)
    obtain ⟨x259, x260, hvH258, bx259, ex260, hrH258, m261, m262, hTH258⟩ := pH258
    subst hvH258
    have m263 := (fI_kept (x_lt hTH253 kH258 gkq (by decide))).trans cy257_2
    have bx260 := ty_fi (x := x260) (k := 7) ex260 hTH258 ga0 rg_78 rfl
    refine W.eq (g2 := F0 m 51 ls254 [.int x259]) rfl ?_
    exact x_zret C hQ (i_01 (by omega)) dX4_number_51 hSH258 (by decide) (by decide) (⟨x259, x260, rfl, by omega, ex260, by omega, m261, m262, hTH258⟩)
  refine lv_aload_n hx hb dX4_number_0 rfl (lv_at hl 0 rfl) ?_
  refine x_gr C hT (ci := 4) (k := 3) rfl inX4 (by decide) wF_X4_18 ga0 rg_78 rfl dX4_number_1 (fun q264 eq264 gq264 => ?_)
  have uq264 : kq = q264 := (ekq).trans eq264.symm
  subst uq264
  refine lv_aload_n hx hb dX4_number_4 rfl (lv_at hl 0 rfl) ?_
  refine x_gi C hT (ci := 4) (k := 7) rfl inX4 (by decide) wF_X4_42 ga0 rg_78 rfl dX4_number_5 (fun x265 ex265 bx265 => ?_)
  have ux265 : tat = x265 := (etat).trans ex265.symm
  subst ux265
  refine x_ai C hT gkq rg_79 ⟨by omega, by show _ < ((501 : Nat) : Int); omega⟩ dX4_number_8 (fun x266 ex266 bx266 => ?_)
  have dx266 := el_hit ex266 hel0
  refine lv_bipush (v := 24) hx hb dX4_number_9 (by decide) ?_
  refine lv_icmp_eq (tgt := 20) hx hb dX4_number_11 (by decide) (fun c267 => ?_) (fun c267 => ?_)
  · have k268 := i_eq c267
    refine lv_aload_n hx hb dX4_number_20 rfl (lv_at hl 0 rfl) ?_
    refine x_gr C hT (ci := 4) (k := 4) rfl inX4 (by decide) wF_X4_22 ga0 rg_78 rfl dX4_number_21 (fun q269 eq269 gq269 => ?_)
    refine lv_aload_n hx hb dX4_number_24 rfl (lv_at hl 0 rfl) ?_
    refine x_gi C hT (ci := 4) (k := 7) rfl inX4 (by decide) wF_X4_42 ga0 rg_78 rfl dX4_number_25 (fun x270 ex270 bx270 => ?_)
    have ux270 : tat = x270 := (etat).trans ex270.symm
    subst ux270
    refine x_ai C hT gq269 rg_80 ⟨by omega, by show _ < ((501 : Nat) : Int); omega⟩ dX4_number_28 (fun x271 ex271 bx271 => ?_)
    refine lv_iload_n hx hb dX4_number_29 rfl (lv_at hl 1 rfl) ?_
    refine lv_icmp_lt (tgt := 46) hx hb dX4_number_30 (by decide) (fun c272 => ?_) (fun c272 => ?_)
    · have k273 := i_lt c272
      exact J46 ls s.heap [] (tat) (lv_sub hl [0] rfl) hT hS (by have := i_rng tat; omega) etat emq ekq hel0 (by omega)
    · have k273 := i_nlt c272
      refine lv_aload_n hx hb dX4_number_33 rfl (lv_at hl 0 rfl) ?_
      refine x_gr C hT (ci := 4) (k := 4) rfl inX4 (by decide) wF_X4_22 ga0 rg_78 rfl dX4_number_34 (fun q274 eq274 gq274 => ?_)
      have uq274 : q269 = q274 := (eq269).trans eq274.symm
      subst uq274
      refine lv_aload_n hx hb dX4_number_37 rfl (lv_at hl 0 rfl) ?_
      refine x_gi C hT (ci := 4) (k := 7) rfl inX4 (by decide) wF_X4_42 ga0 rg_78 rfl dX4_number_38 (fun x275 ex275 bx275 => ?_)
      have ux275 : tat = x275 := (etat).trans ex275.symm
      subst ux275
      refine x_ai C hT gq269 rg_80 ⟨by omega, by show _ < ((501 : Nat) : Int); omega⟩ dX4_number_41 (fun x276 ex276 bx276 => ?_)
      refine lv_iload_n hx hb dX4_number_42 rfl (lv_at hl 2 rfl) ?_
      refine lv_icmp_le (tgt := 52) hx hb dX4_number_43 (by decide) (fun c277 => ?_) (fun c277 => ?_)
      · have k278 := i_le c277
        refine lv_aload_n hx hb dX4_number_52 rfl (lv_at hl 0 rfl) ?_
        refine lv_dup hx hb dX4_number_53 rfl ?_
        refine x_gi C hT (ci := 4) (k := 7) rfl inX4 (by decide) wF_X4_42 ga0 rg_78 rfl dX4_number_54 (fun x279 ex279 bx279 => ?_)
        have ux279 : tat = x279 := (etat).trans ex279.symm
        subst ux279
        refine lv_iconst (v := 1) hx hb dX4_number_57 (by decide) ?_
        refine lv_iadd hx hb dX4_number_58 ?_
        refine lv_topi (fun x280 ex280 => ?_)
        have tx280 := i_add ex280 (by omega)
        have fz282 : 0 ≤ x280.toInt ∧ x280.toInt ≤ 500 := by have := i_rng x280; omega
        refine x_put C hT hS (ci := 4) (k := 7) (v := .int x280) (ty0 := tyX4) rfl inX4 tyX4_ok nmX4 (by decide) rfl wF_X4_42 ga0 rg_78 rfl rfl (okI (by have := i_rng x280; omega) (by have := i_rng x280; omega)) rfl rfl (AE_in ga0 (by decide)) dX4_number_59 (fun H281 locsH281 hTH281 hSH281 wH281 => ?_)
        have m283 := emq.trans (Wr.neR wH281 (Or.inr (x_apart hKT hts inX4 tyX4 tyX4_ok nmX4 rfl 0 7 (by decide) (by decide) (by decide)))).symm
        have m284 := ekq.trans (Wr.neR wH281 (Or.inr (x_apart hKT hts inX4 tyX4 tyX4_ok nmX4 rfl 3 7 (by decide) (by decide) (by decide)))).symm
        have m286 := (Wr.neI wH281 (Or.inl (G_ne gkq ga0 (by decide)))).trans hel0
        have m287 := eq269.trans (Wr.neR wH281 (Or.inr (x_apart hKT hts inX4 tyX4 tyX4_ok nmX4 rfl 4 7 (by decide) (by decide) (by decide)))).symm
        have m288 := Wr.I wH281
        have m288 := m288.symm
        refine lv_iconst (v := 1) hx hb dX4_number_62 (by decide) ?_
        exact x_zret C hQ (Or.inr rfl) dX4_number_63 hSH281 (by decide) (by decide) (⟨1, x280, rfl, by decide, m288, by omega, m283, m284, hTH281⟩)
      · have k278 := i_nle c277
        exact J46 ls s.heap [] (tat) (lv_sub hl [0] rfl) hT hS (by have := i_rng tat; omega) etat emq ekq hel0 (by omega)
  · have k268 := i_ne c267
    refine lv_aload_n hx hb dX4_number_14 rfl (lv_at hl 0 rfl) ?_
    refine lv_iconst (v := 1) hx hb dX4_number_15 (by decide) ?_
    refine x_V (As := [.int 1]) (rest := []) C (a_X4_refuse l K G s.heap (1) (tat) hT ga0 gmq emq gkq ekq etat) yo_X4_refuse wM_X4_81 ⟨⟨by decide, by decide⟩, by decide, by decide⟩ (x_rv C hT (ci := 4) rfl ga0 rg_78) rfl hl.1 rfl (Nat.le_of_ble_eq_true rfl) dX4_number_16 hS (AE_sub (fun _ _ => rfl) (by decide) hS.1) (fun vH289 H289 locsH289 pH289 zH289 kH289 hSH289 => ?_)
    obtain ⟨x290, x291, hvH289, bx290, ex291, hrH289, m292, m293, hTH289⟩ := pH289
    subst hvH289
    have m294 := (fI_kept (x_lt hT kH289 gkq (by decide))).trans hel0
    have bx291 := ty_fi (x := x291) (k := 7) ex291 hTH289 ga0 rg_78 rfl
    refine W.eq (g2 := F0 m 19 ls [.int x290]) rfl ?_
    exact x_zret C hQ (i_01 (by omega)) dX4_number_19 hSH289 (by decide) (by decide) (⟨x290, x291, rfl, by omega, ex291, by omega, m292, m293, hTH289⟩)

set_option maxHeartbeats 4000000 in
set_option maxRecDepth 100000 in
theorem a_X4_lawHead (l : Launch) (K : KE) (G : Nat → Option Nat) (H : Heap) {a0 : Nat} (x1 : Int32) (x2 : Int32) {mq : Nat} {kq : Nat} (F : Int32) (tat : Int32) (li : Int32) (hT : TY K G H) (ga0 : G a0 = some 78) (hx1 : 0 ≤ x1.toInt ∧ x1.toInt ≤ 15) (gmq : G mq = some 69) (emq : mq = fR H a0 (K.1.2 4 0)) (gkq : G kq = some 79) (ekq : kq = fR H a0 (K.1.2 4 3)) (etat : tat = fI H a0 (K.1.2 4 7)) (eli : li = fI H mq (K.1.2 7 0)) (hel0 : fI H kq (F : Int32).toNatClampNeg = 26) (hp0 : tat.toInt ≤ F.toInt) (hp1 : F.toInt ≤ 500) : MX l K yX4_lawHead cX4_lawHead 3 (some .boolean) 2 43 0 0 [.ref a0, .int x1, .int x2] H (AE G [78, 71] H.size) (fun v H1 => ∃ (r : Int32) (t0 : Int32), v = some (.int r) ∧ (0 ≤ r.toInt ∧ r.toInt ≤ 1) ∧ t0 = fI H1 a0 (K.1.2 4 7) ∧ (t0.toInt ≤ F.toInt ∧ li.toInt = li.toInt) ∧ mq = fR H1 a0 (K.1.2 4 0) ∧ kq = fR H1 a0 (K.1.2 4 3) ∧ TY K G H1) := by
  refine MX.of (by decide +kernel) (Nat.le_of_ble_eq_true rfl) ?_
  intro p e s m below meth c ls Q C hH hl hQ
  subst hH
  have C : CX p K s m _ meth c RX4 cX4_lawHead 3 (some .boolean) "lawHead" := C
  obtain ⟨hx, hb, hml, hown, hts, hKT, hr, hlocks, hnm⟩ := id C
  have hl : lv_has ls 3 [(0, .ref a0), (1, .int x1), (2, .int x2)] := hl
  have hS : va_S (AE G [78, 71] s.heap.size) s.heap s.heap [] := va_S.rf
  have n_0 : (0 : Int32).toInt = 0 := rfl
  have n_1 : (1 : Int32).toInt = 1 := rfl
  have n_2 : (2 : Int32).toInt = 2 := rfl
  have n_3 : (3 : Int32).toInt = 3 := rfl
  have btat := ty_fi (x := tat) (k := 7) etat hT ga0 rg_78 rfl
  have bli := ty_fi (x := li) (k := 0) eli hT gmq rg_69 rfl
  refine lv_iload_n hx hb dX4_lawHead_0 rfl (lv_at hl 2 rfl) ?_
  refine lv_iconst (v := 3) hx hb dX4_lawHead_1 (by decide) ?_
  refine lv_icmp_ne (tgt := 7) hx hb dX4_lawHead_2 (by decide) (fun c201 => ?_) (fun c201 => ?_)
  · have k202 := i_ne c201
    refine lv_aload_n hx hb dX4_lawHead_7 rfl (lv_at hl 0 rfl) ?_
    refine lv_iconst (v := 0) hx hb dX4_lawHead_8 (by decide) ?_
    refine lv_iconst (v := 2) hx hb dX4_lawHead_9 (by decide) ?_
    refine x_V (As := [.int 0, .int 2]) (rest := []) C (a_X4_number l K G s.heap (0) (2) (F) (tat) hT ga0 gmq emq gkq ekq etat hel0 (by omega) (by omega)) yo_X4_number wM_X4_119 ⟨⟨by decide, by decide⟩, by decide, by decide⟩ (x_rv C hT (ci := 4) rfl ga0 rg_78) rfl hl.1 rfl (Nat.le_of_ble_eq_true rfl) dX4_lawHead_10 hS (AE_sub (fun _ _ => rfl) (by decide) hS.1) (fun vH203 H203 locsH203 pH203 zH203 kH203 hSH203 => ?_)
    obtain ⟨x204, x205, hvH203, bx204, ex205, hrH203, m206, m207, hTH203⟩ := pH203
    subst hvH203
    have m208 := (eli).trans (fI_kept (x_lt hT kH203 gmq (by decide))).symm
    have m209 := (fI_kept (x_lt hT kH203 gkq (by decide))).trans hel0
    have bx205 := ty_fi (x := x205) (k := 7) ex205 hTH203 ga0 rg_78 rfl
    refine W.eq (g2 := F0 m 13 ls [.int x204]) rfl ?_
    refine lv_if_ne (tgt := 18) hx hb dX4_lawHead_13 (by decide) (fun c210 => ?_) (fun c210 => ?_)
    · have k211 := i_ne c210
      refine lv_aload_n hx hb dX4_lawHead_18 rfl (lv_at hl 0 rfl) ?_
      refine x_gr C hTH203 (ci := 4) (k := 0) rfl inX4 (by decide) wF_X4_12 ga0 rg_78 rfl dX4_lawHead_19 (fun q212 eq212 gq212 => ?_)
      have uq212 : mq = q212 := (m206).trans eq212.symm
      subst uq212
      refine x_gr C hTH203 (ci := 7) (k := 2) rfl inX7 (by decide) wF_X4_90 gmq rg_69 rfl dX4_lawHead_22 (fun q213 eq213 gq213 => ?_)
      refine lv_iload_n hx hb dX4_lawHead_25 rfl (lv_at hl 1 rfl) ?_
      refine lv_aload_n hx hb dX4_lawHead_26 rfl (lv_at hl 0 rfl) ?_
      refine x_gr C hTH203 (ci := 4) (k := 4) rfl inX4 (by decide) wF_X4_22 ga0 rg_78 rfl dX4_lawHead_27 (fun q214 eq214 gq214 => ?_)
      refine lv_aload_n hx hb dX4_lawHead_30 rfl (lv_at hl 0 rfl) ?_
      refine x_gi C hTH203 (ci := 4) (k := 7) rfl inX4 (by decide) wF_X4_42 ga0 rg_78 rfl dX4_lawHead_31 (fun x215 ex215 bx215 => ?_)
      have ux215 : x205 = x215 := (ex205).trans ex215.symm
      subst ux215
      refine lv_iconst (v := 1) hx hb dX4_lawHead_34 (by decide) ?_
      refine lv_isub hx hb dX4_lawHead_35 ?_
      refine lv_topi (fun x216 ex216 => ?_)
      have tx216 := i_sub ex216 (by omega)
      refine x_ai C hTH203 gq214 rg_80 ⟨by omega, by show _ < ((501 : Nat) : Int); omega⟩ dX4_lawHead_36 (fun x217 ex217 bx217 => ?_)
      refine x_iast C hTH203 hSH203 gq213 rg_71 (by omega) (by show _ < ((16 : Nat) : Int); omega) ⟨by have := i_rng x217; omega, by have := i_rng x217; omega⟩ (AE_in gq213 (by decide)) dX4_lawHead_37 (fun H218 locsH218 hTH218 hSH218 wH218 => ?_)
      have m219 := m208.trans (Wr.neI wH218 (Or.inl (G_ne gmq gq213 (by decide)))).symm
      have m220 := (Wr.neI wH218 (Or.inl (G_ne gkq gq213 (by decide)))).trans m209
      have m221 := m206.trans (Wr.neR wH218 (Or.inl (G_ne ga0 gq213 (by decide)))).symm
      have m222 := m207.trans (Wr.neR wH218 (Or.inl (G_ne ga0 gq213 (by decide)))).symm
      have m223 := ex205.trans (Wr.neI wH218 (Or.inl (G_ne ga0 gq213 (by decide)))).symm
      have m224 := eq213.trans (Wr.neR wH218 (Or.inl (G_ne gmq gq213 (by decide)))).symm
      have m225 := eq214.trans (Wr.neR wH218 (Or.inl (G_ne ga0 gq213 (by decide)))).symm
      refine lv_iconst (v := 1) hx hb dX4_lawHead_38 (by decide) ?_
      exact x_zret C hQ (Or.inr rfl) dX4_lawHead_39 hSH218 (by decide) (by decide) (⟨1, x205, rfl, by decide, m223, by omega, m221, m222, hTH218⟩)
    · have k211 := i_eq c210
      refine lv_iconst (v := 0) hx hb dX4_lawHead_16 (by decide) ?_
      exact x_zret C hQ (Or.inl rfl) dX4_lawHead_17 hSH203 (by decide) (by decide) (⟨0, x205, rfl, by decide, ex205, by omega, m206, m207, hTH203⟩)
  · have k202 := i_eq c201
    refine lv_iconst (v := 1) hx hb dX4_lawHead_5 (by decide) ?_
    exact x_zret C hQ (Or.inr rfl) dX4_lawHead_6 hS (by decide) (by decide) (⟨1, tat, rfl, by decide, etat, by omega, emq, ekq, hT⟩)

set_option maxHeartbeats 4000000 in
set_option maxRecDepth 100000 in
theorem a_X4_jobHead (l : Launch) (K : KE) (G : Nat → Option Nat) (H : Heap) {a0 : Nat} (x1 : Int32) (x2 : Int32) {mq : Nat} {kq : Nat} (F : Int32) (tat : Int32) (li : Int32) (hT : TY K G H) (ga0 : G a0 = some 78) (hx1 : 0 ≤ x1.toInt ∧ x1.toInt ≤ 15) (gmq : G mq = some 69) (emq : mq = fR H a0 (K.1.2 4 0)) (gkq : G kq = some 79) (ekq : kq = fR H a0 (K.1.2 4 3)) (etat : tat = fI H a0 (K.1.2 4 7)) (eli : li = fI H mq (K.1.2 7 0)) (hel0 : fI H kq (F : Int32).toNatClampNeg = 26) (hp0 : tat.toInt ≤ F.toInt) (hp1 : F.toInt ≤ 500) : MX l K yX4_jobHead cX4_jobHead 3 (some .boolean) 2 43 0 0 [.ref a0, .int x1, .int x2] H (AE G [78, 71, 72, 73] H.size) (fun v H1 => ∃ (r : Int32) (t0 : Int32), v = some (.int r) ∧ (0 ≤ r.toInt ∧ r.toInt ≤ 1) ∧ t0 = fI H1 a0 (K.1.2 4 7) ∧ (t0.toInt ≤ F.toInt ∧ li.toInt = li.toInt) ∧ mq = fR H1 a0 (K.1.2 4 0) ∧ kq = fR H1 a0 (K.1.2 4 3) ∧ TY K G H1) := by
  refine MX.of (by decide +kernel) (Nat.le_of_ble_eq_true rfl) ?_
  intro p e s m below meth c ls Q C hH hl hQ
  subst hH
  have C : CX p K s m _ meth c RX4 cX4_jobHead 3 (some .boolean) "jobHead" := C
  obtain ⟨hx, hb, hml, hown, hts, hKT, hr, hlocks, hnm⟩ := id C
  have hl : lv_has ls 3 [(0, .ref a0), (1, .int x1), (2, .int x2)] := hl
  have hS : va_S (AE G [78, 71, 72, 73] s.heap.size) s.heap s.heap [] := va_S.rf
  have n_0 : (0 : Int32).toInt = 0 := rfl
  have n_1 : (1 : Int32).toInt = 1 := rfl
  have n_5 : (5 : Int32).toInt = 5 := rfl
  have n_6 : (6 : Int32).toInt = 6 := rfl
  have n_9 : (9 : Int32).toInt = 9 := rfl
  have n_15 : (15 : Int32).toInt = 15 := rfl
  have n_99 : (99 : Int32).toInt = 99 := rfl
  have btat := ty_fi (x := tat) (k := 7) etat hT ga0 rg_78 rfl
  have bli := ty_fi (x := li) (k := 0) eli hT gmq rg_69 rfl
  have J69 : ∀ (ls462 : Array Slot) (H461 : Heap) (locsH461 : List Loc) (x464 : Int32) (x465 : Int32), lv_has ls462 3 [(0, .ref a0), (1, .int x1), (2, .int x2)] → TY K G H461 → va_S (AE G [78, 71, 72, 73] s.heap.size) s.heap H461 locsH461 → (0 ≤ x464.toInt ∧ x464.toInt ≤ 500) → (0 ≤ x465.toInt ∧ x465.toInt ≤ 16) → (x464 = fI H461 a0 (K.1.2 4 7)) → (x465 = fI H461 mq (K.1.2 7 0)) → (mq = fR H461 a0 (K.1.2 4 0)) → (kq = fR H461 a0 (K.1.2 4 3)) → (fI H461 kq (F : Int32).toNatClampNeg = 26) → (x464.toInt ≤ F.toInt ∧ x465.toInt = li.toInt) → W p l e ({ frames := 2, cells := 0, slots := 0, locals := 43 } : Room) s m (([.ref a0, .int x1, .int x2] : List Value).toArray) below meth c H461 locsH461 0 0 Q (F0 m 69 ls462 []) := by
    intro ls462 H461 locsH461 x464 x465 hl463 hTH461 hSH461 bx464 bx465 ex464 ex465 cy466_0 cy466_1 cy466_2 iv69
    have J100 : ∀ (ls468 : Array Slot) (H467 : Heap) (locsH467 : List Loc) (x470 : Int32) (x471 : Int32), lv_has ls468 3 [(0, .ref a0), (1, .int x1)] → TY K G H467 → va_S (AE G [78, 71, 72, 73] s.heap.size) s.heap H467 locsH467 → (0 ≤ x470.toInt ∧ x470.toInt ≤ 500) → (0 ≤ x471.toInt ∧ x471.toInt ≤ 16) → (x470 = fI H467 a0 (K.1.2 4 7)) → (x471 = fI H467 mq (K.1.2 7 0)) → (mq = fR H467 a0 (K.1.2 4 0)) → (kq = fR H467 a0 (K.1.2 4 3)) → (fI H467 kq (F : Int32).toNatClampNeg = 26) → (1 ≤ x470.toInt ∧ x470.toInt ≤ F.toInt ∧ x471.toInt = li.toInt) → W p l e ({ frames := 2, cells := 0, slots := 0, locals := 43 } : Room) s m (([.ref a0, .int x1, .int x2] : List Value).toArray) below meth c H467 locsH467 0 0 Q (F0 m 100 ls468 []) := by
      intro ls468 H467 locsH467 x470 x471 hl469 hTH467 hSH467 bx470 bx471 ex470 ex471 cy472_0 cy472_1 cy472_2 iv100
      refine lv_aload_n hx hb dX4_jobHead_100 rfl (lv_at hl469 0 rfl) ?_
      refine x_gr C hTH467 (ci := 4) (k := 0) rfl inX4 (by decide) wF_X4_12 ga0 rg_78 rfl dX4_jobHead_101 (fun q473 eq473 gq473 => ?_)
      have uq473 : mq = q473 := (cy472_0).trans eq473.symm
      subst uq473
      refine x_gr C hTH467 (ci := 7) (k := 4) rfl inX7 (by decide) wF_X4_125 gmq rg_69 rfl dX4_jobHead_104 (fun q474 eq474 gq474 => ?_)
      refine lv_iload_n hx hb dX4_jobHead_107 rfl (lv_at hl469 1 rfl) ?_
      refine lv_aload_n hx hb dX4_jobHead_108 rfl (lv_at hl469 0 rfl) ?_
      refine x_gr C hTH467 (ci := 4) (k := 4) rfl inX4 (by decide) wF_X4_22 ga0 rg_78 rfl dX4_jobHead_109 (fun q475 eq475 gq475 => ?_)
      refine lv_aload_n hx hb dX4_jobHead_112 rfl (lv_at hl469 0 rfl) ?_
      refine x_gi C hTH467 (ci := 4) (k := 7) rfl inX4 (by decide) wF_X4_42 ga0 rg_78 rfl dX4_jobHead_113 (fun x476 ex476 bx476 => ?_)
      have ux476 : x470 = x476 := (ex470).trans ex476.symm
      subst ux476
      refine lv_iconst (v := 1) hx hb dX4_jobHead_116 (by decide) ?_
      refine lv_isub hx hb dX4_jobHead_117 ?_
      refine lv_topi (fun x477 ex477 => ?_)
      have tx477 := i_sub ex477 (by omega)
      refine x_ai C hTH467 gq475 rg_80 ⟨by omega, by show _ < ((501 : Nat) : Int); omega⟩ dX4_jobHead_118 (fun x478 ex478 bx478 => ?_)
      refine x_iast C hTH467 hSH467 gq474 rg_73 (by omega) (by show _ < ((16 : Nat) : Int); omega) ⟨by have := i_rng x478; omega, by have := i_rng x478; omega⟩ (AE_in gq474 (by decide)) dX4_jobHead_119 (fun H479 locsH479 hTH479 hSH479 wH479 => ?_)
      have m480 := ex470.trans (Wr.neI wH479 (Or.inl (G_ne ga0 gq474 (by decide)))).symm
      have m481 := ex471.trans (Wr.neI wH479 (Or.inl (G_ne gmq gq474 (by decide)))).symm
      have m482 := cy472_0.trans (Wr.neR wH479 (Or.inl (G_ne ga0 gq474 (by decide)))).symm
      have m483 := cy472_1.trans (Wr.neR wH479 (Or.inl (G_ne ga0 gq474 (by decide)))).symm
      have m484 := (Wr.neI wH479 (Or.inl (G_ne gkq gq474 (by decide)))).trans cy472_2
      have m485 := eq474.trans (Wr.neR wH479 (Or.inl (G_ne gmq gq474 (by decide)))).symm
      have m486 := eq475.trans (Wr.neR wH479 (Or.inl (G_ne ga0 gq474 (by decide)))).symm
      refine lv_iconst (v := 1) hx hb dX4_jobHead_120 (by decide) ?_
      exact x_zret C hQ (Or.inr rfl) dX4_jobHead_121 hSH479 (by decide) (by decide) (⟨1, x470, rfl, by decide, m480, by omega, m482, m483, hTH479⟩)
    have J98 : ∀ (ls488 : Array Slot) (H487 : Heap) (locsH487 : List Loc) (x490 : Int32) (x491 : Int32), lv_has ls488 3 [] → TY K G H487 → va_S (AE G [78, 71, 72, 73] s.heap.size) s.heap H487 locsH487 → (0 ≤ x490.toInt ∧ x490.toInt ≤ 500) → (0 ≤ x491.toInt ∧ x491.toInt ≤ 16) → (x490 = fI H487 a0 (K.1.2 4 7)) → (x491 = fI H487 mq (K.1.2 7 0)) → (mq = fR H487 a0 (K.1.2 4 0)) → (kq = fR H487 a0 (K.1.2 4 3)) → (fI H487 kq (F : Int32).toNatClampNeg = 26) → (x490.toInt ≤ F.toInt ∧ x491.toInt = li.toInt) → W p l e ({ frames := 2, cells := 0, slots := 0, locals := 43 } : Room) s m (([.ref a0, .int x1, .int x2] : List Value).toArray) below meth c H487 locsH487 0 0 Q (F0 m 98 ls488 []) := by
      intro ls488 H487 locsH487 x490 x491 hl489 hTH487 hSH487 bx490 bx491 ex490 ex491 cy492_0 cy492_1 cy492_2 iv98
      refine lv_iconst (v := 0) hx hb dX4_jobHead_98 (by decide) ?_
      exact x_zret C hQ (Or.inl rfl) dX4_jobHead_99 hSH487 (by decide) (by decide) (⟨0, x490, rfl, by decide, ex490, by omega, cy492_0, cy492_1, hTH487⟩)
    refine lv_iload_n hx hb dX4_jobHead_69 rfl (lv_at hl463 2 rfl) ?_
    refine lv_bipush (v := 6) hx hb dX4_jobHead_70 (by decide) ?_
    refine lv_icmp_ne (tgt := 88) hx hb dX4_jobHead_72 (by decide) (fun c493 => ?_) (fun c493 => ?_)
    · have k494 := i_ne c493
      refine lv_aload_n hx hb dX4_jobHead_88 rfl (lv_at hl463 0 rfl) ?_
      refine lv_iconst (v := 1) hx hb dX4_jobHead_89 (by decide) ?_
      refine lv_bipush (v := 9) hx hb dX4_jobHead_90 (by decide) ?_
      refine x_V (As := [.int 1, .int 9]) (rest := []) C (a_X4_number l K G H461 (1) (9) (F) (x464) hTH461 ga0 gmq cy466_0 gkq cy466_1 ex464 cy466_2 (by omega) (by omega)) yo_X4_number wM_X4_119 ⟨⟨by decide, by decide⟩, by decide, by decide⟩ (x_rv C hTH461 (ci := 4) rfl ga0 rg_78) rfl hl463.1 rfl (Nat.le_of_ble_eq_true rfl) dX4_jobHead_92 hSH461 (AE_sub (fun _ _ => rfl) (by decide) hSH461.1) (fun vH495 H495 locsH495 pH495 zH495 kH495 hSH495 => ?_)
      obtain ⟨x496, x497, hvH495, bx496, ex497, hrH495, m498, m499, hTH495⟩ := pH495
      subst hvH495
      have m500 := (ex465).trans (fI_kept (x_lt hTH461 kH495 gmq (by decide))).symm
      have m501 := (fI_kept (x_lt hTH461 kH495 gkq (by decide))).trans cy466_2
      have bx497 := ty_fi (x := x497) (k := 7) ex497 hTH495 ga0 rg_78 rfl
      refine W.eq (g2 := F0 m 95 ls462 [.int x496]) rfl ?_
      refine lv_if_ne (tgt := 100) hx hb dX4_jobHead_95 (by decide) (fun c502 => ?_) (fun c502 => ?_)
      · have k503 := i_ne c502
        exact J100 ls462 H495 locsH495 (x497) (x465) (lv_sub hl463 [0, 1] rfl) hTH495 hSH495 (by have := i_rng x497; omega) (by have := i_rng x465; omega) ex497 m500 m498 m499 m501 (by omega)
      · have k503 := i_eq c502
        exact J98 ls462 H495 locsH495 (x497) (x465) (lv_sub hl463 [] rfl) hTH495 hSH495 (by have := i_rng x497; omega) (by have := i_rng x465; omega) ex497 m500 m498 m499 m501 (by omega)
    · have k494 := i_eq c493
      refine lv_aload_n hx hb dX4_jobHead_75 rfl (lv_at hl463 0 rfl) ?_
      refine lv_iconst (v := 0) hx hb dX4_jobHead_76 (by decide) ?_
      refine lv_bipush (v := 99) hx hb dX4_jobHead_77 (by decide) ?_
      refine x_V (As := [.int 0, .int 99]) (rest := []) C (a_X4_number l K G H461 (0) (99) (F) (x464) hTH461 ga0 gmq cy466_0 gkq cy466_1 ex464 cy466_2 (by omega) (by omega)) yo_X4_number wM_X4_119 ⟨⟨by decide, by decide⟩, by decide, by decide⟩ (x_rv C hTH461 (ci := 4) rfl ga0 rg_78) rfl hl463.1 rfl (Nat.le_of_ble_eq_true rfl) dX4_jobHead_79 hSH461 (AE_sub (fun _ _ => rfl) (by decide) hSH461.1) (fun vH504 H504 locsH504 pH504 zH504 kH504 hSH504 => ?_)
      obtain ⟨x505, x506, hvH504, bx505, ex506, hrH504, m507, m508, hTH504⟩ := pH504
      subst hvH504
      have m509 := (ex465).trans (fI_kept (x_lt hTH461 kH504 gmq (by decide))).symm
      have m510 := (fI_kept (x_lt hTH461 kH504 gkq (by decide))).trans cy466_2
      have bx506 := ty_fi (x := x506) (k := 7) ex506 hTH504 ga0 rg_78 rfl
      refine W.eq (g2 := F0 m 82 ls462 [.int x505]) rfl ?_
      refine lv_if_eq (tgt := 98) hx hb dX4_jobHead_82 (by decide) (fun c511 => ?_) (fun c511 => ?_)
      · have k512 := i_eq c511
        exact J98 ls462 H504 locsH504 (x506) (x465) (lv_sub hl463 [] rfl) hTH504 hSH504 (by have := i_rng x506; omega) (by have := i_rng x465; omega) ex506 m509 m507 m508 m510 (by omega)
      · have k512 := i_ne c511
        refine lv_goto (tgt := 100) hx hb dX4_jobHead_85 (by decide) ?_
        exact J100 ls462 H504 locsH504 (x506) (x465) (lv_sub hl463 [0, 1] rfl) hTH504 hSH504 (by have := i_rng x506; omega) (by have := i_rng x465; omega) ex506 m509 m507 m508 m510 (by omega)
  refine lv_aload_n hx hb dX4_jobHead_0 rfl (lv_at hl 0 rfl) ?_
  refine lv_iconst (v := 0) hx hb dX4_jobHead_1 (by decide) ?_
  refine lv_bipush (v := 15) hx hb dX4_jobHead_2 (by decide) ?_
  refine x_V (As := [.int 0, .int 15]) (rest := []) C (a_X4_number l K G s.heap (0) (15) (F) (tat) hT ga0 gmq emq gkq ekq etat hel0 (by omega) (by omega)) yo_X4_number wM_X4_119 ⟨⟨by decide, by decide⟩, by decide, by decide⟩ (x_rv C hT (ci := 4) rfl ga0 rg_78) rfl hl.1 rfl (Nat.le_of_ble_eq_true rfl) dX4_jobHead_4 hS (AE_sub (fun _ _ => rfl) (by decide) hS.1) (fun vH513 H513 locsH513 pH513 zH513 kH513 hSH513 => ?_)
  obtain ⟨x514, x515, hvH513, bx514, ex515, hrH513, m516, m517, hTH513⟩ := pH513
  subst hvH513
  have m518 := (eli).trans (fI_kept (x_lt hT kH513 gmq (by decide))).symm
  have m519 := (fI_kept (x_lt hT kH513 gkq (by decide))).trans hel0
  have bx515 := ty_fi (x := x515) (k := 7) ex515 hTH513 ga0 rg_78 rfl
  refine W.eq (g2 := F0 m 7 ls [.int x514]) rfl ?_
  refine lv_if_ne (tgt := 12) hx hb dX4_jobHead_7 (by decide) (fun c520 => ?_) (fun c520 => ?_)
  · have k521 := i_ne c520
    refine lv_aload_n hx hb dX4_jobHead_12 rfl (lv_at hl 0 rfl) ?_
    refine x_gr C hTH513 (ci := 4) (k := 0) rfl inX4 (by decide) wF_X4_12 ga0 rg_78 rfl dX4_jobHead_13 (fun q522 eq522 gq522 => ?_)
    have uq522 : mq = q522 := (m516).trans eq522.symm
    subst uq522
    refine x_gr C hTH513 (ci := 7) (k := 2) rfl inX7 (by decide) wF_X4_90 gmq rg_69 rfl dX4_jobHead_16 (fun q523 eq523 gq523 => ?_)
    refine lv_iload_n hx hb dX4_jobHead_19 rfl (lv_at hl 1 rfl) ?_
    refine lv_aload_n hx hb dX4_jobHead_20 rfl (lv_at hl 0 rfl) ?_
    refine x_gr C hTH513 (ci := 4) (k := 4) rfl inX4 (by decide) wF_X4_22 ga0 rg_78 rfl dX4_jobHead_21 (fun q524 eq524 gq524 => ?_)
    refine lv_aload_n hx hb dX4_jobHead_24 rfl (lv_at hl 0 rfl) ?_
    refine x_gi C hTH513 (ci := 4) (k := 7) rfl inX4 (by decide) wF_X4_42 ga0 rg_78 rfl dX4_jobHead_25 (fun x525 ex525 bx525 => ?_)
    have ux525 : x515 = x525 := (ex515).trans ex525.symm
    subst ux525
    refine lv_iconst (v := 1) hx hb dX4_jobHead_28 (by decide) ?_
    refine lv_isub hx hb dX4_jobHead_29 ?_
    refine lv_topi (fun x526 ex526 => ?_)
    have tx526 := i_sub ex526 (by omega)
    refine x_ai C hTH513 gq524 rg_80 ⟨by omega, by show _ < ((501 : Nat) : Int); omega⟩ dX4_jobHead_30 (fun x527 ex527 bx527 => ?_)
    refine x_iast C hTH513 hSH513 gq523 rg_71 (by omega) (by show _ < ((16 : Nat) : Int); omega) ⟨by have := i_rng x527; omega, by have := i_rng x527; omega⟩ (AE_in gq523 (by decide)) dX4_jobHead_31 (fun H528 locsH528 hTH528 hSH528 wH528 => ?_)
    have m529 := m518.trans (Wr.neI wH528 (Or.inl (G_ne gmq gq523 (by decide)))).symm
    have m530 := (Wr.neI wH528 (Or.inl (G_ne gkq gq523 (by decide)))).trans m519
    have m531 := m516.trans (Wr.neR wH528 (Or.inl (G_ne ga0 gq523 (by decide)))).symm
    have m532 := m517.trans (Wr.neR wH528 (Or.inl (G_ne ga0 gq523 (by decide)))).symm
    have m533 := ex515.trans (Wr.neI wH528 (Or.inl (G_ne ga0 gq523 (by decide)))).symm
    have m534 := eq523.trans (Wr.neR wH528 (Or.inl (G_ne gmq gq523 (by decide)))).symm
    have m535 := eq524.trans (Wr.neR wH528 (Or.inl (G_ne ga0 gq523 (by decide)))).symm
    refine lv_iload_n hx hb dX4_jobHead_32 rfl (lv_at hl 2 rfl) ?_
    refine lv_iconst (v := 5) hx hb dX4_jobHead_33 (by decide) ?_
    refine lv_icmp_ne (tgt := 69) hx hb dX4_jobHead_34 (by decide) (fun c536 => ?_) (fun c536 => ?_)
    · have k537 := i_ne c536
      exact J69 ls H528 locsH528 (x515) (li) (lv_sub hl [0, 1, 2] rfl) hTH528 hSH528 (by have := i_rng x515; omega) (by have := i_rng li; omega) m533 m529 m531 m532 m530 (by omega)
    · have k537 := i_eq c536
      refine lv_aload_n hx hb dX4_jobHead_37 rfl (lv_at hl 0 rfl) ?_
      refine lv_iconst (v := 0) hx hb dX4_jobHead_38 (by decide) ?_
      refine lv_bipush (v := 15) hx hb dX4_jobHead_39 (by decide) ?_
      refine x_V (As := [.int 0, .int 15]) (rest := []) C (a_X4_number l K G H528 (0) (15) (F) (x515) hTH528 ga0 gmq m531 gkq m532 m533 m530 (by omega) (by omega)) yo_X4_number wM_X4_119 ⟨⟨by decide, by decide⟩, by decide, by decide⟩ (x_rv C hTH528 (ci := 4) rfl ga0 rg_78) rfl hl.1 rfl (Nat.le_of_ble_eq_true rfl) dX4_jobHead_41 hSH528 (AE_sub (fun _ _ => rfl) (by decide) hSH528.1) (fun vH538 H538 locsH538 pH538 zH538 kH538 hSH538 => ?_)
      obtain ⟨x539, x540, hvH538, bx539, ex540, hrH538, m541, m542, hTH538⟩ := pH538
      subst hvH538
      have m543 := (m529).trans (fI_kept (x_lt hTH528 kH538 gmq (by decide))).symm
      have m544 := (fI_kept (x_lt hTH528 kH538 gkq (by decide))).trans m530
      have m545 := (m534).trans (fR_kept (x_lt hTH528 kH538 gmq (by decide))).symm
      have bx540 := ty_fi (x := x540) (k := 7) ex540 hTH538 ga0 rg_78 rfl
      refine W.eq (g2 := F0 m 44 ls [.int x539]) rfl ?_
      refine lv_if_ne (tgt := 49) hx hb dX4_jobHead_44 (by decide) (fun c546 => ?_) (fun c546 => ?_)
      · have k547 := i_ne c546
        refine lv_aload_n hx hb dX4_jobHead_49 rfl (lv_at hl 0 rfl) ?_
        refine x_gr C hTH538 (ci := 4) (k := 0) rfl inX4 (by decide) wF_X4_12 ga0 rg_78 rfl dX4_jobHead_50 (fun q548 eq548 gq548 => ?_)
        have uq548 : mq = q548 := (m541).trans eq548.symm
        subst uq548
        refine x_gr C hTH538 (ci := 7) (k := 3) rfl inX7 (by decide) wF_X4_122 gmq rg_69 rfl dX4_jobHead_53 (fun q549 eq549 gq549 => ?_)
        refine lv_iload_n hx hb dX4_jobHead_56 rfl (lv_at hl 1 rfl) ?_
        refine lv_aload_n hx hb dX4_jobHead_57 rfl (lv_at hl 0 rfl) ?_
        refine x_gr C hTH538 (ci := 4) (k := 4) rfl inX4 (by decide) wF_X4_22 ga0 rg_78 rfl dX4_jobHead_58 (fun q550 eq550 gq550 => ?_)
        refine lv_aload_n hx hb dX4_jobHead_61 rfl (lv_at hl 0 rfl) ?_
        refine x_gi C hTH538 (ci := 4) (k := 7) rfl inX4 (by decide) wF_X4_42 ga0 rg_78 rfl dX4_jobHead_62 (fun x551 ex551 bx551 => ?_)
        have ux551 : x540 = x551 := (ex540).trans ex551.symm
        subst ux551
        refine lv_iconst (v := 1) hx hb dX4_jobHead_65 (by decide) ?_
        refine lv_isub hx hb dX4_jobHead_66 ?_
        refine lv_topi (fun x552 ex552 => ?_)
        have tx552 := i_sub ex552 (by omega)
        refine x_ai C hTH538 gq550 rg_80 ⟨by omega, by show _ < ((501 : Nat) : Int); omega⟩ dX4_jobHead_67 (fun x553 ex553 bx553 => ?_)
        refine x_iast C hTH538 hSH538 gq549 rg_72 (by omega) (by show _ < ((16 : Nat) : Int); omega) ⟨by have := i_rng x553; omega, by have := i_rng x553; omega⟩ (AE_in gq549 (by decide)) dX4_jobHead_68 (fun H554 locsH554 hTH554 hSH554 wH554 => ?_)
        have m555 := m543.trans (Wr.neI wH554 (Or.inl (G_ne gmq gq549 (by decide)))).symm
        have m556 := (Wr.neI wH554 (Or.inl (G_ne gkq gq549 (by decide)))).trans m544
        have m557 := m545.trans (Wr.neR wH554 (Or.inl (G_ne gmq gq549 (by decide)))).symm
        have m558 := m541.trans (Wr.neR wH554 (Or.inl (G_ne ga0 gq549 (by decide)))).symm
        have m559 := m542.trans (Wr.neR wH554 (Or.inl (G_ne ga0 gq549 (by decide)))).symm
        have m560 := ex540.trans (Wr.neI wH554 (Or.inl (G_ne ga0 gq549 (by decide)))).symm
        have m561 := eq549.trans (Wr.neR wH554 (Or.inl (G_ne gmq gq549 (by decide)))).symm
        have m562 := eq550.trans (Wr.neR wH554 (Or.inl (G_ne ga0 gq549 (by decide)))).symm
        exact J69 ls H554 locsH554 (x540) (li) (lv_sub hl [0, 1, 2] rfl) hTH554 hSH554 (by have := i_rng x540; omega) (by have := i_rng li; omega) m560 m555 m558 m559 m556 (by omega)
      · have k547 := i_eq c546
        refine lv_iconst (v := 0) hx hb dX4_jobHead_47 (by decide) ?_
        exact x_zret C hQ (Or.inl rfl) dX4_jobHead_48 hSH538 (by decide) (by decide) (⟨0, x540, rfl, by decide, ex540, by omega, m541, m542, hTH538⟩)
  · have k521 := i_eq c520
    refine lv_iconst (v := 0) hx hb dX4_jobHead_10 (by decide) ?_
    exact x_zret C hQ (Or.inl rfl) dX4_jobHead_11 hSH513 (by decide) (by decide) (⟨0, x515, rfl, by decide, ex515, by omega, m516, m517, hTH513⟩)

set_option maxHeartbeats 4000000 in
set_option maxRecDepth 100000 in
theorem a_X4_term (l : Launch) (K : KE) (G : Nat → Option Nat) (H : Heap) {a0 : Nat} {mq : Nat} {kq : Nat} (F : Int32) (tat : Int32) (li : Int32) (hT : TY K G H) (ga0 : G a0 = some 78) (gmq : G mq = some 69) (emq : mq = fR H a0 (K.1.2 4 0)) (gkq : G kq = some 79) (ekq : kq = fR H a0 (K.1.2 4 3)) (etat : tat = fI H a0 (K.1.2 4 7)) (eli : li = fI H mq (K.1.2 7 0)) (hel0 : fI H kq (F : Int32).toNatClampNeg = 26) (hp0 : tat.toInt ≤ F.toInt) (hp1 : F.toInt ≤ 500) : MX l K yX4_term cX4_term 5 (some .boolean) 1 22 0 0 [.ref a0] H (AE G [78, 69, 77] H.size) (fun v H1 => ∃ (r : Int32) (t0 : Int32) (t1 : Int32), v = some (.int r) ∧ (0 ≤ r.toInt ∧ r.toInt ≤ 1) ∧ t0 = fI H1 a0 (K.1.2 4 7) ∧ t1 = fI H1 mq (K.1.2 7 0) ∧ (t0.toInt ≤ F.toInt ∧ t1.toInt = li.toInt) ∧ mq = fR H1 a0 (K.1.2 4 0) ∧ kq = fR H1 a0 (K.1.2 4 3) ∧ TY K G H1) := by
  refine MX.of (by decide +kernel) (Nat.le_of_ble_eq_true rfl) ?_
  intro p e s m below meth c ls Q C hH hl hQ
  subst hH
  have C : CX p K s m _ meth c RX4 cX4_term 5 (some .boolean) "term" := C
  obtain ⟨hx, hb, hml, hown, hts, hKT, hr, hlocks, hnm⟩ := id C
  have hl : lv_has ls 5 [(0, .ref a0)] := hl
  have hS : va_S (AE G [78, 69, 77] s.heap.size) s.heap s.heap [] := va_S.rf
  have n_0 : (0 : Int32).toInt = 0 := rfl
  have n_1 : (1 : Int32).toInt = 1 := rfl
  have n_2 : (2 : Int32).toInt = 2 := rfl
  have n_24 : (24 : Int32).toInt = 24 := rfl
  have n_26 : (26 : Int32).toInt = 26 := rfl
  have n_42 : (42 : Int32).toInt = 42 := rfl
  have n_47 : (47 : Int32).toInt = 47 := rfl
  have n_500 : (500 : Int32).toInt = 500 := rfl
  have btat := ty_fi (x := tat) (k := 7) etat hT ga0 rg_78 rfl
  have bli := ty_fi (x := li) (k := 0) eli hT gmq rg_69 rfl
  have J4 : ∀ (nf : Nat) (ls4093 : Array Slot) (H4092 : Heap) (locsH4092 : List Loc) (x4095 : Int32) (x4096 : Int32) (x4097 : Int32) (x4098 : Int32), lv_has ls4093 5 [(0, .ref a0), (1, .int x4095), (2, .int x4096)] → TY K G H4092 → va_S (AE G [78, 69, 77] s.heap.size) s.heap H4092 locsH4092 → (0 ≤ x4095.toInt ∧ x4095.toInt ≤ 47) → (0 ≤ x4096.toInt ∧ x4096.toInt ≤ 500) → (0 ≤ x4097.toInt ∧ x4097.toInt ≤ 500) → (0 ≤ x4098.toInt ∧ x4098.toInt ≤ 16) → (x4097 = fI H4092 a0 (K.1.2 4 7)) → (x4098 = fI H4092 mq (K.1.2 7 0)) → (mq = fR H4092 a0 (K.1.2 4 0)) → (kq = fR H4092 a0 (K.1.2 4 3)) → (fI H4092 kq (F : Int32).toNatClampNeg = 26) → (500 - x4096.toInt < (nf : Int)) → (x4097.toInt ≤ F.toInt ∧ x4098.toInt = li.toInt) → W p l e ({ frames := 1, cells := 0, slots := 0, locals := 22 } : Room) s m (([.ref a0] : List Value).toArray) below meth c H4092 locsH4092 0 0 Q (F0 m 4 ls4093 []) := by
    intro nf
    induction nf with
    | zero =>
      intro ls4093 H4092 locsH4092 x4095 x4096 x4097 x4098 hl4094 hTH4092 hSH4092 bx4095 bx4096 bx4097 bx4098 ex4097 ex4098 cy4099_0 cy4099_1 cy4099_2 hm4 iv4
      exfalso
      omega
    | succ nf ih4 =>
      intro ls4093 H4092 locsH4092 x4095 x4096 x4097 x4098 hl4094 hTH4092 hSH4092 bx4095 bx4096 bx4097 bx4098 ex4097 ex4098 cy4099_0 cy4099_1 cy4099_2 hm4 iv4
      have J58 : ∀ (ls4101 : Array Slot) (H4100 : Heap) (locsH4100 : List Loc) (x4104 : Int32) (x4105 : Int32) (x4106 : Int32) (x4107 : Int32), lv_has ls4101 5 [(0, .ref a0), (1, .int x4095), (2, .int x4096), (3, .int x4104), (4, .int x4105)] → TY K G H4100 → va_S (AE G [78, 69, 77] s.heap.size) s.heap H4100 locsH4100 → (0 ≤ x4096.toInt ∧ x4096.toInt ≤ 499) → (0 ≤ x4106.toInt ∧ x4106.toInt ≤ 500) → (0 ≤ x4107.toInt ∧ x4107.toInt ≤ 16) → (x4106 = fI H4100 a0 (K.1.2 4 7)) → (x4107 = fI H4100 mq (K.1.2 7 0)) → (mq = fR H4100 a0 (K.1.2 4 0)) → (kq = fR H4100 a0 (K.1.2 4 3)) → (fI H4100 kq (F : Int32).toNatClampNeg = 26) → (x4106.toInt < F.toInt ∧ x4106.toInt ≤ F.toInt ∧ x4107.toInt = li.toInt) → W p l e ({ frames := 1, cells := 0, slots := 0, locals := 22 } : Room) s m (([.ref a0] : List Value).toArray) below meth c H4100 locsH4100 0 0 Q (F0 m 58 ls4101 []) := by
        intro ls4101 H4100 locsH4100 x4104 x4105 x4106 x4107 hl4102 hTH4100 hSH4100 b4103 bx4106 bx4107 ex4106 ex4107 cy4108_0 cy4108_1 cy4108_2 iv58
        have J75 : ∀ (ls4110 : Array Slot) (H4109 : Heap) (locsH4109 : List Loc) (x4112 : Int32) (x4113 : Int32), lv_has ls4110 5 [(0, .ref a0), (1, .int x4095), (2, .int x4096), (3, .int x4104), (4, .int x4105)] → TY K G H4109 → va_S (AE G [78, 69, 77] s.heap.size) s.heap H4109 locsH4109 → (0 ≤ x4112.toInt ∧ x4112.toInt ≤ 500) → (0 ≤ x4113.toInt ∧ x4113.toInt ≤ 16) → (x4112 = fI H4109 a0 (K.1.2 4 7)) → (x4113 = fI H4109 mq (K.1.2 7 0)) → (mq = fR H4109 a0 (K.1.2 4 0)) → (kq = fR H4109 a0 (K.1.2 4 3)) → (fI H4109 kq (F : Int32).toNatClampNeg = 26) → (x4112.toInt < F.toInt ∧ x4112.toInt ≤ F.toInt ∧ x4113.toInt = li.toInt) → W p l e ({ frames := 1, cells := 0, slots := 0, locals := 22 } : Room) s m (([.ref a0] : List Value).toArray) below meth c H4109 locsH4109 0 0 Q (F0 m 75 ls4110 []) := by
          intro ls4110 H4109 locsH4109 x4112 x4113 hl4111 hTH4109 hSH4109 bx4112 bx4113 ex4112 ex4113 cy4114_0 cy4114_1 cy4114_2 iv75
          have J104 : ∀ (ls4116 : Array Slot) (H4115 : Heap) (locsH4115 : List Loc) (x4118 : Int32) (x4119 : Int32), lv_has ls4116 5 [(0, .ref a0), (1, .int x4095), (2, .int x4096)] → TY K G H4115 → va_S (AE G [78, 69, 77] s.heap.size) s.heap H4115 locsH4115 → (0 ≤ x4118.toInt ∧ x4118.toInt ≤ 500) → (0 ≤ x4119.toInt ∧ x4119.toInt ≤ 16) → (x4118 = fI H4115 a0 (K.1.2 4 7)) → (x4119 = fI H4115 mq (K.1.2 7 0)) → (mq = fR H4115 a0 (K.1.2 4 0)) → (kq = fR H4115 a0 (K.1.2 4 3)) → (fI H4115 kq (F : Int32).toNatClampNeg = 26) → (x4118.toInt < F.toInt ∧ x4118.toInt ≤ F.toInt ∧ x4119.toInt = li.toInt) → W p l e ({ frames := 1, cells := 0, slots := 0, locals := 22 } : Room) s m (([.ref a0] : List Value).toArray) below meth c H4115 locsH4115 0 0 Q (F0 m 104 ls4116 []) := by
            intro ls4116 H4115 locsH4115 x4118 x4119 hl4117 hTH4115 hSH4115 bx4118 bx4119 ex4118 ex4119 cy4120_0 cy4120_1 cy4120_2 iv104
            have J119 : ∀ (ls4122 : Array Slot) (H4121 : Heap) (locsH4121 : List Loc) (x4124 : Int32) (x4125 : Int32), lv_has ls4122 5 [(0, .ref a0), (2, .int x4096)] → TY K G H4121 → va_S (AE G [78, 69, 77] s.heap.size) s.heap H4121 locsH4121 → (0 ≤ x4124.toInt ∧ x4124.toInt ≤ 500) → (0 ≤ x4125.toInt ∧ x4125.toInt ≤ 16) → (x4124 = fI H4121 a0 (K.1.2 4 7)) → (x4125 = fI H4121 mq (K.1.2 7 0)) → (mq = fR H4121 a0 (K.1.2 4 0)) → (kq = fR H4121 a0 (K.1.2 4 3)) → (fI H4121 kq (F : Int32).toNatClampNeg = 26) → (x4124.toInt < F.toInt ∧ x4124.toInt ≤ F.toInt ∧ x4125.toInt = li.toInt) → W p l e ({ frames := 1, cells := 0, slots := 0, locals := 22 } : Room) s m (([.ref a0] : List Value).toArray) below meth c H4121 locsH4121 0 0 Q (F0 m 119 ls4122 []) := by
              intro ls4122 H4121 locsH4121 x4124 x4125 hl4123 hTH4121 hSH4121 bx4124 bx4125 ex4124 ex4125 cy4126_0 cy4126_1 cy4126_2 iv119
              have J153 : ∀ (ls4128 : Array Slot) (H4127 : Heap) (locsH4127 : List Loc) (x4130 : Int32) (x4131 : Int32) (x4132 : Int32), lv_has ls4128 5 [(0, .ref a0), (1, .int x4130), (2, .int x4096)] → TY K G H4127 → va_S (AE G [78, 69, 77] s.heap.size) s.heap H4127 locsH4127 → (42 ≤ x4130.toInt ∧ x4130.toInt ≤ 47) → (1 ≤ x4131.toInt ∧ x4131.toInt ≤ 500) → (0 ≤ x4132.toInt ∧ x4132.toInt ≤ 16) → (x4131 = fI H4127 a0 (K.1.2 4 7)) → (x4132 = fI H4127 mq (K.1.2 7 0)) → (mq = fR H4127 a0 (K.1.2 4 0)) → (kq = fR H4127 a0 (K.1.2 4 3)) → (fI H4127 kq (F : Int32).toNatClampNeg = 26) → (x4131.toInt < F.toInt ∧ x4131.toInt ≤ F.toInt ∧ x4132.toInt = li.toInt) → W p l e ({ frames := 1, cells := 0, slots := 0, locals := 22 } : Room) s m (([.ref a0] : List Value).toArray) below meth c H4127 locsH4127 0 0 Q (F0 m 153 ls4128 []) := by
                intro ls4128 H4127 locsH4127 x4130 x4131 x4132 hl4129 hTH4127 hSH4127 bx4130 bx4131 bx4132 ex4131 ex4132 cy4133_0 cy4133_1 cy4133_2 iv153
                refine lv_aload_n hx hb dX4_term_153 rfl (lv_at hl4129 0 rfl) ?_
                refine lv_dup hx hb dX4_term_154 rfl ?_
                refine x_gi C hTH4127 (ci := 4) (k := 7) rfl inX4 (by decide) wF_X4_42 ga0 rg_78 rfl dX4_term_155 (fun x4134 ex4134 bx4134 => ?_)
                have ux4134 : x4131 = x4134 := (ex4131).trans ex4134.symm
                subst ux4134
                refine lv_iconst (v := 1) hx hb dX4_term_158 (by decide) ?_
                refine lv_iadd hx hb dX4_term_159 ?_
                refine lv_topi (fun x4135 ex4135 => ?_)
                have tx4135 := i_add ex4135 (by omega)
                have fz4137 : 0 ≤ x4135.toInt ∧ x4135.toInt ≤ 500 := by have := i_rng x4135; omega
                refine x_put C hTH4127 hSH4127 (ci := 4) (k := 7) (v := .int x4135) (ty0 := tyX4) rfl inX4 tyX4_ok nmX4 (by decide) rfl wF_X4_42 ga0 rg_78 rfl rfl (okI (by have := i_rng x4135; omega) (by have := i_rng x4135; omega)) rfl rfl (AE_in ga0 (by decide)) dX4_term_160 (fun H4136 locsH4136 hTH4136 hSH4136 wH4136 => ?_)
                have m4139 := ex4132.trans (Wr.neI wH4136 (Or.inl (G_ne gmq ga0 (by decide)))).symm
                have m4140 := cy4133_0.trans (Wr.neR wH4136 (Or.inr (x_apart hKT hts inX4 tyX4 tyX4_ok nmX4 rfl 0 7 (by decide) (by decide) (by decide)))).symm
                have m4141 := cy4133_1.trans (Wr.neR wH4136 (Or.inr (x_apart hKT hts inX4 tyX4 tyX4_ok nmX4 rfl 3 7 (by decide) (by decide) (by decide)))).symm
                have m4142 := (Wr.neI wH4136 (Or.inl (G_ne gkq ga0 (by decide)))).trans cy4133_2
                have m4143 := Wr.I wH4136
                have m4143 := m4143.symm
                obtain ⟨x4144, ex4144⟩ : ∃ y : Int32, y = x4096 + 1 := ⟨_, rfl⟩
                have tx4144 := i_add ex4144 (by omega)
                refine lv_iinc (v := x4144) (lv' := [(2, .int x4144), (0, .ref a0), (1, .int x4130)]) hx hb dX4_term_163 hl4129 (k := 2) rfl (by rw [ex4144]; rfl) (by decide) rfl (fun ls4145 hl4146 => ?_)
                refine lv_goto (tgt := 4) hx hb dX4_term_166 (by decide) ?_
                exact ih4 ls4145 H4136 locsH4136 (x4130) (x4144) (x4135) (x4132) (lv_sub hl4146 [1, 2, 0] rfl) hTH4136 hSH4136 (by have := i_rng x4130; omega) (by have := i_rng x4144; omega) (by have := i_rng x4135; omega) (by have := i_rng x4132; omega) m4143 m4139 m4140 m4141 m4142 (by omega) (by omega)
              refine lv_aload_n hx hb dX4_term_119 rfl (lv_at hl4123 0 rfl) ?_
              refine lv_dup hx hb dX4_term_120 rfl ?_
              refine x_gi C hTH4121 (ci := 4) (k := 7) rfl inX4 (by decide) wF_X4_42 ga0 rg_78 rfl dX4_term_121 (fun x4147 ex4147 bx4147 => ?_)
              have ux4147 : x4124 = x4147 := (ex4124).trans ex4147.symm
              subst ux4147
              refine lv_iconst (v := 1) hx hb dX4_term_124 (by decide) ?_
              refine lv_iadd hx hb dX4_term_125 ?_
              refine lv_topi (fun x4148 ex4148 => ?_)
              have tx4148 := i_add ex4148 (by omega)
              have fz4150 : 0 ≤ x4148.toInt ∧ x4148.toInt ≤ 500 := by have := i_rng x4148; omega
              refine x_put C hTH4121 hSH4121 (ci := 4) (k := 7) (v := .int x4148) (ty0 := tyX4) rfl inX4 tyX4_ok nmX4 (by decide) rfl wF_X4_42 ga0 rg_78 rfl rfl (okI (by have := i_rng x4148; omega) (by have := i_rng x4148; omega)) rfl rfl (AE_in ga0 (by decide)) dX4_term_126 (fun H4149 locsH4149 hTH4149 hSH4149 wH4149 => ?_)
              have m4152 := ex4125.trans (Wr.neI wH4149 (Or.inl (G_ne gmq ga0 (by decide)))).symm
              have m4153 := cy4126_0.trans (Wr.neR wH4149 (Or.inr (x_apart hKT hts inX4 tyX4 tyX4_ok nmX4 rfl 0 7 (by decide) (by decide) (by decide)))).symm
              have m4154 := cy4126_1.trans (Wr.neR wH4149 (Or.inr (x_apart hKT hts inX4 tyX4 tyX4_ok nmX4 rfl 3 7 (by decide) (by decide) (by decide)))).symm
              have m4155 := (Wr.neI wH4149 (Or.inl (G_ne gkq ga0 (by decide)))).trans cy4126_2
              have m4156 := Wr.I wH4149
              have m4156 := m4156.symm
              refine lv_aload_n hx hb dX4_term_129 rfl (lv_at hl4123 0 rfl) ?_
              refine x_gr C hTH4149 (ci := 4) (k := 3) rfl inX4 (by decide) wF_X4_18 ga0 rg_78 rfl dX4_term_130 (fun q4157 eq4157 gq4157 => ?_)
              have uq4157 : kq = q4157 := (m4154).trans eq4157.symm
              subst uq4157
              refine lv_aload_n hx hb dX4_term_133 rfl (lv_at hl4123 0 rfl) ?_
              refine x_gi C hTH4149 (ci := 4) (k := 7) rfl inX4 (by decide) wF_X4_42 ga0 rg_78 rfl dX4_term_134 (fun x4158 ex4158 bx4158 => ?_)
              have ux4158 : x4148 = x4158 := (m4156).trans ex4158.symm
              subst ux4158
              refine x_ai C hTH4149 gkq rg_79 ⟨by omega, by show _ < ((501 : Nat) : Int); omega⟩ dX4_term_137 (fun x4159 ex4159 bx4159 => ?_)
              have dx4159 := el_hit ex4159 m4155
              refine lv_istore_n (lv' := [(1, .int x4159), (0, .ref a0), (2, .int x4096)]) hx hb dX4_term_138 rfl hl4123 (by decide) rfl (fun ls4160 hl4161 => ?_)
              refine lv_iload_n hx hb dX4_term_139 rfl (lv_at hl4161 0 rfl) ?_
              refine lv_bipush (v := 42) hx hb dX4_term_140 (by decide) ?_
              refine lv_icmp_eq (tgt := 153) hx hb dX4_term_142 (by decide) (fun c4162 => ?_) (fun c4162 => ?_)
              · have k4163 := i_eq c4162
                exact J153 ls4160 H4149 locsH4149 (x4159) (x4148) (x4125) (lv_sub hl4161 [1, 0, 2] rfl) hTH4149 hSH4149 (by have := i_rng x4159; omega) (by have := i_rng x4148; omega) (by have := i_rng x4125; omega) m4156 m4152 m4153 m4154 m4155 (by omega)
              · have k4163 := i_ne c4162
                refine lv_iload_n hx hb dX4_term_145 rfl (lv_at hl4161 0 rfl) ?_
                refine lv_bipush (v := 47) hx hb dX4_term_146 (by decide) ?_
                refine lv_icmp_eq (tgt := 153) hx hb dX4_term_148 (by decide) (fun c4164 => ?_) (fun c4164 => ?_)
                · have k4165 := i_eq c4164
                  exact J153 ls4160 H4149 locsH4149 (x4159) (x4148) (x4125) (lv_sub hl4161 [1, 0, 2] rfl) hTH4149 hSH4149 (by have := i_rng x4159; omega) (by have := i_rng x4148; omega) (by have := i_rng x4125; omega) m4156 m4152 m4153 m4154 m4155 (by omega)
                · have k4165 := i_ne c4164
                  refine lv_iconst (v := 1) hx hb dX4_term_151 (by decide) ?_
                  exact x_zret C hQ (Or.inr rfl) dX4_term_152 hSH4149 (by decide) (by decide) (⟨1, x4148, x4125, rfl, by decide, m4156, m4152, by omega, m4153, m4154, hTH4149⟩)
            refine lv_iload_n hx hb dX4_term_104 rfl (lv_at hl4117 1 rfl) ?_
            refine lv_bipush (v := 42) hx hb dX4_term_105 (by decide) ?_
            refine lv_icmp_ne (tgt := 119) hx hb dX4_term_107 (by decide) (fun c4166 => ?_) (fun c4166 => ?_)
            · have k4167 := i_ne c4166
              exact J119 ls4116 H4115 locsH4115 (x4118) (x4119) (lv_sub hl4117 [0, 2] rfl) hTH4115 hSH4115 (by have := i_rng x4118; omega) (by have := i_rng x4119; omega) ex4118 ex4119 cy4120_0 cy4120_1 cy4120_2 (by omega)
            · have k4167 := i_eq c4166
              refine lv_aload_n hx hb dX4_term_110 rfl (lv_at hl4117 0 rfl) ?_
              refine x_gr C hTH4115 (ci := 4) (k := 0) rfl inX4 (by decide) wF_X4_12 ga0 rg_78 rfl dX4_term_111 (fun q4168 eq4168 gq4168 => ?_)
              have uq4168 : mq = q4168 := (cy4120_0).trans eq4168.symm
              subst uq4168
              refine lv_iload_n hx hb dX4_term_114 rfl (lv_at hl4117 1 rfl) ?_
              refine lv_iconst (v := 0) hx hb dX4_term_115 (by decide) ?_
              refine x_V (As := [.int x4095, .int 0]) (rest := []) C (a_X7_addStep l K G H4115 (x4095) (0) (x4119) hTH4115 gmq ex4119) yo_X7_addStep wM_X4_131 ⟨⟨by decide, by decide⟩, by decide, by decide⟩ (x_rv C hTH4115 (ci := 7) rfl gmq rg_69) rfl hl4117.1 rfl (Nat.le_of_ble_eq_true rfl) dX4_term_116 hSH4115 (AE_sub (fun _ _ => rfl) (by decide) hSH4115.1) (fun vH4169 H4169 locsH4169 pH4169 zH4169 kH4169 hSH4169 => ?_)
              obtain ⟨x4170, hvH4169, ex4170, hrH4169, hTH4169⟩ := pH4169
              subst hvH4169
              have m4171 := (ex4118).trans (fI_kept (x_lt hTH4115 kH4169 ga0 (by decide))).symm
              have m4172 := (cy4120_0).trans (fR_kept (x_lt hTH4115 kH4169 ga0 (by decide))).symm
              have m4173 := (cy4120_1).trans (fR_kept (x_lt hTH4115 kH4169 ga0 (by decide))).symm
              have m4174 := (fI_kept (x_lt hTH4115 kH4169 gkq (by decide))).trans cy4120_2
              have bx4170 := ty_fi (x := x4170) (k := 0) ex4170 hTH4169 gmq rg_69 rfl
              refine W.eq (g2 := F0 m 119 ls4116 []) rfl ?_
              exact J119 ls4116 H4169 locsH4169 (x4118) (x4170) (lv_sub hl4117 [0, 2] rfl) hTH4169 hSH4169 (by have := i_rng x4118; omega) (by have := i_rng x4170; omega) m4171 ex4170 m4172 m4173 m4174 (by omega)
          refine lv_iload_n hx hb dX4_term_75 rfl (lv_at hl4111 1 rfl) ?_
          refine lv_bipush (v := 47) hx hb dX4_term_76 (by decide) ?_
          refine lv_icmp_ne (tgt := 94) hx hb dX4_term_78 (by decide) (fun c4175 => ?_) (fun c4175 => ?_)
          · have k4176 := i_ne c4175
            refine lv_aload_n hx hb dX4_term_94 rfl (lv_at hl4111 0 rfl) ?_
            refine x_gr C hTH4109 (ci := 4) (k := 0) rfl inX4 (by decide) wF_X4_12 ga0 rg_78 rfl dX4_term_95 (fun q4177 eq4177 gq4177 => ?_)
            have uq4177 : mq = q4177 := (cy4114_0).trans eq4177.symm
            subst uq4177
            refine lv_iload_n hx hb dX4_term_98 rfl (lv_at hl4111 3 rfl) ?_
            refine lv_iload hx hb dX4_term_99 (lv_at hl4111 4 rfl) ?_
            refine x_V (As := [.int x4104, .int x4105]) (rest := []) C (a_X7_addStep l K G H4109 (x4104) (x4105) (x4113) hTH4109 gmq ex4113) yo_X7_addStep wM_X4_131 ⟨⟨by decide, by decide⟩, by decide, by decide⟩ (x_rv C hTH4109 (ci := 7) rfl gmq rg_69) rfl hl4111.1 rfl (Nat.le_of_ble_eq_true rfl) dX4_term_101 hSH4109 (AE_sub (fun _ _ => rfl) (by decide) hSH4109.1) (fun vH4178 H4178 locsH4178 pH4178 zH4178 kH4178 hSH4178 => ?_)
            obtain ⟨x4179, hvH4178, ex4179, hrH4178, hTH4178⟩ := pH4178
            subst hvH4178
            have m4180 := (ex4112).trans (fI_kept (x_lt hTH4109 kH4178 ga0 (by decide))).symm
            have m4181 := (cy4114_0).trans (fR_kept (x_lt hTH4109 kH4178 ga0 (by decide))).symm
            have m4182 := (cy4114_1).trans (fR_kept (x_lt hTH4109 kH4178 ga0 (by decide))).symm
            have m4183 := (fI_kept (x_lt hTH4109 kH4178 gkq (by decide))).trans cy4114_2
            have bx4179 := ty_fi (x := x4179) (k := 0) ex4179 hTH4178 gmq rg_69 rfl
            refine W.eq (g2 := F0 m 104 ls4110 []) rfl ?_
            exact J104 ls4110 H4178 locsH4178 (x4112) (x4179) (lv_sub hl4111 [0, 1, 2] rfl) hTH4178 hSH4178 (by have := i_rng x4112; omega) (by have := i_rng x4179; omega) m4180 ex4179 m4181 m4182 m4183 (by omega)
          · have k4176 := i_eq c4175
            refine lv_aload_n hx hb dX4_term_81 rfl (lv_at hl4111 0 rfl) ?_
            refine x_gr C hTH4109 (ci := 4) (k := 0) rfl inX4 (by decide) wF_X4_12 ga0 rg_78 rfl dX4_term_82 (fun q4184 eq4184 gq4184 => ?_)
            have uq4184 : mq = q4184 := (cy4114_0).trans eq4184.symm
            subst uq4184
            refine lv_iload_n hx hb dX4_term_85 rfl (lv_at hl4111 1 rfl) ?_
            refine lv_iload hx hb dX4_term_86 (lv_at hl4111 4 rfl) ?_
            refine x_V (As := [.int x4095, .int x4105]) (rest := []) C (a_X7_addStep l K G H4109 (x4095) (x4105) (x4113) hTH4109 gmq ex4113) yo_X7_addStep wM_X4_131 ⟨⟨by decide, by decide⟩, by decide, by decide⟩ (x_rv C hTH4109 (ci := 7) rfl gmq rg_69) rfl hl4111.1 rfl (Nat.le_of_ble_eq_true rfl) dX4_term_88 hSH4109 (AE_sub (fun _ _ => rfl) (by decide) hSH4109.1) (fun vH4185 H4185 locsH4185 pH4185 zH4185 kH4185 hSH4185 => ?_)
            obtain ⟨x4186, hvH4185, ex4186, hrH4185, hTH4185⟩ := pH4185
            subst hvH4185
            have m4187 := (ex4112).trans (fI_kept (x_lt hTH4109 kH4185 ga0 (by decide))).symm
            have m4188 := (cy4114_0).trans (fR_kept (x_lt hTH4109 kH4185 ga0 (by decide))).symm
            have m4189 := (cy4114_1).trans (fR_kept (x_lt hTH4109 kH4185 ga0 (by decide))).symm
            have m4190 := (fI_kept (x_lt hTH4109 kH4185 gkq (by decide))).trans cy4114_2
            have bx4186 := ty_fi (x := x4186) (k := 0) ex4186 hTH4185 gmq rg_69 rfl
            refine W.eq (g2 := F0 m 91 ls4110 []) rfl ?_
            refine lv_goto (tgt := 104) hx hb dX4_term_91 (by decide) ?_
            exact J104 ls4110 H4185 locsH4185 (x4112) (x4186) (lv_sub hl4111 [0, 1, 2] rfl) hTH4185 hSH4185 (by have := i_rng x4112; omega) (by have := i_rng x4186; omega) m4187 ex4186 m4188 m4189 m4190 (by omega)
        refine lv_iload_n hx hb dX4_term_58 rfl (lv_at hl4102 1 rfl) ?_
        refine lv_bipush (v := 47) hx hb dX4_term_59 (by decide) ?_
        refine lv_icmp_ne (tgt := 75) hx hb dX4_term_61 (by decide) (fun c4191 => ?_) (fun c4191 => ?_)
        · have k4192 := i_ne c4191
          exact J75 ls4101 H4100 locsH4100 (x4106) (x4107) (lv_sub hl4102 [0, 1, 2, 3, 4] rfl) hTH4100 hSH4100 (by have := i_rng x4106; omega) (by have := i_rng x4107; omega) ex4106 ex4107 cy4108_0 cy4108_1 cy4108_2 (by omega)
        · have k4192 := i_eq c4191
          refine lv_iload hx hb dX4_term_64 (lv_at hl4102 4 rfl) ?_
          refine lv_if_ne (tgt := 75) hx hb dX4_term_66 (by decide) (fun c4193 => ?_) (fun c4193 => ?_)
          · have k4194 := i_ne c4193
            exact J75 ls4101 H4100 locsH4100 (x4106) (x4107) (lv_sub hl4102 [0, 1, 2, 3, 4] rfl) hTH4100 hSH4100 (by have := i_rng x4106; omega) (by have := i_rng x4107; omega) ex4106 ex4107 cy4108_0 cy4108_1 cy4108_2 (by omega)
          · have k4194 := i_eq c4193
            refine lv_aload_n hx hb dX4_term_69 rfl (lv_at hl4102 0 rfl) ?_
            refine lv_iconst (v := 2) hx hb dX4_term_70 (by decide) ?_
            refine x_V (As := [.int 2]) (rest := []) C (a_X4_refuse l K G H4100 (2) (x4106) hTH4100 ga0 gmq cy4108_0 gkq cy4108_1 ex4106) yo_X4_refuse wM_X4_81 ⟨⟨by decide, by decide⟩, by decide, by decide⟩ (x_rv C hTH4100 (ci := 4) rfl ga0 rg_78) rfl hl4102.1 rfl (Nat.le_of_ble_eq_true rfl) dX4_term_71 hSH4100 (AE_sub (fun _ _ => rfl) (by decide) hSH4100.1) (fun vH4195 H4195 locsH4195 pH4195 zH4195 kH4195 hSH4195 => ?_)
            obtain ⟨x4196, x4197, hvH4195, bx4196, ex4197, hrH4195, m4198, m4199, hTH4195⟩ := pH4195
            subst hvH4195
            have m4200 := (ex4107).trans (fI_kept (x_lt hTH4100 kH4195 gmq (by decide))).symm
            have m4201 := (fI_kept (x_lt hTH4100 kH4195 gkq (by decide))).trans cy4108_2
            have bx4197 := ty_fi (x := x4197) (k := 7) ex4197 hTH4195 ga0 rg_78 rfl
            refine W.eq (g2 := F0 m 74 ls4101 [.int x4196]) rfl ?_
            exact x_zret C hQ (i_01 (by omega)) dX4_term_74 hSH4195 (by decide) (by decide) (⟨x4196, x4197, x4107, rfl, by omega, ex4197, m4200, by omega, m4198, m4199, hTH4195⟩)
      have J52 : ∀ (ls4203 : Array Slot) (H4202 : Heap) (locsH4202 : List Loc) (x4205 : Int32) (x4206 : Int32), lv_has ls4203 5 [(0, .ref a0)] → TY K G H4202 → va_S (AE G [78, 69, 77] s.heap.size) s.heap H4202 locsH4202 → (0 ≤ x4205.toInt ∧ x4205.toInt ≤ 500) → (0 ≤ x4206.toInt ∧ x4206.toInt ≤ 16) → (x4205 = fI H4202 a0 (K.1.2 4 7)) → (x4206 = fI H4202 mq (K.1.2 7 0)) → (mq = fR H4202 a0 (K.1.2 4 0)) → (kq = fR H4202 a0 (K.1.2 4 3)) → (fI H4202 kq (F : Int32).toNatClampNeg = 26) → (x4205.toInt ≤ F.toInt ∧ x4206.toInt = li.toInt) → W p l e ({ frames := 1, cells := 0, slots := 0, locals := 22 } : Room) s m (([.ref a0] : List Value).toArray) below meth c H4202 locsH4202 0 0 Q (F0 m 52 ls4203 []) := by
        intro ls4203 H4202 locsH4202 x4205 x4206 hl4204 hTH4202 hSH4202 bx4205 bx4206 ex4205 ex4206 cy4207_0 cy4207_1 cy4207_2 iv52
        refine lv_aload_n hx hb dX4_term_52 rfl (lv_at hl4204 0 rfl) ?_
        refine lv_iconst (v := 1) hx hb dX4_term_53 (by decide) ?_
        refine x_V (As := [.int 1]) (rest := []) C (a_X4_refuse l K G H4202 (1) (x4205) hTH4202 ga0 gmq cy4207_0 gkq cy4207_1 ex4205) yo_X4_refuse wM_X4_81 ⟨⟨by decide, by decide⟩, by decide, by decide⟩ (x_rv C hTH4202 (ci := 4) rfl ga0 rg_78) rfl hl4204.1 rfl (Nat.le_of_ble_eq_true rfl) dX4_term_54 hSH4202 (AE_sub (fun _ _ => rfl) (by decide) hSH4202.1) (fun vH4208 H4208 locsH4208 pH4208 zH4208 kH4208 hSH4208 => ?_)
        obtain ⟨x4209, x4210, hvH4208, bx4209, ex4210, hrH4208, m4211, m4212, hTH4208⟩ := pH4208
        subst hvH4208
        have m4213 := (ex4206).trans (fI_kept (x_lt hTH4202 kH4208 gmq (by decide))).symm
        have m4214 := (fI_kept (x_lt hTH4202 kH4208 gkq (by decide))).trans cy4207_2
        have bx4210 := ty_fi (x := x4210) (k := 7) ex4210 hTH4208 ga0 rg_78 rfl
        refine W.eq (g2 := F0 m 57 ls4203 [.int x4209]) rfl ?_
        exact x_zret C hQ (i_01 (by omega)) dX4_term_57 hSH4208 (by decide) (by decide) (⟨x4209, x4210, x4206, rfl, by omega, ex4210, m4213, by omega, m4211, m4212, hTH4208⟩)
      refine lv_iload_n hx hb dX4_term_4 rfl (lv_at hl4094 2 rfl) ?_
      refine lv_sipush (v := 500) hx hb dX4_term_5 (by decide) ?_
      refine lv_icmp_ge (tgt := 169) hx hb dX4_term_8 (by decide) (fun c4215 => ?_) (fun c4215 => ?_)
      · have k4216 := i_le c4215
        refine lv_iconst (v := 1) hx hb dX4_term_169 (by decide) ?_
        exact x_zret C hQ (Or.inr rfl) dX4_term_170 hSH4092 (by decide) (by decide) (⟨1, x4097, x4098, rfl, by decide, ex4097, ex4098, by omega, cy4099_0, cy4099_1, hTH4092⟩)
      · have k4216 := i_nle c4215
        refine lv_aload_n hx hb dX4_term_11 rfl (lv_at hl4094 0 rfl) ?_
        refine x_gr C hTH4092 (ci := 4) (k := 3) rfl inX4 (by decide) wF_X4_18 ga0 rg_78 rfl dX4_term_12 (fun q4217 eq4217 gq4217 => ?_)
        have uq4217 : kq = q4217 := (cy4099_1).trans eq4217.symm
        subst uq4217
        refine lv_aload_n hx hb dX4_term_15 rfl (lv_at hl4094 0 rfl) ?_
        refine x_gi C hTH4092 (ci := 4) (k := 7) rfl inX4 (by decide) wF_X4_42 ga0 rg_78 rfl dX4_term_16 (fun x4218 ex4218 bx4218 => ?_)
        have ux4218 : x4097 = x4218 := (ex4097).trans ex4218.symm
        subst ux4218
        refine x_ai C hTH4092 gkq rg_79 ⟨by omega, by show _ < ((501 : Nat) : Int); omega⟩ dX4_term_19 (fun x4219 ex4219 bx4219 => ?_)
        have dx4219 := el_hit ex4219 cy4099_2
        refine lv_istore_n (lv' := [(3, .int x4219), (0, .ref a0), (1, .int x4095), (2, .int x4096)]) hx hb dX4_term_20 rfl hl4094 (by decide) rfl (fun ls4220 hl4221 => ?_)
        refine lv_aload_n hx hb dX4_term_21 rfl (lv_at hl4221 1 rfl) ?_
        refine x_gr C hTH4092 (ci := 4) (k := 4) rfl inX4 (by decide) wF_X4_22 ga0 rg_78 rfl dX4_term_22 (fun q4222 eq4222 gq4222 => ?_)
        refine lv_aload_n hx hb dX4_term_25 rfl (lv_at hl4221 1 rfl) ?_
        refine x_gi C hTH4092 (ci := 4) (k := 7) rfl inX4 (by decide) wF_X4_42 ga0 rg_78 rfl dX4_term_26 (fun x4223 ex4223 bx4223 => ?_)
        have ux4223 : x4097 = x4223 := (ex4097).trans ex4223.symm
        subst ux4223
        refine x_ai C hTH4092 gq4222 rg_80 ⟨by omega, by show _ < ((501 : Nat) : Int); omega⟩ dX4_term_29 (fun x4224 ex4224 bx4224 => ?_)
        refine lv_istore (lv' := [(4, .int x4224), (3, .int x4219), (0, .ref a0), (1, .int x4095), (2, .int x4096)]) hx hb dX4_term_30 hl4221 (by decide) rfl (fun ls4225 hl4226 => ?_)
        refine lv_iload_n hx hb dX4_term_32 rfl (lv_at hl4226 1 rfl) ?_
        refine lv_bipush (v := 24) hx hb dX4_term_33 (by decide) ?_
        refine lv_icmp_eq (tgt := 58) hx hb dX4_term_35 (by decide) (fun c4227 => ?_) (fun c4227 => ?_)
        · have k4228 := i_eq c4227
          exact J58 ls4225 H4092 locsH4092 (x4219) (x4224) (x4097) (x4098) (lv_sub hl4226 [2, 3, 4, 1, 0] rfl) hTH4092 hSH4092 (by have := i_rng x4096; omega) (by have := i_rng x4097; omega) (by have := i_rng x4098; omega) ex4097 ex4098 cy4099_0 cy4099_1 cy4099_2 (by omega)
        · have k4228 := i_ne c4227
          refine lv_iload_n hx hb dX4_term_38 rfl (lv_at hl4226 3 rfl) ?_
          refine lv_bipush (v := 47) hx hb dX4_term_39 (by decide) ?_
          refine lv_icmp_eq (tgt := 52) hx hb dX4_term_41 (by decide) (fun c4229 => ?_) (fun c4229 => ?_)
          · have k4230 := i_eq c4229
            exact J52 ls4225 H4092 locsH4092 (x4097) (x4098) (lv_sub hl4226 [2] rfl) hTH4092 hSH4092 (by have := i_rng x4097; omega) (by have := i_rng x4098; omega) ex4097 ex4098 cy4099_0 cy4099_1 cy4099_2 (by omega)
          · have k4230 := i_ne c4229
            refine lv_aload_n hx hb dX4_term_44 rfl (lv_at hl4226 2 rfl) ?_
            refine lv_iload_n hx hb dX4_term_45 rfl (lv_at hl4226 1 rfl) ?_
            refine x_V (As := [.int x4219]) (rest := []) C (a_X4_isUnit l K G H4092 (x4219) hTH4092 ga0) yo_X4_isUnit wM_X4_144 ⟨⟨by decide, by decide⟩, by decide, by decide⟩ (x_rv C hTH4092 (ci := 4) rfl ga0 rg_78) rfl hl4226.1 rfl (Nat.le_of_ble_eq_true rfl) dX4_term_46 hSH4092 (AE_sub (fun _ _ => rfl) (by decide) hSH4092.1) (fun vH4231 H4231 locsH4231 pH4231 zH4231 kH4231 hSH4231 => ?_)
            obtain ⟨x4232, hvH4231, bx4232, hrH4231, hTH4231⟩ := pH4231
            subst hvH4231
            have m4233 := (ex4097).trans (fI_kept (x_lt hTH4092 kH4231 ga0 (by decide))).symm
            have m4234 := (ex4098).trans (fI_kept (x_lt hTH4092 kH4231 gmq (by decide))).symm
            have m4235 := (cy4099_0).trans (fR_kept (x_lt hTH4092 kH4231 ga0 (by decide))).symm
            have m4236 := (cy4099_1).trans (fR_kept (x_lt hTH4092 kH4231 ga0 (by decide))).symm
            have m4237 := (fI_kept (x_lt hTH4092 kH4231 gkq (by decide))).trans cy4099_2
            have m4238 := (eq4222).trans (fR_kept (x_lt hTH4092 kH4231 ga0 (by decide))).symm
            refine W.eq (g2 := F0 m 49 ls4225 [.int x4232]) rfl ?_
            refine lv_if_ne (tgt := 58) hx hb dX4_term_49 (by decide) (fun c4239 => ?_) (fun c4239 => ?_)
            · have k4240 := i_ne c4239
              exact J58 ls4225 H4231 locsH4231 (x4219) (x4224) (x4097) (x4098) (lv_sub hl4226 [2, 3, 4, 1, 0] rfl) hTH4231 hSH4231 (by have := i_rng x4096; omega) (by have := i_rng x4097; omega) (by have := i_rng x4098; omega) m4233 m4234 m4235 m4236 m4237 (by omega)
            · have k4240 := i_eq c4239
              exact J52 ls4225 H4231 locsH4231 (x4097) (x4098) (lv_sub hl4226 [2] rfl) hTH4231 hSH4231 (by have := i_rng x4097; omega) (by have := i_rng x4098; omega) m4233 m4234 m4235 m4236 m4237 (by omega)
  refine lv_iconst (v := 0) hx hb dX4_term_0 (by decide) ?_
  refine lv_istore_n (lv' := [(1, .int 0), (0, .ref a0)]) hx hb dX4_term_1 rfl hl (by decide) rfl (fun ls4241 hl4242 => ?_)
  refine lv_iconst (v := 0) hx hb dX4_term_2 (by decide) ?_
  refine lv_istore_n (lv' := [(2, .int 0), (1, .int 0), (0, .ref a0)]) hx hb dX4_term_3 rfl hl4242 (by decide) rfl (fun ls4243 hl4244 => ?_)
  exact J4 ((500 - (0 : Int32).toInt).toNat + 1) ls4243 s.heap [] (0) (0) (tat) (li) (lv_sub hl4244 [2, 1, 0] rfl) hT hS (by decide) (by decide) (by have := i_rng tat; omega) (by have := i_rng li; omega) etat eli emq ekq hel0 (by omega) (by omega)

set_option maxHeartbeats 4000000 in
set_option maxRecDepth 100000 in
theorem a_X4_sum (l : Launch) (K : KE) (G : Nat → Option Nat) (H : Heap) {a0 : Nat} {mq : Nat} {kq : Nat} (F : Int32) (tat : Int32) (li : Int32) (hT : TY K G H) (ga0 : G a0 = some 78) (gmq : G mq = some 69) (emq : mq = fR H a0 (K.1.2 4 0)) (gkq : G kq = some 79) (ekq : kq = fR H a0 (K.1.2 4 3)) (etat : tat = fI H a0 (K.1.2 4 7)) (eli : li = fI H mq (K.1.2 7 0)) (hel0 : fI H kq (F : Int32).toNatClampNeg = 26) (hp0 : tat.toInt ≤ F.toInt) (hp1 : F.toInt ≤ 500) : MX l K yX4_sum cX4_sum 3 (some .boolean) 2 46 0 0 [.ref a0] H (AE G [78, 69, 77] H.size) (fun v H1 => ∃ (r : Int32) (t0 : Int32) (t1 : Int32), v = some (.int r) ∧ (0 ≤ r.toInt ∧ r.toInt ≤ 1) ∧ t0 = fI H1 a0 (K.1.2 4 7) ∧ t1 = fI H1 mq (K.1.2 7 0) ∧ (t0.toInt ≤ F.toInt ∧ t1.toInt = li.toInt) ∧ mq = fR H1 a0 (K.1.2 4 0) ∧ kq = fR H1 a0 (K.1.2 4 3) ∧ TY K G H1) := by
  refine MX.of (by decide +kernel) (Nat.le_of_ble_eq_true rfl) ?_
  intro p e s m below meth c ls Q C hH hl hQ
  subst hH
  have C : CX p K s m _ meth c RX4 cX4_sum 3 (some .boolean) "sum" := C
  obtain ⟨hx, hb, hml, hown, hts, hKT, hr, hlocks, hnm⟩ := id C
  have hl : lv_has ls 3 [(0, .ref a0)] := hl
  have hS : va_S (AE G [78, 69, 77] s.heap.size) s.heap s.heap [] := va_S.rf
  have n_0 : (0 : Int32).toInt = 0 := rfl
  have n_1 : (1 : Int32).toInt = 1 := rfl
  have n_26 : (26 : Int32).toInt = 26 := rfl
  have n_43 : (43 : Int32).toInt = 43 := rfl
  have n_45 : (45 : Int32).toInt = 45 := rfl
  have n_500 : (500 : Int32).toInt = 500 := rfl
  have btat := ty_fi (x := tat) (k := 7) etat hT ga0 rg_78 rfl
  have bli := ty_fi (x := li) (k := 0) eli hT gmq rg_69 rfl
  have J4 : ∀ (nf : Nat) (ls1636 : Array Slot) (H1635 : Heap) (locsH1635 : List Loc) (x1638 : Int32) (x1639 : Int32) (x1640 : Int32) (x1641 : Int32), lv_has ls1636 3 [(0, .ref a0), (1, .int x1638), (2, .int x1639)] → TY K G H1635 → va_S (AE G [78, 69, 77] s.heap.size) s.heap H1635 locsH1635 → (0 ≤ x1638.toInt ∧ x1638.toInt ≤ 45) → (0 ≤ x1639.toInt ∧ x1639.toInt ≤ 500) → (0 ≤ x1640.toInt ∧ x1640.toInt ≤ 500) → (0 ≤ x1641.toInt ∧ x1641.toInt ≤ 16) → (x1640 = fI H1635 a0 (K.1.2 4 7)) → (x1641 = fI H1635 mq (K.1.2 7 0)) → (mq = fR H1635 a0 (K.1.2 4 0)) → (kq = fR H1635 a0 (K.1.2 4 3)) → (fI H1635 kq (F : Int32).toNatClampNeg = 26) → (500 - x1639.toInt < (nf : Int)) → (x1640.toInt ≤ F.toInt ∧ x1641.toInt = li.toInt) → W p l e ({ frames := 2, cells := 0, slots := 0, locals := 46 } : Room) s m (([.ref a0] : List Value).toArray) below meth c H1635 locsH1635 0 0 Q (F0 m 4 ls1636 []) := by
    intro nf
    induction nf with
    | zero =>
      intro ls1636 H1635 locsH1635 x1638 x1639 x1640 x1641 hl1637 hTH1635 hSH1635 bx1638 bx1639 bx1640 bx1641 ex1640 ex1641 cy1642_0 cy1642_1 cy1642_2 hm4 iv4
      exfalso
      omega
    | succ nf ih4 =>
      intro ls1636 H1635 locsH1635 x1638 x1639 x1640 x1641 hl1637 hTH1635 hSH1635 bx1638 bx1639 bx1640 bx1641 ex1640 ex1641 cy1642_0 cy1642_1 cy1642_2 hm4 iv4
      have J33 : ∀ (ls1644 : Array Slot) (H1643 : Heap) (locsH1643 : List Loc) (x1647 : Int32) (x1648 : Int32), lv_has ls1644 3 [(0, .ref a0), (2, .int x1639)] → TY K G H1643 → va_S (AE G [78, 69, 77] s.heap.size) s.heap H1643 locsH1643 → (0 ≤ x1639.toInt ∧ x1639.toInt ≤ 499) → (0 ≤ x1647.toInt ∧ x1647.toInt ≤ 500) → (0 ≤ x1648.toInt ∧ x1648.toInt ≤ 16) → (x1647 = fI H1643 a0 (K.1.2 4 7)) → (x1648 = fI H1643 mq (K.1.2 7 0)) → (mq = fR H1643 a0 (K.1.2 4 0)) → (kq = fR H1643 a0 (K.1.2 4 3)) → (fI H1643 kq (F : Int32).toNatClampNeg = 26) → (x1647.toInt ≤ F.toInt ∧ x1648.toInt = li.toInt) → W p l e ({ frames := 2, cells := 0, slots := 0, locals := 46 } : Room) s m (([.ref a0] : List Value).toArray) below meth c H1643 locsH1643 0 0 Q (F0 m 33 ls1644 []) := by
        intro ls1644 H1643 locsH1643 x1647 x1648 hl1645 hTH1643 hSH1643 b1646 bx1647 bx1648 ex1647 ex1648 cy1649_0 cy1649_1 cy1649_2 iv33
        have J57 : ∀ (ls1651 : Array Slot) (H1650 : Heap) (locsH1650 : List Loc) (x1653 : Int32) (x1654 : Int32) (x1655 : Int32), lv_has ls1651 3 [(0, .ref a0), (1, .int x1653), (2, .int x1639)] → TY K G H1650 → va_S (AE G [78, 69, 77] s.heap.size) s.heap H1650 locsH1650 → (43 ≤ x1653.toInt ∧ x1653.toInt ≤ 45) → (0 ≤ x1654.toInt ∧ x1654.toInt ≤ 500) → (0 ≤ x1655.toInt ∧ x1655.toInt ≤ 16) → (x1654 = fI H1650 a0 (K.1.2 4 7)) → (x1655 = fI H1650 mq (K.1.2 7 0)) → (mq = fR H1650 a0 (K.1.2 4 0)) → (kq = fR H1650 a0 (K.1.2 4 3)) → (fI H1650 kq (F : Int32).toNatClampNeg = 26) → (x1654.toInt < F.toInt ∧ x1654.toInt ≤ F.toInt ∧ x1655.toInt = li.toInt) → W p l e ({ frames := 2, cells := 0, slots := 0, locals := 46 } : Room) s m (([.ref a0] : List Value).toArray) below meth c H1650 locsH1650 0 0 Q (F0 m 57 ls1651 []) := by
          intro ls1651 H1650 locsH1650 x1653 x1654 x1655 hl1652 hTH1650 hSH1650 bx1653 bx1654 bx1655 ex1654 ex1655 cy1656_0 cy1656_1 cy1656_2 iv57
          refine lv_aload_n hx hb dX4_sum_57 rfl (lv_at hl1652 0 rfl) ?_
          refine lv_dup hx hb dX4_sum_58 rfl ?_
          refine x_gi C hTH1650 (ci := 4) (k := 7) rfl inX4 (by decide) wF_X4_42 ga0 rg_78 rfl dX4_sum_59 (fun x1657 ex1657 bx1657 => ?_)
          have ux1657 : x1654 = x1657 := (ex1654).trans ex1657.symm
          subst ux1657
          refine lv_iconst (v := 1) hx hb dX4_sum_62 (by decide) ?_
          refine lv_iadd hx hb dX4_sum_63 ?_
          refine lv_topi (fun x1658 ex1658 => ?_)
          have tx1658 := i_add ex1658 (by omega)
          have fz1660 : 0 ≤ x1658.toInt ∧ x1658.toInt ≤ 500 := by have := i_rng x1658; omega
          refine x_put C hTH1650 hSH1650 (ci := 4) (k := 7) (v := .int x1658) (ty0 := tyX4) rfl inX4 tyX4_ok nmX4 (by decide) rfl wF_X4_42 ga0 rg_78 rfl rfl (okI (by have := i_rng x1658; omega) (by have := i_rng x1658; omega)) rfl rfl (AE_in ga0 (by decide)) dX4_sum_64 (fun H1659 locsH1659 hTH1659 hSH1659 wH1659 => ?_)
          have m1662 := ex1655.trans (Wr.neI wH1659 (Or.inl (G_ne gmq ga0 (by decide)))).symm
          have m1663 := cy1656_0.trans (Wr.neR wH1659 (Or.inr (x_apart hKT hts inX4 tyX4 tyX4_ok nmX4 rfl 0 7 (by decide) (by decide) (by decide)))).symm
          have m1664 := cy1656_1.trans (Wr.neR wH1659 (Or.inr (x_apart hKT hts inX4 tyX4 tyX4_ok nmX4 rfl 3 7 (by decide) (by decide) (by decide)))).symm
          have m1665 := (Wr.neI wH1659 (Or.inl (G_ne gkq ga0 (by decide)))).trans cy1656_2
          have m1666 := Wr.I wH1659
          have m1666 := m1666.symm
          obtain ⟨x1667, ex1667⟩ : ∃ y : Int32, y = x1639 + 1 := ⟨_, rfl⟩
          have tx1667 := i_add ex1667 (by omega)
          refine lv_iinc (v := x1667) (lv' := [(2, .int x1667), (0, .ref a0), (1, .int x1653)]) hx hb dX4_sum_67 hl1652 (k := 2) rfl (by rw [ex1667]; rfl) (by decide) rfl (fun ls1668 hl1669 => ?_)
          refine lv_goto (tgt := 4) hx hb dX4_sum_70 (by decide) ?_
          exact ih4 ls1668 H1659 locsH1659 (x1653) (x1667) (x1658) (x1655) (lv_sub hl1669 [1, 2, 0] rfl) hTH1659 hSH1659 (by have := i_rng x1653; omega) (by have := i_rng x1667; omega) (by have := i_rng x1658; omega) (by have := i_rng x1655; omega) m1666 m1662 m1663 m1664 m1665 (by omega) (by omega)
        refine lv_aload_n hx hb dX4_sum_33 rfl (lv_at hl1645 0 rfl) ?_
        refine x_gr C hTH1643 (ci := 4) (k := 3) rfl inX4 (by decide) wF_X4_18 ga0 rg_78 rfl dX4_sum_34 (fun q1670 eq1670 gq1670 => ?_)
        have uq1670 : kq = q1670 := (cy1649_1).trans eq1670.symm
        subst uq1670
        refine lv_aload_n hx hb dX4_sum_37 rfl (lv_at hl1645 0 rfl) ?_
        refine x_gi C hTH1643 (ci := 4) (k := 7) rfl inX4 (by decide) wF_X4_42 ga0 rg_78 rfl dX4_sum_38 (fun x1671 ex1671 bx1671 => ?_)
        have ux1671 : x1647 = x1671 := (ex1647).trans ex1671.symm
        subst ux1671
        refine x_ai C hTH1643 gkq rg_79 ⟨by omega, by show _ < ((501 : Nat) : Int); omega⟩ dX4_sum_41 (fun x1672 ex1672 bx1672 => ?_)
        have dx1672 := el_hit ex1672 cy1649_2
        refine lv_istore_n (lv' := [(1, .int x1672), (0, .ref a0), (2, .int x1639)]) hx hb dX4_sum_42 rfl hl1645 (by decide) rfl (fun ls1673 hl1674 => ?_)
        refine lv_iload_n hx hb dX4_sum_43 rfl (lv_at hl1674 0 rfl) ?_
        refine lv_bipush (v := 43) hx hb dX4_sum_44 (by decide) ?_
        refine lv_icmp_eq (tgt := 57) hx hb dX4_sum_46 (by decide) (fun c1675 => ?_) (fun c1675 => ?_)
        · have k1676 := i_eq c1675
          exact J57 ls1673 H1643 locsH1643 (x1672) (x1647) (x1648) (lv_sub hl1674 [1, 0, 2] rfl) hTH1643 hSH1643 (by have := i_rng x1672; omega) (by have := i_rng x1647; omega) (by have := i_rng x1648; omega) ex1647 ex1648 cy1649_0 cy1649_1 cy1649_2 (by omega)
        · have k1676 := i_ne c1675
          refine lv_iload_n hx hb dX4_sum_49 rfl (lv_at hl1674 0 rfl) ?_
          refine lv_bipush (v := 45) hx hb dX4_sum_50 (by decide) ?_
          refine lv_icmp_eq (tgt := 57) hx hb dX4_sum_52 (by decide) (fun c1677 => ?_) (fun c1677 => ?_)
          · have k1678 := i_eq c1677
            exact J57 ls1673 H1643 locsH1643 (x1672) (x1647) (x1648) (lv_sub hl1674 [1, 0, 2] rfl) hTH1643 hSH1643 (by have := i_rng x1672; omega) (by have := i_rng x1647; omega) (by have := i_rng x1648; omega) ex1647 ex1648 cy1649_0 cy1649_1 cy1649_2 (by omega)
          · have k1678 := i_ne c1677
            refine lv_iconst (v := 1) hx hb dX4_sum_55 (by decide) ?_
            exact x_zret C hQ (Or.inr rfl) dX4_sum_56 hSH1643 (by decide) (by decide) (⟨1, x1647, x1648, rfl, by decide, ex1647, ex1648, by omega, cy1649_0, cy1649_1, hTH1643⟩)
      refine lv_iload_n hx hb dX4_sum_4 rfl (lv_at hl1637 2 rfl) ?_
      refine lv_sipush (v := 500) hx hb dX4_sum_5 (by decide) ?_
      refine lv_icmp_ge (tgt := 73) hx hb dX4_sum_8 (by decide) (fun c1679 => ?_) (fun c1679 => ?_)
      · have k1680 := i_le c1679
        refine lv_iconst (v := 1) hx hb dX4_sum_73 (by decide) ?_
        exact x_zret C hQ (Or.inr rfl) dX4_sum_74 hSH1635 (by decide) (by decide) (⟨1, x1640, x1641, rfl, by decide, ex1640, ex1641, by omega, cy1642_0, cy1642_1, hTH1635⟩)
      · have k1680 := i_nle c1679
        refine lv_aload_n hx hb dX4_sum_11 rfl (lv_at hl1637 0 rfl) ?_
        refine x_V (As := []) (rest := []) C (a_X4_term l K G H1635 (F) (x1640) (x1641) hTH1635 ga0 gmq cy1642_0 gkq cy1642_1 ex1640 ex1641 cy1642_2 (by omega) (by omega)) yo_X4_term wM_X4_141 ⟨⟨by decide, by decide⟩, by decide, by decide⟩ (x_rv C hTH1635 (ci := 4) rfl ga0 rg_78) rfl hl1637.1 rfl (Nat.le_of_ble_eq_true rfl) dX4_sum_12 hSH1635 (AE_sub (fun _ _ => rfl) (by decide) hSH1635.1) (fun vH1681 H1681 locsH1681 pH1681 zH1681 kH1681 hSH1681 => ?_)
        obtain ⟨x1682, x1683, x1684, hvH1681, bx1682, ex1683, ex1684, hrH1681, m1685, m1686, hTH1681⟩ := pH1681
        subst hvH1681
        have m1687 := (fI_kept (x_lt hTH1635 kH1681 gkq (by decide))).trans cy1642_2
        have bx1683 := ty_fi (x := x1683) (k := 7) ex1683 hTH1681 ga0 rg_78 rfl
        have bx1684 := ty_fi (x := x1684) (k := 0) ex1684 hTH1681 gmq rg_69 rfl
        refine W.eq (g2 := F0 m 15 ls1636 [.int x1682]) rfl ?_
        refine lv_if_ne (tgt := 20) hx hb dX4_sum_15 (by decide) (fun c1688 => ?_) (fun c1688 => ?_)
        · have k1689 := i_ne c1688
          refine lv_iload_n hx hb dX4_sum_20 rfl (lv_at hl1637 1 rfl) ?_
          refine lv_if_eq (tgt := 33) hx hb dX4_sum_21 (by decide) (fun c1690 => ?_) (fun c1690 => ?_)
          · have k1691 := i_eq c1690
            exact J33 ls1636 H1681 locsH1681 (x1683) (x1684) (lv_sub hl1637 [0, 2] rfl) hTH1681 hSH1681 (by have := i_rng x1639; omega) (by have := i_rng x1683; omega) (by have := i_rng x1684; omega) ex1683 ex1684 m1685 m1686 m1687 (by omega)
          · have k1691 := i_ne c1690
            refine lv_aload_n hx hb dX4_sum_24 rfl (lv_at hl1637 0 rfl) ?_
            refine x_gr C hTH1681 (ci := 4) (k := 0) rfl inX4 (by decide) wF_X4_12 ga0 rg_78 rfl dX4_sum_25 (fun q1692 eq1692 gq1692 => ?_)
            have uq1692 : mq = q1692 := (m1685).trans eq1692.symm
            subst uq1692
            refine lv_iload_n hx hb dX4_sum_28 rfl (lv_at hl1637 1 rfl) ?_
            refine lv_iconst (v := 0) hx hb dX4_sum_29 (by decide) ?_
            refine x_V (As := [.int x1638, .int 0]) (rest := []) C (a_X7_addStep l K G H1681 (x1638) (0) (x1684) hTH1681 gmq ex1684) yo_X7_addStep wM_X4_131 ⟨⟨by decide, by decide⟩, by decide, by decide⟩ (x_rv C hTH1681 (ci := 7) rfl gmq rg_69) rfl hl1637.1 rfl (Nat.le_of_ble_eq_true rfl) dX4_sum_30 hSH1681 (AE_sub (fun _ _ => rfl) (by decide) hSH1681.1) (fun vH1693 H1693 locsH1693 pH1693 zH1693 kH1693 hSH1693 => ?_)
            obtain ⟨x1694, hvH1693, ex1694, hrH1693, hTH1693⟩ := pH1693
            subst hvH1693
            have m1695 := (fI_kept (x_lt hTH1681 kH1693 gkq (by decide))).trans m1687
            have m1696 := (m1685).trans (fR_kept (x_lt hTH1681 kH1693 ga0 (by decide))).symm
            have m1697 := (m1686).trans (fR_kept (x_lt hTH1681 kH1693 ga0 (by decide))).symm
            have m1698 := (ex1683).trans (fI_kept (x_lt hTH1681 kH1693 ga0 (by decide))).symm
            have bx1694 := ty_fi (x := x1694) (k := 0) ex1694 hTH1693 gmq rg_69 rfl
            refine W.eq (g2 := F0 m 33 ls1636 []) rfl ?_
            exact J33 ls1636 H1693 locsH1693 (x1683) (x1694) (lv_sub hl1637 [0, 2] rfl) hTH1693 hSH1693 (by have := i_rng x1639; omega) (by have := i_rng x1683; omega) (by have := i_rng x1694; omega) m1698 ex1694 m1696 m1697 m1695 (by omega)
        · have k1689 := i_eq c1688
          refine lv_iconst (v := 0) hx hb dX4_sum_18 (by decide) ?_
          exact x_zret C hQ (Or.inl rfl) dX4_sum_19 hSH1681 (by decide) (by decide) (⟨0, x1683, x1684, rfl, by decide, ex1683, ex1684, by omega, m1685, m1686, hTH1681⟩)
  refine lv_iconst (v := 0) hx hb dX4_sum_0 (by decide) ?_
  refine lv_istore_n (lv' := [(1, .int 0), (0, .ref a0)]) hx hb dX4_sum_1 rfl hl (by decide) rfl (fun ls1699 hl1700 => ?_)
  refine lv_iconst (v := 0) hx hb dX4_sum_2 (by decide) ?_
  refine lv_istore_n (lv' := [(2, .int 0), (1, .int 0), (0, .ref a0)]) hx hb dX4_sum_3 rfl hl1700 (by decide) rfl (fun ls1701 hl1702 => ?_)
  exact J4 ((500 - (0 : Int32).toInt).toNat + 1) ls1701 s.heap [] (0) (0) (tat) (li) (lv_sub hl1702 [2, 1, 0] rfl) hT hS (by decide) (by decide) (by have := i_rng tat; omega) (by have := i_rng li; omega) etat eli emq ekq hel0 (by omega) (by omega)

set_option maxHeartbeats 4000000 in
set_option maxRecDepth 100000 in
theorem a_X4_part_8 (l : Launch) (K : KE) (G : Nat → Option Nat) (H : Heap) {a0 : Nat} (x1 : Int32) {mq : Nat} {kq : Nat} (F : Int32) (tat : Int32) (li : Int32) (hT : TY K G H) (ga0 : G a0 = some 78) (hx1 : 8 ≤ x1.toInt ∧ x1.toInt ≤ 8) (gmq : G mq = some 69) (emq : mq = fR H a0 (K.1.2 4 0)) (gkq : G kq = some 79) (ekq : kq = fR H a0 (K.1.2 4 3)) (etat : tat = fI H a0 (K.1.2 4 7)) (eli : li = fI H mq (K.1.2 7 0)) (hel0 : fI H kq (F : Int32).toNatClampNeg = 26) (hp0 : tat.toInt ≤ F.toInt) (hp1 : F.toInt ≤ 500) : MX l K yX4_part cX4_part 4 (some .boolean) 3 68 0 0 [.ref a0, .int x1] H (AE G [78, 69, 77] H.size) (fun v H1 => ∃ (r : Int32) (t0 : Int32) (t1 : Int32), v = some (.int r) ∧ (0 ≤ r.toInt ∧ r.toInt ≤ 1) ∧ t0 = fI H1 a0 (K.1.2 4 7) ∧ t1 = fI H1 mq (K.1.2 7 0) ∧ (t0.toInt ≤ F.toInt ∧ t1.toInt = li.toInt) ∧ mq = fR H1 a0 (K.1.2 4 0) ∧ kq = fR H1 a0 (K.1.2 4 3) ∧ TY K G H1) := by
  refine MX.of (by decide +kernel) (Nat.le_of_ble_eq_true rfl) ?_
  intro p e s m below meth c ls Q C hH hl hQ
  subst hH
  have C : CX p K s m _ meth c RX4 cX4_part 4 (some .boolean) "part" := C
  obtain ⟨hx, hb, hml, hown, hts, hKT, hr, hlocks, hnm⟩ := id C
  have hl : lv_has ls 4 [(0, .ref a0), (1, .int x1)] := hl
  have hS : va_S (AE G [78, 69, 77] s.heap.size) s.heap s.heap [] := va_S.rf
  have n_0 : (0 : Int32).toInt = 0 := rfl
  have n_1 : (1 : Int32).toInt = 1 := rfl
  have n_3 : (3 : Int32).toInt = 3 := rfl
  have n_8 : (8 : Int32).toInt = 8 := rfl
  have n_10 : (10 : Int32).toInt = 10 := rfl
  have n_26 : (26 : Int32).toInt = 26 := rfl
  have n_40 : (40 : Int32).toInt = 40 := rfl
  have n_60 : (60 : Int32).toInt = 60 := rfl
  have n_61 : (61 : Int32).toInt = 61 := rfl
  have n_62 : (62 : Int32).toInt = 62 := rfl
  have btat := ty_fi (x := tat) (k := 7) etat hT ga0 rg_78 rfl
  have bli := ty_fi (x := li) (k := 0) eli hT gmq rg_69 rfl
  have J22 : ∀ (ls492 : Array Slot) (H491 : Heap) (locsH491 : List Loc) (x494 : Int32) (x495 : Int32) (x496 : Int32), lv_has ls492 4 [(0, .ref a0), (1, .int x1), (2, .int x494)] → TY K G H491 → va_S (AE G [78, 69, 77] s.heap.size) s.heap H491 locsH491 → (10 ≤ x494.toInt ∧ x494.toInt ≤ 40) → (0 ≤ x495.toInt ∧ x495.toInt ≤ 500) → (0 ≤ x496.toInt ∧ x496.toInt ≤ 16) → (x495 = fI H491 a0 (K.1.2 4 7)) → (x496 = fI H491 mq (K.1.2 7 0)) → (mq = fR H491 a0 (K.1.2 4 0)) → (kq = fR H491 a0 (K.1.2 4 3)) → (fI H491 kq (F : Int32).toNatClampNeg = 26) → (x495.toInt < F.toInt ∧ x495.toInt ≤ F.toInt ∧ x496.toInt = li.toInt) → W p l e ({ frames := 3, cells := 0, slots := 0, locals := 68 } : Room) s m (([.ref a0, .int x1] : List Value).toArray) below meth c H491 locsH491 0 0 Q (F0 m 22 ls492 []) := by
    intro ls492 H491 locsH491 x494 x495 x496 hl493 hTH491 hSH491 bx494 bx495 bx496 ex495 ex496 cy497_0 cy497_1 cy497_2 iv22
    have J44 : ∀ (ls499 : Array Slot) (H498 : Heap) (locsH498 : List Loc) (x501 : Int32) (x502 : Int32) (x503 : Int32), lv_has ls499 4 [] → TY K G H498 → va_S (AE G [78, 69, 77] s.heap.size) s.heap H498 locsH498 → (0 ≤ x501.toInt ∧ x501.toInt ≤ 0) → (0 ≤ x502.toInt ∧ x502.toInt ≤ 500) → (0 ≤ x503.toInt ∧ x503.toInt ≤ 16) → (x502 = fI H498 a0 (K.1.2 4 7)) → (x503 = fI H498 mq (K.1.2 7 0)) → (mq = fR H498 a0 (K.1.2 4 0)) → (kq = fR H498 a0 (K.1.2 4 3)) → (fI H498 kq (F : Int32).toNatClampNeg = 26) → (x502.toInt ≤ F.toInt ∧ x503.toInt = li.toInt) → W p l e ({ frames := 3, cells := 0, slots := 0, locals := 68 } : Room) s m (([.ref a0, .int x1] : List Value).toArray) below meth c H498 locsH498 0 0 Q (F0 m 44 ls499 [.int x501]) := by
      intro ls499 H498 locsH498 x501 x502 x503 hl500 hTH498 hSH498 bx501 bx502 bx503 ex502 ex503 cy504_0 cy504_1 cy504_2 iv44
      exact x_zret C hQ (i_01 (by omega)) dX4_part_44 hSH498 (by decide) (by decide) (⟨x501, x502, x503, rfl, by omega, ex502, ex503, by omega, cy504_0, cy504_1, hTH498⟩)
    refine lv_iload_n hx hb dX4_part_22 rfl (lv_at hl493 1 rfl) ?_
    refine lv_bipush (v := 8) hx hb dX4_part_23 (by decide) ?_
    refine lv_icmp_ge (tgt := 39) hx hb dX4_part_25 (by decide) (fun c505 => ?_) (fun c505 => ?_)
    · have k506 := i_le c505
      refine lv_aload_n hx hb dX4_part_39 rfl (lv_at hl493 0 rfl) ?_
      refine lv_iconst (v := 3) hx hb dX4_part_40 (by decide) ?_
      refine x_V (As := [.int 3]) (rest := []) C (a_X4_refuse l K G H491 (3) (x495) hTH491 ga0 gmq cy497_0 gkq cy497_1 ex495) yo_X4_refuse wM_X4_81 ⟨⟨by decide, by decide⟩, by decide, by decide⟩ (x_rv C hTH491 (ci := 4) rfl ga0 rg_78) rfl hl493.1 rfl (Nat.le_of_ble_eq_true rfl) dX4_part_41 hSH491 (AE_sub (fun _ _ => rfl) (by decide) hSH491.1) (fun vH507 H507 locsH507 pH507 zH507 kH507 hSH507 => ?_)
      obtain ⟨x508, x509, hvH507, bx508, ex509, hrH507, m510, m511, hTH507⟩ := pH507
      subst hvH507
      have m512 := (ex496).trans (fI_kept (x_lt hTH491 kH507 gmq (by decide))).symm
      have m513 := (fI_kept (x_lt hTH491 kH507 gkq (by decide))).trans cy497_2
      have bx509 := ty_fi (x := x509) (k := 7) ex509 hTH507 ga0 rg_78 rfl
      refine W.eq (g2 := F0 m 44 ls492 [.int x508]) rfl ?_
      exact J44 ls492 H507 locsH507 (x508) (x509) (x496) (lv_sub hl493 [] rfl) hTH507 hSH507 (by have := i_rng x508; omega) (by have := i_rng x509; omega) (by have := i_rng x496; omega) ex509 m512 m510 m511 m513 (by omega)
    · have k506 := i_nle c505
      exfalso
      omega
  have J88 : ∀ (ls515 : Array Slot) (H514 : Heap) (locsH514 : List Loc) (x517 : Int32) (x518 : Int32) (x519 : Int32), lv_has ls515 4 [(0, .ref a0), (3, .int x517)] → TY K G H514 → va_S (AE G [78, 69, 77] s.heap.size) s.heap H514 locsH514 → (60 ≤ x517.toInt ∧ x517.toInt ≤ 62) → (0 ≤ x518.toInt ∧ x518.toInt ≤ 500) → (0 ≤ x519.toInt ∧ x519.toInt ≤ 16) → (x518 = fI H514 a0 (K.1.2 4 7)) → (x519 = fI H514 mq (K.1.2 7 0)) → (mq = fR H514 a0 (K.1.2 4 0)) → (kq = fR H514 a0 (K.1.2 4 3)) → (fI H514 kq (F : Int32).toNatClampNeg = 26) → (x518.toInt < F.toInt ∧ x518.toInt ≤ F.toInt ∧ x519.toInt = li.toInt) → W p l e ({ frames := 3, cells := 0, slots := 0, locals := 68 } : Room) s m (([.ref a0, .int x1] : List Value).toArray) below meth c H514 locsH514 0 0 Q (F0 m 88 ls515 []) := by
    intro ls515 H514 locsH514 x517 x518 x519 hl516 hTH514 hSH514 bx517 bx518 bx519 ex518 ex519 cy520_0 cy520_1 cy520_2 iv88
    refine lv_aload_n hx hb dX4_part_88 rfl (lv_at hl516 0 rfl) ?_
    refine lv_dup hx hb dX4_part_89 rfl ?_
    refine x_gi C hTH514 (ci := 4) (k := 7) rfl inX4 (by decide) wF_X4_42 ga0 rg_78 rfl dX4_part_90 (fun x521 ex521 bx521 => ?_)
    have ux521 : x518 = x521 := (ex518).trans ex521.symm
    subst ux521
    refine lv_iconst (v := 1) hx hb dX4_part_93 (by decide) ?_
    refine lv_iadd hx hb dX4_part_94 ?_
    refine lv_topi (fun x522 ex522 => ?_)
    have tx522 := i_add ex522 (by omega)
    have fz524 : 0 ≤ x522.toInt ∧ x522.toInt ≤ 500 := by have := i_rng x522; omega
    refine x_put C hTH514 hSH514 (ci := 4) (k := 7) (v := .int x522) (ty0 := tyX4) rfl inX4 tyX4_ok nmX4 (by decide) rfl wF_X4_42 ga0 rg_78 rfl rfl (okI (by have := i_rng x522; omega) (by have := i_rng x522; omega)) rfl rfl (AE_in ga0 (by decide)) dX4_part_95 (fun H523 locsH523 hTH523 hSH523 wH523 => ?_)
    have m526 := ex519.trans (Wr.neI wH523 (Or.inl (G_ne gmq ga0 (by decide)))).symm
    have m527 := cy520_0.trans (Wr.neR wH523 (Or.inr (x_apart hKT hts inX4 tyX4 tyX4_ok nmX4 rfl 0 7 (by decide) (by decide) (by decide)))).symm
    have m528 := cy520_1.trans (Wr.neR wH523 (Or.inr (x_apart hKT hts inX4 tyX4 tyX4_ok nmX4 rfl 3 7 (by decide) (by decide) (by decide)))).symm
    have m529 := (Wr.neI wH523 (Or.inl (G_ne gkq ga0 (by decide)))).trans cy520_2
    have m530 := Wr.I wH523
    have m530 := m530.symm
    refine lv_aload_n hx hb dX4_part_98 rfl (lv_at hl516 0 rfl) ?_
    refine x_V (As := []) (rest := []) C (a_X4_sum l K G H523 (F) (x522) (x519) hTH523 ga0 gmq m527 gkq m528 m530 m526 m529 (by omega) (by omega)) yo_X4_sum wM_X4_103 ⟨⟨by decide, by decide⟩, by decide, by decide⟩ (x_rv C hTH523 (ci := 4) rfl ga0 rg_78) rfl hl516.1 rfl (Nat.le_of_ble_eq_true rfl) dX4_part_99 hSH523 (AE_sub (fun _ _ => rfl) (by decide) hSH523.1) (fun vH531 H531 locsH531 pH531 zH531 kH531 hSH531 => ?_)
    obtain ⟨x532, x533, x534, hvH531, bx532, ex533, ex534, hrH531, m535, m536, hTH531⟩ := pH531
    subst hvH531
    have m537 := (fI_kept (x_lt hTH523 kH531 gkq (by decide))).trans m529
    have bx533 := ty_fi (x := x533) (k := 7) ex533 hTH531 ga0 rg_78 rfl
    have bx534 := ty_fi (x := x534) (k := 0) ex534 hTH531 gmq rg_69 rfl
    refine W.eq (g2 := F0 m 102 ls515 [.int x532]) rfl ?_
    refine lv_if_ne (tgt := 107) hx hb dX4_part_102 (by decide) (fun c538 => ?_) (fun c538 => ?_)
    · have k539 := i_ne c538
      refine lv_aload_n hx hb dX4_part_107 rfl (lv_at hl516 0 rfl) ?_
      refine x_gr C hTH531 (ci := 4) (k := 0) rfl inX4 (by decide) wF_X4_12 ga0 rg_78 rfl dX4_part_108 (fun q540 eq540 gq540 => ?_)
      have uq540 : mq = q540 := (m535).trans eq540.symm
      subst uq540
      refine lv_iload_n hx hb dX4_part_111 rfl (lv_at hl516 1 rfl) ?_
      refine lv_iconst (v := 0) hx hb dX4_part_112 (by decide) ?_
      refine x_V (As := [.int x517, .int 0]) (rest := []) C (a_X7_addStep l K G H531 (x517) (0) (x534) hTH531 gmq ex534) yo_X7_addStep wM_X4_131 ⟨⟨by decide, by decide⟩, by decide, by decide⟩ (x_rv C hTH531 (ci := 7) rfl gmq rg_69) rfl hl516.1 rfl (Nat.le_of_ble_eq_true rfl) dX4_part_113 hSH531 (AE_sub (fun _ _ => rfl) (by decide) hSH531.1) (fun vH541 H541 locsH541 pH541 zH541 kH541 hSH541 => ?_)
      obtain ⟨x542, hvH541, ex542, hrH541, hTH541⟩ := pH541
      subst hvH541
      have m543 := (fI_kept (x_lt hTH531 kH541 gkq (by decide))).trans m537
      have m544 := (m535).trans (fR_kept (x_lt hTH531 kH541 ga0 (by decide))).symm
      have m545 := (m536).trans (fR_kept (x_lt hTH531 kH541 ga0 (by decide))).symm
      have m546 := (ex533).trans (fI_kept (x_lt hTH531 kH541 ga0 (by decide))).symm
      have bx542 := ty_fi (x := x542) (k := 0) ex542 hTH541 gmq rg_69 rfl
      refine W.eq (g2 := F0 m 116 ls515 []) rfl ?_
      refine lv_iconst (v := 1) hx hb dX4_part_116 (by decide) ?_
      exact x_zret C hQ (Or.inr rfl) dX4_part_117 hSH541 (by decide) (by decide) (⟨1, x533, x542, rfl, by decide, m546, ex542, by omega, m544, m545, hTH541⟩)
    · have k539 := i_eq c538
      refine lv_iconst (v := 0) hx hb dX4_part_105 (by decide) ?_
      exact x_zret C hQ (Or.inl rfl) dX4_part_106 hSH531 (by decide) (by decide) (⟨0, x533, x534, rfl, by decide, ex533, ex534, by omega, m535, m536, hTH531⟩)
  refine lv_aload_n hx hb dX4_part_0 rfl (lv_at hl 0 rfl) ?_
  refine x_gr C hT (ci := 4) (k := 3) rfl inX4 (by decide) wF_X4_18 ga0 rg_78 rfl dX4_part_1 (fun q547 eq547 gq547 => ?_)
  have uq547 : kq = q547 := (ekq).trans eq547.symm
  subst uq547
  refine lv_aload_n hx hb dX4_part_4 rfl (lv_at hl 0 rfl) ?_
  refine x_gi C hT (ci := 4) (k := 7) rfl inX4 (by decide) wF_X4_42 ga0 rg_78 rfl dX4_part_5 (fun x548 ex548 bx548 => ?_)
  have ux548 : tat = x548 := (etat).trans ex548.symm
  subst ux548
  refine x_ai C hT gkq rg_79 ⟨by omega, by show _ < ((501 : Nat) : Int); omega⟩ dX4_part_8 (fun x549 ex549 bx549 => ?_)
  have dx549 := el_hit ex549 hel0
  refine lv_istore_n (lv' := [(2, .int x549), (0, .ref a0), (1, .int x1)]) hx hb dX4_part_9 rfl hl (by decide) rfl (fun ls550 hl551 => ?_)
  refine lv_iload_n hx hb dX4_part_10 rfl (lv_at hl551 0 rfl) ?_
  refine lv_bipush (v := 10) hx hb dX4_part_11 (by decide) ?_
  refine lv_icmp_eq (tgt := 22) hx hb dX4_part_13 (by decide) (fun c552 => ?_) (fun c552 => ?_)
  · have k553 := i_eq c552
    exact J22 ls550 s.heap [] (x549) (tat) (li) (lv_sub hl551 [1, 2, 0] rfl) hT hS (by have := i_rng x549; omega) (by have := i_rng tat; omega) (by have := i_rng li; omega) etat eli emq ekq hel0 (by omega)
  · have k553 := i_ne c552
    refine lv_iload_n hx hb dX4_part_16 rfl (lv_at hl551 0 rfl) ?_
    refine lv_bipush (v := 40) hx hb dX4_part_17 (by decide) ?_
    refine lv_icmp_ne (tgt := 45) hx hb dX4_part_19 (by decide) (fun c554 => ?_) (fun c554 => ?_)
    · have k555 := i_ne c554
      refine lv_aload_n hx hb dX4_part_45 rfl (lv_at hl551 1 rfl) ?_
      refine x_V (As := []) (rest := []) C (a_X4_sum l K G s.heap (F) (tat) (li) hT ga0 gmq emq gkq ekq etat eli hel0 (by omega) (by omega)) yo_X4_sum wM_X4_103 ⟨⟨by decide, by decide⟩, by decide, by decide⟩ (x_rv C hT (ci := 4) rfl ga0 rg_78) rfl hl551.1 rfl (Nat.le_of_ble_eq_true rfl) dX4_part_46 hS (AE_sub (fun _ _ => rfl) (by decide) hS.1) (fun vH556 H556 locsH556 pH556 zH556 kH556 hSH556 => ?_)
      obtain ⟨x557, x558, x559, hvH556, bx557, ex558, ex559, hrH556, m560, m561, hTH556⟩ := pH556
      subst hvH556
      have m562 := (fI_kept (x_lt hT kH556 gkq (by decide))).trans hel0
      have bx558 := ty_fi (x := x558) (k := 7) ex558 hTH556 ga0 rg_78 rfl
      have bx559 := ty_fi (x := x559) (k := 0) ex559 hTH556 gmq rg_69 rfl
      refine W.eq (g2 := F0 m 49 ls550 [.int x557]) rfl ?_
      refine lv_if_ne (tgt := 54) hx hb dX4_part_49 (by decide) (fun c563 => ?_) (fun c563 => ?_)
      · have k564 := i_ne c563
        refine lv_aload_n hx hb dX4_part_54 rfl (lv_at hl551 1 rfl) ?_
        refine x_gr C hTH556 (ci := 4) (k := 3) rfl inX4 (by decide) wF_X4_18 ga0 rg_78 rfl dX4_part_55 (fun q565 eq565 gq565 => ?_)
        have uq565 : kq = q565 := (m561).trans eq565.symm
        subst uq565
        refine lv_aload_n hx hb dX4_part_58 rfl (lv_at hl551 1 rfl) ?_
        refine x_gi C hTH556 (ci := 4) (k := 7) rfl inX4 (by decide) wF_X4_42 ga0 rg_78 rfl dX4_part_59 (fun x566 ex566 bx566 => ?_)
        have ux566 : x558 = x566 := (ex558).trans ex566.symm
        subst ux566
        refine x_ai C hTH556 gkq rg_79 ⟨by omega, by show _ < ((501 : Nat) : Int); omega⟩ dX4_part_62 (fun x567 ex567 bx567 => ?_)
        have dx567 := el_hit ex567 m562
        refine lv_istore_n (lv' := [(3, .int x567), (2, .int x549), (0, .ref a0), (1, .int x1)]) hx hb dX4_part_63 rfl hl551 (by decide) rfl (fun ls568 hl569 => ?_)
        refine lv_iload_n hx hb dX4_part_64 rfl (lv_at hl569 0 rfl) ?_
        refine lv_bipush (v := 60) hx hb dX4_part_65 (by decide) ?_
        refine lv_icmp_eq (tgt := 88) hx hb dX4_part_67 (by decide) (fun c570 => ?_) (fun c570 => ?_)
        · have k571 := i_eq c570
          exact J88 ls568 H556 locsH556 (x567) (x558) (x559) (lv_sub hl569 [2, 0] rfl) hTH556 hSH556 (by have := i_rng x567; omega) (by have := i_rng x558; omega) (by have := i_rng x559; omega) ex558 ex559 m560 m561 m562 (by omega)
        · have k571 := i_ne c570
          refine lv_iload_n hx hb dX4_part_70 rfl (lv_at hl569 0 rfl) ?_
          refine lv_bipush (v := 61) hx hb dX4_part_71 (by decide) ?_
          refine lv_icmp_eq (tgt := 88) hx hb dX4_part_73 (by decide) (fun c572 => ?_) (fun c572 => ?_)
          · have k573 := i_eq c572
            exact J88 ls568 H556 locsH556 (x567) (x558) (x559) (lv_sub hl569 [2, 0] rfl) hTH556 hSH556 (by have := i_rng x567; omega) (by have := i_rng x558; omega) (by have := i_rng x559; omega) ex558 ex559 m560 m561 m562 (by omega)
          · have k573 := i_ne c572
            refine lv_iload_n hx hb dX4_part_76 rfl (lv_at hl569 0 rfl) ?_
            refine lv_bipush (v := 62) hx hb dX4_part_77 (by decide) ?_
            refine lv_icmp_eq (tgt := 88) hx hb dX4_part_79 (by decide) (fun c574 => ?_) (fun c574 => ?_)
            · have k575 := i_eq c574
              exact J88 ls568 H556 locsH556 (x567) (x558) (x559) (lv_sub hl569 [2, 0] rfl) hTH556 hSH556 (by have := i_rng x567; omega) (by have := i_rng x558; omega) (by have := i_rng x559; omega) ex558 ex559 m560 m561 m562 (by omega)
            · have k575 := i_ne c574
              refine lv_aload_n hx hb dX4_part_82 rfl (lv_at hl569 2 rfl) ?_
              refine lv_iconst (v := 1) hx hb dX4_part_83 (by decide) ?_
              refine x_V (As := [.int 1]) (rest := []) C (a_X4_refuse l K G H556 (1) (x558) hTH556 ga0 gmq m560 gkq m561 ex558) yo_X4_refuse wM_X4_81 ⟨⟨by decide, by decide⟩, by decide, by decide⟩ (x_rv C hTH556 (ci := 4) rfl ga0 rg_78) rfl hl569.1 rfl (Nat.le_of_ble_eq_true rfl) dX4_part_84 hSH556 (AE_sub (fun _ _ => rfl) (by decide) hSH556.1) (fun vH576 H576 locsH576 pH576 zH576 kH576 hSH576 => ?_)
              obtain ⟨x577, x578, hvH576, bx577, ex578, hrH576, m579, m580, hTH576⟩ := pH576
              subst hvH576
              have m581 := (fI_kept (x_lt hTH556 kH576 gkq (by decide))).trans m562
              have m582 := (ex559).trans (fI_kept (x_lt hTH556 kH576 gmq (by decide))).symm
              have bx578 := ty_fi (x := x578) (k := 7) ex578 hTH576 ga0 rg_78 rfl
              refine W.eq (g2 := F0 m 87 ls568 [.int x577]) rfl ?_
              exact x_zret C hQ (i_01 (by omega)) dX4_part_87 hSH576 (by decide) (by decide) (⟨x577, x578, x559, rfl, by omega, ex578, m582, by omega, m579, m580, hTH576⟩)
      · have k564 := i_eq c563
        refine lv_iconst (v := 0) hx hb dX4_part_52 (by decide) ?_
        exact x_zret C hQ (Or.inl rfl) dX4_part_53 hSH556 (by decide) (by decide) (⟨0, x558, x559, rfl, by decide, ex558, ex559, by omega, m560, m561, hTH556⟩)
    · have k555 := i_eq c554
      exact J22 ls550 s.heap [] (x549) (tat) (li) (lv_sub hl551 [1, 2, 0] rfl) hT hS (by have := i_rng x549; omega) (by have := i_rng tat; omega) (by have := i_rng li; omega) etat eli emq ekq hel0 (by omega)

set_option maxHeartbeats 4000000 in
set_option maxRecDepth 100000 in
theorem a_X4_both_8 (l : Launch) (K : KE) (G : Nat → Option Nat) (H : Heap) {a0 : Nat} (x1 : Int32) {mq : Nat} {kq : Nat} (F : Int32) (tat : Int32) (li : Int32) (hT : TY K G H) (ga0 : G a0 = some 78) (hx1 : 8 ≤ x1.toInt ∧ x1.toInt ≤ 8) (gmq : G mq = some 69) (emq : mq = fR H a0 (K.1.2 4 0)) (gkq : G kq = some 79) (ekq : kq = fR H a0 (K.1.2 4 3)) (etat : tat = fI H a0 (K.1.2 4 7)) (eli : li = fI H mq (K.1.2 7 0)) (hel0 : fI H kq (F : Int32).toNatClampNeg = 26) (hp0 : tat.toInt ≤ F.toInt) (hp1 : F.toInt ≤ 500) : MX l K yX4_both cX4_both 3 (some .boolean) 4 91 0 0 [.ref a0, .int x1] H (AE G [78, 69, 77] H.size) (fun v H1 => ∃ (r : Int32) (t0 : Int32) (t1 : Int32), v = some (.int r) ∧ (0 ≤ r.toInt ∧ r.toInt ≤ 1) ∧ t0 = fI H1 a0 (K.1.2 4 7) ∧ t1 = fI H1 mq (K.1.2 7 0) ∧ (t0.toInt ≤ F.toInt ∧ t1.toInt = li.toInt) ∧ mq = fR H1 a0 (K.1.2 4 0) ∧ kq = fR H1 a0 (K.1.2 4 3) ∧ TY K G H1) := by
  refine MX.of (by decide +kernel) (Nat.le_of_ble_eq_true rfl) ?_
  intro p e s m below meth c ls Q C hH hl hQ
  subst hH
  have C : CX p K s m _ meth c RX4 cX4_both 3 (some .boolean) "both" := C
  obtain ⟨hx, hb, hml, hown, hts, hKT, hr, hlocks, hnm⟩ := id C
  have hl : lv_has ls 3 [(0, .ref a0), (1, .int x1)] := hl
  have hS : va_S (AE G [78, 69, 77] s.heap.size) s.heap s.heap [] := va_S.rf
  have n_0 : (0 : Int32).toInt = 0 := rfl
  have n_1 : (1 : Int32).toInt = 1 := rfl
  have n_9 : (9 : Int32).toInt = 9 := rfl
  have n_26 : (26 : Int32).toInt = 26 := rfl
  have n_500 : (500 : Int32).toInt = 500 := rfl
  have btat := ty_fi (x := tat) (k := 7) etat hT ga0 rg_78 rfl
  have bli := ty_fi (x := li) (k := 0) eli hT gmq rg_69 rfl
  have J12 : ∀ (nf : Nat) (ls1090 : Array Slot) (H1089 : Heap) (locsH1089 : List Loc) (x1092 : Int32) (x1093 : Int32) (x1094 : Int32), lv_has ls1090 3 [(0, .ref a0), (1, .int x1), (2, .int x1092)] → TY K G H1089 → va_S (AE G [78, 69, 77] s.heap.size) s.heap H1089 locsH1089 → (0 ≤ x1092.toInt ∧ x1092.toInt ≤ 500) → (0 ≤ x1093.toInt ∧ x1093.toInt ≤ 500) → (0 ≤ x1094.toInt ∧ x1094.toInt ≤ 16) → (x1093 = fI H1089 a0 (K.1.2 4 7)) → (x1094 = fI H1089 mq (K.1.2 7 0)) → (mq = fR H1089 a0 (K.1.2 4 0)) → (kq = fR H1089 a0 (K.1.2 4 3)) → (fI H1089 kq (F : Int32).toNatClampNeg = 26) → (500 - x1092.toInt < (nf : Int)) → (x1093.toInt ≤ F.toInt ∧ x1094.toInt = li.toInt) → W p l e ({ frames := 4, cells := 0, slots := 0, locals := 91 } : Room) s m (([.ref a0, .int x1] : List Value).toArray) below meth c H1089 locsH1089 0 0 Q (F0 m 12 ls1090 []) := by
    intro nf
    induction nf with
    | zero =>
      intro ls1090 H1089 locsH1089 x1092 x1093 x1094 hl1091 hTH1089 hSH1089 bx1092 bx1093 bx1094 ex1093 ex1094 cy1095_0 cy1095_1 cy1095_2 hm12 iv12
      exfalso
      omega
    | succ nf ih12 =>
      intro ls1090 H1089 locsH1089 x1092 x1093 x1094 hl1091 hTH1089 hSH1089 bx1092 bx1093 bx1094 ex1093 ex1094 cy1095_0 cy1095_1 cy1095_2 hm12 iv12
      have J69 : ∀ (ls1097 : Array Slot) (H1096 : Heap) (locsH1096 : List Loc) (x1099 : Int32) (x1100 : Int32), lv_has ls1097 3 [] → TY K G H1096 → va_S (AE G [78, 69, 77] s.heap.size) s.heap H1096 locsH1096 → (0 ≤ x1099.toInt ∧ x1099.toInt ≤ 500) → (0 ≤ x1100.toInt ∧ x1100.toInt ≤ 16) → (x1099 = fI H1096 a0 (K.1.2 4 7)) → (x1100 = fI H1096 mq (K.1.2 7 0)) → (mq = fR H1096 a0 (K.1.2 4 0)) → (kq = fR H1096 a0 (K.1.2 4 3)) → (fI H1096 kq (F : Int32).toNatClampNeg = 26) → (x1099.toInt ≤ F.toInt ∧ x1100.toInt = li.toInt) → W p l e ({ frames := 4, cells := 0, slots := 0, locals := 91 } : Room) s m (([.ref a0, .int x1] : List Value).toArray) below meth c H1096 locsH1096 0 0 Q (F0 m 69 ls1097 []) := by
        intro ls1097 H1096 locsH1096 x1099 x1100 hl1098 hTH1096 hSH1096 bx1099 bx1100 ex1099 ex1100 cy1101_0 cy1101_1 cy1101_2 iv69
        refine lv_iconst (v := 1) hx hb dX4_both_69 (by decide) ?_
        exact x_zret C hQ (Or.inr rfl) dX4_both_70 hSH1096 (by decide) (by decide) (⟨1, x1099, x1100, rfl, by decide, ex1099, ex1100, by omega, cy1101_0, cy1101_1, hTH1096⟩)
      refine lv_iload_n hx hb dX4_both_12 rfl (lv_at hl1091 2 rfl) ?_
      refine lv_sipush (v := 500) hx hb dX4_both_13 (by decide) ?_
      refine lv_icmp_ge (tgt := 69) hx hb dX4_both_16 (by decide) (fun c1102 => ?_) (fun c1102 => ?_)
      · have k1103 := i_le c1102
        exact J69 ls1090 H1089 locsH1089 (x1093) (x1094) (lv_sub hl1091 [] rfl) hTH1089 hSH1089 (by have := i_rng x1093; omega) (by have := i_rng x1094; omega) ex1093 ex1094 cy1095_0 cy1095_1 cy1095_2 (by omega)
      · have k1103 := i_nle c1102
        refine lv_aload_n hx hb dX4_both_19 rfl (lv_at hl1091 0 rfl) ?_
        refine x_gr C hTH1089 (ci := 4) (k := 3) rfl inX4 (by decide) wF_X4_18 ga0 rg_78 rfl dX4_both_20 (fun q1104 eq1104 gq1104 => ?_)
        have uq1104 : kq = q1104 := (cy1095_1).trans eq1104.symm
        subst uq1104
        refine lv_aload_n hx hb dX4_both_23 rfl (lv_at hl1091 0 rfl) ?_
        refine x_gi C hTH1089 (ci := 4) (k := 7) rfl inX4 (by decide) wF_X4_42 ga0 rg_78 rfl dX4_both_24 (fun x1105 ex1105 bx1105 => ?_)
        have ux1105 : x1093 = x1105 := (ex1093).trans ex1105.symm
        subst ux1105
        refine x_ai C hTH1089 gkq rg_79 ⟨by omega, by show _ < ((501 : Nat) : Int); omega⟩ dX4_both_27 (fun x1106 ex1106 bx1106 => ?_)
        have dx1106 := el_hit ex1106 cy1095_2
        refine lv_bipush (v := 9) hx hb dX4_both_28 (by decide) ?_
        refine lv_icmp_ne (tgt := 69) hx hb dX4_both_30 (by decide) (fun c1107 => ?_) (fun c1107 => ?_)
        · have k1108 := i_ne c1107
          exact J69 ls1090 H1089 locsH1089 (x1093) (x1094) (lv_sub hl1091 [] rfl) hTH1089 hSH1089 (by have := i_rng x1093; omega) (by have := i_rng x1094; omega) ex1093 ex1094 cy1095_0 cy1095_1 cy1095_2 (by omega)
        · have k1108 := i_eq c1107
          refine lv_aload_n hx hb dX4_both_33 rfl (lv_at hl1091 0 rfl) ?_
          refine lv_dup hx hb dX4_both_34 rfl ?_
          refine x_gi C hTH1089 (ci := 4) (k := 7) rfl inX4 (by decide) wF_X4_42 ga0 rg_78 rfl dX4_both_35 (fun x1109 ex1109 bx1109 => ?_)
          have ux1109 : x1093 = x1109 := (ex1093).trans ex1109.symm
          subst ux1109
          refine lv_iconst (v := 1) hx hb dX4_both_38 (by decide) ?_
          refine lv_iadd hx hb dX4_both_39 ?_
          refine lv_topi (fun x1110 ex1110 => ?_)
          have tx1110 := i_add ex1110 (by omega)
          have fz1112 : 0 ≤ x1110.toInt ∧ x1110.toInt ≤ 500 := by have := i_rng x1110; omega
          refine x_put C hTH1089 hSH1089 (ci := 4) (k := 7) (v := .int x1110) (ty0 := tyX4) rfl inX4 tyX4_ok nmX4 (by decide) rfl wF_X4_42 ga0 rg_78 rfl rfl (okI (by have := i_rng x1110; omega) (by have := i_rng x1110; omega)) rfl rfl (AE_in ga0 (by decide)) dX4_both_40 (fun H1111 locsH1111 hTH1111 hSH1111 wH1111 => ?_)
          have m1114 := ex1094.trans (Wr.neI wH1111 (Or.inl (G_ne gmq ga0 (by decide)))).symm
          have m1115 := cy1095_0.trans (Wr.neR wH1111 (Or.inr (x_apart hKT hts inX4 tyX4 tyX4_ok nmX4 rfl 0 7 (by decide) (by decide) (by decide)))).symm
          have m1116 := cy1095_1.trans (Wr.neR wH1111 (Or.inr (x_apart hKT hts inX4 tyX4 tyX4_ok nmX4 rfl 3 7 (by decide) (by decide) (by decide)))).symm
          have m1117 := (Wr.neI wH1111 (Or.inl (G_ne gkq ga0 (by decide)))).trans cy1095_2
          have m1118 := Wr.I wH1111
          have m1118 := m1118.symm
          refine lv_aload_n hx hb dX4_both_43 rfl (lv_at hl1091 0 rfl) ?_
          refine lv_iload_n hx hb dX4_both_44 rfl (lv_at hl1091 1 rfl) ?_
          refine x_V (As := [.int x1]) (rest := []) C (a_X4_part_8 l K G H1111 (x1) (F) (x1110) (x1094) hTH1111 ga0 (by omega) gmq m1115 gkq m1116 m1118 m1114 m1117 (by omega) (by omega)) yo_X4_part wM_X4_135 ⟨⟨by decide, by decide⟩, by decide, by decide⟩ (x_rv C hTH1111 (ci := 4) rfl ga0 rg_78) rfl hl1091.1 rfl (Nat.le_of_ble_eq_true rfl) dX4_both_45 hSH1111 (AE_sub (fun _ _ => rfl) (by decide) hSH1111.1) (fun vH1119 H1119 locsH1119 pH1119 zH1119 kH1119 hSH1119 => ?_)
          obtain ⟨x1120, x1121, x1122, hvH1119, bx1120, ex1121, ex1122, hrH1119, m1123, m1124, hTH1119⟩ := pH1119
          subst hvH1119
          have m1125 := (fI_kept (x_lt hTH1111 kH1119 gkq (by decide))).trans m1117
          have bx1121 := ty_fi (x := x1121) (k := 7) ex1121 hTH1119 ga0 rg_78 rfl
          have bx1122 := ty_fi (x := x1122) (k := 0) ex1122 hTH1119 gmq rg_69 rfl
          refine W.eq (g2 := F0 m 48 ls1090 [.int x1120]) rfl ?_
          refine lv_if_ne (tgt := 53) hx hb dX4_both_48 (by decide) (fun c1126 => ?_) (fun c1126 => ?_)
          · have k1127 := i_ne c1126
            refine lv_aload_n hx hb dX4_both_53 rfl (lv_at hl1091 0 rfl) ?_
            refine x_gr C hTH1119 (ci := 4) (k := 0) rfl inX4 (by decide) wF_X4_12 ga0 rg_78 rfl dX4_both_54 (fun q1128 eq1128 gq1128 => ?_)
            have uq1128 : mq = q1128 := (m1123).trans eq1128.symm
            subst uq1128
            refine lv_bipush (v := 9) hx hb dX4_both_57 (by decide) ?_
            refine lv_iconst (v := 0) hx hb dX4_both_59 (by decide) ?_
            refine x_V (As := [.int 9, .int 0]) (rest := []) C (a_X7_addStep l K G H1119 (9) (0) (x1122) hTH1119 gmq ex1122) yo_X7_addStep wM_X4_131 ⟨⟨by decide, by decide⟩, by decide, by decide⟩ (x_rv C hTH1119 (ci := 7) rfl gmq rg_69) rfl hl1091.1 rfl (Nat.le_of_ble_eq_true rfl) dX4_both_60 hSH1119 (AE_sub (fun _ _ => rfl) (by decide) hSH1119.1) (fun vH1129 H1129 locsH1129 pH1129 zH1129 kH1129 hSH1129 => ?_)
            obtain ⟨x1130, hvH1129, ex1130, hrH1129, hTH1129⟩ := pH1129
            subst hvH1129
            have m1131 := (fI_kept (x_lt hTH1119 kH1129 gkq (by decide))).trans m1125
            have m1132 := (m1123).trans (fR_kept (x_lt hTH1119 kH1129 ga0 (by decide))).symm
            have m1133 := (m1124).trans (fR_kept (x_lt hTH1119 kH1129 ga0 (by decide))).symm
            have m1134 := (ex1121).trans (fI_kept (x_lt hTH1119 kH1129 ga0 (by decide))).symm
            have bx1130 := ty_fi (x := x1130) (k := 0) ex1130 hTH1129 gmq rg_69 rfl
            refine W.eq (g2 := F0 m 63 ls1090 []) rfl ?_
            obtain ⟨x1135, ex1135⟩ : ∃ y : Int32, y = x1092 + 1 := ⟨_, rfl⟩
            have tx1135 := i_add ex1135 (by omega)
            refine lv_iinc (v := x1135) (lv' := [(2, .int x1135), (0, .ref a0), (1, .int x1)]) hx hb dX4_both_63 hl1091 (k := 2) rfl (by rw [ex1135]; rfl) (by decide) rfl (fun ls1136 hl1137 => ?_)
            refine lv_goto (tgt := 12) hx hb dX4_both_66 (by decide) ?_
            exact ih12 ls1136 H1129 locsH1129 (x1135) (x1121) (x1130) (lv_sub hl1137 [1, 2, 0] rfl) hTH1129 hSH1129 (by have := i_rng x1135; omega) (by have := i_rng x1121; omega) (by have := i_rng x1130; omega) m1134 ex1130 m1132 m1133 m1131 (by omega) (by omega)
          · have k1127 := i_eq c1126
            refine lv_iconst (v := 0) hx hb dX4_both_51 (by decide) ?_
            exact x_zret C hQ (Or.inl rfl) dX4_both_52 hSH1119 (by decide) (by decide) (⟨0, x1121, x1122, rfl, by decide, ex1121, ex1122, by omega, m1123, m1124, hTH1119⟩)
  refine lv_aload_n hx hb dX4_both_0 rfl (lv_at hl 0 rfl) ?_
  refine lv_iload_n hx hb dX4_both_1 rfl (lv_at hl 1 rfl) ?_
  refine x_V (As := [.int x1]) (rest := []) C (a_X4_part_8 l K G s.heap (x1) (F) (tat) (li) hT ga0 (by omega) gmq emq gkq ekq etat eli hel0 (by omega) (by omega)) yo_X4_part wM_X4_135 ⟨⟨by decide, by decide⟩, by decide, by decide⟩ (x_rv C hT (ci := 4) rfl ga0 rg_78) rfl hl.1 rfl (Nat.le_of_ble_eq_true rfl) dX4_both_2 hS (AE_sub (fun _ _ => rfl) (by decide) hS.1) (fun vH1138 H1138 locsH1138 pH1138 zH1138 kH1138 hSH1138 => ?_)
  obtain ⟨x1139, x1140, x1141, hvH1138, bx1139, ex1140, ex1141, hrH1138, m1142, m1143, hTH1138⟩ := pH1138
  subst hvH1138
  have m1144 := (fI_kept (x_lt hT kH1138 gkq (by decide))).trans hel0
  have bx1140 := ty_fi (x := x1140) (k := 7) ex1140 hTH1138 ga0 rg_78 rfl
  have bx1141 := ty_fi (x := x1141) (k := 0) ex1141 hTH1138 gmq rg_69 rfl
  refine W.eq (g2 := F0 m 5 ls [.int x1139]) rfl ?_
  refine lv_if_ne (tgt := 10) hx hb dX4_both_5 (by decide) (fun c1145 => ?_) (fun c1145 => ?_)
  · have k1146 := i_ne c1145
    refine lv_iconst (v := 0) hx hb dX4_both_10 (by decide) ?_
    refine lv_istore_n (lv' := [(2, .int 0), (0, .ref a0), (1, .int x1)]) hx hb dX4_both_11 rfl hl (by decide) rfl (fun ls1147 hl1148 => ?_)
    exact J12 ((500 - (0 : Int32).toInt).toNat + 1) ls1147 H1138 locsH1138 (0) (x1140) (x1141) (lv_sub hl1148 [1, 2, 0] rfl) hTH1138 hSH1138 (by decide) (by have := i_rng x1140; omega) (by have := i_rng x1141; omega) ex1140 ex1141 m1142 m1143 m1144 (by omega) (by omega)
  · have k1146 := i_eq c1145
    refine lv_iconst (v := 0) hx hb dX4_both_8 (by decide) ?_
    exact x_zret C hQ (Or.inl rfl) dX4_both_9 hSH1138 (by decide) (by decide) (⟨0, x1140, x1141, rfl, by decide, ex1140, ex1141, by omega, m1142, m1143, hTH1138⟩)

set_option maxHeartbeats 4000000 in
set_option maxRecDepth 100000 in
theorem a_X4_either_8 (l : Launch) (K : KE) (G : Nat → Option Nat) (H : Heap) {a0 : Nat} (x1 : Int32) {mq : Nat} {kq : Nat} (F : Int32) (tat : Int32) (li : Int32) (hT : TY K G H) (ga0 : G a0 = some 78) (hx1 : 8 ≤ x1.toInt ∧ x1.toInt ≤ 8) (gmq : G mq = some 69) (emq : mq = fR H a0 (K.1.2 4 0)) (gkq : G kq = some 79) (ekq : kq = fR H a0 (K.1.2 4 3)) (etat : tat = fI H a0 (K.1.2 4 7)) (eli : li = fI H mq (K.1.2 7 0)) (hel0 : fI H kq (F : Int32).toNatClampNeg = 26) (hp0 : tat.toInt ≤ F.toInt) (hp1 : F.toInt ≤ 500) : MX l K yX4_either cX4_either 3 (some .boolean) 5 113 0 0 [.ref a0, .int x1] H (AE G [78, 69, 77] H.size) (fun v H1 => ∃ (r : Int32) (t0 : Int32) (t1 : Int32), v = some (.int r) ∧ (0 ≤ r.toInt ∧ r.toInt ≤ 1) ∧ t0 = fI H1 a0 (K.1.2 4 7) ∧ t1 = fI H1 mq (K.1.2 7 0) ∧ (t0.toInt ≤ F.toInt ∧ t1.toInt = li.toInt) ∧ mq = fR H1 a0 (K.1.2 4 0) ∧ kq = fR H1 a0 (K.1.2 4 3) ∧ TY K G H1) := by
  refine MX.of (by decide +kernel) (Nat.le_of_ble_eq_true rfl) ?_
  intro p e s m below meth c ls Q C hH hl hQ
  subst hH
  have C : CX p K s m _ meth c RX4 cX4_either 3 (some .boolean) "either" := C
  obtain ⟨hx, hb, hml, hown, hts, hKT, hr, hlocks, hnm⟩ := id C
  have hl : lv_has ls 3 [(0, .ref a0), (1, .int x1)] := hl
  have hS : va_S (AE G [78, 69, 77] s.heap.size) s.heap s.heap [] := va_S.rf
  have n_0 : (0 : Int32).toInt = 0 := rfl
  have n_1 : (1 : Int32).toInt = 1 := rfl
  have n_8 : (8 : Int32).toInt = 8 := rfl
  have n_26 : (26 : Int32).toInt = 26 := rfl
  have n_500 : (500 : Int32).toInt = 500 := rfl
  have btat := ty_fi (x := tat) (k := 7) etat hT ga0 rg_78 rfl
  have bli := ty_fi (x := li) (k := 0) eli hT gmq rg_69 rfl
  have J12 : ∀ (nf : Nat) (ls1090 : Array Slot) (H1089 : Heap) (locsH1089 : List Loc) (x1092 : Int32) (x1093 : Int32) (x1094 : Int32), lv_has ls1090 3 [(0, .ref a0), (1, .int x1), (2, .int x1092)] → TY K G H1089 → va_S (AE G [78, 69, 77] s.heap.size) s.heap H1089 locsH1089 → (0 ≤ x1092.toInt ∧ x1092.toInt ≤ 500) → (0 ≤ x1093.toInt ∧ x1093.toInt ≤ 500) → (0 ≤ x1094.toInt ∧ x1094.toInt ≤ 16) → (x1093 = fI H1089 a0 (K.1.2 4 7)) → (x1094 = fI H1089 mq (K.1.2 7 0)) → (mq = fR H1089 a0 (K.1.2 4 0)) → (kq = fR H1089 a0 (K.1.2 4 3)) → (fI H1089 kq (F : Int32).toNatClampNeg = 26) → (500 - x1092.toInt < (nf : Int)) → (x1093.toInt ≤ F.toInt ∧ x1094.toInt = li.toInt) → W p l e ({ frames := 5, cells := 0, slots := 0, locals := 113 } : Room) s m (([.ref a0, .int x1] : List Value).toArray) below meth c H1089 locsH1089 0 0 Q (F0 m 12 ls1090 []) := by
    intro nf
    induction nf with
    | zero =>
      intro ls1090 H1089 locsH1089 x1092 x1093 x1094 hl1091 hTH1089 hSH1089 bx1092 bx1093 bx1094 ex1093 ex1094 cy1095_0 cy1095_1 cy1095_2 hm12 iv12
      exfalso
      omega
    | succ nf ih12 =>
      intro ls1090 H1089 locsH1089 x1092 x1093 x1094 hl1091 hTH1089 hSH1089 bx1092 bx1093 bx1094 ex1093 ex1094 cy1095_0 cy1095_1 cy1095_2 hm12 iv12
      have J69 : ∀ (ls1097 : Array Slot) (H1096 : Heap) (locsH1096 : List Loc) (x1099 : Int32) (x1100 : Int32), lv_has ls1097 3 [] → TY K G H1096 → va_S (AE G [78, 69, 77] s.heap.size) s.heap H1096 locsH1096 → (0 ≤ x1099.toInt ∧ x1099.toInt ≤ 500) → (0 ≤ x1100.toInt ∧ x1100.toInt ≤ 16) → (x1099 = fI H1096 a0 (K.1.2 4 7)) → (x1100 = fI H1096 mq (K.1.2 7 0)) → (mq = fR H1096 a0 (K.1.2 4 0)) → (kq = fR H1096 a0 (K.1.2 4 3)) → (fI H1096 kq (F : Int32).toNatClampNeg = 26) → (x1099.toInt ≤ F.toInt ∧ x1100.toInt = li.toInt) → W p l e ({ frames := 5, cells := 0, slots := 0, locals := 113 } : Room) s m (([.ref a0, .int x1] : List Value).toArray) below meth c H1096 locsH1096 0 0 Q (F0 m 69 ls1097 []) := by
        intro ls1097 H1096 locsH1096 x1099 x1100 hl1098 hTH1096 hSH1096 bx1099 bx1100 ex1099 ex1100 cy1101_0 cy1101_1 cy1101_2 iv69
        refine lv_iconst (v := 1) hx hb dX4_either_69 (by decide) ?_
        exact x_zret C hQ (Or.inr rfl) dX4_either_70 hSH1096 (by decide) (by decide) (⟨1, x1099, x1100, rfl, by decide, ex1099, ex1100, by omega, cy1101_0, cy1101_1, hTH1096⟩)
      refine lv_iload_n hx hb dX4_either_12 rfl (lv_at hl1091 2 rfl) ?_
      refine lv_sipush (v := 500) hx hb dX4_either_13 (by decide) ?_
      refine lv_icmp_ge (tgt := 69) hx hb dX4_either_16 (by decide) (fun c1102 => ?_) (fun c1102 => ?_)
      · have k1103 := i_le c1102
        exact J69 ls1090 H1089 locsH1089 (x1093) (x1094) (lv_sub hl1091 [] rfl) hTH1089 hSH1089 (by have := i_rng x1093; omega) (by have := i_rng x1094; omega) ex1093 ex1094 cy1095_0 cy1095_1 cy1095_2 (by omega)
      · have k1103 := i_nle c1102
        refine lv_aload_n hx hb dX4_either_19 rfl (lv_at hl1091 0 rfl) ?_
        refine x_gr C hTH1089 (ci := 4) (k := 3) rfl inX4 (by decide) wF_X4_18 ga0 rg_78 rfl dX4_either_20 (fun q1104 eq1104 gq1104 => ?_)
        have uq1104 : kq = q1104 := (cy1095_1).trans eq1104.symm
        subst uq1104
        refine lv_aload_n hx hb dX4_either_23 rfl (lv_at hl1091 0 rfl) ?_
        refine x_gi C hTH1089 (ci := 4) (k := 7) rfl inX4 (by decide) wF_X4_42 ga0 rg_78 rfl dX4_either_24 (fun x1105 ex1105 bx1105 => ?_)
        have ux1105 : x1093 = x1105 := (ex1093).trans ex1105.symm
        subst ux1105
        refine x_ai C hTH1089 gkq rg_79 ⟨by omega, by show _ < ((501 : Nat) : Int); omega⟩ dX4_either_27 (fun x1106 ex1106 bx1106 => ?_)
        have dx1106 := el_hit ex1106 cy1095_2
        refine lv_bipush (v := 8) hx hb dX4_either_28 (by decide) ?_
        refine lv_icmp_ne (tgt := 69) hx hb dX4_either_30 (by decide) (fun c1107 => ?_) (fun c1107 => ?_)
        · have k1108 := i_ne c1107
          exact J69 ls1090 H1089 locsH1089 (x1093) (x1094) (lv_sub hl1091 [] rfl) hTH1089 hSH1089 (by have := i_rng x1093; omega) (by have := i_rng x1094; omega) ex1093 ex1094 cy1095_0 cy1095_1 cy1095_2 (by omega)
        · have k1108 := i_eq c1107
          refine lv_aload_n hx hb dX4_either_33 rfl (lv_at hl1091 0 rfl) ?_
          refine lv_dup hx hb dX4_either_34 rfl ?_
          refine x_gi C hTH1089 (ci := 4) (k := 7) rfl inX4 (by decide) wF_X4_42 ga0 rg_78 rfl dX4_either_35 (fun x1109 ex1109 bx1109 => ?_)
          have ux1109 : x1093 = x1109 := (ex1093).trans ex1109.symm
          subst ux1109
          refine lv_iconst (v := 1) hx hb dX4_either_38 (by decide) ?_
          refine lv_iadd hx hb dX4_either_39 ?_
          refine lv_topi (fun x1110 ex1110 => ?_)
          have tx1110 := i_add ex1110 (by omega)
          have fz1112 : 0 ≤ x1110.toInt ∧ x1110.toInt ≤ 500 := by have := i_rng x1110; omega
          refine x_put C hTH1089 hSH1089 (ci := 4) (k := 7) (v := .int x1110) (ty0 := tyX4) rfl inX4 tyX4_ok nmX4 (by decide) rfl wF_X4_42 ga0 rg_78 rfl rfl (okI (by have := i_rng x1110; omega) (by have := i_rng x1110; omega)) rfl rfl (AE_in ga0 (by decide)) dX4_either_40 (fun H1111 locsH1111 hTH1111 hSH1111 wH1111 => ?_)
          have m1114 := ex1094.trans (Wr.neI wH1111 (Or.inl (G_ne gmq ga0 (by decide)))).symm
          have m1115 := cy1095_0.trans (Wr.neR wH1111 (Or.inr (x_apart hKT hts inX4 tyX4 tyX4_ok nmX4 rfl 0 7 (by decide) (by decide) (by decide)))).symm
          have m1116 := cy1095_1.trans (Wr.neR wH1111 (Or.inr (x_apart hKT hts inX4 tyX4 tyX4_ok nmX4 rfl 3 7 (by decide) (by decide) (by decide)))).symm
          have m1117 := (Wr.neI wH1111 (Or.inl (G_ne gkq ga0 (by decide)))).trans cy1095_2
          have m1118 := Wr.I wH1111
          have m1118 := m1118.symm
          refine lv_aload_n hx hb dX4_either_43 rfl (lv_at hl1091 0 rfl) ?_
          refine lv_iload_n hx hb dX4_either_44 rfl (lv_at hl1091 1 rfl) ?_
          refine x_V (As := [.int x1]) (rest := []) C (a_X4_both_8 l K G H1111 (x1) (F) (x1110) (x1094) hTH1111 ga0 (by omega) gmq m1115 gkq m1116 m1118 m1114 m1117 (by omega) (by omega)) yo_X4_both wM_X4_128 ⟨⟨by decide, by decide⟩, by decide, by decide⟩ (x_rv C hTH1111 (ci := 4) rfl ga0 rg_78) rfl hl1091.1 rfl (Nat.le_of_ble_eq_true rfl) dX4_either_45 hSH1111 (AE_sub (fun _ _ => rfl) (by decide) hSH1111.1) (fun vH1119 H1119 locsH1119 pH1119 zH1119 kH1119 hSH1119 => ?_)
          obtain ⟨x1120, x1121, x1122, hvH1119, bx1120, ex1121, ex1122, hrH1119, m1123, m1124, hTH1119⟩ := pH1119
          subst hvH1119
          have m1125 := (fI_kept (x_lt hTH1111 kH1119 gkq (by decide))).trans m1117
          have bx1121 := ty_fi (x := x1121) (k := 7) ex1121 hTH1119 ga0 rg_78 rfl
          have bx1122 := ty_fi (x := x1122) (k := 0) ex1122 hTH1119 gmq rg_69 rfl
          refine W.eq (g2 := F0 m 48 ls1090 [.int x1120]) rfl ?_
          refine lv_if_ne (tgt := 53) hx hb dX4_either_48 (by decide) (fun c1126 => ?_) (fun c1126 => ?_)
          · have k1127 := i_ne c1126
            refine lv_aload_n hx hb dX4_either_53 rfl (lv_at hl1091 0 rfl) ?_
            refine x_gr C hTH1119 (ci := 4) (k := 0) rfl inX4 (by decide) wF_X4_12 ga0 rg_78 rfl dX4_either_54 (fun q1128 eq1128 gq1128 => ?_)
            have uq1128 : mq = q1128 := (m1123).trans eq1128.symm
            subst uq1128
            refine lv_bipush (v := 8) hx hb dX4_either_57 (by decide) ?_
            refine lv_iconst (v := 0) hx hb dX4_either_59 (by decide) ?_
            refine x_V (As := [.int 8, .int 0]) (rest := []) C (a_X7_addStep l K G H1119 (8) (0) (x1122) hTH1119 gmq ex1122) yo_X7_addStep wM_X4_131 ⟨⟨by decide, by decide⟩, by decide, by decide⟩ (x_rv C hTH1119 (ci := 7) rfl gmq rg_69) rfl hl1091.1 rfl (Nat.le_of_ble_eq_true rfl) dX4_either_60 hSH1119 (AE_sub (fun _ _ => rfl) (by decide) hSH1119.1) (fun vH1129 H1129 locsH1129 pH1129 zH1129 kH1129 hSH1129 => ?_)
            obtain ⟨x1130, hvH1129, ex1130, hrH1129, hTH1129⟩ := pH1129
            subst hvH1129
            have m1131 := (fI_kept (x_lt hTH1119 kH1129 gkq (by decide))).trans m1125
            have m1132 := (m1123).trans (fR_kept (x_lt hTH1119 kH1129 ga0 (by decide))).symm
            have m1133 := (m1124).trans (fR_kept (x_lt hTH1119 kH1129 ga0 (by decide))).symm
            have m1134 := (ex1121).trans (fI_kept (x_lt hTH1119 kH1129 ga0 (by decide))).symm
            have bx1130 := ty_fi (x := x1130) (k := 0) ex1130 hTH1129 gmq rg_69 rfl
            refine W.eq (g2 := F0 m 63 ls1090 []) rfl ?_
            obtain ⟨x1135, ex1135⟩ : ∃ y : Int32, y = x1092 + 1 := ⟨_, rfl⟩
            have tx1135 := i_add ex1135 (by omega)
            refine lv_iinc (v := x1135) (lv' := [(2, .int x1135), (0, .ref a0), (1, .int x1)]) hx hb dX4_either_63 hl1091 (k := 2) rfl (by rw [ex1135]; rfl) (by decide) rfl (fun ls1136 hl1137 => ?_)
            refine lv_goto (tgt := 12) hx hb dX4_either_66 (by decide) ?_
            exact ih12 ls1136 H1129 locsH1129 (x1135) (x1121) (x1130) (lv_sub hl1137 [1, 2, 0] rfl) hTH1129 hSH1129 (by have := i_rng x1135; omega) (by have := i_rng x1121; omega) (by have := i_rng x1130; omega) m1134 ex1130 m1132 m1133 m1131 (by omega) (by omega)
          · have k1127 := i_eq c1126
            refine lv_iconst (v := 0) hx hb dX4_either_51 (by decide) ?_
            exact x_zret C hQ (Or.inl rfl) dX4_either_52 hSH1119 (by decide) (by decide) (⟨0, x1121, x1122, rfl, by decide, ex1121, ex1122, by omega, m1123, m1124, hTH1119⟩)
  refine lv_aload_n hx hb dX4_either_0 rfl (lv_at hl 0 rfl) ?_
  refine lv_iload_n hx hb dX4_either_1 rfl (lv_at hl 1 rfl) ?_
  refine x_V (As := [.int x1]) (rest := []) C (a_X4_both_8 l K G s.heap (x1) (F) (tat) (li) hT ga0 (by omega) gmq emq gkq ekq etat eli hel0 (by omega) (by omega)) yo_X4_both wM_X4_128 ⟨⟨by decide, by decide⟩, by decide, by decide⟩ (x_rv C hT (ci := 4) rfl ga0 rg_78) rfl hl.1 rfl (Nat.le_of_ble_eq_true rfl) dX4_either_2 hS (AE_sub (fun _ _ => rfl) (by decide) hS.1) (fun vH1138 H1138 locsH1138 pH1138 zH1138 kH1138 hSH1138 => ?_)
  obtain ⟨x1139, x1140, x1141, hvH1138, bx1139, ex1140, ex1141, hrH1138, m1142, m1143, hTH1138⟩ := pH1138
  subst hvH1138
  have m1144 := (fI_kept (x_lt hT kH1138 gkq (by decide))).trans hel0
  have bx1140 := ty_fi (x := x1140) (k := 7) ex1140 hTH1138 ga0 rg_78 rfl
  have bx1141 := ty_fi (x := x1141) (k := 0) ex1141 hTH1138 gmq rg_69 rfl
  refine W.eq (g2 := F0 m 5 ls [.int x1139]) rfl ?_
  refine lv_if_ne (tgt := 10) hx hb dX4_either_5 (by decide) (fun c1145 => ?_) (fun c1145 => ?_)
  · have k1146 := i_ne c1145
    refine lv_iconst (v := 0) hx hb dX4_either_10 (by decide) ?_
    refine lv_istore_n (lv' := [(2, .int 0), (0, .ref a0), (1, .int x1)]) hx hb dX4_either_11 rfl hl (by decide) rfl (fun ls1147 hl1148 => ?_)
    exact J12 ((500 - (0 : Int32).toInt).toNat + 1) ls1147 H1138 locsH1138 (0) (x1140) (x1141) (lv_sub hl1148 [1, 2, 0] rfl) hTH1138 hSH1138 (by decide) (by have := i_rng x1140; omega) (by have := i_rng x1141; omega) ex1140 ex1141 m1142 m1143 m1144 (by omega) (by omega)
  · have k1146 := i_eq c1145
    refine lv_iconst (v := 0) hx hb dX4_either_8 (by decide) ?_
    exact x_zret C hQ (Or.inl rfl) dX4_either_9 hSH1138 (by decide) (by decide) (⟨0, x1140, x1141, rfl, by decide, ex1140, ex1141, by omega, m1142, m1143, hTH1138⟩)

set_option maxHeartbeats 4000000 in
set_option maxRecDepth 100000 in
theorem a_X4_opened_8 (l : Launch) (K : KE) (G : Nat → Option Nat) (H : Heap) {a0 : Nat} (x1 : Int32) (x2 : Int32) {mq : Nat} {kq : Nat} (F : Int32) (tat : Int32) (li : Int32) (hT : TY K G H) (ga0 : G a0 = some 78) (hx2 : 8 ≤ x2.toInt ∧ x2.toInt ≤ 8) (gmq : G mq = some 69) (emq : mq = fR H a0 (K.1.2 4 0)) (gkq : G kq = some 79) (ekq : kq = fR H a0 (K.1.2 4 3)) (etat : tat = fI H a0 (K.1.2 4 7)) (eli : li = fI H mq (K.1.2 7 0)) (hel0 : fI H kq (F : Int32).toNatClampNeg = 26) (hp0 : tat.toInt < F.toInt) (hp1 : F.toInt ≤ 500) : MX l K yX4_opened cX4_opened 3 (some .boolean) 6 135 0 0 [.ref a0, .int x1, .int x2] H (AE G [78, 69, 77] H.size) (fun v H1 => ∃ (r : Int32) (t0 : Int32) (t1 : Int32), v = some (.int r) ∧ (0 ≤ r.toInt ∧ r.toInt ≤ 1) ∧ t0 = fI H1 a0 (K.1.2 4 7) ∧ t1 = fI H1 mq (K.1.2 7 0) ∧ (t0.toInt ≤ F.toInt ∧ t1.toInt = li.toInt) ∧ mq = fR H1 a0 (K.1.2 4 0) ∧ kq = fR H1 a0 (K.1.2 4 3) ∧ TY K G H1) := by
  refine MX.of (by decide +kernel) (Nat.le_of_ble_eq_true rfl) ?_
  intro p e s m below meth c ls Q C hH hl hQ
  subst hH
  have C : CX p K s m _ meth c RX4 cX4_opened 3 (some .boolean) "opened" := C
  obtain ⟨hx, hb, hml, hown, hts, hKT, hr, hlocks, hnm⟩ := id C
  have hl : lv_has ls 3 [(0, .ref a0), (1, .int x1), (2, .int x2)] := hl
  have hS : va_S (AE G [78, 69, 77] s.heap.size) s.heap s.heap [] := va_S.rf
  have n_0 : (0 : Int32).toInt = 0 := rfl
  have n_1 : (1 : Int32).toInt = 1 := rfl
  have n_10 : (10 : Int32).toInt = 10 := rfl
  have n_26 : (26 : Int32).toInt = 26 := rfl
  have n_41 : (41 : Int32).toInt = 41 := rfl
  have btat := ty_fi (x := tat) (k := 7) etat hT ga0 rg_78 rfl
  have bli := ty_fi (x := li) (k := 0) eli hT gmq rg_69 rfl
  refine lv_aload_n hx hb dX4_opened_0 rfl (lv_at hl 0 rfl) ?_
  refine lv_dup hx hb dX4_opened_1 rfl ?_
  refine x_gi C hT (ci := 4) (k := 7) rfl inX4 (by decide) wF_X4_42 ga0 rg_78 rfl dX4_opened_2 (fun x337 ex337 bx337 => ?_)
  have ux337 : tat = x337 := (etat).trans ex337.symm
  subst ux337
  refine lv_iconst (v := 1) hx hb dX4_opened_5 (by decide) ?_
  refine lv_iadd hx hb dX4_opened_6 ?_
  refine lv_topi (fun x338 ex338 => ?_)
  have tx338 := i_add ex338 (by omega)
  have fz340 : 0 ≤ x338.toInt ∧ x338.toInt ≤ 500 := by have := i_rng x338; omega
  refine x_put C hT hS (ci := 4) (k := 7) (v := .int x338) (ty0 := tyX4) rfl inX4 tyX4_ok nmX4 (by decide) rfl wF_X4_42 ga0 rg_78 rfl rfl (okI (by have := i_rng x338; omega) (by have := i_rng x338; omega)) rfl rfl (AE_in ga0 (by decide)) dX4_opened_7 (fun H339 locsH339 hTH339 hSH339 wH339 => ?_)
  have m341 := emq.trans (Wr.neR wH339 (Or.inr (x_apart hKT hts inX4 tyX4 tyX4_ok nmX4 rfl 0 7 (by decide) (by decide) (by decide)))).symm
  have m342 := ekq.trans (Wr.neR wH339 (Or.inr (x_apart hKT hts inX4 tyX4 tyX4_ok nmX4 rfl 3 7 (by decide) (by decide) (by decide)))).symm
  have m344 := eli.trans (Wr.neI wH339 (Or.inl (G_ne gmq ga0 (by decide)))).symm
  have m345 := (Wr.neI wH339 (Or.inl (G_ne gkq ga0 (by decide)))).trans hel0
  have m346 := Wr.I wH339
  have m346 := m346.symm
  refine lv_iload_n hx hb dX4_opened_10 rfl (lv_at hl 1 rfl) ?_
  refine lv_bipush (v := 10) hx hb dX4_opened_11 (by decide) ?_
  refine lv_icmp_ne (tgt := 38) hx hb dX4_opened_13 (by decide) (fun c347 => ?_) (fun c347 => ?_)
  · have k348 := i_ne c347
    refine lv_aload_n hx hb dX4_opened_38 rfl (lv_at hl 0 rfl) ?_
    refine lv_iload_n hx hb dX4_opened_39 rfl (lv_at hl 2 rfl) ?_
    refine x_V (As := [.int x2]) (rest := []) C (a_X4_either_8 l K G H339 (x2) (F) (x338) (li) hTH339 ga0 (by omega) gmq m341 gkq m342 m346 m344 m345 (by omega) (by omega)) yo_X4_either wM_X4_113 ⟨⟨by decide, by decide⟩, by decide, by decide⟩ (x_rv C hTH339 (ci := 4) rfl ga0 rg_78) rfl hl.1 rfl (Nat.le_of_ble_eq_true rfl) dX4_opened_40 hSH339 (AE_sub (fun _ _ => rfl) (by decide) hSH339.1) (fun vH349 H349 locsH349 pH349 zH349 kH349 hSH349 => ?_)
    obtain ⟨x350, x351, x352, hvH349, bx350, ex351, ex352, hrH349, m353, m354, hTH349⟩ := pH349
    subst hvH349
    have m355 := (fI_kept (x_lt hTH339 kH349 gkq (by decide))).trans m345
    have bx351 := ty_fi (x := x351) (k := 7) ex351 hTH349 ga0 rg_78 rfl
    have bx352 := ty_fi (x := x352) (k := 0) ex352 hTH349 gmq rg_69 rfl
    refine W.eq (g2 := F0 m 43 ls [.int x350]) rfl ?_
    refine lv_if_ne (tgt := 48) hx hb dX4_opened_43 (by decide) (fun c356 => ?_) (fun c356 => ?_)
    · have k357 := i_ne c356
      refine lv_aload_n hx hb dX4_opened_48 rfl (lv_at hl 0 rfl) ?_
      refine x_gr C hTH349 (ci := 4) (k := 3) rfl inX4 (by decide) wF_X4_18 ga0 rg_78 rfl dX4_opened_49 (fun q358 eq358 gq358 => ?_)
      have uq358 : kq = q358 := (m354).trans eq358.symm
      subst uq358
      refine lv_aload_n hx hb dX4_opened_52 rfl (lv_at hl 0 rfl) ?_
      refine x_gi C hTH349 (ci := 4) (k := 7) rfl inX4 (by decide) wF_X4_42 ga0 rg_78 rfl dX4_opened_53 (fun x359 ex359 bx359 => ?_)
      have ux359 : x351 = x359 := (ex351).trans ex359.symm
      subst ux359
      refine x_ai C hTH349 gkq rg_79 ⟨by omega, by show _ < ((501 : Nat) : Int); omega⟩ dX4_opened_56 (fun x360 ex360 bx360 => ?_)
      have dx360 := el_hit ex360 m355
      refine lv_bipush (v := 41) hx hb dX4_opened_57 (by decide) ?_
      refine lv_icmp_eq (tgt := 68) hx hb dX4_opened_59 (by decide) (fun c361 => ?_) (fun c361 => ?_)
      · have k362 := i_eq c361
        refine lv_aload_n hx hb dX4_opened_68 rfl (lv_at hl 0 rfl) ?_
        refine lv_dup hx hb dX4_opened_69 rfl ?_
        refine x_gi C hTH349 (ci := 4) (k := 7) rfl inX4 (by decide) wF_X4_42 ga0 rg_78 rfl dX4_opened_70 (fun x363 ex363 bx363 => ?_)
        have ux363 : x351 = x363 := (ex351).trans ex363.symm
        subst ux363
        refine lv_iconst (v := 1) hx hb dX4_opened_73 (by decide) ?_
        refine lv_iadd hx hb dX4_opened_74 ?_
        refine lv_topi (fun x364 ex364 => ?_)
        have tx364 := i_add ex364 (by omega)
        have fz366 : 0 ≤ x364.toInt ∧ x364.toInt ≤ 500 := by have := i_rng x364; omega
        refine x_put C hTH349 hSH349 (ci := 4) (k := 7) (v := .int x364) (ty0 := tyX4) rfl inX4 tyX4_ok nmX4 (by decide) rfl wF_X4_42 ga0 rg_78 rfl rfl (okI (by have := i_rng x364; omega) (by have := i_rng x364; omega)) rfl rfl (AE_in ga0 (by decide)) dX4_opened_75 (fun H365 locsH365 hTH365 hSH365 wH365 => ?_)
        have m367 := (Wr.neI wH365 (Or.inl (G_ne gkq ga0 (by decide)))).trans m355
        have m368 := m353.trans (Wr.neR wH365 (Or.inr (x_apart hKT hts inX4 tyX4 tyX4_ok nmX4 rfl 0 7 (by decide) (by decide) (by decide)))).symm
        have m369 := m354.trans (Wr.neR wH365 (Or.inr (x_apart hKT hts inX4 tyX4 tyX4_ok nmX4 rfl 3 7 (by decide) (by decide) (by decide)))).symm
        have m371 := ex352.trans (Wr.neI wH365 (Or.inl (G_ne gmq ga0 (by decide)))).symm
        have m372 := Wr.I wH365
        have m372 := m372.symm
        refine lv_iconst (v := 1) hx hb dX4_opened_78 (by decide) ?_
        exact x_zret C hQ (Or.inr rfl) dX4_opened_79 hSH365 (by decide) (by decide) (⟨1, x364, x352, rfl, by decide, m372, m371, by omega, m368, m369, hTH365⟩)
      · have k362 := i_ne c361
        refine lv_aload_n hx hb dX4_opened_62 rfl (lv_at hl 0 rfl) ?_
        refine lv_iconst (v := 1) hx hb dX4_opened_63 (by decide) ?_
        refine x_V (As := [.int 1]) (rest := []) C (a_X4_refuse l K G H349 (1) (x351) hTH349 ga0 gmq m353 gkq m354 ex351) yo_X4_refuse wM_X4_81 ⟨⟨by decide, by decide⟩, by decide, by decide⟩ (x_rv C hTH349 (ci := 4) rfl ga0 rg_78) rfl hl.1 rfl (Nat.le_of_ble_eq_true rfl) dX4_opened_64 hSH349 (AE_sub (fun _ _ => rfl) (by decide) hSH349.1) (fun vH373 H373 locsH373 pH373 zH373 kH373 hSH373 => ?_)
        obtain ⟨x374, x375, hvH373, bx374, ex375, hrH373, m376, m377, hTH373⟩ := pH373
        subst hvH373
        have m378 := (fI_kept (x_lt hTH349 kH373 gkq (by decide))).trans m355
        have m379 := (ex352).trans (fI_kept (x_lt hTH349 kH373 gmq (by decide))).symm
        have bx375 := ty_fi (x := x375) (k := 7) ex375 hTH373 ga0 rg_78 rfl
        refine W.eq (g2 := F0 m 67 ls [.int x374]) rfl ?_
        exact x_zret C hQ (i_01 (by omega)) dX4_opened_67 hSH373 (by decide) (by decide) (⟨x374, x375, x352, rfl, by omega, ex375, m379, by omega, m376, m377, hTH373⟩)
    · have k357 := i_eq c356
      refine lv_iconst (v := 0) hx hb dX4_opened_46 (by decide) ?_
      exact x_zret C hQ (Or.inl rfl) dX4_opened_47 hSH349 (by decide) (by decide) (⟨0, x351, x352, rfl, by decide, ex351, ex352, by omega, m353, m354, hTH349⟩)
  · have k348 := i_eq c347
    refine lv_aload_n hx hb dX4_opened_16 rfl (lv_at hl 0 rfl) ?_
    refine lv_iload_n hx hb dX4_opened_17 rfl (lv_at hl 2 rfl) ?_
    refine x_V (As := [.int x2]) (rest := []) C (a_X4_part_8 l K G H339 (x2) (F) (x338) (li) hTH339 ga0 (by omega) gmq m341 gkq m342 m346 m344 m345 (by omega) (by omega)) yo_X4_part wM_X4_135 ⟨⟨by decide, by decide⟩, by decide, by decide⟩ (x_rv C hTH339 (ci := 4) rfl ga0 rg_78) rfl hl.1 rfl (Nat.le_of_ble_eq_true rfl) dX4_opened_18 hSH339 (AE_sub (fun _ _ => rfl) (by decide) hSH339.1) (fun vH380 H380 locsH380 pH380 zH380 kH380 hSH380 => ?_)
    obtain ⟨x381, x382, x383, hvH380, bx381, ex382, ex383, hrH380, m384, m385, hTH380⟩ := pH380
    subst hvH380
    have m386 := (fI_kept (x_lt hTH339 kH380 gkq (by decide))).trans m345
    have bx382 := ty_fi (x := x382) (k := 7) ex382 hTH380 ga0 rg_78 rfl
    have bx383 := ty_fi (x := x383) (k := 0) ex383 hTH380 gmq rg_69 rfl
    refine W.eq (g2 := F0 m 21 ls [.int x381]) rfl ?_
    refine lv_if_ne (tgt := 26) hx hb dX4_opened_21 (by decide) (fun c387 => ?_) (fun c387 => ?_)
    · have k388 := i_ne c387
      refine lv_aload_n hx hb dX4_opened_26 rfl (lv_at hl 0 rfl) ?_
      refine x_gr C hTH380 (ci := 4) (k := 0) rfl inX4 (by decide) wF_X4_12 ga0 rg_78 rfl dX4_opened_27 (fun q389 eq389 gq389 => ?_)
      have uq389 : mq = q389 := (m384).trans eq389.symm
      subst uq389
      refine lv_bipush (v := 10) hx hb dX4_opened_30 (by decide) ?_
      refine lv_iconst (v := 0) hx hb dX4_opened_32 (by decide) ?_
      refine x_V (As := [.int 10, .int 0]) (rest := []) C (a_X7_addStep l K G H380 (10) (0) (x383) hTH380 gmq ex383) yo_X7_addStep wM_X4_131 ⟨⟨by decide, by decide⟩, by decide, by decide⟩ (x_rv C hTH380 (ci := 7) rfl gmq rg_69) rfl hl.1 rfl (Nat.le_of_ble_eq_true rfl) dX4_opened_33 hSH380 (AE_sub (fun _ _ => rfl) (by decide) hSH380.1) (fun vH390 H390 locsH390 pH390 zH390 kH390 hSH390 => ?_)
      obtain ⟨x391, hvH390, ex391, hrH390, hTH390⟩ := pH390
      subst hvH390
      have m392 := (fI_kept (x_lt hTH380 kH390 gkq (by decide))).trans m386
      have m393 := (m384).trans (fR_kept (x_lt hTH380 kH390 ga0 (by decide))).symm
      have m394 := (m385).trans (fR_kept (x_lt hTH380 kH390 ga0 (by decide))).symm
      have m395 := (ex382).trans (fI_kept (x_lt hTH380 kH390 ga0 (by decide))).symm
      have bx391 := ty_fi (x := x391) (k := 0) ex391 hTH390 gmq rg_69 rfl
      refine W.eq (g2 := F0 m 36 ls []) rfl ?_
      refine lv_iconst (v := 1) hx hb dX4_opened_36 (by decide) ?_
      exact x_zret C hQ (Or.inr rfl) dX4_opened_37 hSH390 (by decide) (by decide) (⟨1, x382, x391, rfl, by decide, m395, ex391, by omega, m393, m394, hTH390⟩)
    · have k388 := i_eq c387
      refine lv_iconst (v := 0) hx hb dX4_opened_24 (by decide) ?_
      exact x_zret C hQ (Or.inl rfl) dX4_opened_25 hSH380 (by decide) (by decide) (⟨0, x382, x383, rfl, by decide, ex382, ex383, by omega, m384, m385, hTH380⟩)

set_option maxHeartbeats 4000000 in
set_option maxRecDepth 100000 in
theorem a_X4_part_7 (l : Launch) (K : KE) (G : Nat → Option Nat) (H : Heap) {a0 : Nat} (x1 : Int32) {mq : Nat} {kq : Nat} (F : Int32) (tat : Int32) (li : Int32) (hT : TY K G H) (ga0 : G a0 = some 78) (hx1 : 7 ≤ x1.toInt ∧ x1.toInt ≤ 8) (gmq : G mq = some 69) (emq : mq = fR H a0 (K.1.2 4 0)) (gkq : G kq = some 79) (ekq : kq = fR H a0 (K.1.2 4 3)) (etat : tat = fI H a0 (K.1.2 4 7)) (eli : li = fI H mq (K.1.2 7 0)) (hel0 : fI H kq (F : Int32).toNatClampNeg = 26) (hp0 : tat.toInt ≤ F.toInt) (hp1 : F.toInt ≤ 500) : MX l K yX4_part cX4_part 4 (some .boolean) 7 157 0 0 [.ref a0, .int x1] H (AE G [78, 69, 77] H.size) (fun v H1 => ∃ (r : Int32) (t0 : Int32) (t1 : Int32), v = some (.int r) ∧ (0 ≤ r.toInt ∧ r.toInt ≤ 1) ∧ t0 = fI H1 a0 (K.1.2 4 7) ∧ t1 = fI H1 mq (K.1.2 7 0) ∧ (t0.toInt ≤ F.toInt ∧ t1.toInt = li.toInt) ∧ mq = fR H1 a0 (K.1.2 4 0) ∧ kq = fR H1 a0 (K.1.2 4 3) ∧ TY K G H1) := by
  refine MX.of (by decide +kernel) (Nat.le_of_ble_eq_true rfl) ?_
  intro p e s m below meth c ls Q C hH hl hQ
  subst hH
  have C : CX p K s m _ meth c RX4 cX4_part 4 (some .boolean) "part" := C
  obtain ⟨hx, hb, hml, hown, hts, hKT, hr, hlocks, hnm⟩ := id C
  have hl : lv_has ls 4 [(0, .ref a0), (1, .int x1)] := hl
  have hS : va_S (AE G [78, 69, 77] s.heap.size) s.heap s.heap [] := va_S.rf
  have n_0 : (0 : Int32).toInt = 0 := rfl
  have n_1 : (1 : Int32).toInt = 1 := rfl
  have n_3 : (3 : Int32).toInt = 3 := rfl
  have n_8 : (8 : Int32).toInt = 8 := rfl
  have n_10 : (10 : Int32).toInt = 10 := rfl
  have n_26 : (26 : Int32).toInt = 26 := rfl
  have n_40 : (40 : Int32).toInt = 40 := rfl
  have n_60 : (60 : Int32).toInt = 60 := rfl
  have n_61 : (61 : Int32).toInt = 61 := rfl
  have n_62 : (62 : Int32).toInt = 62 := rfl
  have btat := ty_fi (x := tat) (k := 7) etat hT ga0 rg_78 rfl
  have bli := ty_fi (x := li) (k := 0) eli hT gmq rg_69 rfl
  have J22 : ∀ (ls535 : Array Slot) (H534 : Heap) (locsH534 : List Loc) (x537 : Int32) (x538 : Int32) (x539 : Int32), lv_has ls535 4 [(0, .ref a0), (1, .int x1), (2, .int x537)] → TY K G H534 → va_S (AE G [78, 69, 77] s.heap.size) s.heap H534 locsH534 → (10 ≤ x537.toInt ∧ x537.toInt ≤ 40) → (0 ≤ x538.toInt ∧ x538.toInt ≤ 500) → (0 ≤ x539.toInt ∧ x539.toInt ≤ 16) → (x538 = fI H534 a0 (K.1.2 4 7)) → (x539 = fI H534 mq (K.1.2 7 0)) → (mq = fR H534 a0 (K.1.2 4 0)) → (kq = fR H534 a0 (K.1.2 4 3)) → (fI H534 kq (F : Int32).toNatClampNeg = 26) → (x538.toInt < F.toInt ∧ x538.toInt ≤ F.toInt ∧ x539.toInt = li.toInt) → W p l e ({ frames := 7, cells := 0, slots := 0, locals := 157 } : Room) s m (([.ref a0, .int x1] : List Value).toArray) below meth c H534 locsH534 0 0 Q (F0 m 22 ls535 []) := by
    intro ls535 H534 locsH534 x537 x538 x539 hl536 hTH534 hSH534 bx537 bx538 bx539 ex538 ex539 cy540_0 cy540_1 cy540_2 iv22
    have J44 : ∀ (ls542 : Array Slot) (H541 : Heap) (locsH541 : List Loc) (x544 : Int32) (x545 : Int32) (x546 : Int32), lv_has ls542 4 [] → TY K G H541 → va_S (AE G [78, 69, 77] s.heap.size) s.heap H541 locsH541 → (0 ≤ x544.toInt ∧ x544.toInt ≤ 1) → (0 ≤ x545.toInt ∧ x545.toInt ≤ 500) → (0 ≤ x546.toInt ∧ x546.toInt ≤ 16) → (x545 = fI H541 a0 (K.1.2 4 7)) → (x546 = fI H541 mq (K.1.2 7 0)) → (mq = fR H541 a0 (K.1.2 4 0)) → (kq = fR H541 a0 (K.1.2 4 3)) → (fI H541 kq (F : Int32).toNatClampNeg = 26) → (x545.toInt ≤ F.toInt ∧ x546.toInt = li.toInt) → W p l e ({ frames := 7, cells := 0, slots := 0, locals := 157 } : Room) s m (([.ref a0, .int x1] : List Value).toArray) below meth c H541 locsH541 0 0 Q (F0 m 44 ls542 [.int x544]) := by
      intro ls542 H541 locsH541 x544 x545 x546 hl543 hTH541 hSH541 bx544 bx545 bx546 ex545 ex546 cy547_0 cy547_1 cy547_2 iv44
      exact x_zret C hQ (i_01 (by omega)) dX4_part_44 hSH541 (by decide) (by decide) (⟨x544, x545, x546, rfl, by omega, ex545, ex546, by omega, cy547_0, cy547_1, hTH541⟩)
    refine lv_iload_n hx hb dX4_part_22 rfl (lv_at hl536 1 rfl) ?_
    refine lv_bipush (v := 8) hx hb dX4_part_23 (by decide) ?_
    refine lv_icmp_ge (tgt := 39) hx hb dX4_part_25 (by decide) (fun c548 => ?_) (fun c548 => ?_)
    · have k549 := i_le c548
      refine lv_aload_n hx hb dX4_part_39 rfl (lv_at hl536 0 rfl) ?_
      refine lv_iconst (v := 3) hx hb dX4_part_40 (by decide) ?_
      refine x_V (As := [.int 3]) (rest := []) C (a_X4_refuse l K G H534 (3) (x538) hTH534 ga0 gmq cy540_0 gkq cy540_1 ex538) yo_X4_refuse wM_X4_81 ⟨⟨by decide, by decide⟩, by decide, by decide⟩ (x_rv C hTH534 (ci := 4) rfl ga0 rg_78) rfl hl536.1 rfl (Nat.le_of_ble_eq_true rfl) dX4_part_41 hSH534 (AE_sub (fun _ _ => rfl) (by decide) hSH534.1) (fun vH550 H550 locsH550 pH550 zH550 kH550 hSH550 => ?_)
      obtain ⟨x551, x552, hvH550, bx551, ex552, hrH550, m553, m554, hTH550⟩ := pH550
      subst hvH550
      have m555 := (ex539).trans (fI_kept (x_lt hTH534 kH550 gmq (by decide))).symm
      have m556 := (fI_kept (x_lt hTH534 kH550 gkq (by decide))).trans cy540_2
      have bx552 := ty_fi (x := x552) (k := 7) ex552 hTH550 ga0 rg_78 rfl
      refine W.eq (g2 := F0 m 44 ls535 [.int x551]) rfl ?_
      exact J44 ls535 H550 locsH550 (x551) (x552) (x539) (lv_sub hl536 [] rfl) hTH550 hSH550 (by have := i_rng x551; omega) (by have := i_rng x552; omega) (by have := i_rng x539; omega) ex552 m555 m553 m554 m556 (by omega)
    · have k549 := i_nle c548
      refine lv_aload_n hx hb dX4_part_28 rfl (lv_at hl536 0 rfl) ?_
      refine lv_iload_n hx hb dX4_part_29 rfl (lv_at hl536 2 rfl) ?_
      refine lv_iload_n hx hb dX4_part_30 rfl (lv_at hl536 1 rfl) ?_
      refine lv_iconst (v := 1) hx hb dX4_part_31 (by decide) ?_
      refine lv_iadd hx hb dX4_part_32 ?_
      refine lv_topi (fun x557 ex557 => ?_)
      have tx557 := i_add ex557 (by omega)
      refine x_V (As := [.int x537, .int x557]) (rest := []) C (a_X4_opened_8 l K G H534 (x537) (x557) (F) (x538) (x539) hTH534 ga0 (by omega) gmq cy540_0 gkq cy540_1 ex538 ex539 cy540_2 (by omega) (by omega)) yo_X4_opened wM_X4_138 ⟨⟨by decide, by decide⟩, by decide, by decide⟩ (x_rv C hTH534 (ci := 4) rfl ga0 rg_78) rfl hl536.1 rfl (Nat.le_of_ble_eq_true rfl) dX4_part_33 hSH534 (AE_sub (fun _ _ => rfl) (by decide) hSH534.1) (fun vH558 H558 locsH558 pH558 zH558 kH558 hSH558 => ?_)
      obtain ⟨x559, x560, x561, hvH558, bx559, ex560, ex561, hrH558, m562, m563, hTH558⟩ := pH558
      subst hvH558
      have m564 := (fI_kept (x_lt hTH534 kH558 gkq (by decide))).trans cy540_2
      have bx560 := ty_fi (x := x560) (k := 7) ex560 hTH558 ga0 rg_78 rfl
      have bx561 := ty_fi (x := x561) (k := 0) ex561 hTH558 gmq rg_69 rfl
      refine W.eq (g2 := F0 m 36 ls535 [.int x559]) rfl ?_
      refine lv_goto (tgt := 44) hx hb dX4_part_36 (by decide) ?_
      exact J44 ls535 H558 locsH558 (x559) (x560) (x561) (lv_sub hl536 [] rfl) hTH558 hSH558 (by have := i_rng x559; omega) (by have := i_rng x560; omega) (by have := i_rng x561; omega) ex560 ex561 m562 m563 m564 (by omega)
  have J88 : ∀ (ls566 : Array Slot) (H565 : Heap) (locsH565 : List Loc) (x568 : Int32) (x569 : Int32) (x570 : Int32), lv_has ls566 4 [(0, .ref a0), (3, .int x568)] → TY K G H565 → va_S (AE G [78, 69, 77] s.heap.size) s.heap H565 locsH565 → (60 ≤ x568.toInt ∧ x568.toInt ≤ 62) → (0 ≤ x569.toInt ∧ x569.toInt ≤ 500) → (0 ≤ x570.toInt ∧ x570.toInt ≤ 16) → (x569 = fI H565 a0 (K.1.2 4 7)) → (x570 = fI H565 mq (K.1.2 7 0)) → (mq = fR H565 a0 (K.1.2 4 0)) → (kq = fR H565 a0 (K.1.2 4 3)) → (fI H565 kq (F : Int32).toNatClampNeg = 26) → (x569.toInt < F.toInt ∧ x569.toInt ≤ F.toInt ∧ x570.toInt = li.toInt) → W p l e ({ frames := 7, cells := 0, slots := 0, locals := 157 } : Room) s m (([.ref a0, .int x1] : List Value).toArray) below meth c H565 locsH565 0 0 Q (F0 m 88 ls566 []) := by
    intro ls566 H565 locsH565 x568 x569 x570 hl567 hTH565 hSH565 bx568 bx569 bx570 ex569 ex570 cy571_0 cy571_1 cy571_2 iv88
    refine lv_aload_n hx hb dX4_part_88 rfl (lv_at hl567 0 rfl) ?_
    refine lv_dup hx hb dX4_part_89 rfl ?_
    refine x_gi C hTH565 (ci := 4) (k := 7) rfl inX4 (by decide) wF_X4_42 ga0 rg_78 rfl dX4_part_90 (fun x572 ex572 bx572 => ?_)
    have ux572 : x569 = x572 := (ex569).trans ex572.symm
    subst ux572
    refine lv_iconst (v := 1) hx hb dX4_part_93 (by decide) ?_
    refine lv_iadd hx hb dX4_part_94 ?_
    refine lv_topi (fun x573 ex573 => ?_)
    have tx573 := i_add ex573 (by omega)
    have fz575 : 0 ≤ x573.toInt ∧ x573.toInt ≤ 500 := by have := i_rng x573; omega
    refine x_put C hTH565 hSH565 (ci := 4) (k := 7) (v := .int x573) (ty0 := tyX4) rfl inX4 tyX4_ok nmX4 (by decide) rfl wF_X4_42 ga0 rg_78 rfl rfl (okI (by have := i_rng x573; omega) (by have := i_rng x573; omega)) rfl rfl (AE_in ga0 (by decide)) dX4_part_95 (fun H574 locsH574 hTH574 hSH574 wH574 => ?_)
    have m577 := ex570.trans (Wr.neI wH574 (Or.inl (G_ne gmq ga0 (by decide)))).symm
    have m578 := cy571_0.trans (Wr.neR wH574 (Or.inr (x_apart hKT hts inX4 tyX4 tyX4_ok nmX4 rfl 0 7 (by decide) (by decide) (by decide)))).symm
    have m579 := cy571_1.trans (Wr.neR wH574 (Or.inr (x_apart hKT hts inX4 tyX4 tyX4_ok nmX4 rfl 3 7 (by decide) (by decide) (by decide)))).symm
    have m580 := (Wr.neI wH574 (Or.inl (G_ne gkq ga0 (by decide)))).trans cy571_2
    have m581 := Wr.I wH574
    have m581 := m581.symm
    refine lv_aload_n hx hb dX4_part_98 rfl (lv_at hl567 0 rfl) ?_
    refine x_V (As := []) (rest := []) C (a_X4_sum l K G H574 (F) (x573) (x570) hTH574 ga0 gmq m578 gkq m579 m581 m577 m580 (by omega) (by omega)) yo_X4_sum wM_X4_103 ⟨⟨by decide, by decide⟩, by decide, by decide⟩ (x_rv C hTH574 (ci := 4) rfl ga0 rg_78) rfl hl567.1 rfl (Nat.le_of_ble_eq_true rfl) dX4_part_99 hSH574 (AE_sub (fun _ _ => rfl) (by decide) hSH574.1) (fun vH582 H582 locsH582 pH582 zH582 kH582 hSH582 => ?_)
    obtain ⟨x583, x584, x585, hvH582, bx583, ex584, ex585, hrH582, m586, m587, hTH582⟩ := pH582
    subst hvH582
    have m588 := (fI_kept (x_lt hTH574 kH582 gkq (by decide))).trans m580
    have bx584 := ty_fi (x := x584) (k := 7) ex584 hTH582 ga0 rg_78 rfl
    have bx585 := ty_fi (x := x585) (k := 0) ex585 hTH582 gmq rg_69 rfl
    refine W.eq (g2 := F0 m 102 ls566 [.int x583]) rfl ?_
    refine lv_if_ne (tgt := 107) hx hb dX4_part_102 (by decide) (fun c589 => ?_) (fun c589 => ?_)
    · have k590 := i_ne c589
      refine lv_aload_n hx hb dX4_part_107 rfl (lv_at hl567 0 rfl) ?_
      refine x_gr C hTH582 (ci := 4) (k := 0) rfl inX4 (by decide) wF_X4_12 ga0 rg_78 rfl dX4_part_108 (fun q591 eq591 gq591 => ?_)
      have uq591 : mq = q591 := (m586).trans eq591.symm
      subst uq591
      refine lv_iload_n hx hb dX4_part_111 rfl (lv_at hl567 1 rfl) ?_
      refine lv_iconst (v := 0) hx hb dX4_part_112 (by decide) ?_
      refine x_V (As := [.int x568, .int 0]) (rest := []) C (a_X7_addStep l K G H582 (x568) (0) (x585) hTH582 gmq ex585) yo_X7_addStep wM_X4_131 ⟨⟨by decide, by decide⟩, by decide, by decide⟩ (x_rv C hTH582 (ci := 7) rfl gmq rg_69) rfl hl567.1 rfl (Nat.le_of_ble_eq_true rfl) dX4_part_113 hSH582 (AE_sub (fun _ _ => rfl) (by decide) hSH582.1) (fun vH592 H592 locsH592 pH592 zH592 kH592 hSH592 => ?_)
      obtain ⟨x593, hvH592, ex593, hrH592, hTH592⟩ := pH592
      subst hvH592
      have m594 := (fI_kept (x_lt hTH582 kH592 gkq (by decide))).trans m588
      have m595 := (m586).trans (fR_kept (x_lt hTH582 kH592 ga0 (by decide))).symm
      have m596 := (m587).trans (fR_kept (x_lt hTH582 kH592 ga0 (by decide))).symm
      have m597 := (ex584).trans (fI_kept (x_lt hTH582 kH592 ga0 (by decide))).symm
      have bx593 := ty_fi (x := x593) (k := 0) ex593 hTH592 gmq rg_69 rfl
      refine W.eq (g2 := F0 m 116 ls566 []) rfl ?_
      refine lv_iconst (v := 1) hx hb dX4_part_116 (by decide) ?_
      exact x_zret C hQ (Or.inr rfl) dX4_part_117 hSH592 (by decide) (by decide) (⟨1, x584, x593, rfl, by decide, m597, ex593, by omega, m595, m596, hTH592⟩)
    · have k590 := i_eq c589
      refine lv_iconst (v := 0) hx hb dX4_part_105 (by decide) ?_
      exact x_zret C hQ (Or.inl rfl) dX4_part_106 hSH582 (by decide) (by decide) (⟨0, x584, x585, rfl, by decide, ex584, ex585, by omega, m586, m587, hTH582⟩)
  refine lv_aload_n hx hb dX4_part_0 rfl (lv_at hl 0 rfl) ?_
  refine x_gr C hT (ci := 4) (k := 3) rfl inX4 (by decide) wF_X4_18 ga0 rg_78 rfl dX4_part_1 (fun q598 eq598 gq598 => ?_)
  have uq598 : kq = q598 := (ekq).trans eq598.symm
  subst uq598
  refine lv_aload_n hx hb dX4_part_4 rfl (lv_at hl 0 rfl) ?_
  refine x_gi C hT (ci := 4) (k := 7) rfl inX4 (by decide) wF_X4_42 ga0 rg_78 rfl dX4_part_5 (fun x599 ex599 bx599 => ?_)
  have ux599 : tat = x599 := (etat).trans ex599.symm
  subst ux599
  refine x_ai C hT gkq rg_79 ⟨by omega, by show _ < ((501 : Nat) : Int); omega⟩ dX4_part_8 (fun x600 ex600 bx600 => ?_)
  have dx600 := el_hit ex600 hel0
  refine lv_istore_n (lv' := [(2, .int x600), (0, .ref a0), (1, .int x1)]) hx hb dX4_part_9 rfl hl (by decide) rfl (fun ls601 hl602 => ?_)
  refine lv_iload_n hx hb dX4_part_10 rfl (lv_at hl602 0 rfl) ?_
  refine lv_bipush (v := 10) hx hb dX4_part_11 (by decide) ?_
  refine lv_icmp_eq (tgt := 22) hx hb dX4_part_13 (by decide) (fun c603 => ?_) (fun c603 => ?_)
  · have k604 := i_eq c603
    exact J22 ls601 s.heap [] (x600) (tat) (li) (lv_sub hl602 [1, 2, 0] rfl) hT hS (by have := i_rng x600; omega) (by have := i_rng tat; omega) (by have := i_rng li; omega) etat eli emq ekq hel0 (by omega)
  · have k604 := i_ne c603
    refine lv_iload_n hx hb dX4_part_16 rfl (lv_at hl602 0 rfl) ?_
    refine lv_bipush (v := 40) hx hb dX4_part_17 (by decide) ?_
    refine lv_icmp_ne (tgt := 45) hx hb dX4_part_19 (by decide) (fun c605 => ?_) (fun c605 => ?_)
    · have k606 := i_ne c605
      refine lv_aload_n hx hb dX4_part_45 rfl (lv_at hl602 1 rfl) ?_
      refine x_V (As := []) (rest := []) C (a_X4_sum l K G s.heap (F) (tat) (li) hT ga0 gmq emq gkq ekq etat eli hel0 (by omega) (by omega)) yo_X4_sum wM_X4_103 ⟨⟨by decide, by decide⟩, by decide, by decide⟩ (x_rv C hT (ci := 4) rfl ga0 rg_78) rfl hl602.1 rfl (Nat.le_of_ble_eq_true rfl) dX4_part_46 hS (AE_sub (fun _ _ => rfl) (by decide) hS.1) (fun vH607 H607 locsH607 pH607 zH607 kH607 hSH607 => ?_)
      obtain ⟨x608, x609, x610, hvH607, bx608, ex609, ex610, hrH607, m611, m612, hTH607⟩ := pH607
      subst hvH607
      have m613 := (fI_kept (x_lt hT kH607 gkq (by decide))).trans hel0
      have bx609 := ty_fi (x := x609) (k := 7) ex609 hTH607 ga0 rg_78 rfl
      have bx610 := ty_fi (x := x610) (k := 0) ex610 hTH607 gmq rg_69 rfl
      refine W.eq (g2 := F0 m 49 ls601 [.int x608]) rfl ?_
      refine lv_if_ne (tgt := 54) hx hb dX4_part_49 (by decide) (fun c614 => ?_) (fun c614 => ?_)
      · have k615 := i_ne c614
        refine lv_aload_n hx hb dX4_part_54 rfl (lv_at hl602 1 rfl) ?_
        refine x_gr C hTH607 (ci := 4) (k := 3) rfl inX4 (by decide) wF_X4_18 ga0 rg_78 rfl dX4_part_55 (fun q616 eq616 gq616 => ?_)
        have uq616 : kq = q616 := (m612).trans eq616.symm
        subst uq616
        refine lv_aload_n hx hb dX4_part_58 rfl (lv_at hl602 1 rfl) ?_
        refine x_gi C hTH607 (ci := 4) (k := 7) rfl inX4 (by decide) wF_X4_42 ga0 rg_78 rfl dX4_part_59 (fun x617 ex617 bx617 => ?_)
        have ux617 : x609 = x617 := (ex609).trans ex617.symm
        subst ux617
        refine x_ai C hTH607 gkq rg_79 ⟨by omega, by show _ < ((501 : Nat) : Int); omega⟩ dX4_part_62 (fun x618 ex618 bx618 => ?_)
        have dx618 := el_hit ex618 m613
        refine lv_istore_n (lv' := [(3, .int x618), (2, .int x600), (0, .ref a0), (1, .int x1)]) hx hb dX4_part_63 rfl hl602 (by decide) rfl (fun ls619 hl620 => ?_)
        refine lv_iload_n hx hb dX4_part_64 rfl (lv_at hl620 0 rfl) ?_
        refine lv_bipush (v := 60) hx hb dX4_part_65 (by decide) ?_
        refine lv_icmp_eq (tgt := 88) hx hb dX4_part_67 (by decide) (fun c621 => ?_) (fun c621 => ?_)
        · have k622 := i_eq c621
          exact J88 ls619 H607 locsH607 (x618) (x609) (x610) (lv_sub hl620 [2, 0] rfl) hTH607 hSH607 (by have := i_rng x618; omega) (by have := i_rng x609; omega) (by have := i_rng x610; omega) ex609 ex610 m611 m612 m613 (by omega)
        · have k622 := i_ne c621
          refine lv_iload_n hx hb dX4_part_70 rfl (lv_at hl620 0 rfl) ?_
          refine lv_bipush (v := 61) hx hb dX4_part_71 (by decide) ?_
          refine lv_icmp_eq (tgt := 88) hx hb dX4_part_73 (by decide) (fun c623 => ?_) (fun c623 => ?_)
          · have k624 := i_eq c623
            exact J88 ls619 H607 locsH607 (x618) (x609) (x610) (lv_sub hl620 [2, 0] rfl) hTH607 hSH607 (by have := i_rng x618; omega) (by have := i_rng x609; omega) (by have := i_rng x610; omega) ex609 ex610 m611 m612 m613 (by omega)
          · have k624 := i_ne c623
            refine lv_iload_n hx hb dX4_part_76 rfl (lv_at hl620 0 rfl) ?_
            refine lv_bipush (v := 62) hx hb dX4_part_77 (by decide) ?_
            refine lv_icmp_eq (tgt := 88) hx hb dX4_part_79 (by decide) (fun c625 => ?_) (fun c625 => ?_)
            · have k626 := i_eq c625
              exact J88 ls619 H607 locsH607 (x618) (x609) (x610) (lv_sub hl620 [2, 0] rfl) hTH607 hSH607 (by have := i_rng x618; omega) (by have := i_rng x609; omega) (by have := i_rng x610; omega) ex609 ex610 m611 m612 m613 (by omega)
            · have k626 := i_ne c625
              refine lv_aload_n hx hb dX4_part_82 rfl (lv_at hl620 2 rfl) ?_
              refine lv_iconst (v := 1) hx hb dX4_part_83 (by decide) ?_
              refine x_V (As := [.int 1]) (rest := []) C (a_X4_refuse l K G H607 (1) (x609) hTH607 ga0 gmq m611 gkq m612 ex609) yo_X4_refuse wM_X4_81 ⟨⟨by decide, by decide⟩, by decide, by decide⟩ (x_rv C hTH607 (ci := 4) rfl ga0 rg_78) rfl hl620.1 rfl (Nat.le_of_ble_eq_true rfl) dX4_part_84 hSH607 (AE_sub (fun _ _ => rfl) (by decide) hSH607.1) (fun vH627 H627 locsH627 pH627 zH627 kH627 hSH627 => ?_)
              obtain ⟨x628, x629, hvH627, bx628, ex629, hrH627, m630, m631, hTH627⟩ := pH627
              subst hvH627
              have m632 := (fI_kept (x_lt hTH607 kH627 gkq (by decide))).trans m613
              have m633 := (ex610).trans (fI_kept (x_lt hTH607 kH627 gmq (by decide))).symm
              have bx629 := ty_fi (x := x629) (k := 7) ex629 hTH627 ga0 rg_78 rfl
              refine W.eq (g2 := F0 m 87 ls619 [.int x628]) rfl ?_
              exact x_zret C hQ (i_01 (by omega)) dX4_part_87 hSH627 (by decide) (by decide) (⟨x628, x629, x610, rfl, by omega, ex629, m633, by omega, m630, m631, hTH627⟩)
      · have k615 := i_eq c614
        refine lv_iconst (v := 0) hx hb dX4_part_52 (by decide) ?_
        exact x_zret C hQ (Or.inl rfl) dX4_part_53 hSH607 (by decide) (by decide) (⟨0, x609, x610, rfl, by decide, ex609, ex610, by omega, m611, m612, hTH607⟩)
    · have k606 := i_eq c605
      exact J22 ls601 s.heap [] (x600) (tat) (li) (lv_sub hl602 [1, 2, 0] rfl) hT hS (by have := i_rng x600; omega) (by have := i_rng tat; omega) (by have := i_rng li; omega) etat eli emq ekq hel0 (by omega)

set_option maxHeartbeats 4000000 in
set_option maxRecDepth 100000 in
theorem a_X4_both_7 (l : Launch) (K : KE) (G : Nat → Option Nat) (H : Heap) {a0 : Nat} (x1 : Int32) {mq : Nat} {kq : Nat} (F : Int32) (tat : Int32) (li : Int32) (hT : TY K G H) (ga0 : G a0 = some 78) (hx1 : 7 ≤ x1.toInt ∧ x1.toInt ≤ 8) (gmq : G mq = some 69) (emq : mq = fR H a0 (K.1.2 4 0)) (gkq : G kq = some 79) (ekq : kq = fR H a0 (K.1.2 4 3)) (etat : tat = fI H a0 (K.1.2 4 7)) (eli : li = fI H mq (K.1.2 7 0)) (hel0 : fI H kq (F : Int32).toNatClampNeg = 26) (hp0 : tat.toInt ≤ F.toInt) (hp1 : F.toInt ≤ 500) : MX l K yX4_both cX4_both 3 (some .boolean) 8 180 0 0 [.ref a0, .int x1] H (AE G [78, 69, 77] H.size) (fun v H1 => ∃ (r : Int32) (t0 : Int32) (t1 : Int32), v = some (.int r) ∧ (0 ≤ r.toInt ∧ r.toInt ≤ 1) ∧ t0 = fI H1 a0 (K.1.2 4 7) ∧ t1 = fI H1 mq (K.1.2 7 0) ∧ (t0.toInt ≤ F.toInt ∧ t1.toInt = li.toInt) ∧ mq = fR H1 a0 (K.1.2 4 0) ∧ kq = fR H1 a0 (K.1.2 4 3) ∧ TY K G H1) := by
  refine MX.of (by decide +kernel) (Nat.le_of_ble_eq_true rfl) ?_
  intro p e s m below meth c ls Q C hH hl hQ
  subst hH
  have C : CX p K s m _ meth c RX4 cX4_both 3 (some .boolean) "both" := C
  obtain ⟨hx, hb, hml, hown, hts, hKT, hr, hlocks, hnm⟩ := id C
  have hl : lv_has ls 3 [(0, .ref a0), (1, .int x1)] := hl
  have hS : va_S (AE G [78, 69, 77] s.heap.size) s.heap s.heap [] := va_S.rf
  have n_0 : (0 : Int32).toInt = 0 := rfl
  have n_1 : (1 : Int32).toInt = 1 := rfl
  have n_9 : (9 : Int32).toInt = 9 := rfl
  have n_26 : (26 : Int32).toInt = 26 := rfl
  have n_500 : (500 : Int32).toInt = 500 := rfl
  have btat := ty_fi (x := tat) (k := 7) etat hT ga0 rg_78 rfl
  have bli := ty_fi (x := li) (k := 0) eli hT gmq rg_69 rfl
  have J12 : ∀ (nf : Nat) (ls1090 : Array Slot) (H1089 : Heap) (locsH1089 : List Loc) (x1092 : Int32) (x1093 : Int32) (x1094 : Int32), lv_has ls1090 3 [(0, .ref a0), (1, .int x1), (2, .int x1092)] → TY K G H1089 → va_S (AE G [78, 69, 77] s.heap.size) s.heap H1089 locsH1089 → (0 ≤ x1092.toInt ∧ x1092.toInt ≤ 500) → (0 ≤ x1093.toInt ∧ x1093.toInt ≤ 500) → (0 ≤ x1094.toInt ∧ x1094.toInt ≤ 16) → (x1093 = fI H1089 a0 (K.1.2 4 7)) → (x1094 = fI H1089 mq (K.1.2 7 0)) → (mq = fR H1089 a0 (K.1.2 4 0)) → (kq = fR H1089 a0 (K.1.2 4 3)) → (fI H1089 kq (F : Int32).toNatClampNeg = 26) → (500 - x1092.toInt < (nf : Int)) → (x1093.toInt ≤ F.toInt ∧ x1094.toInt = li.toInt) → W p l e ({ frames := 8, cells := 0, slots := 0, locals := 180 } : Room) s m (([.ref a0, .int x1] : List Value).toArray) below meth c H1089 locsH1089 0 0 Q (F0 m 12 ls1090 []) := by
    intro nf
    induction nf with
    | zero =>
      intro ls1090 H1089 locsH1089 x1092 x1093 x1094 hl1091 hTH1089 hSH1089 bx1092 bx1093 bx1094 ex1093 ex1094 cy1095_0 cy1095_1 cy1095_2 hm12 iv12
      exfalso
      omega
    | succ nf ih12 =>
      intro ls1090 H1089 locsH1089 x1092 x1093 x1094 hl1091 hTH1089 hSH1089 bx1092 bx1093 bx1094 ex1093 ex1094 cy1095_0 cy1095_1 cy1095_2 hm12 iv12
      have J69 : ∀ (ls1097 : Array Slot) (H1096 : Heap) (locsH1096 : List Loc) (x1099 : Int32) (x1100 : Int32), lv_has ls1097 3 [] → TY K G H1096 → va_S (AE G [78, 69, 77] s.heap.size) s.heap H1096 locsH1096 → (0 ≤ x1099.toInt ∧ x1099.toInt ≤ 500) → (0 ≤ x1100.toInt ∧ x1100.toInt ≤ 16) → (x1099 = fI H1096 a0 (K.1.2 4 7)) → (x1100 = fI H1096 mq (K.1.2 7 0)) → (mq = fR H1096 a0 (K.1.2 4 0)) → (kq = fR H1096 a0 (K.1.2 4 3)) → (fI H1096 kq (F : Int32).toNatClampNeg = 26) → (x1099.toInt ≤ F.toInt ∧ x1100.toInt = li.toInt) → W p l e ({ frames := 8, cells := 0, slots := 0, locals := 180 } : Room) s m (([.ref a0, .int x1] : List Value).toArray) below meth c H1096 locsH1096 0 0 Q (F0 m 69 ls1097 []) := by
        intro ls1097 H1096 locsH1096 x1099 x1100 hl1098 hTH1096 hSH1096 bx1099 bx1100 ex1099 ex1100 cy1101_0 cy1101_1 cy1101_2 iv69
        refine lv_iconst (v := 1) hx hb dX4_both_69 (by decide) ?_
        exact x_zret C hQ (Or.inr rfl) dX4_both_70 hSH1096 (by decide) (by decide) (⟨1, x1099, x1100, rfl, by decide, ex1099, ex1100, by omega, cy1101_0, cy1101_1, hTH1096⟩)
      refine lv_iload_n hx hb dX4_both_12 rfl (lv_at hl1091 2 rfl) ?_
      refine lv_sipush (v := 500) hx hb dX4_both_13 (by decide) ?_
      refine lv_icmp_ge (tgt := 69) hx hb dX4_both_16 (by decide) (fun c1102 => ?_) (fun c1102 => ?_)
      · have k1103 := i_le c1102
        exact J69 ls1090 H1089 locsH1089 (x1093) (x1094) (lv_sub hl1091 [] rfl) hTH1089 hSH1089 (by have := i_rng x1093; omega) (by have := i_rng x1094; omega) ex1093 ex1094 cy1095_0 cy1095_1 cy1095_2 (by omega)
      · have k1103 := i_nle c1102
        refine lv_aload_n hx hb dX4_both_19 rfl (lv_at hl1091 0 rfl) ?_
        refine x_gr C hTH1089 (ci := 4) (k := 3) rfl inX4 (by decide) wF_X4_18 ga0 rg_78 rfl dX4_both_20 (fun q1104 eq1104 gq1104 => ?_)
        have uq1104 : kq = q1104 := (cy1095_1).trans eq1104.symm
        subst uq1104
        refine lv_aload_n hx hb dX4_both_23 rfl (lv_at hl1091 0 rfl) ?_
        refine x_gi C hTH1089 (ci := 4) (k := 7) rfl inX4 (by decide) wF_X4_42 ga0 rg_78 rfl dX4_both_24 (fun x1105 ex1105 bx1105 => ?_)
        have ux1105 : x1093 = x1105 := (ex1093).trans ex1105.symm
        subst ux1105
        refine x_ai C hTH1089 gkq rg_79 ⟨by omega, by show _ < ((501 : Nat) : Int); omega⟩ dX4_both_27 (fun x1106 ex1106 bx1106 => ?_)
        have dx1106 := el_hit ex1106 cy1095_2
        refine lv_bipush (v := 9) hx hb dX4_both_28 (by decide) ?_
        refine lv_icmp_ne (tgt := 69) hx hb dX4_both_30 (by decide) (fun c1107 => ?_) (fun c1107 => ?_)
        · have k1108 := i_ne c1107
          exact J69 ls1090 H1089 locsH1089 (x1093) (x1094) (lv_sub hl1091 [] rfl) hTH1089 hSH1089 (by have := i_rng x1093; omega) (by have := i_rng x1094; omega) ex1093 ex1094 cy1095_0 cy1095_1 cy1095_2 (by omega)
        · have k1108 := i_eq c1107
          refine lv_aload_n hx hb dX4_both_33 rfl (lv_at hl1091 0 rfl) ?_
          refine lv_dup hx hb dX4_both_34 rfl ?_
          refine x_gi C hTH1089 (ci := 4) (k := 7) rfl inX4 (by decide) wF_X4_42 ga0 rg_78 rfl dX4_both_35 (fun x1109 ex1109 bx1109 => ?_)
          have ux1109 : x1093 = x1109 := (ex1093).trans ex1109.symm
          subst ux1109
          refine lv_iconst (v := 1) hx hb dX4_both_38 (by decide) ?_
          refine lv_iadd hx hb dX4_both_39 ?_
          refine lv_topi (fun x1110 ex1110 => ?_)
          have tx1110 := i_add ex1110 (by omega)
          have fz1112 : 0 ≤ x1110.toInt ∧ x1110.toInt ≤ 500 := by have := i_rng x1110; omega
          refine x_put C hTH1089 hSH1089 (ci := 4) (k := 7) (v := .int x1110) (ty0 := tyX4) rfl inX4 tyX4_ok nmX4 (by decide) rfl wF_X4_42 ga0 rg_78 rfl rfl (okI (by have := i_rng x1110; omega) (by have := i_rng x1110; omega)) rfl rfl (AE_in ga0 (by decide)) dX4_both_40 (fun H1111 locsH1111 hTH1111 hSH1111 wH1111 => ?_)
          have m1114 := ex1094.trans (Wr.neI wH1111 (Or.inl (G_ne gmq ga0 (by decide)))).symm
          have m1115 := cy1095_0.trans (Wr.neR wH1111 (Or.inr (x_apart hKT hts inX4 tyX4 tyX4_ok nmX4 rfl 0 7 (by decide) (by decide) (by decide)))).symm
          have m1116 := cy1095_1.trans (Wr.neR wH1111 (Or.inr (x_apart hKT hts inX4 tyX4 tyX4_ok nmX4 rfl 3 7 (by decide) (by decide) (by decide)))).symm
          have m1117 := (Wr.neI wH1111 (Or.inl (G_ne gkq ga0 (by decide)))).trans cy1095_2
          have m1118 := Wr.I wH1111
          have m1118 := m1118.symm
          refine lv_aload_n hx hb dX4_both_43 rfl (lv_at hl1091 0 rfl) ?_
          refine lv_iload_n hx hb dX4_both_44 rfl (lv_at hl1091 1 rfl) ?_
          refine x_V (As := [.int x1]) (rest := []) C (a_X4_part_7 l K G H1111 (x1) (F) (x1110) (x1094) hTH1111 ga0 (by omega) gmq m1115 gkq m1116 m1118 m1114 m1117 (by omega) (by omega)) yo_X4_part wM_X4_135 ⟨⟨by decide, by decide⟩, by decide, by decide⟩ (x_rv C hTH1111 (ci := 4) rfl ga0 rg_78) rfl hl1091.1 rfl (Nat.le_of_ble_eq_true rfl) dX4_both_45 hSH1111 (AE_sub (fun _ _ => rfl) (by decide) hSH1111.1) (fun vH1119 H1119 locsH1119 pH1119 zH1119 kH1119 hSH1119 => ?_)
          obtain ⟨x1120, x1121, x1122, hvH1119, bx1120, ex1121, ex1122, hrH1119, m1123, m1124, hTH1119⟩ := pH1119
          subst hvH1119
          have m1125 := (fI_kept (x_lt hTH1111 kH1119 gkq (by decide))).trans m1117
          have bx1121 := ty_fi (x := x1121) (k := 7) ex1121 hTH1119 ga0 rg_78 rfl
          have bx1122 := ty_fi (x := x1122) (k := 0) ex1122 hTH1119 gmq rg_69 rfl
          refine W.eq (g2 := F0 m 48 ls1090 [.int x1120]) rfl ?_
          refine lv_if_ne (tgt := 53) hx hb dX4_both_48 (by decide) (fun c1126 => ?_) (fun c1126 => ?_)
          · have k1127 := i_ne c1126
            refine lv_aload_n hx hb dX4_both_53 rfl (lv_at hl1091 0 rfl) ?_
            refine x_gr C hTH1119 (ci := 4) (k := 0) rfl inX4 (by decide) wF_X4_12 ga0 rg_78 rfl dX4_both_54 (fun q1128 eq1128 gq1128 => ?_)
            have uq1128 : mq = q1128 := (m1123).trans eq1128.symm
            subst uq1128
            refine lv_bipush (v := 9) hx hb dX4_both_57 (by decide) ?_
            refine lv_iconst (v := 0) hx hb dX4_both_59 (by decide) ?_
            refine x_V (As := [.int 9, .int 0]) (rest := []) C (a_X7_addStep l K G H1119 (9) (0) (x1122) hTH1119 gmq ex1122) yo_X7_addStep wM_X4_131 ⟨⟨by decide, by decide⟩, by decide, by decide⟩ (x_rv C hTH1119 (ci := 7) rfl gmq rg_69) rfl hl1091.1 rfl (Nat.le_of_ble_eq_true rfl) dX4_both_60 hSH1119 (AE_sub (fun _ _ => rfl) (by decide) hSH1119.1) (fun vH1129 H1129 locsH1129 pH1129 zH1129 kH1129 hSH1129 => ?_)
            obtain ⟨x1130, hvH1129, ex1130, hrH1129, hTH1129⟩ := pH1129
            subst hvH1129
            have m1131 := (fI_kept (x_lt hTH1119 kH1129 gkq (by decide))).trans m1125
            have m1132 := (m1123).trans (fR_kept (x_lt hTH1119 kH1129 ga0 (by decide))).symm
            have m1133 := (m1124).trans (fR_kept (x_lt hTH1119 kH1129 ga0 (by decide))).symm
            have m1134 := (ex1121).trans (fI_kept (x_lt hTH1119 kH1129 ga0 (by decide))).symm
            have bx1130 := ty_fi (x := x1130) (k := 0) ex1130 hTH1129 gmq rg_69 rfl
            refine W.eq (g2 := F0 m 63 ls1090 []) rfl ?_
            obtain ⟨x1135, ex1135⟩ : ∃ y : Int32, y = x1092 + 1 := ⟨_, rfl⟩
            have tx1135 := i_add ex1135 (by omega)
            refine lv_iinc (v := x1135) (lv' := [(2, .int x1135), (0, .ref a0), (1, .int x1)]) hx hb dX4_both_63 hl1091 (k := 2) rfl (by rw [ex1135]; rfl) (by decide) rfl (fun ls1136 hl1137 => ?_)
            refine lv_goto (tgt := 12) hx hb dX4_both_66 (by decide) ?_
            exact ih12 ls1136 H1129 locsH1129 (x1135) (x1121) (x1130) (lv_sub hl1137 [1, 2, 0] rfl) hTH1129 hSH1129 (by have := i_rng x1135; omega) (by have := i_rng x1121; omega) (by have := i_rng x1130; omega) m1134 ex1130 m1132 m1133 m1131 (by omega) (by omega)
          · have k1127 := i_eq c1126
            refine lv_iconst (v := 0) hx hb dX4_both_51 (by decide) ?_
            exact x_zret C hQ (Or.inl rfl) dX4_both_52 hSH1119 (by decide) (by decide) (⟨0, x1121, x1122, rfl, by decide, ex1121, ex1122, by omega, m1123, m1124, hTH1119⟩)
  refine lv_aload_n hx hb dX4_both_0 rfl (lv_at hl 0 rfl) ?_
  refine lv_iload_n hx hb dX4_both_1 rfl (lv_at hl 1 rfl) ?_
  refine x_V (As := [.int x1]) (rest := []) C (a_X4_part_7 l K G s.heap (x1) (F) (tat) (li) hT ga0 (by omega) gmq emq gkq ekq etat eli hel0 (by omega) (by omega)) yo_X4_part wM_X4_135 ⟨⟨by decide, by decide⟩, by decide, by decide⟩ (x_rv C hT (ci := 4) rfl ga0 rg_78) rfl hl.1 rfl (Nat.le_of_ble_eq_true rfl) dX4_both_2 hS (AE_sub (fun _ _ => rfl) (by decide) hS.1) (fun vH1138 H1138 locsH1138 pH1138 zH1138 kH1138 hSH1138 => ?_)
  obtain ⟨x1139, x1140, x1141, hvH1138, bx1139, ex1140, ex1141, hrH1138, m1142, m1143, hTH1138⟩ := pH1138
  subst hvH1138
  have m1144 := (fI_kept (x_lt hT kH1138 gkq (by decide))).trans hel0
  have bx1140 := ty_fi (x := x1140) (k := 7) ex1140 hTH1138 ga0 rg_78 rfl
  have bx1141 := ty_fi (x := x1141) (k := 0) ex1141 hTH1138 gmq rg_69 rfl
  refine W.eq (g2 := F0 m 5 ls [.int x1139]) rfl ?_
  refine lv_if_ne (tgt := 10) hx hb dX4_both_5 (by decide) (fun c1145 => ?_) (fun c1145 => ?_)
  · have k1146 := i_ne c1145
    refine lv_iconst (v := 0) hx hb dX4_both_10 (by decide) ?_
    refine lv_istore_n (lv' := [(2, .int 0), (0, .ref a0), (1, .int x1)]) hx hb dX4_both_11 rfl hl (by decide) rfl (fun ls1147 hl1148 => ?_)
    exact J12 ((500 - (0 : Int32).toInt).toNat + 1) ls1147 H1138 locsH1138 (0) (x1140) (x1141) (lv_sub hl1148 [1, 2, 0] rfl) hTH1138 hSH1138 (by decide) (by have := i_rng x1140; omega) (by have := i_rng x1141; omega) ex1140 ex1141 m1142 m1143 m1144 (by omega) (by omega)
  · have k1146 := i_eq c1145
    refine lv_iconst (v := 0) hx hb dX4_both_8 (by decide) ?_
    exact x_zret C hQ (Or.inl rfl) dX4_both_9 hSH1138 (by decide) (by decide) (⟨0, x1140, x1141, rfl, by decide, ex1140, ex1141, by omega, m1142, m1143, hTH1138⟩)

set_option maxHeartbeats 4000000 in
set_option maxRecDepth 100000 in
theorem a_X4_either_7 (l : Launch) (K : KE) (G : Nat → Option Nat) (H : Heap) {a0 : Nat} (x1 : Int32) {mq : Nat} {kq : Nat} (F : Int32) (tat : Int32) (li : Int32) (hT : TY K G H) (ga0 : G a0 = some 78) (hx1 : 7 ≤ x1.toInt ∧ x1.toInt ≤ 8) (gmq : G mq = some 69) (emq : mq = fR H a0 (K.1.2 4 0)) (gkq : G kq = some 79) (ekq : kq = fR H a0 (K.1.2 4 3)) (etat : tat = fI H a0 (K.1.2 4 7)) (eli : li = fI H mq (K.1.2 7 0)) (hel0 : fI H kq (F : Int32).toNatClampNeg = 26) (hp0 : tat.toInt ≤ F.toInt) (hp1 : F.toInt ≤ 500) : MX l K yX4_either cX4_either 3 (some .boolean) 9 202 0 0 [.ref a0, .int x1] H (AE G [78, 69, 77] H.size) (fun v H1 => ∃ (r : Int32) (t0 : Int32) (t1 : Int32), v = some (.int r) ∧ (0 ≤ r.toInt ∧ r.toInt ≤ 1) ∧ t0 = fI H1 a0 (K.1.2 4 7) ∧ t1 = fI H1 mq (K.1.2 7 0) ∧ (t0.toInt ≤ F.toInt ∧ t1.toInt = li.toInt) ∧ mq = fR H1 a0 (K.1.2 4 0) ∧ kq = fR H1 a0 (K.1.2 4 3) ∧ TY K G H1) := by
  refine MX.of (by decide +kernel) (Nat.le_of_ble_eq_true rfl) ?_
  intro p e s m below meth c ls Q C hH hl hQ
  subst hH
  have C : CX p K s m _ meth c RX4 cX4_either 3 (some .boolean) "either" := C
  obtain ⟨hx, hb, hml, hown, hts, hKT, hr, hlocks, hnm⟩ := id C
  have hl : lv_has ls 3 [(0, .ref a0), (1, .int x1)] := hl
  have hS : va_S (AE G [78, 69, 77] s.heap.size) s.heap s.heap [] := va_S.rf
  have n_0 : (0 : Int32).toInt = 0 := rfl
  have n_1 : (1 : Int32).toInt = 1 := rfl
  have n_8 : (8 : Int32).toInt = 8 := rfl
  have n_26 : (26 : Int32).toInt = 26 := rfl
  have n_500 : (500 : Int32).toInt = 500 := rfl
  have btat := ty_fi (x := tat) (k := 7) etat hT ga0 rg_78 rfl
  have bli := ty_fi (x := li) (k := 0) eli hT gmq rg_69 rfl
  have J12 : ∀ (nf : Nat) (ls1090 : Array Slot) (H1089 : Heap) (locsH1089 : List Loc) (x1092 : Int32) (x1093 : Int32) (x1094 : Int32), lv_has ls1090 3 [(0, .ref a0), (1, .int x1), (2, .int x1092)] → TY K G H1089 → va_S (AE G [78, 69, 77] s.heap.size) s.heap H1089 locsH1089 → (0 ≤ x1092.toInt ∧ x1092.toInt ≤ 500) → (0 ≤ x1093.toInt ∧ x1093.toInt ≤ 500) → (0 ≤ x1094.toInt ∧ x1094.toInt ≤ 16) → (x1093 = fI H1089 a0 (K.1.2 4 7)) → (x1094 = fI H1089 mq (K.1.2 7 0)) → (mq = fR H1089 a0 (K.1.2 4 0)) → (kq = fR H1089 a0 (K.1.2 4 3)) → (fI H1089 kq (F : Int32).toNatClampNeg = 26) → (500 - x1092.toInt < (nf : Int)) → (x1093.toInt ≤ F.toInt ∧ x1094.toInt = li.toInt) → W p l e ({ frames := 9, cells := 0, slots := 0, locals := 202 } : Room) s m (([.ref a0, .int x1] : List Value).toArray) below meth c H1089 locsH1089 0 0 Q (F0 m 12 ls1090 []) := by
    intro nf
    induction nf with
    | zero =>
      intro ls1090 H1089 locsH1089 x1092 x1093 x1094 hl1091 hTH1089 hSH1089 bx1092 bx1093 bx1094 ex1093 ex1094 cy1095_0 cy1095_1 cy1095_2 hm12 iv12
      exfalso
      omega
    | succ nf ih12 =>
      intro ls1090 H1089 locsH1089 x1092 x1093 x1094 hl1091 hTH1089 hSH1089 bx1092 bx1093 bx1094 ex1093 ex1094 cy1095_0 cy1095_1 cy1095_2 hm12 iv12
      have J69 : ∀ (ls1097 : Array Slot) (H1096 : Heap) (locsH1096 : List Loc) (x1099 : Int32) (x1100 : Int32), lv_has ls1097 3 [] → TY K G H1096 → va_S (AE G [78, 69, 77] s.heap.size) s.heap H1096 locsH1096 → (0 ≤ x1099.toInt ∧ x1099.toInt ≤ 500) → (0 ≤ x1100.toInt ∧ x1100.toInt ≤ 16) → (x1099 = fI H1096 a0 (K.1.2 4 7)) → (x1100 = fI H1096 mq (K.1.2 7 0)) → (mq = fR H1096 a0 (K.1.2 4 0)) → (kq = fR H1096 a0 (K.1.2 4 3)) → (fI H1096 kq (F : Int32).toNatClampNeg = 26) → (x1099.toInt ≤ F.toInt ∧ x1100.toInt = li.toInt) → W p l e ({ frames := 9, cells := 0, slots := 0, locals := 202 } : Room) s m (([.ref a0, .int x1] : List Value).toArray) below meth c H1096 locsH1096 0 0 Q (F0 m 69 ls1097 []) := by
        intro ls1097 H1096 locsH1096 x1099 x1100 hl1098 hTH1096 hSH1096 bx1099 bx1100 ex1099 ex1100 cy1101_0 cy1101_1 cy1101_2 iv69
        refine lv_iconst (v := 1) hx hb dX4_either_69 (by decide) ?_
        exact x_zret C hQ (Or.inr rfl) dX4_either_70 hSH1096 (by decide) (by decide) (⟨1, x1099, x1100, rfl, by decide, ex1099, ex1100, by omega, cy1101_0, cy1101_1, hTH1096⟩)
      refine lv_iload_n hx hb dX4_either_12 rfl (lv_at hl1091 2 rfl) ?_
      refine lv_sipush (v := 500) hx hb dX4_either_13 (by decide) ?_
      refine lv_icmp_ge (tgt := 69) hx hb dX4_either_16 (by decide) (fun c1102 => ?_) (fun c1102 => ?_)
      · have k1103 := i_le c1102
        exact J69 ls1090 H1089 locsH1089 (x1093) (x1094) (lv_sub hl1091 [] rfl) hTH1089 hSH1089 (by have := i_rng x1093; omega) (by have := i_rng x1094; omega) ex1093 ex1094 cy1095_0 cy1095_1 cy1095_2 (by omega)
      · have k1103 := i_nle c1102
        refine lv_aload_n hx hb dX4_either_19 rfl (lv_at hl1091 0 rfl) ?_
        refine x_gr C hTH1089 (ci := 4) (k := 3) rfl inX4 (by decide) wF_X4_18 ga0 rg_78 rfl dX4_either_20 (fun q1104 eq1104 gq1104 => ?_)
        have uq1104 : kq = q1104 := (cy1095_1).trans eq1104.symm
        subst uq1104
        refine lv_aload_n hx hb dX4_either_23 rfl (lv_at hl1091 0 rfl) ?_
        refine x_gi C hTH1089 (ci := 4) (k := 7) rfl inX4 (by decide) wF_X4_42 ga0 rg_78 rfl dX4_either_24 (fun x1105 ex1105 bx1105 => ?_)
        have ux1105 : x1093 = x1105 := (ex1093).trans ex1105.symm
        subst ux1105
        refine x_ai C hTH1089 gkq rg_79 ⟨by omega, by show _ < ((501 : Nat) : Int); omega⟩ dX4_either_27 (fun x1106 ex1106 bx1106 => ?_)
        have dx1106 := el_hit ex1106 cy1095_2
        refine lv_bipush (v := 8) hx hb dX4_either_28 (by decide) ?_
        refine lv_icmp_ne (tgt := 69) hx hb dX4_either_30 (by decide) (fun c1107 => ?_) (fun c1107 => ?_)
        · have k1108 := i_ne c1107
          exact J69 ls1090 H1089 locsH1089 (x1093) (x1094) (lv_sub hl1091 [] rfl) hTH1089 hSH1089 (by have := i_rng x1093; omega) (by have := i_rng x1094; omega) ex1093 ex1094 cy1095_0 cy1095_1 cy1095_2 (by omega)
        · have k1108 := i_eq c1107
          refine lv_aload_n hx hb dX4_either_33 rfl (lv_at hl1091 0 rfl) ?_
          refine lv_dup hx hb dX4_either_34 rfl ?_
          refine x_gi C hTH1089 (ci := 4) (k := 7) rfl inX4 (by decide) wF_X4_42 ga0 rg_78 rfl dX4_either_35 (fun x1109 ex1109 bx1109 => ?_)
          have ux1109 : x1093 = x1109 := (ex1093).trans ex1109.symm
          subst ux1109
          refine lv_iconst (v := 1) hx hb dX4_either_38 (by decide) ?_
          refine lv_iadd hx hb dX4_either_39 ?_
          refine lv_topi (fun x1110 ex1110 => ?_)
          have tx1110 := i_add ex1110 (by omega)
          have fz1112 : 0 ≤ x1110.toInt ∧ x1110.toInt ≤ 500 := by have := i_rng x1110; omega
          refine x_put C hTH1089 hSH1089 (ci := 4) (k := 7) (v := .int x1110) (ty0 := tyX4) rfl inX4 tyX4_ok nmX4 (by decide) rfl wF_X4_42 ga0 rg_78 rfl rfl (okI (by have := i_rng x1110; omega) (by have := i_rng x1110; omega)) rfl rfl (AE_in ga0 (by decide)) dX4_either_40 (fun H1111 locsH1111 hTH1111 hSH1111 wH1111 => ?_)
          have m1114 := ex1094.trans (Wr.neI wH1111 (Or.inl (G_ne gmq ga0 (by decide)))).symm
          have m1115 := cy1095_0.trans (Wr.neR wH1111 (Or.inr (x_apart hKT hts inX4 tyX4 tyX4_ok nmX4 rfl 0 7 (by decide) (by decide) (by decide)))).symm
          have m1116 := cy1095_1.trans (Wr.neR wH1111 (Or.inr (x_apart hKT hts inX4 tyX4 tyX4_ok nmX4 rfl 3 7 (by decide) (by decide) (by decide)))).symm
          have m1117 := (Wr.neI wH1111 (Or.inl (G_ne gkq ga0 (by decide)))).trans cy1095_2
          have m1118 := Wr.I wH1111
          have m1118 := m1118.symm
          refine lv_aload_n hx hb dX4_either_43 rfl (lv_at hl1091 0 rfl) ?_
          refine lv_iload_n hx hb dX4_either_44 rfl (lv_at hl1091 1 rfl) ?_
          refine x_V (As := [.int x1]) (rest := []) C (a_X4_both_7 l K G H1111 (x1) (F) (x1110) (x1094) hTH1111 ga0 (by omega) gmq m1115 gkq m1116 m1118 m1114 m1117 (by omega) (by omega)) yo_X4_both wM_X4_128 ⟨⟨by decide, by decide⟩, by decide, by decide⟩ (x_rv C hTH1111 (ci := 4) rfl ga0 rg_78) rfl hl1091.1 rfl (Nat.le_of_ble_eq_true rfl) dX4_either_45 hSH1111 (AE_sub (fun _ _ => rfl) (by decide) hSH1111.1) (fun vH1119 H1119 locsH1119 pH1119 zH1119 kH1119 hSH1119 => ?_)
          obtain ⟨x1120, x1121, x1122, hvH1119, bx1120, ex1121, ex1122, hrH1119, m1123, m1124, hTH1119⟩ := pH1119
          subst hvH1119
          have m1125 := (fI_kept (x_lt hTH1111 kH1119 gkq (by decide))).trans m1117
          have bx1121 := ty_fi (x := x1121) (k := 7) ex1121 hTH1119 ga0 rg_78 rfl
          have bx1122 := ty_fi (x := x1122) (k := 0) ex1122 hTH1119 gmq rg_69 rfl
          refine W.eq (g2 := F0 m 48 ls1090 [.int x1120]) rfl ?_
          refine lv_if_ne (tgt := 53) hx hb dX4_either_48 (by decide) (fun c1126 => ?_) (fun c1126 => ?_)
          · have k1127 := i_ne c1126
            refine lv_aload_n hx hb dX4_either_53 rfl (lv_at hl1091 0 rfl) ?_
            refine x_gr C hTH1119 (ci := 4) (k := 0) rfl inX4 (by decide) wF_X4_12 ga0 rg_78 rfl dX4_either_54 (fun q1128 eq1128 gq1128 => ?_)
            have uq1128 : mq = q1128 := (m1123).trans eq1128.symm
            subst uq1128
            refine lv_bipush (v := 8) hx hb dX4_either_57 (by decide) ?_
            refine lv_iconst (v := 0) hx hb dX4_either_59 (by decide) ?_
            refine x_V (As := [.int 8, .int 0]) (rest := []) C (a_X7_addStep l K G H1119 (8) (0) (x1122) hTH1119 gmq ex1122) yo_X7_addStep wM_X4_131 ⟨⟨by decide, by decide⟩, by decide, by decide⟩ (x_rv C hTH1119 (ci := 7) rfl gmq rg_69) rfl hl1091.1 rfl (Nat.le_of_ble_eq_true rfl) dX4_either_60 hSH1119 (AE_sub (fun _ _ => rfl) (by decide) hSH1119.1) (fun vH1129 H1129 locsH1129 pH1129 zH1129 kH1129 hSH1129 => ?_)
            obtain ⟨x1130, hvH1129, ex1130, hrH1129, hTH1129⟩ := pH1129
            subst hvH1129
            have m1131 := (fI_kept (x_lt hTH1119 kH1129 gkq (by decide))).trans m1125
            have m1132 := (m1123).trans (fR_kept (x_lt hTH1119 kH1129 ga0 (by decide))).symm
            have m1133 := (m1124).trans (fR_kept (x_lt hTH1119 kH1129 ga0 (by decide))).symm
            have m1134 := (ex1121).trans (fI_kept (x_lt hTH1119 kH1129 ga0 (by decide))).symm
            have bx1130 := ty_fi (x := x1130) (k := 0) ex1130 hTH1129 gmq rg_69 rfl
            refine W.eq (g2 := F0 m 63 ls1090 []) rfl ?_
            obtain ⟨x1135, ex1135⟩ : ∃ y : Int32, y = x1092 + 1 := ⟨_, rfl⟩
            have tx1135 := i_add ex1135 (by omega)
            refine lv_iinc (v := x1135) (lv' := [(2, .int x1135), (0, .ref a0), (1, .int x1)]) hx hb dX4_either_63 hl1091 (k := 2) rfl (by rw [ex1135]; rfl) (by decide) rfl (fun ls1136 hl1137 => ?_)
            refine lv_goto (tgt := 12) hx hb dX4_either_66 (by decide) ?_
            exact ih12 ls1136 H1129 locsH1129 (x1135) (x1121) (x1130) (lv_sub hl1137 [1, 2, 0] rfl) hTH1129 hSH1129 (by have := i_rng x1135; omega) (by have := i_rng x1121; omega) (by have := i_rng x1130; omega) m1134 ex1130 m1132 m1133 m1131 (by omega) (by omega)
          · have k1127 := i_eq c1126
            refine lv_iconst (v := 0) hx hb dX4_either_51 (by decide) ?_
            exact x_zret C hQ (Or.inl rfl) dX4_either_52 hSH1119 (by decide) (by decide) (⟨0, x1121, x1122, rfl, by decide, ex1121, ex1122, by omega, m1123, m1124, hTH1119⟩)
  refine lv_aload_n hx hb dX4_either_0 rfl (lv_at hl 0 rfl) ?_
  refine lv_iload_n hx hb dX4_either_1 rfl (lv_at hl 1 rfl) ?_
  refine x_V (As := [.int x1]) (rest := []) C (a_X4_both_7 l K G s.heap (x1) (F) (tat) (li) hT ga0 (by omega) gmq emq gkq ekq etat eli hel0 (by omega) (by omega)) yo_X4_both wM_X4_128 ⟨⟨by decide, by decide⟩, by decide, by decide⟩ (x_rv C hT (ci := 4) rfl ga0 rg_78) rfl hl.1 rfl (Nat.le_of_ble_eq_true rfl) dX4_either_2 hS (AE_sub (fun _ _ => rfl) (by decide) hS.1) (fun vH1138 H1138 locsH1138 pH1138 zH1138 kH1138 hSH1138 => ?_)
  obtain ⟨x1139, x1140, x1141, hvH1138, bx1139, ex1140, ex1141, hrH1138, m1142, m1143, hTH1138⟩ := pH1138
  subst hvH1138
  have m1144 := (fI_kept (x_lt hT kH1138 gkq (by decide))).trans hel0
  have bx1140 := ty_fi (x := x1140) (k := 7) ex1140 hTH1138 ga0 rg_78 rfl
  have bx1141 := ty_fi (x := x1141) (k := 0) ex1141 hTH1138 gmq rg_69 rfl
  refine W.eq (g2 := F0 m 5 ls [.int x1139]) rfl ?_
  refine lv_if_ne (tgt := 10) hx hb dX4_either_5 (by decide) (fun c1145 => ?_) (fun c1145 => ?_)
  · have k1146 := i_ne c1145
    refine lv_iconst (v := 0) hx hb dX4_either_10 (by decide) ?_
    refine lv_istore_n (lv' := [(2, .int 0), (0, .ref a0), (1, .int x1)]) hx hb dX4_either_11 rfl hl (by decide) rfl (fun ls1147 hl1148 => ?_)
    exact J12 ((500 - (0 : Int32).toInt).toNat + 1) ls1147 H1138 locsH1138 (0) (x1140) (x1141) (lv_sub hl1148 [1, 2, 0] rfl) hTH1138 hSH1138 (by decide) (by have := i_rng x1140; omega) (by have := i_rng x1141; omega) ex1140 ex1141 m1142 m1143 m1144 (by omega) (by omega)
  · have k1146 := i_eq c1145
    refine lv_iconst (v := 0) hx hb dX4_either_8 (by decide) ?_
    exact x_zret C hQ (Or.inl rfl) dX4_either_9 hSH1138 (by decide) (by decide) (⟨0, x1140, x1141, rfl, by decide, ex1140, ex1141, by omega, m1142, m1143, hTH1138⟩)

set_option maxHeartbeats 4000000 in
set_option maxRecDepth 100000 in
theorem a_X4_opened_7 (l : Launch) (K : KE) (G : Nat → Option Nat) (H : Heap) {a0 : Nat} (x1 : Int32) (x2 : Int32) {mq : Nat} {kq : Nat} (F : Int32) (tat : Int32) (li : Int32) (hT : TY K G H) (ga0 : G a0 = some 78) (hx2 : 7 ≤ x2.toInt ∧ x2.toInt ≤ 8) (gmq : G mq = some 69) (emq : mq = fR H a0 (K.1.2 4 0)) (gkq : G kq = some 79) (ekq : kq = fR H a0 (K.1.2 4 3)) (etat : tat = fI H a0 (K.1.2 4 7)) (eli : li = fI H mq (K.1.2 7 0)) (hel0 : fI H kq (F : Int32).toNatClampNeg = 26) (hp0 : tat.toInt < F.toInt) (hp1 : F.toInt ≤ 500) : MX l K yX4_opened cX4_opened 3 (some .boolean) 10 224 0 0 [.ref a0, .int x1, .int x2] H (AE G [78, 69, 77] H.size) (fun v H1 => ∃ (r : Int32) (t0 : Int32) (t1 : Int32), v = some (.int r) ∧ (0 ≤ r.toInt ∧ r.toInt ≤ 1) ∧ t0 = fI H1 a0 (K.1.2 4 7) ∧ t1 = fI H1 mq (K.1.2 7 0) ∧ (t0.toInt ≤ F.toInt ∧ t1.toInt = li.toInt) ∧ mq = fR H1 a0 (K.1.2 4 0) ∧ kq = fR H1 a0 (K.1.2 4 3) ∧ TY K G H1) := by
  refine MX.of (by decide +kernel) (Nat.le_of_ble_eq_true rfl) ?_
  intro p e s m below meth c ls Q C hH hl hQ
  subst hH
  have C : CX p K s m _ meth c RX4 cX4_opened 3 (some .boolean) "opened" := C
  obtain ⟨hx, hb, hml, hown, hts, hKT, hr, hlocks, hnm⟩ := id C
  have hl : lv_has ls 3 [(0, .ref a0), (1, .int x1), (2, .int x2)] := hl
  have hS : va_S (AE G [78, 69, 77] s.heap.size) s.heap s.heap [] := va_S.rf
  have n_0 : (0 : Int32).toInt = 0 := rfl
  have n_1 : (1 : Int32).toInt = 1 := rfl
  have n_10 : (10 : Int32).toInt = 10 := rfl
  have n_26 : (26 : Int32).toInt = 26 := rfl
  have n_41 : (41 : Int32).toInt = 41 := rfl
  have btat := ty_fi (x := tat) (k := 7) etat hT ga0 rg_78 rfl
  have bli := ty_fi (x := li) (k := 0) eli hT gmq rg_69 rfl
  refine lv_aload_n hx hb dX4_opened_0 rfl (lv_at hl 0 rfl) ?_
  refine lv_dup hx hb dX4_opened_1 rfl ?_
  refine x_gi C hT (ci := 4) (k := 7) rfl inX4 (by decide) wF_X4_42 ga0 rg_78 rfl dX4_opened_2 (fun x337 ex337 bx337 => ?_)
  have ux337 : tat = x337 := (etat).trans ex337.symm
  subst ux337
  refine lv_iconst (v := 1) hx hb dX4_opened_5 (by decide) ?_
  refine lv_iadd hx hb dX4_opened_6 ?_
  refine lv_topi (fun x338 ex338 => ?_)
  have tx338 := i_add ex338 (by omega)
  have fz340 : 0 ≤ x338.toInt ∧ x338.toInt ≤ 500 := by have := i_rng x338; omega
  refine x_put C hT hS (ci := 4) (k := 7) (v := .int x338) (ty0 := tyX4) rfl inX4 tyX4_ok nmX4 (by decide) rfl wF_X4_42 ga0 rg_78 rfl rfl (okI (by have := i_rng x338; omega) (by have := i_rng x338; omega)) rfl rfl (AE_in ga0 (by decide)) dX4_opened_7 (fun H339 locsH339 hTH339 hSH339 wH339 => ?_)
  have m341 := emq.trans (Wr.neR wH339 (Or.inr (x_apart hKT hts inX4 tyX4 tyX4_ok nmX4 rfl 0 7 (by decide) (by decide) (by decide)))).symm
  have m342 := ekq.trans (Wr.neR wH339 (Or.inr (x_apart hKT hts inX4 tyX4 tyX4_ok nmX4 rfl 3 7 (by decide) (by decide) (by decide)))).symm
  have m344 := eli.trans (Wr.neI wH339 (Or.inl (G_ne gmq ga0 (by decide)))).symm
  have m345 := (Wr.neI wH339 (Or.inl (G_ne gkq ga0 (by decide)))).trans hel0
  have m346 := Wr.I wH339
  have m346 := m346.symm
  refine lv_iload_n hx hb dX4_opened_10 rfl (lv_at hl 1 rfl) ?_
  refine lv_bipush (v := 10) hx hb dX4_opened_11 (by decide) ?_
  refine lv_icmp_ne (tgt := 38) hx hb dX4_opened_13 (by decide) (fun c347 => ?_) (fun c347 => ?_)
  · have k348 := i_ne c347
    refine lv_aload_n hx hb dX4_opened_38 rfl (lv_at hl 0 rfl) ?_
    refine lv_iload_n hx hb dX4_opened_39 rfl (lv_at hl 2 rfl) ?_
    refine x_V (As := [.int x2]) (rest := []) C (a_X4_either_7 l K G H339 (x2) (F) (x338) (li) hTH339 ga0 (by omega) gmq m341 gkq m342 m346 m344 m345 (by omega) (by omega)) yo_X4_either wM_X4_113 ⟨⟨by decide, by decide⟩, by decide, by decide⟩ (x_rv C hTH339 (ci := 4) rfl ga0 rg_78) rfl hl.1 rfl (Nat.le_of_ble_eq_true rfl) dX4_opened_40 hSH339 (AE_sub (fun _ _ => rfl) (by decide) hSH339.1) (fun vH349 H349 locsH349 pH349 zH349 kH349 hSH349 => ?_)
    obtain ⟨x350, x351, x352, hvH349, bx350, ex351, ex352, hrH349, m353, m354, hTH349⟩ := pH349
    subst hvH349
    have m355 := (fI_kept (x_lt hTH339 kH349 gkq (by decide))).trans m345
    have bx351 := ty_fi (x := x351) (k := 7) ex351 hTH349 ga0 rg_78 rfl
    have bx352 := ty_fi (x := x352) (k := 0) ex352 hTH349 gmq rg_69 rfl
    refine W.eq (g2 := F0 m 43 ls [.int x350]) rfl ?_
    refine lv_if_ne (tgt := 48) hx hb dX4_opened_43 (by decide) (fun c356 => ?_) (fun c356 => ?_)
    · have k357 := i_ne c356
      refine lv_aload_n hx hb dX4_opened_48 rfl (lv_at hl 0 rfl) ?_
      refine x_gr C hTH349 (ci := 4) (k := 3) rfl inX4 (by decide) wF_X4_18 ga0 rg_78 rfl dX4_opened_49 (fun q358 eq358 gq358 => ?_)
      have uq358 : kq = q358 := (m354).trans eq358.symm
      subst uq358
      refine lv_aload_n hx hb dX4_opened_52 rfl (lv_at hl 0 rfl) ?_
      refine x_gi C hTH349 (ci := 4) (k := 7) rfl inX4 (by decide) wF_X4_42 ga0 rg_78 rfl dX4_opened_53 (fun x359 ex359 bx359 => ?_)
      have ux359 : x351 = x359 := (ex351).trans ex359.symm
      subst ux359
      refine x_ai C hTH349 gkq rg_79 ⟨by omega, by show _ < ((501 : Nat) : Int); omega⟩ dX4_opened_56 (fun x360 ex360 bx360 => ?_)
      have dx360 := el_hit ex360 m355
      refine lv_bipush (v := 41) hx hb dX4_opened_57 (by decide) ?_
      refine lv_icmp_eq (tgt := 68) hx hb dX4_opened_59 (by decide) (fun c361 => ?_) (fun c361 => ?_)
      · have k362 := i_eq c361
        refine lv_aload_n hx hb dX4_opened_68 rfl (lv_at hl 0 rfl) ?_
        refine lv_dup hx hb dX4_opened_69 rfl ?_
        refine x_gi C hTH349 (ci := 4) (k := 7) rfl inX4 (by decide) wF_X4_42 ga0 rg_78 rfl dX4_opened_70 (fun x363 ex363 bx363 => ?_)
        have ux363 : x351 = x363 := (ex351).trans ex363.symm
        subst ux363
        refine lv_iconst (v := 1) hx hb dX4_opened_73 (by decide) ?_
        refine lv_iadd hx hb dX4_opened_74 ?_
        refine lv_topi (fun x364 ex364 => ?_)
        have tx364 := i_add ex364 (by omega)
        have fz366 : 0 ≤ x364.toInt ∧ x364.toInt ≤ 500 := by have := i_rng x364; omega
        refine x_put C hTH349 hSH349 (ci := 4) (k := 7) (v := .int x364) (ty0 := tyX4) rfl inX4 tyX4_ok nmX4 (by decide) rfl wF_X4_42 ga0 rg_78 rfl rfl (okI (by have := i_rng x364; omega) (by have := i_rng x364; omega)) rfl rfl (AE_in ga0 (by decide)) dX4_opened_75 (fun H365 locsH365 hTH365 hSH365 wH365 => ?_)
        have m367 := (Wr.neI wH365 (Or.inl (G_ne gkq ga0 (by decide)))).trans m355
        have m368 := m353.trans (Wr.neR wH365 (Or.inr (x_apart hKT hts inX4 tyX4 tyX4_ok nmX4 rfl 0 7 (by decide) (by decide) (by decide)))).symm
        have m369 := m354.trans (Wr.neR wH365 (Or.inr (x_apart hKT hts inX4 tyX4 tyX4_ok nmX4 rfl 3 7 (by decide) (by decide) (by decide)))).symm
        have m371 := ex352.trans (Wr.neI wH365 (Or.inl (G_ne gmq ga0 (by decide)))).symm
        have m372 := Wr.I wH365
        have m372 := m372.symm
        refine lv_iconst (v := 1) hx hb dX4_opened_78 (by decide) ?_
        exact x_zret C hQ (Or.inr rfl) dX4_opened_79 hSH365 (by decide) (by decide) (⟨1, x364, x352, rfl, by decide, m372, m371, by omega, m368, m369, hTH365⟩)
      · have k362 := i_ne c361
        refine lv_aload_n hx hb dX4_opened_62 rfl (lv_at hl 0 rfl) ?_
        refine lv_iconst (v := 1) hx hb dX4_opened_63 (by decide) ?_
        refine x_V (As := [.int 1]) (rest := []) C (a_X4_refuse l K G H349 (1) (x351) hTH349 ga0 gmq m353 gkq m354 ex351) yo_X4_refuse wM_X4_81 ⟨⟨by decide, by decide⟩, by decide, by decide⟩ (x_rv C hTH349 (ci := 4) rfl ga0 rg_78) rfl hl.1 rfl (Nat.le_of_ble_eq_true rfl) dX4_opened_64 hSH349 (AE_sub (fun _ _ => rfl) (by decide) hSH349.1) (fun vH373 H373 locsH373 pH373 zH373 kH373 hSH373 => ?_)
        obtain ⟨x374, x375, hvH373, bx374, ex375, hrH373, m376, m377, hTH373⟩ := pH373
        subst hvH373
        have m378 := (fI_kept (x_lt hTH349 kH373 gkq (by decide))).trans m355
        have m379 := (ex352).trans (fI_kept (x_lt hTH349 kH373 gmq (by decide))).symm
        have bx375 := ty_fi (x := x375) (k := 7) ex375 hTH373 ga0 rg_78 rfl
        refine W.eq (g2 := F0 m 67 ls [.int x374]) rfl ?_
        exact x_zret C hQ (i_01 (by omega)) dX4_opened_67 hSH373 (by decide) (by decide) (⟨x374, x375, x352, rfl, by omega, ex375, m379, by omega, m376, m377, hTH373⟩)
    · have k357 := i_eq c356
      refine lv_iconst (v := 0) hx hb dX4_opened_46 (by decide) ?_
      exact x_zret C hQ (Or.inl rfl) dX4_opened_47 hSH349 (by decide) (by decide) (⟨0, x351, x352, rfl, by decide, ex351, ex352, by omega, m353, m354, hTH349⟩)
  · have k348 := i_eq c347
    refine lv_aload_n hx hb dX4_opened_16 rfl (lv_at hl 0 rfl) ?_
    refine lv_iload_n hx hb dX4_opened_17 rfl (lv_at hl 2 rfl) ?_
    refine x_V (As := [.int x2]) (rest := []) C (a_X4_part_7 l K G H339 (x2) (F) (x338) (li) hTH339 ga0 (by omega) gmq m341 gkq m342 m346 m344 m345 (by omega) (by omega)) yo_X4_part wM_X4_135 ⟨⟨by decide, by decide⟩, by decide, by decide⟩ (x_rv C hTH339 (ci := 4) rfl ga0 rg_78) rfl hl.1 rfl (Nat.le_of_ble_eq_true rfl) dX4_opened_18 hSH339 (AE_sub (fun _ _ => rfl) (by decide) hSH339.1) (fun vH380 H380 locsH380 pH380 zH380 kH380 hSH380 => ?_)
    obtain ⟨x381, x382, x383, hvH380, bx381, ex382, ex383, hrH380, m384, m385, hTH380⟩ := pH380
    subst hvH380
    have m386 := (fI_kept (x_lt hTH339 kH380 gkq (by decide))).trans m345
    have bx382 := ty_fi (x := x382) (k := 7) ex382 hTH380 ga0 rg_78 rfl
    have bx383 := ty_fi (x := x383) (k := 0) ex383 hTH380 gmq rg_69 rfl
    refine W.eq (g2 := F0 m 21 ls [.int x381]) rfl ?_
    refine lv_if_ne (tgt := 26) hx hb dX4_opened_21 (by decide) (fun c387 => ?_) (fun c387 => ?_)
    · have k388 := i_ne c387
      refine lv_aload_n hx hb dX4_opened_26 rfl (lv_at hl 0 rfl) ?_
      refine x_gr C hTH380 (ci := 4) (k := 0) rfl inX4 (by decide) wF_X4_12 ga0 rg_78 rfl dX4_opened_27 (fun q389 eq389 gq389 => ?_)
      have uq389 : mq = q389 := (m384).trans eq389.symm
      subst uq389
      refine lv_bipush (v := 10) hx hb dX4_opened_30 (by decide) ?_
      refine lv_iconst (v := 0) hx hb dX4_opened_32 (by decide) ?_
      refine x_V (As := [.int 10, .int 0]) (rest := []) C (a_X7_addStep l K G H380 (10) (0) (x383) hTH380 gmq ex383) yo_X7_addStep wM_X4_131 ⟨⟨by decide, by decide⟩, by decide, by decide⟩ (x_rv C hTH380 (ci := 7) rfl gmq rg_69) rfl hl.1 rfl (Nat.le_of_ble_eq_true rfl) dX4_opened_33 hSH380 (AE_sub (fun _ _ => rfl) (by decide) hSH380.1) (fun vH390 H390 locsH390 pH390 zH390 kH390 hSH390 => ?_)
      obtain ⟨x391, hvH390, ex391, hrH390, hTH390⟩ := pH390
      subst hvH390
      have m392 := (fI_kept (x_lt hTH380 kH390 gkq (by decide))).trans m386
      have m393 := (m384).trans (fR_kept (x_lt hTH380 kH390 ga0 (by decide))).symm
      have m394 := (m385).trans (fR_kept (x_lt hTH380 kH390 ga0 (by decide))).symm
      have m395 := (ex382).trans (fI_kept (x_lt hTH380 kH390 ga0 (by decide))).symm
      have bx391 := ty_fi (x := x391) (k := 0) ex391 hTH390 gmq rg_69 rfl
      refine W.eq (g2 := F0 m 36 ls []) rfl ?_
      refine lv_iconst (v := 1) hx hb dX4_opened_36 (by decide) ?_
      exact x_zret C hQ (Or.inr rfl) dX4_opened_37 hSH390 (by decide) (by decide) (⟨1, x382, x391, rfl, by decide, m395, ex391, by omega, m393, m394, hTH390⟩)
    · have k388 := i_eq c387
      refine lv_iconst (v := 0) hx hb dX4_opened_24 (by decide) ?_
      exact x_zret C hQ (Or.inl rfl) dX4_opened_25 hSH380 (by decide) (by decide) (⟨0, x382, x383, rfl, by decide, ex382, ex383, by omega, m384, m385, hTH380⟩)

set_option maxHeartbeats 4000000 in
set_option maxRecDepth 100000 in
theorem a_X4_part_6 (l : Launch) (K : KE) (G : Nat → Option Nat) (H : Heap) {a0 : Nat} (x1 : Int32) {mq : Nat} {kq : Nat} (F : Int32) (tat : Int32) (li : Int32) (hT : TY K G H) (ga0 : G a0 = some 78) (hx1 : 6 ≤ x1.toInt ∧ x1.toInt ≤ 8) (gmq : G mq = some 69) (emq : mq = fR H a0 (K.1.2 4 0)) (gkq : G kq = some 79) (ekq : kq = fR H a0 (K.1.2 4 3)) (etat : tat = fI H a0 (K.1.2 4 7)) (eli : li = fI H mq (K.1.2 7 0)) (hel0 : fI H kq (F : Int32).toNatClampNeg = 26) (hp0 : tat.toInt ≤ F.toInt) (hp1 : F.toInt ≤ 500) : MX l K yX4_part cX4_part 4 (some .boolean) 11 246 0 0 [.ref a0, .int x1] H (AE G [78, 69, 77] H.size) (fun v H1 => ∃ (r : Int32) (t0 : Int32) (t1 : Int32), v = some (.int r) ∧ (0 ≤ r.toInt ∧ r.toInt ≤ 1) ∧ t0 = fI H1 a0 (K.1.2 4 7) ∧ t1 = fI H1 mq (K.1.2 7 0) ∧ (t0.toInt ≤ F.toInt ∧ t1.toInt = li.toInt) ∧ mq = fR H1 a0 (K.1.2 4 0) ∧ kq = fR H1 a0 (K.1.2 4 3) ∧ TY K G H1) := by
  refine MX.of (by decide +kernel) (Nat.le_of_ble_eq_true rfl) ?_
  intro p e s m below meth c ls Q C hH hl hQ
  subst hH
  have C : CX p K s m _ meth c RX4 cX4_part 4 (some .boolean) "part" := C
  obtain ⟨hx, hb, hml, hown, hts, hKT, hr, hlocks, hnm⟩ := id C
  have hl : lv_has ls 4 [(0, .ref a0), (1, .int x1)] := hl
  have hS : va_S (AE G [78, 69, 77] s.heap.size) s.heap s.heap [] := va_S.rf
  have n_0 : (0 : Int32).toInt = 0 := rfl
  have n_1 : (1 : Int32).toInt = 1 := rfl
  have n_3 : (3 : Int32).toInt = 3 := rfl
  have n_8 : (8 : Int32).toInt = 8 := rfl
  have n_10 : (10 : Int32).toInt = 10 := rfl
  have n_26 : (26 : Int32).toInt = 26 := rfl
  have n_40 : (40 : Int32).toInt = 40 := rfl
  have n_60 : (60 : Int32).toInt = 60 := rfl
  have n_61 : (61 : Int32).toInt = 61 := rfl
  have n_62 : (62 : Int32).toInt = 62 := rfl
  have btat := ty_fi (x := tat) (k := 7) etat hT ga0 rg_78 rfl
  have bli := ty_fi (x := li) (k := 0) eli hT gmq rg_69 rfl
  have J22 : ∀ (ls535 : Array Slot) (H534 : Heap) (locsH534 : List Loc) (x537 : Int32) (x538 : Int32) (x539 : Int32), lv_has ls535 4 [(0, .ref a0), (1, .int x1), (2, .int x537)] → TY K G H534 → va_S (AE G [78, 69, 77] s.heap.size) s.heap H534 locsH534 → (10 ≤ x537.toInt ∧ x537.toInt ≤ 40) → (0 ≤ x538.toInt ∧ x538.toInt ≤ 500) → (0 ≤ x539.toInt ∧ x539.toInt ≤ 16) → (x538 = fI H534 a0 (K.1.2 4 7)) → (x539 = fI H534 mq (K.1.2 7 0)) → (mq = fR H534 a0 (K.1.2 4 0)) → (kq = fR H534 a0 (K.1.2 4 3)) → (fI H534 kq (F : Int32).toNatClampNeg = 26) → (x538.toInt < F.toInt ∧ x538.toInt ≤ F.toInt ∧ x539.toInt = li.toInt) → W p l e ({ frames := 11, cells := 0, slots := 0, locals := 246 } : Room) s m (([.ref a0, .int x1] : List Value).toArray) below meth c H534 locsH534 0 0 Q (F0 m 22 ls535 []) := by
    intro ls535 H534 locsH534 x537 x538 x539 hl536 hTH534 hSH534 bx537 bx538 bx539 ex538 ex539 cy540_0 cy540_1 cy540_2 iv22
    have J44 : ∀ (ls542 : Array Slot) (H541 : Heap) (locsH541 : List Loc) (x544 : Int32) (x545 : Int32) (x546 : Int32), lv_has ls542 4 [] → TY K G H541 → va_S (AE G [78, 69, 77] s.heap.size) s.heap H541 locsH541 → (0 ≤ x544.toInt ∧ x544.toInt ≤ 1) → (0 ≤ x545.toInt ∧ x545.toInt ≤ 500) → (0 ≤ x546.toInt ∧ x546.toInt ≤ 16) → (x545 = fI H541 a0 (K.1.2 4 7)) → (x546 = fI H541 mq (K.1.2 7 0)) → (mq = fR H541 a0 (K.1.2 4 0)) → (kq = fR H541 a0 (K.1.2 4 3)) → (fI H541 kq (F : Int32).toNatClampNeg = 26) → (x545.toInt ≤ F.toInt ∧ x546.toInt = li.toInt) → W p l e ({ frames := 11, cells := 0, slots := 0, locals := 246 } : Room) s m (([.ref a0, .int x1] : List Value).toArray) below meth c H541 locsH541 0 0 Q (F0 m 44 ls542 [.int x544]) := by
      intro ls542 H541 locsH541 x544 x545 x546 hl543 hTH541 hSH541 bx544 bx545 bx546 ex545 ex546 cy547_0 cy547_1 cy547_2 iv44
      exact x_zret C hQ (i_01 (by omega)) dX4_part_44 hSH541 (by decide) (by decide) (⟨x544, x545, x546, rfl, by omega, ex545, ex546, by omega, cy547_0, cy547_1, hTH541⟩)
    refine lv_iload_n hx hb dX4_part_22 rfl (lv_at hl536 1 rfl) ?_
    refine lv_bipush (v := 8) hx hb dX4_part_23 (by decide) ?_
    refine lv_icmp_ge (tgt := 39) hx hb dX4_part_25 (by decide) (fun c548 => ?_) (fun c548 => ?_)
    · have k549 := i_le c548
      refine lv_aload_n hx hb dX4_part_39 rfl (lv_at hl536 0 rfl) ?_
      refine lv_iconst (v := 3) hx hb dX4_part_40 (by decide) ?_
      refine x_V (As := [.int 3]) (rest := []) C (a_X4_refuse l K G H534 (3) (x538) hTH534 ga0 gmq cy540_0 gkq cy540_1 ex538) yo_X4_refuse wM_X4_81 ⟨⟨by decide, by decide⟩, by decide, by decide⟩ (x_rv C hTH534 (ci := 4) rfl ga0 rg_78) rfl hl536.1 rfl (Nat.le_of_ble_eq_true rfl) dX4_part_41 hSH534 (AE_sub (fun _ _ => rfl) (by decide) hSH534.1) (fun vH550 H550 locsH550 pH550 zH550 kH550 hSH550 => ?_)
      obtain ⟨x551, x552, hvH550, bx551, ex552, hrH550, m553, m554, hTH550⟩ := pH550
      subst hvH550
      have m555 := (ex539).trans (fI_kept (x_lt hTH534 kH550 gmq (by decide))).symm
      have m556 := (fI_kept (x_lt hTH534 kH550 gkq (by decide))).trans cy540_2
      have bx552 := ty_fi (x := x552) (k := 7) ex552 hTH550 ga0 rg_78 rfl
      refine W.eq (g2 := F0 m 44 ls535 [.int x551]) rfl ?_
      exact J44 ls535 H550 locsH550 (x551) (x552) (x539) (lv_sub hl536 [] rfl) hTH550 hSH550 (by have := i_rng x551; omega) (by have := i_rng x552; omega) (by have := i_rng x539; omega) ex552 m555 m553 m554 m556 (by omega)
    · have k549 := i_nle c548
      refine lv_aload_n hx hb dX4_part_28 rfl (lv_at hl536 0 rfl) ?_
      refine lv_iload_n hx hb dX4_part_29 rfl (lv_at hl536 2 rfl) ?_
      refine lv_iload_n hx hb dX4_part_30 rfl (lv_at hl536 1 rfl) ?_
      refine lv_iconst (v := 1) hx hb dX4_part_31 (by decide) ?_
      refine lv_iadd hx hb dX4_part_32 ?_
      refine lv_topi (fun x557 ex557 => ?_)
      have tx557 := i_add ex557 (by omega)
      refine x_V (As := [.int x537, .int x557]) (rest := []) C (a_X4_opened_7 l K G H534 (x537) (x557) (F) (x538) (x539) hTH534 ga0 (by omega) gmq cy540_0 gkq cy540_1 ex538 ex539 cy540_2 (by omega) (by omega)) yo_X4_opened wM_X4_138 ⟨⟨by decide, by decide⟩, by decide, by decide⟩ (x_rv C hTH534 (ci := 4) rfl ga0 rg_78) rfl hl536.1 rfl (Nat.le_of_ble_eq_true rfl) dX4_part_33 hSH534 (AE_sub (fun _ _ => rfl) (by decide) hSH534.1) (fun vH558 H558 locsH558 pH558 zH558 kH558 hSH558 => ?_)
      obtain ⟨x559, x560, x561, hvH558, bx559, ex560, ex561, hrH558, m562, m563, hTH558⟩ := pH558
      subst hvH558
      have m564 := (fI_kept (x_lt hTH534 kH558 gkq (by decide))).trans cy540_2
      have bx560 := ty_fi (x := x560) (k := 7) ex560 hTH558 ga0 rg_78 rfl
      have bx561 := ty_fi (x := x561) (k := 0) ex561 hTH558 gmq rg_69 rfl
      refine W.eq (g2 := F0 m 36 ls535 [.int x559]) rfl ?_
      refine lv_goto (tgt := 44) hx hb dX4_part_36 (by decide) ?_
      exact J44 ls535 H558 locsH558 (x559) (x560) (x561) (lv_sub hl536 [] rfl) hTH558 hSH558 (by have := i_rng x559; omega) (by have := i_rng x560; omega) (by have := i_rng x561; omega) ex560 ex561 m562 m563 m564 (by omega)
  have J88 : ∀ (ls566 : Array Slot) (H565 : Heap) (locsH565 : List Loc) (x568 : Int32) (x569 : Int32) (x570 : Int32), lv_has ls566 4 [(0, .ref a0), (3, .int x568)] → TY K G H565 → va_S (AE G [78, 69, 77] s.heap.size) s.heap H565 locsH565 → (60 ≤ x568.toInt ∧ x568.toInt ≤ 62) → (0 ≤ x569.toInt ∧ x569.toInt ≤ 500) → (0 ≤ x570.toInt ∧ x570.toInt ≤ 16) → (x569 = fI H565 a0 (K.1.2 4 7)) → (x570 = fI H565 mq (K.1.2 7 0)) → (mq = fR H565 a0 (K.1.2 4 0)) → (kq = fR H565 a0 (K.1.2 4 3)) → (fI H565 kq (F : Int32).toNatClampNeg = 26) → (x569.toInt < F.toInt ∧ x569.toInt ≤ F.toInt ∧ x570.toInt = li.toInt) → W p l e ({ frames := 11, cells := 0, slots := 0, locals := 246 } : Room) s m (([.ref a0, .int x1] : List Value).toArray) below meth c H565 locsH565 0 0 Q (F0 m 88 ls566 []) := by
    intro ls566 H565 locsH565 x568 x569 x570 hl567 hTH565 hSH565 bx568 bx569 bx570 ex569 ex570 cy571_0 cy571_1 cy571_2 iv88
    refine lv_aload_n hx hb dX4_part_88 rfl (lv_at hl567 0 rfl) ?_
    refine lv_dup hx hb dX4_part_89 rfl ?_
    refine x_gi C hTH565 (ci := 4) (k := 7) rfl inX4 (by decide) wF_X4_42 ga0 rg_78 rfl dX4_part_90 (fun x572 ex572 bx572 => ?_)
    have ux572 : x569 = x572 := (ex569).trans ex572.symm
    subst ux572
    refine lv_iconst (v := 1) hx hb dX4_part_93 (by decide) ?_
    refine lv_iadd hx hb dX4_part_94 ?_
    refine lv_topi (fun x573 ex573 => ?_)
    have tx573 := i_add ex573 (by omega)
    have fz575 : 0 ≤ x573.toInt ∧ x573.toInt ≤ 500 := by have := i_rng x573; omega
    refine x_put C hTH565 hSH565 (ci := 4) (k := 7) (v := .int x573) (ty0 := tyX4) rfl inX4 tyX4_ok nmX4 (by decide) rfl wF_X4_42 ga0 rg_78 rfl rfl (okI (by have := i_rng x573; omega) (by have := i_rng x573; omega)) rfl rfl (AE_in ga0 (by decide)) dX4_part_95 (fun H574 locsH574 hTH574 hSH574 wH574 => ?_)
    have m577 := ex570.trans (Wr.neI wH574 (Or.inl (G_ne gmq ga0 (by decide)))).symm
    have m578 := cy571_0.trans (Wr.neR wH574 (Or.inr (x_apart hKT hts inX4 tyX4 tyX4_ok nmX4 rfl 0 7 (by decide) (by decide) (by decide)))).symm
    have m579 := cy571_1.trans (Wr.neR wH574 (Or.inr (x_apart hKT hts inX4 tyX4 tyX4_ok nmX4 rfl 3 7 (by decide) (by decide) (by decide)))).symm
    have m580 := (Wr.neI wH574 (Or.inl (G_ne gkq ga0 (by decide)))).trans cy571_2
    have m581 := Wr.I wH574
    have m581 := m581.symm
    refine lv_aload_n hx hb dX4_part_98 rfl (lv_at hl567 0 rfl) ?_
    refine x_V (As := []) (rest := []) C (a_X4_sum l K G H574 (F) (x573) (x570) hTH574 ga0 gmq m578 gkq m579 m581 m577 m580 (by omega) (by omega)) yo_X4_sum wM_X4_103 ⟨⟨by decide, by decide⟩, by decide, by decide⟩ (x_rv C hTH574 (ci := 4) rfl ga0 rg_78) rfl hl567.1 rfl (Nat.le_of_ble_eq_true rfl) dX4_part_99 hSH574 (AE_sub (fun _ _ => rfl) (by decide) hSH574.1) (fun vH582 H582 locsH582 pH582 zH582 kH582 hSH582 => ?_)
    obtain ⟨x583, x584, x585, hvH582, bx583, ex584, ex585, hrH582, m586, m587, hTH582⟩ := pH582
    subst hvH582
    have m588 := (fI_kept (x_lt hTH574 kH582 gkq (by decide))).trans m580
    have bx584 := ty_fi (x := x584) (k := 7) ex584 hTH582 ga0 rg_78 rfl
    have bx585 := ty_fi (x := x585) (k := 0) ex585 hTH582 gmq rg_69 rfl
    refine W.eq (g2 := F0 m 102 ls566 [.int x583]) rfl ?_
    refine lv_if_ne (tgt := 107) hx hb dX4_part_102 (by decide) (fun c589 => ?_) (fun c589 => ?_)
    · have k590 := i_ne c589
      refine lv_aload_n hx hb dX4_part_107 rfl (lv_at hl567 0 rfl) ?_
      refine x_gr C hTH582 (ci := 4) (k := 0) rfl inX4 (by decide) wF_X4_12 ga0 rg_78 rfl dX4_part_108 (fun q591 eq591 gq591 => ?_)
      have uq591 : mq = q591 := (m586).trans eq591.symm
      subst uq591
      refine lv_iload_n hx hb dX4_part_111 rfl (lv_at hl567 1 rfl) ?_
      refine lv_iconst (v := 0) hx hb dX4_part_112 (by decide) ?_
      refine x_V (As := [.int x568, .int 0]) (rest := []) C (a_X7_addStep l K G H582 (x568) (0) (x585) hTH582 gmq ex585) yo_X7_addStep wM_X4_131 ⟨⟨by decide, by decide⟩, by decide, by decide⟩ (x_rv C hTH582 (ci := 7) rfl gmq rg_69) rfl hl567.1 rfl (Nat.le_of_ble_eq_true rfl) dX4_part_113 hSH582 (AE_sub (fun _ _ => rfl) (by decide) hSH582.1) (fun vH592 H592 locsH592 pH592 zH592 kH592 hSH592 => ?_)
      obtain ⟨x593, hvH592, ex593, hrH592, hTH592⟩ := pH592
      subst hvH592
      have m594 := (fI_kept (x_lt hTH582 kH592 gkq (by decide))).trans m588
      have m595 := (m586).trans (fR_kept (x_lt hTH582 kH592 ga0 (by decide))).symm
      have m596 := (m587).trans (fR_kept (x_lt hTH582 kH592 ga0 (by decide))).symm
      have m597 := (ex584).trans (fI_kept (x_lt hTH582 kH592 ga0 (by decide))).symm
      have bx593 := ty_fi (x := x593) (k := 0) ex593 hTH592 gmq rg_69 rfl
      refine W.eq (g2 := F0 m 116 ls566 []) rfl ?_
      refine lv_iconst (v := 1) hx hb dX4_part_116 (by decide) ?_
      exact x_zret C hQ (Or.inr rfl) dX4_part_117 hSH592 (by decide) (by decide) (⟨1, x584, x593, rfl, by decide, m597, ex593, by omega, m595, m596, hTH592⟩)
    · have k590 := i_eq c589
      refine lv_iconst (v := 0) hx hb dX4_part_105 (by decide) ?_
      exact x_zret C hQ (Or.inl rfl) dX4_part_106 hSH582 (by decide) (by decide) (⟨0, x584, x585, rfl, by decide, ex584, ex585, by omega, m586, m587, hTH582⟩)
  refine lv_aload_n hx hb dX4_part_0 rfl (lv_at hl 0 rfl) ?_
  refine x_gr C hT (ci := 4) (k := 3) rfl inX4 (by decide) wF_X4_18 ga0 rg_78 rfl dX4_part_1 (fun q598 eq598 gq598 => ?_)
  have uq598 : kq = q598 := (ekq).trans eq598.symm
  subst uq598
  refine lv_aload_n hx hb dX4_part_4 rfl (lv_at hl 0 rfl) ?_
  refine x_gi C hT (ci := 4) (k := 7) rfl inX4 (by decide) wF_X4_42 ga0 rg_78 rfl dX4_part_5 (fun x599 ex599 bx599 => ?_)
  have ux599 : tat = x599 := (etat).trans ex599.symm
  subst ux599
  refine x_ai C hT gkq rg_79 ⟨by omega, by show _ < ((501 : Nat) : Int); omega⟩ dX4_part_8 (fun x600 ex600 bx600 => ?_)
  have dx600 := el_hit ex600 hel0
  refine lv_istore_n (lv' := [(2, .int x600), (0, .ref a0), (1, .int x1)]) hx hb dX4_part_9 rfl hl (by decide) rfl (fun ls601 hl602 => ?_)
  refine lv_iload_n hx hb dX4_part_10 rfl (lv_at hl602 0 rfl) ?_
  refine lv_bipush (v := 10) hx hb dX4_part_11 (by decide) ?_
  refine lv_icmp_eq (tgt := 22) hx hb dX4_part_13 (by decide) (fun c603 => ?_) (fun c603 => ?_)
  · have k604 := i_eq c603
    exact J22 ls601 s.heap [] (x600) (tat) (li) (lv_sub hl602 [1, 2, 0] rfl) hT hS (by have := i_rng x600; omega) (by have := i_rng tat; omega) (by have := i_rng li; omega) etat eli emq ekq hel0 (by omega)
  · have k604 := i_ne c603
    refine lv_iload_n hx hb dX4_part_16 rfl (lv_at hl602 0 rfl) ?_
    refine lv_bipush (v := 40) hx hb dX4_part_17 (by decide) ?_
    refine lv_icmp_ne (tgt := 45) hx hb dX4_part_19 (by decide) (fun c605 => ?_) (fun c605 => ?_)
    · have k606 := i_ne c605
      refine lv_aload_n hx hb dX4_part_45 rfl (lv_at hl602 1 rfl) ?_
      refine x_V (As := []) (rest := []) C (a_X4_sum l K G s.heap (F) (tat) (li) hT ga0 gmq emq gkq ekq etat eli hel0 (by omega) (by omega)) yo_X4_sum wM_X4_103 ⟨⟨by decide, by decide⟩, by decide, by decide⟩ (x_rv C hT (ci := 4) rfl ga0 rg_78) rfl hl602.1 rfl (Nat.le_of_ble_eq_true rfl) dX4_part_46 hS (AE_sub (fun _ _ => rfl) (by decide) hS.1) (fun vH607 H607 locsH607 pH607 zH607 kH607 hSH607 => ?_)
      obtain ⟨x608, x609, x610, hvH607, bx608, ex609, ex610, hrH607, m611, m612, hTH607⟩ := pH607
      subst hvH607
      have m613 := (fI_kept (x_lt hT kH607 gkq (by decide))).trans hel0
      have bx609 := ty_fi (x := x609) (k := 7) ex609 hTH607 ga0 rg_78 rfl
      have bx610 := ty_fi (x := x610) (k := 0) ex610 hTH607 gmq rg_69 rfl
      refine W.eq (g2 := F0 m 49 ls601 [.int x608]) rfl ?_
      refine lv_if_ne (tgt := 54) hx hb dX4_part_49 (by decide) (fun c614 => ?_) (fun c614 => ?_)
      · have k615 := i_ne c614
        refine lv_aload_n hx hb dX4_part_54 rfl (lv_at hl602 1 rfl) ?_
        refine x_gr C hTH607 (ci := 4) (k := 3) rfl inX4 (by decide) wF_X4_18 ga0 rg_78 rfl dX4_part_55 (fun q616 eq616 gq616 => ?_)
        have uq616 : kq = q616 := (m612).trans eq616.symm
        subst uq616
        refine lv_aload_n hx hb dX4_part_58 rfl (lv_at hl602 1 rfl) ?_
        refine x_gi C hTH607 (ci := 4) (k := 7) rfl inX4 (by decide) wF_X4_42 ga0 rg_78 rfl dX4_part_59 (fun x617 ex617 bx617 => ?_)
        have ux617 : x609 = x617 := (ex609).trans ex617.symm
        subst ux617
        refine x_ai C hTH607 gkq rg_79 ⟨by omega, by show _ < ((501 : Nat) : Int); omega⟩ dX4_part_62 (fun x618 ex618 bx618 => ?_)
        have dx618 := el_hit ex618 m613
        refine lv_istore_n (lv' := [(3, .int x618), (2, .int x600), (0, .ref a0), (1, .int x1)]) hx hb dX4_part_63 rfl hl602 (by decide) rfl (fun ls619 hl620 => ?_)
        refine lv_iload_n hx hb dX4_part_64 rfl (lv_at hl620 0 rfl) ?_
        refine lv_bipush (v := 60) hx hb dX4_part_65 (by decide) ?_
        refine lv_icmp_eq (tgt := 88) hx hb dX4_part_67 (by decide) (fun c621 => ?_) (fun c621 => ?_)
        · have k622 := i_eq c621
          exact J88 ls619 H607 locsH607 (x618) (x609) (x610) (lv_sub hl620 [2, 0] rfl) hTH607 hSH607 (by have := i_rng x618; omega) (by have := i_rng x609; omega) (by have := i_rng x610; omega) ex609 ex610 m611 m612 m613 (by omega)
        · have k622 := i_ne c621
          refine lv_iload_n hx hb dX4_part_70 rfl (lv_at hl620 0 rfl) ?_
          refine lv_bipush (v := 61) hx hb dX4_part_71 (by decide) ?_
          refine lv_icmp_eq (tgt := 88) hx hb dX4_part_73 (by decide) (fun c623 => ?_) (fun c623 => ?_)
          · have k624 := i_eq c623
            exact J88 ls619 H607 locsH607 (x618) (x609) (x610) (lv_sub hl620 [2, 0] rfl) hTH607 hSH607 (by have := i_rng x618; omega) (by have := i_rng x609; omega) (by have := i_rng x610; omega) ex609 ex610 m611 m612 m613 (by omega)
          · have k624 := i_ne c623
            refine lv_iload_n hx hb dX4_part_76 rfl (lv_at hl620 0 rfl) ?_
            refine lv_bipush (v := 62) hx hb dX4_part_77 (by decide) ?_
            refine lv_icmp_eq (tgt := 88) hx hb dX4_part_79 (by decide) (fun c625 => ?_) (fun c625 => ?_)
            · have k626 := i_eq c625
              exact J88 ls619 H607 locsH607 (x618) (x609) (x610) (lv_sub hl620 [2, 0] rfl) hTH607 hSH607 (by have := i_rng x618; omega) (by have := i_rng x609; omega) (by have := i_rng x610; omega) ex609 ex610 m611 m612 m613 (by omega)
            · have k626 := i_ne c625
              refine lv_aload_n hx hb dX4_part_82 rfl (lv_at hl620 2 rfl) ?_
              refine lv_iconst (v := 1) hx hb dX4_part_83 (by decide) ?_
              refine x_V (As := [.int 1]) (rest := []) C (a_X4_refuse l K G H607 (1) (x609) hTH607 ga0 gmq m611 gkq m612 ex609) yo_X4_refuse wM_X4_81 ⟨⟨by decide, by decide⟩, by decide, by decide⟩ (x_rv C hTH607 (ci := 4) rfl ga0 rg_78) rfl hl620.1 rfl (Nat.le_of_ble_eq_true rfl) dX4_part_84 hSH607 (AE_sub (fun _ _ => rfl) (by decide) hSH607.1) (fun vH627 H627 locsH627 pH627 zH627 kH627 hSH627 => ?_)
              obtain ⟨x628, x629, hvH627, bx628, ex629, hrH627, m630, m631, hTH627⟩ := pH627
              subst hvH627
              have m632 := (fI_kept (x_lt hTH607 kH627 gkq (by decide))).trans m613
              have m633 := (ex610).trans (fI_kept (x_lt hTH607 kH627 gmq (by decide))).symm
              have bx629 := ty_fi (x := x629) (k := 7) ex629 hTH627 ga0 rg_78 rfl
              refine W.eq (g2 := F0 m 87 ls619 [.int x628]) rfl ?_
              exact x_zret C hQ (i_01 (by omega)) dX4_part_87 hSH627 (by decide) (by decide) (⟨x628, x629, x610, rfl, by omega, ex629, m633, by omega, m630, m631, hTH627⟩)
      · have k615 := i_eq c614
        refine lv_iconst (v := 0) hx hb dX4_part_52 (by decide) ?_
        exact x_zret C hQ (Or.inl rfl) dX4_part_53 hSH607 (by decide) (by decide) (⟨0, x609, x610, rfl, by decide, ex609, ex610, by omega, m611, m612, hTH607⟩)
    · have k606 := i_eq c605
      exact J22 ls601 s.heap [] (x600) (tat) (li) (lv_sub hl602 [1, 2, 0] rfl) hT hS (by have := i_rng x600; omega) (by have := i_rng tat; omega) (by have := i_rng li; omega) etat eli emq ekq hel0 (by omega)

set_option maxHeartbeats 4000000 in
set_option maxRecDepth 100000 in
theorem a_X4_both_6 (l : Launch) (K : KE) (G : Nat → Option Nat) (H : Heap) {a0 : Nat} (x1 : Int32) {mq : Nat} {kq : Nat} (F : Int32) (tat : Int32) (li : Int32) (hT : TY K G H) (ga0 : G a0 = some 78) (hx1 : 6 ≤ x1.toInt ∧ x1.toInt ≤ 8) (gmq : G mq = some 69) (emq : mq = fR H a0 (K.1.2 4 0)) (gkq : G kq = some 79) (ekq : kq = fR H a0 (K.1.2 4 3)) (etat : tat = fI H a0 (K.1.2 4 7)) (eli : li = fI H mq (K.1.2 7 0)) (hel0 : fI H kq (F : Int32).toNatClampNeg = 26) (hp0 : tat.toInt ≤ F.toInt) (hp1 : F.toInt ≤ 500) : MX l K yX4_both cX4_both 3 (some .boolean) 12 269 0 0 [.ref a0, .int x1] H (AE G [78, 69, 77] H.size) (fun v H1 => ∃ (r : Int32) (t0 : Int32) (t1 : Int32), v = some (.int r) ∧ (0 ≤ r.toInt ∧ r.toInt ≤ 1) ∧ t0 = fI H1 a0 (K.1.2 4 7) ∧ t1 = fI H1 mq (K.1.2 7 0) ∧ (t0.toInt ≤ F.toInt ∧ t1.toInt = li.toInt) ∧ mq = fR H1 a0 (K.1.2 4 0) ∧ kq = fR H1 a0 (K.1.2 4 3) ∧ TY K G H1) := by
  refine MX.of (by decide +kernel) (Nat.le_of_ble_eq_true rfl) ?_
  intro p e s m below meth c ls Q C hH hl hQ
  subst hH
  have C : CX p K s m _ meth c RX4 cX4_both 3 (some .boolean) "both" := C
  obtain ⟨hx, hb, hml, hown, hts, hKT, hr, hlocks, hnm⟩ := id C
  have hl : lv_has ls 3 [(0, .ref a0), (1, .int x1)] := hl
  have hS : va_S (AE G [78, 69, 77] s.heap.size) s.heap s.heap [] := va_S.rf
  have n_0 : (0 : Int32).toInt = 0 := rfl
  have n_1 : (1 : Int32).toInt = 1 := rfl
  have n_9 : (9 : Int32).toInt = 9 := rfl
  have n_26 : (26 : Int32).toInt = 26 := rfl
  have n_500 : (500 : Int32).toInt = 500 := rfl
  have btat := ty_fi (x := tat) (k := 7) etat hT ga0 rg_78 rfl
  have bli := ty_fi (x := li) (k := 0) eli hT gmq rg_69 rfl
  have J12 : ∀ (nf : Nat) (ls1129 : Array Slot) (H1128 : Heap) (locsH1128 : List Loc) (x1131 : Int32) (x1132 : Int32) (x1133 : Int32), lv_has ls1129 3 [(0, .ref a0), (1, .int x1), (2, .int x1131)] → TY K G H1128 → va_S (AE G [78, 69, 77] s.heap.size) s.heap H1128 locsH1128 → (0 ≤ x1131.toInt ∧ x1131.toInt ≤ 500) → (0 ≤ x1132.toInt ∧ x1132.toInt ≤ 500) → (0 ≤ x1133.toInt ∧ x1133.toInt ≤ 16) → (x1132 = fI H1128 a0 (K.1.2 4 7)) → (x1133 = fI H1128 mq (K.1.2 7 0)) → (mq = fR H1128 a0 (K.1.2 4 0)) → (kq = fR H1128 a0 (K.1.2 4 3)) → (fI H1128 kq (F : Int32).toNatClampNeg = 26) → (500 - x1131.toInt < (nf : Int)) → (x1132.toInt ≤ F.toInt ∧ x1133.toInt = li.toInt) → W p l e ({ frames := 12, cells := 0, slots := 0, locals := 269 } : Room) s m (([.ref a0, .int x1] : List Value).toArray) below meth c H1128 locsH1128 0 0 Q (F0 m 12 ls1129 []) := by
    intro nf
    induction nf with
    | zero =>
      intro ls1129 H1128 locsH1128 x1131 x1132 x1133 hl1130 hTH1128 hSH1128 bx1131 bx1132 bx1133 ex1132 ex1133 cy1134_0 cy1134_1 cy1134_2 hm12 iv12
      exfalso
      omega
    | succ nf ih12 =>
      intro ls1129 H1128 locsH1128 x1131 x1132 x1133 hl1130 hTH1128 hSH1128 bx1131 bx1132 bx1133 ex1132 ex1133 cy1134_0 cy1134_1 cy1134_2 hm12 iv12
      have J69 : ∀ (ls1136 : Array Slot) (H1135 : Heap) (locsH1135 : List Loc) (x1138 : Int32) (x1139 : Int32), lv_has ls1136 3 [] → TY K G H1135 → va_S (AE G [78, 69, 77] s.heap.size) s.heap H1135 locsH1135 → (0 ≤ x1138.toInt ∧ x1138.toInt ≤ 500) → (0 ≤ x1139.toInt ∧ x1139.toInt ≤ 16) → (x1138 = fI H1135 a0 (K.1.2 4 7)) → (x1139 = fI H1135 mq (K.1.2 7 0)) → (mq = fR H1135 a0 (K.1.2 4 0)) → (kq = fR H1135 a0 (K.1.2 4 3)) → (fI H1135 kq (F : Int32).toNatClampNeg = 26) → (x1138.toInt ≤ F.toInt ∧ x1139.toInt = li.toInt) → W p l e ({ frames := 12, cells := 0, slots := 0, locals := 269 } : Room) s m (([.ref a0, .int x1] : List Value).toArray) below meth c H1135 locsH1135 0 0 Q (F0 m 69 ls1136 []) := by
        intro ls1136 H1135 locsH1135 x1138 x1139 hl1137 hTH1135 hSH1135 bx1138 bx1139 ex1138 ex1139 cy1140_0 cy1140_1 cy1140_2 iv69
        refine lv_iconst (v := 1) hx hb dX4_both_69 (by decide) ?_
        exact x_zret C hQ (Or.inr rfl) dX4_both_70 hSH1135 (by decide) (by decide) (⟨1, x1138, x1139, rfl, by decide, ex1138, ex1139, by omega, cy1140_0, cy1140_1, hTH1135⟩)
      refine lv_iload_n hx hb dX4_both_12 rfl (lv_at hl1130 2 rfl) ?_
      refine lv_sipush (v := 500) hx hb dX4_both_13 (by decide) ?_
      refine lv_icmp_ge (tgt := 69) hx hb dX4_both_16 (by decide) (fun c1141 => ?_) (fun c1141 => ?_)
      · have k1142 := i_le c1141
        exact J69 ls1129 H1128 locsH1128 (x1132) (x1133) (lv_sub hl1130 [] rfl) hTH1128 hSH1128 (by have := i_rng x1132; omega) (by have := i_rng x1133; omega) ex1132 ex1133 cy1134_0 cy1134_1 cy1134_2 (by omega)
      · have k1142 := i_nle c1141
        refine lv_aload_n hx hb dX4_both_19 rfl (lv_at hl1130 0 rfl) ?_
        refine x_gr C hTH1128 (ci := 4) (k := 3) rfl inX4 (by decide) wF_X4_18 ga0 rg_78 rfl dX4_both_20 (fun q1143 eq1143 gq1143 => ?_)
        have uq1143 : kq = q1143 := (cy1134_1).trans eq1143.symm
        subst uq1143
        refine lv_aload_n hx hb dX4_both_23 rfl (lv_at hl1130 0 rfl) ?_
        refine x_gi C hTH1128 (ci := 4) (k := 7) rfl inX4 (by decide) wF_X4_42 ga0 rg_78 rfl dX4_both_24 (fun x1144 ex1144 bx1144 => ?_)
        have ux1144 : x1132 = x1144 := (ex1132).trans ex1144.symm
        subst ux1144
        refine x_ai C hTH1128 gkq rg_79 ⟨by omega, by show _ < ((501 : Nat) : Int); omega⟩ dX4_both_27 (fun x1145 ex1145 bx1145 => ?_)
        have dx1145 := el_hit ex1145 cy1134_2
        refine lv_bipush (v := 9) hx hb dX4_both_28 (by decide) ?_
        refine lv_icmp_ne (tgt := 69) hx hb dX4_both_30 (by decide) (fun c1146 => ?_) (fun c1146 => ?_)
        · have k1147 := i_ne c1146
          exact J69 ls1129 H1128 locsH1128 (x1132) (x1133) (lv_sub hl1130 [] rfl) hTH1128 hSH1128 (by have := i_rng x1132; omega) (by have := i_rng x1133; omega) ex1132 ex1133 cy1134_0 cy1134_1 cy1134_2 (by omega)
        · have k1147 := i_eq c1146
          refine lv_aload_n hx hb dX4_both_33 rfl (lv_at hl1130 0 rfl) ?_
          refine lv_dup hx hb dX4_both_34 rfl ?_
          refine x_gi C hTH1128 (ci := 4) (k := 7) rfl inX4 (by decide) wF_X4_42 ga0 rg_78 rfl dX4_both_35 (fun x1148 ex1148 bx1148 => ?_)
          have ux1148 : x1132 = x1148 := (ex1132).trans ex1148.symm
          subst ux1148
          refine lv_iconst (v := 1) hx hb dX4_both_38 (by decide) ?_
          refine lv_iadd hx hb dX4_both_39 ?_
          refine lv_topi (fun x1149 ex1149 => ?_)
          have tx1149 := i_add ex1149 (by omega)
          have fz1151 : 0 ≤ x1149.toInt ∧ x1149.toInt ≤ 500 := by have := i_rng x1149; omega
          refine x_put C hTH1128 hSH1128 (ci := 4) (k := 7) (v := .int x1149) (ty0 := tyX4) rfl inX4 tyX4_ok nmX4 (by decide) rfl wF_X4_42 ga0 rg_78 rfl rfl (okI (by have := i_rng x1149; omega) (by have := i_rng x1149; omega)) rfl rfl (AE_in ga0 (by decide)) dX4_both_40 (fun H1150 locsH1150 hTH1150 hSH1150 wH1150 => ?_)
          have m1153 := ex1133.trans (Wr.neI wH1150 (Or.inl (G_ne gmq ga0 (by decide)))).symm
          have m1154 := cy1134_0.trans (Wr.neR wH1150 (Or.inr (x_apart hKT hts inX4 tyX4 tyX4_ok nmX4 rfl 0 7 (by decide) (by decide) (by decide)))).symm
          have m1155 := cy1134_1.trans (Wr.neR wH1150 (Or.inr (x_apart hKT hts inX4 tyX4 tyX4_ok nmX4 rfl 3 7 (by decide) (by decide) (by decide)))).symm
          have m1156 := (Wr.neI wH1150 (Or.inl (G_ne gkq ga0 (by decide)))).trans cy1134_2
          have m1157 := Wr.I wH1150
          have m1157 := m1157.symm
          refine lv_aload_n hx hb dX4_both_43 rfl (lv_at hl1130 0 rfl) ?_
          refine lv_iload_n hx hb dX4_both_44 rfl (lv_at hl1130 1 rfl) ?_
          refine x_V (As := [.int x1]) (rest := []) C (a_X4_part_6 l K G H1150 (x1) (F) (x1149) (x1133) hTH1150 ga0 (by omega) gmq m1154 gkq m1155 m1157 m1153 m1156 (by omega) (by omega)) yo_X4_part wM_X4_135 ⟨⟨by decide, by decide⟩, by decide, by decide⟩ (x_rv C hTH1150 (ci := 4) rfl ga0 rg_78) rfl hl1130.1 rfl (Nat.le_of_ble_eq_true rfl) dX4_both_45 hSH1150 (AE_sub (fun _ _ => rfl) (by decide) hSH1150.1) (fun vH1158 H1158 locsH1158 pH1158 zH1158 kH1158 hSH1158 => ?_)
          obtain ⟨x1159, x1160, x1161, hvH1158, bx1159, ex1160, ex1161, hrH1158, m1162, m1163, hTH1158⟩ := pH1158
          subst hvH1158
          have m1164 := (fI_kept (x_lt hTH1150 kH1158 gkq (by decide))).trans m1156
          have bx1160 := ty_fi (x := x1160) (k := 7) ex1160 hTH1158 ga0 rg_78 rfl
          have bx1161 := ty_fi (x := x1161) (k := 0) ex1161 hTH1158 gmq rg_69 rfl
          refine W.eq (g2 := F0 m 48 ls1129 [.int x1159]) rfl ?_
          refine lv_if_ne (tgt := 53) hx hb dX4_both_48 (by decide) (fun c1165 => ?_) (fun c1165 => ?_)
          · have k1166 := i_ne c1165
            refine lv_aload_n hx hb dX4_both_53 rfl (lv_at hl1130 0 rfl) ?_
            refine x_gr C hTH1158 (ci := 4) (k := 0) rfl inX4 (by decide) wF_X4_12 ga0 rg_78 rfl dX4_both_54 (fun q1167 eq1167 gq1167 => ?_)
            have uq1167 : mq = q1167 := (m1162).trans eq1167.symm
            subst uq1167
            refine lv_bipush (v := 9) hx hb dX4_both_57 (by decide) ?_
            refine lv_iconst (v := 0) hx hb dX4_both_59 (by decide) ?_
            refine x_V (As := [.int 9, .int 0]) (rest := []) C (a_X7_addStep l K G H1158 (9) (0) (x1161) hTH1158 gmq ex1161) yo_X7_addStep wM_X4_131 ⟨⟨by decide, by decide⟩, by decide, by decide⟩ (x_rv C hTH1158 (ci := 7) rfl gmq rg_69) rfl hl1130.1 rfl (Nat.le_of_ble_eq_true rfl) dX4_both_60 hSH1158 (AE_sub (fun _ _ => rfl) (by decide) hSH1158.1) (fun vH1168 H1168 locsH1168 pH1168 zH1168 kH1168 hSH1168 => ?_)
            obtain ⟨x1169, hvH1168, ex1169, hrH1168, hTH1168⟩ := pH1168
            subst hvH1168
            have m1170 := (fI_kept (x_lt hTH1158 kH1168 gkq (by decide))).trans m1164
            have m1171 := (m1162).trans (fR_kept (x_lt hTH1158 kH1168 ga0 (by decide))).symm
            have m1172 := (m1163).trans (fR_kept (x_lt hTH1158 kH1168 ga0 (by decide))).symm
            have m1173 := (ex1160).trans (fI_kept (x_lt hTH1158 kH1168 ga0 (by decide))).symm
            have bx1169 := ty_fi (x := x1169) (k := 0) ex1169 hTH1168 gmq rg_69 rfl
            refine W.eq (g2 := F0 m 63 ls1129 []) rfl ?_
            obtain ⟨x1174, ex1174⟩ : ∃ y : Int32, y = x1131 + 1 := ⟨_, rfl⟩
            have tx1174 := i_add ex1174 (by omega)
            refine lv_iinc (v := x1174) (lv' := [(2, .int x1174), (0, .ref a0), (1, .int x1)]) hx hb dX4_both_63 hl1130 (k := 2) rfl (by rw [ex1174]; rfl) (by decide) rfl (fun ls1175 hl1176 => ?_)
            refine lv_goto (tgt := 12) hx hb dX4_both_66 (by decide) ?_
            exact ih12 ls1175 H1168 locsH1168 (x1174) (x1160) (x1169) (lv_sub hl1176 [1, 2, 0] rfl) hTH1168 hSH1168 (by have := i_rng x1174; omega) (by have := i_rng x1160; omega) (by have := i_rng x1169; omega) m1173 ex1169 m1171 m1172 m1170 (by omega) (by omega)
          · have k1166 := i_eq c1165
            refine lv_iconst (v := 0) hx hb dX4_both_51 (by decide) ?_
            exact x_zret C hQ (Or.inl rfl) dX4_both_52 hSH1158 (by decide) (by decide) (⟨0, x1160, x1161, rfl, by decide, ex1160, ex1161, by omega, m1162, m1163, hTH1158⟩)
  refine lv_aload_n hx hb dX4_both_0 rfl (lv_at hl 0 rfl) ?_
  refine lv_iload_n hx hb dX4_both_1 rfl (lv_at hl 1 rfl) ?_
  refine x_V (As := [.int x1]) (rest := []) C (a_X4_part_6 l K G s.heap (x1) (F) (tat) (li) hT ga0 (by omega) gmq emq gkq ekq etat eli hel0 (by omega) (by omega)) yo_X4_part wM_X4_135 ⟨⟨by decide, by decide⟩, by decide, by decide⟩ (x_rv C hT (ci := 4) rfl ga0 rg_78) rfl hl.1 rfl (Nat.le_of_ble_eq_true rfl) dX4_both_2 hS (AE_sub (fun _ _ => rfl) (by decide) hS.1) (fun vH1177 H1177 locsH1177 pH1177 zH1177 kH1177 hSH1177 => ?_)
  obtain ⟨x1178, x1179, x1180, hvH1177, bx1178, ex1179, ex1180, hrH1177, m1181, m1182, hTH1177⟩ := pH1177
  subst hvH1177
  have m1183 := (fI_kept (x_lt hT kH1177 gkq (by decide))).trans hel0
  have bx1179 := ty_fi (x := x1179) (k := 7) ex1179 hTH1177 ga0 rg_78 rfl
  have bx1180 := ty_fi (x := x1180) (k := 0) ex1180 hTH1177 gmq rg_69 rfl
  refine W.eq (g2 := F0 m 5 ls [.int x1178]) rfl ?_
  refine lv_if_ne (tgt := 10) hx hb dX4_both_5 (by decide) (fun c1184 => ?_) (fun c1184 => ?_)
  · have k1185 := i_ne c1184
    refine lv_iconst (v := 0) hx hb dX4_both_10 (by decide) ?_
    refine lv_istore_n (lv' := [(2, .int 0), (0, .ref a0), (1, .int x1)]) hx hb dX4_both_11 rfl hl (by decide) rfl (fun ls1186 hl1187 => ?_)
    exact J12 ((500 - (0 : Int32).toInt).toNat + 1) ls1186 H1177 locsH1177 (0) (x1179) (x1180) (lv_sub hl1187 [1, 2, 0] rfl) hTH1177 hSH1177 (by decide) (by have := i_rng x1179; omega) (by have := i_rng x1180; omega) ex1179 ex1180 m1181 m1182 m1183 (by omega) (by omega)
  · have k1185 := i_eq c1184
    refine lv_iconst (v := 0) hx hb dX4_both_8 (by decide) ?_
    exact x_zret C hQ (Or.inl rfl) dX4_both_9 hSH1177 (by decide) (by decide) (⟨0, x1179, x1180, rfl, by decide, ex1179, ex1180, by omega, m1181, m1182, hTH1177⟩)

set_option maxHeartbeats 4000000 in
set_option maxRecDepth 100000 in
theorem a_X4_either_6 (l : Launch) (K : KE) (G : Nat → Option Nat) (H : Heap) {a0 : Nat} (x1 : Int32) {mq : Nat} {kq : Nat} (F : Int32) (tat : Int32) (li : Int32) (hT : TY K G H) (ga0 : G a0 = some 78) (hx1 : 6 ≤ x1.toInt ∧ x1.toInt ≤ 8) (gmq : G mq = some 69) (emq : mq = fR H a0 (K.1.2 4 0)) (gkq : G kq = some 79) (ekq : kq = fR H a0 (K.1.2 4 3)) (etat : tat = fI H a0 (K.1.2 4 7)) (eli : li = fI H mq (K.1.2 7 0)) (hel0 : fI H kq (F : Int32).toNatClampNeg = 26) (hp0 : tat.toInt ≤ F.toInt) (hp1 : F.toInt ≤ 500) : MX l K yX4_either cX4_either 3 (some .boolean) 13 291 0 0 [.ref a0, .int x1] H (AE G [78, 69, 77] H.size) (fun v H1 => ∃ (r : Int32) (t0 : Int32) (t1 : Int32), v = some (.int r) ∧ (0 ≤ r.toInt ∧ r.toInt ≤ 1) ∧ t0 = fI H1 a0 (K.1.2 4 7) ∧ t1 = fI H1 mq (K.1.2 7 0) ∧ (t0.toInt ≤ F.toInt ∧ t1.toInt = li.toInt) ∧ mq = fR H1 a0 (K.1.2 4 0) ∧ kq = fR H1 a0 (K.1.2 4 3) ∧ TY K G H1) := by
  refine MX.of (by decide +kernel) (Nat.le_of_ble_eq_true rfl) ?_
  intro p e s m below meth c ls Q C hH hl hQ
  subst hH
  have C : CX p K s m _ meth c RX4 cX4_either 3 (some .boolean) "either" := C
  obtain ⟨hx, hb, hml, hown, hts, hKT, hr, hlocks, hnm⟩ := id C
  have hl : lv_has ls 3 [(0, .ref a0), (1, .int x1)] := hl
  have hS : va_S (AE G [78, 69, 77] s.heap.size) s.heap s.heap [] := va_S.rf
  have n_0 : (0 : Int32).toInt = 0 := rfl
  have n_1 : (1 : Int32).toInt = 1 := rfl
  have n_8 : (8 : Int32).toInt = 8 := rfl
  have n_26 : (26 : Int32).toInt = 26 := rfl
  have n_500 : (500 : Int32).toInt = 500 := rfl
  have btat := ty_fi (x := tat) (k := 7) etat hT ga0 rg_78 rfl
  have bli := ty_fi (x := li) (k := 0) eli hT gmq rg_69 rfl
  have J12 : ∀ (nf : Nat) (ls1129 : Array Slot) (H1128 : Heap) (locsH1128 : List Loc) (x1131 : Int32) (x1132 : Int32) (x1133 : Int32), lv_has ls1129 3 [(0, .ref a0), (1, .int x1), (2, .int x1131)] → TY K G H1128 → va_S (AE G [78, 69, 77] s.heap.size) s.heap H1128 locsH1128 → (0 ≤ x1131.toInt ∧ x1131.toInt ≤ 500) → (0 ≤ x1132.toInt ∧ x1132.toInt ≤ 500) → (0 ≤ x1133.toInt ∧ x1133.toInt ≤ 16) → (x1132 = fI H1128 a0 (K.1.2 4 7)) → (x1133 = fI H1128 mq (K.1.2 7 0)) → (mq = fR H1128 a0 (K.1.2 4 0)) → (kq = fR H1128 a0 (K.1.2 4 3)) → (fI H1128 kq (F : Int32).toNatClampNeg = 26) → (500 - x1131.toInt < (nf : Int)) → (x1132.toInt ≤ F.toInt ∧ x1133.toInt = li.toInt) → W p l e ({ frames := 13, cells := 0, slots := 0, locals := 291 } : Room) s m (([.ref a0, .int x1] : List Value).toArray) below meth c H1128 locsH1128 0 0 Q (F0 m 12 ls1129 []) := by
    intro nf
    induction nf with
    | zero =>
      intro ls1129 H1128 locsH1128 x1131 x1132 x1133 hl1130 hTH1128 hSH1128 bx1131 bx1132 bx1133 ex1132 ex1133 cy1134_0 cy1134_1 cy1134_2 hm12 iv12
      exfalso
      omega
    | succ nf ih12 =>
      intro ls1129 H1128 locsH1128 x1131 x1132 x1133 hl1130 hTH1128 hSH1128 bx1131 bx1132 bx1133 ex1132 ex1133 cy1134_0 cy1134_1 cy1134_2 hm12 iv12
      have J69 : ∀ (ls1136 : Array Slot) (H1135 : Heap) (locsH1135 : List Loc) (x1138 : Int32) (x1139 : Int32), lv_has ls1136 3 [] → TY K G H1135 → va_S (AE G [78, 69, 77] s.heap.size) s.heap H1135 locsH1135 → (0 ≤ x1138.toInt ∧ x1138.toInt ≤ 500) → (0 ≤ x1139.toInt ∧ x1139.toInt ≤ 16) → (x1138 = fI H1135 a0 (K.1.2 4 7)) → (x1139 = fI H1135 mq (K.1.2 7 0)) → (mq = fR H1135 a0 (K.1.2 4 0)) → (kq = fR H1135 a0 (K.1.2 4 3)) → (fI H1135 kq (F : Int32).toNatClampNeg = 26) → (x1138.toInt ≤ F.toInt ∧ x1139.toInt = li.toInt) → W p l e ({ frames := 13, cells := 0, slots := 0, locals := 291 } : Room) s m (([.ref a0, .int x1] : List Value).toArray) below meth c H1135 locsH1135 0 0 Q (F0 m 69 ls1136 []) := by
        intro ls1136 H1135 locsH1135 x1138 x1139 hl1137 hTH1135 hSH1135 bx1138 bx1139 ex1138 ex1139 cy1140_0 cy1140_1 cy1140_2 iv69
        refine lv_iconst (v := 1) hx hb dX4_either_69 (by decide) ?_
        exact x_zret C hQ (Or.inr rfl) dX4_either_70 hSH1135 (by decide) (by decide) (⟨1, x1138, x1139, rfl, by decide, ex1138, ex1139, by omega, cy1140_0, cy1140_1, hTH1135⟩)
      refine lv_iload_n hx hb dX4_either_12 rfl (lv_at hl1130 2 rfl) ?_
      refine lv_sipush (v := 500) hx hb dX4_either_13 (by decide) ?_
      refine lv_icmp_ge (tgt := 69) hx hb dX4_either_16 (by decide) (fun c1141 => ?_) (fun c1141 => ?_)
      · have k1142 := i_le c1141
        exact J69 ls1129 H1128 locsH1128 (x1132) (x1133) (lv_sub hl1130 [] rfl) hTH1128 hSH1128 (by have := i_rng x1132; omega) (by have := i_rng x1133; omega) ex1132 ex1133 cy1134_0 cy1134_1 cy1134_2 (by omega)
      · have k1142 := i_nle c1141
        refine lv_aload_n hx hb dX4_either_19 rfl (lv_at hl1130 0 rfl) ?_
        refine x_gr C hTH1128 (ci := 4) (k := 3) rfl inX4 (by decide) wF_X4_18 ga0 rg_78 rfl dX4_either_20 (fun q1143 eq1143 gq1143 => ?_)
        have uq1143 : kq = q1143 := (cy1134_1).trans eq1143.symm
        subst uq1143
        refine lv_aload_n hx hb dX4_either_23 rfl (lv_at hl1130 0 rfl) ?_
        refine x_gi C hTH1128 (ci := 4) (k := 7) rfl inX4 (by decide) wF_X4_42 ga0 rg_78 rfl dX4_either_24 (fun x1144 ex1144 bx1144 => ?_)
        have ux1144 : x1132 = x1144 := (ex1132).trans ex1144.symm
        subst ux1144
        refine x_ai C hTH1128 gkq rg_79 ⟨by omega, by show _ < ((501 : Nat) : Int); omega⟩ dX4_either_27 (fun x1145 ex1145 bx1145 => ?_)
        have dx1145 := el_hit ex1145 cy1134_2
        refine lv_bipush (v := 8) hx hb dX4_either_28 (by decide) ?_
        refine lv_icmp_ne (tgt := 69) hx hb dX4_either_30 (by decide) (fun c1146 => ?_) (fun c1146 => ?_)
        · have k1147 := i_ne c1146
          exact J69 ls1129 H1128 locsH1128 (x1132) (x1133) (lv_sub hl1130 [] rfl) hTH1128 hSH1128 (by have := i_rng x1132; omega) (by have := i_rng x1133; omega) ex1132 ex1133 cy1134_0 cy1134_1 cy1134_2 (by omega)
        · have k1147 := i_eq c1146
          refine lv_aload_n hx hb dX4_either_33 rfl (lv_at hl1130 0 rfl) ?_
          refine lv_dup hx hb dX4_either_34 rfl ?_
          refine x_gi C hTH1128 (ci := 4) (k := 7) rfl inX4 (by decide) wF_X4_42 ga0 rg_78 rfl dX4_either_35 (fun x1148 ex1148 bx1148 => ?_)
          have ux1148 : x1132 = x1148 := (ex1132).trans ex1148.symm
          subst ux1148
          refine lv_iconst (v := 1) hx hb dX4_either_38 (by decide) ?_
          refine lv_iadd hx hb dX4_either_39 ?_
          refine lv_topi (fun x1149 ex1149 => ?_)
          have tx1149 := i_add ex1149 (by omega)
          have fz1151 : 0 ≤ x1149.toInt ∧ x1149.toInt ≤ 500 := by have := i_rng x1149; omega
          refine x_put C hTH1128 hSH1128 (ci := 4) (k := 7) (v := .int x1149) (ty0 := tyX4) rfl inX4 tyX4_ok nmX4 (by decide) rfl wF_X4_42 ga0 rg_78 rfl rfl (okI (by have := i_rng x1149; omega) (by have := i_rng x1149; omega)) rfl rfl (AE_in ga0 (by decide)) dX4_either_40 (fun H1150 locsH1150 hTH1150 hSH1150 wH1150 => ?_)
          have m1153 := ex1133.trans (Wr.neI wH1150 (Or.inl (G_ne gmq ga0 (by decide)))).symm
          have m1154 := cy1134_0.trans (Wr.neR wH1150 (Or.inr (x_apart hKT hts inX4 tyX4 tyX4_ok nmX4 rfl 0 7 (by decide) (by decide) (by decide)))).symm
          have m1155 := cy1134_1.trans (Wr.neR wH1150 (Or.inr (x_apart hKT hts inX4 tyX4 tyX4_ok nmX4 rfl 3 7 (by decide) (by decide) (by decide)))).symm
          have m1156 := (Wr.neI wH1150 (Or.inl (G_ne gkq ga0 (by decide)))).trans cy1134_2
          have m1157 := Wr.I wH1150
          have m1157 := m1157.symm
          refine lv_aload_n hx hb dX4_either_43 rfl (lv_at hl1130 0 rfl) ?_
          refine lv_iload_n hx hb dX4_either_44 rfl (lv_at hl1130 1 rfl) ?_
          refine x_V (As := [.int x1]) (rest := []) C (a_X4_both_6 l K G H1150 (x1) (F) (x1149) (x1133) hTH1150 ga0 (by omega) gmq m1154 gkq m1155 m1157 m1153 m1156 (by omega) (by omega)) yo_X4_both wM_X4_128 ⟨⟨by decide, by decide⟩, by decide, by decide⟩ (x_rv C hTH1150 (ci := 4) rfl ga0 rg_78) rfl hl1130.1 rfl (Nat.le_of_ble_eq_true rfl) dX4_either_45 hSH1150 (AE_sub (fun _ _ => rfl) (by decide) hSH1150.1) (fun vH1158 H1158 locsH1158 pH1158 zH1158 kH1158 hSH1158 => ?_)
          obtain ⟨x1159, x1160, x1161, hvH1158, bx1159, ex1160, ex1161, hrH1158, m1162, m1163, hTH1158⟩ := pH1158
          subst hvH1158
          have m1164 := (fI_kept (x_lt hTH1150 kH1158 gkq (by decide))).trans m1156
          have bx1160 := ty_fi (x := x1160) (k := 7) ex1160 hTH1158 ga0 rg_78 rfl
          have bx1161 := ty_fi (x := x1161) (k := 0) ex1161 hTH1158 gmq rg_69 rfl
          refine W.eq (g2 := F0 m 48 ls1129 [.int x1159]) rfl ?_
          refine lv_if_ne (tgt := 53) hx hb dX4_either_48 (by decide) (fun c1165 => ?_) (fun c1165 => ?_)
          · have k1166 := i_ne c1165
            refine lv_aload_n hx hb dX4_either_53 rfl (lv_at hl1130 0 rfl) ?_
            refine x_gr C hTH1158 (ci := 4) (k := 0) rfl inX4 (by decide) wF_X4_12 ga0 rg_78 rfl dX4_either_54 (fun q1167 eq1167 gq1167 => ?_)
            have uq1167 : mq = q1167 := (m1162).trans eq1167.symm
            subst uq1167
            refine lv_bipush (v := 8) hx hb dX4_either_57 (by decide) ?_
            refine lv_iconst (v := 0) hx hb dX4_either_59 (by decide) ?_
            refine x_V (As := [.int 8, .int 0]) (rest := []) C (a_X7_addStep l K G H1158 (8) (0) (x1161) hTH1158 gmq ex1161) yo_X7_addStep wM_X4_131 ⟨⟨by decide, by decide⟩, by decide, by decide⟩ (x_rv C hTH1158 (ci := 7) rfl gmq rg_69) rfl hl1130.1 rfl (Nat.le_of_ble_eq_true rfl) dX4_either_60 hSH1158 (AE_sub (fun _ _ => rfl) (by decide) hSH1158.1) (fun vH1168 H1168 locsH1168 pH1168 zH1168 kH1168 hSH1168 => ?_)
            obtain ⟨x1169, hvH1168, ex1169, hrH1168, hTH1168⟩ := pH1168
            subst hvH1168
            have m1170 := (fI_kept (x_lt hTH1158 kH1168 gkq (by decide))).trans m1164
            have m1171 := (m1162).trans (fR_kept (x_lt hTH1158 kH1168 ga0 (by decide))).symm
            have m1172 := (m1163).trans (fR_kept (x_lt hTH1158 kH1168 ga0 (by decide))).symm
            have m1173 := (ex1160).trans (fI_kept (x_lt hTH1158 kH1168 ga0 (by decide))).symm
            have bx1169 := ty_fi (x := x1169) (k := 0) ex1169 hTH1168 gmq rg_69 rfl
            refine W.eq (g2 := F0 m 63 ls1129 []) rfl ?_
            obtain ⟨x1174, ex1174⟩ : ∃ y : Int32, y = x1131 + 1 := ⟨_, rfl⟩
            have tx1174 := i_add ex1174 (by omega)
            refine lv_iinc (v := x1174) (lv' := [(2, .int x1174), (0, .ref a0), (1, .int x1)]) hx hb dX4_either_63 hl1130 (k := 2) rfl (by rw [ex1174]; rfl) (by decide) rfl (fun ls1175 hl1176 => ?_)
            refine lv_goto (tgt := 12) hx hb dX4_either_66 (by decide) ?_
            exact ih12 ls1175 H1168 locsH1168 (x1174) (x1160) (x1169) (lv_sub hl1176 [1, 2, 0] rfl) hTH1168 hSH1168 (by have := i_rng x1174; omega) (by have := i_rng x1160; omega) (by have := i_rng x1169; omega) m1173 ex1169 m1171 m1172 m1170 (by omega) (by omega)
          · have k1166 := i_eq c1165
            refine lv_iconst (v := 0) hx hb dX4_either_51 (by decide) ?_
            exact x_zret C hQ (Or.inl rfl) dX4_either_52 hSH1158 (by decide) (by decide) (⟨0, x1160, x1161, rfl, by decide, ex1160, ex1161, by omega, m1162, m1163, hTH1158⟩)
  refine lv_aload_n hx hb dX4_either_0 rfl (lv_at hl 0 rfl) ?_
  refine lv_iload_n hx hb dX4_either_1 rfl (lv_at hl 1 rfl) ?_
  refine x_V (As := [.int x1]) (rest := []) C (a_X4_both_6 l K G s.heap (x1) (F) (tat) (li) hT ga0 (by omega) gmq emq gkq ekq etat eli hel0 (by omega) (by omega)) yo_X4_both wM_X4_128 ⟨⟨by decide, by decide⟩, by decide, by decide⟩ (x_rv C hT (ci := 4) rfl ga0 rg_78) rfl hl.1 rfl (Nat.le_of_ble_eq_true rfl) dX4_either_2 hS (AE_sub (fun _ _ => rfl) (by decide) hS.1) (fun vH1177 H1177 locsH1177 pH1177 zH1177 kH1177 hSH1177 => ?_)
  obtain ⟨x1178, x1179, x1180, hvH1177, bx1178, ex1179, ex1180, hrH1177, m1181, m1182, hTH1177⟩ := pH1177
  subst hvH1177
  have m1183 := (fI_kept (x_lt hT kH1177 gkq (by decide))).trans hel0
  have bx1179 := ty_fi (x := x1179) (k := 7) ex1179 hTH1177 ga0 rg_78 rfl
  have bx1180 := ty_fi (x := x1180) (k := 0) ex1180 hTH1177 gmq rg_69 rfl
  refine W.eq (g2 := F0 m 5 ls [.int x1178]) rfl ?_
  refine lv_if_ne (tgt := 10) hx hb dX4_either_5 (by decide) (fun c1184 => ?_) (fun c1184 => ?_)
  · have k1185 := i_ne c1184
    refine lv_iconst (v := 0) hx hb dX4_either_10 (by decide) ?_
    refine lv_istore_n (lv' := [(2, .int 0), (0, .ref a0), (1, .int x1)]) hx hb dX4_either_11 rfl hl (by decide) rfl (fun ls1186 hl1187 => ?_)
    exact J12 ((500 - (0 : Int32).toInt).toNat + 1) ls1186 H1177 locsH1177 (0) (x1179) (x1180) (lv_sub hl1187 [1, 2, 0] rfl) hTH1177 hSH1177 (by decide) (by have := i_rng x1179; omega) (by have := i_rng x1180; omega) ex1179 ex1180 m1181 m1182 m1183 (by omega) (by omega)
  · have k1185 := i_eq c1184
    refine lv_iconst (v := 0) hx hb dX4_either_8 (by decide) ?_
    exact x_zret C hQ (Or.inl rfl) dX4_either_9 hSH1177 (by decide) (by decide) (⟨0, x1179, x1180, rfl, by decide, ex1179, ex1180, by omega, m1181, m1182, hTH1177⟩)

set_option maxHeartbeats 4000000 in
set_option maxRecDepth 100000 in
theorem a_X4_opened_6 (l : Launch) (K : KE) (G : Nat → Option Nat) (H : Heap) {a0 : Nat} (x1 : Int32) (x2 : Int32) {mq : Nat} {kq : Nat} (F : Int32) (tat : Int32) (li : Int32) (hT : TY K G H) (ga0 : G a0 = some 78) (hx2 : 6 ≤ x2.toInt ∧ x2.toInt ≤ 8) (gmq : G mq = some 69) (emq : mq = fR H a0 (K.1.2 4 0)) (gkq : G kq = some 79) (ekq : kq = fR H a0 (K.1.2 4 3)) (etat : tat = fI H a0 (K.1.2 4 7)) (eli : li = fI H mq (K.1.2 7 0)) (hel0 : fI H kq (F : Int32).toNatClampNeg = 26) (hp0 : tat.toInt < F.toInt) (hp1 : F.toInt ≤ 500) : MX l K yX4_opened cX4_opened 3 (some .boolean) 14 313 0 0 [.ref a0, .int x1, .int x2] H (AE G [78, 69, 77] H.size) (fun v H1 => ∃ (r : Int32) (t0 : Int32) (t1 : Int32), v = some (.int r) ∧ (0 ≤ r.toInt ∧ r.toInt ≤ 1) ∧ t0 = fI H1 a0 (K.1.2 4 7) ∧ t1 = fI H1 mq (K.1.2 7 0) ∧ (t0.toInt ≤ F.toInt ∧ t1.toInt = li.toInt) ∧ mq = fR H1 a0 (K.1.2 4 0) ∧ kq = fR H1 a0 (K.1.2 4 3) ∧ TY K G H1) := by
  refine MX.of (by decide +kernel) (Nat.le_of_ble_eq_true rfl) ?_
  intro p e s m below meth c ls Q C hH hl hQ
  subst hH
  have C : CX p K s m _ meth c RX4 cX4_opened 3 (some .boolean) "opened" := C
  obtain ⟨hx, hb, hml, hown, hts, hKT, hr, hlocks, hnm⟩ := id C
  have hl : lv_has ls 3 [(0, .ref a0), (1, .int x1), (2, .int x2)] := hl
  have hS : va_S (AE G [78, 69, 77] s.heap.size) s.heap s.heap [] := va_S.rf
  have n_0 : (0 : Int32).toInt = 0 := rfl
  have n_1 : (1 : Int32).toInt = 1 := rfl
  have n_10 : (10 : Int32).toInt = 10 := rfl
  have n_26 : (26 : Int32).toInt = 26 := rfl
  have n_41 : (41 : Int32).toInt = 41 := rfl
  have btat := ty_fi (x := tat) (k := 7) etat hT ga0 rg_78 rfl
  have bli := ty_fi (x := li) (k := 0) eli hT gmq rg_69 rfl
  refine lv_aload_n hx hb dX4_opened_0 rfl (lv_at hl 0 rfl) ?_
  refine lv_dup hx hb dX4_opened_1 rfl ?_
  refine x_gi C hT (ci := 4) (k := 7) rfl inX4 (by decide) wF_X4_42 ga0 rg_78 rfl dX4_opened_2 (fun x337 ex337 bx337 => ?_)
  have ux337 : tat = x337 := (etat).trans ex337.symm
  subst ux337
  refine lv_iconst (v := 1) hx hb dX4_opened_5 (by decide) ?_
  refine lv_iadd hx hb dX4_opened_6 ?_
  refine lv_topi (fun x338 ex338 => ?_)
  have tx338 := i_add ex338 (by omega)
  have fz340 : 0 ≤ x338.toInt ∧ x338.toInt ≤ 500 := by have := i_rng x338; omega
  refine x_put C hT hS (ci := 4) (k := 7) (v := .int x338) (ty0 := tyX4) rfl inX4 tyX4_ok nmX4 (by decide) rfl wF_X4_42 ga0 rg_78 rfl rfl (okI (by have := i_rng x338; omega) (by have := i_rng x338; omega)) rfl rfl (AE_in ga0 (by decide)) dX4_opened_7 (fun H339 locsH339 hTH339 hSH339 wH339 => ?_)
  have m341 := emq.trans (Wr.neR wH339 (Or.inr (x_apart hKT hts inX4 tyX4 tyX4_ok nmX4 rfl 0 7 (by decide) (by decide) (by decide)))).symm
  have m342 := ekq.trans (Wr.neR wH339 (Or.inr (x_apart hKT hts inX4 tyX4 tyX4_ok nmX4 rfl 3 7 (by decide) (by decide) (by decide)))).symm
  have m344 := eli.trans (Wr.neI wH339 (Or.inl (G_ne gmq ga0 (by decide)))).symm
  have m345 := (Wr.neI wH339 (Or.inl (G_ne gkq ga0 (by decide)))).trans hel0
  have m346 := Wr.I wH339
  have m346 := m346.symm
  refine lv_iload_n hx hb dX4_opened_10 rfl (lv_at hl 1 rfl) ?_
  refine lv_bipush (v := 10) hx hb dX4_opened_11 (by decide) ?_
  refine lv_icmp_ne (tgt := 38) hx hb dX4_opened_13 (by decide) (fun c347 => ?_) (fun c347 => ?_)
  · have k348 := i_ne c347
    refine lv_aload_n hx hb dX4_opened_38 rfl (lv_at hl 0 rfl) ?_
    refine lv_iload_n hx hb dX4_opened_39 rfl (lv_at hl 2 rfl) ?_
    refine x_V (As := [.int x2]) (rest := []) C (a_X4_either_6 l K G H339 (x2) (F) (x338) (li) hTH339 ga0 (by omega) gmq m341 gkq m342 m346 m344 m345 (by omega) (by omega)) yo_X4_either wM_X4_113 ⟨⟨by decide, by decide⟩, by decide, by decide⟩ (x_rv C hTH339 (ci := 4) rfl ga0 rg_78) rfl hl.1 rfl (Nat.le_of_ble_eq_true rfl) dX4_opened_40 hSH339 (AE_sub (fun _ _ => rfl) (by decide) hSH339.1) (fun vH349 H349 locsH349 pH349 zH349 kH349 hSH349 => ?_)
    obtain ⟨x350, x351, x352, hvH349, bx350, ex351, ex352, hrH349, m353, m354, hTH349⟩ := pH349
    subst hvH349
    have m355 := (fI_kept (x_lt hTH339 kH349 gkq (by decide))).trans m345
    have bx351 := ty_fi (x := x351) (k := 7) ex351 hTH349 ga0 rg_78 rfl
    have bx352 := ty_fi (x := x352) (k := 0) ex352 hTH349 gmq rg_69 rfl
    refine W.eq (g2 := F0 m 43 ls [.int x350]) rfl ?_
    refine lv_if_ne (tgt := 48) hx hb dX4_opened_43 (by decide) (fun c356 => ?_) (fun c356 => ?_)
    · have k357 := i_ne c356
      refine lv_aload_n hx hb dX4_opened_48 rfl (lv_at hl 0 rfl) ?_
      refine x_gr C hTH349 (ci := 4) (k := 3) rfl inX4 (by decide) wF_X4_18 ga0 rg_78 rfl dX4_opened_49 (fun q358 eq358 gq358 => ?_)
      have uq358 : kq = q358 := (m354).trans eq358.symm
      subst uq358
      refine lv_aload_n hx hb dX4_opened_52 rfl (lv_at hl 0 rfl) ?_
      refine x_gi C hTH349 (ci := 4) (k := 7) rfl inX4 (by decide) wF_X4_42 ga0 rg_78 rfl dX4_opened_53 (fun x359 ex359 bx359 => ?_)
      have ux359 : x351 = x359 := (ex351).trans ex359.symm
      subst ux359
      refine x_ai C hTH349 gkq rg_79 ⟨by omega, by show _ < ((501 : Nat) : Int); omega⟩ dX4_opened_56 (fun x360 ex360 bx360 => ?_)
      have dx360 := el_hit ex360 m355
      refine lv_bipush (v := 41) hx hb dX4_opened_57 (by decide) ?_
      refine lv_icmp_eq (tgt := 68) hx hb dX4_opened_59 (by decide) (fun c361 => ?_) (fun c361 => ?_)
      · have k362 := i_eq c361
        refine lv_aload_n hx hb dX4_opened_68 rfl (lv_at hl 0 rfl) ?_
        refine lv_dup hx hb dX4_opened_69 rfl ?_
        refine x_gi C hTH349 (ci := 4) (k := 7) rfl inX4 (by decide) wF_X4_42 ga0 rg_78 rfl dX4_opened_70 (fun x363 ex363 bx363 => ?_)
        have ux363 : x351 = x363 := (ex351).trans ex363.symm
        subst ux363
        refine lv_iconst (v := 1) hx hb dX4_opened_73 (by decide) ?_
        refine lv_iadd hx hb dX4_opened_74 ?_
        refine lv_topi (fun x364 ex364 => ?_)
        have tx364 := i_add ex364 (by omega)
        have fz366 : 0 ≤ x364.toInt ∧ x364.toInt ≤ 500 := by have := i_rng x364; omega
        refine x_put C hTH349 hSH349 (ci := 4) (k := 7) (v := .int x364) (ty0 := tyX4) rfl inX4 tyX4_ok nmX4 (by decide) rfl wF_X4_42 ga0 rg_78 rfl rfl (okI (by have := i_rng x364; omega) (by have := i_rng x364; omega)) rfl rfl (AE_in ga0 (by decide)) dX4_opened_75 (fun H365 locsH365 hTH365 hSH365 wH365 => ?_)
        have m367 := (Wr.neI wH365 (Or.inl (G_ne gkq ga0 (by decide)))).trans m355
        have m368 := m353.trans (Wr.neR wH365 (Or.inr (x_apart hKT hts inX4 tyX4 tyX4_ok nmX4 rfl 0 7 (by decide) (by decide) (by decide)))).symm
        have m369 := m354.trans (Wr.neR wH365 (Or.inr (x_apart hKT hts inX4 tyX4 tyX4_ok nmX4 rfl 3 7 (by decide) (by decide) (by decide)))).symm
        have m371 := ex352.trans (Wr.neI wH365 (Or.inl (G_ne gmq ga0 (by decide)))).symm
        have m372 := Wr.I wH365
        have m372 := m372.symm
        refine lv_iconst (v := 1) hx hb dX4_opened_78 (by decide) ?_
        exact x_zret C hQ (Or.inr rfl) dX4_opened_79 hSH365 (by decide) (by decide) (⟨1, x364, x352, rfl, by decide, m372, m371, by omega, m368, m369, hTH365⟩)
      · have k362 := i_ne c361
        refine lv_aload_n hx hb dX4_opened_62 rfl (lv_at hl 0 rfl) ?_
        refine lv_iconst (v := 1) hx hb dX4_opened_63 (by decide) ?_
        refine x_V (As := [.int 1]) (rest := []) C (a_X4_refuse l K G H349 (1) (x351) hTH349 ga0 gmq m353 gkq m354 ex351) yo_X4_refuse wM_X4_81 ⟨⟨by decide, by decide⟩, by decide, by decide⟩ (x_rv C hTH349 (ci := 4) rfl ga0 rg_78) rfl hl.1 rfl (Nat.le_of_ble_eq_true rfl) dX4_opened_64 hSH349 (AE_sub (fun _ _ => rfl) (by decide) hSH349.1) (fun vH373 H373 locsH373 pH373 zH373 kH373 hSH373 => ?_)
        obtain ⟨x374, x375, hvH373, bx374, ex375, hrH373, m376, m377, hTH373⟩ := pH373
        subst hvH373
        have m378 := (fI_kept (x_lt hTH349 kH373 gkq (by decide))).trans m355
        have m379 := (ex352).trans (fI_kept (x_lt hTH349 kH373 gmq (by decide))).symm
        have bx375 := ty_fi (x := x375) (k := 7) ex375 hTH373 ga0 rg_78 rfl
        refine W.eq (g2 := F0 m 67 ls [.int x374]) rfl ?_
        exact x_zret C hQ (i_01 (by omega)) dX4_opened_67 hSH373 (by decide) (by decide) (⟨x374, x375, x352, rfl, by omega, ex375, m379, by omega, m376, m377, hTH373⟩)
    · have k357 := i_eq c356
      refine lv_iconst (v := 0) hx hb dX4_opened_46 (by decide) ?_
      exact x_zret C hQ (Or.inl rfl) dX4_opened_47 hSH349 (by decide) (by decide) (⟨0, x351, x352, rfl, by decide, ex351, ex352, by omega, m353, m354, hTH349⟩)
  · have k348 := i_eq c347
    refine lv_aload_n hx hb dX4_opened_16 rfl (lv_at hl 0 rfl) ?_
    refine lv_iload_n hx hb dX4_opened_17 rfl (lv_at hl 2 rfl) ?_
    refine x_V (As := [.int x2]) (rest := []) C (a_X4_part_6 l K G H339 (x2) (F) (x338) (li) hTH339 ga0 (by omega) gmq m341 gkq m342 m346 m344 m345 (by omega) (by omega)) yo_X4_part wM_X4_135 ⟨⟨by decide, by decide⟩, by decide, by decide⟩ (x_rv C hTH339 (ci := 4) rfl ga0 rg_78) rfl hl.1 rfl (Nat.le_of_ble_eq_true rfl) dX4_opened_18 hSH339 (AE_sub (fun _ _ => rfl) (by decide) hSH339.1) (fun vH380 H380 locsH380 pH380 zH380 kH380 hSH380 => ?_)
    obtain ⟨x381, x382, x383, hvH380, bx381, ex382, ex383, hrH380, m384, m385, hTH380⟩ := pH380
    subst hvH380
    have m386 := (fI_kept (x_lt hTH339 kH380 gkq (by decide))).trans m345
    have bx382 := ty_fi (x := x382) (k := 7) ex382 hTH380 ga0 rg_78 rfl
    have bx383 := ty_fi (x := x383) (k := 0) ex383 hTH380 gmq rg_69 rfl
    refine W.eq (g2 := F0 m 21 ls [.int x381]) rfl ?_
    refine lv_if_ne (tgt := 26) hx hb dX4_opened_21 (by decide) (fun c387 => ?_) (fun c387 => ?_)
    · have k388 := i_ne c387
      refine lv_aload_n hx hb dX4_opened_26 rfl (lv_at hl 0 rfl) ?_
      refine x_gr C hTH380 (ci := 4) (k := 0) rfl inX4 (by decide) wF_X4_12 ga0 rg_78 rfl dX4_opened_27 (fun q389 eq389 gq389 => ?_)
      have uq389 : mq = q389 := (m384).trans eq389.symm
      subst uq389
      refine lv_bipush (v := 10) hx hb dX4_opened_30 (by decide) ?_
      refine lv_iconst (v := 0) hx hb dX4_opened_32 (by decide) ?_
      refine x_V (As := [.int 10, .int 0]) (rest := []) C (a_X7_addStep l K G H380 (10) (0) (x383) hTH380 gmq ex383) yo_X7_addStep wM_X4_131 ⟨⟨by decide, by decide⟩, by decide, by decide⟩ (x_rv C hTH380 (ci := 7) rfl gmq rg_69) rfl hl.1 rfl (Nat.le_of_ble_eq_true rfl) dX4_opened_33 hSH380 (AE_sub (fun _ _ => rfl) (by decide) hSH380.1) (fun vH390 H390 locsH390 pH390 zH390 kH390 hSH390 => ?_)
      obtain ⟨x391, hvH390, ex391, hrH390, hTH390⟩ := pH390
      subst hvH390
      have m392 := (fI_kept (x_lt hTH380 kH390 gkq (by decide))).trans m386
      have m393 := (m384).trans (fR_kept (x_lt hTH380 kH390 ga0 (by decide))).symm
      have m394 := (m385).trans (fR_kept (x_lt hTH380 kH390 ga0 (by decide))).symm
      have m395 := (ex382).trans (fI_kept (x_lt hTH380 kH390 ga0 (by decide))).symm
      have bx391 := ty_fi (x := x391) (k := 0) ex391 hTH390 gmq rg_69 rfl
      refine W.eq (g2 := F0 m 36 ls []) rfl ?_
      refine lv_iconst (v := 1) hx hb dX4_opened_36 (by decide) ?_
      exact x_zret C hQ (Or.inr rfl) dX4_opened_37 hSH390 (by decide) (by decide) (⟨1, x382, x391, rfl, by decide, m395, ex391, by omega, m393, m394, hTH390⟩)
    · have k388 := i_eq c387
      refine lv_iconst (v := 0) hx hb dX4_opened_24 (by decide) ?_
      exact x_zret C hQ (Or.inl rfl) dX4_opened_25 hSH380 (by decide) (by decide) (⟨0, x382, x383, rfl, by decide, ex382, ex383, by omega, m384, m385, hTH380⟩)

set_option maxHeartbeats 4000000 in
set_option maxRecDepth 100000 in
theorem a_X4_part_5 (l : Launch) (K : KE) (G : Nat → Option Nat) (H : Heap) {a0 : Nat} (x1 : Int32) {mq : Nat} {kq : Nat} (F : Int32) (tat : Int32) (li : Int32) (hT : TY K G H) (ga0 : G a0 = some 78) (hx1 : 5 ≤ x1.toInt ∧ x1.toInt ≤ 8) (gmq : G mq = some 69) (emq : mq = fR H a0 (K.1.2 4 0)) (gkq : G kq = some 79) (ekq : kq = fR H a0 (K.1.2 4 3)) (etat : tat = fI H a0 (K.1.2 4 7)) (eli : li = fI H mq (K.1.2 7 0)) (hel0 : fI H kq (F : Int32).toNatClampNeg = 26) (hp0 : tat.toInt ≤ F.toInt) (hp1 : F.toInt ≤ 500) : MX l K yX4_part cX4_part 4 (some .boolean) 15 335 0 0 [.ref a0, .int x1] H (AE G [78, 69, 77] H.size) (fun v H1 => ∃ (r : Int32) (t0 : Int32) (t1 : Int32), v = some (.int r) ∧ (0 ≤ r.toInt ∧ r.toInt ≤ 1) ∧ t0 = fI H1 a0 (K.1.2 4 7) ∧ t1 = fI H1 mq (K.1.2 7 0) ∧ (t0.toInt ≤ F.toInt ∧ t1.toInt = li.toInt) ∧ mq = fR H1 a0 (K.1.2 4 0) ∧ kq = fR H1 a0 (K.1.2 4 3) ∧ TY K G H1) := by
  refine MX.of (by decide +kernel) (Nat.le_of_ble_eq_true rfl) ?_
  intro p e s m below meth c ls Q C hH hl hQ
  subst hH
  have C : CX p K s m _ meth c RX4 cX4_part 4 (some .boolean) "part" := C
  obtain ⟨hx, hb, hml, hown, hts, hKT, hr, hlocks, hnm⟩ := id C
  have hl : lv_has ls 4 [(0, .ref a0), (1, .int x1)] := hl
  have hS : va_S (AE G [78, 69, 77] s.heap.size) s.heap s.heap [] := va_S.rf
  have n_0 : (0 : Int32).toInt = 0 := rfl
  have n_1 : (1 : Int32).toInt = 1 := rfl
  have n_3 : (3 : Int32).toInt = 3 := rfl
  have n_8 : (8 : Int32).toInt = 8 := rfl
  have n_10 : (10 : Int32).toInt = 10 := rfl
  have n_26 : (26 : Int32).toInt = 26 := rfl
  have n_40 : (40 : Int32).toInt = 40 := rfl
  have n_60 : (60 : Int32).toInt = 60 := rfl
  have n_61 : (61 : Int32).toInt = 61 := rfl
  have n_62 : (62 : Int32).toInt = 62 := rfl
  have btat := ty_fi (x := tat) (k := 7) etat hT ga0 rg_78 rfl
  have bli := ty_fi (x := li) (k := 0) eli hT gmq rg_69 rfl
  have J22 : ∀ (ls535 : Array Slot) (H534 : Heap) (locsH534 : List Loc) (x537 : Int32) (x538 : Int32) (x539 : Int32), lv_has ls535 4 [(0, .ref a0), (1, .int x1), (2, .int x537)] → TY K G H534 → va_S (AE G [78, 69, 77] s.heap.size) s.heap H534 locsH534 → (10 ≤ x537.toInt ∧ x537.toInt ≤ 40) → (0 ≤ x538.toInt ∧ x538.toInt ≤ 500) → (0 ≤ x539.toInt ∧ x539.toInt ≤ 16) → (x538 = fI H534 a0 (K.1.2 4 7)) → (x539 = fI H534 mq (K.1.2 7 0)) → (mq = fR H534 a0 (K.1.2 4 0)) → (kq = fR H534 a0 (K.1.2 4 3)) → (fI H534 kq (F : Int32).toNatClampNeg = 26) → (x538.toInt < F.toInt ∧ x538.toInt ≤ F.toInt ∧ x539.toInt = li.toInt) → W p l e ({ frames := 15, cells := 0, slots := 0, locals := 335 } : Room) s m (([.ref a0, .int x1] : List Value).toArray) below meth c H534 locsH534 0 0 Q (F0 m 22 ls535 []) := by
    intro ls535 H534 locsH534 x537 x538 x539 hl536 hTH534 hSH534 bx537 bx538 bx539 ex538 ex539 cy540_0 cy540_1 cy540_2 iv22
    have J44 : ∀ (ls542 : Array Slot) (H541 : Heap) (locsH541 : List Loc) (x544 : Int32) (x545 : Int32) (x546 : Int32), lv_has ls542 4 [] → TY K G H541 → va_S (AE G [78, 69, 77] s.heap.size) s.heap H541 locsH541 → (0 ≤ x544.toInt ∧ x544.toInt ≤ 1) → (0 ≤ x545.toInt ∧ x545.toInt ≤ 500) → (0 ≤ x546.toInt ∧ x546.toInt ≤ 16) → (x545 = fI H541 a0 (K.1.2 4 7)) → (x546 = fI H541 mq (K.1.2 7 0)) → (mq = fR H541 a0 (K.1.2 4 0)) → (kq = fR H541 a0 (K.1.2 4 3)) → (fI H541 kq (F : Int32).toNatClampNeg = 26) → (x545.toInt ≤ F.toInt ∧ x546.toInt = li.toInt) → W p l e ({ frames := 15, cells := 0, slots := 0, locals := 335 } : Room) s m (([.ref a0, .int x1] : List Value).toArray) below meth c H541 locsH541 0 0 Q (F0 m 44 ls542 [.int x544]) := by
      intro ls542 H541 locsH541 x544 x545 x546 hl543 hTH541 hSH541 bx544 bx545 bx546 ex545 ex546 cy547_0 cy547_1 cy547_2 iv44
      exact x_zret C hQ (i_01 (by omega)) dX4_part_44 hSH541 (by decide) (by decide) (⟨x544, x545, x546, rfl, by omega, ex545, ex546, by omega, cy547_0, cy547_1, hTH541⟩)
    refine lv_iload_n hx hb dX4_part_22 rfl (lv_at hl536 1 rfl) ?_
    refine lv_bipush (v := 8) hx hb dX4_part_23 (by decide) ?_
    refine lv_icmp_ge (tgt := 39) hx hb dX4_part_25 (by decide) (fun c548 => ?_) (fun c548 => ?_)
    · have k549 := i_le c548
      refine lv_aload_n hx hb dX4_part_39 rfl (lv_at hl536 0 rfl) ?_
      refine lv_iconst (v := 3) hx hb dX4_part_40 (by decide) ?_
      refine x_V (As := [.int 3]) (rest := []) C (a_X4_refuse l K G H534 (3) (x538) hTH534 ga0 gmq cy540_0 gkq cy540_1 ex538) yo_X4_refuse wM_X4_81 ⟨⟨by decide, by decide⟩, by decide, by decide⟩ (x_rv C hTH534 (ci := 4) rfl ga0 rg_78) rfl hl536.1 rfl (Nat.le_of_ble_eq_true rfl) dX4_part_41 hSH534 (AE_sub (fun _ _ => rfl) (by decide) hSH534.1) (fun vH550 H550 locsH550 pH550 zH550 kH550 hSH550 => ?_)
      obtain ⟨x551, x552, hvH550, bx551, ex552, hrH550, m553, m554, hTH550⟩ := pH550
      subst hvH550
      have m555 := (ex539).trans (fI_kept (x_lt hTH534 kH550 gmq (by decide))).symm
      have m556 := (fI_kept (x_lt hTH534 kH550 gkq (by decide))).trans cy540_2
      have bx552 := ty_fi (x := x552) (k := 7) ex552 hTH550 ga0 rg_78 rfl
      refine W.eq (g2 := F0 m 44 ls535 [.int x551]) rfl ?_
      exact J44 ls535 H550 locsH550 (x551) (x552) (x539) (lv_sub hl536 [] rfl) hTH550 hSH550 (by have := i_rng x551; omega) (by have := i_rng x552; omega) (by have := i_rng x539; omega) ex552 m555 m553 m554 m556 (by omega)
    · have k549 := i_nle c548
      refine lv_aload_n hx hb dX4_part_28 rfl (lv_at hl536 0 rfl) ?_
      refine lv_iload_n hx hb dX4_part_29 rfl (lv_at hl536 2 rfl) ?_
      refine lv_iload_n hx hb dX4_part_30 rfl (lv_at hl536 1 rfl) ?_
      refine lv_iconst (v := 1) hx hb dX4_part_31 (by decide) ?_
      refine lv_iadd hx hb dX4_part_32 ?_
      refine lv_topi (fun x557 ex557 => ?_)
      have tx557 := i_add ex557 (by omega)
      refine x_V (As := [.int x537, .int x557]) (rest := []) C (a_X4_opened_6 l K G H534 (x537) (x557) (F) (x538) (x539) hTH534 ga0 (by omega) gmq cy540_0 gkq cy540_1 ex538 ex539 cy540_2 (by omega) (by omega)) yo_X4_opened wM_X4_138 ⟨⟨by decide, by decide⟩, by decide, by decide⟩ (x_rv C hTH534 (ci := 4) rfl ga0 rg_78) rfl hl536.1 rfl (Nat.le_of_ble_eq_true rfl) dX4_part_33 hSH534 (AE_sub (fun _ _ => rfl) (by decide) hSH534.1) (fun vH558 H558 locsH558 pH558 zH558 kH558 hSH558 => ?_)
      obtain ⟨x559, x560, x561, hvH558, bx559, ex560, ex561, hrH558, m562, m563, hTH558⟩ := pH558
      subst hvH558
      have m564 := (fI_kept (x_lt hTH534 kH558 gkq (by decide))).trans cy540_2
      have bx560 := ty_fi (x := x560) (k := 7) ex560 hTH558 ga0 rg_78 rfl
      have bx561 := ty_fi (x := x561) (k := 0) ex561 hTH558 gmq rg_69 rfl
      refine W.eq (g2 := F0 m 36 ls535 [.int x559]) rfl ?_
      refine lv_goto (tgt := 44) hx hb dX4_part_36 (by decide) ?_
      exact J44 ls535 H558 locsH558 (x559) (x560) (x561) (lv_sub hl536 [] rfl) hTH558 hSH558 (by have := i_rng x559; omega) (by have := i_rng x560; omega) (by have := i_rng x561; omega) ex560 ex561 m562 m563 m564 (by omega)
  have J88 : ∀ (ls566 : Array Slot) (H565 : Heap) (locsH565 : List Loc) (x568 : Int32) (x569 : Int32) (x570 : Int32), lv_has ls566 4 [(0, .ref a0), (3, .int x568)] → TY K G H565 → va_S (AE G [78, 69, 77] s.heap.size) s.heap H565 locsH565 → (60 ≤ x568.toInt ∧ x568.toInt ≤ 62) → (0 ≤ x569.toInt ∧ x569.toInt ≤ 500) → (0 ≤ x570.toInt ∧ x570.toInt ≤ 16) → (x569 = fI H565 a0 (K.1.2 4 7)) → (x570 = fI H565 mq (K.1.2 7 0)) → (mq = fR H565 a0 (K.1.2 4 0)) → (kq = fR H565 a0 (K.1.2 4 3)) → (fI H565 kq (F : Int32).toNatClampNeg = 26) → (x569.toInt < F.toInt ∧ x569.toInt ≤ F.toInt ∧ x570.toInt = li.toInt) → W p l e ({ frames := 15, cells := 0, slots := 0, locals := 335 } : Room) s m (([.ref a0, .int x1] : List Value).toArray) below meth c H565 locsH565 0 0 Q (F0 m 88 ls566 []) := by
    intro ls566 H565 locsH565 x568 x569 x570 hl567 hTH565 hSH565 bx568 bx569 bx570 ex569 ex570 cy571_0 cy571_1 cy571_2 iv88
    refine lv_aload_n hx hb dX4_part_88 rfl (lv_at hl567 0 rfl) ?_
    refine lv_dup hx hb dX4_part_89 rfl ?_
    refine x_gi C hTH565 (ci := 4) (k := 7) rfl inX4 (by decide) wF_X4_42 ga0 rg_78 rfl dX4_part_90 (fun x572 ex572 bx572 => ?_)
    have ux572 : x569 = x572 := (ex569).trans ex572.symm
    subst ux572
    refine lv_iconst (v := 1) hx hb dX4_part_93 (by decide) ?_
    refine lv_iadd hx hb dX4_part_94 ?_
    refine lv_topi (fun x573 ex573 => ?_)
    have tx573 := i_add ex573 (by omega)
    have fz575 : 0 ≤ x573.toInt ∧ x573.toInt ≤ 500 := by have := i_rng x573; omega
    refine x_put C hTH565 hSH565 (ci := 4) (k := 7) (v := .int x573) (ty0 := tyX4) rfl inX4 tyX4_ok nmX4 (by decide) rfl wF_X4_42 ga0 rg_78 rfl rfl (okI (by have := i_rng x573; omega) (by have := i_rng x573; omega)) rfl rfl (AE_in ga0 (by decide)) dX4_part_95 (fun H574 locsH574 hTH574 hSH574 wH574 => ?_)
    have m577 := ex570.trans (Wr.neI wH574 (Or.inl (G_ne gmq ga0 (by decide)))).symm
    have m578 := cy571_0.trans (Wr.neR wH574 (Or.inr (x_apart hKT hts inX4 tyX4 tyX4_ok nmX4 rfl 0 7 (by decide) (by decide) (by decide)))).symm
    have m579 := cy571_1.trans (Wr.neR wH574 (Or.inr (x_apart hKT hts inX4 tyX4 tyX4_ok nmX4 rfl 3 7 (by decide) (by decide) (by decide)))).symm
    have m580 := (Wr.neI wH574 (Or.inl (G_ne gkq ga0 (by decide)))).trans cy571_2
    have m581 := Wr.I wH574
    have m581 := m581.symm
    refine lv_aload_n hx hb dX4_part_98 rfl (lv_at hl567 0 rfl) ?_
    refine x_V (As := []) (rest := []) C (a_X4_sum l K G H574 (F) (x573) (x570) hTH574 ga0 gmq m578 gkq m579 m581 m577 m580 (by omega) (by omega)) yo_X4_sum wM_X4_103 ⟨⟨by decide, by decide⟩, by decide, by decide⟩ (x_rv C hTH574 (ci := 4) rfl ga0 rg_78) rfl hl567.1 rfl (Nat.le_of_ble_eq_true rfl) dX4_part_99 hSH574 (AE_sub (fun _ _ => rfl) (by decide) hSH574.1) (fun vH582 H582 locsH582 pH582 zH582 kH582 hSH582 => ?_)
    obtain ⟨x583, x584, x585, hvH582, bx583, ex584, ex585, hrH582, m586, m587, hTH582⟩ := pH582
    subst hvH582
    have m588 := (fI_kept (x_lt hTH574 kH582 gkq (by decide))).trans m580
    have bx584 := ty_fi (x := x584) (k := 7) ex584 hTH582 ga0 rg_78 rfl
    have bx585 := ty_fi (x := x585) (k := 0) ex585 hTH582 gmq rg_69 rfl
    refine W.eq (g2 := F0 m 102 ls566 [.int x583]) rfl ?_
    refine lv_if_ne (tgt := 107) hx hb dX4_part_102 (by decide) (fun c589 => ?_) (fun c589 => ?_)
    · have k590 := i_ne c589
      refine lv_aload_n hx hb dX4_part_107 rfl (lv_at hl567 0 rfl) ?_
      refine x_gr C hTH582 (ci := 4) (k := 0) rfl inX4 (by decide) wF_X4_12 ga0 rg_78 rfl dX4_part_108 (fun q591 eq591 gq591 => ?_)
      have uq591 : mq = q591 := (m586).trans eq591.symm
      subst uq591
      refine lv_iload_n hx hb dX4_part_111 rfl (lv_at hl567 1 rfl) ?_
      refine lv_iconst (v := 0) hx hb dX4_part_112 (by decide) ?_
      refine x_V (As := [.int x568, .int 0]) (rest := []) C (a_X7_addStep l K G H582 (x568) (0) (x585) hTH582 gmq ex585) yo_X7_addStep wM_X4_131 ⟨⟨by decide, by decide⟩, by decide, by decide⟩ (x_rv C hTH582 (ci := 7) rfl gmq rg_69) rfl hl567.1 rfl (Nat.le_of_ble_eq_true rfl) dX4_part_113 hSH582 (AE_sub (fun _ _ => rfl) (by decide) hSH582.1) (fun vH592 H592 locsH592 pH592 zH592 kH592 hSH592 => ?_)
      obtain ⟨x593, hvH592, ex593, hrH592, hTH592⟩ := pH592
      subst hvH592
      have m594 := (fI_kept (x_lt hTH582 kH592 gkq (by decide))).trans m588
      have m595 := (m586).trans (fR_kept (x_lt hTH582 kH592 ga0 (by decide))).symm
      have m596 := (m587).trans (fR_kept (x_lt hTH582 kH592 ga0 (by decide))).symm
      have m597 := (ex584).trans (fI_kept (x_lt hTH582 kH592 ga0 (by decide))).symm
      have bx593 := ty_fi (x := x593) (k := 0) ex593 hTH592 gmq rg_69 rfl
      refine W.eq (g2 := F0 m 116 ls566 []) rfl ?_
      refine lv_iconst (v := 1) hx hb dX4_part_116 (by decide) ?_
      exact x_zret C hQ (Or.inr rfl) dX4_part_117 hSH592 (by decide) (by decide) (⟨1, x584, x593, rfl, by decide, m597, ex593, by omega, m595, m596, hTH592⟩)
    · have k590 := i_eq c589
      refine lv_iconst (v := 0) hx hb dX4_part_105 (by decide) ?_
      exact x_zret C hQ (Or.inl rfl) dX4_part_106 hSH582 (by decide) (by decide) (⟨0, x584, x585, rfl, by decide, ex584, ex585, by omega, m586, m587, hTH582⟩)
  refine lv_aload_n hx hb dX4_part_0 rfl (lv_at hl 0 rfl) ?_
  refine x_gr C hT (ci := 4) (k := 3) rfl inX4 (by decide) wF_X4_18 ga0 rg_78 rfl dX4_part_1 (fun q598 eq598 gq598 => ?_)
  have uq598 : kq = q598 := (ekq).trans eq598.symm
  subst uq598
  refine lv_aload_n hx hb dX4_part_4 rfl (lv_at hl 0 rfl) ?_
  refine x_gi C hT (ci := 4) (k := 7) rfl inX4 (by decide) wF_X4_42 ga0 rg_78 rfl dX4_part_5 (fun x599 ex599 bx599 => ?_)
  have ux599 : tat = x599 := (etat).trans ex599.symm
  subst ux599
  refine x_ai C hT gkq rg_79 ⟨by omega, by show _ < ((501 : Nat) : Int); omega⟩ dX4_part_8 (fun x600 ex600 bx600 => ?_)
  have dx600 := el_hit ex600 hel0
  refine lv_istore_n (lv' := [(2, .int x600), (0, .ref a0), (1, .int x1)]) hx hb dX4_part_9 rfl hl (by decide) rfl (fun ls601 hl602 => ?_)
  refine lv_iload_n hx hb dX4_part_10 rfl (lv_at hl602 0 rfl) ?_
  refine lv_bipush (v := 10) hx hb dX4_part_11 (by decide) ?_
  refine lv_icmp_eq (tgt := 22) hx hb dX4_part_13 (by decide) (fun c603 => ?_) (fun c603 => ?_)
  · have k604 := i_eq c603
    exact J22 ls601 s.heap [] (x600) (tat) (li) (lv_sub hl602 [1, 2, 0] rfl) hT hS (by have := i_rng x600; omega) (by have := i_rng tat; omega) (by have := i_rng li; omega) etat eli emq ekq hel0 (by omega)
  · have k604 := i_ne c603
    refine lv_iload_n hx hb dX4_part_16 rfl (lv_at hl602 0 rfl) ?_
    refine lv_bipush (v := 40) hx hb dX4_part_17 (by decide) ?_
    refine lv_icmp_ne (tgt := 45) hx hb dX4_part_19 (by decide) (fun c605 => ?_) (fun c605 => ?_)
    · have k606 := i_ne c605
      refine lv_aload_n hx hb dX4_part_45 rfl (lv_at hl602 1 rfl) ?_
      refine x_V (As := []) (rest := []) C (a_X4_sum l K G s.heap (F) (tat) (li) hT ga0 gmq emq gkq ekq etat eli hel0 (by omega) (by omega)) yo_X4_sum wM_X4_103 ⟨⟨by decide, by decide⟩, by decide, by decide⟩ (x_rv C hT (ci := 4) rfl ga0 rg_78) rfl hl602.1 rfl (Nat.le_of_ble_eq_true rfl) dX4_part_46 hS (AE_sub (fun _ _ => rfl) (by decide) hS.1) (fun vH607 H607 locsH607 pH607 zH607 kH607 hSH607 => ?_)
      obtain ⟨x608, x609, x610, hvH607, bx608, ex609, ex610, hrH607, m611, m612, hTH607⟩ := pH607
      subst hvH607
      have m613 := (fI_kept (x_lt hT kH607 gkq (by decide))).trans hel0
      have bx609 := ty_fi (x := x609) (k := 7) ex609 hTH607 ga0 rg_78 rfl
      have bx610 := ty_fi (x := x610) (k := 0) ex610 hTH607 gmq rg_69 rfl
      refine W.eq (g2 := F0 m 49 ls601 [.int x608]) rfl ?_
      refine lv_if_ne (tgt := 54) hx hb dX4_part_49 (by decide) (fun c614 => ?_) (fun c614 => ?_)
      · have k615 := i_ne c614
        refine lv_aload_n hx hb dX4_part_54 rfl (lv_at hl602 1 rfl) ?_
        refine x_gr C hTH607 (ci := 4) (k := 3) rfl inX4 (by decide) wF_X4_18 ga0 rg_78 rfl dX4_part_55 (fun q616 eq616 gq616 => ?_)
        have uq616 : kq = q616 := (m612).trans eq616.symm
        subst uq616
        refine lv_aload_n hx hb dX4_part_58 rfl (lv_at hl602 1 rfl) ?_
        refine x_gi C hTH607 (ci := 4) (k := 7) rfl inX4 (by decide) wF_X4_42 ga0 rg_78 rfl dX4_part_59 (fun x617 ex617 bx617 => ?_)
        have ux617 : x609 = x617 := (ex609).trans ex617.symm
        subst ux617
        refine x_ai C hTH607 gkq rg_79 ⟨by omega, by show _ < ((501 : Nat) : Int); omega⟩ dX4_part_62 (fun x618 ex618 bx618 => ?_)
        have dx618 := el_hit ex618 m613
        refine lv_istore_n (lv' := [(3, .int x618), (2, .int x600), (0, .ref a0), (1, .int x1)]) hx hb dX4_part_63 rfl hl602 (by decide) rfl (fun ls619 hl620 => ?_)
        refine lv_iload_n hx hb dX4_part_64 rfl (lv_at hl620 0 rfl) ?_
        refine lv_bipush (v := 60) hx hb dX4_part_65 (by decide) ?_
        refine lv_icmp_eq (tgt := 88) hx hb dX4_part_67 (by decide) (fun c621 => ?_) (fun c621 => ?_)
        · have k622 := i_eq c621
          exact J88 ls619 H607 locsH607 (x618) (x609) (x610) (lv_sub hl620 [2, 0] rfl) hTH607 hSH607 (by have := i_rng x618; omega) (by have := i_rng x609; omega) (by have := i_rng x610; omega) ex609 ex610 m611 m612 m613 (by omega)
        · have k622 := i_ne c621
          refine lv_iload_n hx hb dX4_part_70 rfl (lv_at hl620 0 rfl) ?_
          refine lv_bipush (v := 61) hx hb dX4_part_71 (by decide) ?_
          refine lv_icmp_eq (tgt := 88) hx hb dX4_part_73 (by decide) (fun c623 => ?_) (fun c623 => ?_)
          · have k624 := i_eq c623
            exact J88 ls619 H607 locsH607 (x618) (x609) (x610) (lv_sub hl620 [2, 0] rfl) hTH607 hSH607 (by have := i_rng x618; omega) (by have := i_rng x609; omega) (by have := i_rng x610; omega) ex609 ex610 m611 m612 m613 (by omega)
          · have k624 := i_ne c623
            refine lv_iload_n hx hb dX4_part_76 rfl (lv_at hl620 0 rfl) ?_
            refine lv_bipush (v := 62) hx hb dX4_part_77 (by decide) ?_
            refine lv_icmp_eq (tgt := 88) hx hb dX4_part_79 (by decide) (fun c625 => ?_) (fun c625 => ?_)
            · have k626 := i_eq c625
              exact J88 ls619 H607 locsH607 (x618) (x609) (x610) (lv_sub hl620 [2, 0] rfl) hTH607 hSH607 (by have := i_rng x618; omega) (by have := i_rng x609; omega) (by have := i_rng x610; omega) ex609 ex610 m611 m612 m613 (by omega)
            · have k626 := i_ne c625
              refine lv_aload_n hx hb dX4_part_82 rfl (lv_at hl620 2 rfl) ?_
              refine lv_iconst (v := 1) hx hb dX4_part_83 (by decide) ?_
              refine x_V (As := [.int 1]) (rest := []) C (a_X4_refuse l K G H607 (1) (x609) hTH607 ga0 gmq m611 gkq m612 ex609) yo_X4_refuse wM_X4_81 ⟨⟨by decide, by decide⟩, by decide, by decide⟩ (x_rv C hTH607 (ci := 4) rfl ga0 rg_78) rfl hl620.1 rfl (Nat.le_of_ble_eq_true rfl) dX4_part_84 hSH607 (AE_sub (fun _ _ => rfl) (by decide) hSH607.1) (fun vH627 H627 locsH627 pH627 zH627 kH627 hSH627 => ?_)
              obtain ⟨x628, x629, hvH627, bx628, ex629, hrH627, m630, m631, hTH627⟩ := pH627
              subst hvH627
              have m632 := (fI_kept (x_lt hTH607 kH627 gkq (by decide))).trans m613
              have m633 := (ex610).trans (fI_kept (x_lt hTH607 kH627 gmq (by decide))).symm
              have bx629 := ty_fi (x := x629) (k := 7) ex629 hTH627 ga0 rg_78 rfl
              refine W.eq (g2 := F0 m 87 ls619 [.int x628]) rfl ?_
              exact x_zret C hQ (i_01 (by omega)) dX4_part_87 hSH627 (by decide) (by decide) (⟨x628, x629, x610, rfl, by omega, ex629, m633, by omega, m630, m631, hTH627⟩)
      · have k615 := i_eq c614
        refine lv_iconst (v := 0) hx hb dX4_part_52 (by decide) ?_
        exact x_zret C hQ (Or.inl rfl) dX4_part_53 hSH607 (by decide) (by decide) (⟨0, x609, x610, rfl, by decide, ex609, ex610, by omega, m611, m612, hTH607⟩)
    · have k606 := i_eq c605
      exact J22 ls601 s.heap [] (x600) (tat) (li) (lv_sub hl602 [1, 2, 0] rfl) hT hS (by have := i_rng x600; omega) (by have := i_rng tat; omega) (by have := i_rng li; omega) etat eli emq ekq hel0 (by omega)

set_option maxHeartbeats 4000000 in
set_option maxRecDepth 100000 in
theorem a_X4_both_5 (l : Launch) (K : KE) (G : Nat → Option Nat) (H : Heap) {a0 : Nat} (x1 : Int32) {mq : Nat} {kq : Nat} (F : Int32) (tat : Int32) (li : Int32) (hT : TY K G H) (ga0 : G a0 = some 78) (hx1 : 5 ≤ x1.toInt ∧ x1.toInt ≤ 8) (gmq : G mq = some 69) (emq : mq = fR H a0 (K.1.2 4 0)) (gkq : G kq = some 79) (ekq : kq = fR H a0 (K.1.2 4 3)) (etat : tat = fI H a0 (K.1.2 4 7)) (eli : li = fI H mq (K.1.2 7 0)) (hel0 : fI H kq (F : Int32).toNatClampNeg = 26) (hp0 : tat.toInt ≤ F.toInt) (hp1 : F.toInt ≤ 500) : MX l K yX4_both cX4_both 3 (some .boolean) 16 358 0 0 [.ref a0, .int x1] H (AE G [78, 69, 77] H.size) (fun v H1 => ∃ (r : Int32) (t0 : Int32) (t1 : Int32), v = some (.int r) ∧ (0 ≤ r.toInt ∧ r.toInt ≤ 1) ∧ t0 = fI H1 a0 (K.1.2 4 7) ∧ t1 = fI H1 mq (K.1.2 7 0) ∧ (t0.toInt ≤ F.toInt ∧ t1.toInt = li.toInt) ∧ mq = fR H1 a0 (K.1.2 4 0) ∧ kq = fR H1 a0 (K.1.2 4 3) ∧ TY K G H1) := by
  refine MX.of (by decide +kernel) (Nat.le_of_ble_eq_true rfl) ?_
  intro p e s m below meth c ls Q C hH hl hQ
  subst hH
  have C : CX p K s m _ meth c RX4 cX4_both 3 (some .boolean) "both" := C
  obtain ⟨hx, hb, hml, hown, hts, hKT, hr, hlocks, hnm⟩ := id C
  have hl : lv_has ls 3 [(0, .ref a0), (1, .int x1)] := hl
  have hS : va_S (AE G [78, 69, 77] s.heap.size) s.heap s.heap [] := va_S.rf
  have n_0 : (0 : Int32).toInt = 0 := rfl
  have n_1 : (1 : Int32).toInt = 1 := rfl
  have n_9 : (9 : Int32).toInt = 9 := rfl
  have n_26 : (26 : Int32).toInt = 26 := rfl
  have n_500 : (500 : Int32).toInt = 500 := rfl
  have btat := ty_fi (x := tat) (k := 7) etat hT ga0 rg_78 rfl
  have bli := ty_fi (x := li) (k := 0) eli hT gmq rg_69 rfl
  have J12 : ∀ (nf : Nat) (ls1129 : Array Slot) (H1128 : Heap) (locsH1128 : List Loc) (x1131 : Int32) (x1132 : Int32) (x1133 : Int32), lv_has ls1129 3 [(0, .ref a0), (1, .int x1), (2, .int x1131)] → TY K G H1128 → va_S (AE G [78, 69, 77] s.heap.size) s.heap H1128 locsH1128 → (0 ≤ x1131.toInt ∧ x1131.toInt ≤ 500) → (0 ≤ x1132.toInt ∧ x1132.toInt ≤ 500) → (0 ≤ x1133.toInt ∧ x1133.toInt ≤ 16) → (x1132 = fI H1128 a0 (K.1.2 4 7)) → (x1133 = fI H1128 mq (K.1.2 7 0)) → (mq = fR H1128 a0 (K.1.2 4 0)) → (kq = fR H1128 a0 (K.1.2 4 3)) → (fI H1128 kq (F : Int32).toNatClampNeg = 26) → (500 - x1131.toInt < (nf : Int)) → (x1132.toInt ≤ F.toInt ∧ x1133.toInt = li.toInt) → W p l e ({ frames := 16, cells := 0, slots := 0, locals := 358 } : Room) s m (([.ref a0, .int x1] : List Value).toArray) below meth c H1128 locsH1128 0 0 Q (F0 m 12 ls1129 []) := by
    intro nf
    induction nf with
    | zero =>
      intro ls1129 H1128 locsH1128 x1131 x1132 x1133 hl1130 hTH1128 hSH1128 bx1131 bx1132 bx1133 ex1132 ex1133 cy1134_0 cy1134_1 cy1134_2 hm12 iv12
      exfalso
      omega
    | succ nf ih12 =>
      intro ls1129 H1128 locsH1128 x1131 x1132 x1133 hl1130 hTH1128 hSH1128 bx1131 bx1132 bx1133 ex1132 ex1133 cy1134_0 cy1134_1 cy1134_2 hm12 iv12
      have J69 : ∀ (ls1136 : Array Slot) (H1135 : Heap) (locsH1135 : List Loc) (x1138 : Int32) (x1139 : Int32), lv_has ls1136 3 [] → TY K G H1135 → va_S (AE G [78, 69, 77] s.heap.size) s.heap H1135 locsH1135 → (0 ≤ x1138.toInt ∧ x1138.toInt ≤ 500) → (0 ≤ x1139.toInt ∧ x1139.toInt ≤ 16) → (x1138 = fI H1135 a0 (K.1.2 4 7)) → (x1139 = fI H1135 mq (K.1.2 7 0)) → (mq = fR H1135 a0 (K.1.2 4 0)) → (kq = fR H1135 a0 (K.1.2 4 3)) → (fI H1135 kq (F : Int32).toNatClampNeg = 26) → (x1138.toInt ≤ F.toInt ∧ x1139.toInt = li.toInt) → W p l e ({ frames := 16, cells := 0, slots := 0, locals := 358 } : Room) s m (([.ref a0, .int x1] : List Value).toArray) below meth c H1135 locsH1135 0 0 Q (F0 m 69 ls1136 []) := by
        intro ls1136 H1135 locsH1135 x1138 x1139 hl1137 hTH1135 hSH1135 bx1138 bx1139 ex1138 ex1139 cy1140_0 cy1140_1 cy1140_2 iv69
        refine lv_iconst (v := 1) hx hb dX4_both_69 (by decide) ?_
        exact x_zret C hQ (Or.inr rfl) dX4_both_70 hSH1135 (by decide) (by decide) (⟨1, x1138, x1139, rfl, by decide, ex1138, ex1139, by omega, cy1140_0, cy1140_1, hTH1135⟩)
      refine lv_iload_n hx hb dX4_both_12 rfl (lv_at hl1130 2 rfl) ?_
      refine lv_sipush (v := 500) hx hb dX4_both_13 (by decide) ?_
      refine lv_icmp_ge (tgt := 69) hx hb dX4_both_16 (by decide) (fun c1141 => ?_) (fun c1141 => ?_)
      · have k1142 := i_le c1141
        exact J69 ls1129 H1128 locsH1128 (x1132) (x1133) (lv_sub hl1130 [] rfl) hTH1128 hSH1128 (by have := i_rng x1132; omega) (by have := i_rng x1133; omega) ex1132 ex1133 cy1134_0 cy1134_1 cy1134_2 (by omega)
      · have k1142 := i_nle c1141
        refine lv_aload_n hx hb dX4_both_19 rfl (lv_at hl1130 0 rfl) ?_
        refine x_gr C hTH1128 (ci := 4) (k := 3) rfl inX4 (by decide) wF_X4_18 ga0 rg_78 rfl dX4_both_20 (fun q1143 eq1143 gq1143 => ?_)
        have uq1143 : kq = q1143 := (cy1134_1).trans eq1143.symm
        subst uq1143
        refine lv_aload_n hx hb dX4_both_23 rfl (lv_at hl1130 0 rfl) ?_
        refine x_gi C hTH1128 (ci := 4) (k := 7) rfl inX4 (by decide) wF_X4_42 ga0 rg_78 rfl dX4_both_24 (fun x1144 ex1144 bx1144 => ?_)
        have ux1144 : x1132 = x1144 := (ex1132).trans ex1144.symm
        subst ux1144
        refine x_ai C hTH1128 gkq rg_79 ⟨by omega, by show _ < ((501 : Nat) : Int); omega⟩ dX4_both_27 (fun x1145 ex1145 bx1145 => ?_)
        have dx1145 := el_hit ex1145 cy1134_2
        refine lv_bipush (v := 9) hx hb dX4_both_28 (by decide) ?_
        refine lv_icmp_ne (tgt := 69) hx hb dX4_both_30 (by decide) (fun c1146 => ?_) (fun c1146 => ?_)
        · have k1147 := i_ne c1146
          exact J69 ls1129 H1128 locsH1128 (x1132) (x1133) (lv_sub hl1130 [] rfl) hTH1128 hSH1128 (by have := i_rng x1132; omega) (by have := i_rng x1133; omega) ex1132 ex1133 cy1134_0 cy1134_1 cy1134_2 (by omega)
        · have k1147 := i_eq c1146
          refine lv_aload_n hx hb dX4_both_33 rfl (lv_at hl1130 0 rfl) ?_
          refine lv_dup hx hb dX4_both_34 rfl ?_
          refine x_gi C hTH1128 (ci := 4) (k := 7) rfl inX4 (by decide) wF_X4_42 ga0 rg_78 rfl dX4_both_35 (fun x1148 ex1148 bx1148 => ?_)
          have ux1148 : x1132 = x1148 := (ex1132).trans ex1148.symm
          subst ux1148
          refine lv_iconst (v := 1) hx hb dX4_both_38 (by decide) ?_
          refine lv_iadd hx hb dX4_both_39 ?_
          refine lv_topi (fun x1149 ex1149 => ?_)
          have tx1149 := i_add ex1149 (by omega)
          have fz1151 : 0 ≤ x1149.toInt ∧ x1149.toInt ≤ 500 := by have := i_rng x1149; omega
          refine x_put C hTH1128 hSH1128 (ci := 4) (k := 7) (v := .int x1149) (ty0 := tyX4) rfl inX4 tyX4_ok nmX4 (by decide) rfl wF_X4_42 ga0 rg_78 rfl rfl (okI (by have := i_rng x1149; omega) (by have := i_rng x1149; omega)) rfl rfl (AE_in ga0 (by decide)) dX4_both_40 (fun H1150 locsH1150 hTH1150 hSH1150 wH1150 => ?_)
          have m1153 := ex1133.trans (Wr.neI wH1150 (Or.inl (G_ne gmq ga0 (by decide)))).symm
          have m1154 := cy1134_0.trans (Wr.neR wH1150 (Or.inr (x_apart hKT hts inX4 tyX4 tyX4_ok nmX4 rfl 0 7 (by decide) (by decide) (by decide)))).symm
          have m1155 := cy1134_1.trans (Wr.neR wH1150 (Or.inr (x_apart hKT hts inX4 tyX4 tyX4_ok nmX4 rfl 3 7 (by decide) (by decide) (by decide)))).symm
          have m1156 := (Wr.neI wH1150 (Or.inl (G_ne gkq ga0 (by decide)))).trans cy1134_2
          have m1157 := Wr.I wH1150
          have m1157 := m1157.symm
          refine lv_aload_n hx hb dX4_both_43 rfl (lv_at hl1130 0 rfl) ?_
          refine lv_iload_n hx hb dX4_both_44 rfl (lv_at hl1130 1 rfl) ?_
          refine x_V (As := [.int x1]) (rest := []) C (a_X4_part_5 l K G H1150 (x1) (F) (x1149) (x1133) hTH1150 ga0 (by omega) gmq m1154 gkq m1155 m1157 m1153 m1156 (by omega) (by omega)) yo_X4_part wM_X4_135 ⟨⟨by decide, by decide⟩, by decide, by decide⟩ (x_rv C hTH1150 (ci := 4) rfl ga0 rg_78) rfl hl1130.1 rfl (Nat.le_of_ble_eq_true rfl) dX4_both_45 hSH1150 (AE_sub (fun _ _ => rfl) (by decide) hSH1150.1) (fun vH1158 H1158 locsH1158 pH1158 zH1158 kH1158 hSH1158 => ?_)
          obtain ⟨x1159, x1160, x1161, hvH1158, bx1159, ex1160, ex1161, hrH1158, m1162, m1163, hTH1158⟩ := pH1158
          subst hvH1158
          have m1164 := (fI_kept (x_lt hTH1150 kH1158 gkq (by decide))).trans m1156
          have bx1160 := ty_fi (x := x1160) (k := 7) ex1160 hTH1158 ga0 rg_78 rfl
          have bx1161 := ty_fi (x := x1161) (k := 0) ex1161 hTH1158 gmq rg_69 rfl
          refine W.eq (g2 := F0 m 48 ls1129 [.int x1159]) rfl ?_
          refine lv_if_ne (tgt := 53) hx hb dX4_both_48 (by decide) (fun c1165 => ?_) (fun c1165 => ?_)
          · have k1166 := i_ne c1165
            refine lv_aload_n hx hb dX4_both_53 rfl (lv_at hl1130 0 rfl) ?_
            refine x_gr C hTH1158 (ci := 4) (k := 0) rfl inX4 (by decide) wF_X4_12 ga0 rg_78 rfl dX4_both_54 (fun q1167 eq1167 gq1167 => ?_)
            have uq1167 : mq = q1167 := (m1162).trans eq1167.symm
            subst uq1167
            refine lv_bipush (v := 9) hx hb dX4_both_57 (by decide) ?_
            refine lv_iconst (v := 0) hx hb dX4_both_59 (by decide) ?_
            refine x_V (As := [.int 9, .int 0]) (rest := []) C (a_X7_addStep l K G H1158 (9) (0) (x1161) hTH1158 gmq ex1161) yo_X7_addStep wM_X4_131 ⟨⟨by decide, by decide⟩, by decide, by decide⟩ (x_rv C hTH1158 (ci := 7) rfl gmq rg_69) rfl hl1130.1 rfl (Nat.le_of_ble_eq_true rfl) dX4_both_60 hSH1158 (AE_sub (fun _ _ => rfl) (by decide) hSH1158.1) (fun vH1168 H1168 locsH1168 pH1168 zH1168 kH1168 hSH1168 => ?_)
            obtain ⟨x1169, hvH1168, ex1169, hrH1168, hTH1168⟩ := pH1168
            subst hvH1168
            have m1170 := (fI_kept (x_lt hTH1158 kH1168 gkq (by decide))).trans m1164
            have m1171 := (m1162).trans (fR_kept (x_lt hTH1158 kH1168 ga0 (by decide))).symm
            have m1172 := (m1163).trans (fR_kept (x_lt hTH1158 kH1168 ga0 (by decide))).symm
            have m1173 := (ex1160).trans (fI_kept (x_lt hTH1158 kH1168 ga0 (by decide))).symm
            have bx1169 := ty_fi (x := x1169) (k := 0) ex1169 hTH1168 gmq rg_69 rfl
            refine W.eq (g2 := F0 m 63 ls1129 []) rfl ?_
            obtain ⟨x1174, ex1174⟩ : ∃ y : Int32, y = x1131 + 1 := ⟨_, rfl⟩
            have tx1174 := i_add ex1174 (by omega)
            refine lv_iinc (v := x1174) (lv' := [(2, .int x1174), (0, .ref a0), (1, .int x1)]) hx hb dX4_both_63 hl1130 (k := 2) rfl (by rw [ex1174]; rfl) (by decide) rfl (fun ls1175 hl1176 => ?_)
            refine lv_goto (tgt := 12) hx hb dX4_both_66 (by decide) ?_
            exact ih12 ls1175 H1168 locsH1168 (x1174) (x1160) (x1169) (lv_sub hl1176 [1, 2, 0] rfl) hTH1168 hSH1168 (by have := i_rng x1174; omega) (by have := i_rng x1160; omega) (by have := i_rng x1169; omega) m1173 ex1169 m1171 m1172 m1170 (by omega) (by omega)
          · have k1166 := i_eq c1165
            refine lv_iconst (v := 0) hx hb dX4_both_51 (by decide) ?_
            exact x_zret C hQ (Or.inl rfl) dX4_both_52 hSH1158 (by decide) (by decide) (⟨0, x1160, x1161, rfl, by decide, ex1160, ex1161, by omega, m1162, m1163, hTH1158⟩)
  refine lv_aload_n hx hb dX4_both_0 rfl (lv_at hl 0 rfl) ?_
  refine lv_iload_n hx hb dX4_both_1 rfl (lv_at hl 1 rfl) ?_
  refine x_V (As := [.int x1]) (rest := []) C (a_X4_part_5 l K G s.heap (x1) (F) (tat) (li) hT ga0 (by omega) gmq emq gkq ekq etat eli hel0 (by omega) (by omega)) yo_X4_part wM_X4_135 ⟨⟨by decide, by decide⟩, by decide, by decide⟩ (x_rv C hT (ci := 4) rfl ga0 rg_78) rfl hl.1 rfl (Nat.le_of_ble_eq_true rfl) dX4_both_2 hS (AE_sub (fun _ _ => rfl) (by decide) hS.1) (fun vH1177 H1177 locsH1177 pH1177 zH1177 kH1177 hSH1177 => ?_)
  obtain ⟨x1178, x1179, x1180, hvH1177, bx1178, ex1179, ex1180, hrH1177, m1181, m1182, hTH1177⟩ := pH1177
  subst hvH1177
  have m1183 := (fI_kept (x_lt hT kH1177 gkq (by decide))).trans hel0
  have bx1179 := ty_fi (x := x1179) (k := 7) ex1179 hTH1177 ga0 rg_78 rfl
  have bx1180 := ty_fi (x := x1180) (k := 0) ex1180 hTH1177 gmq rg_69 rfl
  refine W.eq (g2 := F0 m 5 ls [.int x1178]) rfl ?_
  refine lv_if_ne (tgt := 10) hx hb dX4_both_5 (by decide) (fun c1184 => ?_) (fun c1184 => ?_)
  · have k1185 := i_ne c1184
    refine lv_iconst (v := 0) hx hb dX4_both_10 (by decide) ?_
    refine lv_istore_n (lv' := [(2, .int 0), (0, .ref a0), (1, .int x1)]) hx hb dX4_both_11 rfl hl (by decide) rfl (fun ls1186 hl1187 => ?_)
    exact J12 ((500 - (0 : Int32).toInt).toNat + 1) ls1186 H1177 locsH1177 (0) (x1179) (x1180) (lv_sub hl1187 [1, 2, 0] rfl) hTH1177 hSH1177 (by decide) (by have := i_rng x1179; omega) (by have := i_rng x1180; omega) ex1179 ex1180 m1181 m1182 m1183 (by omega) (by omega)
  · have k1185 := i_eq c1184
    refine lv_iconst (v := 0) hx hb dX4_both_8 (by decide) ?_
    exact x_zret C hQ (Or.inl rfl) dX4_both_9 hSH1177 (by decide) (by decide) (⟨0, x1179, x1180, rfl, by decide, ex1179, ex1180, by omega, m1181, m1182, hTH1177⟩)

set_option maxHeartbeats 4000000 in
set_option maxRecDepth 100000 in
theorem a_X4_either_5 (l : Launch) (K : KE) (G : Nat → Option Nat) (H : Heap) {a0 : Nat} (x1 : Int32) {mq : Nat} {kq : Nat} (F : Int32) (tat : Int32) (li : Int32) (hT : TY K G H) (ga0 : G a0 = some 78) (hx1 : 5 ≤ x1.toInt ∧ x1.toInt ≤ 8) (gmq : G mq = some 69) (emq : mq = fR H a0 (K.1.2 4 0)) (gkq : G kq = some 79) (ekq : kq = fR H a0 (K.1.2 4 3)) (etat : tat = fI H a0 (K.1.2 4 7)) (eli : li = fI H mq (K.1.2 7 0)) (hel0 : fI H kq (F : Int32).toNatClampNeg = 26) (hp0 : tat.toInt ≤ F.toInt) (hp1 : F.toInt ≤ 500) : MX l K yX4_either cX4_either 3 (some .boolean) 17 380 0 0 [.ref a0, .int x1] H (AE G [78, 69, 77] H.size) (fun v H1 => ∃ (r : Int32) (t0 : Int32) (t1 : Int32), v = some (.int r) ∧ (0 ≤ r.toInt ∧ r.toInt ≤ 1) ∧ t0 = fI H1 a0 (K.1.2 4 7) ∧ t1 = fI H1 mq (K.1.2 7 0) ∧ (t0.toInt ≤ F.toInt ∧ t1.toInt = li.toInt) ∧ mq = fR H1 a0 (K.1.2 4 0) ∧ kq = fR H1 a0 (K.1.2 4 3) ∧ TY K G H1) := by
  refine MX.of (by decide +kernel) (Nat.le_of_ble_eq_true rfl) ?_
  intro p e s m below meth c ls Q C hH hl hQ
  subst hH
  have C : CX p K s m _ meth c RX4 cX4_either 3 (some .boolean) "either" := C
  obtain ⟨hx, hb, hml, hown, hts, hKT, hr, hlocks, hnm⟩ := id C
  have hl : lv_has ls 3 [(0, .ref a0), (1, .int x1)] := hl
  have hS : va_S (AE G [78, 69, 77] s.heap.size) s.heap s.heap [] := va_S.rf
  have n_0 : (0 : Int32).toInt = 0 := rfl
  have n_1 : (1 : Int32).toInt = 1 := rfl
  have n_8 : (8 : Int32).toInt = 8 := rfl
  have n_26 : (26 : Int32).toInt = 26 := rfl
  have n_500 : (500 : Int32).toInt = 500 := rfl
  have btat := ty_fi (x := tat) (k := 7) etat hT ga0 rg_78 rfl
  have bli := ty_fi (x := li) (k := 0) eli hT gmq rg_69 rfl
  have J12 : ∀ (nf : Nat) (ls1129 : Array Slot) (H1128 : Heap) (locsH1128 : List Loc) (x1131 : Int32) (x1132 : Int32) (x1133 : Int32), lv_has ls1129 3 [(0, .ref a0), (1, .int x1), (2, .int x1131)] → TY K G H1128 → va_S (AE G [78, 69, 77] s.heap.size) s.heap H1128 locsH1128 → (0 ≤ x1131.toInt ∧ x1131.toInt ≤ 500) → (0 ≤ x1132.toInt ∧ x1132.toInt ≤ 500) → (0 ≤ x1133.toInt ∧ x1133.toInt ≤ 16) → (x1132 = fI H1128 a0 (K.1.2 4 7)) → (x1133 = fI H1128 mq (K.1.2 7 0)) → (mq = fR H1128 a0 (K.1.2 4 0)) → (kq = fR H1128 a0 (K.1.2 4 3)) → (fI H1128 kq (F : Int32).toNatClampNeg = 26) → (500 - x1131.toInt < (nf : Int)) → (x1132.toInt ≤ F.toInt ∧ x1133.toInt = li.toInt) → W p l e ({ frames := 17, cells := 0, slots := 0, locals := 380 } : Room) s m (([.ref a0, .int x1] : List Value).toArray) below meth c H1128 locsH1128 0 0 Q (F0 m 12 ls1129 []) := by
    intro nf
    induction nf with
    | zero =>
      intro ls1129 H1128 locsH1128 x1131 x1132 x1133 hl1130 hTH1128 hSH1128 bx1131 bx1132 bx1133 ex1132 ex1133 cy1134_0 cy1134_1 cy1134_2 hm12 iv12
      exfalso
      omega
    | succ nf ih12 =>
      intro ls1129 H1128 locsH1128 x1131 x1132 x1133 hl1130 hTH1128 hSH1128 bx1131 bx1132 bx1133 ex1132 ex1133 cy1134_0 cy1134_1 cy1134_2 hm12 iv12
      have J69 : ∀ (ls1136 : Array Slot) (H1135 : Heap) (locsH1135 : List Loc) (x1138 : Int32) (x1139 : Int32), lv_has ls1136 3 [] → TY K G H1135 → va_S (AE G [78, 69, 77] s.heap.size) s.heap H1135 locsH1135 → (0 ≤ x1138.toInt ∧ x1138.toInt ≤ 500) → (0 ≤ x1139.toInt ∧ x1139.toInt ≤ 16) → (x1138 = fI H1135 a0 (K.1.2 4 7)) → (x1139 = fI H1135 mq (K.1.2 7 0)) → (mq = fR H1135 a0 (K.1.2 4 0)) → (kq = fR H1135 a0 (K.1.2 4 3)) → (fI H1135 kq (F : Int32).toNatClampNeg = 26) → (x1138.toInt ≤ F.toInt ∧ x1139.toInt = li.toInt) → W p l e ({ frames := 17, cells := 0, slots := 0, locals := 380 } : Room) s m (([.ref a0, .int x1] : List Value).toArray) below meth c H1135 locsH1135 0 0 Q (F0 m 69 ls1136 []) := by
        intro ls1136 H1135 locsH1135 x1138 x1139 hl1137 hTH1135 hSH1135 bx1138 bx1139 ex1138 ex1139 cy1140_0 cy1140_1 cy1140_2 iv69
        refine lv_iconst (v := 1) hx hb dX4_either_69 (by decide) ?_
        exact x_zret C hQ (Or.inr rfl) dX4_either_70 hSH1135 (by decide) (by decide) (⟨1, x1138, x1139, rfl, by decide, ex1138, ex1139, by omega, cy1140_0, cy1140_1, hTH1135⟩)
      refine lv_iload_n hx hb dX4_either_12 rfl (lv_at hl1130 2 rfl) ?_
      refine lv_sipush (v := 500) hx hb dX4_either_13 (by decide) ?_
      refine lv_icmp_ge (tgt := 69) hx hb dX4_either_16 (by decide) (fun c1141 => ?_) (fun c1141 => ?_)
      · have k1142 := i_le c1141
        exact J69 ls1129 H1128 locsH1128 (x1132) (x1133) (lv_sub hl1130 [] rfl) hTH1128 hSH1128 (by have := i_rng x1132; omega) (by have := i_rng x1133; omega) ex1132 ex1133 cy1134_0 cy1134_1 cy1134_2 (by omega)
      · have k1142 := i_nle c1141
        refine lv_aload_n hx hb dX4_either_19 rfl (lv_at hl1130 0 rfl) ?_
        refine x_gr C hTH1128 (ci := 4) (k := 3) rfl inX4 (by decide) wF_X4_18 ga0 rg_78 rfl dX4_either_20 (fun q1143 eq1143 gq1143 => ?_)
        have uq1143 : kq = q1143 := (cy1134_1).trans eq1143.symm
        subst uq1143
        refine lv_aload_n hx hb dX4_either_23 rfl (lv_at hl1130 0 rfl) ?_
        refine x_gi C hTH1128 (ci := 4) (k := 7) rfl inX4 (by decide) wF_X4_42 ga0 rg_78 rfl dX4_either_24 (fun x1144 ex1144 bx1144 => ?_)
        have ux1144 : x1132 = x1144 := (ex1132).trans ex1144.symm
        subst ux1144
        refine x_ai C hTH1128 gkq rg_79 ⟨by omega, by show _ < ((501 : Nat) : Int); omega⟩ dX4_either_27 (fun x1145 ex1145 bx1145 => ?_)
        have dx1145 := el_hit ex1145 cy1134_2
        refine lv_bipush (v := 8) hx hb dX4_either_28 (by decide) ?_
        refine lv_icmp_ne (tgt := 69) hx hb dX4_either_30 (by decide) (fun c1146 => ?_) (fun c1146 => ?_)
        · have k1147 := i_ne c1146
          exact J69 ls1129 H1128 locsH1128 (x1132) (x1133) (lv_sub hl1130 [] rfl) hTH1128 hSH1128 (by have := i_rng x1132; omega) (by have := i_rng x1133; omega) ex1132 ex1133 cy1134_0 cy1134_1 cy1134_2 (by omega)
        · have k1147 := i_eq c1146
          refine lv_aload_n hx hb dX4_either_33 rfl (lv_at hl1130 0 rfl) ?_
          refine lv_dup hx hb dX4_either_34 rfl ?_
          refine x_gi C hTH1128 (ci := 4) (k := 7) rfl inX4 (by decide) wF_X4_42 ga0 rg_78 rfl dX4_either_35 (fun x1148 ex1148 bx1148 => ?_)
          have ux1148 : x1132 = x1148 := (ex1132).trans ex1148.symm
          subst ux1148
          refine lv_iconst (v := 1) hx hb dX4_either_38 (by decide) ?_
          refine lv_iadd hx hb dX4_either_39 ?_
          refine lv_topi (fun x1149 ex1149 => ?_)
          have tx1149 := i_add ex1149 (by omega)
          have fz1151 : 0 ≤ x1149.toInt ∧ x1149.toInt ≤ 500 := by have := i_rng x1149; omega
          refine x_put C hTH1128 hSH1128 (ci := 4) (k := 7) (v := .int x1149) (ty0 := tyX4) rfl inX4 tyX4_ok nmX4 (by decide) rfl wF_X4_42 ga0 rg_78 rfl rfl (okI (by have := i_rng x1149; omega) (by have := i_rng x1149; omega)) rfl rfl (AE_in ga0 (by decide)) dX4_either_40 (fun H1150 locsH1150 hTH1150 hSH1150 wH1150 => ?_)
          have m1153 := ex1133.trans (Wr.neI wH1150 (Or.inl (G_ne gmq ga0 (by decide)))).symm
          have m1154 := cy1134_0.trans (Wr.neR wH1150 (Or.inr (x_apart hKT hts inX4 tyX4 tyX4_ok nmX4 rfl 0 7 (by decide) (by decide) (by decide)))).symm
          have m1155 := cy1134_1.trans (Wr.neR wH1150 (Or.inr (x_apart hKT hts inX4 tyX4 tyX4_ok nmX4 rfl 3 7 (by decide) (by decide) (by decide)))).symm
          have m1156 := (Wr.neI wH1150 (Or.inl (G_ne gkq ga0 (by decide)))).trans cy1134_2
          have m1157 := Wr.I wH1150
          have m1157 := m1157.symm
          refine lv_aload_n hx hb dX4_either_43 rfl (lv_at hl1130 0 rfl) ?_
          refine lv_iload_n hx hb dX4_either_44 rfl (lv_at hl1130 1 rfl) ?_
          refine x_V (As := [.int x1]) (rest := []) C (a_X4_both_5 l K G H1150 (x1) (F) (x1149) (x1133) hTH1150 ga0 (by omega) gmq m1154 gkq m1155 m1157 m1153 m1156 (by omega) (by omega)) yo_X4_both wM_X4_128 ⟨⟨by decide, by decide⟩, by decide, by decide⟩ (x_rv C hTH1150 (ci := 4) rfl ga0 rg_78) rfl hl1130.1 rfl (Nat.le_of_ble_eq_true rfl) dX4_either_45 hSH1150 (AE_sub (fun _ _ => rfl) (by decide) hSH1150.1) (fun vH1158 H1158 locsH1158 pH1158 zH1158 kH1158 hSH1158 => ?_)
          obtain ⟨x1159, x1160, x1161, hvH1158, bx1159, ex1160, ex1161, hrH1158, m1162, m1163, hTH1158⟩ := pH1158
          subst hvH1158
          have m1164 := (fI_kept (x_lt hTH1150 kH1158 gkq (by decide))).trans m1156
          have bx1160 := ty_fi (x := x1160) (k := 7) ex1160 hTH1158 ga0 rg_78 rfl
          have bx1161 := ty_fi (x := x1161) (k := 0) ex1161 hTH1158 gmq rg_69 rfl
          refine W.eq (g2 := F0 m 48 ls1129 [.int x1159]) rfl ?_
          refine lv_if_ne (tgt := 53) hx hb dX4_either_48 (by decide) (fun c1165 => ?_) (fun c1165 => ?_)
          · have k1166 := i_ne c1165
            refine lv_aload_n hx hb dX4_either_53 rfl (lv_at hl1130 0 rfl) ?_
            refine x_gr C hTH1158 (ci := 4) (k := 0) rfl inX4 (by decide) wF_X4_12 ga0 rg_78 rfl dX4_either_54 (fun q1167 eq1167 gq1167 => ?_)
            have uq1167 : mq = q1167 := (m1162).trans eq1167.symm
            subst uq1167
            refine lv_bipush (v := 8) hx hb dX4_either_57 (by decide) ?_
            refine lv_iconst (v := 0) hx hb dX4_either_59 (by decide) ?_
            refine x_V (As := [.int 8, .int 0]) (rest := []) C (a_X7_addStep l K G H1158 (8) (0) (x1161) hTH1158 gmq ex1161) yo_X7_addStep wM_X4_131 ⟨⟨by decide, by decide⟩, by decide, by decide⟩ (x_rv C hTH1158 (ci := 7) rfl gmq rg_69) rfl hl1130.1 rfl (Nat.le_of_ble_eq_true rfl) dX4_either_60 hSH1158 (AE_sub (fun _ _ => rfl) (by decide) hSH1158.1) (fun vH1168 H1168 locsH1168 pH1168 zH1168 kH1168 hSH1168 => ?_)
            obtain ⟨x1169, hvH1168, ex1169, hrH1168, hTH1168⟩ := pH1168
            subst hvH1168
            have m1170 := (fI_kept (x_lt hTH1158 kH1168 gkq (by decide))).trans m1164
            have m1171 := (m1162).trans (fR_kept (x_lt hTH1158 kH1168 ga0 (by decide))).symm
            have m1172 := (m1163).trans (fR_kept (x_lt hTH1158 kH1168 ga0 (by decide))).symm
            have m1173 := (ex1160).trans (fI_kept (x_lt hTH1158 kH1168 ga0 (by decide))).symm
            have bx1169 := ty_fi (x := x1169) (k := 0) ex1169 hTH1168 gmq rg_69 rfl
            refine W.eq (g2 := F0 m 63 ls1129 []) rfl ?_
            obtain ⟨x1174, ex1174⟩ : ∃ y : Int32, y = x1131 + 1 := ⟨_, rfl⟩
            have tx1174 := i_add ex1174 (by omega)
            refine lv_iinc (v := x1174) (lv' := [(2, .int x1174), (0, .ref a0), (1, .int x1)]) hx hb dX4_either_63 hl1130 (k := 2) rfl (by rw [ex1174]; rfl) (by decide) rfl (fun ls1175 hl1176 => ?_)
            refine lv_goto (tgt := 12) hx hb dX4_either_66 (by decide) ?_
            exact ih12 ls1175 H1168 locsH1168 (x1174) (x1160) (x1169) (lv_sub hl1176 [1, 2, 0] rfl) hTH1168 hSH1168 (by have := i_rng x1174; omega) (by have := i_rng x1160; omega) (by have := i_rng x1169; omega) m1173 ex1169 m1171 m1172 m1170 (by omega) (by omega)
          · have k1166 := i_eq c1165
            refine lv_iconst (v := 0) hx hb dX4_either_51 (by decide) ?_
            exact x_zret C hQ (Or.inl rfl) dX4_either_52 hSH1158 (by decide) (by decide) (⟨0, x1160, x1161, rfl, by decide, ex1160, ex1161, by omega, m1162, m1163, hTH1158⟩)
  refine lv_aload_n hx hb dX4_either_0 rfl (lv_at hl 0 rfl) ?_
  refine lv_iload_n hx hb dX4_either_1 rfl (lv_at hl 1 rfl) ?_
  refine x_V (As := [.int x1]) (rest := []) C (a_X4_both_5 l K G s.heap (x1) (F) (tat) (li) hT ga0 (by omega) gmq emq gkq ekq etat eli hel0 (by omega) (by omega)) yo_X4_both wM_X4_128 ⟨⟨by decide, by decide⟩, by decide, by decide⟩ (x_rv C hT (ci := 4) rfl ga0 rg_78) rfl hl.1 rfl (Nat.le_of_ble_eq_true rfl) dX4_either_2 hS (AE_sub (fun _ _ => rfl) (by decide) hS.1) (fun vH1177 H1177 locsH1177 pH1177 zH1177 kH1177 hSH1177 => ?_)
  obtain ⟨x1178, x1179, x1180, hvH1177, bx1178, ex1179, ex1180, hrH1177, m1181, m1182, hTH1177⟩ := pH1177
  subst hvH1177
  have m1183 := (fI_kept (x_lt hT kH1177 gkq (by decide))).trans hel0
  have bx1179 := ty_fi (x := x1179) (k := 7) ex1179 hTH1177 ga0 rg_78 rfl
  have bx1180 := ty_fi (x := x1180) (k := 0) ex1180 hTH1177 gmq rg_69 rfl
  refine W.eq (g2 := F0 m 5 ls [.int x1178]) rfl ?_
  refine lv_if_ne (tgt := 10) hx hb dX4_either_5 (by decide) (fun c1184 => ?_) (fun c1184 => ?_)
  · have k1185 := i_ne c1184
    refine lv_iconst (v := 0) hx hb dX4_either_10 (by decide) ?_
    refine lv_istore_n (lv' := [(2, .int 0), (0, .ref a0), (1, .int x1)]) hx hb dX4_either_11 rfl hl (by decide) rfl (fun ls1186 hl1187 => ?_)
    exact J12 ((500 - (0 : Int32).toInt).toNat + 1) ls1186 H1177 locsH1177 (0) (x1179) (x1180) (lv_sub hl1187 [1, 2, 0] rfl) hTH1177 hSH1177 (by decide) (by have := i_rng x1179; omega) (by have := i_rng x1180; omega) ex1179 ex1180 m1181 m1182 m1183 (by omega) (by omega)
  · have k1185 := i_eq c1184
    refine lv_iconst (v := 0) hx hb dX4_either_8 (by decide) ?_
    exact x_zret C hQ (Or.inl rfl) dX4_either_9 hSH1177 (by decide) (by decide) (⟨0, x1179, x1180, rfl, by decide, ex1179, ex1180, by omega, m1181, m1182, hTH1177⟩)

set_option maxHeartbeats 4000000 in
set_option maxRecDepth 100000 in
theorem a_X4_opened_5 (l : Launch) (K : KE) (G : Nat → Option Nat) (H : Heap) {a0 : Nat} (x1 : Int32) (x2 : Int32) {mq : Nat} {kq : Nat} (F : Int32) (tat : Int32) (li : Int32) (hT : TY K G H) (ga0 : G a0 = some 78) (hx2 : 5 ≤ x2.toInt ∧ x2.toInt ≤ 8) (gmq : G mq = some 69) (emq : mq = fR H a0 (K.1.2 4 0)) (gkq : G kq = some 79) (ekq : kq = fR H a0 (K.1.2 4 3)) (etat : tat = fI H a0 (K.1.2 4 7)) (eli : li = fI H mq (K.1.2 7 0)) (hel0 : fI H kq (F : Int32).toNatClampNeg = 26) (hp0 : tat.toInt < F.toInt) (hp1 : F.toInt ≤ 500) : MX l K yX4_opened cX4_opened 3 (some .boolean) 18 402 0 0 [.ref a0, .int x1, .int x2] H (AE G [78, 69, 77] H.size) (fun v H1 => ∃ (r : Int32) (t0 : Int32) (t1 : Int32), v = some (.int r) ∧ (0 ≤ r.toInt ∧ r.toInt ≤ 1) ∧ t0 = fI H1 a0 (K.1.2 4 7) ∧ t1 = fI H1 mq (K.1.2 7 0) ∧ (t0.toInt ≤ F.toInt ∧ t1.toInt = li.toInt) ∧ mq = fR H1 a0 (K.1.2 4 0) ∧ kq = fR H1 a0 (K.1.2 4 3) ∧ TY K G H1) := by
  refine MX.of (by decide +kernel) (Nat.le_of_ble_eq_true rfl) ?_
  intro p e s m below meth c ls Q C hH hl hQ
  subst hH
  have C : CX p K s m _ meth c RX4 cX4_opened 3 (some .boolean) "opened" := C
  obtain ⟨hx, hb, hml, hown, hts, hKT, hr, hlocks, hnm⟩ := id C
  have hl : lv_has ls 3 [(0, .ref a0), (1, .int x1), (2, .int x2)] := hl
  have hS : va_S (AE G [78, 69, 77] s.heap.size) s.heap s.heap [] := va_S.rf
  have n_0 : (0 : Int32).toInt = 0 := rfl
  have n_1 : (1 : Int32).toInt = 1 := rfl
  have n_10 : (10 : Int32).toInt = 10 := rfl
  have n_26 : (26 : Int32).toInt = 26 := rfl
  have n_41 : (41 : Int32).toInt = 41 := rfl
  have btat := ty_fi (x := tat) (k := 7) etat hT ga0 rg_78 rfl
  have bli := ty_fi (x := li) (k := 0) eli hT gmq rg_69 rfl
  refine lv_aload_n hx hb dX4_opened_0 rfl (lv_at hl 0 rfl) ?_
  refine lv_dup hx hb dX4_opened_1 rfl ?_
  refine x_gi C hT (ci := 4) (k := 7) rfl inX4 (by decide) wF_X4_42 ga0 rg_78 rfl dX4_opened_2 (fun x337 ex337 bx337 => ?_)
  have ux337 : tat = x337 := (etat).trans ex337.symm
  subst ux337
  refine lv_iconst (v := 1) hx hb dX4_opened_5 (by decide) ?_
  refine lv_iadd hx hb dX4_opened_6 ?_
  refine lv_topi (fun x338 ex338 => ?_)
  have tx338 := i_add ex338 (by omega)
  have fz340 : 0 ≤ x338.toInt ∧ x338.toInt ≤ 500 := by have := i_rng x338; omega
  refine x_put C hT hS (ci := 4) (k := 7) (v := .int x338) (ty0 := tyX4) rfl inX4 tyX4_ok nmX4 (by decide) rfl wF_X4_42 ga0 rg_78 rfl rfl (okI (by have := i_rng x338; omega) (by have := i_rng x338; omega)) rfl rfl (AE_in ga0 (by decide)) dX4_opened_7 (fun H339 locsH339 hTH339 hSH339 wH339 => ?_)
  have m341 := emq.trans (Wr.neR wH339 (Or.inr (x_apart hKT hts inX4 tyX4 tyX4_ok nmX4 rfl 0 7 (by decide) (by decide) (by decide)))).symm
  have m342 := ekq.trans (Wr.neR wH339 (Or.inr (x_apart hKT hts inX4 tyX4 tyX4_ok nmX4 rfl 3 7 (by decide) (by decide) (by decide)))).symm
  have m344 := eli.trans (Wr.neI wH339 (Or.inl (G_ne gmq ga0 (by decide)))).symm
  have m345 := (Wr.neI wH339 (Or.inl (G_ne gkq ga0 (by decide)))).trans hel0
  have m346 := Wr.I wH339
  have m346 := m346.symm
  refine lv_iload_n hx hb dX4_opened_10 rfl (lv_at hl 1 rfl) ?_
  refine lv_bipush (v := 10) hx hb dX4_opened_11 (by decide) ?_
  refine lv_icmp_ne (tgt := 38) hx hb dX4_opened_13 (by decide) (fun c347 => ?_) (fun c347 => ?_)
  · have k348 := i_ne c347
    refine lv_aload_n hx hb dX4_opened_38 rfl (lv_at hl 0 rfl) ?_
    refine lv_iload_n hx hb dX4_opened_39 rfl (lv_at hl 2 rfl) ?_
    refine x_V (As := [.int x2]) (rest := []) C (a_X4_either_5 l K G H339 (x2) (F) (x338) (li) hTH339 ga0 (by omega) gmq m341 gkq m342 m346 m344 m345 (by omega) (by omega)) yo_X4_either wM_X4_113 ⟨⟨by decide, by decide⟩, by decide, by decide⟩ (x_rv C hTH339 (ci := 4) rfl ga0 rg_78) rfl hl.1 rfl (Nat.le_of_ble_eq_true rfl) dX4_opened_40 hSH339 (AE_sub (fun _ _ => rfl) (by decide) hSH339.1) (fun vH349 H349 locsH349 pH349 zH349 kH349 hSH349 => ?_)
    obtain ⟨x350, x351, x352, hvH349, bx350, ex351, ex352, hrH349, m353, m354, hTH349⟩ := pH349
    subst hvH349
    have m355 := (fI_kept (x_lt hTH339 kH349 gkq (by decide))).trans m345
    have bx351 := ty_fi (x := x351) (k := 7) ex351 hTH349 ga0 rg_78 rfl
    have bx352 := ty_fi (x := x352) (k := 0) ex352 hTH349 gmq rg_69 rfl
    refine W.eq (g2 := F0 m 43 ls [.int x350]) rfl ?_
    refine lv_if_ne (tgt := 48) hx hb dX4_opened_43 (by decide) (fun c356 => ?_) (fun c356 => ?_)
    · have k357 := i_ne c356
      refine lv_aload_n hx hb dX4_opened_48 rfl (lv_at hl 0 rfl) ?_
      refine x_gr C hTH349 (ci := 4) (k := 3) rfl inX4 (by decide) wF_X4_18 ga0 rg_78 rfl dX4_opened_49 (fun q358 eq358 gq358 => ?_)
      have uq358 : kq = q358 := (m354).trans eq358.symm
      subst uq358
      refine lv_aload_n hx hb dX4_opened_52 rfl (lv_at hl 0 rfl) ?_
      refine x_gi C hTH349 (ci := 4) (k := 7) rfl inX4 (by decide) wF_X4_42 ga0 rg_78 rfl dX4_opened_53 (fun x359 ex359 bx359 => ?_)
      have ux359 : x351 = x359 := (ex351).trans ex359.symm
      subst ux359
      refine x_ai C hTH349 gkq rg_79 ⟨by omega, by show _ < ((501 : Nat) : Int); omega⟩ dX4_opened_56 (fun x360 ex360 bx360 => ?_)
      have dx360 := el_hit ex360 m355
      refine lv_bipush (v := 41) hx hb dX4_opened_57 (by decide) ?_
      refine lv_icmp_eq (tgt := 68) hx hb dX4_opened_59 (by decide) (fun c361 => ?_) (fun c361 => ?_)
      · have k362 := i_eq c361
        refine lv_aload_n hx hb dX4_opened_68 rfl (lv_at hl 0 rfl) ?_
        refine lv_dup hx hb dX4_opened_69 rfl ?_
        refine x_gi C hTH349 (ci := 4) (k := 7) rfl inX4 (by decide) wF_X4_42 ga0 rg_78 rfl dX4_opened_70 (fun x363 ex363 bx363 => ?_)
        have ux363 : x351 = x363 := (ex351).trans ex363.symm
        subst ux363
        refine lv_iconst (v := 1) hx hb dX4_opened_73 (by decide) ?_
        refine lv_iadd hx hb dX4_opened_74 ?_
        refine lv_topi (fun x364 ex364 => ?_)
        have tx364 := i_add ex364 (by omega)
        have fz366 : 0 ≤ x364.toInt ∧ x364.toInt ≤ 500 := by have := i_rng x364; omega
        refine x_put C hTH349 hSH349 (ci := 4) (k := 7) (v := .int x364) (ty0 := tyX4) rfl inX4 tyX4_ok nmX4 (by decide) rfl wF_X4_42 ga0 rg_78 rfl rfl (okI (by have := i_rng x364; omega) (by have := i_rng x364; omega)) rfl rfl (AE_in ga0 (by decide)) dX4_opened_75 (fun H365 locsH365 hTH365 hSH365 wH365 => ?_)
        have m367 := (Wr.neI wH365 (Or.inl (G_ne gkq ga0 (by decide)))).trans m355
        have m368 := m353.trans (Wr.neR wH365 (Or.inr (x_apart hKT hts inX4 tyX4 tyX4_ok nmX4 rfl 0 7 (by decide) (by decide) (by decide)))).symm
        have m369 := m354.trans (Wr.neR wH365 (Or.inr (x_apart hKT hts inX4 tyX4 tyX4_ok nmX4 rfl 3 7 (by decide) (by decide) (by decide)))).symm
        have m371 := ex352.trans (Wr.neI wH365 (Or.inl (G_ne gmq ga0 (by decide)))).symm
        have m372 := Wr.I wH365
        have m372 := m372.symm
        refine lv_iconst (v := 1) hx hb dX4_opened_78 (by decide) ?_
        exact x_zret C hQ (Or.inr rfl) dX4_opened_79 hSH365 (by decide) (by decide) (⟨1, x364, x352, rfl, by decide, m372, m371, by omega, m368, m369, hTH365⟩)
      · have k362 := i_ne c361
        refine lv_aload_n hx hb dX4_opened_62 rfl (lv_at hl 0 rfl) ?_
        refine lv_iconst (v := 1) hx hb dX4_opened_63 (by decide) ?_
        refine x_V (As := [.int 1]) (rest := []) C (a_X4_refuse l K G H349 (1) (x351) hTH349 ga0 gmq m353 gkq m354 ex351) yo_X4_refuse wM_X4_81 ⟨⟨by decide, by decide⟩, by decide, by decide⟩ (x_rv C hTH349 (ci := 4) rfl ga0 rg_78) rfl hl.1 rfl (Nat.le_of_ble_eq_true rfl) dX4_opened_64 hSH349 (AE_sub (fun _ _ => rfl) (by decide) hSH349.1) (fun vH373 H373 locsH373 pH373 zH373 kH373 hSH373 => ?_)
        obtain ⟨x374, x375, hvH373, bx374, ex375, hrH373, m376, m377, hTH373⟩ := pH373
        subst hvH373
        have m378 := (fI_kept (x_lt hTH349 kH373 gkq (by decide))).trans m355
        have m379 := (ex352).trans (fI_kept (x_lt hTH349 kH373 gmq (by decide))).symm
        have bx375 := ty_fi (x := x375) (k := 7) ex375 hTH373 ga0 rg_78 rfl
        refine W.eq (g2 := F0 m 67 ls [.int x374]) rfl ?_
        exact x_zret C hQ (i_01 (by omega)) dX4_opened_67 hSH373 (by decide) (by decide) (⟨x374, x375, x352, rfl, by omega, ex375, m379, by omega, m376, m377, hTH373⟩)
    · have k357 := i_eq c356
      refine lv_iconst (v := 0) hx hb dX4_opened_46 (by decide) ?_
      exact x_zret C hQ (Or.inl rfl) dX4_opened_47 hSH349 (by decide) (by decide) (⟨0, x351, x352, rfl, by decide, ex351, ex352, by omega, m353, m354, hTH349⟩)
  · have k348 := i_eq c347
    refine lv_aload_n hx hb dX4_opened_16 rfl (lv_at hl 0 rfl) ?_
    refine lv_iload_n hx hb dX4_opened_17 rfl (lv_at hl 2 rfl) ?_
    refine x_V (As := [.int x2]) (rest := []) C (a_X4_part_5 l K G H339 (x2) (F) (x338) (li) hTH339 ga0 (by omega) gmq m341 gkq m342 m346 m344 m345 (by omega) (by omega)) yo_X4_part wM_X4_135 ⟨⟨by decide, by decide⟩, by decide, by decide⟩ (x_rv C hTH339 (ci := 4) rfl ga0 rg_78) rfl hl.1 rfl (Nat.le_of_ble_eq_true rfl) dX4_opened_18 hSH339 (AE_sub (fun _ _ => rfl) (by decide) hSH339.1) (fun vH380 H380 locsH380 pH380 zH380 kH380 hSH380 => ?_)
    obtain ⟨x381, x382, x383, hvH380, bx381, ex382, ex383, hrH380, m384, m385, hTH380⟩ := pH380
    subst hvH380
    have m386 := (fI_kept (x_lt hTH339 kH380 gkq (by decide))).trans m345
    have bx382 := ty_fi (x := x382) (k := 7) ex382 hTH380 ga0 rg_78 rfl
    have bx383 := ty_fi (x := x383) (k := 0) ex383 hTH380 gmq rg_69 rfl
    refine W.eq (g2 := F0 m 21 ls [.int x381]) rfl ?_
    refine lv_if_ne (tgt := 26) hx hb dX4_opened_21 (by decide) (fun c387 => ?_) (fun c387 => ?_)
    · have k388 := i_ne c387
      refine lv_aload_n hx hb dX4_opened_26 rfl (lv_at hl 0 rfl) ?_
      refine x_gr C hTH380 (ci := 4) (k := 0) rfl inX4 (by decide) wF_X4_12 ga0 rg_78 rfl dX4_opened_27 (fun q389 eq389 gq389 => ?_)
      have uq389 : mq = q389 := (m384).trans eq389.symm
      subst uq389
      refine lv_bipush (v := 10) hx hb dX4_opened_30 (by decide) ?_
      refine lv_iconst (v := 0) hx hb dX4_opened_32 (by decide) ?_
      refine x_V (As := [.int 10, .int 0]) (rest := []) C (a_X7_addStep l K G H380 (10) (0) (x383) hTH380 gmq ex383) yo_X7_addStep wM_X4_131 ⟨⟨by decide, by decide⟩, by decide, by decide⟩ (x_rv C hTH380 (ci := 7) rfl gmq rg_69) rfl hl.1 rfl (Nat.le_of_ble_eq_true rfl) dX4_opened_33 hSH380 (AE_sub (fun _ _ => rfl) (by decide) hSH380.1) (fun vH390 H390 locsH390 pH390 zH390 kH390 hSH390 => ?_)
      obtain ⟨x391, hvH390, ex391, hrH390, hTH390⟩ := pH390
      subst hvH390
      have m392 := (fI_kept (x_lt hTH380 kH390 gkq (by decide))).trans m386
      have m393 := (m384).trans (fR_kept (x_lt hTH380 kH390 ga0 (by decide))).symm
      have m394 := (m385).trans (fR_kept (x_lt hTH380 kH390 ga0 (by decide))).symm
      have m395 := (ex382).trans (fI_kept (x_lt hTH380 kH390 ga0 (by decide))).symm
      have bx391 := ty_fi (x := x391) (k := 0) ex391 hTH390 gmq rg_69 rfl
      refine W.eq (g2 := F0 m 36 ls []) rfl ?_
      refine lv_iconst (v := 1) hx hb dX4_opened_36 (by decide) ?_
      exact x_zret C hQ (Or.inr rfl) dX4_opened_37 hSH390 (by decide) (by decide) (⟨1, x382, x391, rfl, by decide, m395, ex391, by omega, m393, m394, hTH390⟩)
    · have k388 := i_eq c387
      refine lv_iconst (v := 0) hx hb dX4_opened_24 (by decide) ?_
      exact x_zret C hQ (Or.inl rfl) dX4_opened_25 hSH380 (by decide) (by decide) (⟨0, x382, x383, rfl, by decide, ex382, ex383, by omega, m384, m385, hTH380⟩)

set_option maxHeartbeats 4000000 in
set_option maxRecDepth 100000 in
theorem a_X4_part_4 (l : Launch) (K : KE) (G : Nat → Option Nat) (H : Heap) {a0 : Nat} (x1 : Int32) {mq : Nat} {kq : Nat} (F : Int32) (tat : Int32) (li : Int32) (hT : TY K G H) (ga0 : G a0 = some 78) (hx1 : 4 ≤ x1.toInt ∧ x1.toInt ≤ 8) (gmq : G mq = some 69) (emq : mq = fR H a0 (K.1.2 4 0)) (gkq : G kq = some 79) (ekq : kq = fR H a0 (K.1.2 4 3)) (etat : tat = fI H a0 (K.1.2 4 7)) (eli : li = fI H mq (K.1.2 7 0)) (hel0 : fI H kq (F : Int32).toNatClampNeg = 26) (hp0 : tat.toInt ≤ F.toInt) (hp1 : F.toInt ≤ 500) : MX l K yX4_part cX4_part 4 (some .boolean) 19 424 0 0 [.ref a0, .int x1] H (AE G [78, 69, 77] H.size) (fun v H1 => ∃ (r : Int32) (t0 : Int32) (t1 : Int32), v = some (.int r) ∧ (0 ≤ r.toInt ∧ r.toInt ≤ 1) ∧ t0 = fI H1 a0 (K.1.2 4 7) ∧ t1 = fI H1 mq (K.1.2 7 0) ∧ (t0.toInt ≤ F.toInt ∧ t1.toInt = li.toInt) ∧ mq = fR H1 a0 (K.1.2 4 0) ∧ kq = fR H1 a0 (K.1.2 4 3) ∧ TY K G H1) := by
  refine MX.of (by decide +kernel) (Nat.le_of_ble_eq_true rfl) ?_
  intro p e s m below meth c ls Q C hH hl hQ
  subst hH
  have C : CX p K s m _ meth c RX4 cX4_part 4 (some .boolean) "part" := C
  obtain ⟨hx, hb, hml, hown, hts, hKT, hr, hlocks, hnm⟩ := id C
  have hl : lv_has ls 4 [(0, .ref a0), (1, .int x1)] := hl
  have hS : va_S (AE G [78, 69, 77] s.heap.size) s.heap s.heap [] := va_S.rf
  have n_0 : (0 : Int32).toInt = 0 := rfl
  have n_1 : (1 : Int32).toInt = 1 := rfl
  have n_3 : (3 : Int32).toInt = 3 := rfl
  have n_8 : (8 : Int32).toInt = 8 := rfl
  have n_10 : (10 : Int32).toInt = 10 := rfl
  have n_26 : (26 : Int32).toInt = 26 := rfl
  have n_40 : (40 : Int32).toInt = 40 := rfl
  have n_60 : (60 : Int32).toInt = 60 := rfl
  have n_61 : (61 : Int32).toInt = 61 := rfl
  have n_62 : (62 : Int32).toInt = 62 := rfl
  have btat := ty_fi (x := tat) (k := 7) etat hT ga0 rg_78 rfl
  have bli := ty_fi (x := li) (k := 0) eli hT gmq rg_69 rfl
  have J22 : ∀ (ls535 : Array Slot) (H534 : Heap) (locsH534 : List Loc) (x537 : Int32) (x538 : Int32) (x539 : Int32), lv_has ls535 4 [(0, .ref a0), (1, .int x1), (2, .int x537)] → TY K G H534 → va_S (AE G [78, 69, 77] s.heap.size) s.heap H534 locsH534 → (10 ≤ x537.toInt ∧ x537.toInt ≤ 40) → (0 ≤ x538.toInt ∧ x538.toInt ≤ 500) → (0 ≤ x539.toInt ∧ x539.toInt ≤ 16) → (x538 = fI H534 a0 (K.1.2 4 7)) → (x539 = fI H534 mq (K.1.2 7 0)) → (mq = fR H534 a0 (K.1.2 4 0)) → (kq = fR H534 a0 (K.1.2 4 3)) → (fI H534 kq (F : Int32).toNatClampNeg = 26) → (x538.toInt < F.toInt ∧ x538.toInt ≤ F.toInt ∧ x539.toInt = li.toInt) → W p l e ({ frames := 19, cells := 0, slots := 0, locals := 424 } : Room) s m (([.ref a0, .int x1] : List Value).toArray) below meth c H534 locsH534 0 0 Q (F0 m 22 ls535 []) := by
    intro ls535 H534 locsH534 x537 x538 x539 hl536 hTH534 hSH534 bx537 bx538 bx539 ex538 ex539 cy540_0 cy540_1 cy540_2 iv22
    have J44 : ∀ (ls542 : Array Slot) (H541 : Heap) (locsH541 : List Loc) (x544 : Int32) (x545 : Int32) (x546 : Int32), lv_has ls542 4 [] → TY K G H541 → va_S (AE G [78, 69, 77] s.heap.size) s.heap H541 locsH541 → (0 ≤ x544.toInt ∧ x544.toInt ≤ 1) → (0 ≤ x545.toInt ∧ x545.toInt ≤ 500) → (0 ≤ x546.toInt ∧ x546.toInt ≤ 16) → (x545 = fI H541 a0 (K.1.2 4 7)) → (x546 = fI H541 mq (K.1.2 7 0)) → (mq = fR H541 a0 (K.1.2 4 0)) → (kq = fR H541 a0 (K.1.2 4 3)) → (fI H541 kq (F : Int32).toNatClampNeg = 26) → (x545.toInt ≤ F.toInt ∧ x546.toInt = li.toInt) → W p l e ({ frames := 19, cells := 0, slots := 0, locals := 424 } : Room) s m (([.ref a0, .int x1] : List Value).toArray) below meth c H541 locsH541 0 0 Q (F0 m 44 ls542 [.int x544]) := by
      intro ls542 H541 locsH541 x544 x545 x546 hl543 hTH541 hSH541 bx544 bx545 bx546 ex545 ex546 cy547_0 cy547_1 cy547_2 iv44
      exact x_zret C hQ (i_01 (by omega)) dX4_part_44 hSH541 (by decide) (by decide) (⟨x544, x545, x546, rfl, by omega, ex545, ex546, by omega, cy547_0, cy547_1, hTH541⟩)
    refine lv_iload_n hx hb dX4_part_22 rfl (lv_at hl536 1 rfl) ?_
    refine lv_bipush (v := 8) hx hb dX4_part_23 (by decide) ?_
    refine lv_icmp_ge (tgt := 39) hx hb dX4_part_25 (by decide) (fun c548 => ?_) (fun c548 => ?_)
    · have k549 := i_le c548
      refine lv_aload_n hx hb dX4_part_39 rfl (lv_at hl536 0 rfl) ?_
      refine lv_iconst (v := 3) hx hb dX4_part_40 (by decide) ?_
      refine x_V (As := [.int 3]) (rest := []) C (a_X4_refuse l K G H534 (3) (x538) hTH534 ga0 gmq cy540_0 gkq cy540_1 ex538) yo_X4_refuse wM_X4_81 ⟨⟨by decide, by decide⟩, by decide, by decide⟩ (x_rv C hTH534 (ci := 4) rfl ga0 rg_78) rfl hl536.1 rfl (Nat.le_of_ble_eq_true rfl) dX4_part_41 hSH534 (AE_sub (fun _ _ => rfl) (by decide) hSH534.1) (fun vH550 H550 locsH550 pH550 zH550 kH550 hSH550 => ?_)
      obtain ⟨x551, x552, hvH550, bx551, ex552, hrH550, m553, m554, hTH550⟩ := pH550
      subst hvH550
      have m555 := (ex539).trans (fI_kept (x_lt hTH534 kH550 gmq (by decide))).symm
      have m556 := (fI_kept (x_lt hTH534 kH550 gkq (by decide))).trans cy540_2
      have bx552 := ty_fi (x := x552) (k := 7) ex552 hTH550 ga0 rg_78 rfl
      refine W.eq (g2 := F0 m 44 ls535 [.int x551]) rfl ?_
      exact J44 ls535 H550 locsH550 (x551) (x552) (x539) (lv_sub hl536 [] rfl) hTH550 hSH550 (by have := i_rng x551; omega) (by have := i_rng x552; omega) (by have := i_rng x539; omega) ex552 m555 m553 m554 m556 (by omega)
    · have k549 := i_nle c548
      refine lv_aload_n hx hb dX4_part_28 rfl (lv_at hl536 0 rfl) ?_
      refine lv_iload_n hx hb dX4_part_29 rfl (lv_at hl536 2 rfl) ?_
      refine lv_iload_n hx hb dX4_part_30 rfl (lv_at hl536 1 rfl) ?_
      refine lv_iconst (v := 1) hx hb dX4_part_31 (by decide) ?_
      refine lv_iadd hx hb dX4_part_32 ?_
      refine lv_topi (fun x557 ex557 => ?_)
      have tx557 := i_add ex557 (by omega)
      refine x_V (As := [.int x537, .int x557]) (rest := []) C (a_X4_opened_5 l K G H534 (x537) (x557) (F) (x538) (x539) hTH534 ga0 (by omega) gmq cy540_0 gkq cy540_1 ex538 ex539 cy540_2 (by omega) (by omega)) yo_X4_opened wM_X4_138 ⟨⟨by decide, by decide⟩, by decide, by decide⟩ (x_rv C hTH534 (ci := 4) rfl ga0 rg_78) rfl hl536.1 rfl (Nat.le_of_ble_eq_true rfl) dX4_part_33 hSH534 (AE_sub (fun _ _ => rfl) (by decide) hSH534.1) (fun vH558 H558 locsH558 pH558 zH558 kH558 hSH558 => ?_)
      obtain ⟨x559, x560, x561, hvH558, bx559, ex560, ex561, hrH558, m562, m563, hTH558⟩ := pH558
      subst hvH558
      have m564 := (fI_kept (x_lt hTH534 kH558 gkq (by decide))).trans cy540_2
      have bx560 := ty_fi (x := x560) (k := 7) ex560 hTH558 ga0 rg_78 rfl
      have bx561 := ty_fi (x := x561) (k := 0) ex561 hTH558 gmq rg_69 rfl
      refine W.eq (g2 := F0 m 36 ls535 [.int x559]) rfl ?_
      refine lv_goto (tgt := 44) hx hb dX4_part_36 (by decide) ?_
      exact J44 ls535 H558 locsH558 (x559) (x560) (x561) (lv_sub hl536 [] rfl) hTH558 hSH558 (by have := i_rng x559; omega) (by have := i_rng x560; omega) (by have := i_rng x561; omega) ex560 ex561 m562 m563 m564 (by omega)
  have J88 : ∀ (ls566 : Array Slot) (H565 : Heap) (locsH565 : List Loc) (x568 : Int32) (x569 : Int32) (x570 : Int32), lv_has ls566 4 [(0, .ref a0), (3, .int x568)] → TY K G H565 → va_S (AE G [78, 69, 77] s.heap.size) s.heap H565 locsH565 → (60 ≤ x568.toInt ∧ x568.toInt ≤ 62) → (0 ≤ x569.toInt ∧ x569.toInt ≤ 500) → (0 ≤ x570.toInt ∧ x570.toInt ≤ 16) → (x569 = fI H565 a0 (K.1.2 4 7)) → (x570 = fI H565 mq (K.1.2 7 0)) → (mq = fR H565 a0 (K.1.2 4 0)) → (kq = fR H565 a0 (K.1.2 4 3)) → (fI H565 kq (F : Int32).toNatClampNeg = 26) → (x569.toInt < F.toInt ∧ x569.toInt ≤ F.toInt ∧ x570.toInt = li.toInt) → W p l e ({ frames := 19, cells := 0, slots := 0, locals := 424 } : Room) s m (([.ref a0, .int x1] : List Value).toArray) below meth c H565 locsH565 0 0 Q (F0 m 88 ls566 []) := by
    intro ls566 H565 locsH565 x568 x569 x570 hl567 hTH565 hSH565 bx568 bx569 bx570 ex569 ex570 cy571_0 cy571_1 cy571_2 iv88
    refine lv_aload_n hx hb dX4_part_88 rfl (lv_at hl567 0 rfl) ?_
    refine lv_dup hx hb dX4_part_89 rfl ?_
    refine x_gi C hTH565 (ci := 4) (k := 7) rfl inX4 (by decide) wF_X4_42 ga0 rg_78 rfl dX4_part_90 (fun x572 ex572 bx572 => ?_)
    have ux572 : x569 = x572 := (ex569).trans ex572.symm
    subst ux572
    refine lv_iconst (v := 1) hx hb dX4_part_93 (by decide) ?_
    refine lv_iadd hx hb dX4_part_94 ?_
    refine lv_topi (fun x573 ex573 => ?_)
    have tx573 := i_add ex573 (by omega)
    have fz575 : 0 ≤ x573.toInt ∧ x573.toInt ≤ 500 := by have := i_rng x573; omega
    refine x_put C hTH565 hSH565 (ci := 4) (k := 7) (v := .int x573) (ty0 := tyX4) rfl inX4 tyX4_ok nmX4 (by decide) rfl wF_X4_42 ga0 rg_78 rfl rfl (okI (by have := i_rng x573; omega) (by have := i_rng x573; omega)) rfl rfl (AE_in ga0 (by decide)) dX4_part_95 (fun H574 locsH574 hTH574 hSH574 wH574 => ?_)
    have m577 := ex570.trans (Wr.neI wH574 (Or.inl (G_ne gmq ga0 (by decide)))).symm
    have m578 := cy571_0.trans (Wr.neR wH574 (Or.inr (x_apart hKT hts inX4 tyX4 tyX4_ok nmX4 rfl 0 7 (by decide) (by decide) (by decide)))).symm
    have m579 := cy571_1.trans (Wr.neR wH574 (Or.inr (x_apart hKT hts inX4 tyX4 tyX4_ok nmX4 rfl 3 7 (by decide) (by decide) (by decide)))).symm
    have m580 := (Wr.neI wH574 (Or.inl (G_ne gkq ga0 (by decide)))).trans cy571_2
    have m581 := Wr.I wH574
    have m581 := m581.symm
    refine lv_aload_n hx hb dX4_part_98 rfl (lv_at hl567 0 rfl) ?_
    refine x_V (As := []) (rest := []) C (a_X4_sum l K G H574 (F) (x573) (x570) hTH574 ga0 gmq m578 gkq m579 m581 m577 m580 (by omega) (by omega)) yo_X4_sum wM_X4_103 ⟨⟨by decide, by decide⟩, by decide, by decide⟩ (x_rv C hTH574 (ci := 4) rfl ga0 rg_78) rfl hl567.1 rfl (Nat.le_of_ble_eq_true rfl) dX4_part_99 hSH574 (AE_sub (fun _ _ => rfl) (by decide) hSH574.1) (fun vH582 H582 locsH582 pH582 zH582 kH582 hSH582 => ?_)
    obtain ⟨x583, x584, x585, hvH582, bx583, ex584, ex585, hrH582, m586, m587, hTH582⟩ := pH582
    subst hvH582
    have m588 := (fI_kept (x_lt hTH574 kH582 gkq (by decide))).trans m580
    have bx584 := ty_fi (x := x584) (k := 7) ex584 hTH582 ga0 rg_78 rfl
    have bx585 := ty_fi (x := x585) (k := 0) ex585 hTH582 gmq rg_69 rfl
    refine W.eq (g2 := F0 m 102 ls566 [.int x583]) rfl ?_
    refine lv_if_ne (tgt := 107) hx hb dX4_part_102 (by decide) (fun c589 => ?_) (fun c589 => ?_)
    · have k590 := i_ne c589
      refine lv_aload_n hx hb dX4_part_107 rfl (lv_at hl567 0 rfl) ?_
      refine x_gr C hTH582 (ci := 4) (k := 0) rfl inX4 (by decide) wF_X4_12 ga0 rg_78 rfl dX4_part_108 (fun q591 eq591 gq591 => ?_)
      have uq591 : mq = q591 := (m586).trans eq591.symm
      subst uq591
      refine lv_iload_n hx hb dX4_part_111 rfl (lv_at hl567 1 rfl) ?_
      refine lv_iconst (v := 0) hx hb dX4_part_112 (by decide) ?_
      refine x_V (As := [.int x568, .int 0]) (rest := []) C (a_X7_addStep l K G H582 (x568) (0) (x585) hTH582 gmq ex585) yo_X7_addStep wM_X4_131 ⟨⟨by decide, by decide⟩, by decide, by decide⟩ (x_rv C hTH582 (ci := 7) rfl gmq rg_69) rfl hl567.1 rfl (Nat.le_of_ble_eq_true rfl) dX4_part_113 hSH582 (AE_sub (fun _ _ => rfl) (by decide) hSH582.1) (fun vH592 H592 locsH592 pH592 zH592 kH592 hSH592 => ?_)
      obtain ⟨x593, hvH592, ex593, hrH592, hTH592⟩ := pH592
      subst hvH592
      have m594 := (fI_kept (x_lt hTH582 kH592 gkq (by decide))).trans m588
      have m595 := (m586).trans (fR_kept (x_lt hTH582 kH592 ga0 (by decide))).symm
      have m596 := (m587).trans (fR_kept (x_lt hTH582 kH592 ga0 (by decide))).symm
      have m597 := (ex584).trans (fI_kept (x_lt hTH582 kH592 ga0 (by decide))).symm
      have bx593 := ty_fi (x := x593) (k := 0) ex593 hTH592 gmq rg_69 rfl
      refine W.eq (g2 := F0 m 116 ls566 []) rfl ?_
      refine lv_iconst (v := 1) hx hb dX4_part_116 (by decide) ?_
      exact x_zret C hQ (Or.inr rfl) dX4_part_117 hSH592 (by decide) (by decide) (⟨1, x584, x593, rfl, by decide, m597, ex593, by omega, m595, m596, hTH592⟩)
    · have k590 := i_eq c589
      refine lv_iconst (v := 0) hx hb dX4_part_105 (by decide) ?_
      exact x_zret C hQ (Or.inl rfl) dX4_part_106 hSH582 (by decide) (by decide) (⟨0, x584, x585, rfl, by decide, ex584, ex585, by omega, m586, m587, hTH582⟩)
  refine lv_aload_n hx hb dX4_part_0 rfl (lv_at hl 0 rfl) ?_
  refine x_gr C hT (ci := 4) (k := 3) rfl inX4 (by decide) wF_X4_18 ga0 rg_78 rfl dX4_part_1 (fun q598 eq598 gq598 => ?_)
  have uq598 : kq = q598 := (ekq).trans eq598.symm
  subst uq598
  refine lv_aload_n hx hb dX4_part_4 rfl (lv_at hl 0 rfl) ?_
  refine x_gi C hT (ci := 4) (k := 7) rfl inX4 (by decide) wF_X4_42 ga0 rg_78 rfl dX4_part_5 (fun x599 ex599 bx599 => ?_)
  have ux599 : tat = x599 := (etat).trans ex599.symm
  subst ux599
  refine x_ai C hT gkq rg_79 ⟨by omega, by show _ < ((501 : Nat) : Int); omega⟩ dX4_part_8 (fun x600 ex600 bx600 => ?_)
  have dx600 := el_hit ex600 hel0
  refine lv_istore_n (lv' := [(2, .int x600), (0, .ref a0), (1, .int x1)]) hx hb dX4_part_9 rfl hl (by decide) rfl (fun ls601 hl602 => ?_)
  refine lv_iload_n hx hb dX4_part_10 rfl (lv_at hl602 0 rfl) ?_
  refine lv_bipush (v := 10) hx hb dX4_part_11 (by decide) ?_
  refine lv_icmp_eq (tgt := 22) hx hb dX4_part_13 (by decide) (fun c603 => ?_) (fun c603 => ?_)
  · have k604 := i_eq c603
    exact J22 ls601 s.heap [] (x600) (tat) (li) (lv_sub hl602 [1, 2, 0] rfl) hT hS (by have := i_rng x600; omega) (by have := i_rng tat; omega) (by have := i_rng li; omega) etat eli emq ekq hel0 (by omega)
  · have k604 := i_ne c603
    refine lv_iload_n hx hb dX4_part_16 rfl (lv_at hl602 0 rfl) ?_
    refine lv_bipush (v := 40) hx hb dX4_part_17 (by decide) ?_
    refine lv_icmp_ne (tgt := 45) hx hb dX4_part_19 (by decide) (fun c605 => ?_) (fun c605 => ?_)
    · have k606 := i_ne c605
      refine lv_aload_n hx hb dX4_part_45 rfl (lv_at hl602 1 rfl) ?_
      refine x_V (As := []) (rest := []) C (a_X4_sum l K G s.heap (F) (tat) (li) hT ga0 gmq emq gkq ekq etat eli hel0 (by omega) (by omega)) yo_X4_sum wM_X4_103 ⟨⟨by decide, by decide⟩, by decide, by decide⟩ (x_rv C hT (ci := 4) rfl ga0 rg_78) rfl hl602.1 rfl (Nat.le_of_ble_eq_true rfl) dX4_part_46 hS (AE_sub (fun _ _ => rfl) (by decide) hS.1) (fun vH607 H607 locsH607 pH607 zH607 kH607 hSH607 => ?_)
      obtain ⟨x608, x609, x610, hvH607, bx608, ex609, ex610, hrH607, m611, m612, hTH607⟩ := pH607
      subst hvH607
      have m613 := (fI_kept (x_lt hT kH607 gkq (by decide))).trans hel0
      have bx609 := ty_fi (x := x609) (k := 7) ex609 hTH607 ga0 rg_78 rfl
      have bx610 := ty_fi (x := x610) (k := 0) ex610 hTH607 gmq rg_69 rfl
      refine W.eq (g2 := F0 m 49 ls601 [.int x608]) rfl ?_
      refine lv_if_ne (tgt := 54) hx hb dX4_part_49 (by decide) (fun c614 => ?_) (fun c614 => ?_)
      · have k615 := i_ne c614
        refine lv_aload_n hx hb dX4_part_54 rfl (lv_at hl602 1 rfl) ?_
        refine x_gr C hTH607 (ci := 4) (k := 3) rfl inX4 (by decide) wF_X4_18 ga0 rg_78 rfl dX4_part_55 (fun q616 eq616 gq616 => ?_)
        have uq616 : kq = q616 := (m612).trans eq616.symm
        subst uq616
        refine lv_aload_n hx hb dX4_part_58 rfl (lv_at hl602 1 rfl) ?_
        refine x_gi C hTH607 (ci := 4) (k := 7) rfl inX4 (by decide) wF_X4_42 ga0 rg_78 rfl dX4_part_59 (fun x617 ex617 bx617 => ?_)
        have ux617 : x609 = x617 := (ex609).trans ex617.symm
        subst ux617
        refine x_ai C hTH607 gkq rg_79 ⟨by omega, by show _ < ((501 : Nat) : Int); omega⟩ dX4_part_62 (fun x618 ex618 bx618 => ?_)
        have dx618 := el_hit ex618 m613
        refine lv_istore_n (lv' := [(3, .int x618), (2, .int x600), (0, .ref a0), (1, .int x1)]) hx hb dX4_part_63 rfl hl602 (by decide) rfl (fun ls619 hl620 => ?_)
        refine lv_iload_n hx hb dX4_part_64 rfl (lv_at hl620 0 rfl) ?_
        refine lv_bipush (v := 60) hx hb dX4_part_65 (by decide) ?_
        refine lv_icmp_eq (tgt := 88) hx hb dX4_part_67 (by decide) (fun c621 => ?_) (fun c621 => ?_)
        · have k622 := i_eq c621
          exact J88 ls619 H607 locsH607 (x618) (x609) (x610) (lv_sub hl620 [2, 0] rfl) hTH607 hSH607 (by have := i_rng x618; omega) (by have := i_rng x609; omega) (by have := i_rng x610; omega) ex609 ex610 m611 m612 m613 (by omega)
        · have k622 := i_ne c621
          refine lv_iload_n hx hb dX4_part_70 rfl (lv_at hl620 0 rfl) ?_
          refine lv_bipush (v := 61) hx hb dX4_part_71 (by decide) ?_
          refine lv_icmp_eq (tgt := 88) hx hb dX4_part_73 (by decide) (fun c623 => ?_) (fun c623 => ?_)
          · have k624 := i_eq c623
            exact J88 ls619 H607 locsH607 (x618) (x609) (x610) (lv_sub hl620 [2, 0] rfl) hTH607 hSH607 (by have := i_rng x618; omega) (by have := i_rng x609; omega) (by have := i_rng x610; omega) ex609 ex610 m611 m612 m613 (by omega)
          · have k624 := i_ne c623
            refine lv_iload_n hx hb dX4_part_76 rfl (lv_at hl620 0 rfl) ?_
            refine lv_bipush (v := 62) hx hb dX4_part_77 (by decide) ?_
            refine lv_icmp_eq (tgt := 88) hx hb dX4_part_79 (by decide) (fun c625 => ?_) (fun c625 => ?_)
            · have k626 := i_eq c625
              exact J88 ls619 H607 locsH607 (x618) (x609) (x610) (lv_sub hl620 [2, 0] rfl) hTH607 hSH607 (by have := i_rng x618; omega) (by have := i_rng x609; omega) (by have := i_rng x610; omega) ex609 ex610 m611 m612 m613 (by omega)
            · have k626 := i_ne c625
              refine lv_aload_n hx hb dX4_part_82 rfl (lv_at hl620 2 rfl) ?_
              refine lv_iconst (v := 1) hx hb dX4_part_83 (by decide) ?_
              refine x_V (As := [.int 1]) (rest := []) C (a_X4_refuse l K G H607 (1) (x609) hTH607 ga0 gmq m611 gkq m612 ex609) yo_X4_refuse wM_X4_81 ⟨⟨by decide, by decide⟩, by decide, by decide⟩ (x_rv C hTH607 (ci := 4) rfl ga0 rg_78) rfl hl620.1 rfl (Nat.le_of_ble_eq_true rfl) dX4_part_84 hSH607 (AE_sub (fun _ _ => rfl) (by decide) hSH607.1) (fun vH627 H627 locsH627 pH627 zH627 kH627 hSH627 => ?_)
              obtain ⟨x628, x629, hvH627, bx628, ex629, hrH627, m630, m631, hTH627⟩ := pH627
              subst hvH627
              have m632 := (fI_kept (x_lt hTH607 kH627 gkq (by decide))).trans m613
              have m633 := (ex610).trans (fI_kept (x_lt hTH607 kH627 gmq (by decide))).symm
              have bx629 := ty_fi (x := x629) (k := 7) ex629 hTH627 ga0 rg_78 rfl
              refine W.eq (g2 := F0 m 87 ls619 [.int x628]) rfl ?_
              exact x_zret C hQ (i_01 (by omega)) dX4_part_87 hSH627 (by decide) (by decide) (⟨x628, x629, x610, rfl, by omega, ex629, m633, by omega, m630, m631, hTH627⟩)
      · have k615 := i_eq c614
        refine lv_iconst (v := 0) hx hb dX4_part_52 (by decide) ?_
        exact x_zret C hQ (Or.inl rfl) dX4_part_53 hSH607 (by decide) (by decide) (⟨0, x609, x610, rfl, by decide, ex609, ex610, by omega, m611, m612, hTH607⟩)
    · have k606 := i_eq c605
      exact J22 ls601 s.heap [] (x600) (tat) (li) (lv_sub hl602 [1, 2, 0] rfl) hT hS (by have := i_rng x600; omega) (by have := i_rng tat; omega) (by have := i_rng li; omega) etat eli emq ekq hel0 (by omega)

set_option maxHeartbeats 4000000 in
set_option maxRecDepth 100000 in
theorem a_X4_both_4 (l : Launch) (K : KE) (G : Nat → Option Nat) (H : Heap) {a0 : Nat} (x1 : Int32) {mq : Nat} {kq : Nat} (F : Int32) (tat : Int32) (li : Int32) (hT : TY K G H) (ga0 : G a0 = some 78) (hx1 : 4 ≤ x1.toInt ∧ x1.toInt ≤ 8) (gmq : G mq = some 69) (emq : mq = fR H a0 (K.1.2 4 0)) (gkq : G kq = some 79) (ekq : kq = fR H a0 (K.1.2 4 3)) (etat : tat = fI H a0 (K.1.2 4 7)) (eli : li = fI H mq (K.1.2 7 0)) (hel0 : fI H kq (F : Int32).toNatClampNeg = 26) (hp0 : tat.toInt ≤ F.toInt) (hp1 : F.toInt ≤ 500) : MX l K yX4_both cX4_both 3 (some .boolean) 20 447 0 0 [.ref a0, .int x1] H (AE G [78, 69, 77] H.size) (fun v H1 => ∃ (r : Int32) (t0 : Int32) (t1 : Int32), v = some (.int r) ∧ (0 ≤ r.toInt ∧ r.toInt ≤ 1) ∧ t0 = fI H1 a0 (K.1.2 4 7) ∧ t1 = fI H1 mq (K.1.2 7 0) ∧ (t0.toInt ≤ F.toInt ∧ t1.toInt = li.toInt) ∧ mq = fR H1 a0 (K.1.2 4 0) ∧ kq = fR H1 a0 (K.1.2 4 3) ∧ TY K G H1) := by
  refine MX.of (by decide +kernel) (Nat.le_of_ble_eq_true rfl) ?_
  intro p e s m below meth c ls Q C hH hl hQ
  subst hH
  have C : CX p K s m _ meth c RX4 cX4_both 3 (some .boolean) "both" := C
  obtain ⟨hx, hb, hml, hown, hts, hKT, hr, hlocks, hnm⟩ := id C
  have hl : lv_has ls 3 [(0, .ref a0), (1, .int x1)] := hl
  have hS : va_S (AE G [78, 69, 77] s.heap.size) s.heap s.heap [] := va_S.rf
  have n_0 : (0 : Int32).toInt = 0 := rfl
  have n_1 : (1 : Int32).toInt = 1 := rfl
  have n_9 : (9 : Int32).toInt = 9 := rfl
  have n_26 : (26 : Int32).toInt = 26 := rfl
  have n_500 : (500 : Int32).toInt = 500 := rfl
  have btat := ty_fi (x := tat) (k := 7) etat hT ga0 rg_78 rfl
  have bli := ty_fi (x := li) (k := 0) eli hT gmq rg_69 rfl
  have J12 : ∀ (nf : Nat) (ls1090 : Array Slot) (H1089 : Heap) (locsH1089 : List Loc) (x1092 : Int32) (x1093 : Int32) (x1094 : Int32), lv_has ls1090 3 [(0, .ref a0), (1, .int x1), (2, .int x1092)] → TY K G H1089 → va_S (AE G [78, 69, 77] s.heap.size) s.heap H1089 locsH1089 → (0 ≤ x1092.toInt ∧ x1092.toInt ≤ 500) → (0 ≤ x1093.toInt ∧ x1093.toInt ≤ 500) → (0 ≤ x1094.toInt ∧ x1094.toInt ≤ 16) → (x1093 = fI H1089 a0 (K.1.2 4 7)) → (x1094 = fI H1089 mq (K.1.2 7 0)) → (mq = fR H1089 a0 (K.1.2 4 0)) → (kq = fR H1089 a0 (K.1.2 4 3)) → (fI H1089 kq (F : Int32).toNatClampNeg = 26) → (500 - x1092.toInt < (nf : Int)) → (x1093.toInt ≤ F.toInt ∧ x1094.toInt = li.toInt) → W p l e ({ frames := 20, cells := 0, slots := 0, locals := 447 } : Room) s m (([.ref a0, .int x1] : List Value).toArray) below meth c H1089 locsH1089 0 0 Q (F0 m 12 ls1090 []) := by
    intro nf
    induction nf with
    | zero =>
      intro ls1090 H1089 locsH1089 x1092 x1093 x1094 hl1091 hTH1089 hSH1089 bx1092 bx1093 bx1094 ex1093 ex1094 cy1095_0 cy1095_1 cy1095_2 hm12 iv12
      exfalso
      omega
    | succ nf ih12 =>
      intro ls1090 H1089 locsH1089 x1092 x1093 x1094 hl1091 hTH1089 hSH1089 bx1092 bx1093 bx1094 ex1093 ex1094 cy1095_0 cy1095_1 cy1095_2 hm12 iv12
      have J69 : ∀ (ls1097 : Array Slot) (H1096 : Heap) (locsH1096 : List Loc) (x1099 : Int32) (x1100 : Int32), lv_has ls1097 3 [] → TY K G H1096 → va_S (AE G [78, 69, 77] s.heap.size) s.heap H1096 locsH1096 → (0 ≤ x1099.toInt ∧ x1099.toInt ≤ 500) → (0 ≤ x1100.toInt ∧ x1100.toInt ≤ 16) → (x1099 = fI H1096 a0 (K.1.2 4 7)) → (x1100 = fI H1096 mq (K.1.2 7 0)) → (mq = fR H1096 a0 (K.1.2 4 0)) → (kq = fR H1096 a0 (K.1.2 4 3)) → (fI H1096 kq (F : Int32).toNatClampNeg = 26) → (x1099.toInt ≤ F.toInt ∧ x1100.toInt = li.toInt) → W p l e ({ frames := 20, cells := 0, slots := 0, locals := 447 } : Room) s m (([.ref a0, .int x1] : List Value).toArray) below meth c H1096 locsH1096 0 0 Q (F0 m 69 ls1097 []) := by
        intro ls1097 H1096 locsH1096 x1099 x1100 hl1098 hTH1096 hSH1096 bx1099 bx1100 ex1099 ex1100 cy1101_0 cy1101_1 cy1101_2 iv69
        refine lv_iconst (v := 1) hx hb dX4_both_69 (by decide) ?_
        exact x_zret C hQ (Or.inr rfl) dX4_both_70 hSH1096 (by decide) (by decide) (⟨1, x1099, x1100, rfl, by decide, ex1099, ex1100, by omega, cy1101_0, cy1101_1, hTH1096⟩)
      refine lv_iload_n hx hb dX4_both_12 rfl (lv_at hl1091 2 rfl) ?_
      refine lv_sipush (v := 500) hx hb dX4_both_13 (by decide) ?_
      refine lv_icmp_ge (tgt := 69) hx hb dX4_both_16 (by decide) (fun c1102 => ?_) (fun c1102 => ?_)
      · have k1103 := i_le c1102
        exact J69 ls1090 H1089 locsH1089 (x1093) (x1094) (lv_sub hl1091 [] rfl) hTH1089 hSH1089 (by have := i_rng x1093; omega) (by have := i_rng x1094; omega) ex1093 ex1094 cy1095_0 cy1095_1 cy1095_2 (by omega)
      · have k1103 := i_nle c1102
        refine lv_aload_n hx hb dX4_both_19 rfl (lv_at hl1091 0 rfl) ?_
        refine x_gr C hTH1089 (ci := 4) (k := 3) rfl inX4 (by decide) wF_X4_18 ga0 rg_78 rfl dX4_both_20 (fun q1104 eq1104 gq1104 => ?_)
        have uq1104 : kq = q1104 := (cy1095_1).trans eq1104.symm
        subst uq1104
        refine lv_aload_n hx hb dX4_both_23 rfl (lv_at hl1091 0 rfl) ?_
        refine x_gi C hTH1089 (ci := 4) (k := 7) rfl inX4 (by decide) wF_X4_42 ga0 rg_78 rfl dX4_both_24 (fun x1105 ex1105 bx1105 => ?_)
        have ux1105 : x1093 = x1105 := (ex1093).trans ex1105.symm
        subst ux1105
        refine x_ai C hTH1089 gkq rg_79 ⟨by omega, by show _ < ((501 : Nat) : Int); omega⟩ dX4_both_27 (fun x1106 ex1106 bx1106 => ?_)
        have dx1106 := el_hit ex1106 cy1095_2
        refine lv_bipush (v := 9) hx hb dX4_both_28 (by decide) ?_
        refine lv_icmp_ne (tgt := 69) hx hb dX4_both_30 (by decide) (fun c1107 => ?_) (fun c1107 => ?_)
        · have k1108 := i_ne c1107
          exact J69 ls1090 H1089 locsH1089 (x1093) (x1094) (lv_sub hl1091 [] rfl) hTH1089 hSH1089 (by have := i_rng x1093; omega) (by have := i_rng x1094; omega) ex1093 ex1094 cy1095_0 cy1095_1 cy1095_2 (by omega)
        · have k1108 := i_eq c1107
          refine lv_aload_n hx hb dX4_both_33 rfl (lv_at hl1091 0 rfl) ?_
          refine lv_dup hx hb dX4_both_34 rfl ?_
          refine x_gi C hTH1089 (ci := 4) (k := 7) rfl inX4 (by decide) wF_X4_42 ga0 rg_78 rfl dX4_both_35 (fun x1109 ex1109 bx1109 => ?_)
          have ux1109 : x1093 = x1109 := (ex1093).trans ex1109.symm
          subst ux1109
          refine lv_iconst (v := 1) hx hb dX4_both_38 (by decide) ?_
          refine lv_iadd hx hb dX4_both_39 ?_
          refine lv_topi (fun x1110 ex1110 => ?_)
          have tx1110 := i_add ex1110 (by omega)
          have fz1112 : 0 ≤ x1110.toInt ∧ x1110.toInt ≤ 500 := by have := i_rng x1110; omega
          refine x_put C hTH1089 hSH1089 (ci := 4) (k := 7) (v := .int x1110) (ty0 := tyX4) rfl inX4 tyX4_ok nmX4 (by decide) rfl wF_X4_42 ga0 rg_78 rfl rfl (okI (by have := i_rng x1110; omega) (by have := i_rng x1110; omega)) rfl rfl (AE_in ga0 (by decide)) dX4_both_40 (fun H1111 locsH1111 hTH1111 hSH1111 wH1111 => ?_)
          have m1114 := ex1094.trans (Wr.neI wH1111 (Or.inl (G_ne gmq ga0 (by decide)))).symm
          have m1115 := cy1095_0.trans (Wr.neR wH1111 (Or.inr (x_apart hKT hts inX4 tyX4 tyX4_ok nmX4 rfl 0 7 (by decide) (by decide) (by decide)))).symm
          have m1116 := cy1095_1.trans (Wr.neR wH1111 (Or.inr (x_apart hKT hts inX4 tyX4 tyX4_ok nmX4 rfl 3 7 (by decide) (by decide) (by decide)))).symm
          have m1117 := (Wr.neI wH1111 (Or.inl (G_ne gkq ga0 (by decide)))).trans cy1095_2
          have m1118 := Wr.I wH1111
          have m1118 := m1118.symm
          refine lv_aload_n hx hb dX4_both_43 rfl (lv_at hl1091 0 rfl) ?_
          refine lv_iload_n hx hb dX4_both_44 rfl (lv_at hl1091 1 rfl) ?_
          refine x_V (As := [.int x1]) (rest := []) C (a_X4_part_4 l K G H1111 (x1) (F) (x1110) (x1094) hTH1111 ga0 (by omega) gmq m1115 gkq m1116 m1118 m1114 m1117 (by omega) (by omega)) yo_X4_part wM_X4_135 ⟨⟨by decide, by decide⟩, by decide, by decide⟩ (x_rv C hTH1111 (ci := 4) rfl ga0 rg_78) rfl hl1091.1 rfl (Nat.le_of_ble_eq_true rfl) dX4_both_45 hSH1111 (AE_sub (fun _ _ => rfl) (by decide) hSH1111.1) (fun vH1119 H1119 locsH1119 pH1119 zH1119 kH1119 hSH1119 => ?_)
          obtain ⟨x1120, x1121, x1122, hvH1119, bx1120, ex1121, ex1122, hrH1119, m1123, m1124, hTH1119⟩ := pH1119
          subst hvH1119
          have m1125 := (fI_kept (x_lt hTH1111 kH1119 gkq (by decide))).trans m1117
          have bx1121 := ty_fi (x := x1121) (k := 7) ex1121 hTH1119 ga0 rg_78 rfl
          have bx1122 := ty_fi (x := x1122) (k := 0) ex1122 hTH1119 gmq rg_69 rfl
          refine W.eq (g2 := F0 m 48 ls1090 [.int x1120]) rfl ?_
          refine lv_if_ne (tgt := 53) hx hb dX4_both_48 (by decide) (fun c1126 => ?_) (fun c1126 => ?_)
          · have k1127 := i_ne c1126
            refine lv_aload_n hx hb dX4_both_53 rfl (lv_at hl1091 0 rfl) ?_
            refine x_gr C hTH1119 (ci := 4) (k := 0) rfl inX4 (by decide) wF_X4_12 ga0 rg_78 rfl dX4_both_54 (fun q1128 eq1128 gq1128 => ?_)
            have uq1128 : mq = q1128 := (m1123).trans eq1128.symm
            subst uq1128
            refine lv_bipush (v := 9) hx hb dX4_both_57 (by decide) ?_
            refine lv_iconst (v := 0) hx hb dX4_both_59 (by decide) ?_
            refine x_V (As := [.int 9, .int 0]) (rest := []) C (a_X7_addStep l K G H1119 (9) (0) (x1122) hTH1119 gmq ex1122) yo_X7_addStep wM_X4_131 ⟨⟨by decide, by decide⟩, by decide, by decide⟩ (x_rv C hTH1119 (ci := 7) rfl gmq rg_69) rfl hl1091.1 rfl (Nat.le_of_ble_eq_true rfl) dX4_both_60 hSH1119 (AE_sub (fun _ _ => rfl) (by decide) hSH1119.1) (fun vH1129 H1129 locsH1129 pH1129 zH1129 kH1129 hSH1129 => ?_)
            obtain ⟨x1130, hvH1129, ex1130, hrH1129, hTH1129⟩ := pH1129
            subst hvH1129
            have m1131 := (fI_kept (x_lt hTH1119 kH1129 gkq (by decide))).trans m1125
            have m1132 := (m1123).trans (fR_kept (x_lt hTH1119 kH1129 ga0 (by decide))).symm
            have m1133 := (m1124).trans (fR_kept (x_lt hTH1119 kH1129 ga0 (by decide))).symm
            have m1134 := (ex1121).trans (fI_kept (x_lt hTH1119 kH1129 ga0 (by decide))).symm
            have bx1130 := ty_fi (x := x1130) (k := 0) ex1130 hTH1129 gmq rg_69 rfl
            refine W.eq (g2 := F0 m 63 ls1090 []) rfl ?_
            obtain ⟨x1135, ex1135⟩ : ∃ y : Int32, y = x1092 + 1 := ⟨_, rfl⟩
            have tx1135 := i_add ex1135 (by omega)
            refine lv_iinc (v := x1135) (lv' := [(2, .int x1135), (0, .ref a0), (1, .int x1)]) hx hb dX4_both_63 hl1091 (k := 2) rfl (by rw [ex1135]; rfl) (by decide) rfl (fun ls1136 hl1137 => ?_)
            refine lv_goto (tgt := 12) hx hb dX4_both_66 (by decide) ?_
            exact ih12 ls1136 H1129 locsH1129 (x1135) (x1121) (x1130) (lv_sub hl1137 [1, 2, 0] rfl) hTH1129 hSH1129 (by have := i_rng x1135; omega) (by have := i_rng x1121; omega) (by have := i_rng x1130; omega) m1134 ex1130 m1132 m1133 m1131 (by omega) (by omega)
          · have k1127 := i_eq c1126
            refine lv_iconst (v := 0) hx hb dX4_both_51 (by decide) ?_
            exact x_zret C hQ (Or.inl rfl) dX4_both_52 hSH1119 (by decide) (by decide) (⟨0, x1121, x1122, rfl, by decide, ex1121, ex1122, by omega, m1123, m1124, hTH1119⟩)
  refine lv_aload_n hx hb dX4_both_0 rfl (lv_at hl 0 rfl) ?_
  refine lv_iload_n hx hb dX4_both_1 rfl (lv_at hl 1 rfl) ?_
  refine x_V (As := [.int x1]) (rest := []) C (a_X4_part_4 l K G s.heap (x1) (F) (tat) (li) hT ga0 (by omega) gmq emq gkq ekq etat eli hel0 (by omega) (by omega)) yo_X4_part wM_X4_135 ⟨⟨by decide, by decide⟩, by decide, by decide⟩ (x_rv C hT (ci := 4) rfl ga0 rg_78) rfl hl.1 rfl (Nat.le_of_ble_eq_true rfl) dX4_both_2 hS (AE_sub (fun _ _ => rfl) (by decide) hS.1) (fun vH1138 H1138 locsH1138 pH1138 zH1138 kH1138 hSH1138 => ?_)
  obtain ⟨x1139, x1140, x1141, hvH1138, bx1139, ex1140, ex1141, hrH1138, m1142, m1143, hTH1138⟩ := pH1138
  subst hvH1138
  have m1144 := (fI_kept (x_lt hT kH1138 gkq (by decide))).trans hel0
  have bx1140 := ty_fi (x := x1140) (k := 7) ex1140 hTH1138 ga0 rg_78 rfl
  have bx1141 := ty_fi (x := x1141) (k := 0) ex1141 hTH1138 gmq rg_69 rfl
  refine W.eq (g2 := F0 m 5 ls [.int x1139]) rfl ?_
  refine lv_if_ne (tgt := 10) hx hb dX4_both_5 (by decide) (fun c1145 => ?_) (fun c1145 => ?_)
  · have k1146 := i_ne c1145
    refine lv_iconst (v := 0) hx hb dX4_both_10 (by decide) ?_
    refine lv_istore_n (lv' := [(2, .int 0), (0, .ref a0), (1, .int x1)]) hx hb dX4_both_11 rfl hl (by decide) rfl (fun ls1147 hl1148 => ?_)
    exact J12 ((500 - (0 : Int32).toInt).toNat + 1) ls1147 H1138 locsH1138 (0) (x1140) (x1141) (lv_sub hl1148 [1, 2, 0] rfl) hTH1138 hSH1138 (by decide) (by have := i_rng x1140; omega) (by have := i_rng x1141; omega) ex1140 ex1141 m1142 m1143 m1144 (by omega) (by omega)
  · have k1146 := i_eq c1145
    refine lv_iconst (v := 0) hx hb dX4_both_8 (by decide) ?_
    exact x_zret C hQ (Or.inl rfl) dX4_both_9 hSH1138 (by decide) (by decide) (⟨0, x1140, x1141, rfl, by decide, ex1140, ex1141, by omega, m1142, m1143, hTH1138⟩)

set_option maxHeartbeats 4000000 in
set_option maxRecDepth 100000 in
theorem a_X4_either_4 (l : Launch) (K : KE) (G : Nat → Option Nat) (H : Heap) {a0 : Nat} (x1 : Int32) {mq : Nat} {kq : Nat} (F : Int32) (tat : Int32) (li : Int32) (hT : TY K G H) (ga0 : G a0 = some 78) (hx1 : 4 ≤ x1.toInt ∧ x1.toInt ≤ 8) (gmq : G mq = some 69) (emq : mq = fR H a0 (K.1.2 4 0)) (gkq : G kq = some 79) (ekq : kq = fR H a0 (K.1.2 4 3)) (etat : tat = fI H a0 (K.1.2 4 7)) (eli : li = fI H mq (K.1.2 7 0)) (hel0 : fI H kq (F : Int32).toNatClampNeg = 26) (hp0 : tat.toInt ≤ F.toInt) (hp1 : F.toInt ≤ 500) : MX l K yX4_either cX4_either 3 (some .boolean) 21 469 0 0 [.ref a0, .int x1] H (AE G [78, 69, 77] H.size) (fun v H1 => ∃ (r : Int32) (t0 : Int32) (t1 : Int32), v = some (.int r) ∧ (0 ≤ r.toInt ∧ r.toInt ≤ 1) ∧ t0 = fI H1 a0 (K.1.2 4 7) ∧ t1 = fI H1 mq (K.1.2 7 0) ∧ (t0.toInt ≤ F.toInt ∧ t1.toInt = li.toInt) ∧ mq = fR H1 a0 (K.1.2 4 0) ∧ kq = fR H1 a0 (K.1.2 4 3) ∧ TY K G H1) := by
  refine MX.of (by decide +kernel) (Nat.le_of_ble_eq_true rfl) ?_
  intro p e s m below meth c ls Q C hH hl hQ
  subst hH
  have C : CX p K s m _ meth c RX4 cX4_either 3 (some .boolean) "either" := C
  obtain ⟨hx, hb, hml, hown, hts, hKT, hr, hlocks, hnm⟩ := id C
  have hl : lv_has ls 3 [(0, .ref a0), (1, .int x1)] := hl
  have hS : va_S (AE G [78, 69, 77] s.heap.size) s.heap s.heap [] := va_S.rf
  have n_0 : (0 : Int32).toInt = 0 := rfl
  have n_1 : (1 : Int32).toInt = 1 := rfl
  have n_8 : (8 : Int32).toInt = 8 := rfl
  have n_26 : (26 : Int32).toInt = 26 := rfl
  have n_500 : (500 : Int32).toInt = 500 := rfl
  have btat := ty_fi (x := tat) (k := 7) etat hT ga0 rg_78 rfl
  have bli := ty_fi (x := li) (k := 0) eli hT gmq rg_69 rfl
  have J12 : ∀ (nf : Nat) (ls1090 : Array Slot) (H1089 : Heap) (locsH1089 : List Loc) (x1092 : Int32) (x1093 : Int32) (x1094 : Int32), lv_has ls1090 3 [(0, .ref a0), (1, .int x1), (2, .int x1092)] → TY K G H1089 → va_S (AE G [78, 69, 77] s.heap.size) s.heap H1089 locsH1089 → (0 ≤ x1092.toInt ∧ x1092.toInt ≤ 500) → (0 ≤ x1093.toInt ∧ x1093.toInt ≤ 500) → (0 ≤ x1094.toInt ∧ x1094.toInt ≤ 16) → (x1093 = fI H1089 a0 (K.1.2 4 7)) → (x1094 = fI H1089 mq (K.1.2 7 0)) → (mq = fR H1089 a0 (K.1.2 4 0)) → (kq = fR H1089 a0 (K.1.2 4 3)) → (fI H1089 kq (F : Int32).toNatClampNeg = 26) → (500 - x1092.toInt < (nf : Int)) → (x1093.toInt ≤ F.toInt ∧ x1094.toInt = li.toInt) → W p l e ({ frames := 21, cells := 0, slots := 0, locals := 469 } : Room) s m (([.ref a0, .int x1] : List Value).toArray) below meth c H1089 locsH1089 0 0 Q (F0 m 12 ls1090 []) := by
    intro nf
    induction nf with
    | zero =>
      intro ls1090 H1089 locsH1089 x1092 x1093 x1094 hl1091 hTH1089 hSH1089 bx1092 bx1093 bx1094 ex1093 ex1094 cy1095_0 cy1095_1 cy1095_2 hm12 iv12
      exfalso
      omega
    | succ nf ih12 =>
      intro ls1090 H1089 locsH1089 x1092 x1093 x1094 hl1091 hTH1089 hSH1089 bx1092 bx1093 bx1094 ex1093 ex1094 cy1095_0 cy1095_1 cy1095_2 hm12 iv12
      have J69 : ∀ (ls1097 : Array Slot) (H1096 : Heap) (locsH1096 : List Loc) (x1099 : Int32) (x1100 : Int32), lv_has ls1097 3 [] → TY K G H1096 → va_S (AE G [78, 69, 77] s.heap.size) s.heap H1096 locsH1096 → (0 ≤ x1099.toInt ∧ x1099.toInt ≤ 500) → (0 ≤ x1100.toInt ∧ x1100.toInt ≤ 16) → (x1099 = fI H1096 a0 (K.1.2 4 7)) → (x1100 = fI H1096 mq (K.1.2 7 0)) → (mq = fR H1096 a0 (K.1.2 4 0)) → (kq = fR H1096 a0 (K.1.2 4 3)) → (fI H1096 kq (F : Int32).toNatClampNeg = 26) → (x1099.toInt ≤ F.toInt ∧ x1100.toInt = li.toInt) → W p l e ({ frames := 21, cells := 0, slots := 0, locals := 469 } : Room) s m (([.ref a0, .int x1] : List Value).toArray) below meth c H1096 locsH1096 0 0 Q (F0 m 69 ls1097 []) := by
        intro ls1097 H1096 locsH1096 x1099 x1100 hl1098 hTH1096 hSH1096 bx1099 bx1100 ex1099 ex1100 cy1101_0 cy1101_1 cy1101_2 iv69
        refine lv_iconst (v := 1) hx hb dX4_either_69 (by decide) ?_
        exact x_zret C hQ (Or.inr rfl) dX4_either_70 hSH1096 (by decide) (by decide) (⟨1, x1099, x1100, rfl, by decide, ex1099, ex1100, by omega, cy1101_0, cy1101_1, hTH1096⟩)
      refine lv_iload_n hx hb dX4_either_12 rfl (lv_at hl1091 2 rfl) ?_
      refine lv_sipush (v := 500) hx hb dX4_either_13 (by decide) ?_
      refine lv_icmp_ge (tgt := 69) hx hb dX4_either_16 (by decide) (fun c1102 => ?_) (fun c1102 => ?_)
      · have k1103 := i_le c1102
        exact J69 ls1090 H1089 locsH1089 (x1093) (x1094) (lv_sub hl1091 [] rfl) hTH1089 hSH1089 (by have := i_rng x1093; omega) (by have := i_rng x1094; omega) ex1093 ex1094 cy1095_0 cy1095_1 cy1095_2 (by omega)
      · have k1103 := i_nle c1102
        refine lv_aload_n hx hb dX4_either_19 rfl (lv_at hl1091 0 rfl) ?_
        refine x_gr C hTH1089 (ci := 4) (k := 3) rfl inX4 (by decide) wF_X4_18 ga0 rg_78 rfl dX4_either_20 (fun q1104 eq1104 gq1104 => ?_)
        have uq1104 : kq = q1104 := (cy1095_1).trans eq1104.symm
        subst uq1104
        refine lv_aload_n hx hb dX4_either_23 rfl (lv_at hl1091 0 rfl) ?_
        refine x_gi C hTH1089 (ci := 4) (k := 7) rfl inX4 (by decide) wF_X4_42 ga0 rg_78 rfl dX4_either_24 (fun x1105 ex1105 bx1105 => ?_)
        have ux1105 : x1093 = x1105 := (ex1093).trans ex1105.symm
        subst ux1105
        refine x_ai C hTH1089 gkq rg_79 ⟨by omega, by show _ < ((501 : Nat) : Int); omega⟩ dX4_either_27 (fun x1106 ex1106 bx1106 => ?_)
        have dx1106 := el_hit ex1106 cy1095_2
        refine lv_bipush (v := 8) hx hb dX4_either_28 (by decide) ?_
        refine lv_icmp_ne (tgt := 69) hx hb dX4_either_30 (by decide) (fun c1107 => ?_) (fun c1107 => ?_)
        · have k1108 := i_ne c1107
          exact J69 ls1090 H1089 locsH1089 (x1093) (x1094) (lv_sub hl1091 [] rfl) hTH1089 hSH1089 (by have := i_rng x1093; omega) (by have := i_rng x1094; omega) ex1093 ex1094 cy1095_0 cy1095_1 cy1095_2 (by omega)
        · have k1108 := i_eq c1107
          refine lv_aload_n hx hb dX4_either_33 rfl (lv_at hl1091 0 rfl) ?_
          refine lv_dup hx hb dX4_either_34 rfl ?_
          refine x_gi C hTH1089 (ci := 4) (k := 7) rfl inX4 (by decide) wF_X4_42 ga0 rg_78 rfl dX4_either_35 (fun x1109 ex1109 bx1109 => ?_)
          have ux1109 : x1093 = x1109 := (ex1093).trans ex1109.symm
          subst ux1109
          refine lv_iconst (v := 1) hx hb dX4_either_38 (by decide) ?_
          refine lv_iadd hx hb dX4_either_39 ?_
          refine lv_topi (fun x1110 ex1110 => ?_)
          have tx1110 := i_add ex1110 (by omega)
          have fz1112 : 0 ≤ x1110.toInt ∧ x1110.toInt ≤ 500 := by have := i_rng x1110; omega
          refine x_put C hTH1089 hSH1089 (ci := 4) (k := 7) (v := .int x1110) (ty0 := tyX4) rfl inX4 tyX4_ok nmX4 (by decide) rfl wF_X4_42 ga0 rg_78 rfl rfl (okI (by have := i_rng x1110; omega) (by have := i_rng x1110; omega)) rfl rfl (AE_in ga0 (by decide)) dX4_either_40 (fun H1111 locsH1111 hTH1111 hSH1111 wH1111 => ?_)
          have m1114 := ex1094.trans (Wr.neI wH1111 (Or.inl (G_ne gmq ga0 (by decide)))).symm
          have m1115 := cy1095_0.trans (Wr.neR wH1111 (Or.inr (x_apart hKT hts inX4 tyX4 tyX4_ok nmX4 rfl 0 7 (by decide) (by decide) (by decide)))).symm
          have m1116 := cy1095_1.trans (Wr.neR wH1111 (Or.inr (x_apart hKT hts inX4 tyX4 tyX4_ok nmX4 rfl 3 7 (by decide) (by decide) (by decide)))).symm
          have m1117 := (Wr.neI wH1111 (Or.inl (G_ne gkq ga0 (by decide)))).trans cy1095_2
          have m1118 := Wr.I wH1111
          have m1118 := m1118.symm
          refine lv_aload_n hx hb dX4_either_43 rfl (lv_at hl1091 0 rfl) ?_
          refine lv_iload_n hx hb dX4_either_44 rfl (lv_at hl1091 1 rfl) ?_
          refine x_V (As := [.int x1]) (rest := []) C (a_X4_both_4 l K G H1111 (x1) (F) (x1110) (x1094) hTH1111 ga0 (by omega) gmq m1115 gkq m1116 m1118 m1114 m1117 (by omega) (by omega)) yo_X4_both wM_X4_128 ⟨⟨by decide, by decide⟩, by decide, by decide⟩ (x_rv C hTH1111 (ci := 4) rfl ga0 rg_78) rfl hl1091.1 rfl (Nat.le_of_ble_eq_true rfl) dX4_either_45 hSH1111 (AE_sub (fun _ _ => rfl) (by decide) hSH1111.1) (fun vH1119 H1119 locsH1119 pH1119 zH1119 kH1119 hSH1119 => ?_)
          obtain ⟨x1120, x1121, x1122, hvH1119, bx1120, ex1121, ex1122, hrH1119, m1123, m1124, hTH1119⟩ := pH1119
          subst hvH1119
          have m1125 := (fI_kept (x_lt hTH1111 kH1119 gkq (by decide))).trans m1117
          have bx1121 := ty_fi (x := x1121) (k := 7) ex1121 hTH1119 ga0 rg_78 rfl
          have bx1122 := ty_fi (x := x1122) (k := 0) ex1122 hTH1119 gmq rg_69 rfl
          refine W.eq (g2 := F0 m 48 ls1090 [.int x1120]) rfl ?_
          refine lv_if_ne (tgt := 53) hx hb dX4_either_48 (by decide) (fun c1126 => ?_) (fun c1126 => ?_)
          · have k1127 := i_ne c1126
            refine lv_aload_n hx hb dX4_either_53 rfl (lv_at hl1091 0 rfl) ?_
            refine x_gr C hTH1119 (ci := 4) (k := 0) rfl inX4 (by decide) wF_X4_12 ga0 rg_78 rfl dX4_either_54 (fun q1128 eq1128 gq1128 => ?_)
            have uq1128 : mq = q1128 := (m1123).trans eq1128.symm
            subst uq1128
            refine lv_bipush (v := 8) hx hb dX4_either_57 (by decide) ?_
            refine lv_iconst (v := 0) hx hb dX4_either_59 (by decide) ?_
            refine x_V (As := [.int 8, .int 0]) (rest := []) C (a_X7_addStep l K G H1119 (8) (0) (x1122) hTH1119 gmq ex1122) yo_X7_addStep wM_X4_131 ⟨⟨by decide, by decide⟩, by decide, by decide⟩ (x_rv C hTH1119 (ci := 7) rfl gmq rg_69) rfl hl1091.1 rfl (Nat.le_of_ble_eq_true rfl) dX4_either_60 hSH1119 (AE_sub (fun _ _ => rfl) (by decide) hSH1119.1) (fun vH1129 H1129 locsH1129 pH1129 zH1129 kH1129 hSH1129 => ?_)
            obtain ⟨x1130, hvH1129, ex1130, hrH1129, hTH1129⟩ := pH1129
            subst hvH1129
            have m1131 := (fI_kept (x_lt hTH1119 kH1129 gkq (by decide))).trans m1125
            have m1132 := (m1123).trans (fR_kept (x_lt hTH1119 kH1129 ga0 (by decide))).symm
            have m1133 := (m1124).trans (fR_kept (x_lt hTH1119 kH1129 ga0 (by decide))).symm
            have m1134 := (ex1121).trans (fI_kept (x_lt hTH1119 kH1129 ga0 (by decide))).symm
            have bx1130 := ty_fi (x := x1130) (k := 0) ex1130 hTH1129 gmq rg_69 rfl
            refine W.eq (g2 := F0 m 63 ls1090 []) rfl ?_
            obtain ⟨x1135, ex1135⟩ : ∃ y : Int32, y = x1092 + 1 := ⟨_, rfl⟩
            have tx1135 := i_add ex1135 (by omega)
            refine lv_iinc (v := x1135) (lv' := [(2, .int x1135), (0, .ref a0), (1, .int x1)]) hx hb dX4_either_63 hl1091 (k := 2) rfl (by rw [ex1135]; rfl) (by decide) rfl (fun ls1136 hl1137 => ?_)
            refine lv_goto (tgt := 12) hx hb dX4_either_66 (by decide) ?_
            exact ih12 ls1136 H1129 locsH1129 (x1135) (x1121) (x1130) (lv_sub hl1137 [1, 2, 0] rfl) hTH1129 hSH1129 (by have := i_rng x1135; omega) (by have := i_rng x1121; omega) (by have := i_rng x1130; omega) m1134 ex1130 m1132 m1133 m1131 (by omega) (by omega)
          · have k1127 := i_eq c1126
            refine lv_iconst (v := 0) hx hb dX4_either_51 (by decide) ?_
            exact x_zret C hQ (Or.inl rfl) dX4_either_52 hSH1119 (by decide) (by decide) (⟨0, x1121, x1122, rfl, by decide, ex1121, ex1122, by omega, m1123, m1124, hTH1119⟩)
  refine lv_aload_n hx hb dX4_either_0 rfl (lv_at hl 0 rfl) ?_
  refine lv_iload_n hx hb dX4_either_1 rfl (lv_at hl 1 rfl) ?_
  refine x_V (As := [.int x1]) (rest := []) C (a_X4_both_4 l K G s.heap (x1) (F) (tat) (li) hT ga0 (by omega) gmq emq gkq ekq etat eli hel0 (by omega) (by omega)) yo_X4_both wM_X4_128 ⟨⟨by decide, by decide⟩, by decide, by decide⟩ (x_rv C hT (ci := 4) rfl ga0 rg_78) rfl hl.1 rfl (Nat.le_of_ble_eq_true rfl) dX4_either_2 hS (AE_sub (fun _ _ => rfl) (by decide) hS.1) (fun vH1138 H1138 locsH1138 pH1138 zH1138 kH1138 hSH1138 => ?_)
  obtain ⟨x1139, x1140, x1141, hvH1138, bx1139, ex1140, ex1141, hrH1138, m1142, m1143, hTH1138⟩ := pH1138
  subst hvH1138
  have m1144 := (fI_kept (x_lt hT kH1138 gkq (by decide))).trans hel0
  have bx1140 := ty_fi (x := x1140) (k := 7) ex1140 hTH1138 ga0 rg_78 rfl
  have bx1141 := ty_fi (x := x1141) (k := 0) ex1141 hTH1138 gmq rg_69 rfl
  refine W.eq (g2 := F0 m 5 ls [.int x1139]) rfl ?_
  refine lv_if_ne (tgt := 10) hx hb dX4_either_5 (by decide) (fun c1145 => ?_) (fun c1145 => ?_)
  · have k1146 := i_ne c1145
    refine lv_iconst (v := 0) hx hb dX4_either_10 (by decide) ?_
    refine lv_istore_n (lv' := [(2, .int 0), (0, .ref a0), (1, .int x1)]) hx hb dX4_either_11 rfl hl (by decide) rfl (fun ls1147 hl1148 => ?_)
    exact J12 ((500 - (0 : Int32).toInt).toNat + 1) ls1147 H1138 locsH1138 (0) (x1140) (x1141) (lv_sub hl1148 [1, 2, 0] rfl) hTH1138 hSH1138 (by decide) (by have := i_rng x1140; omega) (by have := i_rng x1141; omega) ex1140 ex1141 m1142 m1143 m1144 (by omega) (by omega)
  · have k1146 := i_eq c1145
    refine lv_iconst (v := 0) hx hb dX4_either_8 (by decide) ?_
    exact x_zret C hQ (Or.inl rfl) dX4_either_9 hSH1138 (by decide) (by decide) (⟨0, x1140, x1141, rfl, by decide, ex1140, ex1141, by omega, m1142, m1143, hTH1138⟩)

set_option maxHeartbeats 4000000 in
set_option maxRecDepth 100000 in
theorem a_X4_opened_4 (l : Launch) (K : KE) (G : Nat → Option Nat) (H : Heap) {a0 : Nat} (x1 : Int32) (x2 : Int32) {mq : Nat} {kq : Nat} (F : Int32) (tat : Int32) (li : Int32) (hT : TY K G H) (ga0 : G a0 = some 78) (hx2 : 4 ≤ x2.toInt ∧ x2.toInt ≤ 8) (gmq : G mq = some 69) (emq : mq = fR H a0 (K.1.2 4 0)) (gkq : G kq = some 79) (ekq : kq = fR H a0 (K.1.2 4 3)) (etat : tat = fI H a0 (K.1.2 4 7)) (eli : li = fI H mq (K.1.2 7 0)) (hel0 : fI H kq (F : Int32).toNatClampNeg = 26) (hp0 : tat.toInt < F.toInt) (hp1 : F.toInt ≤ 500) : MX l K yX4_opened cX4_opened 3 (some .boolean) 22 491 0 0 [.ref a0, .int x1, .int x2] H (AE G [78, 69, 77] H.size) (fun v H1 => ∃ (r : Int32) (t0 : Int32) (t1 : Int32), v = some (.int r) ∧ (0 ≤ r.toInt ∧ r.toInt ≤ 1) ∧ t0 = fI H1 a0 (K.1.2 4 7) ∧ t1 = fI H1 mq (K.1.2 7 0) ∧ (t0.toInt ≤ F.toInt ∧ t1.toInt = li.toInt) ∧ mq = fR H1 a0 (K.1.2 4 0) ∧ kq = fR H1 a0 (K.1.2 4 3) ∧ TY K G H1) := by
  refine MX.of (by decide +kernel) (Nat.le_of_ble_eq_true rfl) ?_
  intro p e s m below meth c ls Q C hH hl hQ
  subst hH
  have C : CX p K s m _ meth c RX4 cX4_opened 3 (some .boolean) "opened" := C
  obtain ⟨hx, hb, hml, hown, hts, hKT, hr, hlocks, hnm⟩ := id C
  have hl : lv_has ls 3 [(0, .ref a0), (1, .int x1), (2, .int x2)] := hl
  have hS : va_S (AE G [78, 69, 77] s.heap.size) s.heap s.heap [] := va_S.rf
  have n_0 : (0 : Int32).toInt = 0 := rfl
  have n_1 : (1 : Int32).toInt = 1 := rfl
  have n_10 : (10 : Int32).toInt = 10 := rfl
  have n_26 : (26 : Int32).toInt = 26 := rfl
  have n_41 : (41 : Int32).toInt = 41 := rfl
  have btat := ty_fi (x := tat) (k := 7) etat hT ga0 rg_78 rfl
  have bli := ty_fi (x := li) (k := 0) eli hT gmq rg_69 rfl
  refine lv_aload_n hx hb dX4_opened_0 rfl (lv_at hl 0 rfl) ?_
  refine lv_dup hx hb dX4_opened_1 rfl ?_
  refine x_gi C hT (ci := 4) (k := 7) rfl inX4 (by decide) wF_X4_42 ga0 rg_78 rfl dX4_opened_2 (fun x337 ex337 bx337 => ?_)
  have ux337 : tat = x337 := (etat).trans ex337.symm
  subst ux337
  refine lv_iconst (v := 1) hx hb dX4_opened_5 (by decide) ?_
  refine lv_iadd hx hb dX4_opened_6 ?_
  refine lv_topi (fun x338 ex338 => ?_)
  have tx338 := i_add ex338 (by omega)
  have fz340 : 0 ≤ x338.toInt ∧ x338.toInt ≤ 500 := by have := i_rng x338; omega
  refine x_put C hT hS (ci := 4) (k := 7) (v := .int x338) (ty0 := tyX4) rfl inX4 tyX4_ok nmX4 (by decide) rfl wF_X4_42 ga0 rg_78 rfl rfl (okI (by have := i_rng x338; omega) (by have := i_rng x338; omega)) rfl rfl (AE_in ga0 (by decide)) dX4_opened_7 (fun H339 locsH339 hTH339 hSH339 wH339 => ?_)
  have m341 := emq.trans (Wr.neR wH339 (Or.inr (x_apart hKT hts inX4 tyX4 tyX4_ok nmX4 rfl 0 7 (by decide) (by decide) (by decide)))).symm
  have m342 := ekq.trans (Wr.neR wH339 (Or.inr (x_apart hKT hts inX4 tyX4 tyX4_ok nmX4 rfl 3 7 (by decide) (by decide) (by decide)))).symm
  have m344 := eli.trans (Wr.neI wH339 (Or.inl (G_ne gmq ga0 (by decide)))).symm
  have m345 := (Wr.neI wH339 (Or.inl (G_ne gkq ga0 (by decide)))).trans hel0
  have m346 := Wr.I wH339
  have m346 := m346.symm
  refine lv_iload_n hx hb dX4_opened_10 rfl (lv_at hl 1 rfl) ?_
  refine lv_bipush (v := 10) hx hb dX4_opened_11 (by decide) ?_
  refine lv_icmp_ne (tgt := 38) hx hb dX4_opened_13 (by decide) (fun c347 => ?_) (fun c347 => ?_)
  · have k348 := i_ne c347
    refine lv_aload_n hx hb dX4_opened_38 rfl (lv_at hl 0 rfl) ?_
    refine lv_iload_n hx hb dX4_opened_39 rfl (lv_at hl 2 rfl) ?_
    refine x_V (As := [.int x2]) (rest := []) C (a_X4_either_4 l K G H339 (x2) (F) (x338) (li) hTH339 ga0 (by omega) gmq m341 gkq m342 m346 m344 m345 (by omega) (by omega)) yo_X4_either wM_X4_113 ⟨⟨by decide, by decide⟩, by decide, by decide⟩ (x_rv C hTH339 (ci := 4) rfl ga0 rg_78) rfl hl.1 rfl (Nat.le_of_ble_eq_true rfl) dX4_opened_40 hSH339 (AE_sub (fun _ _ => rfl) (by decide) hSH339.1) (fun vH349 H349 locsH349 pH349 zH349 kH349 hSH349 => ?_)
    obtain ⟨x350, x351, x352, hvH349, bx350, ex351, ex352, hrH349, m353, m354, hTH349⟩ := pH349
    subst hvH349
    have m355 := (fI_kept (x_lt hTH339 kH349 gkq (by decide))).trans m345
    have bx351 := ty_fi (x := x351) (k := 7) ex351 hTH349 ga0 rg_78 rfl
    have bx352 := ty_fi (x := x352) (k := 0) ex352 hTH349 gmq rg_69 rfl
    refine W.eq (g2 := F0 m 43 ls [.int x350]) rfl ?_
    refine lv_if_ne (tgt := 48) hx hb dX4_opened_43 (by decide) (fun c356 => ?_) (fun c356 => ?_)
    · have k357 := i_ne c356
      refine lv_aload_n hx hb dX4_opened_48 rfl (lv_at hl 0 rfl) ?_
      refine x_gr C hTH349 (ci := 4) (k := 3) rfl inX4 (by decide) wF_X4_18 ga0 rg_78 rfl dX4_opened_49 (fun q358 eq358 gq358 => ?_)
      have uq358 : kq = q358 := (m354).trans eq358.symm
      subst uq358
      refine lv_aload_n hx hb dX4_opened_52 rfl (lv_at hl 0 rfl) ?_
      refine x_gi C hTH349 (ci := 4) (k := 7) rfl inX4 (by decide) wF_X4_42 ga0 rg_78 rfl dX4_opened_53 (fun x359 ex359 bx359 => ?_)
      have ux359 : x351 = x359 := (ex351).trans ex359.symm
      subst ux359
      refine x_ai C hTH349 gkq rg_79 ⟨by omega, by show _ < ((501 : Nat) : Int); omega⟩ dX4_opened_56 (fun x360 ex360 bx360 => ?_)
      have dx360 := el_hit ex360 m355
      refine lv_bipush (v := 41) hx hb dX4_opened_57 (by decide) ?_
      refine lv_icmp_eq (tgt := 68) hx hb dX4_opened_59 (by decide) (fun c361 => ?_) (fun c361 => ?_)
      · have k362 := i_eq c361
        refine lv_aload_n hx hb dX4_opened_68 rfl (lv_at hl 0 rfl) ?_
        refine lv_dup hx hb dX4_opened_69 rfl ?_
        refine x_gi C hTH349 (ci := 4) (k := 7) rfl inX4 (by decide) wF_X4_42 ga0 rg_78 rfl dX4_opened_70 (fun x363 ex363 bx363 => ?_)
        have ux363 : x351 = x363 := (ex351).trans ex363.symm
        subst ux363
        refine lv_iconst (v := 1) hx hb dX4_opened_73 (by decide) ?_
        refine lv_iadd hx hb dX4_opened_74 ?_
        refine lv_topi (fun x364 ex364 => ?_)
        have tx364 := i_add ex364 (by omega)
        have fz366 : 0 ≤ x364.toInt ∧ x364.toInt ≤ 500 := by have := i_rng x364; omega
        refine x_put C hTH349 hSH349 (ci := 4) (k := 7) (v := .int x364) (ty0 := tyX4) rfl inX4 tyX4_ok nmX4 (by decide) rfl wF_X4_42 ga0 rg_78 rfl rfl (okI (by have := i_rng x364; omega) (by have := i_rng x364; omega)) rfl rfl (AE_in ga0 (by decide)) dX4_opened_75 (fun H365 locsH365 hTH365 hSH365 wH365 => ?_)
        have m367 := (Wr.neI wH365 (Or.inl (G_ne gkq ga0 (by decide)))).trans m355
        have m368 := m353.trans (Wr.neR wH365 (Or.inr (x_apart hKT hts inX4 tyX4 tyX4_ok nmX4 rfl 0 7 (by decide) (by decide) (by decide)))).symm
        have m369 := m354.trans (Wr.neR wH365 (Or.inr (x_apart hKT hts inX4 tyX4 tyX4_ok nmX4 rfl 3 7 (by decide) (by decide) (by decide)))).symm
        have m371 := ex352.trans (Wr.neI wH365 (Or.inl (G_ne gmq ga0 (by decide)))).symm
        have m372 := Wr.I wH365
        have m372 := m372.symm
        refine lv_iconst (v := 1) hx hb dX4_opened_78 (by decide) ?_
        exact x_zret C hQ (Or.inr rfl) dX4_opened_79 hSH365 (by decide) (by decide) (⟨1, x364, x352, rfl, by decide, m372, m371, by omega, m368, m369, hTH365⟩)
      · have k362 := i_ne c361
        refine lv_aload_n hx hb dX4_opened_62 rfl (lv_at hl 0 rfl) ?_
        refine lv_iconst (v := 1) hx hb dX4_opened_63 (by decide) ?_
        refine x_V (As := [.int 1]) (rest := []) C (a_X4_refuse l K G H349 (1) (x351) hTH349 ga0 gmq m353 gkq m354 ex351) yo_X4_refuse wM_X4_81 ⟨⟨by decide, by decide⟩, by decide, by decide⟩ (x_rv C hTH349 (ci := 4) rfl ga0 rg_78) rfl hl.1 rfl (Nat.le_of_ble_eq_true rfl) dX4_opened_64 hSH349 (AE_sub (fun _ _ => rfl) (by decide) hSH349.1) (fun vH373 H373 locsH373 pH373 zH373 kH373 hSH373 => ?_)
        obtain ⟨x374, x375, hvH373, bx374, ex375, hrH373, m376, m377, hTH373⟩ := pH373
        subst hvH373
        have m378 := (fI_kept (x_lt hTH349 kH373 gkq (by decide))).trans m355
        have m379 := (ex352).trans (fI_kept (x_lt hTH349 kH373 gmq (by decide))).symm
        have bx375 := ty_fi (x := x375) (k := 7) ex375 hTH373 ga0 rg_78 rfl
        refine W.eq (g2 := F0 m 67 ls [.int x374]) rfl ?_
        exact x_zret C hQ (i_01 (by omega)) dX4_opened_67 hSH373 (by decide) (by decide) (⟨x374, x375, x352, rfl, by omega, ex375, m379, by omega, m376, m377, hTH373⟩)
    · have k357 := i_eq c356
      refine lv_iconst (v := 0) hx hb dX4_opened_46 (by decide) ?_
      exact x_zret C hQ (Or.inl rfl) dX4_opened_47 hSH349 (by decide) (by decide) (⟨0, x351, x352, rfl, by decide, ex351, ex352, by omega, m353, m354, hTH349⟩)
  · have k348 := i_eq c347
    refine lv_aload_n hx hb dX4_opened_16 rfl (lv_at hl 0 rfl) ?_
    refine lv_iload_n hx hb dX4_opened_17 rfl (lv_at hl 2 rfl) ?_
    refine x_V (As := [.int x2]) (rest := []) C (a_X4_part_4 l K G H339 (x2) (F) (x338) (li) hTH339 ga0 (by omega) gmq m341 gkq m342 m346 m344 m345 (by omega) (by omega)) yo_X4_part wM_X4_135 ⟨⟨by decide, by decide⟩, by decide, by decide⟩ (x_rv C hTH339 (ci := 4) rfl ga0 rg_78) rfl hl.1 rfl (Nat.le_of_ble_eq_true rfl) dX4_opened_18 hSH339 (AE_sub (fun _ _ => rfl) (by decide) hSH339.1) (fun vH380 H380 locsH380 pH380 zH380 kH380 hSH380 => ?_)
    obtain ⟨x381, x382, x383, hvH380, bx381, ex382, ex383, hrH380, m384, m385, hTH380⟩ := pH380
    subst hvH380
    have m386 := (fI_kept (x_lt hTH339 kH380 gkq (by decide))).trans m345
    have bx382 := ty_fi (x := x382) (k := 7) ex382 hTH380 ga0 rg_78 rfl
    have bx383 := ty_fi (x := x383) (k := 0) ex383 hTH380 gmq rg_69 rfl
    refine W.eq (g2 := F0 m 21 ls [.int x381]) rfl ?_
    refine lv_if_ne (tgt := 26) hx hb dX4_opened_21 (by decide) (fun c387 => ?_) (fun c387 => ?_)
    · have k388 := i_ne c387
      refine lv_aload_n hx hb dX4_opened_26 rfl (lv_at hl 0 rfl) ?_
      refine x_gr C hTH380 (ci := 4) (k := 0) rfl inX4 (by decide) wF_X4_12 ga0 rg_78 rfl dX4_opened_27 (fun q389 eq389 gq389 => ?_)
      have uq389 : mq = q389 := (m384).trans eq389.symm
      subst uq389
      refine lv_bipush (v := 10) hx hb dX4_opened_30 (by decide) ?_
      refine lv_iconst (v := 0) hx hb dX4_opened_32 (by decide) ?_
      refine x_V (As := [.int 10, .int 0]) (rest := []) C (a_X7_addStep l K G H380 (10) (0) (x383) hTH380 gmq ex383) yo_X7_addStep wM_X4_131 ⟨⟨by decide, by decide⟩, by decide, by decide⟩ (x_rv C hTH380 (ci := 7) rfl gmq rg_69) rfl hl.1 rfl (Nat.le_of_ble_eq_true rfl) dX4_opened_33 hSH380 (AE_sub (fun _ _ => rfl) (by decide) hSH380.1) (fun vH390 H390 locsH390 pH390 zH390 kH390 hSH390 => ?_)
      obtain ⟨x391, hvH390, ex391, hrH390, hTH390⟩ := pH390
      subst hvH390
      have m392 := (fI_kept (x_lt hTH380 kH390 gkq (by decide))).trans m386
      have m393 := (m384).trans (fR_kept (x_lt hTH380 kH390 ga0 (by decide))).symm
      have m394 := (m385).trans (fR_kept (x_lt hTH380 kH390 ga0 (by decide))).symm
      have m395 := (ex382).trans (fI_kept (x_lt hTH380 kH390 ga0 (by decide))).symm
      have bx391 := ty_fi (x := x391) (k := 0) ex391 hTH390 gmq rg_69 rfl
      refine W.eq (g2 := F0 m 36 ls []) rfl ?_
      refine lv_iconst (v := 1) hx hb dX4_opened_36 (by decide) ?_
      exact x_zret C hQ (Or.inr rfl) dX4_opened_37 hSH390 (by decide) (by decide) (⟨1, x382, x391, rfl, by decide, m395, ex391, by omega, m393, m394, hTH390⟩)
    · have k388 := i_eq c387
      refine lv_iconst (v := 0) hx hb dX4_opened_24 (by decide) ?_
      exact x_zret C hQ (Or.inl rfl) dX4_opened_25 hSH380 (by decide) (by decide) (⟨0, x382, x383, rfl, by decide, ex382, ex383, by omega, m384, m385, hTH380⟩)

set_option maxHeartbeats 4000000 in
set_option maxRecDepth 100000 in
theorem a_X4_part_3 (l : Launch) (K : KE) (G : Nat → Option Nat) (H : Heap) {a0 : Nat} (x1 : Int32) {mq : Nat} {kq : Nat} (F : Int32) (tat : Int32) (li : Int32) (hT : TY K G H) (ga0 : G a0 = some 78) (hx1 : 3 ≤ x1.toInt ∧ x1.toInt ≤ 8) (gmq : G mq = some 69) (emq : mq = fR H a0 (K.1.2 4 0)) (gkq : G kq = some 79) (ekq : kq = fR H a0 (K.1.2 4 3)) (etat : tat = fI H a0 (K.1.2 4 7)) (eli : li = fI H mq (K.1.2 7 0)) (hel0 : fI H kq (F : Int32).toNatClampNeg = 26) (hp0 : tat.toInt ≤ F.toInt) (hp1 : F.toInt ≤ 500) : MX l K yX4_part cX4_part 4 (some .boolean) 23 513 0 0 [.ref a0, .int x1] H (AE G [78, 69, 77] H.size) (fun v H1 => ∃ (r : Int32) (t0 : Int32) (t1 : Int32), v = some (.int r) ∧ (0 ≤ r.toInt ∧ r.toInt ≤ 1) ∧ t0 = fI H1 a0 (K.1.2 4 7) ∧ t1 = fI H1 mq (K.1.2 7 0) ∧ (t0.toInt ≤ F.toInt ∧ t1.toInt = li.toInt) ∧ mq = fR H1 a0 (K.1.2 4 0) ∧ kq = fR H1 a0 (K.1.2 4 3) ∧ TY K G H1) := by
  refine MX.of (by decide +kernel) (Nat.le_of_ble_eq_true rfl) ?_
  intro p e s m below meth c ls Q C hH hl hQ
  subst hH
  have C : CX p K s m _ meth c RX4 cX4_part 4 (some .boolean) "part" := C
  obtain ⟨hx, hb, hml, hown, hts, hKT, hr, hlocks, hnm⟩ := id C
  have hl : lv_has ls 4 [(0, .ref a0), (1, .int x1)] := hl
  have hS : va_S (AE G [78, 69, 77] s.heap.size) s.heap s.heap [] := va_S.rf
  have n_0 : (0 : Int32).toInt = 0 := rfl
  have n_1 : (1 : Int32).toInt = 1 := rfl
  have n_3 : (3 : Int32).toInt = 3 := rfl
  have n_8 : (8 : Int32).toInt = 8 := rfl
  have n_10 : (10 : Int32).toInt = 10 := rfl
  have n_26 : (26 : Int32).toInt = 26 := rfl
  have n_40 : (40 : Int32).toInt = 40 := rfl
  have n_60 : (60 : Int32).toInt = 60 := rfl
  have n_61 : (61 : Int32).toInt = 61 := rfl
  have n_62 : (62 : Int32).toInt = 62 := rfl
  have btat := ty_fi (x := tat) (k := 7) etat hT ga0 rg_78 rfl
  have bli := ty_fi (x := li) (k := 0) eli hT gmq rg_69 rfl
  have J22 : ∀ (ls535 : Array Slot) (H534 : Heap) (locsH534 : List Loc) (x537 : Int32) (x538 : Int32) (x539 : Int32), lv_has ls535 4 [(0, .ref a0), (1, .int x1), (2, .int x537)] → TY K G H534 → va_S (AE G [78, 69, 77] s.heap.size) s.heap H534 locsH534 → (10 ≤ x537.toInt ∧ x537.toInt ≤ 40) → (0 ≤ x538.toInt ∧ x538.toInt ≤ 500) → (0 ≤ x539.toInt ∧ x539.toInt ≤ 16) → (x538 = fI H534 a0 (K.1.2 4 7)) → (x539 = fI H534 mq (K.1.2 7 0)) → (mq = fR H534 a0 (K.1.2 4 0)) → (kq = fR H534 a0 (K.1.2 4 3)) → (fI H534 kq (F : Int32).toNatClampNeg = 26) → (x538.toInt < F.toInt ∧ x538.toInt ≤ F.toInt ∧ x539.toInt = li.toInt) → W p l e ({ frames := 23, cells := 0, slots := 0, locals := 513 } : Room) s m (([.ref a0, .int x1] : List Value).toArray) below meth c H534 locsH534 0 0 Q (F0 m 22 ls535 []) := by
    intro ls535 H534 locsH534 x537 x538 x539 hl536 hTH534 hSH534 bx537 bx538 bx539 ex538 ex539 cy540_0 cy540_1 cy540_2 iv22
    have J44 : ∀ (ls542 : Array Slot) (H541 : Heap) (locsH541 : List Loc) (x544 : Int32) (x545 : Int32) (x546 : Int32), lv_has ls542 4 [] → TY K G H541 → va_S (AE G [78, 69, 77] s.heap.size) s.heap H541 locsH541 → (0 ≤ x544.toInt ∧ x544.toInt ≤ 1) → (0 ≤ x545.toInt ∧ x545.toInt ≤ 500) → (0 ≤ x546.toInt ∧ x546.toInt ≤ 16) → (x545 = fI H541 a0 (K.1.2 4 7)) → (x546 = fI H541 mq (K.1.2 7 0)) → (mq = fR H541 a0 (K.1.2 4 0)) → (kq = fR H541 a0 (K.1.2 4 3)) → (fI H541 kq (F : Int32).toNatClampNeg = 26) → (x545.toInt ≤ F.toInt ∧ x546.toInt = li.toInt) → W p l e ({ frames := 23, cells := 0, slots := 0, locals := 513 } : Room) s m (([.ref a0, .int x1] : List Value).toArray) below meth c H541 locsH541 0 0 Q (F0 m 44 ls542 [.int x544]) := by
      intro ls542 H541 locsH541 x544 x545 x546 hl543 hTH541 hSH541 bx544 bx545 bx546 ex545 ex546 cy547_0 cy547_1 cy547_2 iv44
      exact x_zret C hQ (i_01 (by omega)) dX4_part_44 hSH541 (by decide) (by decide) (⟨x544, x545, x546, rfl, by omega, ex545, ex546, by omega, cy547_0, cy547_1, hTH541⟩)
    refine lv_iload_n hx hb dX4_part_22 rfl (lv_at hl536 1 rfl) ?_
    refine lv_bipush (v := 8) hx hb dX4_part_23 (by decide) ?_
    refine lv_icmp_ge (tgt := 39) hx hb dX4_part_25 (by decide) (fun c548 => ?_) (fun c548 => ?_)
    · have k549 := i_le c548
      refine lv_aload_n hx hb dX4_part_39 rfl (lv_at hl536 0 rfl) ?_
      refine lv_iconst (v := 3) hx hb dX4_part_40 (by decide) ?_
      refine x_V (As := [.int 3]) (rest := []) C (a_X4_refuse l K G H534 (3) (x538) hTH534 ga0 gmq cy540_0 gkq cy540_1 ex538) yo_X4_refuse wM_X4_81 ⟨⟨by decide, by decide⟩, by decide, by decide⟩ (x_rv C hTH534 (ci := 4) rfl ga0 rg_78) rfl hl536.1 rfl (Nat.le_of_ble_eq_true rfl) dX4_part_41 hSH534 (AE_sub (fun _ _ => rfl) (by decide) hSH534.1) (fun vH550 H550 locsH550 pH550 zH550 kH550 hSH550 => ?_)
      obtain ⟨x551, x552, hvH550, bx551, ex552, hrH550, m553, m554, hTH550⟩ := pH550
      subst hvH550
      have m555 := (ex539).trans (fI_kept (x_lt hTH534 kH550 gmq (by decide))).symm
      have m556 := (fI_kept (x_lt hTH534 kH550 gkq (by decide))).trans cy540_2
      have bx552 := ty_fi (x := x552) (k := 7) ex552 hTH550 ga0 rg_78 rfl
      refine W.eq (g2 := F0 m 44 ls535 [.int x551]) rfl ?_
      exact J44 ls535 H550 locsH550 (x551) (x552) (x539) (lv_sub hl536 [] rfl) hTH550 hSH550 (by have := i_rng x551; omega) (by have := i_rng x552; omega) (by have := i_rng x539; omega) ex552 m555 m553 m554 m556 (by omega)
    · have k549 := i_nle c548
      refine lv_aload_n hx hb dX4_part_28 rfl (lv_at hl536 0 rfl) ?_
      refine lv_iload_n hx hb dX4_part_29 rfl (lv_at hl536 2 rfl) ?_
      refine lv_iload_n hx hb dX4_part_30 rfl (lv_at hl536 1 rfl) ?_
      refine lv_iconst (v := 1) hx hb dX4_part_31 (by decide) ?_
      refine lv_iadd hx hb dX4_part_32 ?_
      refine lv_topi (fun x557 ex557 => ?_)
      have tx557 := i_add ex557 (by omega)
      refine x_V (As := [.int x537, .int x557]) (rest := []) C (a_X4_opened_4 l K G H534 (x537) (x557) (F) (x538) (x539) hTH534 ga0 (by omega) gmq cy540_0 gkq cy540_1 ex538 ex539 cy540_2 (by omega) (by omega)) yo_X4_opened wM_X4_138 ⟨⟨by decide, by decide⟩, by decide, by decide⟩ (x_rv C hTH534 (ci := 4) rfl ga0 rg_78) rfl hl536.1 rfl (Nat.le_of_ble_eq_true rfl) dX4_part_33 hSH534 (AE_sub (fun _ _ => rfl) (by decide) hSH534.1) (fun vH558 H558 locsH558 pH558 zH558 kH558 hSH558 => ?_)
      obtain ⟨x559, x560, x561, hvH558, bx559, ex560, ex561, hrH558, m562, m563, hTH558⟩ := pH558
      subst hvH558
      have m564 := (fI_kept (x_lt hTH534 kH558 gkq (by decide))).trans cy540_2
      have bx560 := ty_fi (x := x560) (k := 7) ex560 hTH558 ga0 rg_78 rfl
      have bx561 := ty_fi (x := x561) (k := 0) ex561 hTH558 gmq rg_69 rfl
      refine W.eq (g2 := F0 m 36 ls535 [.int x559]) rfl ?_
      refine lv_goto (tgt := 44) hx hb dX4_part_36 (by decide) ?_
      exact J44 ls535 H558 locsH558 (x559) (x560) (x561) (lv_sub hl536 [] rfl) hTH558 hSH558 (by have := i_rng x559; omega) (by have := i_rng x560; omega) (by have := i_rng x561; omega) ex560 ex561 m562 m563 m564 (by omega)
  have J88 : ∀ (ls566 : Array Slot) (H565 : Heap) (locsH565 : List Loc) (x568 : Int32) (x569 : Int32) (x570 : Int32), lv_has ls566 4 [(0, .ref a0), (3, .int x568)] → TY K G H565 → va_S (AE G [78, 69, 77] s.heap.size) s.heap H565 locsH565 → (60 ≤ x568.toInt ∧ x568.toInt ≤ 62) → (0 ≤ x569.toInt ∧ x569.toInt ≤ 500) → (0 ≤ x570.toInt ∧ x570.toInt ≤ 16) → (x569 = fI H565 a0 (K.1.2 4 7)) → (x570 = fI H565 mq (K.1.2 7 0)) → (mq = fR H565 a0 (K.1.2 4 0)) → (kq = fR H565 a0 (K.1.2 4 3)) → (fI H565 kq (F : Int32).toNatClampNeg = 26) → (x569.toInt < F.toInt ∧ x569.toInt ≤ F.toInt ∧ x570.toInt = li.toInt) → W p l e ({ frames := 23, cells := 0, slots := 0, locals := 513 } : Room) s m (([.ref a0, .int x1] : List Value).toArray) below meth c H565 locsH565 0 0 Q (F0 m 88 ls566 []) := by
    intro ls566 H565 locsH565 x568 x569 x570 hl567 hTH565 hSH565 bx568 bx569 bx570 ex569 ex570 cy571_0 cy571_1 cy571_2 iv88
    refine lv_aload_n hx hb dX4_part_88 rfl (lv_at hl567 0 rfl) ?_
    refine lv_dup hx hb dX4_part_89 rfl ?_
    refine x_gi C hTH565 (ci := 4) (k := 7) rfl inX4 (by decide) wF_X4_42 ga0 rg_78 rfl dX4_part_90 (fun x572 ex572 bx572 => ?_)
    have ux572 : x569 = x572 := (ex569).trans ex572.symm
    subst ux572
    refine lv_iconst (v := 1) hx hb dX4_part_93 (by decide) ?_
    refine lv_iadd hx hb dX4_part_94 ?_
    refine lv_topi (fun x573 ex573 => ?_)
    have tx573 := i_add ex573 (by omega)
    have fz575 : 0 ≤ x573.toInt ∧ x573.toInt ≤ 500 := by have := i_rng x573; omega
    refine x_put C hTH565 hSH565 (ci := 4) (k := 7) (v := .int x573) (ty0 := tyX4) rfl inX4 tyX4_ok nmX4 (by decide) rfl wF_X4_42 ga0 rg_78 rfl rfl (okI (by have := i_rng x573; omega) (by have := i_rng x573; omega)) rfl rfl (AE_in ga0 (by decide)) dX4_part_95 (fun H574 locsH574 hTH574 hSH574 wH574 => ?_)
    have m577 := ex570.trans (Wr.neI wH574 (Or.inl (G_ne gmq ga0 (by decide)))).symm
    have m578 := cy571_0.trans (Wr.neR wH574 (Or.inr (x_apart hKT hts inX4 tyX4 tyX4_ok nmX4 rfl 0 7 (by decide) (by decide) (by decide)))).symm
    have m579 := cy571_1.trans (Wr.neR wH574 (Or.inr (x_apart hKT hts inX4 tyX4 tyX4_ok nmX4 rfl 3 7 (by decide) (by decide) (by decide)))).symm
    have m580 := (Wr.neI wH574 (Or.inl (G_ne gkq ga0 (by decide)))).trans cy571_2
    have m581 := Wr.I wH574
    have m581 := m581.symm
    refine lv_aload_n hx hb dX4_part_98 rfl (lv_at hl567 0 rfl) ?_
    refine x_V (As := []) (rest := []) C (a_X4_sum l K G H574 (F) (x573) (x570) hTH574 ga0 gmq m578 gkq m579 m581 m577 m580 (by omega) (by omega)) yo_X4_sum wM_X4_103 ⟨⟨by decide, by decide⟩, by decide, by decide⟩ (x_rv C hTH574 (ci := 4) rfl ga0 rg_78) rfl hl567.1 rfl (Nat.le_of_ble_eq_true rfl) dX4_part_99 hSH574 (AE_sub (fun _ _ => rfl) (by decide) hSH574.1) (fun vH582 H582 locsH582 pH582 zH582 kH582 hSH582 => ?_)
    obtain ⟨x583, x584, x585, hvH582, bx583, ex584, ex585, hrH582, m586, m587, hTH582⟩ := pH582
    subst hvH582
    have m588 := (fI_kept (x_lt hTH574 kH582 gkq (by decide))).trans m580
    have bx584 := ty_fi (x := x584) (k := 7) ex584 hTH582 ga0 rg_78 rfl
    have bx585 := ty_fi (x := x585) (k := 0) ex585 hTH582 gmq rg_69 rfl
    refine W.eq (g2 := F0 m 102 ls566 [.int x583]) rfl ?_
    refine lv_if_ne (tgt := 107) hx hb dX4_part_102 (by decide) (fun c589 => ?_) (fun c589 => ?_)
    · have k590 := i_ne c589
      refine lv_aload_n hx hb dX4_part_107 rfl (lv_at hl567 0 rfl) ?_
      refine x_gr C hTH582 (ci := 4) (k := 0) rfl inX4 (by decide) wF_X4_12 ga0 rg_78 rfl dX4_part_108 (fun q591 eq591 gq591 => ?_)
      have uq591 : mq = q591 := (m586).trans eq591.symm
      subst uq591
      refine lv_iload_n hx hb dX4_part_111 rfl (lv_at hl567 1 rfl) ?_
      refine lv_iconst (v := 0) hx hb dX4_part_112 (by decide) ?_
      refine x_V (As := [.int x568, .int 0]) (rest := []) C (a_X7_addStep l K G H582 (x568) (0) (x585) hTH582 gmq ex585) yo_X7_addStep wM_X4_131 ⟨⟨by decide, by decide⟩, by decide, by decide⟩ (x_rv C hTH582 (ci := 7) rfl gmq rg_69) rfl hl567.1 rfl (Nat.le_of_ble_eq_true rfl) dX4_part_113 hSH582 (AE_sub (fun _ _ => rfl) (by decide) hSH582.1) (fun vH592 H592 locsH592 pH592 zH592 kH592 hSH592 => ?_)
      obtain ⟨x593, hvH592, ex593, hrH592, hTH592⟩ := pH592
      subst hvH592
      have m594 := (fI_kept (x_lt hTH582 kH592 gkq (by decide))).trans m588
      have m595 := (m586).trans (fR_kept (x_lt hTH582 kH592 ga0 (by decide))).symm
      have m596 := (m587).trans (fR_kept (x_lt hTH582 kH592 ga0 (by decide))).symm
      have m597 := (ex584).trans (fI_kept (x_lt hTH582 kH592 ga0 (by decide))).symm
      have bx593 := ty_fi (x := x593) (k := 0) ex593 hTH592 gmq rg_69 rfl
      refine W.eq (g2 := F0 m 116 ls566 []) rfl ?_
      refine lv_iconst (v := 1) hx hb dX4_part_116 (by decide) ?_
      exact x_zret C hQ (Or.inr rfl) dX4_part_117 hSH592 (by decide) (by decide) (⟨1, x584, x593, rfl, by decide, m597, ex593, by omega, m595, m596, hTH592⟩)
    · have k590 := i_eq c589
      refine lv_iconst (v := 0) hx hb dX4_part_105 (by decide) ?_
      exact x_zret C hQ (Or.inl rfl) dX4_part_106 hSH582 (by decide) (by decide) (⟨0, x584, x585, rfl, by decide, ex584, ex585, by omega, m586, m587, hTH582⟩)
  refine lv_aload_n hx hb dX4_part_0 rfl (lv_at hl 0 rfl) ?_
  refine x_gr C hT (ci := 4) (k := 3) rfl inX4 (by decide) wF_X4_18 ga0 rg_78 rfl dX4_part_1 (fun q598 eq598 gq598 => ?_)
  have uq598 : kq = q598 := (ekq).trans eq598.symm
  subst uq598
  refine lv_aload_n hx hb dX4_part_4 rfl (lv_at hl 0 rfl) ?_
  refine x_gi C hT (ci := 4) (k := 7) rfl inX4 (by decide) wF_X4_42 ga0 rg_78 rfl dX4_part_5 (fun x599 ex599 bx599 => ?_)
  have ux599 : tat = x599 := (etat).trans ex599.symm
  subst ux599
  refine x_ai C hT gkq rg_79 ⟨by omega, by show _ < ((501 : Nat) : Int); omega⟩ dX4_part_8 (fun x600 ex600 bx600 => ?_)
  have dx600 := el_hit ex600 hel0
  refine lv_istore_n (lv' := [(2, .int x600), (0, .ref a0), (1, .int x1)]) hx hb dX4_part_9 rfl hl (by decide) rfl (fun ls601 hl602 => ?_)
  refine lv_iload_n hx hb dX4_part_10 rfl (lv_at hl602 0 rfl) ?_
  refine lv_bipush (v := 10) hx hb dX4_part_11 (by decide) ?_
  refine lv_icmp_eq (tgt := 22) hx hb dX4_part_13 (by decide) (fun c603 => ?_) (fun c603 => ?_)
  · have k604 := i_eq c603
    exact J22 ls601 s.heap [] (x600) (tat) (li) (lv_sub hl602 [1, 2, 0] rfl) hT hS (by have := i_rng x600; omega) (by have := i_rng tat; omega) (by have := i_rng li; omega) etat eli emq ekq hel0 (by omega)
  · have k604 := i_ne c603
    refine lv_iload_n hx hb dX4_part_16 rfl (lv_at hl602 0 rfl) ?_
    refine lv_bipush (v := 40) hx hb dX4_part_17 (by decide) ?_
    refine lv_icmp_ne (tgt := 45) hx hb dX4_part_19 (by decide) (fun c605 => ?_) (fun c605 => ?_)
    · have k606 := i_ne c605
      refine lv_aload_n hx hb dX4_part_45 rfl (lv_at hl602 1 rfl) ?_
      refine x_V (As := []) (rest := []) C (a_X4_sum l K G s.heap (F) (tat) (li) hT ga0 gmq emq gkq ekq etat eli hel0 (by omega) (by omega)) yo_X4_sum wM_X4_103 ⟨⟨by decide, by decide⟩, by decide, by decide⟩ (x_rv C hT (ci := 4) rfl ga0 rg_78) rfl hl602.1 rfl (Nat.le_of_ble_eq_true rfl) dX4_part_46 hS (AE_sub (fun _ _ => rfl) (by decide) hS.1) (fun vH607 H607 locsH607 pH607 zH607 kH607 hSH607 => ?_)
      obtain ⟨x608, x609, x610, hvH607, bx608, ex609, ex610, hrH607, m611, m612, hTH607⟩ := pH607
      subst hvH607
      have m613 := (fI_kept (x_lt hT kH607 gkq (by decide))).trans hel0
      have bx609 := ty_fi (x := x609) (k := 7) ex609 hTH607 ga0 rg_78 rfl
      have bx610 := ty_fi (x := x610) (k := 0) ex610 hTH607 gmq rg_69 rfl
      refine W.eq (g2 := F0 m 49 ls601 [.int x608]) rfl ?_
      refine lv_if_ne (tgt := 54) hx hb dX4_part_49 (by decide) (fun c614 => ?_) (fun c614 => ?_)
      · have k615 := i_ne c614
        refine lv_aload_n hx hb dX4_part_54 rfl (lv_at hl602 1 rfl) ?_
        refine x_gr C hTH607 (ci := 4) (k := 3) rfl inX4 (by decide) wF_X4_18 ga0 rg_78 rfl dX4_part_55 (fun q616 eq616 gq616 => ?_)
        have uq616 : kq = q616 := (m612).trans eq616.symm
        subst uq616
        refine lv_aload_n hx hb dX4_part_58 rfl (lv_at hl602 1 rfl) ?_
        refine x_gi C hTH607 (ci := 4) (k := 7) rfl inX4 (by decide) wF_X4_42 ga0 rg_78 rfl dX4_part_59 (fun x617 ex617 bx617 => ?_)
        have ux617 : x609 = x617 := (ex609).trans ex617.symm
        subst ux617
        refine x_ai C hTH607 gkq rg_79 ⟨by omega, by show _ < ((501 : Nat) : Int); omega⟩ dX4_part_62 (fun x618 ex618 bx618 => ?_)
        have dx618 := el_hit ex618 m613
        refine lv_istore_n (lv' := [(3, .int x618), (2, .int x600), (0, .ref a0), (1, .int x1)]) hx hb dX4_part_63 rfl hl602 (by decide) rfl (fun ls619 hl620 => ?_)
        refine lv_iload_n hx hb dX4_part_64 rfl (lv_at hl620 0 rfl) ?_
        refine lv_bipush (v := 60) hx hb dX4_part_65 (by decide) ?_
        refine lv_icmp_eq (tgt := 88) hx hb dX4_part_67 (by decide) (fun c621 => ?_) (fun c621 => ?_)
        · have k622 := i_eq c621
          exact J88 ls619 H607 locsH607 (x618) (x609) (x610) (lv_sub hl620 [2, 0] rfl) hTH607 hSH607 (by have := i_rng x618; omega) (by have := i_rng x609; omega) (by have := i_rng x610; omega) ex609 ex610 m611 m612 m613 (by omega)
        · have k622 := i_ne c621
          refine lv_iload_n hx hb dX4_part_70 rfl (lv_at hl620 0 rfl) ?_
          refine lv_bipush (v := 61) hx hb dX4_part_71 (by decide) ?_
          refine lv_icmp_eq (tgt := 88) hx hb dX4_part_73 (by decide) (fun c623 => ?_) (fun c623 => ?_)
          · have k624 := i_eq c623
            exact J88 ls619 H607 locsH607 (x618) (x609) (x610) (lv_sub hl620 [2, 0] rfl) hTH607 hSH607 (by have := i_rng x618; omega) (by have := i_rng x609; omega) (by have := i_rng x610; omega) ex609 ex610 m611 m612 m613 (by omega)
          · have k624 := i_ne c623
            refine lv_iload_n hx hb dX4_part_76 rfl (lv_at hl620 0 rfl) ?_
            refine lv_bipush (v := 62) hx hb dX4_part_77 (by decide) ?_
            refine lv_icmp_eq (tgt := 88) hx hb dX4_part_79 (by decide) (fun c625 => ?_) (fun c625 => ?_)
            · have k626 := i_eq c625
              exact J88 ls619 H607 locsH607 (x618) (x609) (x610) (lv_sub hl620 [2, 0] rfl) hTH607 hSH607 (by have := i_rng x618; omega) (by have := i_rng x609; omega) (by have := i_rng x610; omega) ex609 ex610 m611 m612 m613 (by omega)
            · have k626 := i_ne c625
              refine lv_aload_n hx hb dX4_part_82 rfl (lv_at hl620 2 rfl) ?_
              refine lv_iconst (v := 1) hx hb dX4_part_83 (by decide) ?_
              refine x_V (As := [.int 1]) (rest := []) C (a_X4_refuse l K G H607 (1) (x609) hTH607 ga0 gmq m611 gkq m612 ex609) yo_X4_refuse wM_X4_81 ⟨⟨by decide, by decide⟩, by decide, by decide⟩ (x_rv C hTH607 (ci := 4) rfl ga0 rg_78) rfl hl620.1 rfl (Nat.le_of_ble_eq_true rfl) dX4_part_84 hSH607 (AE_sub (fun _ _ => rfl) (by decide) hSH607.1) (fun vH627 H627 locsH627 pH627 zH627 kH627 hSH627 => ?_)
              obtain ⟨x628, x629, hvH627, bx628, ex629, hrH627, m630, m631, hTH627⟩ := pH627
              subst hvH627
              have m632 := (fI_kept (x_lt hTH607 kH627 gkq (by decide))).trans m613
              have m633 := (ex610).trans (fI_kept (x_lt hTH607 kH627 gmq (by decide))).symm
              have bx629 := ty_fi (x := x629) (k := 7) ex629 hTH627 ga0 rg_78 rfl
              refine W.eq (g2 := F0 m 87 ls619 [.int x628]) rfl ?_
              exact x_zret C hQ (i_01 (by omega)) dX4_part_87 hSH627 (by decide) (by decide) (⟨x628, x629, x610, rfl, by omega, ex629, m633, by omega, m630, m631, hTH627⟩)
      · have k615 := i_eq c614
        refine lv_iconst (v := 0) hx hb dX4_part_52 (by decide) ?_
        exact x_zret C hQ (Or.inl rfl) dX4_part_53 hSH607 (by decide) (by decide) (⟨0, x609, x610, rfl, by decide, ex609, ex610, by omega, m611, m612, hTH607⟩)
    · have k606 := i_eq c605
      exact J22 ls601 s.heap [] (x600) (tat) (li) (lv_sub hl602 [1, 2, 0] rfl) hT hS (by have := i_rng x600; omega) (by have := i_rng tat; omega) (by have := i_rng li; omega) etat eli emq ekq hel0 (by omega)

set_option maxHeartbeats 4000000 in
set_option maxRecDepth 100000 in
theorem a_X4_both_3 (l : Launch) (K : KE) (G : Nat → Option Nat) (H : Heap) {a0 : Nat} (x1 : Int32) {mq : Nat} {kq : Nat} (F : Int32) (tat : Int32) (li : Int32) (hT : TY K G H) (ga0 : G a0 = some 78) (hx1 : 3 ≤ x1.toInt ∧ x1.toInt ≤ 8) (gmq : G mq = some 69) (emq : mq = fR H a0 (K.1.2 4 0)) (gkq : G kq = some 79) (ekq : kq = fR H a0 (K.1.2 4 3)) (etat : tat = fI H a0 (K.1.2 4 7)) (eli : li = fI H mq (K.1.2 7 0)) (hel0 : fI H kq (F : Int32).toNatClampNeg = 26) (hp0 : tat.toInt ≤ F.toInt) (hp1 : F.toInt ≤ 500) : MX l K yX4_both cX4_both 3 (some .boolean) 24 536 0 0 [.ref a0, .int x1] H (AE G [78, 69, 77] H.size) (fun v H1 => ∃ (r : Int32) (t0 : Int32) (t1 : Int32), v = some (.int r) ∧ (0 ≤ r.toInt ∧ r.toInt ≤ 1) ∧ t0 = fI H1 a0 (K.1.2 4 7) ∧ t1 = fI H1 mq (K.1.2 7 0) ∧ (t0.toInt ≤ F.toInt ∧ t1.toInt = li.toInt) ∧ mq = fR H1 a0 (K.1.2 4 0) ∧ kq = fR H1 a0 (K.1.2 4 3) ∧ TY K G H1) := by
  refine MX.of (by decide +kernel) (Nat.le_of_ble_eq_true rfl) ?_
  intro p e s m below meth c ls Q C hH hl hQ
  subst hH
  have C : CX p K s m _ meth c RX4 cX4_both 3 (some .boolean) "both" := C
  obtain ⟨hx, hb, hml, hown, hts, hKT, hr, hlocks, hnm⟩ := id C
  have hl : lv_has ls 3 [(0, .ref a0), (1, .int x1)] := hl
  have hS : va_S (AE G [78, 69, 77] s.heap.size) s.heap s.heap [] := va_S.rf
  have n_0 : (0 : Int32).toInt = 0 := rfl
  have n_1 : (1 : Int32).toInt = 1 := rfl
  have n_9 : (9 : Int32).toInt = 9 := rfl
  have n_26 : (26 : Int32).toInt = 26 := rfl
  have n_500 : (500 : Int32).toInt = 500 := rfl
  have btat := ty_fi (x := tat) (k := 7) etat hT ga0 rg_78 rfl
  have bli := ty_fi (x := li) (k := 0) eli hT gmq rg_69 rfl
  have J12 : ∀ (nf : Nat) (ls1090 : Array Slot) (H1089 : Heap) (locsH1089 : List Loc) (x1092 : Int32) (x1093 : Int32) (x1094 : Int32), lv_has ls1090 3 [(0, .ref a0), (1, .int x1), (2, .int x1092)] → TY K G H1089 → va_S (AE G [78, 69, 77] s.heap.size) s.heap H1089 locsH1089 → (0 ≤ x1092.toInt ∧ x1092.toInt ≤ 500) → (0 ≤ x1093.toInt ∧ x1093.toInt ≤ 500) → (0 ≤ x1094.toInt ∧ x1094.toInt ≤ 16) → (x1093 = fI H1089 a0 (K.1.2 4 7)) → (x1094 = fI H1089 mq (K.1.2 7 0)) → (mq = fR H1089 a0 (K.1.2 4 0)) → (kq = fR H1089 a0 (K.1.2 4 3)) → (fI H1089 kq (F : Int32).toNatClampNeg = 26) → (500 - x1092.toInt < (nf : Int)) → (x1093.toInt ≤ F.toInt ∧ x1094.toInt = li.toInt) → W p l e ({ frames := 24, cells := 0, slots := 0, locals := 536 } : Room) s m (([.ref a0, .int x1] : List Value).toArray) below meth c H1089 locsH1089 0 0 Q (F0 m 12 ls1090 []) := by
    intro nf
    induction nf with
    | zero =>
      intro ls1090 H1089 locsH1089 x1092 x1093 x1094 hl1091 hTH1089 hSH1089 bx1092 bx1093 bx1094 ex1093 ex1094 cy1095_0 cy1095_1 cy1095_2 hm12 iv12
      exfalso
      omega
    | succ nf ih12 =>
      intro ls1090 H1089 locsH1089 x1092 x1093 x1094 hl1091 hTH1089 hSH1089 bx1092 bx1093 bx1094 ex1093 ex1094 cy1095_0 cy1095_1 cy1095_2 hm12 iv12
      have J69 : ∀ (ls1097 : Array Slot) (H1096 : Heap) (locsH1096 : List Loc) (x1099 : Int32) (x1100 : Int32), lv_has ls1097 3 [] → TY K G H1096 → va_S (AE G [78, 69, 77] s.heap.size) s.heap H1096 locsH1096 → (0 ≤ x1099.toInt ∧ x1099.toInt ≤ 500) → (0 ≤ x1100.toInt ∧ x1100.toInt ≤ 16) → (x1099 = fI H1096 a0 (K.1.2 4 7)) → (x1100 = fI H1096 mq (K.1.2 7 0)) → (mq = fR H1096 a0 (K.1.2 4 0)) → (kq = fR H1096 a0 (K.1.2 4 3)) → (fI H1096 kq (F : Int32).toNatClampNeg = 26) → (x1099.toInt ≤ F.toInt ∧ x1100.toInt = li.toInt) → W p l e ({ frames := 24, cells := 0, slots := 0, locals := 536 } : Room) s m (([.ref a0, .int x1] : List Value).toArray) below meth c H1096 locsH1096 0 0 Q (F0 m 69 ls1097 []) := by
        intro ls1097 H1096 locsH1096 x1099 x1100 hl1098 hTH1096 hSH1096 bx1099 bx1100 ex1099 ex1100 cy1101_0 cy1101_1 cy1101_2 iv69
        refine lv_iconst (v := 1) hx hb dX4_both_69 (by decide) ?_
        exact x_zret C hQ (Or.inr rfl) dX4_both_70 hSH1096 (by decide) (by decide) (⟨1, x1099, x1100, rfl, by decide, ex1099, ex1100, by omega, cy1101_0, cy1101_1, hTH1096⟩)
      refine lv_iload_n hx hb dX4_both_12 rfl (lv_at hl1091 2 rfl) ?_
      refine lv_sipush (v := 500) hx hb dX4_both_13 (by decide) ?_
      refine lv_icmp_ge (tgt := 69) hx hb dX4_both_16 (by decide) (fun c1102 => ?_) (fun c1102 => ?_)
      · have k1103 := i_le c1102
        exact J69 ls1090 H1089 locsH1089 (x1093) (x1094) (lv_sub hl1091 [] rfl) hTH1089 hSH1089 (by have := i_rng x1093; omega) (by have := i_rng x1094; omega) ex1093 ex1094 cy1095_0 cy1095_1 cy1095_2 (by omega)
      · have k1103 := i_nle c1102
        refine lv_aload_n hx hb dX4_both_19 rfl (lv_at hl1091 0 rfl) ?_
        refine x_gr C hTH1089 (ci := 4) (k := 3) rfl inX4 (by decide) wF_X4_18 ga0 rg_78 rfl dX4_both_20 (fun q1104 eq1104 gq1104 => ?_)
        have uq1104 : kq = q1104 := (cy1095_1).trans eq1104.symm
        subst uq1104
        refine lv_aload_n hx hb dX4_both_23 rfl (lv_at hl1091 0 rfl) ?_
        refine x_gi C hTH1089 (ci := 4) (k := 7) rfl inX4 (by decide) wF_X4_42 ga0 rg_78 rfl dX4_both_24 (fun x1105 ex1105 bx1105 => ?_)
        have ux1105 : x1093 = x1105 := (ex1093).trans ex1105.symm
        subst ux1105
        refine x_ai C hTH1089 gkq rg_79 ⟨by omega, by show _ < ((501 : Nat) : Int); omega⟩ dX4_both_27 (fun x1106 ex1106 bx1106 => ?_)
        have dx1106 := el_hit ex1106 cy1095_2
        refine lv_bipush (v := 9) hx hb dX4_both_28 (by decide) ?_
        refine lv_icmp_ne (tgt := 69) hx hb dX4_both_30 (by decide) (fun c1107 => ?_) (fun c1107 => ?_)
        · have k1108 := i_ne c1107
          exact J69 ls1090 H1089 locsH1089 (x1093) (x1094) (lv_sub hl1091 [] rfl) hTH1089 hSH1089 (by have := i_rng x1093; omega) (by have := i_rng x1094; omega) ex1093 ex1094 cy1095_0 cy1095_1 cy1095_2 (by omega)
        · have k1108 := i_eq c1107
          refine lv_aload_n hx hb dX4_both_33 rfl (lv_at hl1091 0 rfl) ?_
          refine lv_dup hx hb dX4_both_34 rfl ?_
          refine x_gi C hTH1089 (ci := 4) (k := 7) rfl inX4 (by decide) wF_X4_42 ga0 rg_78 rfl dX4_both_35 (fun x1109 ex1109 bx1109 => ?_)
          have ux1109 : x1093 = x1109 := (ex1093).trans ex1109.symm
          subst ux1109
          refine lv_iconst (v := 1) hx hb dX4_both_38 (by decide) ?_
          refine lv_iadd hx hb dX4_both_39 ?_
          refine lv_topi (fun x1110 ex1110 => ?_)
          have tx1110 := i_add ex1110 (by omega)
          have fz1112 : 0 ≤ x1110.toInt ∧ x1110.toInt ≤ 500 := by have := i_rng x1110; omega
          refine x_put C hTH1089 hSH1089 (ci := 4) (k := 7) (v := .int x1110) (ty0 := tyX4) rfl inX4 tyX4_ok nmX4 (by decide) rfl wF_X4_42 ga0 rg_78 rfl rfl (okI (by have := i_rng x1110; omega) (by have := i_rng x1110; omega)) rfl rfl (AE_in ga0 (by decide)) dX4_both_40 (fun H1111 locsH1111 hTH1111 hSH1111 wH1111 => ?_)
          have m1114 := ex1094.trans (Wr.neI wH1111 (Or.inl (G_ne gmq ga0 (by decide)))).symm
          have m1115 := cy1095_0.trans (Wr.neR wH1111 (Or.inr (x_apart hKT hts inX4 tyX4 tyX4_ok nmX4 rfl 0 7 (by decide) (by decide) (by decide)))).symm
          have m1116 := cy1095_1.trans (Wr.neR wH1111 (Or.inr (x_apart hKT hts inX4 tyX4 tyX4_ok nmX4 rfl 3 7 (by decide) (by decide) (by decide)))).symm
          have m1117 := (Wr.neI wH1111 (Or.inl (G_ne gkq ga0 (by decide)))).trans cy1095_2
          have m1118 := Wr.I wH1111
          have m1118 := m1118.symm
          refine lv_aload_n hx hb dX4_both_43 rfl (lv_at hl1091 0 rfl) ?_
          refine lv_iload_n hx hb dX4_both_44 rfl (lv_at hl1091 1 rfl) ?_
          refine x_V (As := [.int x1]) (rest := []) C (a_X4_part_3 l K G H1111 (x1) (F) (x1110) (x1094) hTH1111 ga0 (by omega) gmq m1115 gkq m1116 m1118 m1114 m1117 (by omega) (by omega)) yo_X4_part wM_X4_135 ⟨⟨by decide, by decide⟩, by decide, by decide⟩ (x_rv C hTH1111 (ci := 4) rfl ga0 rg_78) rfl hl1091.1 rfl (Nat.le_of_ble_eq_true rfl) dX4_both_45 hSH1111 (AE_sub (fun _ _ => rfl) (by decide) hSH1111.1) (fun vH1119 H1119 locsH1119 pH1119 zH1119 kH1119 hSH1119 => ?_)
          obtain ⟨x1120, x1121, x1122, hvH1119, bx1120, ex1121, ex1122, hrH1119, m1123, m1124, hTH1119⟩ := pH1119
          subst hvH1119
          have m1125 := (fI_kept (x_lt hTH1111 kH1119 gkq (by decide))).trans m1117
          have bx1121 := ty_fi (x := x1121) (k := 7) ex1121 hTH1119 ga0 rg_78 rfl
          have bx1122 := ty_fi (x := x1122) (k := 0) ex1122 hTH1119 gmq rg_69 rfl
          refine W.eq (g2 := F0 m 48 ls1090 [.int x1120]) rfl ?_
          refine lv_if_ne (tgt := 53) hx hb dX4_both_48 (by decide) (fun c1126 => ?_) (fun c1126 => ?_)
          · have k1127 := i_ne c1126
            refine lv_aload_n hx hb dX4_both_53 rfl (lv_at hl1091 0 rfl) ?_
            refine x_gr C hTH1119 (ci := 4) (k := 0) rfl inX4 (by decide) wF_X4_12 ga0 rg_78 rfl dX4_both_54 (fun q1128 eq1128 gq1128 => ?_)
            have uq1128 : mq = q1128 := (m1123).trans eq1128.symm
            subst uq1128
            refine lv_bipush (v := 9) hx hb dX4_both_57 (by decide) ?_
            refine lv_iconst (v := 0) hx hb dX4_both_59 (by decide) ?_
            refine x_V (As := [.int 9, .int 0]) (rest := []) C (a_X7_addStep l K G H1119 (9) (0) (x1122) hTH1119 gmq ex1122) yo_X7_addStep wM_X4_131 ⟨⟨by decide, by decide⟩, by decide, by decide⟩ (x_rv C hTH1119 (ci := 7) rfl gmq rg_69) rfl hl1091.1 rfl (Nat.le_of_ble_eq_true rfl) dX4_both_60 hSH1119 (AE_sub (fun _ _ => rfl) (by decide) hSH1119.1) (fun vH1129 H1129 locsH1129 pH1129 zH1129 kH1129 hSH1129 => ?_)
            obtain ⟨x1130, hvH1129, ex1130, hrH1129, hTH1129⟩ := pH1129
            subst hvH1129
            have m1131 := (fI_kept (x_lt hTH1119 kH1129 gkq (by decide))).trans m1125
            have m1132 := (m1123).trans (fR_kept (x_lt hTH1119 kH1129 ga0 (by decide))).symm
            have m1133 := (m1124).trans (fR_kept (x_lt hTH1119 kH1129 ga0 (by decide))).symm
            have m1134 := (ex1121).trans (fI_kept (x_lt hTH1119 kH1129 ga0 (by decide))).symm
            have bx1130 := ty_fi (x := x1130) (k := 0) ex1130 hTH1129 gmq rg_69 rfl
            refine W.eq (g2 := F0 m 63 ls1090 []) rfl ?_
            obtain ⟨x1135, ex1135⟩ : ∃ y : Int32, y = x1092 + 1 := ⟨_, rfl⟩
            have tx1135 := i_add ex1135 (by omega)
            refine lv_iinc (v := x1135) (lv' := [(2, .int x1135), (0, .ref a0), (1, .int x1)]) hx hb dX4_both_63 hl1091 (k := 2) rfl (by rw [ex1135]; rfl) (by decide) rfl (fun ls1136 hl1137 => ?_)
            refine lv_goto (tgt := 12) hx hb dX4_both_66 (by decide) ?_
            exact ih12 ls1136 H1129 locsH1129 (x1135) (x1121) (x1130) (lv_sub hl1137 [1, 2, 0] rfl) hTH1129 hSH1129 (by have := i_rng x1135; omega) (by have := i_rng x1121; omega) (by have := i_rng x1130; omega) m1134 ex1130 m1132 m1133 m1131 (by omega) (by omega)
          · have k1127 := i_eq c1126
            refine lv_iconst (v := 0) hx hb dX4_both_51 (by decide) ?_
            exact x_zret C hQ (Or.inl rfl) dX4_both_52 hSH1119 (by decide) (by decide) (⟨0, x1121, x1122, rfl, by decide, ex1121, ex1122, by omega, m1123, m1124, hTH1119⟩)
  refine lv_aload_n hx hb dX4_both_0 rfl (lv_at hl 0 rfl) ?_
  refine lv_iload_n hx hb dX4_both_1 rfl (lv_at hl 1 rfl) ?_
  refine x_V (As := [.int x1]) (rest := []) C (a_X4_part_3 l K G s.heap (x1) (F) (tat) (li) hT ga0 (by omega) gmq emq gkq ekq etat eli hel0 (by omega) (by omega)) yo_X4_part wM_X4_135 ⟨⟨by decide, by decide⟩, by decide, by decide⟩ (x_rv C hT (ci := 4) rfl ga0 rg_78) rfl hl.1 rfl (Nat.le_of_ble_eq_true rfl) dX4_both_2 hS (AE_sub (fun _ _ => rfl) (by decide) hS.1) (fun vH1138 H1138 locsH1138 pH1138 zH1138 kH1138 hSH1138 => ?_)
  obtain ⟨x1139, x1140, x1141, hvH1138, bx1139, ex1140, ex1141, hrH1138, m1142, m1143, hTH1138⟩ := pH1138
  subst hvH1138
  have m1144 := (fI_kept (x_lt hT kH1138 gkq (by decide))).trans hel0
  have bx1140 := ty_fi (x := x1140) (k := 7) ex1140 hTH1138 ga0 rg_78 rfl
  have bx1141 := ty_fi (x := x1141) (k := 0) ex1141 hTH1138 gmq rg_69 rfl
  refine W.eq (g2 := F0 m 5 ls [.int x1139]) rfl ?_
  refine lv_if_ne (tgt := 10) hx hb dX4_both_5 (by decide) (fun c1145 => ?_) (fun c1145 => ?_)
  · have k1146 := i_ne c1145
    refine lv_iconst (v := 0) hx hb dX4_both_10 (by decide) ?_
    refine lv_istore_n (lv' := [(2, .int 0), (0, .ref a0), (1, .int x1)]) hx hb dX4_both_11 rfl hl (by decide) rfl (fun ls1147 hl1148 => ?_)
    exact J12 ((500 - (0 : Int32).toInt).toNat + 1) ls1147 H1138 locsH1138 (0) (x1140) (x1141) (lv_sub hl1148 [1, 2, 0] rfl) hTH1138 hSH1138 (by decide) (by have := i_rng x1140; omega) (by have := i_rng x1141; omega) ex1140 ex1141 m1142 m1143 m1144 (by omega) (by omega)
  · have k1146 := i_eq c1145
    refine lv_iconst (v := 0) hx hb dX4_both_8 (by decide) ?_
    exact x_zret C hQ (Or.inl rfl) dX4_both_9 hSH1138 (by decide) (by decide) (⟨0, x1140, x1141, rfl, by decide, ex1140, ex1141, by omega, m1142, m1143, hTH1138⟩)

set_option maxHeartbeats 4000000 in
set_option maxRecDepth 100000 in
theorem a_X4_either_3 (l : Launch) (K : KE) (G : Nat → Option Nat) (H : Heap) {a0 : Nat} (x1 : Int32) {mq : Nat} {kq : Nat} (F : Int32) (tat : Int32) (li : Int32) (hT : TY K G H) (ga0 : G a0 = some 78) (hx1 : 3 ≤ x1.toInt ∧ x1.toInt ≤ 8) (gmq : G mq = some 69) (emq : mq = fR H a0 (K.1.2 4 0)) (gkq : G kq = some 79) (ekq : kq = fR H a0 (K.1.2 4 3)) (etat : tat = fI H a0 (K.1.2 4 7)) (eli : li = fI H mq (K.1.2 7 0)) (hel0 : fI H kq (F : Int32).toNatClampNeg = 26) (hp0 : tat.toInt ≤ F.toInt) (hp1 : F.toInt ≤ 500) : MX l K yX4_either cX4_either 3 (some .boolean) 25 558 0 0 [.ref a0, .int x1] H (AE G [78, 69, 77] H.size) (fun v H1 => ∃ (r : Int32) (t0 : Int32) (t1 : Int32), v = some (.int r) ∧ (0 ≤ r.toInt ∧ r.toInt ≤ 1) ∧ t0 = fI H1 a0 (K.1.2 4 7) ∧ t1 = fI H1 mq (K.1.2 7 0) ∧ (t0.toInt ≤ F.toInt ∧ t1.toInt = li.toInt) ∧ mq = fR H1 a0 (K.1.2 4 0) ∧ kq = fR H1 a0 (K.1.2 4 3) ∧ TY K G H1) := by
  refine MX.of (by decide +kernel) (Nat.le_of_ble_eq_true rfl) ?_
  intro p e s m below meth c ls Q C hH hl hQ
  subst hH
  have C : CX p K s m _ meth c RX4 cX4_either 3 (some .boolean) "either" := C
  obtain ⟨hx, hb, hml, hown, hts, hKT, hr, hlocks, hnm⟩ := id C
  have hl : lv_has ls 3 [(0, .ref a0), (1, .int x1)] := hl
  have hS : va_S (AE G [78, 69, 77] s.heap.size) s.heap s.heap [] := va_S.rf
  have n_0 : (0 : Int32).toInt = 0 := rfl
  have n_1 : (1 : Int32).toInt = 1 := rfl
  have n_8 : (8 : Int32).toInt = 8 := rfl
  have n_26 : (26 : Int32).toInt = 26 := rfl
  have n_500 : (500 : Int32).toInt = 500 := rfl
  have btat := ty_fi (x := tat) (k := 7) etat hT ga0 rg_78 rfl
  have bli := ty_fi (x := li) (k := 0) eli hT gmq rg_69 rfl
  have J12 : ∀ (nf : Nat) (ls1090 : Array Slot) (H1089 : Heap) (locsH1089 : List Loc) (x1092 : Int32) (x1093 : Int32) (x1094 : Int32), lv_has ls1090 3 [(0, .ref a0), (1, .int x1), (2, .int x1092)] → TY K G H1089 → va_S (AE G [78, 69, 77] s.heap.size) s.heap H1089 locsH1089 → (0 ≤ x1092.toInt ∧ x1092.toInt ≤ 500) → (0 ≤ x1093.toInt ∧ x1093.toInt ≤ 500) → (0 ≤ x1094.toInt ∧ x1094.toInt ≤ 16) → (x1093 = fI H1089 a0 (K.1.2 4 7)) → (x1094 = fI H1089 mq (K.1.2 7 0)) → (mq = fR H1089 a0 (K.1.2 4 0)) → (kq = fR H1089 a0 (K.1.2 4 3)) → (fI H1089 kq (F : Int32).toNatClampNeg = 26) → (500 - x1092.toInt < (nf : Int)) → (x1093.toInt ≤ F.toInt ∧ x1094.toInt = li.toInt) → W p l e ({ frames := 25, cells := 0, slots := 0, locals := 558 } : Room) s m (([.ref a0, .int x1] : List Value).toArray) below meth c H1089 locsH1089 0 0 Q (F0 m 12 ls1090 []) := by
    intro nf
    induction nf with
    | zero =>
      intro ls1090 H1089 locsH1089 x1092 x1093 x1094 hl1091 hTH1089 hSH1089 bx1092 bx1093 bx1094 ex1093 ex1094 cy1095_0 cy1095_1 cy1095_2 hm12 iv12
      exfalso
      omega
    | succ nf ih12 =>
      intro ls1090 H1089 locsH1089 x1092 x1093 x1094 hl1091 hTH1089 hSH1089 bx1092 bx1093 bx1094 ex1093 ex1094 cy1095_0 cy1095_1 cy1095_2 hm12 iv12
      have J69 : ∀ (ls1097 : Array Slot) (H1096 : Heap) (locsH1096 : List Loc) (x1099 : Int32) (x1100 : Int32), lv_has ls1097 3 [] → TY K G H1096 → va_S (AE G [78, 69, 77] s.heap.size) s.heap H1096 locsH1096 → (0 ≤ x1099.toInt ∧ x1099.toInt ≤ 500) → (0 ≤ x1100.toInt ∧ x1100.toInt ≤ 16) → (x1099 = fI H1096 a0 (K.1.2 4 7)) → (x1100 = fI H1096 mq (K.1.2 7 0)) → (mq = fR H1096 a0 (K.1.2 4 0)) → (kq = fR H1096 a0 (K.1.2 4 3)) → (fI H1096 kq (F : Int32).toNatClampNeg = 26) → (x1099.toInt ≤ F.toInt ∧ x1100.toInt = li.toInt) → W p l e ({ frames := 25, cells := 0, slots := 0, locals := 558 } : Room) s m (([.ref a0, .int x1] : List Value).toArray) below meth c H1096 locsH1096 0 0 Q (F0 m 69 ls1097 []) := by
        intro ls1097 H1096 locsH1096 x1099 x1100 hl1098 hTH1096 hSH1096 bx1099 bx1100 ex1099 ex1100 cy1101_0 cy1101_1 cy1101_2 iv69
        refine lv_iconst (v := 1) hx hb dX4_either_69 (by decide) ?_
        exact x_zret C hQ (Or.inr rfl) dX4_either_70 hSH1096 (by decide) (by decide) (⟨1, x1099, x1100, rfl, by decide, ex1099, ex1100, by omega, cy1101_0, cy1101_1, hTH1096⟩)
      refine lv_iload_n hx hb dX4_either_12 rfl (lv_at hl1091 2 rfl) ?_
      refine lv_sipush (v := 500) hx hb dX4_either_13 (by decide) ?_
      refine lv_icmp_ge (tgt := 69) hx hb dX4_either_16 (by decide) (fun c1102 => ?_) (fun c1102 => ?_)
      · have k1103 := i_le c1102
        exact J69 ls1090 H1089 locsH1089 (x1093) (x1094) (lv_sub hl1091 [] rfl) hTH1089 hSH1089 (by have := i_rng x1093; omega) (by have := i_rng x1094; omega) ex1093 ex1094 cy1095_0 cy1095_1 cy1095_2 (by omega)
      · have k1103 := i_nle c1102
        refine lv_aload_n hx hb dX4_either_19 rfl (lv_at hl1091 0 rfl) ?_
        refine x_gr C hTH1089 (ci := 4) (k := 3) rfl inX4 (by decide) wF_X4_18 ga0 rg_78 rfl dX4_either_20 (fun q1104 eq1104 gq1104 => ?_)
        have uq1104 : kq = q1104 := (cy1095_1).trans eq1104.symm
        subst uq1104
        refine lv_aload_n hx hb dX4_either_23 rfl (lv_at hl1091 0 rfl) ?_
        refine x_gi C hTH1089 (ci := 4) (k := 7) rfl inX4 (by decide) wF_X4_42 ga0 rg_78 rfl dX4_either_24 (fun x1105 ex1105 bx1105 => ?_)
        have ux1105 : x1093 = x1105 := (ex1093).trans ex1105.symm
        subst ux1105
        refine x_ai C hTH1089 gkq rg_79 ⟨by omega, by show _ < ((501 : Nat) : Int); omega⟩ dX4_either_27 (fun x1106 ex1106 bx1106 => ?_)
        have dx1106 := el_hit ex1106 cy1095_2
        refine lv_bipush (v := 8) hx hb dX4_either_28 (by decide) ?_
        refine lv_icmp_ne (tgt := 69) hx hb dX4_either_30 (by decide) (fun c1107 => ?_) (fun c1107 => ?_)
        · have k1108 := i_ne c1107
          exact J69 ls1090 H1089 locsH1089 (x1093) (x1094) (lv_sub hl1091 [] rfl) hTH1089 hSH1089 (by have := i_rng x1093; omega) (by have := i_rng x1094; omega) ex1093 ex1094 cy1095_0 cy1095_1 cy1095_2 (by omega)
        · have k1108 := i_eq c1107
          refine lv_aload_n hx hb dX4_either_33 rfl (lv_at hl1091 0 rfl) ?_
          refine lv_dup hx hb dX4_either_34 rfl ?_
          refine x_gi C hTH1089 (ci := 4) (k := 7) rfl inX4 (by decide) wF_X4_42 ga0 rg_78 rfl dX4_either_35 (fun x1109 ex1109 bx1109 => ?_)
          have ux1109 : x1093 = x1109 := (ex1093).trans ex1109.symm
          subst ux1109
          refine lv_iconst (v := 1) hx hb dX4_either_38 (by decide) ?_
          refine lv_iadd hx hb dX4_either_39 ?_
          refine lv_topi (fun x1110 ex1110 => ?_)
          have tx1110 := i_add ex1110 (by omega)
          have fz1112 : 0 ≤ x1110.toInt ∧ x1110.toInt ≤ 500 := by have := i_rng x1110; omega
          refine x_put C hTH1089 hSH1089 (ci := 4) (k := 7) (v := .int x1110) (ty0 := tyX4) rfl inX4 tyX4_ok nmX4 (by decide) rfl wF_X4_42 ga0 rg_78 rfl rfl (okI (by have := i_rng x1110; omega) (by have := i_rng x1110; omega)) rfl rfl (AE_in ga0 (by decide)) dX4_either_40 (fun H1111 locsH1111 hTH1111 hSH1111 wH1111 => ?_)
          have m1114 := ex1094.trans (Wr.neI wH1111 (Or.inl (G_ne gmq ga0 (by decide)))).symm
          have m1115 := cy1095_0.trans (Wr.neR wH1111 (Or.inr (x_apart hKT hts inX4 tyX4 tyX4_ok nmX4 rfl 0 7 (by decide) (by decide) (by decide)))).symm
          have m1116 := cy1095_1.trans (Wr.neR wH1111 (Or.inr (x_apart hKT hts inX4 tyX4 tyX4_ok nmX4 rfl 3 7 (by decide) (by decide) (by decide)))).symm
          have m1117 := (Wr.neI wH1111 (Or.inl (G_ne gkq ga0 (by decide)))).trans cy1095_2
          have m1118 := Wr.I wH1111
          have m1118 := m1118.symm
          refine lv_aload_n hx hb dX4_either_43 rfl (lv_at hl1091 0 rfl) ?_
          refine lv_iload_n hx hb dX4_either_44 rfl (lv_at hl1091 1 rfl) ?_
          refine x_V (As := [.int x1]) (rest := []) C (a_X4_both_3 l K G H1111 (x1) (F) (x1110) (x1094) hTH1111 ga0 (by omega) gmq m1115 gkq m1116 m1118 m1114 m1117 (by omega) (by omega)) yo_X4_both wM_X4_128 ⟨⟨by decide, by decide⟩, by decide, by decide⟩ (x_rv C hTH1111 (ci := 4) rfl ga0 rg_78) rfl hl1091.1 rfl (Nat.le_of_ble_eq_true rfl) dX4_either_45 hSH1111 (AE_sub (fun _ _ => rfl) (by decide) hSH1111.1) (fun vH1119 H1119 locsH1119 pH1119 zH1119 kH1119 hSH1119 => ?_)
          obtain ⟨x1120, x1121, x1122, hvH1119, bx1120, ex1121, ex1122, hrH1119, m1123, m1124, hTH1119⟩ := pH1119
          subst hvH1119
          have m1125 := (fI_kept (x_lt hTH1111 kH1119 gkq (by decide))).trans m1117
          have bx1121 := ty_fi (x := x1121) (k := 7) ex1121 hTH1119 ga0 rg_78 rfl
          have bx1122 := ty_fi (x := x1122) (k := 0) ex1122 hTH1119 gmq rg_69 rfl
          refine W.eq (g2 := F0 m 48 ls1090 [.int x1120]) rfl ?_
          refine lv_if_ne (tgt := 53) hx hb dX4_either_48 (by decide) (fun c1126 => ?_) (fun c1126 => ?_)
          · have k1127 := i_ne c1126
            refine lv_aload_n hx hb dX4_either_53 rfl (lv_at hl1091 0 rfl) ?_
            refine x_gr C hTH1119 (ci := 4) (k := 0) rfl inX4 (by decide) wF_X4_12 ga0 rg_78 rfl dX4_either_54 (fun q1128 eq1128 gq1128 => ?_)
            have uq1128 : mq = q1128 := (m1123).trans eq1128.symm
            subst uq1128
            refine lv_bipush (v := 8) hx hb dX4_either_57 (by decide) ?_
            refine lv_iconst (v := 0) hx hb dX4_either_59 (by decide) ?_
            refine x_V (As := [.int 8, .int 0]) (rest := []) C (a_X7_addStep l K G H1119 (8) (0) (x1122) hTH1119 gmq ex1122) yo_X7_addStep wM_X4_131 ⟨⟨by decide, by decide⟩, by decide, by decide⟩ (x_rv C hTH1119 (ci := 7) rfl gmq rg_69) rfl hl1091.1 rfl (Nat.le_of_ble_eq_true rfl) dX4_either_60 hSH1119 (AE_sub (fun _ _ => rfl) (by decide) hSH1119.1) (fun vH1129 H1129 locsH1129 pH1129 zH1129 kH1129 hSH1129 => ?_)
            obtain ⟨x1130, hvH1129, ex1130, hrH1129, hTH1129⟩ := pH1129
            subst hvH1129
            have m1131 := (fI_kept (x_lt hTH1119 kH1129 gkq (by decide))).trans m1125
            have m1132 := (m1123).trans (fR_kept (x_lt hTH1119 kH1129 ga0 (by decide))).symm
            have m1133 := (m1124).trans (fR_kept (x_lt hTH1119 kH1129 ga0 (by decide))).symm
            have m1134 := (ex1121).trans (fI_kept (x_lt hTH1119 kH1129 ga0 (by decide))).symm
            have bx1130 := ty_fi (x := x1130) (k := 0) ex1130 hTH1129 gmq rg_69 rfl
            refine W.eq (g2 := F0 m 63 ls1090 []) rfl ?_
            obtain ⟨x1135, ex1135⟩ : ∃ y : Int32, y = x1092 + 1 := ⟨_, rfl⟩
            have tx1135 := i_add ex1135 (by omega)
            refine lv_iinc (v := x1135) (lv' := [(2, .int x1135), (0, .ref a0), (1, .int x1)]) hx hb dX4_either_63 hl1091 (k := 2) rfl (by rw [ex1135]; rfl) (by decide) rfl (fun ls1136 hl1137 => ?_)
            refine lv_goto (tgt := 12) hx hb dX4_either_66 (by decide) ?_
            exact ih12 ls1136 H1129 locsH1129 (x1135) (x1121) (x1130) (lv_sub hl1137 [1, 2, 0] rfl) hTH1129 hSH1129 (by have := i_rng x1135; omega) (by have := i_rng x1121; omega) (by have := i_rng x1130; omega) m1134 ex1130 m1132 m1133 m1131 (by omega) (by omega)
          · have k1127 := i_eq c1126
            refine lv_iconst (v := 0) hx hb dX4_either_51 (by decide) ?_
            exact x_zret C hQ (Or.inl rfl) dX4_either_52 hSH1119 (by decide) (by decide) (⟨0, x1121, x1122, rfl, by decide, ex1121, ex1122, by omega, m1123, m1124, hTH1119⟩)
  refine lv_aload_n hx hb dX4_either_0 rfl (lv_at hl 0 rfl) ?_
  refine lv_iload_n hx hb dX4_either_1 rfl (lv_at hl 1 rfl) ?_
  refine x_V (As := [.int x1]) (rest := []) C (a_X4_both_3 l K G s.heap (x1) (F) (tat) (li) hT ga0 (by omega) gmq emq gkq ekq etat eli hel0 (by omega) (by omega)) yo_X4_both wM_X4_128 ⟨⟨by decide, by decide⟩, by decide, by decide⟩ (x_rv C hT (ci := 4) rfl ga0 rg_78) rfl hl.1 rfl (Nat.le_of_ble_eq_true rfl) dX4_either_2 hS (AE_sub (fun _ _ => rfl) (by decide) hS.1) (fun vH1138 H1138 locsH1138 pH1138 zH1138 kH1138 hSH1138 => ?_)
  obtain ⟨x1139, x1140, x1141, hvH1138, bx1139, ex1140, ex1141, hrH1138, m1142, m1143, hTH1138⟩ := pH1138
  subst hvH1138
  have m1144 := (fI_kept (x_lt hT kH1138 gkq (by decide))).trans hel0
  have bx1140 := ty_fi (x := x1140) (k := 7) ex1140 hTH1138 ga0 rg_78 rfl
  have bx1141 := ty_fi (x := x1141) (k := 0) ex1141 hTH1138 gmq rg_69 rfl
  refine W.eq (g2 := F0 m 5 ls [.int x1139]) rfl ?_
  refine lv_if_ne (tgt := 10) hx hb dX4_either_5 (by decide) (fun c1145 => ?_) (fun c1145 => ?_)
  · have k1146 := i_ne c1145
    refine lv_iconst (v := 0) hx hb dX4_either_10 (by decide) ?_
    refine lv_istore_n (lv' := [(2, .int 0), (0, .ref a0), (1, .int x1)]) hx hb dX4_either_11 rfl hl (by decide) rfl (fun ls1147 hl1148 => ?_)
    exact J12 ((500 - (0 : Int32).toInt).toNat + 1) ls1147 H1138 locsH1138 (0) (x1140) (x1141) (lv_sub hl1148 [1, 2, 0] rfl) hTH1138 hSH1138 (by decide) (by have := i_rng x1140; omega) (by have := i_rng x1141; omega) ex1140 ex1141 m1142 m1143 m1144 (by omega) (by omega)
  · have k1146 := i_eq c1145
    refine lv_iconst (v := 0) hx hb dX4_either_8 (by decide) ?_
    exact x_zret C hQ (Or.inl rfl) dX4_either_9 hSH1138 (by decide) (by decide) (⟨0, x1140, x1141, rfl, by decide, ex1140, ex1141, by omega, m1142, m1143, hTH1138⟩)

set_option maxHeartbeats 4000000 in
set_option maxRecDepth 100000 in
theorem a_X4_opened_3 (l : Launch) (K : KE) (G : Nat → Option Nat) (H : Heap) {a0 : Nat} (x1 : Int32) (x2 : Int32) {mq : Nat} {kq : Nat} (F : Int32) (tat : Int32) (li : Int32) (hT : TY K G H) (ga0 : G a0 = some 78) (hx2 : 3 ≤ x2.toInt ∧ x2.toInt ≤ 8) (gmq : G mq = some 69) (emq : mq = fR H a0 (K.1.2 4 0)) (gkq : G kq = some 79) (ekq : kq = fR H a0 (K.1.2 4 3)) (etat : tat = fI H a0 (K.1.2 4 7)) (eli : li = fI H mq (K.1.2 7 0)) (hel0 : fI H kq (F : Int32).toNatClampNeg = 26) (hp0 : tat.toInt < F.toInt) (hp1 : F.toInt ≤ 500) : MX l K yX4_opened cX4_opened 3 (some .boolean) 26 580 0 0 [.ref a0, .int x1, .int x2] H (AE G [78, 69, 77] H.size) (fun v H1 => ∃ (r : Int32) (t0 : Int32) (t1 : Int32), v = some (.int r) ∧ (0 ≤ r.toInt ∧ r.toInt ≤ 1) ∧ t0 = fI H1 a0 (K.1.2 4 7) ∧ t1 = fI H1 mq (K.1.2 7 0) ∧ (t0.toInt ≤ F.toInt ∧ t1.toInt = li.toInt) ∧ mq = fR H1 a0 (K.1.2 4 0) ∧ kq = fR H1 a0 (K.1.2 4 3) ∧ TY K G H1) := by
  refine MX.of (by decide +kernel) (Nat.le_of_ble_eq_true rfl) ?_
  intro p e s m below meth c ls Q C hH hl hQ
  subst hH
  have C : CX p K s m _ meth c RX4 cX4_opened 3 (some .boolean) "opened" := C
  obtain ⟨hx, hb, hml, hown, hts, hKT, hr, hlocks, hnm⟩ := id C
  have hl : lv_has ls 3 [(0, .ref a0), (1, .int x1), (2, .int x2)] := hl
  have hS : va_S (AE G [78, 69, 77] s.heap.size) s.heap s.heap [] := va_S.rf
  have n_0 : (0 : Int32).toInt = 0 := rfl
  have n_1 : (1 : Int32).toInt = 1 := rfl
  have n_10 : (10 : Int32).toInt = 10 := rfl
  have n_26 : (26 : Int32).toInt = 26 := rfl
  have n_41 : (41 : Int32).toInt = 41 := rfl
  have btat := ty_fi (x := tat) (k := 7) etat hT ga0 rg_78 rfl
  have bli := ty_fi (x := li) (k := 0) eli hT gmq rg_69 rfl
  refine lv_aload_n hx hb dX4_opened_0 rfl (lv_at hl 0 rfl) ?_
  refine lv_dup hx hb dX4_opened_1 rfl ?_
  refine x_gi C hT (ci := 4) (k := 7) rfl inX4 (by decide) wF_X4_42 ga0 rg_78 rfl dX4_opened_2 (fun x337 ex337 bx337 => ?_)
  have ux337 : tat = x337 := (etat).trans ex337.symm
  subst ux337
  refine lv_iconst (v := 1) hx hb dX4_opened_5 (by decide) ?_
  refine lv_iadd hx hb dX4_opened_6 ?_
  refine lv_topi (fun x338 ex338 => ?_)
  have tx338 := i_add ex338 (by omega)
  have fz340 : 0 ≤ x338.toInt ∧ x338.toInt ≤ 500 := by have := i_rng x338; omega
  refine x_put C hT hS (ci := 4) (k := 7) (v := .int x338) (ty0 := tyX4) rfl inX4 tyX4_ok nmX4 (by decide) rfl wF_X4_42 ga0 rg_78 rfl rfl (okI (by have := i_rng x338; omega) (by have := i_rng x338; omega)) rfl rfl (AE_in ga0 (by decide)) dX4_opened_7 (fun H339 locsH339 hTH339 hSH339 wH339 => ?_)
  have m341 := emq.trans (Wr.neR wH339 (Or.inr (x_apart hKT hts inX4 tyX4 tyX4_ok nmX4 rfl 0 7 (by decide) (by decide) (by decide)))).symm
  have m342 := ekq.trans (Wr.neR wH339 (Or.inr (x_apart hKT hts inX4 tyX4 tyX4_ok nmX4 rfl 3 7 (by decide) (by decide) (by decide)))).symm
  have m344 := eli.trans (Wr.neI wH339 (Or.inl (G_ne gmq ga0 (by decide)))).symm
  have m345 := (Wr.neI wH339 (Or.inl (G_ne gkq ga0 (by decide)))).trans hel0
  have m346 := Wr.I wH339
  have m346 := m346.symm
  refine lv_iload_n hx hb dX4_opened_10 rfl (lv_at hl 1 rfl) ?_
  refine lv_bipush (v := 10) hx hb dX4_opened_11 (by decide) ?_
  refine lv_icmp_ne (tgt := 38) hx hb dX4_opened_13 (by decide) (fun c347 => ?_) (fun c347 => ?_)
  · have k348 := i_ne c347
    refine lv_aload_n hx hb dX4_opened_38 rfl (lv_at hl 0 rfl) ?_
    refine lv_iload_n hx hb dX4_opened_39 rfl (lv_at hl 2 rfl) ?_
    refine x_V (As := [.int x2]) (rest := []) C (a_X4_either_3 l K G H339 (x2) (F) (x338) (li) hTH339 ga0 (by omega) gmq m341 gkq m342 m346 m344 m345 (by omega) (by omega)) yo_X4_either wM_X4_113 ⟨⟨by decide, by decide⟩, by decide, by decide⟩ (x_rv C hTH339 (ci := 4) rfl ga0 rg_78) rfl hl.1 rfl (Nat.le_of_ble_eq_true rfl) dX4_opened_40 hSH339 (AE_sub (fun _ _ => rfl) (by decide) hSH339.1) (fun vH349 H349 locsH349 pH349 zH349 kH349 hSH349 => ?_)
    obtain ⟨x350, x351, x352, hvH349, bx350, ex351, ex352, hrH349, m353, m354, hTH349⟩ := pH349
    subst hvH349
    have m355 := (fI_kept (x_lt hTH339 kH349 gkq (by decide))).trans m345
    have bx351 := ty_fi (x := x351) (k := 7) ex351 hTH349 ga0 rg_78 rfl
    have bx352 := ty_fi (x := x352) (k := 0) ex352 hTH349 gmq rg_69 rfl
    refine W.eq (g2 := F0 m 43 ls [.int x350]) rfl ?_
    refine lv_if_ne (tgt := 48) hx hb dX4_opened_43 (by decide) (fun c356 => ?_) (fun c356 => ?_)
    · have k357 := i_ne c356
      refine lv_aload_n hx hb dX4_opened_48 rfl (lv_at hl 0 rfl) ?_
      refine x_gr C hTH349 (ci := 4) (k := 3) rfl inX4 (by decide) wF_X4_18 ga0 rg_78 rfl dX4_opened_49 (fun q358 eq358 gq358 => ?_)
      have uq358 : kq = q358 := (m354).trans eq358.symm
      subst uq358
      refine lv_aload_n hx hb dX4_opened_52 rfl (lv_at hl 0 rfl) ?_
      refine x_gi C hTH349 (ci := 4) (k := 7) rfl inX4 (by decide) wF_X4_42 ga0 rg_78 rfl dX4_opened_53 (fun x359 ex359 bx359 => ?_)
      have ux359 : x351 = x359 := (ex351).trans ex359.symm
      subst ux359
      refine x_ai C hTH349 gkq rg_79 ⟨by omega, by show _ < ((501 : Nat) : Int); omega⟩ dX4_opened_56 (fun x360 ex360 bx360 => ?_)
      have dx360 := el_hit ex360 m355
      refine lv_bipush (v := 41) hx hb dX4_opened_57 (by decide) ?_
      refine lv_icmp_eq (tgt := 68) hx hb dX4_opened_59 (by decide) (fun c361 => ?_) (fun c361 => ?_)
      · have k362 := i_eq c361
        refine lv_aload_n hx hb dX4_opened_68 rfl (lv_at hl 0 rfl) ?_
        refine lv_dup hx hb dX4_opened_69 rfl ?_
        refine x_gi C hTH349 (ci := 4) (k := 7) rfl inX4 (by decide) wF_X4_42 ga0 rg_78 rfl dX4_opened_70 (fun x363 ex363 bx363 => ?_)
        have ux363 : x351 = x363 := (ex351).trans ex363.symm
        subst ux363
        refine lv_iconst (v := 1) hx hb dX4_opened_73 (by decide) ?_
        refine lv_iadd hx hb dX4_opened_74 ?_
        refine lv_topi (fun x364 ex364 => ?_)
        have tx364 := i_add ex364 (by omega)
        have fz366 : 0 ≤ x364.toInt ∧ x364.toInt ≤ 500 := by have := i_rng x364; omega
        refine x_put C hTH349 hSH349 (ci := 4) (k := 7) (v := .int x364) (ty0 := tyX4) rfl inX4 tyX4_ok nmX4 (by decide) rfl wF_X4_42 ga0 rg_78 rfl rfl (okI (by have := i_rng x364; omega) (by have := i_rng x364; omega)) rfl rfl (AE_in ga0 (by decide)) dX4_opened_75 (fun H365 locsH365 hTH365 hSH365 wH365 => ?_)
        have m367 := (Wr.neI wH365 (Or.inl (G_ne gkq ga0 (by decide)))).trans m355
        have m368 := m353.trans (Wr.neR wH365 (Or.inr (x_apart hKT hts inX4 tyX4 tyX4_ok nmX4 rfl 0 7 (by decide) (by decide) (by decide)))).symm
        have m369 := m354.trans (Wr.neR wH365 (Or.inr (x_apart hKT hts inX4 tyX4 tyX4_ok nmX4 rfl 3 7 (by decide) (by decide) (by decide)))).symm
        have m371 := ex352.trans (Wr.neI wH365 (Or.inl (G_ne gmq ga0 (by decide)))).symm
        have m372 := Wr.I wH365
        have m372 := m372.symm
        refine lv_iconst (v := 1) hx hb dX4_opened_78 (by decide) ?_
        exact x_zret C hQ (Or.inr rfl) dX4_opened_79 hSH365 (by decide) (by decide) (⟨1, x364, x352, rfl, by decide, m372, m371, by omega, m368, m369, hTH365⟩)
      · have k362 := i_ne c361
        refine lv_aload_n hx hb dX4_opened_62 rfl (lv_at hl 0 rfl) ?_
        refine lv_iconst (v := 1) hx hb dX4_opened_63 (by decide) ?_
        refine x_V (As := [.int 1]) (rest := []) C (a_X4_refuse l K G H349 (1) (x351) hTH349 ga0 gmq m353 gkq m354 ex351) yo_X4_refuse wM_X4_81 ⟨⟨by decide, by decide⟩, by decide, by decide⟩ (x_rv C hTH349 (ci := 4) rfl ga0 rg_78) rfl hl.1 rfl (Nat.le_of_ble_eq_true rfl) dX4_opened_64 hSH349 (AE_sub (fun _ _ => rfl) (by decide) hSH349.1) (fun vH373 H373 locsH373 pH373 zH373 kH373 hSH373 => ?_)
        obtain ⟨x374, x375, hvH373, bx374, ex375, hrH373, m376, m377, hTH373⟩ := pH373
        subst hvH373
        have m378 := (fI_kept (x_lt hTH349 kH373 gkq (by decide))).trans m355
        have m379 := (ex352).trans (fI_kept (x_lt hTH349 kH373 gmq (by decide))).symm
        have bx375 := ty_fi (x := x375) (k := 7) ex375 hTH373 ga0 rg_78 rfl
        refine W.eq (g2 := F0 m 67 ls [.int x374]) rfl ?_
        exact x_zret C hQ (i_01 (by omega)) dX4_opened_67 hSH373 (by decide) (by decide) (⟨x374, x375, x352, rfl, by omega, ex375, m379, by omega, m376, m377, hTH373⟩)
    · have k357 := i_eq c356
      refine lv_iconst (v := 0) hx hb dX4_opened_46 (by decide) ?_
      exact x_zret C hQ (Or.inl rfl) dX4_opened_47 hSH349 (by decide) (by decide) (⟨0, x351, x352, rfl, by decide, ex351, ex352, by omega, m353, m354, hTH349⟩)
  · have k348 := i_eq c347
    refine lv_aload_n hx hb dX4_opened_16 rfl (lv_at hl 0 rfl) ?_
    refine lv_iload_n hx hb dX4_opened_17 rfl (lv_at hl 2 rfl) ?_
    refine x_V (As := [.int x2]) (rest := []) C (a_X4_part_3 l K G H339 (x2) (F) (x338) (li) hTH339 ga0 (by omega) gmq m341 gkq m342 m346 m344 m345 (by omega) (by omega)) yo_X4_part wM_X4_135 ⟨⟨by decide, by decide⟩, by decide, by decide⟩ (x_rv C hTH339 (ci := 4) rfl ga0 rg_78) rfl hl.1 rfl (Nat.le_of_ble_eq_true rfl) dX4_opened_18 hSH339 (AE_sub (fun _ _ => rfl) (by decide) hSH339.1) (fun vH380 H380 locsH380 pH380 zH380 kH380 hSH380 => ?_)
    obtain ⟨x381, x382, x383, hvH380, bx381, ex382, ex383, hrH380, m384, m385, hTH380⟩ := pH380
    subst hvH380
    have m386 := (fI_kept (x_lt hTH339 kH380 gkq (by decide))).trans m345
    have bx382 := ty_fi (x := x382) (k := 7) ex382 hTH380 ga0 rg_78 rfl
    have bx383 := ty_fi (x := x383) (k := 0) ex383 hTH380 gmq rg_69 rfl
    refine W.eq (g2 := F0 m 21 ls [.int x381]) rfl ?_
    refine lv_if_ne (tgt := 26) hx hb dX4_opened_21 (by decide) (fun c387 => ?_) (fun c387 => ?_)
    · have k388 := i_ne c387
      refine lv_aload_n hx hb dX4_opened_26 rfl (lv_at hl 0 rfl) ?_
      refine x_gr C hTH380 (ci := 4) (k := 0) rfl inX4 (by decide) wF_X4_12 ga0 rg_78 rfl dX4_opened_27 (fun q389 eq389 gq389 => ?_)
      have uq389 : mq = q389 := (m384).trans eq389.symm
      subst uq389
      refine lv_bipush (v := 10) hx hb dX4_opened_30 (by decide) ?_
      refine lv_iconst (v := 0) hx hb dX4_opened_32 (by decide) ?_
      refine x_V (As := [.int 10, .int 0]) (rest := []) C (a_X7_addStep l K G H380 (10) (0) (x383) hTH380 gmq ex383) yo_X7_addStep wM_X4_131 ⟨⟨by decide, by decide⟩, by decide, by decide⟩ (x_rv C hTH380 (ci := 7) rfl gmq rg_69) rfl hl.1 rfl (Nat.le_of_ble_eq_true rfl) dX4_opened_33 hSH380 (AE_sub (fun _ _ => rfl) (by decide) hSH380.1) (fun vH390 H390 locsH390 pH390 zH390 kH390 hSH390 => ?_)
      obtain ⟨x391, hvH390, ex391, hrH390, hTH390⟩ := pH390
      subst hvH390
      have m392 := (fI_kept (x_lt hTH380 kH390 gkq (by decide))).trans m386
      have m393 := (m384).trans (fR_kept (x_lt hTH380 kH390 ga0 (by decide))).symm
      have m394 := (m385).trans (fR_kept (x_lt hTH380 kH390 ga0 (by decide))).symm
      have m395 := (ex382).trans (fI_kept (x_lt hTH380 kH390 ga0 (by decide))).symm
      have bx391 := ty_fi (x := x391) (k := 0) ex391 hTH390 gmq rg_69 rfl
      refine W.eq (g2 := F0 m 36 ls []) rfl ?_
      refine lv_iconst (v := 1) hx hb dX4_opened_36 (by decide) ?_
      exact x_zret C hQ (Or.inr rfl) dX4_opened_37 hSH390 (by decide) (by decide) (⟨1, x382, x391, rfl, by decide, m395, ex391, by omega, m393, m394, hTH390⟩)
    · have k388 := i_eq c387
      refine lv_iconst (v := 0) hx hb dX4_opened_24 (by decide) ?_
      exact x_zret C hQ (Or.inl rfl) dX4_opened_25 hSH380 (by decide) (by decide) (⟨0, x382, x383, rfl, by decide, ex382, ex383, by omega, m384, m385, hTH380⟩)

set_option maxHeartbeats 4000000 in
set_option maxRecDepth 100000 in
theorem a_X4_part_2 (l : Launch) (K : KE) (G : Nat → Option Nat) (H : Heap) {a0 : Nat} (x1 : Int32) {mq : Nat} {kq : Nat} (F : Int32) (tat : Int32) (li : Int32) (hT : TY K G H) (ga0 : G a0 = some 78) (hx1 : 2 ≤ x1.toInt ∧ x1.toInt ≤ 8) (gmq : G mq = some 69) (emq : mq = fR H a0 (K.1.2 4 0)) (gkq : G kq = some 79) (ekq : kq = fR H a0 (K.1.2 4 3)) (etat : tat = fI H a0 (K.1.2 4 7)) (eli : li = fI H mq (K.1.2 7 0)) (hel0 : fI H kq (F : Int32).toNatClampNeg = 26) (hp0 : tat.toInt ≤ F.toInt) (hp1 : F.toInt ≤ 500) : MX l K yX4_part cX4_part 4 (some .boolean) 27 602 0 0 [.ref a0, .int x1] H (AE G [78, 69, 77] H.size) (fun v H1 => ∃ (r : Int32) (t0 : Int32) (t1 : Int32), v = some (.int r) ∧ (0 ≤ r.toInt ∧ r.toInt ≤ 1) ∧ t0 = fI H1 a0 (K.1.2 4 7) ∧ t1 = fI H1 mq (K.1.2 7 0) ∧ (t0.toInt ≤ F.toInt ∧ t1.toInt = li.toInt) ∧ mq = fR H1 a0 (K.1.2 4 0) ∧ kq = fR H1 a0 (K.1.2 4 3) ∧ TY K G H1) := by
  refine MX.of (by decide +kernel) (Nat.le_of_ble_eq_true rfl) ?_
  intro p e s m below meth c ls Q C hH hl hQ
  subst hH
  have C : CX p K s m _ meth c RX4 cX4_part 4 (some .boolean) "part" := C
  obtain ⟨hx, hb, hml, hown, hts, hKT, hr, hlocks, hnm⟩ := id C
  have hl : lv_has ls 4 [(0, .ref a0), (1, .int x1)] := hl
  have hS : va_S (AE G [78, 69, 77] s.heap.size) s.heap s.heap [] := va_S.rf
  have n_0 : (0 : Int32).toInt = 0 := rfl
  have n_1 : (1 : Int32).toInt = 1 := rfl
  have n_3 : (3 : Int32).toInt = 3 := rfl
  have n_8 : (8 : Int32).toInt = 8 := rfl
  have n_10 : (10 : Int32).toInt = 10 := rfl
  have n_26 : (26 : Int32).toInt = 26 := rfl
  have n_40 : (40 : Int32).toInt = 40 := rfl
  have n_60 : (60 : Int32).toInt = 60 := rfl
  have n_61 : (61 : Int32).toInt = 61 := rfl
  have n_62 : (62 : Int32).toInt = 62 := rfl
  have btat := ty_fi (x := tat) (k := 7) etat hT ga0 rg_78 rfl
  have bli := ty_fi (x := li) (k := 0) eli hT gmq rg_69 rfl
  have J22 : ∀ (ls535 : Array Slot) (H534 : Heap) (locsH534 : List Loc) (x537 : Int32) (x538 : Int32) (x539 : Int32), lv_has ls535 4 [(0, .ref a0), (1, .int x1), (2, .int x537)] → TY K G H534 → va_S (AE G [78, 69, 77] s.heap.size) s.heap H534 locsH534 → (10 ≤ x537.toInt ∧ x537.toInt ≤ 40) → (0 ≤ x538.toInt ∧ x538.toInt ≤ 500) → (0 ≤ x539.toInt ∧ x539.toInt ≤ 16) → (x538 = fI H534 a0 (K.1.2 4 7)) → (x539 = fI H534 mq (K.1.2 7 0)) → (mq = fR H534 a0 (K.1.2 4 0)) → (kq = fR H534 a0 (K.1.2 4 3)) → (fI H534 kq (F : Int32).toNatClampNeg = 26) → (x538.toInt < F.toInt ∧ x538.toInt ≤ F.toInt ∧ x539.toInt = li.toInt) → W p l e ({ frames := 27, cells := 0, slots := 0, locals := 602 } : Room) s m (([.ref a0, .int x1] : List Value).toArray) below meth c H534 locsH534 0 0 Q (F0 m 22 ls535 []) := by
    intro ls535 H534 locsH534 x537 x538 x539 hl536 hTH534 hSH534 bx537 bx538 bx539 ex538 ex539 cy540_0 cy540_1 cy540_2 iv22
    have J44 : ∀ (ls542 : Array Slot) (H541 : Heap) (locsH541 : List Loc) (x544 : Int32) (x545 : Int32) (x546 : Int32), lv_has ls542 4 [] → TY K G H541 → va_S (AE G [78, 69, 77] s.heap.size) s.heap H541 locsH541 → (0 ≤ x544.toInt ∧ x544.toInt ≤ 1) → (0 ≤ x545.toInt ∧ x545.toInt ≤ 500) → (0 ≤ x546.toInt ∧ x546.toInt ≤ 16) → (x545 = fI H541 a0 (K.1.2 4 7)) → (x546 = fI H541 mq (K.1.2 7 0)) → (mq = fR H541 a0 (K.1.2 4 0)) → (kq = fR H541 a0 (K.1.2 4 3)) → (fI H541 kq (F : Int32).toNatClampNeg = 26) → (x545.toInt ≤ F.toInt ∧ x546.toInt = li.toInt) → W p l e ({ frames := 27, cells := 0, slots := 0, locals := 602 } : Room) s m (([.ref a0, .int x1] : List Value).toArray) below meth c H541 locsH541 0 0 Q (F0 m 44 ls542 [.int x544]) := by
      intro ls542 H541 locsH541 x544 x545 x546 hl543 hTH541 hSH541 bx544 bx545 bx546 ex545 ex546 cy547_0 cy547_1 cy547_2 iv44
      exact x_zret C hQ (i_01 (by omega)) dX4_part_44 hSH541 (by decide) (by decide) (⟨x544, x545, x546, rfl, by omega, ex545, ex546, by omega, cy547_0, cy547_1, hTH541⟩)
    refine lv_iload_n hx hb dX4_part_22 rfl (lv_at hl536 1 rfl) ?_
    refine lv_bipush (v := 8) hx hb dX4_part_23 (by decide) ?_
    refine lv_icmp_ge (tgt := 39) hx hb dX4_part_25 (by decide) (fun c548 => ?_) (fun c548 => ?_)
    · have k549 := i_le c548
      refine lv_aload_n hx hb dX4_part_39 rfl (lv_at hl536 0 rfl) ?_
      refine lv_iconst (v := 3) hx hb dX4_part_40 (by decide) ?_
      refine x_V (As := [.int 3]) (rest := []) C (a_X4_refuse l K G H534 (3) (x538) hTH534 ga0 gmq cy540_0 gkq cy540_1 ex538) yo_X4_refuse wM_X4_81 ⟨⟨by decide, by decide⟩, by decide, by decide⟩ (x_rv C hTH534 (ci := 4) rfl ga0 rg_78) rfl hl536.1 rfl (Nat.le_of_ble_eq_true rfl) dX4_part_41 hSH534 (AE_sub (fun _ _ => rfl) (by decide) hSH534.1) (fun vH550 H550 locsH550 pH550 zH550 kH550 hSH550 => ?_)
      obtain ⟨x551, x552, hvH550, bx551, ex552, hrH550, m553, m554, hTH550⟩ := pH550
      subst hvH550
      have m555 := (ex539).trans (fI_kept (x_lt hTH534 kH550 gmq (by decide))).symm
      have m556 := (fI_kept (x_lt hTH534 kH550 gkq (by decide))).trans cy540_2
      have bx552 := ty_fi (x := x552) (k := 7) ex552 hTH550 ga0 rg_78 rfl
      refine W.eq (g2 := F0 m 44 ls535 [.int x551]) rfl ?_
      exact J44 ls535 H550 locsH550 (x551) (x552) (x539) (lv_sub hl536 [] rfl) hTH550 hSH550 (by have := i_rng x551; omega) (by have := i_rng x552; omega) (by have := i_rng x539; omega) ex552 m555 m553 m554 m556 (by omega)
    · have k549 := i_nle c548
      refine lv_aload_n hx hb dX4_part_28 rfl (lv_at hl536 0 rfl) ?_
      refine lv_iload_n hx hb dX4_part_29 rfl (lv_at hl536 2 rfl) ?_
      refine lv_iload_n hx hb dX4_part_30 rfl (lv_at hl536 1 rfl) ?_
      refine lv_iconst (v := 1) hx hb dX4_part_31 (by decide) ?_
      refine lv_iadd hx hb dX4_part_32 ?_
      refine lv_topi (fun x557 ex557 => ?_)
      have tx557 := i_add ex557 (by omega)
      refine x_V (As := [.int x537, .int x557]) (rest := []) C (a_X4_opened_3 l K G H534 (x537) (x557) (F) (x538) (x539) hTH534 ga0 (by omega) gmq cy540_0 gkq cy540_1 ex538 ex539 cy540_2 (by omega) (by omega)) yo_X4_opened wM_X4_138 ⟨⟨by decide, by decide⟩, by decide, by decide⟩ (x_rv C hTH534 (ci := 4) rfl ga0 rg_78) rfl hl536.1 rfl (Nat.le_of_ble_eq_true rfl) dX4_part_33 hSH534 (AE_sub (fun _ _ => rfl) (by decide) hSH534.1) (fun vH558 H558 locsH558 pH558 zH558 kH558 hSH558 => ?_)
      obtain ⟨x559, x560, x561, hvH558, bx559, ex560, ex561, hrH558, m562, m563, hTH558⟩ := pH558
      subst hvH558
      have m564 := (fI_kept (x_lt hTH534 kH558 gkq (by decide))).trans cy540_2
      have bx560 := ty_fi (x := x560) (k := 7) ex560 hTH558 ga0 rg_78 rfl
      have bx561 := ty_fi (x := x561) (k := 0) ex561 hTH558 gmq rg_69 rfl
      refine W.eq (g2 := F0 m 36 ls535 [.int x559]) rfl ?_
      refine lv_goto (tgt := 44) hx hb dX4_part_36 (by decide) ?_
      exact J44 ls535 H558 locsH558 (x559) (x560) (x561) (lv_sub hl536 [] rfl) hTH558 hSH558 (by have := i_rng x559; omega) (by have := i_rng x560; omega) (by have := i_rng x561; omega) ex560 ex561 m562 m563 m564 (by omega)
  have J88 : ∀ (ls566 : Array Slot) (H565 : Heap) (locsH565 : List Loc) (x568 : Int32) (x569 : Int32) (x570 : Int32), lv_has ls566 4 [(0, .ref a0), (3, .int x568)] → TY K G H565 → va_S (AE G [78, 69, 77] s.heap.size) s.heap H565 locsH565 → (60 ≤ x568.toInt ∧ x568.toInt ≤ 62) → (0 ≤ x569.toInt ∧ x569.toInt ≤ 500) → (0 ≤ x570.toInt ∧ x570.toInt ≤ 16) → (x569 = fI H565 a0 (K.1.2 4 7)) → (x570 = fI H565 mq (K.1.2 7 0)) → (mq = fR H565 a0 (K.1.2 4 0)) → (kq = fR H565 a0 (K.1.2 4 3)) → (fI H565 kq (F : Int32).toNatClampNeg = 26) → (x569.toInt < F.toInt ∧ x569.toInt ≤ F.toInt ∧ x570.toInt = li.toInt) → W p l e ({ frames := 27, cells := 0, slots := 0, locals := 602 } : Room) s m (([.ref a0, .int x1] : List Value).toArray) below meth c H565 locsH565 0 0 Q (F0 m 88 ls566 []) := by
    intro ls566 H565 locsH565 x568 x569 x570 hl567 hTH565 hSH565 bx568 bx569 bx570 ex569 ex570 cy571_0 cy571_1 cy571_2 iv88
    refine lv_aload_n hx hb dX4_part_88 rfl (lv_at hl567 0 rfl) ?_
    refine lv_dup hx hb dX4_part_89 rfl ?_
    refine x_gi C hTH565 (ci := 4) (k := 7) rfl inX4 (by decide) wF_X4_42 ga0 rg_78 rfl dX4_part_90 (fun x572 ex572 bx572 => ?_)
    have ux572 : x569 = x572 := (ex569).trans ex572.symm
    subst ux572
    refine lv_iconst (v := 1) hx hb dX4_part_93 (by decide) ?_
    refine lv_iadd hx hb dX4_part_94 ?_
    refine lv_topi (fun x573 ex573 => ?_)
    have tx573 := i_add ex573 (by omega)
    have fz575 : 0 ≤ x573.toInt ∧ x573.toInt ≤ 500 := by have := i_rng x573; omega
    refine x_put C hTH565 hSH565 (ci := 4) (k := 7) (v := .int x573) (ty0 := tyX4) rfl inX4 tyX4_ok nmX4 (by decide) rfl wF_X4_42 ga0 rg_78 rfl rfl (okI (by have := i_rng x573; omega) (by have := i_rng x573; omega)) rfl rfl (AE_in ga0 (by decide)) dX4_part_95 (fun H574 locsH574 hTH574 hSH574 wH574 => ?_)
    have m577 := ex570.trans (Wr.neI wH574 (Or.inl (G_ne gmq ga0 (by decide)))).symm
    have m578 := cy571_0.trans (Wr.neR wH574 (Or.inr (x_apart hKT hts inX4 tyX4 tyX4_ok nmX4 rfl 0 7 (by decide) (by decide) (by decide)))).symm
    have m579 := cy571_1.trans (Wr.neR wH574 (Or.inr (x_apart hKT hts inX4 tyX4 tyX4_ok nmX4 rfl 3 7 (by decide) (by decide) (by decide)))).symm
    have m580 := (Wr.neI wH574 (Or.inl (G_ne gkq ga0 (by decide)))).trans cy571_2
    have m581 := Wr.I wH574
    have m581 := m581.symm
    refine lv_aload_n hx hb dX4_part_98 rfl (lv_at hl567 0 rfl) ?_
    refine x_V (As := []) (rest := []) C (a_X4_sum l K G H574 (F) (x573) (x570) hTH574 ga0 gmq m578 gkq m579 m581 m577 m580 (by omega) (by omega)) yo_X4_sum wM_X4_103 ⟨⟨by decide, by decide⟩, by decide, by decide⟩ (x_rv C hTH574 (ci := 4) rfl ga0 rg_78) rfl hl567.1 rfl (Nat.le_of_ble_eq_true rfl) dX4_part_99 hSH574 (AE_sub (fun _ _ => rfl) (by decide) hSH574.1) (fun vH582 H582 locsH582 pH582 zH582 kH582 hSH582 => ?_)
    obtain ⟨x583, x584, x585, hvH582, bx583, ex584, ex585, hrH582, m586, m587, hTH582⟩ := pH582
    subst hvH582
    have m588 := (fI_kept (x_lt hTH574 kH582 gkq (by decide))).trans m580
    have bx584 := ty_fi (x := x584) (k := 7) ex584 hTH582 ga0 rg_78 rfl
    have bx585 := ty_fi (x := x585) (k := 0) ex585 hTH582 gmq rg_69 rfl
    refine W.eq (g2 := F0 m 102 ls566 [.int x583]) rfl ?_
    refine lv_if_ne (tgt := 107) hx hb dX4_part_102 (by decide) (fun c589 => ?_) (fun c589 => ?_)
    · have k590 := i_ne c589
      refine lv_aload_n hx hb dX4_part_107 rfl (lv_at hl567 0 rfl) ?_
      refine x_gr C hTH582 (ci := 4) (k := 0) rfl inX4 (by decide) wF_X4_12 ga0 rg_78 rfl dX4_part_108 (fun q591 eq591 gq591 => ?_)
      have uq591 : mq = q591 := (m586).trans eq591.symm
      subst uq591
      refine lv_iload_n hx hb dX4_part_111 rfl (lv_at hl567 1 rfl) ?_
      refine lv_iconst (v := 0) hx hb dX4_part_112 (by decide) ?_
      refine x_V (As := [.int x568, .int 0]) (rest := []) C (a_X7_addStep l K G H582 (x568) (0) (x585) hTH582 gmq ex585) yo_X7_addStep wM_X4_131 ⟨⟨by decide, by decide⟩, by decide, by decide⟩ (x_rv C hTH582 (ci := 7) rfl gmq rg_69) rfl hl567.1 rfl (Nat.le_of_ble_eq_true rfl) dX4_part_113 hSH582 (AE_sub (fun _ _ => rfl) (by decide) hSH582.1) (fun vH592 H592 locsH592 pH592 zH592 kH592 hSH592 => ?_)
      obtain ⟨x593, hvH592, ex593, hrH592, hTH592⟩ := pH592
      subst hvH592
      have m594 := (fI_kept (x_lt hTH582 kH592 gkq (by decide))).trans m588
      have m595 := (m586).trans (fR_kept (x_lt hTH582 kH592 ga0 (by decide))).symm
      have m596 := (m587).trans (fR_kept (x_lt hTH582 kH592 ga0 (by decide))).symm
      have m597 := (ex584).trans (fI_kept (x_lt hTH582 kH592 ga0 (by decide))).symm
      have bx593 := ty_fi (x := x593) (k := 0) ex593 hTH592 gmq rg_69 rfl
      refine W.eq (g2 := F0 m 116 ls566 []) rfl ?_
      refine lv_iconst (v := 1) hx hb dX4_part_116 (by decide) ?_
      exact x_zret C hQ (Or.inr rfl) dX4_part_117 hSH592 (by decide) (by decide) (⟨1, x584, x593, rfl, by decide, m597, ex593, by omega, m595, m596, hTH592⟩)
    · have k590 := i_eq c589
      refine lv_iconst (v := 0) hx hb dX4_part_105 (by decide) ?_
      exact x_zret C hQ (Or.inl rfl) dX4_part_106 hSH582 (by decide) (by decide) (⟨0, x584, x585, rfl, by decide, ex584, ex585, by omega, m586, m587, hTH582⟩)
  refine lv_aload_n hx hb dX4_part_0 rfl (lv_at hl 0 rfl) ?_
  refine x_gr C hT (ci := 4) (k := 3) rfl inX4 (by decide) wF_X4_18 ga0 rg_78 rfl dX4_part_1 (fun q598 eq598 gq598 => ?_)
  have uq598 : kq = q598 := (ekq).trans eq598.symm
  subst uq598
  refine lv_aload_n hx hb dX4_part_4 rfl (lv_at hl 0 rfl) ?_
  refine x_gi C hT (ci := 4) (k := 7) rfl inX4 (by decide) wF_X4_42 ga0 rg_78 rfl dX4_part_5 (fun x599 ex599 bx599 => ?_)
  have ux599 : tat = x599 := (etat).trans ex599.symm
  subst ux599
  refine x_ai C hT gkq rg_79 ⟨by omega, by show _ < ((501 : Nat) : Int); omega⟩ dX4_part_8 (fun x600 ex600 bx600 => ?_)
  have dx600 := el_hit ex600 hel0
  refine lv_istore_n (lv' := [(2, .int x600), (0, .ref a0), (1, .int x1)]) hx hb dX4_part_9 rfl hl (by decide) rfl (fun ls601 hl602 => ?_)
  refine lv_iload_n hx hb dX4_part_10 rfl (lv_at hl602 0 rfl) ?_
  refine lv_bipush (v := 10) hx hb dX4_part_11 (by decide) ?_
  refine lv_icmp_eq (tgt := 22) hx hb dX4_part_13 (by decide) (fun c603 => ?_) (fun c603 => ?_)
  · have k604 := i_eq c603
    exact J22 ls601 s.heap [] (x600) (tat) (li) (lv_sub hl602 [1, 2, 0] rfl) hT hS (by have := i_rng x600; omega) (by have := i_rng tat; omega) (by have := i_rng li; omega) etat eli emq ekq hel0 (by omega)
  · have k604 := i_ne c603
    refine lv_iload_n hx hb dX4_part_16 rfl (lv_at hl602 0 rfl) ?_
    refine lv_bipush (v := 40) hx hb dX4_part_17 (by decide) ?_
    refine lv_icmp_ne (tgt := 45) hx hb dX4_part_19 (by decide) (fun c605 => ?_) (fun c605 => ?_)
    · have k606 := i_ne c605
      refine lv_aload_n hx hb dX4_part_45 rfl (lv_at hl602 1 rfl) ?_
      refine x_V (As := []) (rest := []) C (a_X4_sum l K G s.heap (F) (tat) (li) hT ga0 gmq emq gkq ekq etat eli hel0 (by omega) (by omega)) yo_X4_sum wM_X4_103 ⟨⟨by decide, by decide⟩, by decide, by decide⟩ (x_rv C hT (ci := 4) rfl ga0 rg_78) rfl hl602.1 rfl (Nat.le_of_ble_eq_true rfl) dX4_part_46 hS (AE_sub (fun _ _ => rfl) (by decide) hS.1) (fun vH607 H607 locsH607 pH607 zH607 kH607 hSH607 => ?_)
      obtain ⟨x608, x609, x610, hvH607, bx608, ex609, ex610, hrH607, m611, m612, hTH607⟩ := pH607
      subst hvH607
      have m613 := (fI_kept (x_lt hT kH607 gkq (by decide))).trans hel0
      have bx609 := ty_fi (x := x609) (k := 7) ex609 hTH607 ga0 rg_78 rfl
      have bx610 := ty_fi (x := x610) (k := 0) ex610 hTH607 gmq rg_69 rfl
      refine W.eq (g2 := F0 m 49 ls601 [.int x608]) rfl ?_
      refine lv_if_ne (tgt := 54) hx hb dX4_part_49 (by decide) (fun c614 => ?_) (fun c614 => ?_)
      · have k615 := i_ne c614
        refine lv_aload_n hx hb dX4_part_54 rfl (lv_at hl602 1 rfl) ?_
        refine x_gr C hTH607 (ci := 4) (k := 3) rfl inX4 (by decide) wF_X4_18 ga0 rg_78 rfl dX4_part_55 (fun q616 eq616 gq616 => ?_)
        have uq616 : kq = q616 := (m612).trans eq616.symm
        subst uq616
        refine lv_aload_n hx hb dX4_part_58 rfl (lv_at hl602 1 rfl) ?_
        refine x_gi C hTH607 (ci := 4) (k := 7) rfl inX4 (by decide) wF_X4_42 ga0 rg_78 rfl dX4_part_59 (fun x617 ex617 bx617 => ?_)
        have ux617 : x609 = x617 := (ex609).trans ex617.symm
        subst ux617
        refine x_ai C hTH607 gkq rg_79 ⟨by omega, by show _ < ((501 : Nat) : Int); omega⟩ dX4_part_62 (fun x618 ex618 bx618 => ?_)
        have dx618 := el_hit ex618 m613
        refine lv_istore_n (lv' := [(3, .int x618), (2, .int x600), (0, .ref a0), (1, .int x1)]) hx hb dX4_part_63 rfl hl602 (by decide) rfl (fun ls619 hl620 => ?_)
        refine lv_iload_n hx hb dX4_part_64 rfl (lv_at hl620 0 rfl) ?_
        refine lv_bipush (v := 60) hx hb dX4_part_65 (by decide) ?_
        refine lv_icmp_eq (tgt := 88) hx hb dX4_part_67 (by decide) (fun c621 => ?_) (fun c621 => ?_)
        · have k622 := i_eq c621
          exact J88 ls619 H607 locsH607 (x618) (x609) (x610) (lv_sub hl620 [2, 0] rfl) hTH607 hSH607 (by have := i_rng x618; omega) (by have := i_rng x609; omega) (by have := i_rng x610; omega) ex609 ex610 m611 m612 m613 (by omega)
        · have k622 := i_ne c621
          refine lv_iload_n hx hb dX4_part_70 rfl (lv_at hl620 0 rfl) ?_
          refine lv_bipush (v := 61) hx hb dX4_part_71 (by decide) ?_
          refine lv_icmp_eq (tgt := 88) hx hb dX4_part_73 (by decide) (fun c623 => ?_) (fun c623 => ?_)
          · have k624 := i_eq c623
            exact J88 ls619 H607 locsH607 (x618) (x609) (x610) (lv_sub hl620 [2, 0] rfl) hTH607 hSH607 (by have := i_rng x618; omega) (by have := i_rng x609; omega) (by have := i_rng x610; omega) ex609 ex610 m611 m612 m613 (by omega)
          · have k624 := i_ne c623
            refine lv_iload_n hx hb dX4_part_76 rfl (lv_at hl620 0 rfl) ?_
            refine lv_bipush (v := 62) hx hb dX4_part_77 (by decide) ?_
            refine lv_icmp_eq (tgt := 88) hx hb dX4_part_79 (by decide) (fun c625 => ?_) (fun c625 => ?_)
            · have k626 := i_eq c625
              exact J88 ls619 H607 locsH607 (x618) (x609) (x610) (lv_sub hl620 [2, 0] rfl) hTH607 hSH607 (by have := i_rng x618; omega) (by have := i_rng x609; omega) (by have := i_rng x610; omega) ex609 ex610 m611 m612 m613 (by omega)
            · have k626 := i_ne c625
              refine lv_aload_n hx hb dX4_part_82 rfl (lv_at hl620 2 rfl) ?_
              refine lv_iconst (v := 1) hx hb dX4_part_83 (by decide) ?_
              refine x_V (As := [.int 1]) (rest := []) C (a_X4_refuse l K G H607 (1) (x609) hTH607 ga0 gmq m611 gkq m612 ex609) yo_X4_refuse wM_X4_81 ⟨⟨by decide, by decide⟩, by decide, by decide⟩ (x_rv C hTH607 (ci := 4) rfl ga0 rg_78) rfl hl620.1 rfl (Nat.le_of_ble_eq_true rfl) dX4_part_84 hSH607 (AE_sub (fun _ _ => rfl) (by decide) hSH607.1) (fun vH627 H627 locsH627 pH627 zH627 kH627 hSH627 => ?_)
              obtain ⟨x628, x629, hvH627, bx628, ex629, hrH627, m630, m631, hTH627⟩ := pH627
              subst hvH627
              have m632 := (fI_kept (x_lt hTH607 kH627 gkq (by decide))).trans m613
              have m633 := (ex610).trans (fI_kept (x_lt hTH607 kH627 gmq (by decide))).symm
              have bx629 := ty_fi (x := x629) (k := 7) ex629 hTH627 ga0 rg_78 rfl
              refine W.eq (g2 := F0 m 87 ls619 [.int x628]) rfl ?_
              exact x_zret C hQ (i_01 (by omega)) dX4_part_87 hSH627 (by decide) (by decide) (⟨x628, x629, x610, rfl, by omega, ex629, m633, by omega, m630, m631, hTH627⟩)
      · have k615 := i_eq c614
        refine lv_iconst (v := 0) hx hb dX4_part_52 (by decide) ?_
        exact x_zret C hQ (Or.inl rfl) dX4_part_53 hSH607 (by decide) (by decide) (⟨0, x609, x610, rfl, by decide, ex609, ex610, by omega, m611, m612, hTH607⟩)
    · have k606 := i_eq c605
      exact J22 ls601 s.heap [] (x600) (tat) (li) (lv_sub hl602 [1, 2, 0] rfl) hT hS (by have := i_rng x600; omega) (by have := i_rng tat; omega) (by have := i_rng li; omega) etat eli emq ekq hel0 (by omega)

set_option maxHeartbeats 4000000 in
set_option maxRecDepth 100000 in
theorem a_X4_both_2 (l : Launch) (K : KE) (G : Nat → Option Nat) (H : Heap) {a0 : Nat} (x1 : Int32) {mq : Nat} {kq : Nat} (F : Int32) (tat : Int32) (li : Int32) (hT : TY K G H) (ga0 : G a0 = some 78) (hx1 : 2 ≤ x1.toInt ∧ x1.toInt ≤ 8) (gmq : G mq = some 69) (emq : mq = fR H a0 (K.1.2 4 0)) (gkq : G kq = some 79) (ekq : kq = fR H a0 (K.1.2 4 3)) (etat : tat = fI H a0 (K.1.2 4 7)) (eli : li = fI H mq (K.1.2 7 0)) (hel0 : fI H kq (F : Int32).toNatClampNeg = 26) (hp0 : tat.toInt ≤ F.toInt) (hp1 : F.toInt ≤ 500) : MX l K yX4_both cX4_both 3 (some .boolean) 28 625 0 0 [.ref a0, .int x1] H (AE G [78, 69, 77] H.size) (fun v H1 => ∃ (r : Int32) (t0 : Int32) (t1 : Int32), v = some (.int r) ∧ (0 ≤ r.toInt ∧ r.toInt ≤ 1) ∧ t0 = fI H1 a0 (K.1.2 4 7) ∧ t1 = fI H1 mq (K.1.2 7 0) ∧ (t0.toInt ≤ F.toInt ∧ t1.toInt = li.toInt) ∧ mq = fR H1 a0 (K.1.2 4 0) ∧ kq = fR H1 a0 (K.1.2 4 3) ∧ TY K G H1) := by
  refine MX.of (by decide +kernel) (Nat.le_of_ble_eq_true rfl) ?_
  intro p e s m below meth c ls Q C hH hl hQ
  subst hH
  have C : CX p K s m _ meth c RX4 cX4_both 3 (some .boolean) "both" := C
  obtain ⟨hx, hb, hml, hown, hts, hKT, hr, hlocks, hnm⟩ := id C
  have hl : lv_has ls 3 [(0, .ref a0), (1, .int x1)] := hl
  have hS : va_S (AE G [78, 69, 77] s.heap.size) s.heap s.heap [] := va_S.rf
  have n_0 : (0 : Int32).toInt = 0 := rfl
  have n_1 : (1 : Int32).toInt = 1 := rfl
  have n_9 : (9 : Int32).toInt = 9 := rfl
  have n_26 : (26 : Int32).toInt = 26 := rfl
  have n_500 : (500 : Int32).toInt = 500 := rfl
  have btat := ty_fi (x := tat) (k := 7) etat hT ga0 rg_78 rfl
  have bli := ty_fi (x := li) (k := 0) eli hT gmq rg_69 rfl
  have J12 : ∀ (nf : Nat) (ls1090 : Array Slot) (H1089 : Heap) (locsH1089 : List Loc) (x1092 : Int32) (x1093 : Int32) (x1094 : Int32), lv_has ls1090 3 [(0, .ref a0), (1, .int x1), (2, .int x1092)] → TY K G H1089 → va_S (AE G [78, 69, 77] s.heap.size) s.heap H1089 locsH1089 → (0 ≤ x1092.toInt ∧ x1092.toInt ≤ 500) → (0 ≤ x1093.toInt ∧ x1093.toInt ≤ 500) → (0 ≤ x1094.toInt ∧ x1094.toInt ≤ 16) → (x1093 = fI H1089 a0 (K.1.2 4 7)) → (x1094 = fI H1089 mq (K.1.2 7 0)) → (mq = fR H1089 a0 (K.1.2 4 0)) → (kq = fR H1089 a0 (K.1.2 4 3)) → (fI H1089 kq (F : Int32).toNatClampNeg = 26) → (500 - x1092.toInt < (nf : Int)) → (x1093.toInt ≤ F.toInt ∧ x1094.toInt = li.toInt) → W p l e ({ frames := 28, cells := 0, slots := 0, locals := 625 } : Room) s m (([.ref a0, .int x1] : List Value).toArray) below meth c H1089 locsH1089 0 0 Q (F0 m 12 ls1090 []) := by
    intro nf
    induction nf with
    | zero =>
      intro ls1090 H1089 locsH1089 x1092 x1093 x1094 hl1091 hTH1089 hSH1089 bx1092 bx1093 bx1094 ex1093 ex1094 cy1095_0 cy1095_1 cy1095_2 hm12 iv12
      exfalso
      omega
    | succ nf ih12 =>
      intro ls1090 H1089 locsH1089 x1092 x1093 x1094 hl1091 hTH1089 hSH1089 bx1092 bx1093 bx1094 ex1093 ex1094 cy1095_0 cy1095_1 cy1095_2 hm12 iv12
      have J69 : ∀ (ls1097 : Array Slot) (H1096 : Heap) (locsH1096 : List Loc) (x1099 : Int32) (x1100 : Int32), lv_has ls1097 3 [] → TY K G H1096 → va_S (AE G [78, 69, 77] s.heap.size) s.heap H1096 locsH1096 → (0 ≤ x1099.toInt ∧ x1099.toInt ≤ 500) → (0 ≤ x1100.toInt ∧ x1100.toInt ≤ 16) → (x1099 = fI H1096 a0 (K.1.2 4 7)) → (x1100 = fI H1096 mq (K.1.2 7 0)) → (mq = fR H1096 a0 (K.1.2 4 0)) → (kq = fR H1096 a0 (K.1.2 4 3)) → (fI H1096 kq (F : Int32).toNatClampNeg = 26) → (x1099.toInt ≤ F.toInt ∧ x1100.toInt = li.toInt) → W p l e ({ frames := 28, cells := 0, slots := 0, locals := 625 } : Room) s m (([.ref a0, .int x1] : List Value).toArray) below meth c H1096 locsH1096 0 0 Q (F0 m 69 ls1097 []) := by
        intro ls1097 H1096 locsH1096 x1099 x1100 hl1098 hTH1096 hSH1096 bx1099 bx1100 ex1099 ex1100 cy1101_0 cy1101_1 cy1101_2 iv69
        refine lv_iconst (v := 1) hx hb dX4_both_69 (by decide) ?_
        exact x_zret C hQ (Or.inr rfl) dX4_both_70 hSH1096 (by decide) (by decide) (⟨1, x1099, x1100, rfl, by decide, ex1099, ex1100, by omega, cy1101_0, cy1101_1, hTH1096⟩)
      refine lv_iload_n hx hb dX4_both_12 rfl (lv_at hl1091 2 rfl) ?_
      refine lv_sipush (v := 500) hx hb dX4_both_13 (by decide) ?_
      refine lv_icmp_ge (tgt := 69) hx hb dX4_both_16 (by decide) (fun c1102 => ?_) (fun c1102 => ?_)
      · have k1103 := i_le c1102
        exact J69 ls1090 H1089 locsH1089 (x1093) (x1094) (lv_sub hl1091 [] rfl) hTH1089 hSH1089 (by have := i_rng x1093; omega) (by have := i_rng x1094; omega) ex1093 ex1094 cy1095_0 cy1095_1 cy1095_2 (by omega)
      · have k1103 := i_nle c1102
        refine lv_aload_n hx hb dX4_both_19 rfl (lv_at hl1091 0 rfl) ?_
        refine x_gr C hTH1089 (ci := 4) (k := 3) rfl inX4 (by decide) wF_X4_18 ga0 rg_78 rfl dX4_both_20 (fun q1104 eq1104 gq1104 => ?_)
        have uq1104 : kq = q1104 := (cy1095_1).trans eq1104.symm
        subst uq1104
        refine lv_aload_n hx hb dX4_both_23 rfl (lv_at hl1091 0 rfl) ?_
        refine x_gi C hTH1089 (ci := 4) (k := 7) rfl inX4 (by decide) wF_X4_42 ga0 rg_78 rfl dX4_both_24 (fun x1105 ex1105 bx1105 => ?_)
        have ux1105 : x1093 = x1105 := (ex1093).trans ex1105.symm
        subst ux1105
        refine x_ai C hTH1089 gkq rg_79 ⟨by omega, by show _ < ((501 : Nat) : Int); omega⟩ dX4_both_27 (fun x1106 ex1106 bx1106 => ?_)
        have dx1106 := el_hit ex1106 cy1095_2
        refine lv_bipush (v := 9) hx hb dX4_both_28 (by decide) ?_
        refine lv_icmp_ne (tgt := 69) hx hb dX4_both_30 (by decide) (fun c1107 => ?_) (fun c1107 => ?_)
        · have k1108 := i_ne c1107
          exact J69 ls1090 H1089 locsH1089 (x1093) (x1094) (lv_sub hl1091 [] rfl) hTH1089 hSH1089 (by have := i_rng x1093; omega) (by have := i_rng x1094; omega) ex1093 ex1094 cy1095_0 cy1095_1 cy1095_2 (by omega)
        · have k1108 := i_eq c1107
          refine lv_aload_n hx hb dX4_both_33 rfl (lv_at hl1091 0 rfl) ?_
          refine lv_dup hx hb dX4_both_34 rfl ?_
          refine x_gi C hTH1089 (ci := 4) (k := 7) rfl inX4 (by decide) wF_X4_42 ga0 rg_78 rfl dX4_both_35 (fun x1109 ex1109 bx1109 => ?_)
          have ux1109 : x1093 = x1109 := (ex1093).trans ex1109.symm
          subst ux1109
          refine lv_iconst (v := 1) hx hb dX4_both_38 (by decide) ?_
          refine lv_iadd hx hb dX4_both_39 ?_
          refine lv_topi (fun x1110 ex1110 => ?_)
          have tx1110 := i_add ex1110 (by omega)
          have fz1112 : 0 ≤ x1110.toInt ∧ x1110.toInt ≤ 500 := by have := i_rng x1110; omega
          refine x_put C hTH1089 hSH1089 (ci := 4) (k := 7) (v := .int x1110) (ty0 := tyX4) rfl inX4 tyX4_ok nmX4 (by decide) rfl wF_X4_42 ga0 rg_78 rfl rfl (okI (by have := i_rng x1110; omega) (by have := i_rng x1110; omega)) rfl rfl (AE_in ga0 (by decide)) dX4_both_40 (fun H1111 locsH1111 hTH1111 hSH1111 wH1111 => ?_)
          have m1114 := ex1094.trans (Wr.neI wH1111 (Or.inl (G_ne gmq ga0 (by decide)))).symm
          have m1115 := cy1095_0.trans (Wr.neR wH1111 (Or.inr (x_apart hKT hts inX4 tyX4 tyX4_ok nmX4 rfl 0 7 (by decide) (by decide) (by decide)))).symm
          have m1116 := cy1095_1.trans (Wr.neR wH1111 (Or.inr (x_apart hKT hts inX4 tyX4 tyX4_ok nmX4 rfl 3 7 (by decide) (by decide) (by decide)))).symm
          have m1117 := (Wr.neI wH1111 (Or.inl (G_ne gkq ga0 (by decide)))).trans cy1095_2
          have m1118 := Wr.I wH1111
          have m1118 := m1118.symm
          refine lv_aload_n hx hb dX4_both_43 rfl (lv_at hl1091 0 rfl) ?_
          refine lv_iload_n hx hb dX4_both_44 rfl (lv_at hl1091 1 rfl) ?_
          refine x_V (As := [.int x1]) (rest := []) C (a_X4_part_2 l K G H1111 (x1) (F) (x1110) (x1094) hTH1111 ga0 (by omega) gmq m1115 gkq m1116 m1118 m1114 m1117 (by omega) (by omega)) yo_X4_part wM_X4_135 ⟨⟨by decide, by decide⟩, by decide, by decide⟩ (x_rv C hTH1111 (ci := 4) rfl ga0 rg_78) rfl hl1091.1 rfl (Nat.le_of_ble_eq_true rfl) dX4_both_45 hSH1111 (AE_sub (fun _ _ => rfl) (by decide) hSH1111.1) (fun vH1119 H1119 locsH1119 pH1119 zH1119 kH1119 hSH1119 => ?_)
          obtain ⟨x1120, x1121, x1122, hvH1119, bx1120, ex1121, ex1122, hrH1119, m1123, m1124, hTH1119⟩ := pH1119
          subst hvH1119
          have m1125 := (fI_kept (x_lt hTH1111 kH1119 gkq (by decide))).trans m1117
          have bx1121 := ty_fi (x := x1121) (k := 7) ex1121 hTH1119 ga0 rg_78 rfl
          have bx1122 := ty_fi (x := x1122) (k := 0) ex1122 hTH1119 gmq rg_69 rfl
          refine W.eq (g2 := F0 m 48 ls1090 [.int x1120]) rfl ?_
          refine lv_if_ne (tgt := 53) hx hb dX4_both_48 (by decide) (fun c1126 => ?_) (fun c1126 => ?_)
          · have k1127 := i_ne c1126
            refine lv_aload_n hx hb dX4_both_53 rfl (lv_at hl1091 0 rfl) ?_
            refine x_gr C hTH1119 (ci := 4) (k := 0) rfl inX4 (by decide) wF_X4_12 ga0 rg_78 rfl dX4_both_54 (fun q1128 eq1128 gq1128 => ?_)
            have uq1128 : mq = q1128 := (m1123).trans eq1128.symm
            subst uq1128
            refine lv_bipush (v := 9) hx hb dX4_both_57 (by decide) ?_
            refine lv_iconst (v := 0) hx hb dX4_both_59 (by decide) ?_
            refine x_V (As := [.int 9, .int 0]) (rest := []) C (a_X7_addStep l K G H1119 (9) (0) (x1122) hTH1119 gmq ex1122) yo_X7_addStep wM_X4_131 ⟨⟨by decide, by decide⟩, by decide, by decide⟩ (x_rv C hTH1119 (ci := 7) rfl gmq rg_69) rfl hl1091.1 rfl (Nat.le_of_ble_eq_true rfl) dX4_both_60 hSH1119 (AE_sub (fun _ _ => rfl) (by decide) hSH1119.1) (fun vH1129 H1129 locsH1129 pH1129 zH1129 kH1129 hSH1129 => ?_)
            obtain ⟨x1130, hvH1129, ex1130, hrH1129, hTH1129⟩ := pH1129
            subst hvH1129
            have m1131 := (fI_kept (x_lt hTH1119 kH1129 gkq (by decide))).trans m1125
            have m1132 := (m1123).trans (fR_kept (x_lt hTH1119 kH1129 ga0 (by decide))).symm
            have m1133 := (m1124).trans (fR_kept (x_lt hTH1119 kH1129 ga0 (by decide))).symm
            have m1134 := (ex1121).trans (fI_kept (x_lt hTH1119 kH1129 ga0 (by decide))).symm
            have bx1130 := ty_fi (x := x1130) (k := 0) ex1130 hTH1129 gmq rg_69 rfl
            refine W.eq (g2 := F0 m 63 ls1090 []) rfl ?_
            obtain ⟨x1135, ex1135⟩ : ∃ y : Int32, y = x1092 + 1 := ⟨_, rfl⟩
            have tx1135 := i_add ex1135 (by omega)
            refine lv_iinc (v := x1135) (lv' := [(2, .int x1135), (0, .ref a0), (1, .int x1)]) hx hb dX4_both_63 hl1091 (k := 2) rfl (by rw [ex1135]; rfl) (by decide) rfl (fun ls1136 hl1137 => ?_)
            refine lv_goto (tgt := 12) hx hb dX4_both_66 (by decide) ?_
            exact ih12 ls1136 H1129 locsH1129 (x1135) (x1121) (x1130) (lv_sub hl1137 [1, 2, 0] rfl) hTH1129 hSH1129 (by have := i_rng x1135; omega) (by have := i_rng x1121; omega) (by have := i_rng x1130; omega) m1134 ex1130 m1132 m1133 m1131 (by omega) (by omega)
          · have k1127 := i_eq c1126
            refine lv_iconst (v := 0) hx hb dX4_both_51 (by decide) ?_
            exact x_zret C hQ (Or.inl rfl) dX4_both_52 hSH1119 (by decide) (by decide) (⟨0, x1121, x1122, rfl, by decide, ex1121, ex1122, by omega, m1123, m1124, hTH1119⟩)
  refine lv_aload_n hx hb dX4_both_0 rfl (lv_at hl 0 rfl) ?_
  refine lv_iload_n hx hb dX4_both_1 rfl (lv_at hl 1 rfl) ?_
  refine x_V (As := [.int x1]) (rest := []) C (a_X4_part_2 l K G s.heap (x1) (F) (tat) (li) hT ga0 (by omega) gmq emq gkq ekq etat eli hel0 (by omega) (by omega)) yo_X4_part wM_X4_135 ⟨⟨by decide, by decide⟩, by decide, by decide⟩ (x_rv C hT (ci := 4) rfl ga0 rg_78) rfl hl.1 rfl (Nat.le_of_ble_eq_true rfl) dX4_both_2 hS (AE_sub (fun _ _ => rfl) (by decide) hS.1) (fun vH1138 H1138 locsH1138 pH1138 zH1138 kH1138 hSH1138 => ?_)
  obtain ⟨x1139, x1140, x1141, hvH1138, bx1139, ex1140, ex1141, hrH1138, m1142, m1143, hTH1138⟩ := pH1138
  subst hvH1138
  have m1144 := (fI_kept (x_lt hT kH1138 gkq (by decide))).trans hel0
  have bx1140 := ty_fi (x := x1140) (k := 7) ex1140 hTH1138 ga0 rg_78 rfl
  have bx1141 := ty_fi (x := x1141) (k := 0) ex1141 hTH1138 gmq rg_69 rfl
  refine W.eq (g2 := F0 m 5 ls [.int x1139]) rfl ?_
  refine lv_if_ne (tgt := 10) hx hb dX4_both_5 (by decide) (fun c1145 => ?_) (fun c1145 => ?_)
  · have k1146 := i_ne c1145
    refine lv_iconst (v := 0) hx hb dX4_both_10 (by decide) ?_
    refine lv_istore_n (lv' := [(2, .int 0), (0, .ref a0), (1, .int x1)]) hx hb dX4_both_11 rfl hl (by decide) rfl (fun ls1147 hl1148 => ?_)
    exact J12 ((500 - (0 : Int32).toInt).toNat + 1) ls1147 H1138 locsH1138 (0) (x1140) (x1141) (lv_sub hl1148 [1, 2, 0] rfl) hTH1138 hSH1138 (by decide) (by have := i_rng x1140; omega) (by have := i_rng x1141; omega) ex1140 ex1141 m1142 m1143 m1144 (by omega) (by omega)
  · have k1146 := i_eq c1145
    refine lv_iconst (v := 0) hx hb dX4_both_8 (by decide) ?_
    exact x_zret C hQ (Or.inl rfl) dX4_both_9 hSH1138 (by decide) (by decide) (⟨0, x1140, x1141, rfl, by decide, ex1140, ex1141, by omega, m1142, m1143, hTH1138⟩)

set_option maxHeartbeats 4000000 in
set_option maxRecDepth 100000 in
theorem a_X4_either_2 (l : Launch) (K : KE) (G : Nat → Option Nat) (H : Heap) {a0 : Nat} (x1 : Int32) {mq : Nat} {kq : Nat} (F : Int32) (tat : Int32) (li : Int32) (hT : TY K G H) (ga0 : G a0 = some 78) (hx1 : 2 ≤ x1.toInt ∧ x1.toInt ≤ 8) (gmq : G mq = some 69) (emq : mq = fR H a0 (K.1.2 4 0)) (gkq : G kq = some 79) (ekq : kq = fR H a0 (K.1.2 4 3)) (etat : tat = fI H a0 (K.1.2 4 7)) (eli : li = fI H mq (K.1.2 7 0)) (hel0 : fI H kq (F : Int32).toNatClampNeg = 26) (hp0 : tat.toInt ≤ F.toInt) (hp1 : F.toInt ≤ 500) : MX l K yX4_either cX4_either 3 (some .boolean) 29 647 0 0 [.ref a0, .int x1] H (AE G [78, 69, 77] H.size) (fun v H1 => ∃ (r : Int32) (t0 : Int32) (t1 : Int32), v = some (.int r) ∧ (0 ≤ r.toInt ∧ r.toInt ≤ 1) ∧ t0 = fI H1 a0 (K.1.2 4 7) ∧ t1 = fI H1 mq (K.1.2 7 0) ∧ (t0.toInt ≤ F.toInt ∧ t1.toInt = li.toInt) ∧ mq = fR H1 a0 (K.1.2 4 0) ∧ kq = fR H1 a0 (K.1.2 4 3) ∧ TY K G H1) := by
  refine MX.of (by decide +kernel) (Nat.le_of_ble_eq_true rfl) ?_
  intro p e s m below meth c ls Q C hH hl hQ
  subst hH
  have C : CX p K s m _ meth c RX4 cX4_either 3 (some .boolean) "either" := C
  obtain ⟨hx, hb, hml, hown, hts, hKT, hr, hlocks, hnm⟩ := id C
  have hl : lv_has ls 3 [(0, .ref a0), (1, .int x1)] := hl
  have hS : va_S (AE G [78, 69, 77] s.heap.size) s.heap s.heap [] := va_S.rf
  have n_0 : (0 : Int32).toInt = 0 := rfl
  have n_1 : (1 : Int32).toInt = 1 := rfl
  have n_8 : (8 : Int32).toInt = 8 := rfl
  have n_26 : (26 : Int32).toInt = 26 := rfl
  have n_500 : (500 : Int32).toInt = 500 := rfl
  have btat := ty_fi (x := tat) (k := 7) etat hT ga0 rg_78 rfl
  have bli := ty_fi (x := li) (k := 0) eli hT gmq rg_69 rfl
  have J12 : ∀ (nf : Nat) (ls1090 : Array Slot) (H1089 : Heap) (locsH1089 : List Loc) (x1092 : Int32) (x1093 : Int32) (x1094 : Int32), lv_has ls1090 3 [(0, .ref a0), (1, .int x1), (2, .int x1092)] → TY K G H1089 → va_S (AE G [78, 69, 77] s.heap.size) s.heap H1089 locsH1089 → (0 ≤ x1092.toInt ∧ x1092.toInt ≤ 500) → (0 ≤ x1093.toInt ∧ x1093.toInt ≤ 500) → (0 ≤ x1094.toInt ∧ x1094.toInt ≤ 16) → (x1093 = fI H1089 a0 (K.1.2 4 7)) → (x1094 = fI H1089 mq (K.1.2 7 0)) → (mq = fR H1089 a0 (K.1.2 4 0)) → (kq = fR H1089 a0 (K.1.2 4 3)) → (fI H1089 kq (F : Int32).toNatClampNeg = 26) → (500 - x1092.toInt < (nf : Int)) → (x1093.toInt ≤ F.toInt ∧ x1094.toInt = li.toInt) → W p l e ({ frames := 29, cells := 0, slots := 0, locals := 647 } : Room) s m (([.ref a0, .int x1] : List Value).toArray) below meth c H1089 locsH1089 0 0 Q (F0 m 12 ls1090 []) := by
    intro nf
    induction nf with
    | zero =>
      intro ls1090 H1089 locsH1089 x1092 x1093 x1094 hl1091 hTH1089 hSH1089 bx1092 bx1093 bx1094 ex1093 ex1094 cy1095_0 cy1095_1 cy1095_2 hm12 iv12
      exfalso
      omega
    | succ nf ih12 =>
      intro ls1090 H1089 locsH1089 x1092 x1093 x1094 hl1091 hTH1089 hSH1089 bx1092 bx1093 bx1094 ex1093 ex1094 cy1095_0 cy1095_1 cy1095_2 hm12 iv12
      have J69 : ∀ (ls1097 : Array Slot) (H1096 : Heap) (locsH1096 : List Loc) (x1099 : Int32) (x1100 : Int32), lv_has ls1097 3 [] → TY K G H1096 → va_S (AE G [78, 69, 77] s.heap.size) s.heap H1096 locsH1096 → (0 ≤ x1099.toInt ∧ x1099.toInt ≤ 500) → (0 ≤ x1100.toInt ∧ x1100.toInt ≤ 16) → (x1099 = fI H1096 a0 (K.1.2 4 7)) → (x1100 = fI H1096 mq (K.1.2 7 0)) → (mq = fR H1096 a0 (K.1.2 4 0)) → (kq = fR H1096 a0 (K.1.2 4 3)) → (fI H1096 kq (F : Int32).toNatClampNeg = 26) → (x1099.toInt ≤ F.toInt ∧ x1100.toInt = li.toInt) → W p l e ({ frames := 29, cells := 0, slots := 0, locals := 647 } : Room) s m (([.ref a0, .int x1] : List Value).toArray) below meth c H1096 locsH1096 0 0 Q (F0 m 69 ls1097 []) := by
        intro ls1097 H1096 locsH1096 x1099 x1100 hl1098 hTH1096 hSH1096 bx1099 bx1100 ex1099 ex1100 cy1101_0 cy1101_1 cy1101_2 iv69
        refine lv_iconst (v := 1) hx hb dX4_either_69 (by decide) ?_
        exact x_zret C hQ (Or.inr rfl) dX4_either_70 hSH1096 (by decide) (by decide) (⟨1, x1099, x1100, rfl, by decide, ex1099, ex1100, by omega, cy1101_0, cy1101_1, hTH1096⟩)
      refine lv_iload_n hx hb dX4_either_12 rfl (lv_at hl1091 2 rfl) ?_
      refine lv_sipush (v := 500) hx hb dX4_either_13 (by decide) ?_
      refine lv_icmp_ge (tgt := 69) hx hb dX4_either_16 (by decide) (fun c1102 => ?_) (fun c1102 => ?_)
      · have k1103 := i_le c1102
        exact J69 ls1090 H1089 locsH1089 (x1093) (x1094) (lv_sub hl1091 [] rfl) hTH1089 hSH1089 (by have := i_rng x1093; omega) (by have := i_rng x1094; omega) ex1093 ex1094 cy1095_0 cy1095_1 cy1095_2 (by omega)
      · have k1103 := i_nle c1102
        refine lv_aload_n hx hb dX4_either_19 rfl (lv_at hl1091 0 rfl) ?_
        refine x_gr C hTH1089 (ci := 4) (k := 3) rfl inX4 (by decide) wF_X4_18 ga0 rg_78 rfl dX4_either_20 (fun q1104 eq1104 gq1104 => ?_)
        have uq1104 : kq = q1104 := (cy1095_1).trans eq1104.symm
        subst uq1104
        refine lv_aload_n hx hb dX4_either_23 rfl (lv_at hl1091 0 rfl) ?_
        refine x_gi C hTH1089 (ci := 4) (k := 7) rfl inX4 (by decide) wF_X4_42 ga0 rg_78 rfl dX4_either_24 (fun x1105 ex1105 bx1105 => ?_)
        have ux1105 : x1093 = x1105 := (ex1093).trans ex1105.symm
        subst ux1105
        refine x_ai C hTH1089 gkq rg_79 ⟨by omega, by show _ < ((501 : Nat) : Int); omega⟩ dX4_either_27 (fun x1106 ex1106 bx1106 => ?_)
        have dx1106 := el_hit ex1106 cy1095_2
        refine lv_bipush (v := 8) hx hb dX4_either_28 (by decide) ?_
        refine lv_icmp_ne (tgt := 69) hx hb dX4_either_30 (by decide) (fun c1107 => ?_) (fun c1107 => ?_)
        · have k1108 := i_ne c1107
          exact J69 ls1090 H1089 locsH1089 (x1093) (x1094) (lv_sub hl1091 [] rfl) hTH1089 hSH1089 (by have := i_rng x1093; omega) (by have := i_rng x1094; omega) ex1093 ex1094 cy1095_0 cy1095_1 cy1095_2 (by omega)
        · have k1108 := i_eq c1107
          refine lv_aload_n hx hb dX4_either_33 rfl (lv_at hl1091 0 rfl) ?_
          refine lv_dup hx hb dX4_either_34 rfl ?_
          refine x_gi C hTH1089 (ci := 4) (k := 7) rfl inX4 (by decide) wF_X4_42 ga0 rg_78 rfl dX4_either_35 (fun x1109 ex1109 bx1109 => ?_)
          have ux1109 : x1093 = x1109 := (ex1093).trans ex1109.symm
          subst ux1109
          refine lv_iconst (v := 1) hx hb dX4_either_38 (by decide) ?_
          refine lv_iadd hx hb dX4_either_39 ?_
          refine lv_topi (fun x1110 ex1110 => ?_)
          have tx1110 := i_add ex1110 (by omega)
          have fz1112 : 0 ≤ x1110.toInt ∧ x1110.toInt ≤ 500 := by have := i_rng x1110; omega
          refine x_put C hTH1089 hSH1089 (ci := 4) (k := 7) (v := .int x1110) (ty0 := tyX4) rfl inX4 tyX4_ok nmX4 (by decide) rfl wF_X4_42 ga0 rg_78 rfl rfl (okI (by have := i_rng x1110; omega) (by have := i_rng x1110; omega)) rfl rfl (AE_in ga0 (by decide)) dX4_either_40 (fun H1111 locsH1111 hTH1111 hSH1111 wH1111 => ?_)
          have m1114 := ex1094.trans (Wr.neI wH1111 (Or.inl (G_ne gmq ga0 (by decide)))).symm
          have m1115 := cy1095_0.trans (Wr.neR wH1111 (Or.inr (x_apart hKT hts inX4 tyX4 tyX4_ok nmX4 rfl 0 7 (by decide) (by decide) (by decide)))).symm
          have m1116 := cy1095_1.trans (Wr.neR wH1111 (Or.inr (x_apart hKT hts inX4 tyX4 tyX4_ok nmX4 rfl 3 7 (by decide) (by decide) (by decide)))).symm
          have m1117 := (Wr.neI wH1111 (Or.inl (G_ne gkq ga0 (by decide)))).trans cy1095_2
          have m1118 := Wr.I wH1111
          have m1118 := m1118.symm
          refine lv_aload_n hx hb dX4_either_43 rfl (lv_at hl1091 0 rfl) ?_
          refine lv_iload_n hx hb dX4_either_44 rfl (lv_at hl1091 1 rfl) ?_
          refine x_V (As := [.int x1]) (rest := []) C (a_X4_both_2 l K G H1111 (x1) (F) (x1110) (x1094) hTH1111 ga0 (by omega) gmq m1115 gkq m1116 m1118 m1114 m1117 (by omega) (by omega)) yo_X4_both wM_X4_128 ⟨⟨by decide, by decide⟩, by decide, by decide⟩ (x_rv C hTH1111 (ci := 4) rfl ga0 rg_78) rfl hl1091.1 rfl (Nat.le_of_ble_eq_true rfl) dX4_either_45 hSH1111 (AE_sub (fun _ _ => rfl) (by decide) hSH1111.1) (fun vH1119 H1119 locsH1119 pH1119 zH1119 kH1119 hSH1119 => ?_)
          obtain ⟨x1120, x1121, x1122, hvH1119, bx1120, ex1121, ex1122, hrH1119, m1123, m1124, hTH1119⟩ := pH1119
          subst hvH1119
          have m1125 := (fI_kept (x_lt hTH1111 kH1119 gkq (by decide))).trans m1117
          have bx1121 := ty_fi (x := x1121) (k := 7) ex1121 hTH1119 ga0 rg_78 rfl
          have bx1122 := ty_fi (x := x1122) (k := 0) ex1122 hTH1119 gmq rg_69 rfl
          refine W.eq (g2 := F0 m 48 ls1090 [.int x1120]) rfl ?_
          refine lv_if_ne (tgt := 53) hx hb dX4_either_48 (by decide) (fun c1126 => ?_) (fun c1126 => ?_)
          · have k1127 := i_ne c1126
            refine lv_aload_n hx hb dX4_either_53 rfl (lv_at hl1091 0 rfl) ?_
            refine x_gr C hTH1119 (ci := 4) (k := 0) rfl inX4 (by decide) wF_X4_12 ga0 rg_78 rfl dX4_either_54 (fun q1128 eq1128 gq1128 => ?_)
            have uq1128 : mq = q1128 := (m1123).trans eq1128.symm
            subst uq1128
            refine lv_bipush (v := 8) hx hb dX4_either_57 (by decide) ?_
            refine lv_iconst (v := 0) hx hb dX4_either_59 (by decide) ?_
            refine x_V (As := [.int 8, .int 0]) (rest := []) C (a_X7_addStep l K G H1119 (8) (0) (x1122) hTH1119 gmq ex1122) yo_X7_addStep wM_X4_131 ⟨⟨by decide, by decide⟩, by decide, by decide⟩ (x_rv C hTH1119 (ci := 7) rfl gmq rg_69) rfl hl1091.1 rfl (Nat.le_of_ble_eq_true rfl) dX4_either_60 hSH1119 (AE_sub (fun _ _ => rfl) (by decide) hSH1119.1) (fun vH1129 H1129 locsH1129 pH1129 zH1129 kH1129 hSH1129 => ?_)
            obtain ⟨x1130, hvH1129, ex1130, hrH1129, hTH1129⟩ := pH1129
            subst hvH1129
            have m1131 := (fI_kept (x_lt hTH1119 kH1129 gkq (by decide))).trans m1125
            have m1132 := (m1123).trans (fR_kept (x_lt hTH1119 kH1129 ga0 (by decide))).symm
            have m1133 := (m1124).trans (fR_kept (x_lt hTH1119 kH1129 ga0 (by decide))).symm
            have m1134 := (ex1121).trans (fI_kept (x_lt hTH1119 kH1129 ga0 (by decide))).symm
            have bx1130 := ty_fi (x := x1130) (k := 0) ex1130 hTH1129 gmq rg_69 rfl
            refine W.eq (g2 := F0 m 63 ls1090 []) rfl ?_
            obtain ⟨x1135, ex1135⟩ : ∃ y : Int32, y = x1092 + 1 := ⟨_, rfl⟩
            have tx1135 := i_add ex1135 (by omega)
            refine lv_iinc (v := x1135) (lv' := [(2, .int x1135), (0, .ref a0), (1, .int x1)]) hx hb dX4_either_63 hl1091 (k := 2) rfl (by rw [ex1135]; rfl) (by decide) rfl (fun ls1136 hl1137 => ?_)
            refine lv_goto (tgt := 12) hx hb dX4_either_66 (by decide) ?_
            exact ih12 ls1136 H1129 locsH1129 (x1135) (x1121) (x1130) (lv_sub hl1137 [1, 2, 0] rfl) hTH1129 hSH1129 (by have := i_rng x1135; omega) (by have := i_rng x1121; omega) (by have := i_rng x1130; omega) m1134 ex1130 m1132 m1133 m1131 (by omega) (by omega)
          · have k1127 := i_eq c1126
            refine lv_iconst (v := 0) hx hb dX4_either_51 (by decide) ?_
            exact x_zret C hQ (Or.inl rfl) dX4_either_52 hSH1119 (by decide) (by decide) (⟨0, x1121, x1122, rfl, by decide, ex1121, ex1122, by omega, m1123, m1124, hTH1119⟩)
  refine lv_aload_n hx hb dX4_either_0 rfl (lv_at hl 0 rfl) ?_
  refine lv_iload_n hx hb dX4_either_1 rfl (lv_at hl 1 rfl) ?_
  refine x_V (As := [.int x1]) (rest := []) C (a_X4_both_2 l K G s.heap (x1) (F) (tat) (li) hT ga0 (by omega) gmq emq gkq ekq etat eli hel0 (by omega) (by omega)) yo_X4_both wM_X4_128 ⟨⟨by decide, by decide⟩, by decide, by decide⟩ (x_rv C hT (ci := 4) rfl ga0 rg_78) rfl hl.1 rfl (Nat.le_of_ble_eq_true rfl) dX4_either_2 hS (AE_sub (fun _ _ => rfl) (by decide) hS.1) (fun vH1138 H1138 locsH1138 pH1138 zH1138 kH1138 hSH1138 => ?_)
  obtain ⟨x1139, x1140, x1141, hvH1138, bx1139, ex1140, ex1141, hrH1138, m1142, m1143, hTH1138⟩ := pH1138
  subst hvH1138
  have m1144 := (fI_kept (x_lt hT kH1138 gkq (by decide))).trans hel0
  have bx1140 := ty_fi (x := x1140) (k := 7) ex1140 hTH1138 ga0 rg_78 rfl
  have bx1141 := ty_fi (x := x1141) (k := 0) ex1141 hTH1138 gmq rg_69 rfl
  refine W.eq (g2 := F0 m 5 ls [.int x1139]) rfl ?_
  refine lv_if_ne (tgt := 10) hx hb dX4_either_5 (by decide) (fun c1145 => ?_) (fun c1145 => ?_)
  · have k1146 := i_ne c1145
    refine lv_iconst (v := 0) hx hb dX4_either_10 (by decide) ?_
    refine lv_istore_n (lv' := [(2, .int 0), (0, .ref a0), (1, .int x1)]) hx hb dX4_either_11 rfl hl (by decide) rfl (fun ls1147 hl1148 => ?_)
    exact J12 ((500 - (0 : Int32).toInt).toNat + 1) ls1147 H1138 locsH1138 (0) (x1140) (x1141) (lv_sub hl1148 [1, 2, 0] rfl) hTH1138 hSH1138 (by decide) (by have := i_rng x1140; omega) (by have := i_rng x1141; omega) ex1140 ex1141 m1142 m1143 m1144 (by omega) (by omega)
  · have k1146 := i_eq c1145
    refine lv_iconst (v := 0) hx hb dX4_either_8 (by decide) ?_
    exact x_zret C hQ (Or.inl rfl) dX4_either_9 hSH1138 (by decide) (by decide) (⟨0, x1140, x1141, rfl, by decide, ex1140, ex1141, by omega, m1142, m1143, hTH1138⟩)

set_option maxHeartbeats 4000000 in
set_option maxRecDepth 100000 in
theorem a_X4_opened_2 (l : Launch) (K : KE) (G : Nat → Option Nat) (H : Heap) {a0 : Nat} (x1 : Int32) (x2 : Int32) {mq : Nat} {kq : Nat} (F : Int32) (tat : Int32) (li : Int32) (hT : TY K G H) (ga0 : G a0 = some 78) (hx2 : 2 ≤ x2.toInt ∧ x2.toInt ≤ 8) (gmq : G mq = some 69) (emq : mq = fR H a0 (K.1.2 4 0)) (gkq : G kq = some 79) (ekq : kq = fR H a0 (K.1.2 4 3)) (etat : tat = fI H a0 (K.1.2 4 7)) (eli : li = fI H mq (K.1.2 7 0)) (hel0 : fI H kq (F : Int32).toNatClampNeg = 26) (hp0 : tat.toInt < F.toInt) (hp1 : F.toInt ≤ 500) : MX l K yX4_opened cX4_opened 3 (some .boolean) 30 669 0 0 [.ref a0, .int x1, .int x2] H (AE G [78, 69, 77] H.size) (fun v H1 => ∃ (r : Int32) (t0 : Int32) (t1 : Int32), v = some (.int r) ∧ (0 ≤ r.toInt ∧ r.toInt ≤ 1) ∧ t0 = fI H1 a0 (K.1.2 4 7) ∧ t1 = fI H1 mq (K.1.2 7 0) ∧ (t0.toInt ≤ F.toInt ∧ t1.toInt = li.toInt) ∧ mq = fR H1 a0 (K.1.2 4 0) ∧ kq = fR H1 a0 (K.1.2 4 3) ∧ TY K G H1) := by
  refine MX.of (by decide +kernel) (Nat.le_of_ble_eq_true rfl) ?_
  intro p e s m below meth c ls Q C hH hl hQ
  subst hH
  have C : CX p K s m _ meth c RX4 cX4_opened 3 (some .boolean) "opened" := C
  obtain ⟨hx, hb, hml, hown, hts, hKT, hr, hlocks, hnm⟩ := id C
  have hl : lv_has ls 3 [(0, .ref a0), (1, .int x1), (2, .int x2)] := hl
  have hS : va_S (AE G [78, 69, 77] s.heap.size) s.heap s.heap [] := va_S.rf
  have n_0 : (0 : Int32).toInt = 0 := rfl
  have n_1 : (1 : Int32).toInt = 1 := rfl
  have n_10 : (10 : Int32).toInt = 10 := rfl
  have n_26 : (26 : Int32).toInt = 26 := rfl
  have n_41 : (41 : Int32).toInt = 41 := rfl
  have btat := ty_fi (x := tat) (k := 7) etat hT ga0 rg_78 rfl
  have bli := ty_fi (x := li) (k := 0) eli hT gmq rg_69 rfl
  refine lv_aload_n hx hb dX4_opened_0 rfl (lv_at hl 0 rfl) ?_
  refine lv_dup hx hb dX4_opened_1 rfl ?_
  refine x_gi C hT (ci := 4) (k := 7) rfl inX4 (by decide) wF_X4_42 ga0 rg_78 rfl dX4_opened_2 (fun x337 ex337 bx337 => ?_)
  have ux337 : tat = x337 := (etat).trans ex337.symm
  subst ux337
  refine lv_iconst (v := 1) hx hb dX4_opened_5 (by decide) ?_
  refine lv_iadd hx hb dX4_opened_6 ?_
  refine lv_topi (fun x338 ex338 => ?_)
  have tx338 := i_add ex338 (by omega)
  have fz340 : 0 ≤ x338.toInt ∧ x338.toInt ≤ 500 := by have := i_rng x338; omega
  refine x_put C hT hS (ci := 4) (k := 7) (v := .int x338) (ty0 := tyX4) rfl inX4 tyX4_ok nmX4 (by decide) rfl wF_X4_42 ga0 rg_78 rfl rfl (okI (by have := i_rng x338; omega) (by have := i_rng x338; omega)) rfl rfl (AE_in ga0 (by decide)) dX4_opened_7 (fun H339 locsH339 hTH339 hSH339 wH339 => ?_)
  have m341 := emq.trans (Wr.neR wH339 (Or.inr (x_apart hKT hts inX4 tyX4 tyX4_ok nmX4 rfl 0 7 (by decide) (by decide) (by decide)))).symm
  have m342 := ekq.trans (Wr.neR wH339 (Or.inr (x_apart hKT hts inX4 tyX4 tyX4_ok nmX4 rfl 3 7 (by decide) (by decide) (by decide)))).symm
  have m344 := eli.trans (Wr.neI wH339 (Or.inl (G_ne gmq ga0 (by decide)))).symm
  have m345 := (Wr.neI wH339 (Or.inl (G_ne gkq ga0 (by decide)))).trans hel0
  have m346 := Wr.I wH339
  have m346 := m346.symm
  refine lv_iload_n hx hb dX4_opened_10 rfl (lv_at hl 1 rfl) ?_
  refine lv_bipush (v := 10) hx hb dX4_opened_11 (by decide) ?_
  refine lv_icmp_ne (tgt := 38) hx hb dX4_opened_13 (by decide) (fun c347 => ?_) (fun c347 => ?_)
  · have k348 := i_ne c347
    refine lv_aload_n hx hb dX4_opened_38 rfl (lv_at hl 0 rfl) ?_
    refine lv_iload_n hx hb dX4_opened_39 rfl (lv_at hl 2 rfl) ?_
    refine x_V (As := [.int x2]) (rest := []) C (a_X4_either_2 l K G H339 (x2) (F) (x338) (li) hTH339 ga0 (by omega) gmq m341 gkq m342 m346 m344 m345 (by omega) (by omega)) yo_X4_either wM_X4_113 ⟨⟨by decide, by decide⟩, by decide, by decide⟩ (x_rv C hTH339 (ci := 4) rfl ga0 rg_78) rfl hl.1 rfl (Nat.le_of_ble_eq_true rfl) dX4_opened_40 hSH339 (AE_sub (fun _ _ => rfl) (by decide) hSH339.1) (fun vH349 H349 locsH349 pH349 zH349 kH349 hSH349 => ?_)
    obtain ⟨x350, x351, x352, hvH349, bx350, ex351, ex352, hrH349, m353, m354, hTH349⟩ := pH349
    subst hvH349
    have m355 := (fI_kept (x_lt hTH339 kH349 gkq (by decide))).trans m345
    have bx351 := ty_fi (x := x351) (k := 7) ex351 hTH349 ga0 rg_78 rfl
    have bx352 := ty_fi (x := x352) (k := 0) ex352 hTH349 gmq rg_69 rfl
    refine W.eq (g2 := F0 m 43 ls [.int x350]) rfl ?_
    refine lv_if_ne (tgt := 48) hx hb dX4_opened_43 (by decide) (fun c356 => ?_) (fun c356 => ?_)
    · have k357 := i_ne c356
      refine lv_aload_n hx hb dX4_opened_48 rfl (lv_at hl 0 rfl) ?_
      refine x_gr C hTH349 (ci := 4) (k := 3) rfl inX4 (by decide) wF_X4_18 ga0 rg_78 rfl dX4_opened_49 (fun q358 eq358 gq358 => ?_)
      have uq358 : kq = q358 := (m354).trans eq358.symm
      subst uq358
      refine lv_aload_n hx hb dX4_opened_52 rfl (lv_at hl 0 rfl) ?_
      refine x_gi C hTH349 (ci := 4) (k := 7) rfl inX4 (by decide) wF_X4_42 ga0 rg_78 rfl dX4_opened_53 (fun x359 ex359 bx359 => ?_)
      have ux359 : x351 = x359 := (ex351).trans ex359.symm
      subst ux359
      refine x_ai C hTH349 gkq rg_79 ⟨by omega, by show _ < ((501 : Nat) : Int); omega⟩ dX4_opened_56 (fun x360 ex360 bx360 => ?_)
      have dx360 := el_hit ex360 m355
      refine lv_bipush (v := 41) hx hb dX4_opened_57 (by decide) ?_
      refine lv_icmp_eq (tgt := 68) hx hb dX4_opened_59 (by decide) (fun c361 => ?_) (fun c361 => ?_)
      · have k362 := i_eq c361
        refine lv_aload_n hx hb dX4_opened_68 rfl (lv_at hl 0 rfl) ?_
        refine lv_dup hx hb dX4_opened_69 rfl ?_
        refine x_gi C hTH349 (ci := 4) (k := 7) rfl inX4 (by decide) wF_X4_42 ga0 rg_78 rfl dX4_opened_70 (fun x363 ex363 bx363 => ?_)
        have ux363 : x351 = x363 := (ex351).trans ex363.symm
        subst ux363
        refine lv_iconst (v := 1) hx hb dX4_opened_73 (by decide) ?_
        refine lv_iadd hx hb dX4_opened_74 ?_
        refine lv_topi (fun x364 ex364 => ?_)
        have tx364 := i_add ex364 (by omega)
        have fz366 : 0 ≤ x364.toInt ∧ x364.toInt ≤ 500 := by have := i_rng x364; omega
        refine x_put C hTH349 hSH349 (ci := 4) (k := 7) (v := .int x364) (ty0 := tyX4) rfl inX4 tyX4_ok nmX4 (by decide) rfl wF_X4_42 ga0 rg_78 rfl rfl (okI (by have := i_rng x364; omega) (by have := i_rng x364; omega)) rfl rfl (AE_in ga0 (by decide)) dX4_opened_75 (fun H365 locsH365 hTH365 hSH365 wH365 => ?_)
        have m367 := (Wr.neI wH365 (Or.inl (G_ne gkq ga0 (by decide)))).trans m355
        have m368 := m353.trans (Wr.neR wH365 (Or.inr (x_apart hKT hts inX4 tyX4 tyX4_ok nmX4 rfl 0 7 (by decide) (by decide) (by decide)))).symm
        have m369 := m354.trans (Wr.neR wH365 (Or.inr (x_apart hKT hts inX4 tyX4 tyX4_ok nmX4 rfl 3 7 (by decide) (by decide) (by decide)))).symm
        have m371 := ex352.trans (Wr.neI wH365 (Or.inl (G_ne gmq ga0 (by decide)))).symm
        have m372 := Wr.I wH365
        have m372 := m372.symm
        refine lv_iconst (v := 1) hx hb dX4_opened_78 (by decide) ?_
        exact x_zret C hQ (Or.inr rfl) dX4_opened_79 hSH365 (by decide) (by decide) (⟨1, x364, x352, rfl, by decide, m372, m371, by omega, m368, m369, hTH365⟩)
      · have k362 := i_ne c361
        refine lv_aload_n hx hb dX4_opened_62 rfl (lv_at hl 0 rfl) ?_
        refine lv_iconst (v := 1) hx hb dX4_opened_63 (by decide) ?_
        refine x_V (As := [.int 1]) (rest := []) C (a_X4_refuse l K G H349 (1) (x351) hTH349 ga0 gmq m353 gkq m354 ex351) yo_X4_refuse wM_X4_81 ⟨⟨by decide, by decide⟩, by decide, by decide⟩ (x_rv C hTH349 (ci := 4) rfl ga0 rg_78) rfl hl.1 rfl (Nat.le_of_ble_eq_true rfl) dX4_opened_64 hSH349 (AE_sub (fun _ _ => rfl) (by decide) hSH349.1) (fun vH373 H373 locsH373 pH373 zH373 kH373 hSH373 => ?_)
        obtain ⟨x374, x375, hvH373, bx374, ex375, hrH373, m376, m377, hTH373⟩ := pH373
        subst hvH373
        have m378 := (fI_kept (x_lt hTH349 kH373 gkq (by decide))).trans m355
        have m379 := (ex352).trans (fI_kept (x_lt hTH349 kH373 gmq (by decide))).symm
        have bx375 := ty_fi (x := x375) (k := 7) ex375 hTH373 ga0 rg_78 rfl
        refine W.eq (g2 := F0 m 67 ls [.int x374]) rfl ?_
        exact x_zret C hQ (i_01 (by omega)) dX4_opened_67 hSH373 (by decide) (by decide) (⟨x374, x375, x352, rfl, by omega, ex375, m379, by omega, m376, m377, hTH373⟩)
    · have k357 := i_eq c356
      refine lv_iconst (v := 0) hx hb dX4_opened_46 (by decide) ?_
      exact x_zret C hQ (Or.inl rfl) dX4_opened_47 hSH349 (by decide) (by decide) (⟨0, x351, x352, rfl, by decide, ex351, ex352, by omega, m353, m354, hTH349⟩)
  · have k348 := i_eq c347
    refine lv_aload_n hx hb dX4_opened_16 rfl (lv_at hl 0 rfl) ?_
    refine lv_iload_n hx hb dX4_opened_17 rfl (lv_at hl 2 rfl) ?_
    refine x_V (As := [.int x2]) (rest := []) C (a_X4_part_2 l K G H339 (x2) (F) (x338) (li) hTH339 ga0 (by omega) gmq m341 gkq m342 m346 m344 m345 (by omega) (by omega)) yo_X4_part wM_X4_135 ⟨⟨by decide, by decide⟩, by decide, by decide⟩ (x_rv C hTH339 (ci := 4) rfl ga0 rg_78) rfl hl.1 rfl (Nat.le_of_ble_eq_true rfl) dX4_opened_18 hSH339 (AE_sub (fun _ _ => rfl) (by decide) hSH339.1) (fun vH380 H380 locsH380 pH380 zH380 kH380 hSH380 => ?_)
    obtain ⟨x381, x382, x383, hvH380, bx381, ex382, ex383, hrH380, m384, m385, hTH380⟩ := pH380
    subst hvH380
    have m386 := (fI_kept (x_lt hTH339 kH380 gkq (by decide))).trans m345
    have bx382 := ty_fi (x := x382) (k := 7) ex382 hTH380 ga0 rg_78 rfl
    have bx383 := ty_fi (x := x383) (k := 0) ex383 hTH380 gmq rg_69 rfl
    refine W.eq (g2 := F0 m 21 ls [.int x381]) rfl ?_
    refine lv_if_ne (tgt := 26) hx hb dX4_opened_21 (by decide) (fun c387 => ?_) (fun c387 => ?_)
    · have k388 := i_ne c387
      refine lv_aload_n hx hb dX4_opened_26 rfl (lv_at hl 0 rfl) ?_
      refine x_gr C hTH380 (ci := 4) (k := 0) rfl inX4 (by decide) wF_X4_12 ga0 rg_78 rfl dX4_opened_27 (fun q389 eq389 gq389 => ?_)
      have uq389 : mq = q389 := (m384).trans eq389.symm
      subst uq389
      refine lv_bipush (v := 10) hx hb dX4_opened_30 (by decide) ?_
      refine lv_iconst (v := 0) hx hb dX4_opened_32 (by decide) ?_
      refine x_V (As := [.int 10, .int 0]) (rest := []) C (a_X7_addStep l K G H380 (10) (0) (x383) hTH380 gmq ex383) yo_X7_addStep wM_X4_131 ⟨⟨by decide, by decide⟩, by decide, by decide⟩ (x_rv C hTH380 (ci := 7) rfl gmq rg_69) rfl hl.1 rfl (Nat.le_of_ble_eq_true rfl) dX4_opened_33 hSH380 (AE_sub (fun _ _ => rfl) (by decide) hSH380.1) (fun vH390 H390 locsH390 pH390 zH390 kH390 hSH390 => ?_)
      obtain ⟨x391, hvH390, ex391, hrH390, hTH390⟩ := pH390
      subst hvH390
      have m392 := (fI_kept (x_lt hTH380 kH390 gkq (by decide))).trans m386
      have m393 := (m384).trans (fR_kept (x_lt hTH380 kH390 ga0 (by decide))).symm
      have m394 := (m385).trans (fR_kept (x_lt hTH380 kH390 ga0 (by decide))).symm
      have m395 := (ex382).trans (fI_kept (x_lt hTH380 kH390 ga0 (by decide))).symm
      have bx391 := ty_fi (x := x391) (k := 0) ex391 hTH390 gmq rg_69 rfl
      refine W.eq (g2 := F0 m 36 ls []) rfl ?_
      refine lv_iconst (v := 1) hx hb dX4_opened_36 (by decide) ?_
      exact x_zret C hQ (Or.inr rfl) dX4_opened_37 hSH390 (by decide) (by decide) (⟨1, x382, x391, rfl, by decide, m395, ex391, by omega, m393, m394, hTH390⟩)
    · have k388 := i_eq c387
      refine lv_iconst (v := 0) hx hb dX4_opened_24 (by decide) ?_
      exact x_zret C hQ (Or.inl rfl) dX4_opened_25 hSH380 (by decide) (by decide) (⟨0, x382, x383, rfl, by decide, ex382, ex383, by omega, m384, m385, hTH380⟩)

set_option maxHeartbeats 4000000 in
set_option maxRecDepth 100000 in
theorem a_X4_part_1 (l : Launch) (K : KE) (G : Nat → Option Nat) (H : Heap) {a0 : Nat} (x1 : Int32) {mq : Nat} {kq : Nat} (F : Int32) (tat : Int32) (li : Int32) (hT : TY K G H) (ga0 : G a0 = some 78) (hx1 : 1 ≤ x1.toInt ∧ x1.toInt ≤ 8) (gmq : G mq = some 69) (emq : mq = fR H a0 (K.1.2 4 0)) (gkq : G kq = some 79) (ekq : kq = fR H a0 (K.1.2 4 3)) (etat : tat = fI H a0 (K.1.2 4 7)) (eli : li = fI H mq (K.1.2 7 0)) (hel0 : fI H kq (F : Int32).toNatClampNeg = 26) (hp0 : tat.toInt ≤ F.toInt) (hp1 : F.toInt ≤ 500) : MX l K yX4_part cX4_part 4 (some .boolean) 31 691 0 0 [.ref a0, .int x1] H (AE G [78, 69, 77] H.size) (fun v H1 => ∃ (r : Int32) (t0 : Int32) (t1 : Int32), v = some (.int r) ∧ (0 ≤ r.toInt ∧ r.toInt ≤ 1) ∧ t0 = fI H1 a0 (K.1.2 4 7) ∧ t1 = fI H1 mq (K.1.2 7 0) ∧ (t0.toInt ≤ F.toInt ∧ t1.toInt = li.toInt) ∧ mq = fR H1 a0 (K.1.2 4 0) ∧ kq = fR H1 a0 (K.1.2 4 3) ∧ TY K G H1) := by
  refine MX.of (by decide +kernel) (Nat.le_of_ble_eq_true rfl) ?_
  intro p e s m below meth c ls Q C hH hl hQ
  subst hH
  have C : CX p K s m _ meth c RX4 cX4_part 4 (some .boolean) "part" := C
  obtain ⟨hx, hb, hml, hown, hts, hKT, hr, hlocks, hnm⟩ := id C
  have hl : lv_has ls 4 [(0, .ref a0), (1, .int x1)] := hl
  have hS : va_S (AE G [78, 69, 77] s.heap.size) s.heap s.heap [] := va_S.rf
  have n_0 : (0 : Int32).toInt = 0 := rfl
  have n_1 : (1 : Int32).toInt = 1 := rfl
  have n_3 : (3 : Int32).toInt = 3 := rfl
  have n_8 : (8 : Int32).toInt = 8 := rfl
  have n_10 : (10 : Int32).toInt = 10 := rfl
  have n_26 : (26 : Int32).toInt = 26 := rfl
  have n_40 : (40 : Int32).toInt = 40 := rfl
  have n_60 : (60 : Int32).toInt = 60 := rfl
  have n_61 : (61 : Int32).toInt = 61 := rfl
  have n_62 : (62 : Int32).toInt = 62 := rfl
  have btat := ty_fi (x := tat) (k := 7) etat hT ga0 rg_78 rfl
  have bli := ty_fi (x := li) (k := 0) eli hT gmq rg_69 rfl
  have J22 : ∀ (ls535 : Array Slot) (H534 : Heap) (locsH534 : List Loc) (x537 : Int32) (x538 : Int32) (x539 : Int32), lv_has ls535 4 [(0, .ref a0), (1, .int x1), (2, .int x537)] → TY K G H534 → va_S (AE G [78, 69, 77] s.heap.size) s.heap H534 locsH534 → (10 ≤ x537.toInt ∧ x537.toInt ≤ 40) → (0 ≤ x538.toInt ∧ x538.toInt ≤ 500) → (0 ≤ x539.toInt ∧ x539.toInt ≤ 16) → (x538 = fI H534 a0 (K.1.2 4 7)) → (x539 = fI H534 mq (K.1.2 7 0)) → (mq = fR H534 a0 (K.1.2 4 0)) → (kq = fR H534 a0 (K.1.2 4 3)) → (fI H534 kq (F : Int32).toNatClampNeg = 26) → (x538.toInt < F.toInt ∧ x538.toInt ≤ F.toInt ∧ x539.toInt = li.toInt) → W p l e ({ frames := 31, cells := 0, slots := 0, locals := 691 } : Room) s m (([.ref a0, .int x1] : List Value).toArray) below meth c H534 locsH534 0 0 Q (F0 m 22 ls535 []) := by
    intro ls535 H534 locsH534 x537 x538 x539 hl536 hTH534 hSH534 bx537 bx538 bx539 ex538 ex539 cy540_0 cy540_1 cy540_2 iv22
    have J44 : ∀ (ls542 : Array Slot) (H541 : Heap) (locsH541 : List Loc) (x544 : Int32) (x545 : Int32) (x546 : Int32), lv_has ls542 4 [] → TY K G H541 → va_S (AE G [78, 69, 77] s.heap.size) s.heap H541 locsH541 → (0 ≤ x544.toInt ∧ x544.toInt ≤ 1) → (0 ≤ x545.toInt ∧ x545.toInt ≤ 500) → (0 ≤ x546.toInt ∧ x546.toInt ≤ 16) → (x545 = fI H541 a0 (K.1.2 4 7)) → (x546 = fI H541 mq (K.1.2 7 0)) → (mq = fR H541 a0 (K.1.2 4 0)) → (kq = fR H541 a0 (K.1.2 4 3)) → (fI H541 kq (F : Int32).toNatClampNeg = 26) → (x545.toInt ≤ F.toInt ∧ x546.toInt = li.toInt) → W p l e ({ frames := 31, cells := 0, slots := 0, locals := 691 } : Room) s m (([.ref a0, .int x1] : List Value).toArray) below meth c H541 locsH541 0 0 Q (F0 m 44 ls542 [.int x544]) := by
      intro ls542 H541 locsH541 x544 x545 x546 hl543 hTH541 hSH541 bx544 bx545 bx546 ex545 ex546 cy547_0 cy547_1 cy547_2 iv44
      exact x_zret C hQ (i_01 (by omega)) dX4_part_44 hSH541 (by decide) (by decide) (⟨x544, x545, x546, rfl, by omega, ex545, ex546, by omega, cy547_0, cy547_1, hTH541⟩)
    refine lv_iload_n hx hb dX4_part_22 rfl (lv_at hl536 1 rfl) ?_
    refine lv_bipush (v := 8) hx hb dX4_part_23 (by decide) ?_
    refine lv_icmp_ge (tgt := 39) hx hb dX4_part_25 (by decide) (fun c548 => ?_) (fun c548 => ?_)
    · have k549 := i_le c548
      refine lv_aload_n hx hb dX4_part_39 rfl (lv_at hl536 0 rfl) ?_
      refine lv_iconst (v := 3) hx hb dX4_part_40 (by decide) ?_
      refine x_V (As := [.int 3]) (rest := []) C (a_X4_refuse l K G H534 (3) (x538) hTH534 ga0 gmq cy540_0 gkq cy540_1 ex538) yo_X4_refuse wM_X4_81 ⟨⟨by decide, by decide⟩, by decide, by decide⟩ (x_rv C hTH534 (ci := 4) rfl ga0 rg_78) rfl hl536.1 rfl (Nat.le_of_ble_eq_true rfl) dX4_part_41 hSH534 (AE_sub (fun _ _ => rfl) (by decide) hSH534.1) (fun vH550 H550 locsH550 pH550 zH550 kH550 hSH550 => ?_)
      obtain ⟨x551, x552, hvH550, bx551, ex552, hrH550, m553, m554, hTH550⟩ := pH550
      subst hvH550
      have m555 := (ex539).trans (fI_kept (x_lt hTH534 kH550 gmq (by decide))).symm
      have m556 := (fI_kept (x_lt hTH534 kH550 gkq (by decide))).trans cy540_2
      have bx552 := ty_fi (x := x552) (k := 7) ex552 hTH550 ga0 rg_78 rfl
      refine W.eq (g2 := F0 m 44 ls535 [.int x551]) rfl ?_
      exact J44 ls535 H550 locsH550 (x551) (x552) (x539) (lv_sub hl536 [] rfl) hTH550 hSH550 (by have := i_rng x551; omega) (by have := i_rng x552; omega) (by have := i_rng x539; omega) ex552 m555 m553 m554 m556 (by omega)
    · have k549 := i_nle c548
      refine lv_aload_n hx hb dX4_part_28 rfl (lv_at hl536 0 rfl) ?_
      refine lv_iload_n hx hb dX4_part_29 rfl (lv_at hl536 2 rfl) ?_
      refine lv_iload_n hx hb dX4_part_30 rfl (lv_at hl536 1 rfl) ?_
      refine lv_iconst (v := 1) hx hb dX4_part_31 (by decide) ?_
      refine lv_iadd hx hb dX4_part_32 ?_
      refine lv_topi (fun x557 ex557 => ?_)
      have tx557 := i_add ex557 (by omega)
      refine x_V (As := [.int x537, .int x557]) (rest := []) C (a_X4_opened_2 l K G H534 (x537) (x557) (F) (x538) (x539) hTH534 ga0 (by omega) gmq cy540_0 gkq cy540_1 ex538 ex539 cy540_2 (by omega) (by omega)) yo_X4_opened wM_X4_138 ⟨⟨by decide, by decide⟩, by decide, by decide⟩ (x_rv C hTH534 (ci := 4) rfl ga0 rg_78) rfl hl536.1 rfl (Nat.le_of_ble_eq_true rfl) dX4_part_33 hSH534 (AE_sub (fun _ _ => rfl) (by decide) hSH534.1) (fun vH558 H558 locsH558 pH558 zH558 kH558 hSH558 => ?_)
      obtain ⟨x559, x560, x561, hvH558, bx559, ex560, ex561, hrH558, m562, m563, hTH558⟩ := pH558
      subst hvH558
      have m564 := (fI_kept (x_lt hTH534 kH558 gkq (by decide))).trans cy540_2
      have bx560 := ty_fi (x := x560) (k := 7) ex560 hTH558 ga0 rg_78 rfl
      have bx561 := ty_fi (x := x561) (k := 0) ex561 hTH558 gmq rg_69 rfl
      refine W.eq (g2 := F0 m 36 ls535 [.int x559]) rfl ?_
      refine lv_goto (tgt := 44) hx hb dX4_part_36 (by decide) ?_
      exact J44 ls535 H558 locsH558 (x559) (x560) (x561) (lv_sub hl536 [] rfl) hTH558 hSH558 (by have := i_rng x559; omega) (by have := i_rng x560; omega) (by have := i_rng x561; omega) ex560 ex561 m562 m563 m564 (by omega)
  have J88 : ∀ (ls566 : Array Slot) (H565 : Heap) (locsH565 : List Loc) (x568 : Int32) (x569 : Int32) (x570 : Int32), lv_has ls566 4 [(0, .ref a0), (3, .int x568)] → TY K G H565 → va_S (AE G [78, 69, 77] s.heap.size) s.heap H565 locsH565 → (60 ≤ x568.toInt ∧ x568.toInt ≤ 62) → (0 ≤ x569.toInt ∧ x569.toInt ≤ 500) → (0 ≤ x570.toInt ∧ x570.toInt ≤ 16) → (x569 = fI H565 a0 (K.1.2 4 7)) → (x570 = fI H565 mq (K.1.2 7 0)) → (mq = fR H565 a0 (K.1.2 4 0)) → (kq = fR H565 a0 (K.1.2 4 3)) → (fI H565 kq (F : Int32).toNatClampNeg = 26) → (x569.toInt < F.toInt ∧ x569.toInt ≤ F.toInt ∧ x570.toInt = li.toInt) → W p l e ({ frames := 31, cells := 0, slots := 0, locals := 691 } : Room) s m (([.ref a0, .int x1] : List Value).toArray) below meth c H565 locsH565 0 0 Q (F0 m 88 ls566 []) := by
    intro ls566 H565 locsH565 x568 x569 x570 hl567 hTH565 hSH565 bx568 bx569 bx570 ex569 ex570 cy571_0 cy571_1 cy571_2 iv88
    refine lv_aload_n hx hb dX4_part_88 rfl (lv_at hl567 0 rfl) ?_
    refine lv_dup hx hb dX4_part_89 rfl ?_
    refine x_gi C hTH565 (ci := 4) (k := 7) rfl inX4 (by decide) wF_X4_42 ga0 rg_78 rfl dX4_part_90 (fun x572 ex572 bx572 => ?_)
    have ux572 : x569 = x572 := (ex569).trans ex572.symm
    subst ux572
    refine lv_iconst (v := 1) hx hb dX4_part_93 (by decide) ?_
    refine lv_iadd hx hb dX4_part_94 ?_
    refine lv_topi (fun x573 ex573 => ?_)
    have tx573 := i_add ex573 (by omega)
    have fz575 : 0 ≤ x573.toInt ∧ x573.toInt ≤ 500 := by have := i_rng x573; omega
    refine x_put C hTH565 hSH565 (ci := 4) (k := 7) (v := .int x573) (ty0 := tyX4) rfl inX4 tyX4_ok nmX4 (by decide) rfl wF_X4_42 ga0 rg_78 rfl rfl (okI (by have := i_rng x573; omega) (by have := i_rng x573; omega)) rfl rfl (AE_in ga0 (by decide)) dX4_part_95 (fun H574 locsH574 hTH574 hSH574 wH574 => ?_)
    have m577 := ex570.trans (Wr.neI wH574 (Or.inl (G_ne gmq ga0 (by decide)))).symm
    have m578 := cy571_0.trans (Wr.neR wH574 (Or.inr (x_apart hKT hts inX4 tyX4 tyX4_ok nmX4 rfl 0 7 (by decide) (by decide) (by decide)))).symm
    have m579 := cy571_1.trans (Wr.neR wH574 (Or.inr (x_apart hKT hts inX4 tyX4 tyX4_ok nmX4 rfl 3 7 (by decide) (by decide) (by decide)))).symm
    have m580 := (Wr.neI wH574 (Or.inl (G_ne gkq ga0 (by decide)))).trans cy571_2
    have m581 := Wr.I wH574
    have m581 := m581.symm
    refine lv_aload_n hx hb dX4_part_98 rfl (lv_at hl567 0 rfl) ?_
    refine x_V (As := []) (rest := []) C (a_X4_sum l K G H574 (F) (x573) (x570) hTH574 ga0 gmq m578 gkq m579 m581 m577 m580 (by omega) (by omega)) yo_X4_sum wM_X4_103 ⟨⟨by decide, by decide⟩, by decide, by decide⟩ (x_rv C hTH574 (ci := 4) rfl ga0 rg_78) rfl hl567.1 rfl (Nat.le_of_ble_eq_true rfl) dX4_part_99 hSH574 (AE_sub (fun _ _ => rfl) (by decide) hSH574.1) (fun vH582 H582 locsH582 pH582 zH582 kH582 hSH582 => ?_)
    obtain ⟨x583, x584, x585, hvH582, bx583, ex584, ex585, hrH582, m586, m587, hTH582⟩ := pH582
    subst hvH582
    have m588 := (fI_kept (x_lt hTH574 kH582 gkq (by decide))).trans m580
    have bx584 := ty_fi (x := x584) (k := 7) ex584 hTH582 ga0 rg_78 rfl
    have bx585 := ty_fi (x := x585) (k := 0) ex585 hTH582 gmq rg_69 rfl
    refine W.eq (g2 := F0 m 102 ls566 [.int x583]) rfl ?_
    refine lv_if_ne (tgt := 107) hx hb dX4_part_102 (by decide) (fun c589 => ?_) (fun c589 => ?_)
    · have k590 := i_ne c589
      refine lv_aload_n hx hb dX4_part_107 rfl (lv_at hl567 0 rfl) ?_
      refine x_gr C hTH582 (ci := 4) (k := 0) rfl inX4 (by decide) wF_X4_12 ga0 rg_78 rfl dX4_part_108 (fun q591 eq591 gq591 => ?_)
      have uq591 : mq = q591 := (m586).trans eq591.symm
      subst uq591
      refine lv_iload_n hx hb dX4_part_111 rfl (lv_at hl567 1 rfl) ?_
      refine lv_iconst (v := 0) hx hb dX4_part_112 (by decide) ?_
      refine x_V (As := [.int x568, .int 0]) (rest := []) C (a_X7_addStep l K G H582 (x568) (0) (x585) hTH582 gmq ex585) yo_X7_addStep wM_X4_131 ⟨⟨by decide, by decide⟩, by decide, by decide⟩ (x_rv C hTH582 (ci := 7) rfl gmq rg_69) rfl hl567.1 rfl (Nat.le_of_ble_eq_true rfl) dX4_part_113 hSH582 (AE_sub (fun _ _ => rfl) (by decide) hSH582.1) (fun vH592 H592 locsH592 pH592 zH592 kH592 hSH592 => ?_)
      obtain ⟨x593, hvH592, ex593, hrH592, hTH592⟩ := pH592
      subst hvH592
      have m594 := (fI_kept (x_lt hTH582 kH592 gkq (by decide))).trans m588
      have m595 := (m586).trans (fR_kept (x_lt hTH582 kH592 ga0 (by decide))).symm
      have m596 := (m587).trans (fR_kept (x_lt hTH582 kH592 ga0 (by decide))).symm
      have m597 := (ex584).trans (fI_kept (x_lt hTH582 kH592 ga0 (by decide))).symm
      have bx593 := ty_fi (x := x593) (k := 0) ex593 hTH592 gmq rg_69 rfl
      refine W.eq (g2 := F0 m 116 ls566 []) rfl ?_
      refine lv_iconst (v := 1) hx hb dX4_part_116 (by decide) ?_
      exact x_zret C hQ (Or.inr rfl) dX4_part_117 hSH592 (by decide) (by decide) (⟨1, x584, x593, rfl, by decide, m597, ex593, by omega, m595, m596, hTH592⟩)
    · have k590 := i_eq c589
      refine lv_iconst (v := 0) hx hb dX4_part_105 (by decide) ?_
      exact x_zret C hQ (Or.inl rfl) dX4_part_106 hSH582 (by decide) (by decide) (⟨0, x584, x585, rfl, by decide, ex584, ex585, by omega, m586, m587, hTH582⟩)
  refine lv_aload_n hx hb dX4_part_0 rfl (lv_at hl 0 rfl) ?_
  refine x_gr C hT (ci := 4) (k := 3) rfl inX4 (by decide) wF_X4_18 ga0 rg_78 rfl dX4_part_1 (fun q598 eq598 gq598 => ?_)
  have uq598 : kq = q598 := (ekq).trans eq598.symm
  subst uq598
  refine lv_aload_n hx hb dX4_part_4 rfl (lv_at hl 0 rfl) ?_
  refine x_gi C hT (ci := 4) (k := 7) rfl inX4 (by decide) wF_X4_42 ga0 rg_78 rfl dX4_part_5 (fun x599 ex599 bx599 => ?_)
  have ux599 : tat = x599 := (etat).trans ex599.symm
  subst ux599
  refine x_ai C hT gkq rg_79 ⟨by omega, by show _ < ((501 : Nat) : Int); omega⟩ dX4_part_8 (fun x600 ex600 bx600 => ?_)
  have dx600 := el_hit ex600 hel0
  refine lv_istore_n (lv' := [(2, .int x600), (0, .ref a0), (1, .int x1)]) hx hb dX4_part_9 rfl hl (by decide) rfl (fun ls601 hl602 => ?_)
  refine lv_iload_n hx hb dX4_part_10 rfl (lv_at hl602 0 rfl) ?_
  refine lv_bipush (v := 10) hx hb dX4_part_11 (by decide) ?_
  refine lv_icmp_eq (tgt := 22) hx hb dX4_part_13 (by decide) (fun c603 => ?_) (fun c603 => ?_)
  · have k604 := i_eq c603
    exact J22 ls601 s.heap [] (x600) (tat) (li) (lv_sub hl602 [1, 2, 0] rfl) hT hS (by have := i_rng x600; omega) (by have := i_rng tat; omega) (by have := i_rng li; omega) etat eli emq ekq hel0 (by omega)
  · have k604 := i_ne c603
    refine lv_iload_n hx hb dX4_part_16 rfl (lv_at hl602 0 rfl) ?_
    refine lv_bipush (v := 40) hx hb dX4_part_17 (by decide) ?_
    refine lv_icmp_ne (tgt := 45) hx hb dX4_part_19 (by decide) (fun c605 => ?_) (fun c605 => ?_)
    · have k606 := i_ne c605
      refine lv_aload_n hx hb dX4_part_45 rfl (lv_at hl602 1 rfl) ?_
      refine x_V (As := []) (rest := []) C (a_X4_sum l K G s.heap (F) (tat) (li) hT ga0 gmq emq gkq ekq etat eli hel0 (by omega) (by omega)) yo_X4_sum wM_X4_103 ⟨⟨by decide, by decide⟩, by decide, by decide⟩ (x_rv C hT (ci := 4) rfl ga0 rg_78) rfl hl602.1 rfl (Nat.le_of_ble_eq_true rfl) dX4_part_46 hS (AE_sub (fun _ _ => rfl) (by decide) hS.1) (fun vH607 H607 locsH607 pH607 zH607 kH607 hSH607 => ?_)
      obtain ⟨x608, x609, x610, hvH607, bx608, ex609, ex610, hrH607, m611, m612, hTH607⟩ := pH607
      subst hvH607
      have m613 := (fI_kept (x_lt hT kH607 gkq (by decide))).trans hel0
      have bx609 := ty_fi (x := x609) (k := 7) ex609 hTH607 ga0 rg_78 rfl
      have bx610 := ty_fi (x := x610) (k := 0) ex610 hTH607 gmq rg_69 rfl
      refine W.eq (g2 := F0 m 49 ls601 [.int x608]) rfl ?_
      refine lv_if_ne (tgt := 54) hx hb dX4_part_49 (by decide) (fun c614 => ?_) (fun c614 => ?_)
      · have k615 := i_ne c614
        refine lv_aload_n hx hb dX4_part_54 rfl (lv_at hl602 1 rfl) ?_
        refine x_gr C hTH607 (ci := 4) (k := 3) rfl inX4 (by decide) wF_X4_18 ga0 rg_78 rfl dX4_part_55 (fun q616 eq616 gq616 => ?_)
        have uq616 : kq = q616 := (m612).trans eq616.symm
        subst uq616
        refine lv_aload_n hx hb dX4_part_58 rfl (lv_at hl602 1 rfl) ?_
        refine x_gi C hTH607 (ci := 4) (k := 7) rfl inX4 (by decide) wF_X4_42 ga0 rg_78 rfl dX4_part_59 (fun x617 ex617 bx617 => ?_)
        have ux617 : x609 = x617 := (ex609).trans ex617.symm
        subst ux617
        refine x_ai C hTH607 gkq rg_79 ⟨by omega, by show _ < ((501 : Nat) : Int); omega⟩ dX4_part_62 (fun x618 ex618 bx618 => ?_)
        have dx618 := el_hit ex618 m613
        refine lv_istore_n (lv' := [(3, .int x618), (2, .int x600), (0, .ref a0), (1, .int x1)]) hx hb dX4_part_63 rfl hl602 (by decide) rfl (fun ls619 hl620 => ?_)
        refine lv_iload_n hx hb dX4_part_64 rfl (lv_at hl620 0 rfl) ?_
        refine lv_bipush (v := 60) hx hb dX4_part_65 (by decide) ?_
        refine lv_icmp_eq (tgt := 88) hx hb dX4_part_67 (by decide) (fun c621 => ?_) (fun c621 => ?_)
        · have k622 := i_eq c621
          exact J88 ls619 H607 locsH607 (x618) (x609) (x610) (lv_sub hl620 [2, 0] rfl) hTH607 hSH607 (by have := i_rng x618; omega) (by have := i_rng x609; omega) (by have := i_rng x610; omega) ex609 ex610 m611 m612 m613 (by omega)
        · have k622 := i_ne c621
          refine lv_iload_n hx hb dX4_part_70 rfl (lv_at hl620 0 rfl) ?_
          refine lv_bipush (v := 61) hx hb dX4_part_71 (by decide) ?_
          refine lv_icmp_eq (tgt := 88) hx hb dX4_part_73 (by decide) (fun c623 => ?_) (fun c623 => ?_)
          · have k624 := i_eq c623
            exact J88 ls619 H607 locsH607 (x618) (x609) (x610) (lv_sub hl620 [2, 0] rfl) hTH607 hSH607 (by have := i_rng x618; omega) (by have := i_rng x609; omega) (by have := i_rng x610; omega) ex609 ex610 m611 m612 m613 (by omega)
          · have k624 := i_ne c623
            refine lv_iload_n hx hb dX4_part_76 rfl (lv_at hl620 0 rfl) ?_
            refine lv_bipush (v := 62) hx hb dX4_part_77 (by decide) ?_
            refine lv_icmp_eq (tgt := 88) hx hb dX4_part_79 (by decide) (fun c625 => ?_) (fun c625 => ?_)
            · have k626 := i_eq c625
              exact J88 ls619 H607 locsH607 (x618) (x609) (x610) (lv_sub hl620 [2, 0] rfl) hTH607 hSH607 (by have := i_rng x618; omega) (by have := i_rng x609; omega) (by have := i_rng x610; omega) ex609 ex610 m611 m612 m613 (by omega)
            · have k626 := i_ne c625
              refine lv_aload_n hx hb dX4_part_82 rfl (lv_at hl620 2 rfl) ?_
              refine lv_iconst (v := 1) hx hb dX4_part_83 (by decide) ?_
              refine x_V (As := [.int 1]) (rest := []) C (a_X4_refuse l K G H607 (1) (x609) hTH607 ga0 gmq m611 gkq m612 ex609) yo_X4_refuse wM_X4_81 ⟨⟨by decide, by decide⟩, by decide, by decide⟩ (x_rv C hTH607 (ci := 4) rfl ga0 rg_78) rfl hl620.1 rfl (Nat.le_of_ble_eq_true rfl) dX4_part_84 hSH607 (AE_sub (fun _ _ => rfl) (by decide) hSH607.1) (fun vH627 H627 locsH627 pH627 zH627 kH627 hSH627 => ?_)
              obtain ⟨x628, x629, hvH627, bx628, ex629, hrH627, m630, m631, hTH627⟩ := pH627
              subst hvH627
              have m632 := (fI_kept (x_lt hTH607 kH627 gkq (by decide))).trans m613
              have m633 := (ex610).trans (fI_kept (x_lt hTH607 kH627 gmq (by decide))).symm
              have bx629 := ty_fi (x := x629) (k := 7) ex629 hTH627 ga0 rg_78 rfl
              refine W.eq (g2 := F0 m 87 ls619 [.int x628]) rfl ?_
              exact x_zret C hQ (i_01 (by omega)) dX4_part_87 hSH627 (by decide) (by decide) (⟨x628, x629, x610, rfl, by omega, ex629, m633, by omega, m630, m631, hTH627⟩)
      · have k615 := i_eq c614
        refine lv_iconst (v := 0) hx hb dX4_part_52 (by decide) ?_
        exact x_zret C hQ (Or.inl rfl) dX4_part_53 hSH607 (by decide) (by decide) (⟨0, x609, x610, rfl, by decide, ex609, ex610, by omega, m611, m612, hTH607⟩)
    · have k606 := i_eq c605
      exact J22 ls601 s.heap [] (x600) (tat) (li) (lv_sub hl602 [1, 2, 0] rfl) hT hS (by have := i_rng x600; omega) (by have := i_rng tat; omega) (by have := i_rng li; omega) etat eli emq ekq hel0 (by omega)

set_option maxHeartbeats 4000000 in
set_option maxRecDepth 100000 in
theorem a_X4_both_1 (l : Launch) (K : KE) (G : Nat → Option Nat) (H : Heap) {a0 : Nat} (x1 : Int32) {mq : Nat} {kq : Nat} (F : Int32) (tat : Int32) (li : Int32) (hT : TY K G H) (ga0 : G a0 = some 78) (hx1 : 1 ≤ x1.toInt ∧ x1.toInt ≤ 8) (gmq : G mq = some 69) (emq : mq = fR H a0 (K.1.2 4 0)) (gkq : G kq = some 79) (ekq : kq = fR H a0 (K.1.2 4 3)) (etat : tat = fI H a0 (K.1.2 4 7)) (eli : li = fI H mq (K.1.2 7 0)) (hel0 : fI H kq (F : Int32).toNatClampNeg = 26) (hp0 : tat.toInt ≤ F.toInt) (hp1 : F.toInt ≤ 500) : MX l K yX4_both cX4_both 3 (some .boolean) 32 714 0 0 [.ref a0, .int x1] H (AE G [78, 69, 77] H.size) (fun v H1 => ∃ (r : Int32) (t0 : Int32) (t1 : Int32), v = some (.int r) ∧ (0 ≤ r.toInt ∧ r.toInt ≤ 1) ∧ t0 = fI H1 a0 (K.1.2 4 7) ∧ t1 = fI H1 mq (K.1.2 7 0) ∧ (t0.toInt ≤ F.toInt ∧ t1.toInt = li.toInt) ∧ mq = fR H1 a0 (K.1.2 4 0) ∧ kq = fR H1 a0 (K.1.2 4 3) ∧ TY K G H1) := by
  refine MX.of (by decide +kernel) (Nat.le_of_ble_eq_true rfl) ?_
  intro p e s m below meth c ls Q C hH hl hQ
  subst hH
  have C : CX p K s m _ meth c RX4 cX4_both 3 (some .boolean) "both" := C
  obtain ⟨hx, hb, hml, hown, hts, hKT, hr, hlocks, hnm⟩ := id C
  have hl : lv_has ls 3 [(0, .ref a0), (1, .int x1)] := hl
  have hS : va_S (AE G [78, 69, 77] s.heap.size) s.heap s.heap [] := va_S.rf
  have n_0 : (0 : Int32).toInt = 0 := rfl
  have n_1 : (1 : Int32).toInt = 1 := rfl
  have n_9 : (9 : Int32).toInt = 9 := rfl
  have n_26 : (26 : Int32).toInt = 26 := rfl
  have n_500 : (500 : Int32).toInt = 500 := rfl
  have btat := ty_fi (x := tat) (k := 7) etat hT ga0 rg_78 rfl
  have bli := ty_fi (x := li) (k := 0) eli hT gmq rg_69 rfl
  have J12 : ∀ (nf : Nat) (ls1090 : Array Slot) (H1089 : Heap) (locsH1089 : List Loc) (x1092 : Int32) (x1093 : Int32) (x1094 : Int32), lv_has ls1090 3 [(0, .ref a0), (1, .int x1), (2, .int x1092)] → TY K G H1089 → va_S (AE G [78, 69, 77] s.heap.size) s.heap H1089 locsH1089 → (0 ≤ x1092.toInt ∧ x1092.toInt ≤ 500) → (0 ≤ x1093.toInt ∧ x1093.toInt ≤ 500) → (0 ≤ x1094.toInt ∧ x1094.toInt ≤ 16) → (x1093 = fI H1089 a0 (K.1.2 4 7)) → (x1094 = fI H1089 mq (K.1.2 7 0)) → (mq = fR H1089 a0 (K.1.2 4 0)) → (kq = fR H1089 a0 (K.1.2 4 3)) → (fI H1089 kq (F : Int32).toNatClampNeg = 26) → (500 - x1092.toInt < (nf : Int)) → (x1093.toInt ≤ F.toInt ∧ x1094.toInt = li.toInt) → W p l e ({ frames := 32, cells := 0, slots := 0, locals := 714 } : Room) s m (([.ref a0, .int x1] : List Value).toArray) below meth c H1089 locsH1089 0 0 Q (F0 m 12 ls1090 []) := by
    intro nf
    induction nf with
    | zero =>
      intro ls1090 H1089 locsH1089 x1092 x1093 x1094 hl1091 hTH1089 hSH1089 bx1092 bx1093 bx1094 ex1093 ex1094 cy1095_0 cy1095_1 cy1095_2 hm12 iv12
      exfalso
      omega
    | succ nf ih12 =>
      intro ls1090 H1089 locsH1089 x1092 x1093 x1094 hl1091 hTH1089 hSH1089 bx1092 bx1093 bx1094 ex1093 ex1094 cy1095_0 cy1095_1 cy1095_2 hm12 iv12
      have J69 : ∀ (ls1097 : Array Slot) (H1096 : Heap) (locsH1096 : List Loc) (x1099 : Int32) (x1100 : Int32), lv_has ls1097 3 [] → TY K G H1096 → va_S (AE G [78, 69, 77] s.heap.size) s.heap H1096 locsH1096 → (0 ≤ x1099.toInt ∧ x1099.toInt ≤ 500) → (0 ≤ x1100.toInt ∧ x1100.toInt ≤ 16) → (x1099 = fI H1096 a0 (K.1.2 4 7)) → (x1100 = fI H1096 mq (K.1.2 7 0)) → (mq = fR H1096 a0 (K.1.2 4 0)) → (kq = fR H1096 a0 (K.1.2 4 3)) → (fI H1096 kq (F : Int32).toNatClampNeg = 26) → (x1099.toInt ≤ F.toInt ∧ x1100.toInt = li.toInt) → W p l e ({ frames := 32, cells := 0, slots := 0, locals := 714 } : Room) s m (([.ref a0, .int x1] : List Value).toArray) below meth c H1096 locsH1096 0 0 Q (F0 m 69 ls1097 []) := by
        intro ls1097 H1096 locsH1096 x1099 x1100 hl1098 hTH1096 hSH1096 bx1099 bx1100 ex1099 ex1100 cy1101_0 cy1101_1 cy1101_2 iv69
        refine lv_iconst (v := 1) hx hb dX4_both_69 (by decide) ?_
        exact x_zret C hQ (Or.inr rfl) dX4_both_70 hSH1096 (by decide) (by decide) (⟨1, x1099, x1100, rfl, by decide, ex1099, ex1100, by omega, cy1101_0, cy1101_1, hTH1096⟩)
      refine lv_iload_n hx hb dX4_both_12 rfl (lv_at hl1091 2 rfl) ?_
      refine lv_sipush (v := 500) hx hb dX4_both_13 (by decide) ?_
      refine lv_icmp_ge (tgt := 69) hx hb dX4_both_16 (by decide) (fun c1102 => ?_) (fun c1102 => ?_)
      · have k1103 := i_le c1102
        exact J69 ls1090 H1089 locsH1089 (x1093) (x1094) (lv_sub hl1091 [] rfl) hTH1089 hSH1089 (by have := i_rng x1093; omega) (by have := i_rng x1094; omega) ex1093 ex1094 cy1095_0 cy1095_1 cy1095_2 (by omega)
      · have k1103 := i_nle c1102
        refine lv_aload_n hx hb dX4_both_19 rfl (lv_at hl1091 0 rfl) ?_
        refine x_gr C hTH1089 (ci := 4) (k := 3) rfl inX4 (by decide) wF_X4_18 ga0 rg_78 rfl dX4_both_20 (fun q1104 eq1104 gq1104 => ?_)
        have uq1104 : kq = q1104 := (cy1095_1).trans eq1104.symm
        subst uq1104
        refine lv_aload_n hx hb dX4_both_23 rfl (lv_at hl1091 0 rfl) ?_
        refine x_gi C hTH1089 (ci := 4) (k := 7) rfl inX4 (by decide) wF_X4_42 ga0 rg_78 rfl dX4_both_24 (fun x1105 ex1105 bx1105 => ?_)
        have ux1105 : x1093 = x1105 := (ex1093).trans ex1105.symm
        subst ux1105
        refine x_ai C hTH1089 gkq rg_79 ⟨by omega, by show _ < ((501 : Nat) : Int); omega⟩ dX4_both_27 (fun x1106 ex1106 bx1106 => ?_)
        have dx1106 := el_hit ex1106 cy1095_2
        refine lv_bipush (v := 9) hx hb dX4_both_28 (by decide) ?_
        refine lv_icmp_ne (tgt := 69) hx hb dX4_both_30 (by decide) (fun c1107 => ?_) (fun c1107 => ?_)
        · have k1108 := i_ne c1107
          exact J69 ls1090 H1089 locsH1089 (x1093) (x1094) (lv_sub hl1091 [] rfl) hTH1089 hSH1089 (by have := i_rng x1093; omega) (by have := i_rng x1094; omega) ex1093 ex1094 cy1095_0 cy1095_1 cy1095_2 (by omega)
        · have k1108 := i_eq c1107
          refine lv_aload_n hx hb dX4_both_33 rfl (lv_at hl1091 0 rfl) ?_
          refine lv_dup hx hb dX4_both_34 rfl ?_
          refine x_gi C hTH1089 (ci := 4) (k := 7) rfl inX4 (by decide) wF_X4_42 ga0 rg_78 rfl dX4_both_35 (fun x1109 ex1109 bx1109 => ?_)
          have ux1109 : x1093 = x1109 := (ex1093).trans ex1109.symm
          subst ux1109
          refine lv_iconst (v := 1) hx hb dX4_both_38 (by decide) ?_
          refine lv_iadd hx hb dX4_both_39 ?_
          refine lv_topi (fun x1110 ex1110 => ?_)
          have tx1110 := i_add ex1110 (by omega)
          have fz1112 : 0 ≤ x1110.toInt ∧ x1110.toInt ≤ 500 := by have := i_rng x1110; omega
          refine x_put C hTH1089 hSH1089 (ci := 4) (k := 7) (v := .int x1110) (ty0 := tyX4) rfl inX4 tyX4_ok nmX4 (by decide) rfl wF_X4_42 ga0 rg_78 rfl rfl (okI (by have := i_rng x1110; omega) (by have := i_rng x1110; omega)) rfl rfl (AE_in ga0 (by decide)) dX4_both_40 (fun H1111 locsH1111 hTH1111 hSH1111 wH1111 => ?_)
          have m1114 := ex1094.trans (Wr.neI wH1111 (Or.inl (G_ne gmq ga0 (by decide)))).symm
          have m1115 := cy1095_0.trans (Wr.neR wH1111 (Or.inr (x_apart hKT hts inX4 tyX4 tyX4_ok nmX4 rfl 0 7 (by decide) (by decide) (by decide)))).symm
          have m1116 := cy1095_1.trans (Wr.neR wH1111 (Or.inr (x_apart hKT hts inX4 tyX4 tyX4_ok nmX4 rfl 3 7 (by decide) (by decide) (by decide)))).symm
          have m1117 := (Wr.neI wH1111 (Or.inl (G_ne gkq ga0 (by decide)))).trans cy1095_2
          have m1118 := Wr.I wH1111
          have m1118 := m1118.symm
          refine lv_aload_n hx hb dX4_both_43 rfl (lv_at hl1091 0 rfl) ?_
          refine lv_iload_n hx hb dX4_both_44 rfl (lv_at hl1091 1 rfl) ?_
          refine x_V (As := [.int x1]) (rest := []) C (a_X4_part_1 l K G H1111 (x1) (F) (x1110) (x1094) hTH1111 ga0 (by omega) gmq m1115 gkq m1116 m1118 m1114 m1117 (by omega) (by omega)) yo_X4_part wM_X4_135 ⟨⟨by decide, by decide⟩, by decide, by decide⟩ (x_rv C hTH1111 (ci := 4) rfl ga0 rg_78) rfl hl1091.1 rfl (Nat.le_of_ble_eq_true rfl) dX4_both_45 hSH1111 (AE_sub (fun _ _ => rfl) (by decide) hSH1111.1) (fun vH1119 H1119 locsH1119 pH1119 zH1119 kH1119 hSH1119 => ?_)
          obtain ⟨x1120, x1121, x1122, hvH1119, bx1120, ex1121, ex1122, hrH1119, m1123, m1124, hTH1119⟩ := pH1119
          subst hvH1119
          have m1125 := (fI_kept (x_lt hTH1111 kH1119 gkq (by decide))).trans m1117
          have bx1121 := ty_fi (x := x1121) (k := 7) ex1121 hTH1119 ga0 rg_78 rfl
          have bx1122 := ty_fi (x := x1122) (k := 0) ex1122 hTH1119 gmq rg_69 rfl
          refine W.eq (g2 := F0 m 48 ls1090 [.int x1120]) rfl ?_
          refine lv_if_ne (tgt := 53) hx hb dX4_both_48 (by decide) (fun c1126 => ?_) (fun c1126 => ?_)
          · have k1127 := i_ne c1126
            refine lv_aload_n hx hb dX4_both_53 rfl (lv_at hl1091 0 rfl) ?_
            refine x_gr C hTH1119 (ci := 4) (k := 0) rfl inX4 (by decide) wF_X4_12 ga0 rg_78 rfl dX4_both_54 (fun q1128 eq1128 gq1128 => ?_)
            have uq1128 : mq = q1128 := (m1123).trans eq1128.symm
            subst uq1128
            refine lv_bipush (v := 9) hx hb dX4_both_57 (by decide) ?_
            refine lv_iconst (v := 0) hx hb dX4_both_59 (by decide) ?_
            refine x_V (As := [.int 9, .int 0]) (rest := []) C (a_X7_addStep l K G H1119 (9) (0) (x1122) hTH1119 gmq ex1122) yo_X7_addStep wM_X4_131 ⟨⟨by decide, by decide⟩, by decide, by decide⟩ (x_rv C hTH1119 (ci := 7) rfl gmq rg_69) rfl hl1091.1 rfl (Nat.le_of_ble_eq_true rfl) dX4_both_60 hSH1119 (AE_sub (fun _ _ => rfl) (by decide) hSH1119.1) (fun vH1129 H1129 locsH1129 pH1129 zH1129 kH1129 hSH1129 => ?_)
            obtain ⟨x1130, hvH1129, ex1130, hrH1129, hTH1129⟩ := pH1129
            subst hvH1129
            have m1131 := (fI_kept (x_lt hTH1119 kH1129 gkq (by decide))).trans m1125
            have m1132 := (m1123).trans (fR_kept (x_lt hTH1119 kH1129 ga0 (by decide))).symm
            have m1133 := (m1124).trans (fR_kept (x_lt hTH1119 kH1129 ga0 (by decide))).symm
            have m1134 := (ex1121).trans (fI_kept (x_lt hTH1119 kH1129 ga0 (by decide))).symm
            have bx1130 := ty_fi (x := x1130) (k := 0) ex1130 hTH1129 gmq rg_69 rfl
            refine W.eq (g2 := F0 m 63 ls1090 []) rfl ?_
            obtain ⟨x1135, ex1135⟩ : ∃ y : Int32, y = x1092 + 1 := ⟨_, rfl⟩
            have tx1135 := i_add ex1135 (by omega)
            refine lv_iinc (v := x1135) (lv' := [(2, .int x1135), (0, .ref a0), (1, .int x1)]) hx hb dX4_both_63 hl1091 (k := 2) rfl (by rw [ex1135]; rfl) (by decide) rfl (fun ls1136 hl1137 => ?_)
            refine lv_goto (tgt := 12) hx hb dX4_both_66 (by decide) ?_
            exact ih12 ls1136 H1129 locsH1129 (x1135) (x1121) (x1130) (lv_sub hl1137 [1, 2, 0] rfl) hTH1129 hSH1129 (by have := i_rng x1135; omega) (by have := i_rng x1121; omega) (by have := i_rng x1130; omega) m1134 ex1130 m1132 m1133 m1131 (by omega) (by omega)
          · have k1127 := i_eq c1126
            refine lv_iconst (v := 0) hx hb dX4_both_51 (by decide) ?_
            exact x_zret C hQ (Or.inl rfl) dX4_both_52 hSH1119 (by decide) (by decide) (⟨0, x1121, x1122, rfl, by decide, ex1121, ex1122, by omega, m1123, m1124, hTH1119⟩)
  refine lv_aload_n hx hb dX4_both_0 rfl (lv_at hl 0 rfl) ?_
  refine lv_iload_n hx hb dX4_both_1 rfl (lv_at hl 1 rfl) ?_
  refine x_V (As := [.int x1]) (rest := []) C (a_X4_part_1 l K G s.heap (x1) (F) (tat) (li) hT ga0 (by omega) gmq emq gkq ekq etat eli hel0 (by omega) (by omega)) yo_X4_part wM_X4_135 ⟨⟨by decide, by decide⟩, by decide, by decide⟩ (x_rv C hT (ci := 4) rfl ga0 rg_78) rfl hl.1 rfl (Nat.le_of_ble_eq_true rfl) dX4_both_2 hS (AE_sub (fun _ _ => rfl) (by decide) hS.1) (fun vH1138 H1138 locsH1138 pH1138 zH1138 kH1138 hSH1138 => ?_)
  obtain ⟨x1139, x1140, x1141, hvH1138, bx1139, ex1140, ex1141, hrH1138, m1142, m1143, hTH1138⟩ := pH1138
  subst hvH1138
  have m1144 := (fI_kept (x_lt hT kH1138 gkq (by decide))).trans hel0
  have bx1140 := ty_fi (x := x1140) (k := 7) ex1140 hTH1138 ga0 rg_78 rfl
  have bx1141 := ty_fi (x := x1141) (k := 0) ex1141 hTH1138 gmq rg_69 rfl
  refine W.eq (g2 := F0 m 5 ls [.int x1139]) rfl ?_
  refine lv_if_ne (tgt := 10) hx hb dX4_both_5 (by decide) (fun c1145 => ?_) (fun c1145 => ?_)
  · have k1146 := i_ne c1145
    refine lv_iconst (v := 0) hx hb dX4_both_10 (by decide) ?_
    refine lv_istore_n (lv' := [(2, .int 0), (0, .ref a0), (1, .int x1)]) hx hb dX4_both_11 rfl hl (by decide) rfl (fun ls1147 hl1148 => ?_)
    exact J12 ((500 - (0 : Int32).toInt).toNat + 1) ls1147 H1138 locsH1138 (0) (x1140) (x1141) (lv_sub hl1148 [1, 2, 0] rfl) hTH1138 hSH1138 (by decide) (by have := i_rng x1140; omega) (by have := i_rng x1141; omega) ex1140 ex1141 m1142 m1143 m1144 (by omega) (by omega)
  · have k1146 := i_eq c1145
    refine lv_iconst (v := 0) hx hb dX4_both_8 (by decide) ?_
    exact x_zret C hQ (Or.inl rfl) dX4_both_9 hSH1138 (by decide) (by decide) (⟨0, x1140, x1141, rfl, by decide, ex1140, ex1141, by omega, m1142, m1143, hTH1138⟩)

set_option maxHeartbeats 4000000 in
set_option maxRecDepth 100000 in
theorem a_X4_either_1 (l : Launch) (K : KE) (G : Nat → Option Nat) (H : Heap) {a0 : Nat} (x1 : Int32) {mq : Nat} {kq : Nat} (F : Int32) (tat : Int32) (li : Int32) (hT : TY K G H) (ga0 : G a0 = some 78) (hx1 : 1 ≤ x1.toInt ∧ x1.toInt ≤ 8) (gmq : G mq = some 69) (emq : mq = fR H a0 (K.1.2 4 0)) (gkq : G kq = some 79) (ekq : kq = fR H a0 (K.1.2 4 3)) (etat : tat = fI H a0 (K.1.2 4 7)) (eli : li = fI H mq (K.1.2 7 0)) (hel0 : fI H kq (F : Int32).toNatClampNeg = 26) (hp0 : tat.toInt ≤ F.toInt) (hp1 : F.toInt ≤ 500) : MX l K yX4_either cX4_either 3 (some .boolean) 33 736 0 0 [.ref a0, .int x1] H (AE G [78, 69, 77] H.size) (fun v H1 => ∃ (r : Int32) (t0 : Int32) (t1 : Int32), v = some (.int r) ∧ (0 ≤ r.toInt ∧ r.toInt ≤ 1) ∧ t0 = fI H1 a0 (K.1.2 4 7) ∧ t1 = fI H1 mq (K.1.2 7 0) ∧ (t0.toInt ≤ F.toInt ∧ t1.toInt = li.toInt) ∧ mq = fR H1 a0 (K.1.2 4 0) ∧ kq = fR H1 a0 (K.1.2 4 3) ∧ TY K G H1) := by
  refine MX.of (by decide +kernel) (Nat.le_of_ble_eq_true rfl) ?_
  intro p e s m below meth c ls Q C hH hl hQ
  subst hH
  have C : CX p K s m _ meth c RX4 cX4_either 3 (some .boolean) "either" := C
  obtain ⟨hx, hb, hml, hown, hts, hKT, hr, hlocks, hnm⟩ := id C
  have hl : lv_has ls 3 [(0, .ref a0), (1, .int x1)] := hl
  have hS : va_S (AE G [78, 69, 77] s.heap.size) s.heap s.heap [] := va_S.rf
  have n_0 : (0 : Int32).toInt = 0 := rfl
  have n_1 : (1 : Int32).toInt = 1 := rfl
  have n_8 : (8 : Int32).toInt = 8 := rfl
  have n_26 : (26 : Int32).toInt = 26 := rfl
  have n_500 : (500 : Int32).toInt = 500 := rfl
  have btat := ty_fi (x := tat) (k := 7) etat hT ga0 rg_78 rfl
  have bli := ty_fi (x := li) (k := 0) eli hT gmq rg_69 rfl
  have J12 : ∀ (nf : Nat) (ls1090 : Array Slot) (H1089 : Heap) (locsH1089 : List Loc) (x1092 : Int32) (x1093 : Int32) (x1094 : Int32), lv_has ls1090 3 [(0, .ref a0), (1, .int x1), (2, .int x1092)] → TY K G H1089 → va_S (AE G [78, 69, 77] s.heap.size) s.heap H1089 locsH1089 → (0 ≤ x1092.toInt ∧ x1092.toInt ≤ 500) → (0 ≤ x1093.toInt ∧ x1093.toInt ≤ 500) → (0 ≤ x1094.toInt ∧ x1094.toInt ≤ 16) → (x1093 = fI H1089 a0 (K.1.2 4 7)) → (x1094 = fI H1089 mq (K.1.2 7 0)) → (mq = fR H1089 a0 (K.1.2 4 0)) → (kq = fR H1089 a0 (K.1.2 4 3)) → (fI H1089 kq (F : Int32).toNatClampNeg = 26) → (500 - x1092.toInt < (nf : Int)) → (x1093.toInt ≤ F.toInt ∧ x1094.toInt = li.toInt) → W p l e ({ frames := 33, cells := 0, slots := 0, locals := 736 } : Room) s m (([.ref a0, .int x1] : List Value).toArray) below meth c H1089 locsH1089 0 0 Q (F0 m 12 ls1090 []) := by
    intro nf
    induction nf with
    | zero =>
      intro ls1090 H1089 locsH1089 x1092 x1093 x1094 hl1091 hTH1089 hSH1089 bx1092 bx1093 bx1094 ex1093 ex1094 cy1095_0 cy1095_1 cy1095_2 hm12 iv12
      exfalso
      omega
    | succ nf ih12 =>
      intro ls1090 H1089 locsH1089 x1092 x1093 x1094 hl1091 hTH1089 hSH1089 bx1092 bx1093 bx1094 ex1093 ex1094 cy1095_0 cy1095_1 cy1095_2 hm12 iv12
      have J69 : ∀ (ls1097 : Array Slot) (H1096 : Heap) (locsH1096 : List Loc) (x1099 : Int32) (x1100 : Int32), lv_has ls1097 3 [] → TY K G H1096 → va_S (AE G [78, 69, 77] s.heap.size) s.heap H1096 locsH1096 → (0 ≤ x1099.toInt ∧ x1099.toInt ≤ 500) → (0 ≤ x1100.toInt ∧ x1100.toInt ≤ 16) → (x1099 = fI H1096 a0 (K.1.2 4 7)) → (x1100 = fI H1096 mq (K.1.2 7 0)) → (mq = fR H1096 a0 (K.1.2 4 0)) → (kq = fR H1096 a0 (K.1.2 4 3)) → (fI H1096 kq (F : Int32).toNatClampNeg = 26) → (x1099.toInt ≤ F.toInt ∧ x1100.toInt = li.toInt) → W p l e ({ frames := 33, cells := 0, slots := 0, locals := 736 } : Room) s m (([.ref a0, .int x1] : List Value).toArray) below meth c H1096 locsH1096 0 0 Q (F0 m 69 ls1097 []) := by
        intro ls1097 H1096 locsH1096 x1099 x1100 hl1098 hTH1096 hSH1096 bx1099 bx1100 ex1099 ex1100 cy1101_0 cy1101_1 cy1101_2 iv69
        refine lv_iconst (v := 1) hx hb dX4_either_69 (by decide) ?_
        exact x_zret C hQ (Or.inr rfl) dX4_either_70 hSH1096 (by decide) (by decide) (⟨1, x1099, x1100, rfl, by decide, ex1099, ex1100, by omega, cy1101_0, cy1101_1, hTH1096⟩)
      refine lv_iload_n hx hb dX4_either_12 rfl (lv_at hl1091 2 rfl) ?_
      refine lv_sipush (v := 500) hx hb dX4_either_13 (by decide) ?_
      refine lv_icmp_ge (tgt := 69) hx hb dX4_either_16 (by decide) (fun c1102 => ?_) (fun c1102 => ?_)
      · have k1103 := i_le c1102
        exact J69 ls1090 H1089 locsH1089 (x1093) (x1094) (lv_sub hl1091 [] rfl) hTH1089 hSH1089 (by have := i_rng x1093; omega) (by have := i_rng x1094; omega) ex1093 ex1094 cy1095_0 cy1095_1 cy1095_2 (by omega)
      · have k1103 := i_nle c1102
        refine lv_aload_n hx hb dX4_either_19 rfl (lv_at hl1091 0 rfl) ?_
        refine x_gr C hTH1089 (ci := 4) (k := 3) rfl inX4 (by decide) wF_X4_18 ga0 rg_78 rfl dX4_either_20 (fun q1104 eq1104 gq1104 => ?_)
        have uq1104 : kq = q1104 := (cy1095_1).trans eq1104.symm
        subst uq1104
        refine lv_aload_n hx hb dX4_either_23 rfl (lv_at hl1091 0 rfl) ?_
        refine x_gi C hTH1089 (ci := 4) (k := 7) rfl inX4 (by decide) wF_X4_42 ga0 rg_78 rfl dX4_either_24 (fun x1105 ex1105 bx1105 => ?_)
        have ux1105 : x1093 = x1105 := (ex1093).trans ex1105.symm
        subst ux1105
        refine x_ai C hTH1089 gkq rg_79 ⟨by omega, by show _ < ((501 : Nat) : Int); omega⟩ dX4_either_27 (fun x1106 ex1106 bx1106 => ?_)
        have dx1106 := el_hit ex1106 cy1095_2
        refine lv_bipush (v := 8) hx hb dX4_either_28 (by decide) ?_
        refine lv_icmp_ne (tgt := 69) hx hb dX4_either_30 (by decide) (fun c1107 => ?_) (fun c1107 => ?_)
        · have k1108 := i_ne c1107
          exact J69 ls1090 H1089 locsH1089 (x1093) (x1094) (lv_sub hl1091 [] rfl) hTH1089 hSH1089 (by have := i_rng x1093; omega) (by have := i_rng x1094; omega) ex1093 ex1094 cy1095_0 cy1095_1 cy1095_2 (by omega)
        · have k1108 := i_eq c1107
          refine lv_aload_n hx hb dX4_either_33 rfl (lv_at hl1091 0 rfl) ?_
          refine lv_dup hx hb dX4_either_34 rfl ?_
          refine x_gi C hTH1089 (ci := 4) (k := 7) rfl inX4 (by decide) wF_X4_42 ga0 rg_78 rfl dX4_either_35 (fun x1109 ex1109 bx1109 => ?_)
          have ux1109 : x1093 = x1109 := (ex1093).trans ex1109.symm
          subst ux1109
          refine lv_iconst (v := 1) hx hb dX4_either_38 (by decide) ?_
          refine lv_iadd hx hb dX4_either_39 ?_
          refine lv_topi (fun x1110 ex1110 => ?_)
          have tx1110 := i_add ex1110 (by omega)
          have fz1112 : 0 ≤ x1110.toInt ∧ x1110.toInt ≤ 500 := by have := i_rng x1110; omega
          refine x_put C hTH1089 hSH1089 (ci := 4) (k := 7) (v := .int x1110) (ty0 := tyX4) rfl inX4 tyX4_ok nmX4 (by decide) rfl wF_X4_42 ga0 rg_78 rfl rfl (okI (by have := i_rng x1110; omega) (by have := i_rng x1110; omega)) rfl rfl (AE_in ga0 (by decide)) dX4_either_40 (fun H1111 locsH1111 hTH1111 hSH1111 wH1111 => ?_)
          have m1114 := ex1094.trans (Wr.neI wH1111 (Or.inl (G_ne gmq ga0 (by decide)))).symm
          have m1115 := cy1095_0.trans (Wr.neR wH1111 (Or.inr (x_apart hKT hts inX4 tyX4 tyX4_ok nmX4 rfl 0 7 (by decide) (by decide) (by decide)))).symm
          have m1116 := cy1095_1.trans (Wr.neR wH1111 (Or.inr (x_apart hKT hts inX4 tyX4 tyX4_ok nmX4 rfl 3 7 (by decide) (by decide) (by decide)))).symm
          have m1117 := (Wr.neI wH1111 (Or.inl (G_ne gkq ga0 (by decide)))).trans cy1095_2
          have m1118 := Wr.I wH1111
          have m1118 := m1118.symm
          refine lv_aload_n hx hb dX4_either_43 rfl (lv_at hl1091 0 rfl) ?_
          refine lv_iload_n hx hb dX4_either_44 rfl (lv_at hl1091 1 rfl) ?_
          refine x_V (As := [.int x1]) (rest := []) C (a_X4_both_1 l K G H1111 (x1) (F) (x1110) (x1094) hTH1111 ga0 (by omega) gmq m1115 gkq m1116 m1118 m1114 m1117 (by omega) (by omega)) yo_X4_both wM_X4_128 ⟨⟨by decide, by decide⟩, by decide, by decide⟩ (x_rv C hTH1111 (ci := 4) rfl ga0 rg_78) rfl hl1091.1 rfl (Nat.le_of_ble_eq_true rfl) dX4_either_45 hSH1111 (AE_sub (fun _ _ => rfl) (by decide) hSH1111.1) (fun vH1119 H1119 locsH1119 pH1119 zH1119 kH1119 hSH1119 => ?_)
          obtain ⟨x1120, x1121, x1122, hvH1119, bx1120, ex1121, ex1122, hrH1119, m1123, m1124, hTH1119⟩ := pH1119
          subst hvH1119
          have m1125 := (fI_kept (x_lt hTH1111 kH1119 gkq (by decide))).trans m1117
          have bx1121 := ty_fi (x := x1121) (k := 7) ex1121 hTH1119 ga0 rg_78 rfl
          have bx1122 := ty_fi (x := x1122) (k := 0) ex1122 hTH1119 gmq rg_69 rfl
          refine W.eq (g2 := F0 m 48 ls1090 [.int x1120]) rfl ?_
          refine lv_if_ne (tgt := 53) hx hb dX4_either_48 (by decide) (fun c1126 => ?_) (fun c1126 => ?_)
          · have k1127 := i_ne c1126
            refine lv_aload_n hx hb dX4_either_53 rfl (lv_at hl1091 0 rfl) ?_
            refine x_gr C hTH1119 (ci := 4) (k := 0) rfl inX4 (by decide) wF_X4_12 ga0 rg_78 rfl dX4_either_54 (fun q1128 eq1128 gq1128 => ?_)
            have uq1128 : mq = q1128 := (m1123).trans eq1128.symm
            subst uq1128
            refine lv_bipush (v := 8) hx hb dX4_either_57 (by decide) ?_
            refine lv_iconst (v := 0) hx hb dX4_either_59 (by decide) ?_
            refine x_V (As := [.int 8, .int 0]) (rest := []) C (a_X7_addStep l K G H1119 (8) (0) (x1122) hTH1119 gmq ex1122) yo_X7_addStep wM_X4_131 ⟨⟨by decide, by decide⟩, by decide, by decide⟩ (x_rv C hTH1119 (ci := 7) rfl gmq rg_69) rfl hl1091.1 rfl (Nat.le_of_ble_eq_true rfl) dX4_either_60 hSH1119 (AE_sub (fun _ _ => rfl) (by decide) hSH1119.1) (fun vH1129 H1129 locsH1129 pH1129 zH1129 kH1129 hSH1129 => ?_)
            obtain ⟨x1130, hvH1129, ex1130, hrH1129, hTH1129⟩ := pH1129
            subst hvH1129
            have m1131 := (fI_kept (x_lt hTH1119 kH1129 gkq (by decide))).trans m1125
            have m1132 := (m1123).trans (fR_kept (x_lt hTH1119 kH1129 ga0 (by decide))).symm
            have m1133 := (m1124).trans (fR_kept (x_lt hTH1119 kH1129 ga0 (by decide))).symm
            have m1134 := (ex1121).trans (fI_kept (x_lt hTH1119 kH1129 ga0 (by decide))).symm
            have bx1130 := ty_fi (x := x1130) (k := 0) ex1130 hTH1129 gmq rg_69 rfl
            refine W.eq (g2 := F0 m 63 ls1090 []) rfl ?_
            obtain ⟨x1135, ex1135⟩ : ∃ y : Int32, y = x1092 + 1 := ⟨_, rfl⟩
            have tx1135 := i_add ex1135 (by omega)
            refine lv_iinc (v := x1135) (lv' := [(2, .int x1135), (0, .ref a0), (1, .int x1)]) hx hb dX4_either_63 hl1091 (k := 2) rfl (by rw [ex1135]; rfl) (by decide) rfl (fun ls1136 hl1137 => ?_)
            refine lv_goto (tgt := 12) hx hb dX4_either_66 (by decide) ?_
            exact ih12 ls1136 H1129 locsH1129 (x1135) (x1121) (x1130) (lv_sub hl1137 [1, 2, 0] rfl) hTH1129 hSH1129 (by have := i_rng x1135; omega) (by have := i_rng x1121; omega) (by have := i_rng x1130; omega) m1134 ex1130 m1132 m1133 m1131 (by omega) (by omega)
          · have k1127 := i_eq c1126
            refine lv_iconst (v := 0) hx hb dX4_either_51 (by decide) ?_
            exact x_zret C hQ (Or.inl rfl) dX4_either_52 hSH1119 (by decide) (by decide) (⟨0, x1121, x1122, rfl, by decide, ex1121, ex1122, by omega, m1123, m1124, hTH1119⟩)
  refine lv_aload_n hx hb dX4_either_0 rfl (lv_at hl 0 rfl) ?_
  refine lv_iload_n hx hb dX4_either_1 rfl (lv_at hl 1 rfl) ?_
  refine x_V (As := [.int x1]) (rest := []) C (a_X4_both_1 l K G s.heap (x1) (F) (tat) (li) hT ga0 (by omega) gmq emq gkq ekq etat eli hel0 (by omega) (by omega)) yo_X4_both wM_X4_128 ⟨⟨by decide, by decide⟩, by decide, by decide⟩ (x_rv C hT (ci := 4) rfl ga0 rg_78) rfl hl.1 rfl (Nat.le_of_ble_eq_true rfl) dX4_either_2 hS (AE_sub (fun _ _ => rfl) (by decide) hS.1) (fun vH1138 H1138 locsH1138 pH1138 zH1138 kH1138 hSH1138 => ?_)
  obtain ⟨x1139, x1140, x1141, hvH1138, bx1139, ex1140, ex1141, hrH1138, m1142, m1143, hTH1138⟩ := pH1138
  subst hvH1138
  have m1144 := (fI_kept (x_lt hT kH1138 gkq (by decide))).trans hel0
  have bx1140 := ty_fi (x := x1140) (k := 7) ex1140 hTH1138 ga0 rg_78 rfl
  have bx1141 := ty_fi (x := x1141) (k := 0) ex1141 hTH1138 gmq rg_69 rfl
  refine W.eq (g2 := F0 m 5 ls [.int x1139]) rfl ?_
  refine lv_if_ne (tgt := 10) hx hb dX4_either_5 (by decide) (fun c1145 => ?_) (fun c1145 => ?_)
  · have k1146 := i_ne c1145
    refine lv_iconst (v := 0) hx hb dX4_either_10 (by decide) ?_
    refine lv_istore_n (lv' := [(2, .int 0), (0, .ref a0), (1, .int x1)]) hx hb dX4_either_11 rfl hl (by decide) rfl (fun ls1147 hl1148 => ?_)
    exact J12 ((500 - (0 : Int32).toInt).toNat + 1) ls1147 H1138 locsH1138 (0) (x1140) (x1141) (lv_sub hl1148 [1, 2, 0] rfl) hTH1138 hSH1138 (by decide) (by have := i_rng x1140; omega) (by have := i_rng x1141; omega) ex1140 ex1141 m1142 m1143 m1144 (by omega) (by omega)
  · have k1146 := i_eq c1145
    refine lv_iconst (v := 0) hx hb dX4_either_8 (by decide) ?_
    exact x_zret C hQ (Or.inl rfl) dX4_either_9 hSH1138 (by decide) (by decide) (⟨0, x1140, x1141, rfl, by decide, ex1140, ex1141, by omega, m1142, m1143, hTH1138⟩)

set_option maxHeartbeats 4000000 in
set_option maxRecDepth 100000 in
theorem a_X4_opened_1 (l : Launch) (K : KE) (G : Nat → Option Nat) (H : Heap) {a0 : Nat} (x1 : Int32) (x2 : Int32) {mq : Nat} {kq : Nat} (F : Int32) (tat : Int32) (li : Int32) (hT : TY K G H) (ga0 : G a0 = some 78) (hx2 : 1 ≤ x2.toInt ∧ x2.toInt ≤ 8) (gmq : G mq = some 69) (emq : mq = fR H a0 (K.1.2 4 0)) (gkq : G kq = some 79) (ekq : kq = fR H a0 (K.1.2 4 3)) (etat : tat = fI H a0 (K.1.2 4 7)) (eli : li = fI H mq (K.1.2 7 0)) (hel0 : fI H kq (F : Int32).toNatClampNeg = 26) (hp0 : tat.toInt < F.toInt) (hp1 : F.toInt ≤ 500) : MX l K yX4_opened cX4_opened 3 (some .boolean) 34 758 0 0 [.ref a0, .int x1, .int x2] H (AE G [78, 69, 77] H.size) (fun v H1 => ∃ (r : Int32) (t0 : Int32) (t1 : Int32), v = some (.int r) ∧ (0 ≤ r.toInt ∧ r.toInt ≤ 1) ∧ t0 = fI H1 a0 (K.1.2 4 7) ∧ t1 = fI H1 mq (K.1.2 7 0) ∧ (t0.toInt ≤ F.toInt ∧ t1.toInt = li.toInt) ∧ mq = fR H1 a0 (K.1.2 4 0) ∧ kq = fR H1 a0 (K.1.2 4 3) ∧ TY K G H1) := by
  refine MX.of (by decide +kernel) (Nat.le_of_ble_eq_true rfl) ?_
  intro p e s m below meth c ls Q C hH hl hQ
  subst hH
  have C : CX p K s m _ meth c RX4 cX4_opened 3 (some .boolean) "opened" := C
  obtain ⟨hx, hb, hml, hown, hts, hKT, hr, hlocks, hnm⟩ := id C
  have hl : lv_has ls 3 [(0, .ref a0), (1, .int x1), (2, .int x2)] := hl
  have hS : va_S (AE G [78, 69, 77] s.heap.size) s.heap s.heap [] := va_S.rf
  have n_0 : (0 : Int32).toInt = 0 := rfl
  have n_1 : (1 : Int32).toInt = 1 := rfl
  have n_10 : (10 : Int32).toInt = 10 := rfl
  have n_26 : (26 : Int32).toInt = 26 := rfl
  have n_41 : (41 : Int32).toInt = 41 := rfl
  have btat := ty_fi (x := tat) (k := 7) etat hT ga0 rg_78 rfl
  have bli := ty_fi (x := li) (k := 0) eli hT gmq rg_69 rfl
  refine lv_aload_n hx hb dX4_opened_0 rfl (lv_at hl 0 rfl) ?_
  refine lv_dup hx hb dX4_opened_1 rfl ?_
  refine x_gi C hT (ci := 4) (k := 7) rfl inX4 (by decide) wF_X4_42 ga0 rg_78 rfl dX4_opened_2 (fun x337 ex337 bx337 => ?_)
  have ux337 : tat = x337 := (etat).trans ex337.symm
  subst ux337
  refine lv_iconst (v := 1) hx hb dX4_opened_5 (by decide) ?_
  refine lv_iadd hx hb dX4_opened_6 ?_
  refine lv_topi (fun x338 ex338 => ?_)
  have tx338 := i_add ex338 (by omega)
  have fz340 : 0 ≤ x338.toInt ∧ x338.toInt ≤ 500 := by have := i_rng x338; omega
  refine x_put C hT hS (ci := 4) (k := 7) (v := .int x338) (ty0 := tyX4) rfl inX4 tyX4_ok nmX4 (by decide) rfl wF_X4_42 ga0 rg_78 rfl rfl (okI (by have := i_rng x338; omega) (by have := i_rng x338; omega)) rfl rfl (AE_in ga0 (by decide)) dX4_opened_7 (fun H339 locsH339 hTH339 hSH339 wH339 => ?_)
  have m341 := emq.trans (Wr.neR wH339 (Or.inr (x_apart hKT hts inX4 tyX4 tyX4_ok nmX4 rfl 0 7 (by decide) (by decide) (by decide)))).symm
  have m342 := ekq.trans (Wr.neR wH339 (Or.inr (x_apart hKT hts inX4 tyX4 tyX4_ok nmX4 rfl 3 7 (by decide) (by decide) (by decide)))).symm
  have m344 := eli.trans (Wr.neI wH339 (Or.inl (G_ne gmq ga0 (by decide)))).symm
  have m345 := (Wr.neI wH339 (Or.inl (G_ne gkq ga0 (by decide)))).trans hel0
  have m346 := Wr.I wH339
  have m346 := m346.symm
  refine lv_iload_n hx hb dX4_opened_10 rfl (lv_at hl 1 rfl) ?_
  refine lv_bipush (v := 10) hx hb dX4_opened_11 (by decide) ?_
  refine lv_icmp_ne (tgt := 38) hx hb dX4_opened_13 (by decide) (fun c347 => ?_) (fun c347 => ?_)
  · have k348 := i_ne c347
    refine lv_aload_n hx hb dX4_opened_38 rfl (lv_at hl 0 rfl) ?_
    refine lv_iload_n hx hb dX4_opened_39 rfl (lv_at hl 2 rfl) ?_
    refine x_V (As := [.int x2]) (rest := []) C (a_X4_either_1 l K G H339 (x2) (F) (x338) (li) hTH339 ga0 (by omega) gmq m341 gkq m342 m346 m344 m345 (by omega) (by omega)) yo_X4_either wM_X4_113 ⟨⟨by decide, by decide⟩, by decide, by decide⟩ (x_rv C hTH339 (ci := 4) rfl ga0 rg_78) rfl hl.1 rfl (Nat.le_of_ble_eq_true rfl) dX4_opened_40 hSH339 (AE_sub (fun _ _ => rfl) (by decide) hSH339.1) (fun vH349 H349 locsH349 pH349 zH349 kH349 hSH349 => ?_)
    obtain ⟨x350, x351, x352, hvH349, bx350, ex351, ex352, hrH349, m353, m354, hTH349⟩ := pH349
    subst hvH349
    have m355 := (fI_kept (x_lt hTH339 kH349 gkq (by decide))).trans m345
    have bx351 := ty_fi (x := x351) (k := 7) ex351 hTH349 ga0 rg_78 rfl
    have bx352 := ty_fi (x := x352) (k := 0) ex352 hTH349 gmq rg_69 rfl
    refine W.eq (g2 := F0 m 43 ls [.int x350]) rfl ?_
    refine lv_if_ne (tgt := 48) hx hb dX4_opened_43 (by decide) (fun c356 => ?_) (fun c356 => ?_)
    · have k357 := i_ne c356
      refine lv_aload_n hx hb dX4_opened_48 rfl (lv_at hl 0 rfl) ?_
      refine x_gr C hTH349 (ci := 4) (k := 3) rfl inX4 (by decide) wF_X4_18 ga0 rg_78 rfl dX4_opened_49 (fun q358 eq358 gq358 => ?_)
      have uq358 : kq = q358 := (m354).trans eq358.symm
      subst uq358
      refine lv_aload_n hx hb dX4_opened_52 rfl (lv_at hl 0 rfl) ?_
      refine x_gi C hTH349 (ci := 4) (k := 7) rfl inX4 (by decide) wF_X4_42 ga0 rg_78 rfl dX4_opened_53 (fun x359 ex359 bx359 => ?_)
      have ux359 : x351 = x359 := (ex351).trans ex359.symm
      subst ux359
      refine x_ai C hTH349 gkq rg_79 ⟨by omega, by show _ < ((501 : Nat) : Int); omega⟩ dX4_opened_56 (fun x360 ex360 bx360 => ?_)
      have dx360 := el_hit ex360 m355
      refine lv_bipush (v := 41) hx hb dX4_opened_57 (by decide) ?_
      refine lv_icmp_eq (tgt := 68) hx hb dX4_opened_59 (by decide) (fun c361 => ?_) (fun c361 => ?_)
      · have k362 := i_eq c361
        refine lv_aload_n hx hb dX4_opened_68 rfl (lv_at hl 0 rfl) ?_
        refine lv_dup hx hb dX4_opened_69 rfl ?_
        refine x_gi C hTH349 (ci := 4) (k := 7) rfl inX4 (by decide) wF_X4_42 ga0 rg_78 rfl dX4_opened_70 (fun x363 ex363 bx363 => ?_)
        have ux363 : x351 = x363 := (ex351).trans ex363.symm
        subst ux363
        refine lv_iconst (v := 1) hx hb dX4_opened_73 (by decide) ?_
        refine lv_iadd hx hb dX4_opened_74 ?_
        refine lv_topi (fun x364 ex364 => ?_)
        have tx364 := i_add ex364 (by omega)
        have fz366 : 0 ≤ x364.toInt ∧ x364.toInt ≤ 500 := by have := i_rng x364; omega
        refine x_put C hTH349 hSH349 (ci := 4) (k := 7) (v := .int x364) (ty0 := tyX4) rfl inX4 tyX4_ok nmX4 (by decide) rfl wF_X4_42 ga0 rg_78 rfl rfl (okI (by have := i_rng x364; omega) (by have := i_rng x364; omega)) rfl rfl (AE_in ga0 (by decide)) dX4_opened_75 (fun H365 locsH365 hTH365 hSH365 wH365 => ?_)
        have m367 := (Wr.neI wH365 (Or.inl (G_ne gkq ga0 (by decide)))).trans m355
        have m368 := m353.trans (Wr.neR wH365 (Or.inr (x_apart hKT hts inX4 tyX4 tyX4_ok nmX4 rfl 0 7 (by decide) (by decide) (by decide)))).symm
        have m369 := m354.trans (Wr.neR wH365 (Or.inr (x_apart hKT hts inX4 tyX4 tyX4_ok nmX4 rfl 3 7 (by decide) (by decide) (by decide)))).symm
        have m371 := ex352.trans (Wr.neI wH365 (Or.inl (G_ne gmq ga0 (by decide)))).symm
        have m372 := Wr.I wH365
        have m372 := m372.symm
        refine lv_iconst (v := 1) hx hb dX4_opened_78 (by decide) ?_
        exact x_zret C hQ (Or.inr rfl) dX4_opened_79 hSH365 (by decide) (by decide) (⟨1, x364, x352, rfl, by decide, m372, m371, by omega, m368, m369, hTH365⟩)
      · have k362 := i_ne c361
        refine lv_aload_n hx hb dX4_opened_62 rfl (lv_at hl 0 rfl) ?_
        refine lv_iconst (v := 1) hx hb dX4_opened_63 (by decide) ?_
        refine x_V (As := [.int 1]) (rest := []) C (a_X4_refuse l K G H349 (1) (x351) hTH349 ga0 gmq m353 gkq m354 ex351) yo_X4_refuse wM_X4_81 ⟨⟨by decide, by decide⟩, by decide, by decide⟩ (x_rv C hTH349 (ci := 4) rfl ga0 rg_78) rfl hl.1 rfl (Nat.le_of_ble_eq_true rfl) dX4_opened_64 hSH349 (AE_sub (fun _ _ => rfl) (by decide) hSH349.1) (fun vH373 H373 locsH373 pH373 zH373 kH373 hSH373 => ?_)
        obtain ⟨x374, x375, hvH373, bx374, ex375, hrH373, m376, m377, hTH373⟩ := pH373
        subst hvH373
        have m378 := (fI_kept (x_lt hTH349 kH373 gkq (by decide))).trans m355
        have m379 := (ex352).trans (fI_kept (x_lt hTH349 kH373 gmq (by decide))).symm
        have bx375 := ty_fi (x := x375) (k := 7) ex375 hTH373 ga0 rg_78 rfl
        refine W.eq (g2 := F0 m 67 ls [.int x374]) rfl ?_
        exact x_zret C hQ (i_01 (by omega)) dX4_opened_67 hSH373 (by decide) (by decide) (⟨x374, x375, x352, rfl, by omega, ex375, m379, by omega, m376, m377, hTH373⟩)
    · have k357 := i_eq c356
      refine lv_iconst (v := 0) hx hb dX4_opened_46 (by decide) ?_
      exact x_zret C hQ (Or.inl rfl) dX4_opened_47 hSH349 (by decide) (by decide) (⟨0, x351, x352, rfl, by decide, ex351, ex352, by omega, m353, m354, hTH349⟩)
  · have k348 := i_eq c347
    refine lv_aload_n hx hb dX4_opened_16 rfl (lv_at hl 0 rfl) ?_
    refine lv_iload_n hx hb dX4_opened_17 rfl (lv_at hl 2 rfl) ?_
    refine x_V (As := [.int x2]) (rest := []) C (a_X4_part_1 l K G H339 (x2) (F) (x338) (li) hTH339 ga0 (by omega) gmq m341 gkq m342 m346 m344 m345 (by omega) (by omega)) yo_X4_part wM_X4_135 ⟨⟨by decide, by decide⟩, by decide, by decide⟩ (x_rv C hTH339 (ci := 4) rfl ga0 rg_78) rfl hl.1 rfl (Nat.le_of_ble_eq_true rfl) dX4_opened_18 hSH339 (AE_sub (fun _ _ => rfl) (by decide) hSH339.1) (fun vH380 H380 locsH380 pH380 zH380 kH380 hSH380 => ?_)
    obtain ⟨x381, x382, x383, hvH380, bx381, ex382, ex383, hrH380, m384, m385, hTH380⟩ := pH380
    subst hvH380
    have m386 := (fI_kept (x_lt hTH339 kH380 gkq (by decide))).trans m345
    have bx382 := ty_fi (x := x382) (k := 7) ex382 hTH380 ga0 rg_78 rfl
    have bx383 := ty_fi (x := x383) (k := 0) ex383 hTH380 gmq rg_69 rfl
    refine W.eq (g2 := F0 m 21 ls [.int x381]) rfl ?_
    refine lv_if_ne (tgt := 26) hx hb dX4_opened_21 (by decide) (fun c387 => ?_) (fun c387 => ?_)
    · have k388 := i_ne c387
      refine lv_aload_n hx hb dX4_opened_26 rfl (lv_at hl 0 rfl) ?_
      refine x_gr C hTH380 (ci := 4) (k := 0) rfl inX4 (by decide) wF_X4_12 ga0 rg_78 rfl dX4_opened_27 (fun q389 eq389 gq389 => ?_)
      have uq389 : mq = q389 := (m384).trans eq389.symm
      subst uq389
      refine lv_bipush (v := 10) hx hb dX4_opened_30 (by decide) ?_
      refine lv_iconst (v := 0) hx hb dX4_opened_32 (by decide) ?_
      refine x_V (As := [.int 10, .int 0]) (rest := []) C (a_X7_addStep l K G H380 (10) (0) (x383) hTH380 gmq ex383) yo_X7_addStep wM_X4_131 ⟨⟨by decide, by decide⟩, by decide, by decide⟩ (x_rv C hTH380 (ci := 7) rfl gmq rg_69) rfl hl.1 rfl (Nat.le_of_ble_eq_true rfl) dX4_opened_33 hSH380 (AE_sub (fun _ _ => rfl) (by decide) hSH380.1) (fun vH390 H390 locsH390 pH390 zH390 kH390 hSH390 => ?_)
      obtain ⟨x391, hvH390, ex391, hrH390, hTH390⟩ := pH390
      subst hvH390
      have m392 := (fI_kept (x_lt hTH380 kH390 gkq (by decide))).trans m386
      have m393 := (m384).trans (fR_kept (x_lt hTH380 kH390 ga0 (by decide))).symm
      have m394 := (m385).trans (fR_kept (x_lt hTH380 kH390 ga0 (by decide))).symm
      have m395 := (ex382).trans (fI_kept (x_lt hTH380 kH390 ga0 (by decide))).symm
      have bx391 := ty_fi (x := x391) (k := 0) ex391 hTH390 gmq rg_69 rfl
      refine W.eq (g2 := F0 m 36 ls []) rfl ?_
      refine lv_iconst (v := 1) hx hb dX4_opened_36 (by decide) ?_
      exact x_zret C hQ (Or.inr rfl) dX4_opened_37 hSH390 (by decide) (by decide) (⟨1, x382, x391, rfl, by decide, m395, ex391, by omega, m393, m394, hTH390⟩)
    · have k388 := i_eq c387
      refine lv_iconst (v := 0) hx hb dX4_opened_24 (by decide) ?_
      exact x_zret C hQ (Or.inl rfl) dX4_opened_25 hSH380 (by decide) (by decide) (⟨0, x382, x383, rfl, by decide, ex382, ex383, by omega, m384, m385, hTH380⟩)

set_option maxHeartbeats 4000000 in
set_option maxRecDepth 100000 in
theorem a_X4_part_0 (l : Launch) (K : KE) (G : Nat → Option Nat) (H : Heap) {a0 : Nat} (x1 : Int32) {mq : Nat} {kq : Nat} (F : Int32) (tat : Int32) (li : Int32) (hT : TY K G H) (ga0 : G a0 = some 78) (hx1 : 0 ≤ x1.toInt ∧ x1.toInt ≤ 8) (gmq : G mq = some 69) (emq : mq = fR H a0 (K.1.2 4 0)) (gkq : G kq = some 79) (ekq : kq = fR H a0 (K.1.2 4 3)) (etat : tat = fI H a0 (K.1.2 4 7)) (eli : li = fI H mq (K.1.2 7 0)) (hel0 : fI H kq (F : Int32).toNatClampNeg = 26) (hp0 : tat.toInt ≤ F.toInt) (hp1 : F.toInt ≤ 500) : MX l K yX4_part cX4_part 4 (some .boolean) 35 780 0 0 [.ref a0, .int x1] H (AE G [78, 69, 77] H.size) (fun v H1 => ∃ (r : Int32) (t0 : Int32) (t1 : Int32), v = some (.int r) ∧ (0 ≤ r.toInt ∧ r.toInt ≤ 1) ∧ t0 = fI H1 a0 (K.1.2 4 7) ∧ t1 = fI H1 mq (K.1.2 7 0) ∧ (t0.toInt ≤ F.toInt ∧ t1.toInt = li.toInt) ∧ mq = fR H1 a0 (K.1.2 4 0) ∧ kq = fR H1 a0 (K.1.2 4 3) ∧ TY K G H1) := by
  refine MX.of (by decide +kernel) (Nat.le_of_ble_eq_true rfl) ?_
  intro p e s m below meth c ls Q C hH hl hQ
  subst hH
  have C : CX p K s m _ meth c RX4 cX4_part 4 (some .boolean) "part" := C
  obtain ⟨hx, hb, hml, hown, hts, hKT, hr, hlocks, hnm⟩ := id C
  have hl : lv_has ls 4 [(0, .ref a0), (1, .int x1)] := hl
  have hS : va_S (AE G [78, 69, 77] s.heap.size) s.heap s.heap [] := va_S.rf
  have n_0 : (0 : Int32).toInt = 0 := rfl
  have n_1 : (1 : Int32).toInt = 1 := rfl
  have n_3 : (3 : Int32).toInt = 3 := rfl
  have n_8 : (8 : Int32).toInt = 8 := rfl
  have n_10 : (10 : Int32).toInt = 10 := rfl
  have n_26 : (26 : Int32).toInt = 26 := rfl
  have n_40 : (40 : Int32).toInt = 40 := rfl
  have n_60 : (60 : Int32).toInt = 60 := rfl
  have n_61 : (61 : Int32).toInt = 61 := rfl
  have n_62 : (62 : Int32).toInt = 62 := rfl
  have btat := ty_fi (x := tat) (k := 7) etat hT ga0 rg_78 rfl
  have bli := ty_fi (x := li) (k := 0) eli hT gmq rg_69 rfl
  have J22 : ∀ (ls535 : Array Slot) (H534 : Heap) (locsH534 : List Loc) (x537 : Int32) (x538 : Int32) (x539 : Int32), lv_has ls535 4 [(0, .ref a0), (1, .int x1), (2, .int x537)] → TY K G H534 → va_S (AE G [78, 69, 77] s.heap.size) s.heap H534 locsH534 → (10 ≤ x537.toInt ∧ x537.toInt ≤ 40) → (0 ≤ x538.toInt ∧ x538.toInt ≤ 500) → (0 ≤ x539.toInt ∧ x539.toInt ≤ 16) → (x538 = fI H534 a0 (K.1.2 4 7)) → (x539 = fI H534 mq (K.1.2 7 0)) → (mq = fR H534 a0 (K.1.2 4 0)) → (kq = fR H534 a0 (K.1.2 4 3)) → (fI H534 kq (F : Int32).toNatClampNeg = 26) → (x538.toInt < F.toInt ∧ x538.toInt ≤ F.toInt ∧ x539.toInt = li.toInt) → W p l e ({ frames := 35, cells := 0, slots := 0, locals := 780 } : Room) s m (([.ref a0, .int x1] : List Value).toArray) below meth c H534 locsH534 0 0 Q (F0 m 22 ls535 []) := by
    intro ls535 H534 locsH534 x537 x538 x539 hl536 hTH534 hSH534 bx537 bx538 bx539 ex538 ex539 cy540_0 cy540_1 cy540_2 iv22
    have J44 : ∀ (ls542 : Array Slot) (H541 : Heap) (locsH541 : List Loc) (x544 : Int32) (x545 : Int32) (x546 : Int32), lv_has ls542 4 [] → TY K G H541 → va_S (AE G [78, 69, 77] s.heap.size) s.heap H541 locsH541 → (0 ≤ x544.toInt ∧ x544.toInt ≤ 1) → (0 ≤ x545.toInt ∧ x545.toInt ≤ 500) → (0 ≤ x546.toInt ∧ x546.toInt ≤ 16) → (x545 = fI H541 a0 (K.1.2 4 7)) → (x546 = fI H541 mq (K.1.2 7 0)) → (mq = fR H541 a0 (K.1.2 4 0)) → (kq = fR H541 a0 (K.1.2 4 3)) → (fI H541 kq (F : Int32).toNatClampNeg = 26) → (x545.toInt ≤ F.toInt ∧ x546.toInt = li.toInt) → W p l e ({ frames := 35, cells := 0, slots := 0, locals := 780 } : Room) s m (([.ref a0, .int x1] : List Value).toArray) below meth c H541 locsH541 0 0 Q (F0 m 44 ls542 [.int x544]) := by
      intro ls542 H541 locsH541 x544 x545 x546 hl543 hTH541 hSH541 bx544 bx545 bx546 ex545 ex546 cy547_0 cy547_1 cy547_2 iv44
      exact x_zret C hQ (i_01 (by omega)) dX4_part_44 hSH541 (by decide) (by decide) (⟨x544, x545, x546, rfl, by omega, ex545, ex546, by omega, cy547_0, cy547_1, hTH541⟩)
    refine lv_iload_n hx hb dX4_part_22 rfl (lv_at hl536 1 rfl) ?_
    refine lv_bipush (v := 8) hx hb dX4_part_23 (by decide) ?_
    refine lv_icmp_ge (tgt := 39) hx hb dX4_part_25 (by decide) (fun c548 => ?_) (fun c548 => ?_)
    · have k549 := i_le c548
      refine lv_aload_n hx hb dX4_part_39 rfl (lv_at hl536 0 rfl) ?_
      refine lv_iconst (v := 3) hx hb dX4_part_40 (by decide) ?_
      refine x_V (As := [.int 3]) (rest := []) C (a_X4_refuse l K G H534 (3) (x538) hTH534 ga0 gmq cy540_0 gkq cy540_1 ex538) yo_X4_refuse wM_X4_81 ⟨⟨by decide, by decide⟩, by decide, by decide⟩ (x_rv C hTH534 (ci := 4) rfl ga0 rg_78) rfl hl536.1 rfl (Nat.le_of_ble_eq_true rfl) dX4_part_41 hSH534 (AE_sub (fun _ _ => rfl) (by decide) hSH534.1) (fun vH550 H550 locsH550 pH550 zH550 kH550 hSH550 => ?_)
      obtain ⟨x551, x552, hvH550, bx551, ex552, hrH550, m553, m554, hTH550⟩ := pH550
      subst hvH550
      have m555 := (ex539).trans (fI_kept (x_lt hTH534 kH550 gmq (by decide))).symm
      have m556 := (fI_kept (x_lt hTH534 kH550 gkq (by decide))).trans cy540_2
      have bx552 := ty_fi (x := x552) (k := 7) ex552 hTH550 ga0 rg_78 rfl
      refine W.eq (g2 := F0 m 44 ls535 [.int x551]) rfl ?_
      exact J44 ls535 H550 locsH550 (x551) (x552) (x539) (lv_sub hl536 [] rfl) hTH550 hSH550 (by have := i_rng x551; omega) (by have := i_rng x552; omega) (by have := i_rng x539; omega) ex552 m555 m553 m554 m556 (by omega)
    · have k549 := i_nle c548
      refine lv_aload_n hx hb dX4_part_28 rfl (lv_at hl536 0 rfl) ?_
      refine lv_iload_n hx hb dX4_part_29 rfl (lv_at hl536 2 rfl) ?_
      refine lv_iload_n hx hb dX4_part_30 rfl (lv_at hl536 1 rfl) ?_
      refine lv_iconst (v := 1) hx hb dX4_part_31 (by decide) ?_
      refine lv_iadd hx hb dX4_part_32 ?_
      refine lv_topi (fun x557 ex557 => ?_)
      have tx557 := i_add ex557 (by omega)
      refine x_V (As := [.int x537, .int x557]) (rest := []) C (a_X4_opened_1 l K G H534 (x537) (x557) (F) (x538) (x539) hTH534 ga0 (by omega) gmq cy540_0 gkq cy540_1 ex538 ex539 cy540_2 (by omega) (by omega)) yo_X4_opened wM_X4_138 ⟨⟨by decide, by decide⟩, by decide, by decide⟩ (x_rv C hTH534 (ci := 4) rfl ga0 rg_78) rfl hl536.1 rfl (Nat.le_of_ble_eq_true rfl) dX4_part_33 hSH534 (AE_sub (fun _ _ => rfl) (by decide) hSH534.1) (fun vH558 H558 locsH558 pH558 zH558 kH558 hSH558 => ?_)
      obtain ⟨x559, x560, x561, hvH558, bx559, ex560, ex561, hrH558, m562, m563, hTH558⟩ := pH558
      subst hvH558
      have m564 := (fI_kept (x_lt hTH534 kH558 gkq (by decide))).trans cy540_2
      have bx560 := ty_fi (x := x560) (k := 7) ex560 hTH558 ga0 rg_78 rfl
      have bx561 := ty_fi (x := x561) (k := 0) ex561 hTH558 gmq rg_69 rfl
      refine W.eq (g2 := F0 m 36 ls535 [.int x559]) rfl ?_
      refine lv_goto (tgt := 44) hx hb dX4_part_36 (by decide) ?_
      exact J44 ls535 H558 locsH558 (x559) (x560) (x561) (lv_sub hl536 [] rfl) hTH558 hSH558 (by have := i_rng x559; omega) (by have := i_rng x560; omega) (by have := i_rng x561; omega) ex560 ex561 m562 m563 m564 (by omega)
  have J88 : ∀ (ls566 : Array Slot) (H565 : Heap) (locsH565 : List Loc) (x568 : Int32) (x569 : Int32) (x570 : Int32), lv_has ls566 4 [(0, .ref a0), (3, .int x568)] → TY K G H565 → va_S (AE G [78, 69, 77] s.heap.size) s.heap H565 locsH565 → (60 ≤ x568.toInt ∧ x568.toInt ≤ 62) → (0 ≤ x569.toInt ∧ x569.toInt ≤ 500) → (0 ≤ x570.toInt ∧ x570.toInt ≤ 16) → (x569 = fI H565 a0 (K.1.2 4 7)) → (x570 = fI H565 mq (K.1.2 7 0)) → (mq = fR H565 a0 (K.1.2 4 0)) → (kq = fR H565 a0 (K.1.2 4 3)) → (fI H565 kq (F : Int32).toNatClampNeg = 26) → (x569.toInt < F.toInt ∧ x569.toInt ≤ F.toInt ∧ x570.toInt = li.toInt) → W p l e ({ frames := 35, cells := 0, slots := 0, locals := 780 } : Room) s m (([.ref a0, .int x1] : List Value).toArray) below meth c H565 locsH565 0 0 Q (F0 m 88 ls566 []) := by
    intro ls566 H565 locsH565 x568 x569 x570 hl567 hTH565 hSH565 bx568 bx569 bx570 ex569 ex570 cy571_0 cy571_1 cy571_2 iv88
    refine lv_aload_n hx hb dX4_part_88 rfl (lv_at hl567 0 rfl) ?_
    refine lv_dup hx hb dX4_part_89 rfl ?_
    refine x_gi C hTH565 (ci := 4) (k := 7) rfl inX4 (by decide) wF_X4_42 ga0 rg_78 rfl dX4_part_90 (fun x572 ex572 bx572 => ?_)
    have ux572 : x569 = x572 := (ex569).trans ex572.symm
    subst ux572
    refine lv_iconst (v := 1) hx hb dX4_part_93 (by decide) ?_
    refine lv_iadd hx hb dX4_part_94 ?_
    refine lv_topi (fun x573 ex573 => ?_)
    have tx573 := i_add ex573 (by omega)
    have fz575 : 0 ≤ x573.toInt ∧ x573.toInt ≤ 500 := by have := i_rng x573; omega
    refine x_put C hTH565 hSH565 (ci := 4) (k := 7) (v := .int x573) (ty0 := tyX4) rfl inX4 tyX4_ok nmX4 (by decide) rfl wF_X4_42 ga0 rg_78 rfl rfl (okI (by have := i_rng x573; omega) (by have := i_rng x573; omega)) rfl rfl (AE_in ga0 (by decide)) dX4_part_95 (fun H574 locsH574 hTH574 hSH574 wH574 => ?_)
    have m577 := ex570.trans (Wr.neI wH574 (Or.inl (G_ne gmq ga0 (by decide)))).symm
    have m578 := cy571_0.trans (Wr.neR wH574 (Or.inr (x_apart hKT hts inX4 tyX4 tyX4_ok nmX4 rfl 0 7 (by decide) (by decide) (by decide)))).symm
    have m579 := cy571_1.trans (Wr.neR wH574 (Or.inr (x_apart hKT hts inX4 tyX4 tyX4_ok nmX4 rfl 3 7 (by decide) (by decide) (by decide)))).symm
    have m580 := (Wr.neI wH574 (Or.inl (G_ne gkq ga0 (by decide)))).trans cy571_2
    have m581 := Wr.I wH574
    have m581 := m581.symm
    refine lv_aload_n hx hb dX4_part_98 rfl (lv_at hl567 0 rfl) ?_
    refine x_V (As := []) (rest := []) C (a_X4_sum l K G H574 (F) (x573) (x570) hTH574 ga0 gmq m578 gkq m579 m581 m577 m580 (by omega) (by omega)) yo_X4_sum wM_X4_103 ⟨⟨by decide, by decide⟩, by decide, by decide⟩ (x_rv C hTH574 (ci := 4) rfl ga0 rg_78) rfl hl567.1 rfl (Nat.le_of_ble_eq_true rfl) dX4_part_99 hSH574 (AE_sub (fun _ _ => rfl) (by decide) hSH574.1) (fun vH582 H582 locsH582 pH582 zH582 kH582 hSH582 => ?_)
    obtain ⟨x583, x584, x585, hvH582, bx583, ex584, ex585, hrH582, m586, m587, hTH582⟩ := pH582
    subst hvH582
    have m588 := (fI_kept (x_lt hTH574 kH582 gkq (by decide))).trans m580
    have bx584 := ty_fi (x := x584) (k := 7) ex584 hTH582 ga0 rg_78 rfl
    have bx585 := ty_fi (x := x585) (k := 0) ex585 hTH582 gmq rg_69 rfl
    refine W.eq (g2 := F0 m 102 ls566 [.int x583]) rfl ?_
    refine lv_if_ne (tgt := 107) hx hb dX4_part_102 (by decide) (fun c589 => ?_) (fun c589 => ?_)
    · have k590 := i_ne c589
      refine lv_aload_n hx hb dX4_part_107 rfl (lv_at hl567 0 rfl) ?_
      refine x_gr C hTH582 (ci := 4) (k := 0) rfl inX4 (by decide) wF_X4_12 ga0 rg_78 rfl dX4_part_108 (fun q591 eq591 gq591 => ?_)
      have uq591 : mq = q591 := (m586).trans eq591.symm
      subst uq591
      refine lv_iload_n hx hb dX4_part_111 rfl (lv_at hl567 1 rfl) ?_
      refine lv_iconst (v := 0) hx hb dX4_part_112 (by decide) ?_
      refine x_V (As := [.int x568, .int 0]) (rest := []) C (a_X7_addStep l K G H582 (x568) (0) (x585) hTH582 gmq ex585) yo_X7_addStep wM_X4_131 ⟨⟨by decide, by decide⟩, by decide, by decide⟩ (x_rv C hTH582 (ci := 7) rfl gmq rg_69) rfl hl567.1 rfl (Nat.le_of_ble_eq_true rfl) dX4_part_113 hSH582 (AE_sub (fun _ _ => rfl) (by decide) hSH582.1) (fun vH592 H592 locsH592 pH592 zH592 kH592 hSH592 => ?_)
      obtain ⟨x593, hvH592, ex593, hrH592, hTH592⟩ := pH592
      subst hvH592
      have m594 := (fI_kept (x_lt hTH582 kH592 gkq (by decide))).trans m588
      have m595 := (m586).trans (fR_kept (x_lt hTH582 kH592 ga0 (by decide))).symm
      have m596 := (m587).trans (fR_kept (x_lt hTH582 kH592 ga0 (by decide))).symm
      have m597 := (ex584).trans (fI_kept (x_lt hTH582 kH592 ga0 (by decide))).symm
      have bx593 := ty_fi (x := x593) (k := 0) ex593 hTH592 gmq rg_69 rfl
      refine W.eq (g2 := F0 m 116 ls566 []) rfl ?_
      refine lv_iconst (v := 1) hx hb dX4_part_116 (by decide) ?_
      exact x_zret C hQ (Or.inr rfl) dX4_part_117 hSH592 (by decide) (by decide) (⟨1, x584, x593, rfl, by decide, m597, ex593, by omega, m595, m596, hTH592⟩)
    · have k590 := i_eq c589
      refine lv_iconst (v := 0) hx hb dX4_part_105 (by decide) ?_
      exact x_zret C hQ (Or.inl rfl) dX4_part_106 hSH582 (by decide) (by decide) (⟨0, x584, x585, rfl, by decide, ex584, ex585, by omega, m586, m587, hTH582⟩)
  refine lv_aload_n hx hb dX4_part_0 rfl (lv_at hl 0 rfl) ?_
  refine x_gr C hT (ci := 4) (k := 3) rfl inX4 (by decide) wF_X4_18 ga0 rg_78 rfl dX4_part_1 (fun q598 eq598 gq598 => ?_)
  have uq598 : kq = q598 := (ekq).trans eq598.symm
  subst uq598
  refine lv_aload_n hx hb dX4_part_4 rfl (lv_at hl 0 rfl) ?_
  refine x_gi C hT (ci := 4) (k := 7) rfl inX4 (by decide) wF_X4_42 ga0 rg_78 rfl dX4_part_5 (fun x599 ex599 bx599 => ?_)
  have ux599 : tat = x599 := (etat).trans ex599.symm
  subst ux599
  refine x_ai C hT gkq rg_79 ⟨by omega, by show _ < ((501 : Nat) : Int); omega⟩ dX4_part_8 (fun x600 ex600 bx600 => ?_)
  have dx600 := el_hit ex600 hel0
  refine lv_istore_n (lv' := [(2, .int x600), (0, .ref a0), (1, .int x1)]) hx hb dX4_part_9 rfl hl (by decide) rfl (fun ls601 hl602 => ?_)
  refine lv_iload_n hx hb dX4_part_10 rfl (lv_at hl602 0 rfl) ?_
  refine lv_bipush (v := 10) hx hb dX4_part_11 (by decide) ?_
  refine lv_icmp_eq (tgt := 22) hx hb dX4_part_13 (by decide) (fun c603 => ?_) (fun c603 => ?_)
  · have k604 := i_eq c603
    exact J22 ls601 s.heap [] (x600) (tat) (li) (lv_sub hl602 [1, 2, 0] rfl) hT hS (by have := i_rng x600; omega) (by have := i_rng tat; omega) (by have := i_rng li; omega) etat eli emq ekq hel0 (by omega)
  · have k604 := i_ne c603
    refine lv_iload_n hx hb dX4_part_16 rfl (lv_at hl602 0 rfl) ?_
    refine lv_bipush (v := 40) hx hb dX4_part_17 (by decide) ?_
    refine lv_icmp_ne (tgt := 45) hx hb dX4_part_19 (by decide) (fun c605 => ?_) (fun c605 => ?_)
    · have k606 := i_ne c605
      refine lv_aload_n hx hb dX4_part_45 rfl (lv_at hl602 1 rfl) ?_
      refine x_V (As := []) (rest := []) C (a_X4_sum l K G s.heap (F) (tat) (li) hT ga0 gmq emq gkq ekq etat eli hel0 (by omega) (by omega)) yo_X4_sum wM_X4_103 ⟨⟨by decide, by decide⟩, by decide, by decide⟩ (x_rv C hT (ci := 4) rfl ga0 rg_78) rfl hl602.1 rfl (Nat.le_of_ble_eq_true rfl) dX4_part_46 hS (AE_sub (fun _ _ => rfl) (by decide) hS.1) (fun vH607 H607 locsH607 pH607 zH607 kH607 hSH607 => ?_)
      obtain ⟨x608, x609, x610, hvH607, bx608, ex609, ex610, hrH607, m611, m612, hTH607⟩ := pH607
      subst hvH607
      have m613 := (fI_kept (x_lt hT kH607 gkq (by decide))).trans hel0
      have bx609 := ty_fi (x := x609) (k := 7) ex609 hTH607 ga0 rg_78 rfl
      have bx610 := ty_fi (x := x610) (k := 0) ex610 hTH607 gmq rg_69 rfl
      refine W.eq (g2 := F0 m 49 ls601 [.int x608]) rfl ?_
      refine lv_if_ne (tgt := 54) hx hb dX4_part_49 (by decide) (fun c614 => ?_) (fun c614 => ?_)
      · have k615 := i_ne c614
        refine lv_aload_n hx hb dX4_part_54 rfl (lv_at hl602 1 rfl) ?_
        refine x_gr C hTH607 (ci := 4) (k := 3) rfl inX4 (by decide) wF_X4_18 ga0 rg_78 rfl dX4_part_55 (fun q616 eq616 gq616 => ?_)
        have uq616 : kq = q616 := (m612).trans eq616.symm
        subst uq616
        refine lv_aload_n hx hb dX4_part_58 rfl (lv_at hl602 1 rfl) ?_
        refine x_gi C hTH607 (ci := 4) (k := 7) rfl inX4 (by decide) wF_X4_42 ga0 rg_78 rfl dX4_part_59 (fun x617 ex617 bx617 => ?_)
        have ux617 : x609 = x617 := (ex609).trans ex617.symm
        subst ux617
        refine x_ai C hTH607 gkq rg_79 ⟨by omega, by show _ < ((501 : Nat) : Int); omega⟩ dX4_part_62 (fun x618 ex618 bx618 => ?_)
        have dx618 := el_hit ex618 m613
        refine lv_istore_n (lv' := [(3, .int x618), (2, .int x600), (0, .ref a0), (1, .int x1)]) hx hb dX4_part_63 rfl hl602 (by decide) rfl (fun ls619 hl620 => ?_)
        refine lv_iload_n hx hb dX4_part_64 rfl (lv_at hl620 0 rfl) ?_
        refine lv_bipush (v := 60) hx hb dX4_part_65 (by decide) ?_
        refine lv_icmp_eq (tgt := 88) hx hb dX4_part_67 (by decide) (fun c621 => ?_) (fun c621 => ?_)
        · have k622 := i_eq c621
          exact J88 ls619 H607 locsH607 (x618) (x609) (x610) (lv_sub hl620 [2, 0] rfl) hTH607 hSH607 (by have := i_rng x618; omega) (by have := i_rng x609; omega) (by have := i_rng x610; omega) ex609 ex610 m611 m612 m613 (by omega)
        · have k622 := i_ne c621
          refine lv_iload_n hx hb dX4_part_70 rfl (lv_at hl620 0 rfl) ?_
          refine lv_bipush (v := 61) hx hb dX4_part_71 (by decide) ?_
          refine lv_icmp_eq (tgt := 88) hx hb dX4_part_73 (by decide) (fun c623 => ?_) (fun c623 => ?_)
          · have k624 := i_eq c623
            exact J88 ls619 H607 locsH607 (x618) (x609) (x610) (lv_sub hl620 [2, 0] rfl) hTH607 hSH607 (by have := i_rng x618; omega) (by have := i_rng x609; omega) (by have := i_rng x610; omega) ex609 ex610 m611 m612 m613 (by omega)
          · have k624 := i_ne c623
            refine lv_iload_n hx hb dX4_part_76 rfl (lv_at hl620 0 rfl) ?_
            refine lv_bipush (v := 62) hx hb dX4_part_77 (by decide) ?_
            refine lv_icmp_eq (tgt := 88) hx hb dX4_part_79 (by decide) (fun c625 => ?_) (fun c625 => ?_)
            · have k626 := i_eq c625
              exact J88 ls619 H607 locsH607 (x618) (x609) (x610) (lv_sub hl620 [2, 0] rfl) hTH607 hSH607 (by have := i_rng x618; omega) (by have := i_rng x609; omega) (by have := i_rng x610; omega) ex609 ex610 m611 m612 m613 (by omega)
            · have k626 := i_ne c625
              refine lv_aload_n hx hb dX4_part_82 rfl (lv_at hl620 2 rfl) ?_
              refine lv_iconst (v := 1) hx hb dX4_part_83 (by decide) ?_
              refine x_V (As := [.int 1]) (rest := []) C (a_X4_refuse l K G H607 (1) (x609) hTH607 ga0 gmq m611 gkq m612 ex609) yo_X4_refuse wM_X4_81 ⟨⟨by decide, by decide⟩, by decide, by decide⟩ (x_rv C hTH607 (ci := 4) rfl ga0 rg_78) rfl hl620.1 rfl (Nat.le_of_ble_eq_true rfl) dX4_part_84 hSH607 (AE_sub (fun _ _ => rfl) (by decide) hSH607.1) (fun vH627 H627 locsH627 pH627 zH627 kH627 hSH627 => ?_)
              obtain ⟨x628, x629, hvH627, bx628, ex629, hrH627, m630, m631, hTH627⟩ := pH627
              subst hvH627
              have m632 := (fI_kept (x_lt hTH607 kH627 gkq (by decide))).trans m613
              have m633 := (ex610).trans (fI_kept (x_lt hTH607 kH627 gmq (by decide))).symm
              have bx629 := ty_fi (x := x629) (k := 7) ex629 hTH627 ga0 rg_78 rfl
              refine W.eq (g2 := F0 m 87 ls619 [.int x628]) rfl ?_
              exact x_zret C hQ (i_01 (by omega)) dX4_part_87 hSH627 (by decide) (by decide) (⟨x628, x629, x610, rfl, by omega, ex629, m633, by omega, m630, m631, hTH627⟩)
      · have k615 := i_eq c614
        refine lv_iconst (v := 0) hx hb dX4_part_52 (by decide) ?_
        exact x_zret C hQ (Or.inl rfl) dX4_part_53 hSH607 (by decide) (by decide) (⟨0, x609, x610, rfl, by decide, ex609, ex610, by omega, m611, m612, hTH607⟩)
    · have k606 := i_eq c605
      exact J22 ls601 s.heap [] (x600) (tat) (li) (lv_sub hl602 [1, 2, 0] rfl) hT hS (by have := i_rng x600; omega) (by have := i_rng tat; omega) (by have := i_rng li; omega) etat eli emq ekq hel0 (by omega)

set_option maxHeartbeats 4000000 in
set_option maxRecDepth 100000 in
theorem a_X4_both_0 (l : Launch) (K : KE) (G : Nat → Option Nat) (H : Heap) {a0 : Nat} (x1 : Int32) {mq : Nat} {kq : Nat} (F : Int32) (tat : Int32) (li : Int32) (hT : TY K G H) (ga0 : G a0 = some 78) (hx1 : 0 ≤ x1.toInt ∧ x1.toInt ≤ 8) (gmq : G mq = some 69) (emq : mq = fR H a0 (K.1.2 4 0)) (gkq : G kq = some 79) (ekq : kq = fR H a0 (K.1.2 4 3)) (etat : tat = fI H a0 (K.1.2 4 7)) (eli : li = fI H mq (K.1.2 7 0)) (hel0 : fI H kq (F : Int32).toNatClampNeg = 26) (hp0 : tat.toInt ≤ F.toInt) (hp1 : F.toInt ≤ 500) : MX l K yX4_both cX4_both 3 (some .boolean) 36 803 0 0 [.ref a0, .int x1] H (AE G [78, 69, 77] H.size) (fun v H1 => ∃ (r : Int32) (t0 : Int32) (t1 : Int32), v = some (.int r) ∧ (0 ≤ r.toInt ∧ r.toInt ≤ 1) ∧ t0 = fI H1 a0 (K.1.2 4 7) ∧ t1 = fI H1 mq (K.1.2 7 0) ∧ (t0.toInt ≤ F.toInt ∧ t1.toInt = li.toInt) ∧ mq = fR H1 a0 (K.1.2 4 0) ∧ kq = fR H1 a0 (K.1.2 4 3) ∧ TY K G H1) := by
  refine MX.of (by decide +kernel) (Nat.le_of_ble_eq_true rfl) ?_
  intro p e s m below meth c ls Q C hH hl hQ
  subst hH
  have C : CX p K s m _ meth c RX4 cX4_both 3 (some .boolean) "both" := C
  obtain ⟨hx, hb, hml, hown, hts, hKT, hr, hlocks, hnm⟩ := id C
  have hl : lv_has ls 3 [(0, .ref a0), (1, .int x1)] := hl
  have hS : va_S (AE G [78, 69, 77] s.heap.size) s.heap s.heap [] := va_S.rf
  have n_0 : (0 : Int32).toInt = 0 := rfl
  have n_1 : (1 : Int32).toInt = 1 := rfl
  have n_9 : (9 : Int32).toInt = 9 := rfl
  have n_26 : (26 : Int32).toInt = 26 := rfl
  have n_500 : (500 : Int32).toInt = 500 := rfl
  have btat := ty_fi (x := tat) (k := 7) etat hT ga0 rg_78 rfl
  have bli := ty_fi (x := li) (k := 0) eli hT gmq rg_69 rfl
  have J12 : ∀ (nf : Nat) (ls1090 : Array Slot) (H1089 : Heap) (locsH1089 : List Loc) (x1092 : Int32) (x1093 : Int32) (x1094 : Int32), lv_has ls1090 3 [(0, .ref a0), (1, .int x1), (2, .int x1092)] → TY K G H1089 → va_S (AE G [78, 69, 77] s.heap.size) s.heap H1089 locsH1089 → (0 ≤ x1092.toInt ∧ x1092.toInt ≤ 500) → (0 ≤ x1093.toInt ∧ x1093.toInt ≤ 500) → (0 ≤ x1094.toInt ∧ x1094.toInt ≤ 16) → (x1093 = fI H1089 a0 (K.1.2 4 7)) → (x1094 = fI H1089 mq (K.1.2 7 0)) → (mq = fR H1089 a0 (K.1.2 4 0)) → (kq = fR H1089 a0 (K.1.2 4 3)) → (fI H1089 kq (F : Int32).toNatClampNeg = 26) → (500 - x1092.toInt < (nf : Int)) → (x1093.toInt ≤ F.toInt ∧ x1094.toInt = li.toInt) → W p l e ({ frames := 36, cells := 0, slots := 0, locals := 803 } : Room) s m (([.ref a0, .int x1] : List Value).toArray) below meth c H1089 locsH1089 0 0 Q (F0 m 12 ls1090 []) := by
    intro nf
    induction nf with
    | zero =>
      intro ls1090 H1089 locsH1089 x1092 x1093 x1094 hl1091 hTH1089 hSH1089 bx1092 bx1093 bx1094 ex1093 ex1094 cy1095_0 cy1095_1 cy1095_2 hm12 iv12
      exfalso
      omega
    | succ nf ih12 =>
      intro ls1090 H1089 locsH1089 x1092 x1093 x1094 hl1091 hTH1089 hSH1089 bx1092 bx1093 bx1094 ex1093 ex1094 cy1095_0 cy1095_1 cy1095_2 hm12 iv12
      have J69 : ∀ (ls1097 : Array Slot) (H1096 : Heap) (locsH1096 : List Loc) (x1099 : Int32) (x1100 : Int32), lv_has ls1097 3 [] → TY K G H1096 → va_S (AE G [78, 69, 77] s.heap.size) s.heap H1096 locsH1096 → (0 ≤ x1099.toInt ∧ x1099.toInt ≤ 500) → (0 ≤ x1100.toInt ∧ x1100.toInt ≤ 16) → (x1099 = fI H1096 a0 (K.1.2 4 7)) → (x1100 = fI H1096 mq (K.1.2 7 0)) → (mq = fR H1096 a0 (K.1.2 4 0)) → (kq = fR H1096 a0 (K.1.2 4 3)) → (fI H1096 kq (F : Int32).toNatClampNeg = 26) → (x1099.toInt ≤ F.toInt ∧ x1100.toInt = li.toInt) → W p l e ({ frames := 36, cells := 0, slots := 0, locals := 803 } : Room) s m (([.ref a0, .int x1] : List Value).toArray) below meth c H1096 locsH1096 0 0 Q (F0 m 69 ls1097 []) := by
        intro ls1097 H1096 locsH1096 x1099 x1100 hl1098 hTH1096 hSH1096 bx1099 bx1100 ex1099 ex1100 cy1101_0 cy1101_1 cy1101_2 iv69
        refine lv_iconst (v := 1) hx hb dX4_both_69 (by decide) ?_
        exact x_zret C hQ (Or.inr rfl) dX4_both_70 hSH1096 (by decide) (by decide) (⟨1, x1099, x1100, rfl, by decide, ex1099, ex1100, by omega, cy1101_0, cy1101_1, hTH1096⟩)
      refine lv_iload_n hx hb dX4_both_12 rfl (lv_at hl1091 2 rfl) ?_
      refine lv_sipush (v := 500) hx hb dX4_both_13 (by decide) ?_
      refine lv_icmp_ge (tgt := 69) hx hb dX4_both_16 (by decide) (fun c1102 => ?_) (fun c1102 => ?_)
      · have k1103 := i_le c1102
        exact J69 ls1090 H1089 locsH1089 (x1093) (x1094) (lv_sub hl1091 [] rfl) hTH1089 hSH1089 (by have := i_rng x1093; omega) (by have := i_rng x1094; omega) ex1093 ex1094 cy1095_0 cy1095_1 cy1095_2 (by omega)
      · have k1103 := i_nle c1102
        refine lv_aload_n hx hb dX4_both_19 rfl (lv_at hl1091 0 rfl) ?_
        refine x_gr C hTH1089 (ci := 4) (k := 3) rfl inX4 (by decide) wF_X4_18 ga0 rg_78 rfl dX4_both_20 (fun q1104 eq1104 gq1104 => ?_)
        have uq1104 : kq = q1104 := (cy1095_1).trans eq1104.symm
        subst uq1104
        refine lv_aload_n hx hb dX4_both_23 rfl (lv_at hl1091 0 rfl) ?_
        refine x_gi C hTH1089 (ci := 4) (k := 7) rfl inX4 (by decide) wF_X4_42 ga0 rg_78 rfl dX4_both_24 (fun x1105 ex1105 bx1105 => ?_)
        have ux1105 : x1093 = x1105 := (ex1093).trans ex1105.symm
        subst ux1105
        refine x_ai C hTH1089 gkq rg_79 ⟨by omega, by show _ < ((501 : Nat) : Int); omega⟩ dX4_both_27 (fun x1106 ex1106 bx1106 => ?_)
        have dx1106 := el_hit ex1106 cy1095_2
        refine lv_bipush (v := 9) hx hb dX4_both_28 (by decide) ?_
        refine lv_icmp_ne (tgt := 69) hx hb dX4_both_30 (by decide) (fun c1107 => ?_) (fun c1107 => ?_)
        · have k1108 := i_ne c1107
          exact J69 ls1090 H1089 locsH1089 (x1093) (x1094) (lv_sub hl1091 [] rfl) hTH1089 hSH1089 (by have := i_rng x1093; omega) (by have := i_rng x1094; omega) ex1093 ex1094 cy1095_0 cy1095_1 cy1095_2 (by omega)
        · have k1108 := i_eq c1107
          refine lv_aload_n hx hb dX4_both_33 rfl (lv_at hl1091 0 rfl) ?_
          refine lv_dup hx hb dX4_both_34 rfl ?_
          refine x_gi C hTH1089 (ci := 4) (k := 7) rfl inX4 (by decide) wF_X4_42 ga0 rg_78 rfl dX4_both_35 (fun x1109 ex1109 bx1109 => ?_)
          have ux1109 : x1093 = x1109 := (ex1093).trans ex1109.symm
          subst ux1109
          refine lv_iconst (v := 1) hx hb dX4_both_38 (by decide) ?_
          refine lv_iadd hx hb dX4_both_39 ?_
          refine lv_topi (fun x1110 ex1110 => ?_)
          have tx1110 := i_add ex1110 (by omega)
          have fz1112 : 0 ≤ x1110.toInt ∧ x1110.toInt ≤ 500 := by have := i_rng x1110; omega
          refine x_put C hTH1089 hSH1089 (ci := 4) (k := 7) (v := .int x1110) (ty0 := tyX4) rfl inX4 tyX4_ok nmX4 (by decide) rfl wF_X4_42 ga0 rg_78 rfl rfl (okI (by have := i_rng x1110; omega) (by have := i_rng x1110; omega)) rfl rfl (AE_in ga0 (by decide)) dX4_both_40 (fun H1111 locsH1111 hTH1111 hSH1111 wH1111 => ?_)
          have m1114 := ex1094.trans (Wr.neI wH1111 (Or.inl (G_ne gmq ga0 (by decide)))).symm
          have m1115 := cy1095_0.trans (Wr.neR wH1111 (Or.inr (x_apart hKT hts inX4 tyX4 tyX4_ok nmX4 rfl 0 7 (by decide) (by decide) (by decide)))).symm
          have m1116 := cy1095_1.trans (Wr.neR wH1111 (Or.inr (x_apart hKT hts inX4 tyX4 tyX4_ok nmX4 rfl 3 7 (by decide) (by decide) (by decide)))).symm
          have m1117 := (Wr.neI wH1111 (Or.inl (G_ne gkq ga0 (by decide)))).trans cy1095_2
          have m1118 := Wr.I wH1111
          have m1118 := m1118.symm
          refine lv_aload_n hx hb dX4_both_43 rfl (lv_at hl1091 0 rfl) ?_
          refine lv_iload_n hx hb dX4_both_44 rfl (lv_at hl1091 1 rfl) ?_
          refine x_V (As := [.int x1]) (rest := []) C (a_X4_part_0 l K G H1111 (x1) (F) (x1110) (x1094) hTH1111 ga0 (by omega) gmq m1115 gkq m1116 m1118 m1114 m1117 (by omega) (by omega)) yo_X4_part wM_X4_135 ⟨⟨by decide, by decide⟩, by decide, by decide⟩ (x_rv C hTH1111 (ci := 4) rfl ga0 rg_78) rfl hl1091.1 rfl (Nat.le_of_ble_eq_true rfl) dX4_both_45 hSH1111 (AE_sub (fun _ _ => rfl) (by decide) hSH1111.1) (fun vH1119 H1119 locsH1119 pH1119 zH1119 kH1119 hSH1119 => ?_)
          obtain ⟨x1120, x1121, x1122, hvH1119, bx1120, ex1121, ex1122, hrH1119, m1123, m1124, hTH1119⟩ := pH1119
          subst hvH1119
          have m1125 := (fI_kept (x_lt hTH1111 kH1119 gkq (by decide))).trans m1117
          have bx1121 := ty_fi (x := x1121) (k := 7) ex1121 hTH1119 ga0 rg_78 rfl
          have bx1122 := ty_fi (x := x1122) (k := 0) ex1122 hTH1119 gmq rg_69 rfl
          refine W.eq (g2 := F0 m 48 ls1090 [.int x1120]) rfl ?_
          refine lv_if_ne (tgt := 53) hx hb dX4_both_48 (by decide) (fun c1126 => ?_) (fun c1126 => ?_)
          · have k1127 := i_ne c1126
            refine lv_aload_n hx hb dX4_both_53 rfl (lv_at hl1091 0 rfl) ?_
            refine x_gr C hTH1119 (ci := 4) (k := 0) rfl inX4 (by decide) wF_X4_12 ga0 rg_78 rfl dX4_both_54 (fun q1128 eq1128 gq1128 => ?_)
            have uq1128 : mq = q1128 := (m1123).trans eq1128.symm
            subst uq1128
            refine lv_bipush (v := 9) hx hb dX4_both_57 (by decide) ?_
            refine lv_iconst (v := 0) hx hb dX4_both_59 (by decide) ?_
            refine x_V (As := [.int 9, .int 0]) (rest := []) C (a_X7_addStep l K G H1119 (9) (0) (x1122) hTH1119 gmq ex1122) yo_X7_addStep wM_X4_131 ⟨⟨by decide, by decide⟩, by decide, by decide⟩ (x_rv C hTH1119 (ci := 7) rfl gmq rg_69) rfl hl1091.1 rfl (Nat.le_of_ble_eq_true rfl) dX4_both_60 hSH1119 (AE_sub (fun _ _ => rfl) (by decide) hSH1119.1) (fun vH1129 H1129 locsH1129 pH1129 zH1129 kH1129 hSH1129 => ?_)
            obtain ⟨x1130, hvH1129, ex1130, hrH1129, hTH1129⟩ := pH1129
            subst hvH1129
            have m1131 := (fI_kept (x_lt hTH1119 kH1129 gkq (by decide))).trans m1125
            have m1132 := (m1123).trans (fR_kept (x_lt hTH1119 kH1129 ga0 (by decide))).symm
            have m1133 := (m1124).trans (fR_kept (x_lt hTH1119 kH1129 ga0 (by decide))).symm
            have m1134 := (ex1121).trans (fI_kept (x_lt hTH1119 kH1129 ga0 (by decide))).symm
            have bx1130 := ty_fi (x := x1130) (k := 0) ex1130 hTH1129 gmq rg_69 rfl
            refine W.eq (g2 := F0 m 63 ls1090 []) rfl ?_
            obtain ⟨x1135, ex1135⟩ : ∃ y : Int32, y = x1092 + 1 := ⟨_, rfl⟩
            have tx1135 := i_add ex1135 (by omega)
            refine lv_iinc (v := x1135) (lv' := [(2, .int x1135), (0, .ref a0), (1, .int x1)]) hx hb dX4_both_63 hl1091 (k := 2) rfl (by rw [ex1135]; rfl) (by decide) rfl (fun ls1136 hl1137 => ?_)
            refine lv_goto (tgt := 12) hx hb dX4_both_66 (by decide) ?_
            exact ih12 ls1136 H1129 locsH1129 (x1135) (x1121) (x1130) (lv_sub hl1137 [1, 2, 0] rfl) hTH1129 hSH1129 (by have := i_rng x1135; omega) (by have := i_rng x1121; omega) (by have := i_rng x1130; omega) m1134 ex1130 m1132 m1133 m1131 (by omega) (by omega)
          · have k1127 := i_eq c1126
            refine lv_iconst (v := 0) hx hb dX4_both_51 (by decide) ?_
            exact x_zret C hQ (Or.inl rfl) dX4_both_52 hSH1119 (by decide) (by decide) (⟨0, x1121, x1122, rfl, by decide, ex1121, ex1122, by omega, m1123, m1124, hTH1119⟩)
  refine lv_aload_n hx hb dX4_both_0 rfl (lv_at hl 0 rfl) ?_
  refine lv_iload_n hx hb dX4_both_1 rfl (lv_at hl 1 rfl) ?_
  refine x_V (As := [.int x1]) (rest := []) C (a_X4_part_0 l K G s.heap (x1) (F) (tat) (li) hT ga0 (by omega) gmq emq gkq ekq etat eli hel0 (by omega) (by omega)) yo_X4_part wM_X4_135 ⟨⟨by decide, by decide⟩, by decide, by decide⟩ (x_rv C hT (ci := 4) rfl ga0 rg_78) rfl hl.1 rfl (Nat.le_of_ble_eq_true rfl) dX4_both_2 hS (AE_sub (fun _ _ => rfl) (by decide) hS.1) (fun vH1138 H1138 locsH1138 pH1138 zH1138 kH1138 hSH1138 => ?_)
  obtain ⟨x1139, x1140, x1141, hvH1138, bx1139, ex1140, ex1141, hrH1138, m1142, m1143, hTH1138⟩ := pH1138
  subst hvH1138
  have m1144 := (fI_kept (x_lt hT kH1138 gkq (by decide))).trans hel0
  have bx1140 := ty_fi (x := x1140) (k := 7) ex1140 hTH1138 ga0 rg_78 rfl
  have bx1141 := ty_fi (x := x1141) (k := 0) ex1141 hTH1138 gmq rg_69 rfl
  refine W.eq (g2 := F0 m 5 ls [.int x1139]) rfl ?_
  refine lv_if_ne (tgt := 10) hx hb dX4_both_5 (by decide) (fun c1145 => ?_) (fun c1145 => ?_)
  · have k1146 := i_ne c1145
    refine lv_iconst (v := 0) hx hb dX4_both_10 (by decide) ?_
    refine lv_istore_n (lv' := [(2, .int 0), (0, .ref a0), (1, .int x1)]) hx hb dX4_both_11 rfl hl (by decide) rfl (fun ls1147 hl1148 => ?_)
    exact J12 ((500 - (0 : Int32).toInt).toNat + 1) ls1147 H1138 locsH1138 (0) (x1140) (x1141) (lv_sub hl1148 [1, 2, 0] rfl) hTH1138 hSH1138 (by decide) (by have := i_rng x1140; omega) (by have := i_rng x1141; omega) ex1140 ex1141 m1142 m1143 m1144 (by omega) (by omega)
  · have k1146 := i_eq c1145
    refine lv_iconst (v := 0) hx hb dX4_both_8 (by decide) ?_
    exact x_zret C hQ (Or.inl rfl) dX4_both_9 hSH1138 (by decide) (by decide) (⟨0, x1140, x1141, rfl, by decide, ex1140, ex1141, by omega, m1142, m1143, hTH1138⟩)

set_option maxHeartbeats 4000000 in
set_option maxRecDepth 100000 in
theorem a_X4_either_0 (l : Launch) (K : KE) (G : Nat → Option Nat) (H : Heap) {a0 : Nat} (x1 : Int32) {mq : Nat} {kq : Nat} (F : Int32) (tat : Int32) (li : Int32) (hT : TY K G H) (ga0 : G a0 = some 78) (hx1 : 0 ≤ x1.toInt ∧ x1.toInt ≤ 8) (gmq : G mq = some 69) (emq : mq = fR H a0 (K.1.2 4 0)) (gkq : G kq = some 79) (ekq : kq = fR H a0 (K.1.2 4 3)) (etat : tat = fI H a0 (K.1.2 4 7)) (eli : li = fI H mq (K.1.2 7 0)) (hel0 : fI H kq (F : Int32).toNatClampNeg = 26) (hp0 : tat.toInt ≤ F.toInt) (hp1 : F.toInt ≤ 500) : MX l K yX4_either cX4_either 3 (some .boolean) 37 825 0 0 [.ref a0, .int x1] H (AE G [78, 69, 77] H.size) (fun v H1 => ∃ (r : Int32) (t0 : Int32) (t1 : Int32), v = some (.int r) ∧ (0 ≤ r.toInt ∧ r.toInt ≤ 1) ∧ t0 = fI H1 a0 (K.1.2 4 7) ∧ t1 = fI H1 mq (K.1.2 7 0) ∧ (t0.toInt ≤ F.toInt ∧ t1.toInt = li.toInt) ∧ mq = fR H1 a0 (K.1.2 4 0) ∧ kq = fR H1 a0 (K.1.2 4 3) ∧ TY K G H1) := by
  refine MX.of (by decide +kernel) (Nat.le_of_ble_eq_true rfl) ?_
  intro p e s m below meth c ls Q C hH hl hQ
  subst hH
  have C : CX p K s m _ meth c RX4 cX4_either 3 (some .boolean) "either" := C
  obtain ⟨hx, hb, hml, hown, hts, hKT, hr, hlocks, hnm⟩ := id C
  have hl : lv_has ls 3 [(0, .ref a0), (1, .int x1)] := hl
  have hS : va_S (AE G [78, 69, 77] s.heap.size) s.heap s.heap [] := va_S.rf
  have n_0 : (0 : Int32).toInt = 0 := rfl
  have n_1 : (1 : Int32).toInt = 1 := rfl
  have n_8 : (8 : Int32).toInt = 8 := rfl
  have n_26 : (26 : Int32).toInt = 26 := rfl
  have n_500 : (500 : Int32).toInt = 500 := rfl
  have btat := ty_fi (x := tat) (k := 7) etat hT ga0 rg_78 rfl
  have bli := ty_fi (x := li) (k := 0) eli hT gmq rg_69 rfl
  have J12 : ∀ (nf : Nat) (ls1090 : Array Slot) (H1089 : Heap) (locsH1089 : List Loc) (x1092 : Int32) (x1093 : Int32) (x1094 : Int32), lv_has ls1090 3 [(0, .ref a0), (1, .int x1), (2, .int x1092)] → TY K G H1089 → va_S (AE G [78, 69, 77] s.heap.size) s.heap H1089 locsH1089 → (0 ≤ x1092.toInt ∧ x1092.toInt ≤ 500) → (0 ≤ x1093.toInt ∧ x1093.toInt ≤ 500) → (0 ≤ x1094.toInt ∧ x1094.toInt ≤ 16) → (x1093 = fI H1089 a0 (K.1.2 4 7)) → (x1094 = fI H1089 mq (K.1.2 7 0)) → (mq = fR H1089 a0 (K.1.2 4 0)) → (kq = fR H1089 a0 (K.1.2 4 3)) → (fI H1089 kq (F : Int32).toNatClampNeg = 26) → (500 - x1092.toInt < (nf : Int)) → (x1093.toInt ≤ F.toInt ∧ x1094.toInt = li.toInt) → W p l e ({ frames := 37, cells := 0, slots := 0, locals := 825 } : Room) s m (([.ref a0, .int x1] : List Value).toArray) below meth c H1089 locsH1089 0 0 Q (F0 m 12 ls1090 []) := by
    intro nf
    induction nf with
    | zero =>
      intro ls1090 H1089 locsH1089 x1092 x1093 x1094 hl1091 hTH1089 hSH1089 bx1092 bx1093 bx1094 ex1093 ex1094 cy1095_0 cy1095_1 cy1095_2 hm12 iv12
      exfalso
      omega
    | succ nf ih12 =>
      intro ls1090 H1089 locsH1089 x1092 x1093 x1094 hl1091 hTH1089 hSH1089 bx1092 bx1093 bx1094 ex1093 ex1094 cy1095_0 cy1095_1 cy1095_2 hm12 iv12
      have J69 : ∀ (ls1097 : Array Slot) (H1096 : Heap) (locsH1096 : List Loc) (x1099 : Int32) (x1100 : Int32), lv_has ls1097 3 [] → TY K G H1096 → va_S (AE G [78, 69, 77] s.heap.size) s.heap H1096 locsH1096 → (0 ≤ x1099.toInt ∧ x1099.toInt ≤ 500) → (0 ≤ x1100.toInt ∧ x1100.toInt ≤ 16) → (x1099 = fI H1096 a0 (K.1.2 4 7)) → (x1100 = fI H1096 mq (K.1.2 7 0)) → (mq = fR H1096 a0 (K.1.2 4 0)) → (kq = fR H1096 a0 (K.1.2 4 3)) → (fI H1096 kq (F : Int32).toNatClampNeg = 26) → (x1099.toInt ≤ F.toInt ∧ x1100.toInt = li.toInt) → W p l e ({ frames := 37, cells := 0, slots := 0, locals := 825 } : Room) s m (([.ref a0, .int x1] : List Value).toArray) below meth c H1096 locsH1096 0 0 Q (F0 m 69 ls1097 []) := by
        intro ls1097 H1096 locsH1096 x1099 x1100 hl1098 hTH1096 hSH1096 bx1099 bx1100 ex1099 ex1100 cy1101_0 cy1101_1 cy1101_2 iv69
        refine lv_iconst (v := 1) hx hb dX4_either_69 (by decide) ?_
        exact x_zret C hQ (Or.inr rfl) dX4_either_70 hSH1096 (by decide) (by decide) (⟨1, x1099, x1100, rfl, by decide, ex1099, ex1100, by omega, cy1101_0, cy1101_1, hTH1096⟩)
      refine lv_iload_n hx hb dX4_either_12 rfl (lv_at hl1091 2 rfl) ?_
      refine lv_sipush (v := 500) hx hb dX4_either_13 (by decide) ?_
      refine lv_icmp_ge (tgt := 69) hx hb dX4_either_16 (by decide) (fun c1102 => ?_) (fun c1102 => ?_)
      · have k1103 := i_le c1102
        exact J69 ls1090 H1089 locsH1089 (x1093) (x1094) (lv_sub hl1091 [] rfl) hTH1089 hSH1089 (by have := i_rng x1093; omega) (by have := i_rng x1094; omega) ex1093 ex1094 cy1095_0 cy1095_1 cy1095_2 (by omega)
      · have k1103 := i_nle c1102
        refine lv_aload_n hx hb dX4_either_19 rfl (lv_at hl1091 0 rfl) ?_
        refine x_gr C hTH1089 (ci := 4) (k := 3) rfl inX4 (by decide) wF_X4_18 ga0 rg_78 rfl dX4_either_20 (fun q1104 eq1104 gq1104 => ?_)
        have uq1104 : kq = q1104 := (cy1095_1).trans eq1104.symm
        subst uq1104
        refine lv_aload_n hx hb dX4_either_23 rfl (lv_at hl1091 0 rfl) ?_
        refine x_gi C hTH1089 (ci := 4) (k := 7) rfl inX4 (by decide) wF_X4_42 ga0 rg_78 rfl dX4_either_24 (fun x1105 ex1105 bx1105 => ?_)
        have ux1105 : x1093 = x1105 := (ex1093).trans ex1105.symm
        subst ux1105
        refine x_ai C hTH1089 gkq rg_79 ⟨by omega, by show _ < ((501 : Nat) : Int); omega⟩ dX4_either_27 (fun x1106 ex1106 bx1106 => ?_)
        have dx1106 := el_hit ex1106 cy1095_2
        refine lv_bipush (v := 8) hx hb dX4_either_28 (by decide) ?_
        refine lv_icmp_ne (tgt := 69) hx hb dX4_either_30 (by decide) (fun c1107 => ?_) (fun c1107 => ?_)
        · have k1108 := i_ne c1107
          exact J69 ls1090 H1089 locsH1089 (x1093) (x1094) (lv_sub hl1091 [] rfl) hTH1089 hSH1089 (by have := i_rng x1093; omega) (by have := i_rng x1094; omega) ex1093 ex1094 cy1095_0 cy1095_1 cy1095_2 (by omega)
        · have k1108 := i_eq c1107
          refine lv_aload_n hx hb dX4_either_33 rfl (lv_at hl1091 0 rfl) ?_
          refine lv_dup hx hb dX4_either_34 rfl ?_
          refine x_gi C hTH1089 (ci := 4) (k := 7) rfl inX4 (by decide) wF_X4_42 ga0 rg_78 rfl dX4_either_35 (fun x1109 ex1109 bx1109 => ?_)
          have ux1109 : x1093 = x1109 := (ex1093).trans ex1109.symm
          subst ux1109
          refine lv_iconst (v := 1) hx hb dX4_either_38 (by decide) ?_
          refine lv_iadd hx hb dX4_either_39 ?_
          refine lv_topi (fun x1110 ex1110 => ?_)
          have tx1110 := i_add ex1110 (by omega)
          have fz1112 : 0 ≤ x1110.toInt ∧ x1110.toInt ≤ 500 := by have := i_rng x1110; omega
          refine x_put C hTH1089 hSH1089 (ci := 4) (k := 7) (v := .int x1110) (ty0 := tyX4) rfl inX4 tyX4_ok nmX4 (by decide) rfl wF_X4_42 ga0 rg_78 rfl rfl (okI (by have := i_rng x1110; omega) (by have := i_rng x1110; omega)) rfl rfl (AE_in ga0 (by decide)) dX4_either_40 (fun H1111 locsH1111 hTH1111 hSH1111 wH1111 => ?_)
          have m1114 := ex1094.trans (Wr.neI wH1111 (Or.inl (G_ne gmq ga0 (by decide)))).symm
          have m1115 := cy1095_0.trans (Wr.neR wH1111 (Or.inr (x_apart hKT hts inX4 tyX4 tyX4_ok nmX4 rfl 0 7 (by decide) (by decide) (by decide)))).symm
          have m1116 := cy1095_1.trans (Wr.neR wH1111 (Or.inr (x_apart hKT hts inX4 tyX4 tyX4_ok nmX4 rfl 3 7 (by decide) (by decide) (by decide)))).symm
          have m1117 := (Wr.neI wH1111 (Or.inl (G_ne gkq ga0 (by decide)))).trans cy1095_2
          have m1118 := Wr.I wH1111
          have m1118 := m1118.symm
          refine lv_aload_n hx hb dX4_either_43 rfl (lv_at hl1091 0 rfl) ?_
          refine lv_iload_n hx hb dX4_either_44 rfl (lv_at hl1091 1 rfl) ?_
          refine x_V (As := [.int x1]) (rest := []) C (a_X4_both_0 l K G H1111 (x1) (F) (x1110) (x1094) hTH1111 ga0 (by omega) gmq m1115 gkq m1116 m1118 m1114 m1117 (by omega) (by omega)) yo_X4_both wM_X4_128 ⟨⟨by decide, by decide⟩, by decide, by decide⟩ (x_rv C hTH1111 (ci := 4) rfl ga0 rg_78) rfl hl1091.1 rfl (Nat.le_of_ble_eq_true rfl) dX4_either_45 hSH1111 (AE_sub (fun _ _ => rfl) (by decide) hSH1111.1) (fun vH1119 H1119 locsH1119 pH1119 zH1119 kH1119 hSH1119 => ?_)
          obtain ⟨x1120, x1121, x1122, hvH1119, bx1120, ex1121, ex1122, hrH1119, m1123, m1124, hTH1119⟩ := pH1119
          subst hvH1119
          have m1125 := (fI_kept (x_lt hTH1111 kH1119 gkq (by decide))).trans m1117
          have bx1121 := ty_fi (x := x1121) (k := 7) ex1121 hTH1119 ga0 rg_78 rfl
          have bx1122 := ty_fi (x := x1122) (k := 0) ex1122 hTH1119 gmq rg_69 rfl
          refine W.eq (g2 := F0 m 48 ls1090 [.int x1120]) rfl ?_
          refine lv_if_ne (tgt := 53) hx hb dX4_either_48 (by decide) (fun c1126 => ?_) (fun c1126 => ?_)
          · have k1127 := i_ne c1126
            refine lv_aload_n hx hb dX4_either_53 rfl (lv_at hl1091 0 rfl) ?_
            refine x_gr C hTH1119 (ci := 4) (k := 0) rfl inX4 (by decide) wF_X4_12 ga0 rg_78 rfl dX4_either_54 (fun q1128 eq1128 gq1128 => ?_)
            have uq1128 : mq = q1128 := (m1123).trans eq1128.symm
            subst uq1128
            refine lv_bipush (v := 8) hx hb dX4_either_57 (by decide) ?_
            refine lv_iconst (v := 0) hx hb dX4_either_59 (by decide) ?_
            refine x_V (As := [.int 8, .int 0]) (rest := []) C (a_X7_addStep l K G H1119 (8) (0) (x1122) hTH1119 gmq ex1122) yo_X7_addStep wM_X4_131 ⟨⟨by decide, by decide⟩, by decide, by decide⟩ (x_rv C hTH1119 (ci := 7) rfl gmq rg_69) rfl hl1091.1 rfl (Nat.le_of_ble_eq_true rfl) dX4_either_60 hSH1119 (AE_sub (fun _ _ => rfl) (by decide) hSH1119.1) (fun vH1129 H1129 locsH1129 pH1129 zH1129 kH1129 hSH1129 => ?_)
            obtain ⟨x1130, hvH1129, ex1130, hrH1129, hTH1129⟩ := pH1129
            subst hvH1129
            have m1131 := (fI_kept (x_lt hTH1119 kH1129 gkq (by decide))).trans m1125
            have m1132 := (m1123).trans (fR_kept (x_lt hTH1119 kH1129 ga0 (by decide))).symm
            have m1133 := (m1124).trans (fR_kept (x_lt hTH1119 kH1129 ga0 (by decide))).symm
            have m1134 := (ex1121).trans (fI_kept (x_lt hTH1119 kH1129 ga0 (by decide))).symm
            have bx1130 := ty_fi (x := x1130) (k := 0) ex1130 hTH1129 gmq rg_69 rfl
            refine W.eq (g2 := F0 m 63 ls1090 []) rfl ?_
            obtain ⟨x1135, ex1135⟩ : ∃ y : Int32, y = x1092 + 1 := ⟨_, rfl⟩
            have tx1135 := i_add ex1135 (by omega)
            refine lv_iinc (v := x1135) (lv' := [(2, .int x1135), (0, .ref a0), (1, .int x1)]) hx hb dX4_either_63 hl1091 (k := 2) rfl (by rw [ex1135]; rfl) (by decide) rfl (fun ls1136 hl1137 => ?_)
            refine lv_goto (tgt := 12) hx hb dX4_either_66 (by decide) ?_
            exact ih12 ls1136 H1129 locsH1129 (x1135) (x1121) (x1130) (lv_sub hl1137 [1, 2, 0] rfl) hTH1129 hSH1129 (by have := i_rng x1135; omega) (by have := i_rng x1121; omega) (by have := i_rng x1130; omega) m1134 ex1130 m1132 m1133 m1131 (by omega) (by omega)
          · have k1127 := i_eq c1126
            refine lv_iconst (v := 0) hx hb dX4_either_51 (by decide) ?_
            exact x_zret C hQ (Or.inl rfl) dX4_either_52 hSH1119 (by decide) (by decide) (⟨0, x1121, x1122, rfl, by decide, ex1121, ex1122, by omega, m1123, m1124, hTH1119⟩)
  refine lv_aload_n hx hb dX4_either_0 rfl (lv_at hl 0 rfl) ?_
  refine lv_iload_n hx hb dX4_either_1 rfl (lv_at hl 1 rfl) ?_
  refine x_V (As := [.int x1]) (rest := []) C (a_X4_both_0 l K G s.heap (x1) (F) (tat) (li) hT ga0 (by omega) gmq emq gkq ekq etat eli hel0 (by omega) (by omega)) yo_X4_both wM_X4_128 ⟨⟨by decide, by decide⟩, by decide, by decide⟩ (x_rv C hT (ci := 4) rfl ga0 rg_78) rfl hl.1 rfl (Nat.le_of_ble_eq_true rfl) dX4_either_2 hS (AE_sub (fun _ _ => rfl) (by decide) hS.1) (fun vH1138 H1138 locsH1138 pH1138 zH1138 kH1138 hSH1138 => ?_)
  obtain ⟨x1139, x1140, x1141, hvH1138, bx1139, ex1140, ex1141, hrH1138, m1142, m1143, hTH1138⟩ := pH1138
  subst hvH1138
  have m1144 := (fI_kept (x_lt hT kH1138 gkq (by decide))).trans hel0
  have bx1140 := ty_fi (x := x1140) (k := 7) ex1140 hTH1138 ga0 rg_78 rfl
  have bx1141 := ty_fi (x := x1141) (k := 0) ex1141 hTH1138 gmq rg_69 rfl
  refine W.eq (g2 := F0 m 5 ls [.int x1139]) rfl ?_
  refine lv_if_ne (tgt := 10) hx hb dX4_either_5 (by decide) (fun c1145 => ?_) (fun c1145 => ?_)
  · have k1146 := i_ne c1145
    refine lv_iconst (v := 0) hx hb dX4_either_10 (by decide) ?_
    refine lv_istore_n (lv' := [(2, .int 0), (0, .ref a0), (1, .int x1)]) hx hb dX4_either_11 rfl hl (by decide) rfl (fun ls1147 hl1148 => ?_)
    exact J12 ((500 - (0 : Int32).toInt).toNat + 1) ls1147 H1138 locsH1138 (0) (x1140) (x1141) (lv_sub hl1148 [1, 2, 0] rfl) hTH1138 hSH1138 (by decide) (by have := i_rng x1140; omega) (by have := i_rng x1141; omega) ex1140 ex1141 m1142 m1143 m1144 (by omega) (by omega)
  · have k1146 := i_eq c1145
    refine lv_iconst (v := 0) hx hb dX4_either_8 (by decide) ?_
    exact x_zret C hQ (Or.inl rfl) dX4_either_9 hSH1138 (by decide) (by decide) (⟨0, x1140, x1141, rfl, by decide, ex1140, ex1141, by omega, m1142, m1143, hTH1138⟩)

set_option maxHeartbeats 4000000 in
set_option maxRecDepth 100000 in
theorem a_X4_line (l : Launch) (K : KE) (G : Nat → Option Nat) (H : Heap) {a0 : Nat} {mq : Nat} {kq : Nat} (F : Int32) (tat : Int32) (li : Int32) (hT : TY K G H) (ga0 : G a0 = some 78) (gmq : G mq = some 69) (emq : mq = fR H a0 (K.1.2 4 0)) (gkq : G kq = some 79) (ekq : kq = fR H a0 (K.1.2 4 3)) (etat : tat = fI H a0 (K.1.2 4 7)) (eli : li = fI H mq (K.1.2 7 0)) (hel0 : fI H kq (F : Int32).toNatClampNeg = 26) (hp0 : tat.toInt ≤ F.toInt) (hp1 : F.toInt ≤ 500) : MX l K yX4_line cX4_line 3 (some .boolean) 38 847 0 0 [.ref a0] H (AE G [78, 69, 77, 70, 71, 72, 73, 74, 75, 76] H.size) (fun v H1 => ∃ (r : Int32) (t0 : Int32) (t1 : Int32), v = some (.int r) ∧ (0 ≤ r.toInt ∧ r.toInt ≤ 1) ∧ t0 = fI H1 a0 (K.1.2 4 7) ∧ t1 = fI H1 mq (K.1.2 7 0) ∧ (t0.toInt ≤ F.toInt) ∧ mq = fR H1 a0 (K.1.2 4 0) ∧ kq = fR H1 a0 (K.1.2 4 3) ∧ TY K G H1) := by
  refine MX.of (by decide +kernel) (Nat.le_of_ble_eq_true rfl) ?_
  intro p e s m below meth c ls Q C hH hl hQ
  subst hH
  have C : CX p K s m _ meth c RX4 cX4_line 3 (some .boolean) "line" := C
  obtain ⟨hx, hb, hml, hown, hts, hKT, hr, hlocks, hnm⟩ := id C
  have hl : lv_has ls 3 [(0, .ref a0)] := hl
  have hS : va_S (AE G [78, 69, 77, 70, 71, 72, 73, 74, 75, 76] s.heap.size) s.heap s.heap [] := va_S.rf
  have n_0 : (0 : Int32).toInt = 0 := rfl
  have n_1 : (1 : Int32).toInt = 1 := rfl
  have n_3 : (3 : Int32).toInt = 3 := rfl
  have n_4 : (4 : Int32).toInt = 4 := rfl
  have n_6 : (6 : Int32).toInt = 6 := rfl
  have n_7 : (7 : Int32).toInt = 7 := rfl
  have n_16 : (16 : Int32).toInt = 16 := rfl
  have n_26 : (26 : Int32).toInt = 26 := rfl
  have n_59 : (59 : Int32).toInt = 59 := rfl
  have btat := ty_fi (x := tat) (k := 7) etat hT ga0 rg_78 rfl
  have bli := ty_fi (x := li) (k := 0) eli hT gmq rg_69 rfl
  have J36 : ∀ (ls1110 : Array Slot) (H1109 : Heap) (locsH1109 : List Loc) (x1112 : Int32) (x1113 : Int32), lv_has ls1110 3 [(0, .ref a0)] → TY K G H1109 → va_S (AE G [78, 69, 77, 70, 71, 72, 73, 74, 75, 76] s.heap.size) s.heap H1109 locsH1109 → (0 ≤ x1112.toInt ∧ x1112.toInt ≤ 500) → (0 ≤ x1113.toInt ∧ x1113.toInt ≤ 16) → (x1112 = fI H1109 a0 (K.1.2 4 7)) → (x1113 = fI H1109 mq (K.1.2 7 0)) → (mq = fR H1109 a0 (K.1.2 4 0)) → (kq = fR H1109 a0 (K.1.2 4 3)) → (fI H1109 kq (F : Int32).toNatClampNeg = 26) → (x1112.toInt ≤ F.toInt) → W p l e ({ frames := 38, cells := 0, slots := 0, locals := 847 } : Room) s m (([.ref a0] : List Value).toArray) below meth c H1109 locsH1109 0 0 Q (F0 m 36 ls1110 []) := by
    intro ls1110 H1109 locsH1109 x1112 x1113 hl1111 hTH1109 hSH1109 bx1112 bx1113 ex1112 ex1113 cy1114_0 cy1114_1 cy1114_2 iv36
    refine lv_aload_n hx hb dX4_line_36 rfl (lv_at hl1111 0 rfl) ?_
    refine lv_iconst (v := 1) hx hb dX4_line_37 (by decide) ?_
    refine x_V (As := [.int 1]) (rest := []) C (a_X4_refuse l K G H1109 (1) (x1112) hTH1109 ga0 gmq cy1114_0 gkq cy1114_1 ex1112) yo_X4_refuse wM_X4_81 ⟨⟨by decide, by decide⟩, by decide, by decide⟩ (x_rv C hTH1109 (ci := 4) rfl ga0 rg_78) rfl hl1111.1 rfl (Nat.le_of_ble_eq_true rfl) dX4_line_38 hSH1109 (AE_sub (fun _ _ => rfl) (by decide) hSH1109.1) (fun vH1115 H1115 locsH1115 pH1115 zH1115 kH1115 hSH1115 => ?_)
    obtain ⟨x1116, x1117, hvH1115, bx1116, ex1117, hrH1115, m1118, m1119, hTH1115⟩ := pH1115
    subst hvH1115
    have m1120 := (ex1113).trans (fI_kept (x_lt hTH1109 kH1115 gmq (by decide))).symm
    have m1121 := (fI_kept (x_lt hTH1109 kH1115 gkq (by decide))).trans cy1114_2
    have bx1117 := ty_fi (x := x1117) (k := 7) ex1117 hTH1115 ga0 rg_78 rfl
    refine W.eq (g2 := F0 m 41 ls1110 [.int x1116]) rfl ?_
    exact x_zret C hQ (i_01 (by omega)) dX4_line_41 hSH1115 (by decide) (by decide) (⟨x1116, x1117, x1113, rfl, by omega, ex1117, m1120, by omega, m1118, m1119, hTH1115⟩)
  have J42 : ∀ (ls1123 : Array Slot) (H1122 : Heap) (locsH1122 : List Loc) (x1125 : Int32) (x1126 : Int32) (x1127 : Int32), lv_has ls1123 3 [(0, .ref a0), (1, .int x1125)] → TY K G H1122 → va_S (AE G [78, 69, 77, 70, 71, 72, 73, 74, 75, 76] s.heap.size) s.heap H1122 locsH1122 → ((-2147483648) ≤ x1125.toInt ∧ x1125.toInt ≤ 6) → (0 ≤ x1126.toInt ∧ x1126.toInt ≤ 500) → (0 ≤ x1127.toInt ∧ x1127.toInt ≤ 16) → (x1126 = fI H1122 a0 (K.1.2 4 7)) → (x1127 = fI H1122 mq (K.1.2 7 0)) → (mq = fR H1122 a0 (K.1.2 4 0)) → (kq = fR H1122 a0 (K.1.2 4 3)) → (fI H1122 kq (F : Int32).toNatClampNeg = 26) → (x1126.toInt < F.toInt ∧ x1126.toInt ≤ F.toInt) → W p l e ({ frames := 38, cells := 0, slots := 0, locals := 847 } : Room) s m (([.ref a0] : List Value).toArray) below meth c H1122 locsH1122 0 0 Q (F0 m 42 ls1123 []) := by
    intro ls1123 H1122 locsH1122 x1125 x1126 x1127 hl1124 hTH1122 hSH1122 bx1125 bx1126 bx1127 ex1126 ex1127 cy1128_0 cy1128_1 cy1128_2 iv42
    have J145 : ∀ (ls1130 : Array Slot) (H1129 : Heap) (locsH1129 : List Loc) (x1132 : Int32) (x1133 : Int32) (x1134 : Int32), lv_has ls1130 3 [(0, .ref a0), (2, .int x1132)] → TY K G H1129 → va_S (AE G [78, 69, 77, 70, 71, 72, 73, 74, 75, 76] s.heap.size) s.heap H1129 locsH1129 → (0 ≤ x1132.toInt ∧ x1132.toInt ≤ 15) → (0 ≤ x1133.toInt ∧ x1133.toInt ≤ 500) → (0 ≤ x1134.toInt ∧ x1134.toInt ≤ 16) → (x1133 = fI H1129 a0 (K.1.2 4 7)) → (x1134 = fI H1129 mq (K.1.2 7 0)) → (mq = fR H1129 a0 (K.1.2 4 0)) → (kq = fR H1129 a0 (K.1.2 4 3)) → (fI H1129 kq (F : Int32).toNatClampNeg = 26) → (x1134.toInt = x1132.toInt ∧ x1133.toInt ≤ F.toInt) → W p l e ({ frames := 38, cells := 0, slots := 0, locals := 847 } : Room) s m (([.ref a0] : List Value).toArray) below meth c H1129 locsH1129 0 0 Q (F0 m 145 ls1130 []) := by
      intro ls1130 H1129 locsH1129 x1132 x1133 x1134 hl1131 hTH1129 hSH1129 bx1132 bx1133 bx1134 ex1133 ex1134 cy1135_0 cy1135_1 cy1135_2 iv145
      have J195 : ∀ (ls1137 : Array Slot) (H1136 : Heap) (locsH1136 : List Loc) (x1139 : Int32) (x1140 : Int32), lv_has ls1137 3 [(0, .ref a0), (2, .int x1132)] → TY K G H1136 → va_S (AE G [78, 69, 77, 70, 71, 72, 73, 74, 75, 76] s.heap.size) s.heap H1136 locsH1136 → (0 ≤ x1139.toInt ∧ x1139.toInt ≤ 500) → (0 ≤ x1140.toInt ∧ x1140.toInt ≤ 16) → (x1139 = fI H1136 a0 (K.1.2 4 7)) → (x1140 = fI H1136 mq (K.1.2 7 0)) → (mq = fR H1136 a0 (K.1.2 4 0)) → (kq = fR H1136 a0 (K.1.2 4 3)) → (fI H1136 kq (F : Int32).toNatClampNeg = 26) → (x1140.toInt = x1132.toInt ∧ x1139.toInt ≤ F.toInt) → W p l e ({ frames := 38, cells := 0, slots := 0, locals := 847 } : Room) s m (([.ref a0] : List Value).toArray) below meth c H1136 locsH1136 0 0 Q (F0 m 195 ls1137 []) := by
        intro ls1137 H1136 locsH1136 x1139 x1140 hl1138 hTH1136 hSH1136 bx1139 bx1140 ex1139 ex1140 cy1141_0 cy1141_1 cy1141_2 iv195
        refine lv_aload_n hx hb dX4_line_195 rfl (lv_at hl1138 0 rfl) ?_
        refine x_gr C hTH1136 (ci := 4) (k := 0) rfl inX4 (by decide) wF_X4_12 ga0 rg_78 rfl dX4_line_196 (fun q1142 eq1142 gq1142 => ?_)
        have uq1142 : mq = q1142 := (cy1141_0).trans eq1142.symm
        subst uq1142
        refine x_gr C hTH1136 (ci := 7) (k := 7) rfl inX7 (by decide) wF_X4_116 gmq rg_69 rfl dX4_line_199 (fun q1143 eq1143 gq1143 => ?_)
        refine lv_iload_n hx hb dX4_line_202 rfl (lv_at hl1138 1 rfl) ?_
        refine lv_aload_n hx hb dX4_line_203 rfl (lv_at hl1138 0 rfl) ?_
        refine x_gr C hTH1136 (ci := 4) (k := 0) rfl inX4 (by decide) wF_X4_12 ga0 rg_78 rfl dX4_line_204 (fun q1144 eq1144 gq1144 => ?_)
        have uq1144 : mq = q1144 := (cy1141_0).trans eq1144.symm
        subst uq1144
        refine x_gi C hTH1136 (ci := 7) (k := 9) rfl inX7 (by decide) wF_X4_96 gmq rg_69 rfl dX4_line_207 (fun x1145 ex1145 bx1145 => ?_)
        refine x_iast C hTH1136 hSH1136 gq1143 rg_76 (by omega) (by show _ < ((16 : Nat) : Int); omega) ⟨by have := i_rng x1145; omega, by have := i_rng x1145; omega⟩ (AE_in gq1143 (by decide)) dX4_line_210 (fun H1146 locsH1146 hTH1146 hSH1146 wH1146 => ?_)
        have m1147 := ex1139.trans (Wr.neI wH1146 (Or.inl (G_ne ga0 gq1143 (by decide)))).symm
        have m1148 := ex1140.trans (Wr.neI wH1146 (Or.inl (G_ne gmq gq1143 (by decide)))).symm
        have m1149 := cy1141_0.trans (Wr.neR wH1146 (Or.inl (G_ne ga0 gq1143 (by decide)))).symm
        have m1150 := cy1141_1.trans (Wr.neR wH1146 (Or.inl (G_ne ga0 gq1143 (by decide)))).symm
        have m1151 := (Wr.neI wH1146 (Or.inl (G_ne gkq gq1143 (by decide)))).trans cy1141_2
        have m1152 := eq1143.trans (Wr.neR wH1146 (Or.inl (G_ne gmq gq1143 (by decide)))).symm
        have m1153 := ex1145.trans (Wr.neI wH1146 (Or.inl (G_ne gmq gq1143 (by decide)))).symm
        refine lv_aload_n hx hb dX4_line_211 rfl (lv_at hl1138 0 rfl) ?_
        refine x_gr C hTH1146 (ci := 4) (k := 3) rfl inX4 (by decide) wF_X4_18 ga0 rg_78 rfl dX4_line_212 (fun q1154 eq1154 gq1154 => ?_)
        have uq1154 : kq = q1154 := (m1150).trans eq1154.symm
        subst uq1154
        refine lv_aload_n hx hb dX4_line_215 rfl (lv_at hl1138 0 rfl) ?_
        refine x_gi C hTH1146 (ci := 4) (k := 7) rfl inX4 (by decide) wF_X4_42 ga0 rg_78 rfl dX4_line_216 (fun x1155 ex1155 bx1155 => ?_)
        have ux1155 : x1139 = x1155 := (m1147).trans ex1155.symm
        subst ux1155
        refine x_ai C hTH1146 gkq rg_79 ⟨by omega, by show _ < ((501 : Nat) : Int); omega⟩ dX4_line_219 (fun x1156 ex1156 bx1156 => ?_)
        have dx1156 := el_hit ex1156 m1151
        refine lv_bipush (v := 59) hx hb dX4_line_220 (by decide) ?_
        refine lv_icmp_eq (tgt := 231) hx hb dX4_line_222 (by decide) (fun c1157 => ?_) (fun c1157 => ?_)
        · have k1158 := i_eq c1157
          refine lv_aload_n hx hb dX4_line_231 rfl (lv_at hl1138 0 rfl) ?_
          refine lv_dup hx hb dX4_line_232 rfl ?_
          refine x_gi C hTH1146 (ci := 4) (k := 7) rfl inX4 (by decide) wF_X4_42 ga0 rg_78 rfl dX4_line_233 (fun x1159 ex1159 bx1159 => ?_)
          have ux1159 : x1139 = x1159 := (m1147).trans ex1159.symm
          subst ux1159
          refine lv_iconst (v := 1) hx hb dX4_line_236 (by decide) ?_
          refine lv_iadd hx hb dX4_line_237 ?_
          refine lv_topi (fun x1160 ex1160 => ?_)
          have tx1160 := i_add ex1160 (by omega)
          have fz1162 : 0 ≤ x1160.toInt ∧ x1160.toInt ≤ 500 := by have := i_rng x1160; omega
          refine x_put C hTH1146 hSH1146 (ci := 4) (k := 7) (v := .int x1160) (ty0 := tyX4) rfl inX4 tyX4_ok nmX4 (by decide) rfl wF_X4_42 ga0 rg_78 rfl rfl (okI (by have := i_rng x1160; omega) (by have := i_rng x1160; omega)) rfl rfl (AE_in ga0 (by decide)) dX4_line_238 (fun H1161 locsH1161 hTH1161 hSH1161 wH1161 => ?_)
          have m1164 := m1148.trans (Wr.neI wH1161 (Or.inl (G_ne gmq ga0 (by decide)))).symm
          have m1165 := m1149.trans (Wr.neR wH1161 (Or.inr (x_apart hKT hts inX4 tyX4 tyX4_ok nmX4 rfl 0 7 (by decide) (by decide) (by decide)))).symm
          have m1166 := m1150.trans (Wr.neR wH1161 (Or.inr (x_apart hKT hts inX4 tyX4 tyX4_ok nmX4 rfl 3 7 (by decide) (by decide) (by decide)))).symm
          have m1167 := (Wr.neI wH1161 (Or.inl (G_ne gkq ga0 (by decide)))).trans m1151
          have m1168 := m1152.trans (Wr.neR wH1161 (Or.inl (G_ne gmq ga0 (by decide)))).symm
          have m1169 := m1153.trans (Wr.neI wH1161 (Or.inl (G_ne gmq ga0 (by decide)))).symm
          have m1170 := Wr.I wH1161
          have m1170 := m1170.symm
          refine lv_aload_n hx hb dX4_line_241 rfl (lv_at hl1138 0 rfl) ?_
          refine x_gr C hTH1161 (ci := 4) (k := 0) rfl inX4 (by decide) wF_X4_12 ga0 rg_78 rfl dX4_line_242 (fun q1171 eq1171 gq1171 => ?_)
          have uq1171 : mq = q1171 := (m1165).trans eq1171.symm
          subst uq1171
          refine lv_dup hx hb dX4_line_245 rfl ?_
          refine x_gi C hTH1161 (ci := 7) (k := 0) rfl inX7 (by decide) wF_X4_84 gmq rg_69 rfl dX4_line_246 (fun x1172 ex1172 bx1172 => ?_)
          have ux1172 : x1140 = x1172 := (m1164).trans ex1172.symm
          subst ux1172
          refine lv_iconst (v := 1) hx hb dX4_line_249 (by decide) ?_
          refine lv_iadd hx hb dX4_line_250 ?_
          refine lv_topi (fun x1173 ex1173 => ?_)
          have tx1173 := i_add ex1173 (by omega)
          have fz1175 : 0 ≤ x1173.toInt ∧ x1173.toInt ≤ 16 := by have := i_rng x1173; omega
          refine x_put C hTH1161 hSH1161 (ci := 7) (k := 0) (v := .int x1173) (ty0 := tyX7) rfl inX7 tyX7_ok nmX7 (by decide) rfl wF_X4_84 gmq rg_69 rfl rfl (okI (by have := i_rng x1173; omega) (by have := i_rng x1173; omega)) rfl rfl (AE_in gmq (by decide)) dX4_line_251 (fun H1174 locsH1174 hTH1174 hSH1174 wH1174 => ?_)
          have m1177 := m1165.trans (Wr.neR wH1174 (Or.inl (G_ne ga0 gmq (by decide)))).symm
          have m1178 := m1166.trans (Wr.neR wH1174 (Or.inl (G_ne ga0 gmq (by decide)))).symm
          have m1179 := (Wr.neI wH1174 (Or.inl (G_ne gkq gmq (by decide)))).trans m1167
          have m1180 := m1168.trans (Wr.neR wH1174 (Or.inr (x_apart hKT hts inX7 tyX7 tyX7_ok nmX7 rfl 7 0 (by decide) (by decide) (by decide)))).symm
          have m1181 := m1169.trans (Wr.neI wH1174 (Or.inr (x_apart hKT hts inX7 tyX7 tyX7_ok nmX7 rfl 9 0 (by decide) (by decide) (by decide)))).symm
          have m1182 := m1170.trans (Wr.neI wH1174 (Or.inl (G_ne ga0 gmq (by decide)))).symm
          have m1183 := Wr.I wH1174
          have m1183 := m1183.symm
          refine lv_iconst (v := 1) hx hb dX4_line_254 (by decide) ?_
          exact x_zret C hQ (Or.inr rfl) dX4_line_255 hSH1174 (by decide) (by decide) (⟨1, x1160, x1173, rfl, by decide, m1182, m1183, by omega, m1177, m1178, hTH1174⟩)
        · have k1158 := i_ne c1157
          refine lv_aload_n hx hb dX4_line_225 rfl (lv_at hl1138 0 rfl) ?_
          refine lv_iconst (v := 1) hx hb dX4_line_226 (by decide) ?_
          refine x_V (As := [.int 1]) (rest := []) C (a_X4_refuse l K G H1146 (1) (x1139) hTH1146 ga0 gmq m1149 gkq m1150 m1147) yo_X4_refuse wM_X4_81 ⟨⟨by decide, by decide⟩, by decide, by decide⟩ (x_rv C hTH1146 (ci := 4) rfl ga0 rg_78) rfl hl1138.1 rfl (Nat.le_of_ble_eq_true rfl) dX4_line_227 hSH1146 (AE_sub (fun _ _ => rfl) (by decide) hSH1146.1) (fun vH1184 H1184 locsH1184 pH1184 zH1184 kH1184 hSH1184 => ?_)
          obtain ⟨x1185, x1186, hvH1184, bx1185, ex1186, hrH1184, m1187, m1188, hTH1184⟩ := pH1184
          subst hvH1184
          have m1189 := (m1148).trans (fI_kept (x_lt hTH1146 kH1184 gmq (by decide))).symm
          have m1190 := (fI_kept (x_lt hTH1146 kH1184 gkq (by decide))).trans m1151
          have m1191 := (m1152).trans (fR_kept (x_lt hTH1146 kH1184 gmq (by decide))).symm
          have m1192 := (m1153).trans (fI_kept (x_lt hTH1146 kH1184 gmq (by decide))).symm
          have bx1186 := ty_fi (x := x1186) (k := 7) ex1186 hTH1184 ga0 rg_78 rfl
          refine W.eq (g2 := F0 m 230 ls1137 [.int x1185]) rfl ?_
          exact x_zret C hQ (i_01 (by omega)) dX4_line_230 hSH1184 (by decide) (by decide) (⟨x1185, x1186, x1140, rfl, by omega, ex1186, m1189, by omega, m1187, m1188, hTH1184⟩)
      refine lv_aload_n hx hb dX4_line_145 rfl (lv_at hl1131 0 rfl) ?_
      refine x_gr C hTH1129 (ci := 4) (k := 0) rfl inX4 (by decide) wF_X4_12 ga0 rg_78 rfl dX4_line_146 (fun q1193 eq1193 gq1193 => ?_)
      have uq1193 : mq = q1193 := (cy1135_0).trans eq1193.symm
      subst uq1193
      refine x_gr C hTH1129 (ci := 7) (k := 6) rfl inX7 (by decide) wF_X4_110 gmq rg_69 rfl dX4_line_149 (fun q1194 eq1194 gq1194 => ?_)
      refine lv_iload_n hx hb dX4_line_152 rfl (lv_at hl1131 1 rfl) ?_
      refine lv_aload_n hx hb dX4_line_153 rfl (lv_at hl1131 0 rfl) ?_
      refine x_gr C hTH1129 (ci := 4) (k := 0) rfl inX4 (by decide) wF_X4_12 ga0 rg_78 rfl dX4_line_154 (fun q1195 eq1195 gq1195 => ?_)
      have uq1195 : mq = q1195 := (cy1135_0).trans eq1195.symm
      subst uq1195
      refine x_gi C hTH1129 (ci := 7) (k := 9) rfl inX7 (by decide) wF_X4_96 gmq rg_69 rfl dX4_line_157 (fun x1196 ex1196 bx1196 => ?_)
      refine x_iast C hTH1129 hSH1129 gq1194 rg_75 (by omega) (by show _ < ((16 : Nat) : Int); omega) ⟨by have := i_rng x1196; omega, by have := i_rng x1196; omega⟩ (AE_in gq1194 (by decide)) dX4_line_160 (fun H1197 locsH1197 hTH1197 hSH1197 wH1197 => ?_)
      have m1198 := ex1133.trans (Wr.neI wH1197 (Or.inl (G_ne ga0 gq1194 (by decide)))).symm
      have m1199 := ex1134.trans (Wr.neI wH1197 (Or.inl (G_ne gmq gq1194 (by decide)))).symm
      have m1200 := cy1135_0.trans (Wr.neR wH1197 (Or.inl (G_ne ga0 gq1194 (by decide)))).symm
      have m1201 := cy1135_1.trans (Wr.neR wH1197 (Or.inl (G_ne ga0 gq1194 (by decide)))).symm
      have m1202 := (Wr.neI wH1197 (Or.inl (G_ne gkq gq1194 (by decide)))).trans cy1135_2
      have m1203 := eq1194.trans (Wr.neR wH1197 (Or.inl (G_ne gmq gq1194 (by decide)))).symm
      have m1204 := ex1196.trans (Wr.neI wH1197 (Or.inl (G_ne gmq gq1194 (by decide)))).symm
      refine lv_aload_n hx hb dX4_line_161 rfl (lv_at hl1131 0 rfl) ?_
      refine x_gr C hTH1197 (ci := 4) (k := 3) rfl inX4 (by decide) wF_X4_18 ga0 rg_78 rfl dX4_line_162 (fun q1205 eq1205 gq1205 => ?_)
      have uq1205 : kq = q1205 := (m1201).trans eq1205.symm
      subst uq1205
      refine lv_aload_n hx hb dX4_line_165 rfl (lv_at hl1131 0 rfl) ?_
      refine x_gi C hTH1197 (ci := 4) (k := 7) rfl inX4 (by decide) wF_X4_42 ga0 rg_78 rfl dX4_line_166 (fun x1206 ex1206 bx1206 => ?_)
      have ux1206 : x1133 = x1206 := (m1198).trans ex1206.symm
      subst ux1206
      refine x_ai C hTH1197 gkq rg_79 ⟨by omega, by show _ < ((501 : Nat) : Int); omega⟩ dX4_line_169 (fun x1207 ex1207 bx1207 => ?_)
      have dx1207 := el_hit ex1207 m1202
      refine lv_bipush (v := 7) hx hb dX4_line_170 (by decide) ?_
      refine lv_icmp_ne (tgt := 195) hx hb dX4_line_172 (by decide) (fun c1208 => ?_) (fun c1208 => ?_)
      · have k1209 := i_ne c1208
        exact J195 ls1130 H1197 locsH1197 (x1133) (x1134) (lv_sub hl1131 [0, 1] rfl) hTH1197 hSH1197 (by have := i_rng x1133; omega) (by have := i_rng x1134; omega) m1198 m1199 m1200 m1201 m1202 (by omega)
      · have k1209 := i_eq c1208
        refine lv_aload_n hx hb dX4_line_175 rfl (lv_at hl1131 0 rfl) ?_
        refine lv_dup hx hb dX4_line_176 rfl ?_
        refine x_gi C hTH1197 (ci := 4) (k := 7) rfl inX4 (by decide) wF_X4_42 ga0 rg_78 rfl dX4_line_177 (fun x1210 ex1210 bx1210 => ?_)
        have ux1210 : x1133 = x1210 := (m1198).trans ex1210.symm
        subst ux1210
        refine lv_iconst (v := 1) hx hb dX4_line_180 (by decide) ?_
        refine lv_iadd hx hb dX4_line_181 ?_
        refine lv_topi (fun x1211 ex1211 => ?_)
        have tx1211 := i_add ex1211 (by omega)
        have fz1213 : 0 ≤ x1211.toInt ∧ x1211.toInt ≤ 500 := by have := i_rng x1211; omega
        refine x_put C hTH1197 hSH1197 (ci := 4) (k := 7) (v := .int x1211) (ty0 := tyX4) rfl inX4 tyX4_ok nmX4 (by decide) rfl wF_X4_42 ga0 rg_78 rfl rfl (okI (by have := i_rng x1211; omega) (by have := i_rng x1211; omega)) rfl rfl (AE_in ga0 (by decide)) dX4_line_182 (fun H1212 locsH1212 hTH1212 hSH1212 wH1212 => ?_)
        have m1215 := m1199.trans (Wr.neI wH1212 (Or.inl (G_ne gmq ga0 (by decide)))).symm
        have m1216 := m1200.trans (Wr.neR wH1212 (Or.inr (x_apart hKT hts inX4 tyX4 tyX4_ok nmX4 rfl 0 7 (by decide) (by decide) (by decide)))).symm
        have m1217 := m1201.trans (Wr.neR wH1212 (Or.inr (x_apart hKT hts inX4 tyX4 tyX4_ok nmX4 rfl 3 7 (by decide) (by decide) (by decide)))).symm
        have m1218 := (Wr.neI wH1212 (Or.inl (G_ne gkq ga0 (by decide)))).trans m1202
        have m1219 := m1203.trans (Wr.neR wH1212 (Or.inl (G_ne gmq ga0 (by decide)))).symm
        have m1220 := m1204.trans (Wr.neI wH1212 (Or.inl (G_ne gmq ga0 (by decide)))).symm
        have m1221 := Wr.I wH1212
        have m1221 := m1221.symm
        refine lv_aload_n hx hb dX4_line_185 rfl (lv_at hl1131 0 rfl) ?_
        refine lv_iconst (v := 0) hx hb dX4_line_186 (by decide) ?_
        refine x_V (As := [.int 0]) (rest := []) C (a_X4_either_0 l K G H1212 (0) (F) (x1211) (x1134) hTH1212 ga0 (by decide) gmq m1216 gkq m1217 m1221 m1215 m1218 (by omega) (by omega)) yo_X4_either wM_X4_113 ⟨⟨by decide, by decide⟩, by decide, by decide⟩ (x_rv C hTH1212 (ci := 4) rfl ga0 rg_78) rfl hl1131.1 rfl (Nat.le_of_ble_eq_true rfl) dX4_line_187 hSH1212 (AE_sub (fun _ _ => rfl) (by decide) hSH1212.1) (fun vH1222 H1222 locsH1222 pH1222 zH1222 kH1222 hSH1222 => ?_)
        obtain ⟨x1223, x1224, x1225, hvH1222, bx1223, ex1224, ex1225, hrH1222, m1226, m1227, hTH1222⟩ := pH1222
        subst hvH1222
        have m1228 := (fI_kept (x_lt hTH1212 kH1222 gkq (by decide))).trans m1218
        have bx1224 := ty_fi (x := x1224) (k := 7) ex1224 hTH1222 ga0 rg_78 rfl
        have bx1225 := ty_fi (x := x1225) (k := 0) ex1225 hTH1222 gmq rg_69 rfl
        refine W.eq (g2 := F0 m 190 ls1130 [.int x1223]) rfl ?_
        refine lv_if_ne (tgt := 195) hx hb dX4_line_190 (by decide) (fun c1229 => ?_) (fun c1229 => ?_)
        · have k1230 := i_ne c1229
          exact J195 ls1130 H1222 locsH1222 (x1224) (x1225) (lv_sub hl1131 [0, 1] rfl) hTH1222 hSH1222 (by have := i_rng x1224; omega) (by have := i_rng x1225; omega) ex1224 ex1225 m1226 m1227 m1228 (by omega)
        · have k1230 := i_eq c1229
          refine lv_iconst (v := 0) hx hb dX4_line_193 (by decide) ?_
          exact x_zret C hQ (Or.inl rfl) dX4_line_194 hSH1222 (by decide) (by decide) (⟨0, x1224, x1225, rfl, by decide, ex1224, ex1225, by omega, m1226, m1227, hTH1222⟩)
    have J143 : ∀ (ls1232 : Array Slot) (H1231 : Heap) (locsH1231 : List Loc) (x1234 : Int32) (x1235 : Int32), lv_has ls1232 3 [] → TY K G H1231 → va_S (AE G [78, 69, 77, 70, 71, 72, 73, 74, 75, 76] s.heap.size) s.heap H1231 locsH1231 → (0 ≤ x1234.toInt ∧ x1234.toInt ≤ 500) → (0 ≤ x1235.toInt ∧ x1235.toInt ≤ 16) → (x1234 = fI H1231 a0 (K.1.2 4 7)) → (x1235 = fI H1231 mq (K.1.2 7 0)) → (mq = fR H1231 a0 (K.1.2 4 0)) → (kq = fR H1231 a0 (K.1.2 4 3)) → (fI H1231 kq (F : Int32).toNatClampNeg = 26) → (x1234.toInt ≤ F.toInt) → W p l e ({ frames := 38, cells := 0, slots := 0, locals := 847 } : Room) s m (([.ref a0] : List Value).toArray) below meth c H1231 locsH1231 0 0 Q (F0 m 143 ls1232 []) := by
      intro ls1232 H1231 locsH1231 x1234 x1235 hl1233 hTH1231 hSH1231 bx1234 bx1235 ex1234 ex1235 cy1236_0 cy1236_1 cy1236_2 iv143
      refine lv_iconst (v := 0) hx hb dX4_line_143 (by decide) ?_
      exact x_zret C hQ (Or.inl rfl) dX4_line_144 hSH1231 (by decide) (by decide) (⟨0, x1234, x1235, rfl, by decide, ex1234, ex1235, by omega, cy1236_0, cy1236_1, hTH1231⟩)
    refine lv_aload_n hx hb dX4_line_42 rfl (lv_at hl1124 0 rfl) ?_
    refine x_gr C hTH1122 (ci := 4) (k := 0) rfl inX4 (by decide) wF_X4_12 ga0 rg_78 rfl dX4_line_43 (fun q1237 eq1237 gq1237 => ?_)
    have uq1237 : mq = q1237 := (cy1128_0).trans eq1237.symm
    subst uq1237
    refine x_gi C hTH1122 (ci := 7) (k := 0) rfl inX7 (by decide) wF_X4_84 gmq rg_69 rfl dX4_line_46 (fun x1238 ex1238 bx1238 => ?_)
    have ux1238 : x1127 = x1238 := (ex1127).trans ex1238.symm
    subst ux1238
    refine lv_istore_n (lv' := [(2, .int x1127), (0, .ref a0), (1, .int x1125)]) hx hb dX4_line_49 rfl hl1124 (by decide) rfl (fun ls1239 hl1240 => ?_)
    refine lv_iload_n hx hb dX4_line_50 rfl (lv_at hl1240 0 rfl) ?_
    refine lv_bipush (v := 16) hx hb dX4_line_51 (by decide) ?_
    refine lv_icmp_lt (tgt := 62) hx hb dX4_line_53 (by decide) (fun c1241 => ?_) (fun c1241 => ?_)
    · have k1242 := i_lt c1241
      refine lv_aload_n hx hb dX4_line_62 rfl (lv_at hl1240 1 rfl) ?_
      refine lv_dup hx hb dX4_line_63 rfl ?_
      refine x_gi C hTH1122 (ci := 4) (k := 7) rfl inX4 (by decide) wF_X4_42 ga0 rg_78 rfl dX4_line_64 (fun x1243 ex1243 bx1243 => ?_)
      have ux1243 : x1126 = x1243 := (ex1126).trans ex1243.symm
      subst ux1243
      refine lv_iconst (v := 1) hx hb dX4_line_67 (by decide) ?_
      refine lv_iadd hx hb dX4_line_68 ?_
      refine lv_topi (fun x1244 ex1244 => ?_)
      have tx1244 := i_add ex1244 (by omega)
      have fz1246 : 0 ≤ x1244.toInt ∧ x1244.toInt ≤ 500 := by have := i_rng x1244; omega
      refine x_put C hTH1122 hSH1122 (ci := 4) (k := 7) (v := .int x1244) (ty0 := tyX4) rfl inX4 tyX4_ok nmX4 (by decide) rfl wF_X4_42 ga0 rg_78 rfl rfl (okI (by have := i_rng x1244; omega) (by have := i_rng x1244; omega)) rfl rfl (AE_in ga0 (by decide)) dX4_line_69 (fun H1245 locsH1245 hTH1245 hSH1245 wH1245 => ?_)
      have m1248 := ex1127.trans (Wr.neI wH1245 (Or.inl (G_ne gmq ga0 (by decide)))).symm
      have m1249 := cy1128_0.trans (Wr.neR wH1245 (Or.inr (x_apart hKT hts inX4 tyX4 tyX4_ok nmX4 rfl 0 7 (by decide) (by decide) (by decide)))).symm
      have m1250 := cy1128_1.trans (Wr.neR wH1245 (Or.inr (x_apart hKT hts inX4 tyX4 tyX4_ok nmX4 rfl 3 7 (by decide) (by decide) (by decide)))).symm
      have m1251 := (Wr.neI wH1245 (Or.inl (G_ne gkq ga0 (by decide)))).trans cy1128_2
      have m1252 := Wr.I wH1245
      have m1252 := m1252.symm
      refine lv_aload_n hx hb dX4_line_72 rfl (lv_at hl1240 1 rfl) ?_
      refine x_gr C hTH1245 (ci := 4) (k := 0) rfl inX4 (by decide) wF_X4_12 ga0 rg_78 rfl dX4_line_73 (fun q1253 eq1253 gq1253 => ?_)
      have uq1253 : mq = q1253 := (m1249).trans eq1253.symm
      subst uq1253
      refine x_gr C hTH1245 (ci := 7) (k := 1) rfl inX7 (by decide) wF_X4_87 gmq rg_69 rfl dX4_line_76 (fun q1254 eq1254 gq1254 => ?_)
      refine lv_iload_n hx hb dX4_line_79 rfl (lv_at hl1240 0 rfl) ?_
      refine lv_iload_n hx hb dX4_line_80 rfl (lv_at hl1240 2 rfl) ?_
      refine x_iast C hTH1245 hSH1245 gq1254 rg_70 (by omega) (by show _ < ((16 : Nat) : Int); omega) ⟨by have := i_rng x1125; omega, by have := i_rng x1125; omega⟩ (AE_in gq1254 (by decide)) dX4_line_81 (fun H1255 locsH1255 hTH1255 hSH1255 wH1255 => ?_)
      have m1256 := m1248.trans (Wr.neI wH1255 (Or.inl (G_ne gmq gq1254 (by decide)))).symm
      have m1257 := m1249.trans (Wr.neR wH1255 (Or.inl (G_ne ga0 gq1254 (by decide)))).symm
      have m1258 := m1250.trans (Wr.neR wH1255 (Or.inl (G_ne ga0 gq1254 (by decide)))).symm
      have m1259 := (Wr.neI wH1255 (Or.inl (G_ne gkq gq1254 (by decide)))).trans m1251
      have m1260 := m1252.trans (Wr.neI wH1255 (Or.inl (G_ne ga0 gq1254 (by decide)))).symm
      have m1261 := eq1254.trans (Wr.neR wH1255 (Or.inl (G_ne gmq gq1254 (by decide)))).symm
      refine lv_aload_n hx hb dX4_line_82 rfl (lv_at hl1240 1 rfl) ?_
      refine x_gr C hTH1255 (ci := 4) (k := 0) rfl inX4 (by decide) wF_X4_12 ga0 rg_78 rfl dX4_line_83 (fun q1262 eq1262 gq1262 => ?_)
      have uq1262 : mq = q1262 := (m1257).trans eq1262.symm
      subst uq1262
      refine x_gr C hTH1255 (ci := 7) (k := 2) rfl inX7 (by decide) wF_X4_90 gmq rg_69 rfl dX4_line_86 (fun q1263 eq1263 gq1263 => ?_)
      refine lv_iload_n hx hb dX4_line_89 rfl (lv_at hl1240 0 rfl) ?_
      refine lv_iconst (v := 0) hx hb dX4_line_90 (by decide) ?_
      refine x_iast C hTH1255 hSH1255 gq1263 rg_71 (by omega) (by show _ < ((16 : Nat) : Int); omega) (by decide) (AE_in gq1263 (by decide)) dX4_line_91 (fun H1264 locsH1264 hTH1264 hSH1264 wH1264 => ?_)
      have m1265 := m1256.trans (Wr.neI wH1264 (Or.inl (G_ne gmq gq1263 (by decide)))).symm
      have m1266 := m1257.trans (Wr.neR wH1264 (Or.inl (G_ne ga0 gq1263 (by decide)))).symm
      have m1267 := m1258.trans (Wr.neR wH1264 (Or.inl (G_ne ga0 gq1263 (by decide)))).symm
      have m1268 := (Wr.neI wH1264 (Or.inl (G_ne gkq gq1263 (by decide)))).trans m1259
      have m1269 := m1260.trans (Wr.neI wH1264 (Or.inl (G_ne ga0 gq1263 (by decide)))).symm
      have m1270 := m1261.trans (Wr.neR wH1264 (Or.inl (G_ne gmq gq1263 (by decide)))).symm
      have m1271 := eq1263.trans (Wr.neR wH1264 (Or.inl (G_ne gmq gq1263 (by decide)))).symm
      refine lv_aload_n hx hb dX4_line_92 rfl (lv_at hl1240 1 rfl) ?_
      refine x_gr C hTH1264 (ci := 4) (k := 0) rfl inX4 (by decide) wF_X4_12 ga0 rg_78 rfl dX4_line_93 (fun q1272 eq1272 gq1272 => ?_)
      have uq1272 : mq = q1272 := (m1266).trans eq1272.symm
      subst uq1272
      refine x_gr C hTH1264 (ci := 7) (k := 5) rfl inX7 (by decide) wF_X4_93 gmq rg_69 rfl dX4_line_96 (fun q1273 eq1273 gq1273 => ?_)
      refine lv_iload_n hx hb dX4_line_99 rfl (lv_at hl1240 0 rfl) ?_
      refine lv_aload_n hx hb dX4_line_100 rfl (lv_at hl1240 1 rfl) ?_
      refine x_gr C hTH1264 (ci := 4) (k := 0) rfl inX4 (by decide) wF_X4_12 ga0 rg_78 rfl dX4_line_101 (fun q1274 eq1274 gq1274 => ?_)
      have uq1274 : mq = q1274 := (m1266).trans eq1274.symm
      subst uq1274
      refine x_gi C hTH1264 (ci := 7) (k := 9) rfl inX7 (by decide) wF_X4_96 gmq rg_69 rfl dX4_line_104 (fun x1275 ex1275 bx1275 => ?_)
      refine x_iast C hTH1264 hSH1264 gq1273 rg_74 (by omega) (by show _ < ((16 : Nat) : Int); omega) ⟨by have := i_rng x1275; omega, by have := i_rng x1275; omega⟩ (AE_in gq1273 (by decide)) dX4_line_107 (fun H1276 locsH1276 hTH1276 hSH1276 wH1276 => ?_)
      have m1277 := m1265.trans (Wr.neI wH1276 (Or.inl (G_ne gmq gq1273 (by decide)))).symm
      have m1278 := m1266.trans (Wr.neR wH1276 (Or.inl (G_ne ga0 gq1273 (by decide)))).symm
      have m1279 := m1267.trans (Wr.neR wH1276 (Or.inl (G_ne ga0 gq1273 (by decide)))).symm
      have m1280 := (Wr.neI wH1276 (Or.inl (G_ne gkq gq1273 (by decide)))).trans m1268
      have m1281 := m1269.trans (Wr.neI wH1276 (Or.inl (G_ne ga0 gq1273 (by decide)))).symm
      have m1282 := m1270.trans (Wr.neR wH1276 (Or.inl (G_ne gmq gq1273 (by decide)))).symm
      have m1283 := m1271.trans (Wr.neR wH1276 (Or.inl (G_ne gmq gq1273 (by decide)))).symm
      have m1284 := eq1273.trans (Wr.neR wH1276 (Or.inl (G_ne gmq gq1273 (by decide)))).symm
      have m1285 := ex1275.trans (Wr.neI wH1276 (Or.inl (G_ne gmq gq1273 (by decide)))).symm
      refine lv_aload_n hx hb dX4_line_108 rfl (lv_at hl1240 1 rfl) ?_
      refine x_gi C hTH1276 (ci := 4) (k := 8) rfl inX4 (by decide) wF_X4_28 ga0 rg_78 rfl dX4_line_109 (fun x1286 ex1286 bx1286 => ?_)
      refine lv_if_eq (tgt := 134) hx hb dX4_line_112 (by decide) (fun c1287 => ?_) (fun c1287 => ?_)
      · have k1288 := i_eq c1287
        refine lv_aload_n hx hb dX4_line_134 rfl (lv_at hl1240 1 rfl) ?_
        refine lv_iload_n hx hb dX4_line_135 rfl (lv_at hl1240 0 rfl) ?_
        refine lv_iload_n hx hb dX4_line_136 rfl (lv_at hl1240 2 rfl) ?_
        refine x_V (As := [.int x1127, .int x1125]) (rest := []) C (a_X4_jobHead l K G H1276 (x1127) (x1125) (F) (x1244) (x1127) hTH1276 ga0 (by omega) gmq m1278 gkq m1279 m1281 m1277 m1280 (by omega) (by omega)) yo_X4_jobHead wM_X4_107 ⟨⟨by decide, by decide⟩, by decide, by decide⟩ (x_rv C hTH1276 (ci := 4) rfl ga0 rg_78) rfl hl1240.1 rfl (Nat.le_of_ble_eq_true rfl) dX4_line_137 hSH1276 (AE_sub (fun _ _ => rfl) (by decide) hSH1276.1) (fun vH1289 H1289 locsH1289 pH1289 zH1289 kH1289 hSH1289 => ?_)
        obtain ⟨x1290, x1291, hvH1289, bx1290, ex1291, hrH1289, m1292, m1293, hTH1289⟩ := pH1289
        subst hvH1289
        have m1294 := (m1277).trans (fI_kept (x_lt hTH1276 kH1289 gmq (by decide))).symm
        have m1295 := (fI_kept (x_lt hTH1276 kH1289 gkq (by decide))).trans m1280
        have m1296 := (m1282).trans (fR_kept (x_lt hTH1276 kH1289 gmq (by decide))).symm
        have m1297 := (m1283).trans (fR_kept (x_lt hTH1276 kH1289 gmq (by decide))).symm
        have m1298 := (m1284).trans (fR_kept (x_lt hTH1276 kH1289 gmq (by decide))).symm
        have m1299 := (m1285).trans (fI_kept (x_lt hTH1276 kH1289 gmq (by decide))).symm
        have bx1291 := ty_fi (x := x1291) (k := 7) ex1291 hTH1289 ga0 rg_78 rfl
        refine W.eq (g2 := F0 m 140 ls1239 [.int x1290]) rfl ?_
        refine lv_if_ne (tgt := 145) hx hb dX4_line_140 (by decide) (fun c1300 => ?_) (fun c1300 => ?_)
        · have k1301 := i_ne c1300
          exact J145 ls1239 H1289 locsH1289 (x1127) (x1291) (x1127) (lv_sub hl1240 [1, 0] rfl) hTH1289 hSH1289 (by have := i_rng x1127; omega) (by have := i_rng x1291; omega) (by have := i_rng x1127; omega) ex1291 m1294 m1292 m1293 m1295 (by omega)
        · have k1301 := i_eq c1300
          exact J143 ls1239 H1289 locsH1289 (x1291) (x1127) (lv_sub hl1240 [] rfl) hTH1289 hSH1289 (by have := i_rng x1291; omega) (by have := i_rng x1127; omega) ex1291 m1294 m1292 m1293 m1295 (by omega)
      · have k1288 := i_ne c1287
        refine lv_aload_n hx hb dX4_line_115 rfl (lv_at hl1240 1 rfl) ?_
        refine lv_iload_n hx hb dX4_line_116 rfl (lv_at hl1240 0 rfl) ?_
        refine lv_iload_n hx hb dX4_line_117 rfl (lv_at hl1240 2 rfl) ?_
        refine x_V (As := [.int x1127, .int x1125]) (rest := []) C (a_X4_lawHead l K G H1276 (x1127) (x1125) (F) (x1244) (x1127) hTH1276 ga0 (by omega) gmq m1278 gkq m1279 m1281 m1277 m1280 (by omega) (by omega)) yo_X4_lawHead wM_X4_99 ⟨⟨by decide, by decide⟩, by decide, by decide⟩ (x_rv C hTH1276 (ci := 4) rfl ga0 rg_78) rfl hl1240.1 rfl (Nat.le_of_ble_eq_true rfl) dX4_line_118 hSH1276 (AE_sub (fun _ _ => rfl) (by decide) hSH1276.1) (fun vH1302 H1302 locsH1302 pH1302 zH1302 kH1302 hSH1302 => ?_)
        obtain ⟨x1303, x1304, hvH1302, bx1303, ex1304, hrH1302, m1305, m1306, hTH1302⟩ := pH1302
        subst hvH1302
        have m1307 := (m1277).trans (fI_kept (x_lt hTH1276 kH1302 gmq (by decide))).symm
        have m1308 := (fI_kept (x_lt hTH1276 kH1302 gkq (by decide))).trans m1280
        have m1309 := (m1282).trans (fR_kept (x_lt hTH1276 kH1302 gmq (by decide))).symm
        have m1310 := (m1283).trans (fR_kept (x_lt hTH1276 kH1302 gmq (by decide))).symm
        have m1311 := (m1284).trans (fR_kept (x_lt hTH1276 kH1302 gmq (by decide))).symm
        have m1312 := (m1285).trans (fI_kept (x_lt hTH1276 kH1302 gmq (by decide))).symm
        have bx1304 := ty_fi (x := x1304) (k := 7) ex1304 hTH1302 ga0 rg_78 rfl
        refine W.eq (g2 := F0 m 121 ls1239 [.int x1303]) rfl ?_
        refine lv_if_eq (tgt := 143) hx hb dX4_line_121 (by decide) (fun c1313 => ?_) (fun c1313 => ?_)
        · have k1314 := i_eq c1313
          exact J143 ls1239 H1302 locsH1302 (x1304) (x1127) (lv_sub hl1240 [] rfl) hTH1302 hSH1302 (by have := i_rng x1304; omega) (by have := i_rng x1127; omega) ex1304 m1307 m1305 m1306 m1308 (by omega)
        · have k1314 := i_ne c1313
          refine lv_aload_n hx hb dX4_line_124 rfl (lv_at hl1240 1 rfl) ?_
          refine x_V (As := []) (rest := []) C (a_X4_sum l K G H1302 (F) (x1304) (x1127) hTH1302 ga0 gmq m1305 gkq m1306 ex1304 m1307 m1308 (by omega) (by omega)) yo_X4_sum wM_X4_103 ⟨⟨by decide, by decide⟩, by decide, by decide⟩ (x_rv C hTH1302 (ci := 4) rfl ga0 rg_78) rfl hl1240.1 rfl (Nat.le_of_ble_eq_true rfl) dX4_line_125 hSH1302 (AE_sub (fun _ _ => rfl) (by decide) hSH1302.1) (fun vH1315 H1315 locsH1315 pH1315 zH1315 kH1315 hSH1315 => ?_)
          obtain ⟨x1316, x1317, x1318, hvH1315, bx1316, ex1317, ex1318, hrH1315, m1319, m1320, hTH1315⟩ := pH1315
          subst hvH1315
          have m1321 := (fI_kept (x_lt hTH1302 kH1315 gkq (by decide))).trans m1308
          have bx1317 := ty_fi (x := x1317) (k := 7) ex1317 hTH1315 ga0 rg_78 rfl
          have bx1318 := ty_fi (x := x1318) (k := 0) ex1318 hTH1315 gmq rg_69 rfl
          refine W.eq (g2 := F0 m 128 ls1239 [.int x1316]) rfl ?_
          refine lv_if_eq (tgt := 143) hx hb dX4_line_128 (by decide) (fun c1322 => ?_) (fun c1322 => ?_)
          · have k1323 := i_eq c1322
            exact J143 ls1239 H1315 locsH1315 (x1317) (x1318) (lv_sub hl1240 [] rfl) hTH1315 hSH1315 (by have := i_rng x1317; omega) (by have := i_rng x1318; omega) ex1317 ex1318 m1319 m1320 m1321 (by omega)
          · have k1323 := i_ne c1322
            refine lv_goto (tgt := 145) hx hb dX4_line_131 (by decide) ?_
            exact J145 ls1239 H1315 locsH1315 (x1127) (x1317) (x1318) (lv_sub hl1240 [1, 0] rfl) hTH1315 hSH1315 (by have := i_rng x1127; omega) (by have := i_rng x1317; omega) (by have := i_rng x1318; omega) ex1317 ex1318 m1319 m1320 m1321 (by omega)
    · have k1242 := i_nlt c1241
      refine lv_aload_n hx hb dX4_line_56 rfl (lv_at hl1240 1 rfl) ?_
      refine lv_iconst (v := 3) hx hb dX4_line_57 (by decide) ?_
      refine x_V (As := [.int 3]) (rest := []) C (a_X4_refuse l K G H1122 (3) (x1126) hTH1122 ga0 gmq cy1128_0 gkq cy1128_1 ex1126) yo_X4_refuse wM_X4_81 ⟨⟨by decide, by decide⟩, by decide, by decide⟩ (x_rv C hTH1122 (ci := 4) rfl ga0 rg_78) rfl hl1240.1 rfl (Nat.le_of_ble_eq_true rfl) dX4_line_58 hSH1122 (AE_sub (fun _ _ => rfl) (by decide) hSH1122.1) (fun vH1324 H1324 locsH1324 pH1324 zH1324 kH1324 hSH1324 => ?_)
      obtain ⟨x1325, x1326, hvH1324, bx1325, ex1326, hrH1324, m1327, m1328, hTH1324⟩ := pH1324
      subst hvH1324
      have m1329 := (ex1127).trans (fI_kept (x_lt hTH1122 kH1324 gmq (by decide))).symm
      have m1330 := (fI_kept (x_lt hTH1122 kH1324 gkq (by decide))).trans cy1128_2
      have bx1326 := ty_fi (x := x1326) (k := 7) ex1326 hTH1324 ga0 rg_78 rfl
      refine W.eq (g2 := F0 m 61 ls1239 [.int x1325]) rfl ?_
      exact x_zret C hQ (i_01 (by omega)) dX4_line_61 hSH1324 (by decide) (by decide) (⟨x1325, x1326, x1127, rfl, by omega, ex1326, m1329, by omega, m1327, m1328, hTH1324⟩)
  refine lv_aload_n hx hb dX4_line_0 rfl (lv_at hl 0 rfl) ?_
  refine x_gr C hT (ci := 4) (k := 3) rfl inX4 (by decide) wF_X4_18 ga0 rg_78 rfl dX4_line_1 (fun q1331 eq1331 gq1331 => ?_)
  have uq1331 : kq = q1331 := (ekq).trans eq1331.symm
  subst uq1331
  refine lv_aload_n hx hb dX4_line_4 rfl (lv_at hl 0 rfl) ?_
  refine x_gi C hT (ci := 4) (k := 7) rfl inX4 (by decide) wF_X4_42 ga0 rg_78 rfl dX4_line_5 (fun x1332 ex1332 bx1332 => ?_)
  have ux1332 : tat = x1332 := (etat).trans ex1332.symm
  subst ux1332
  refine x_ai C hT gkq rg_79 ⟨by omega, by show _ < ((501 : Nat) : Int); omega⟩ dX4_line_8 (fun x1333 ex1333 bx1333 => ?_)
  have dx1333 := el_hit ex1333 hel0
  refine lv_istore_n (lv' := [(1, .int x1333), (0, .ref a0)]) hx hb dX4_line_9 rfl hl (by decide) rfl (fun ls1334 hl1335 => ?_)
  refine lv_aload_n hx hb dX4_line_10 rfl (lv_at hl1335 1 rfl) ?_
  refine x_gi C hT (ci := 4) (k := 8) rfl inX4 (by decide) wF_X4_28 ga0 rg_78 rfl dX4_line_11 (fun x1336 ex1336 bx1336 => ?_)
  refine lv_if_eq (tgt := 25) hx hb dX4_line_14 (by decide) (fun c1337 => ?_) (fun c1337 => ?_)
  · have k1338 := i_eq c1337
    refine lv_iload_n hx hb dX4_line_25 rfl (lv_at hl1335 0 rfl) ?_
    refine lv_iconst (v := 4) hx hb dX4_line_26 (by decide) ?_
    refine lv_icmp_lt (tgt := 36) hx hb dX4_line_27 (by decide) (fun c1339 => ?_) (fun c1339 => ?_)
    · have k1340 := i_lt c1339
      exact J36 ls1334 s.heap [] (tat) (li) (lv_sub hl1335 [1] rfl) hT hS (by have := i_rng tat; omega) (by have := i_rng li; omega) etat eli emq ekq hel0 (by omega)
    · have k1340 := i_nlt c1339
      refine lv_iload_n hx hb dX4_line_30 rfl (lv_at hl1335 0 rfl) ?_
      refine lv_bipush (v := 6) hx hb dX4_line_31 (by decide) ?_
      refine lv_icmp_le (tgt := 42) hx hb dX4_line_33 (by decide) (fun c1341 => ?_) (fun c1341 => ?_)
      · have k1342 := i_le c1341
        exact J42 ls1334 s.heap [] (x1333) (tat) (li) (lv_sub hl1335 [1, 0] rfl) hT hS (by have := i_rng x1333; omega) (by have := i_rng tat; omega) (by have := i_rng li; omega) etat eli emq ekq hel0 (by omega)
      · have k1342 := i_nle c1341
        exact J36 ls1334 s.heap [] (tat) (li) (lv_sub hl1335 [1] rfl) hT hS (by have := i_rng tat; omega) (by have := i_rng li; omega) etat eli emq ekq hel0 (by omega)
  · have k1338 := i_ne c1337
    refine lv_iload_n hx hb dX4_line_17 rfl (lv_at hl1335 0 rfl) ?_
    refine lv_iconst (v := 3) hx hb dX4_line_18 (by decide) ?_
    refine lv_icmp_le (tgt := 42) hx hb dX4_line_19 (by decide) (fun c1343 => ?_) (fun c1343 => ?_)
    · have k1344 := i_le c1343
      exact J42 ls1334 s.heap [] (x1333) (tat) (li) (lv_sub hl1335 [1, 0] rfl) hT hS (by have := i_rng x1333; omega) (by have := i_rng tat; omega) (by have := i_rng li; omega) etat eli emq ekq hel0 (by omega)
    · have k1344 := i_nle c1343
      refine lv_goto (tgt := 36) hx hb dX4_line_22 (by decide) ?_
      exact J36 ls1334 s.heap [] (tat) (li) (lv_sub hl1335 [1] rfl) hT hS (by have := i_rng tat; omega) (by have := i_rng li; omega) etat eli emq ekq hel0 (by omega)

set_option maxHeartbeats 4000000 in
set_option maxRecDepth 100000 in
theorem a_X4_start (l : Launch) (K : KE) (G : Nat → Option Nat) (H : Heap) {a0 : Nat} {a1 : Nat} (x2 : Int32) (x3 : Int32) {mq : Nat} {kq : Nat} (tat : Int32) (tk : Int32) (hT : TY K G H) (ga0 : G a0 = some 78) (ga1 : G a1 = some 108) (hx2 : 0 ≤ x2.toInt ∧ x2.toInt ≤ 500) (hx3 : 0 ≤ x3.toInt ∧ x3.toInt ≤ 1) (gmq : G mq = some 69) (emq : mq = fR H a0 (K.1.2 4 0)) (gkq : G kq = some 79) (ekq : kq = fR H a0 (K.1.2 4 3)) (etat : tat = fI H a0 (K.1.2 4 7)) (etk : tk = fI H a0 (K.1.2 4 6)) : MX l K yX4_start cX4_start 7 none 6 159 0 0 [.ref a0, .ref a1, .int x2, .int x3] H (AE G [78, 79, 80, 81, 69] H.size) (fun v H1 => ∃ (t0 : Int32) (t1 : Int32), v = none ∧ t0 = fI H1 a0 (K.1.2 4 7) ∧ t1 = fI H1 a0 (K.1.2 4 6) ∧ (t0.toInt = 0) ∧ mq = fR H1 a0 (K.1.2 4 0) ∧ kq = fR H1 a0 (K.1.2 4 3) ∧ (∃ F : Int32, (0 ≤ F.toInt ∧ F.toInt ≤ 500) ∧ fI H1 kq F.toNatClampNeg = 26) ∧ TY K G H1) := by
  refine MX.of (by decide +kernel) (Nat.le_of_ble_eq_true rfl) ?_
  intro p e s m below meth c ls Q C hH hl hQ
  subst hH
  have C : CX p K s m _ meth c RX4 cX4_start 7 none "start" := C
  obtain ⟨hx, hb, hml, hown, hts, hKT, hr, hlocks, hnm⟩ := id C
  have hl : lv_has ls 7 [(0, .ref a0), (1, .ref a1), (2, .int x2), (3, .int x3)] := hl
  have hS : va_S (AE G [78, 79, 80, 81, 69] s.heap.size) s.heap s.heap [] := va_S.rf
  have n_m1 : ((-1) : Int32).toInt = -1 := rfl
  have n_0 : (0 : Int32).toInt = 0 := rfl
  have n_1 : (1 : Int32).toInt = 1 := rfl
  have n_5 : (5 : Int32).toInt = 5 := rfl
  have n_10 : (10 : Int32).toInt = 10 := rfl
  have n_24 : (24 : Int32).toInt = 24 := rfl
  have n_25 : (25 : Int32).toInt = 25 := rfl
  have n_26 : (26 : Int32).toInt = 26 := rfl
  have n_32 : (32 : Int32).toInt = 32 := rfl
  have btat := ty_fi (x := tat) (k := 7) etat hT ga0 rg_78 rfl
  have btk := ty_fi (x := tk) (k := 6) etk hT ga0 rg_78 rfl
  have J35 : ∀ (nf : Nat) (ls2749 : Array Slot) (H2748 : Heap) (locsH2748 : List Loc) (x2751 : Int32) (x2752 : Int32) (x2753 : Int32), lv_has ls2749 7 [(0, .ref a0), (1, .ref a1), (2, .int x2), (4, .int x2751)] → TY K G H2748 → va_S (AE G [78, 79, 80, 81, 69] s.heap.size) s.heap H2748 locsH2748 → (0 ≤ x2751.toInt ∧ x2751.toInt ≤ 500) → (0 ≤ x2752.toInt ∧ x2752.toInt ≤ 500) → (0 ≤ x2753.toInt ∧ x2753.toInt ≤ 501) → (x2752 = fI H2748 a0 (K.1.2 4 7)) → (x2753 = fI H2748 a0 (K.1.2 4 6)) → (mq = fR H2748 a0 (K.1.2 4 0)) → (kq = fR H2748 a0 (K.1.2 4 3)) → (500 - x2751.toInt < (nf : Int)) → (x2753.toInt ≤ x2751.toInt ∧ x2752.toInt = 0) → W p l e ({ frames := 6, cells := 0, slots := 0, locals := 159 } : Room) s m (([.ref a0, .ref a1, .int x2, .int x3] : List Value).toArray) below meth c H2748 locsH2748 0 0 Q (F0 m 35 ls2749 []) := by
    intro nf
    induction nf with
    | zero =>
      intro ls2749 H2748 locsH2748 x2751 x2752 x2753 hl2750 hTH2748 hSH2748 bx2751 bx2752 bx2753 ex2752 ex2753 cy2754_0 cy2754_1 hm35 iv35
      exfalso
      omega
    | succ nf ih35 =>
      intro ls2749 H2748 locsH2748 x2751 x2752 x2753 hl2750 hTH2748 hSH2748 bx2751 bx2752 bx2753 ex2752 ex2753 cy2754_0 cy2754_1 hm35 iv35
      have J201 : ∀ (ls2756 : Array Slot) (H2755 : Heap) (locsH2755 : List Loc) (x2759 : Int32) (x2760 : Int32) (x2761 : Int32), lv_has ls2756 7 [(0, .ref a0), (1, .ref a1), (2, .int x2), (4, .int x2759)] → TY K G H2755 → va_S (AE G [78, 79, 80, 81, 69] s.heap.size) s.heap H2755 locsH2755 → (1 ≤ x2.toInt ∧ x2.toInt ≤ 500) → (1 ≤ x2759.toInt ∧ x2759.toInt ≤ 500) → (0 ≤ x2760.toInt ∧ x2760.toInt ≤ 500) → (0 ≤ x2761.toInt ∧ x2761.toInt ≤ 501) → (x2760 = fI H2755 a0 (K.1.2 4 7)) → (x2761 = fI H2755 a0 (K.1.2 4 6)) → (mq = fR H2755 a0 (K.1.2 4 0)) → (kq = fR H2755 a0 (K.1.2 4 3)) → (x2761.toInt ≤ x2759.toInt ∧ x2751.toInt < x2759.toInt ∧ x2760.toInt = 0) → W p l e ({ frames := 6, cells := 0, slots := 0, locals := 159 } : Room) s m (([.ref a0, .ref a1, .int x2, .int x3] : List Value).toArray) below meth c H2755 locsH2755 0 0 Q (F0 m 201 ls2756 []) := by
        intro ls2756 H2755 locsH2755 x2759 x2760 x2761 hl2757 hTH2755 hSH2755 b2758 bx2759 bx2760 bx2761 ex2760 ex2761 cy2762_0 cy2762_1 iv201
        refine lv_goto (tgt := 35) hx hb dX4_start_201 (by decide) ?_
        exact ih35 ls2756 H2755 locsH2755 (x2759) (x2760) (x2761) (lv_sub hl2757 [0, 1, 2, 3] rfl) hTH2755 hSH2755 (by have := i_rng x2759; omega) (by have := i_rng x2760; omega) (by have := i_rng x2761; omega) ex2760 ex2761 cy2762_0 cy2762_1 (by omega) (by omega)
      have J195 : ∀ (ls2764 : Array Slot) (H2763 : Heap) (locsH2763 : List Loc) (x2767 : Int32) (x2768 : Int32) (x2769 : Int32) (x2770 : Int32) (x2771 : Int32), lv_has ls2764 7 [(0, .ref a0), (1, .ref a1), (2, .int x2), (4, .int x2767), (5, .int x2768)] → TY K G H2763 → va_S (AE G [78, 79, 80, 81, 69] s.heap.size) s.heap H2763 locsH2763 → (1 ≤ x2.toInt ∧ x2.toInt ≤ 500) → (1 ≤ x2767.toInt ∧ x2767.toInt ≤ 500) → (0 ≤ x2768.toInt ∧ x2768.toInt ≤ 499) → (0 ≤ x2770.toInt ∧ x2770.toInt ≤ 500) → (0 ≤ x2771.toInt ∧ x2771.toInt ≤ 501) → (x2770 = fI H2763 a0 (K.1.2 4 7)) → (x2771 = fI H2763 a0 (K.1.2 4 6)) → (mq = fR H2763 a0 (K.1.2 4 0)) → (kq = fR H2763 a0 (K.1.2 4 3)) → (x2771.toInt ≤ x2768.toInt ∧ x2768.toInt < x2767.toInt ∧ x2768.toInt = x2751.toInt ∧ x2770.toInt = 0) → W p l e ({ frames := 6, cells := 0, slots := 0, locals := 159 } : Room) s m (([.ref a0, .ref a1, .int x2, .int x3] : List Value).toArray) below meth c H2763 locsH2763 0 0 Q (F0 m 195 ls2764 [.int x2769, .ref a0]) := by
        intro ls2764 H2763 locsH2763 x2767 x2768 x2769 x2770 x2771 hl2765 hTH2763 hSH2763 b2766 bx2767 bx2768 bx2770 bx2771 ex2770 ex2771 cy2772_0 cy2772_1 iv195
        refine lv_iconst (v := 0) hx hb dX4_start_195 (by decide) ?_
        refine lv_iload hx hb dX4_start_196 (lv_at hl2765 4 rfl) ?_
        refine x_V (As := [.int x2769, .int 0, .int x2768]) (rest := []) C (a_X4_addToken l K G H2763 (x2769) (0) (x2768) (x2770) (x2771) hTH2763 ga0 gmq cy2772_0 gkq cy2772_1 ex2770 ex2771 (by omega)) yo_X4_addToken wM_X4_56 ⟨⟨by decide, by decide⟩, by decide, by decide⟩ (x_rv C hTH2763 (ci := 4) rfl ga0 rg_78) rfl hl2765.1 rfl (Nat.le_of_ble_eq_true rfl) dX4_start_198 hSH2763 (AE_sub (fun _ _ => rfl) (by decide) hSH2763.1) (fun vH2773 H2773 locsH2773 pH2773 zH2773 kH2773 hSH2773 => ?_)
        obtain ⟨x2774, x2775, hvH2773, ex2774, ex2775, hrH2773, m2776, m2777, m2778, hTH2773⟩ := pH2773
        subst hvH2773
        have bx2774 := ty_fi (x := x2774) (k := 7) ex2774 hTH2773 ga0 rg_78 rfl
        have bx2775 := ty_fi (x := x2775) (k := 6) ex2775 hTH2773 ga0 rg_78 rfl
        refine W.eq (g2 := F0 m 201 ls2764 []) rfl ?_
        exact J201 ls2764 H2773 locsH2773 (x2767) (x2774) (x2775) (lv_sub hl2765 [0, 1, 2, 3] rfl) hTH2773 hSH2773 (by have := i_rng x2; omega) (by have := i_rng x2767; omega) (by have := i_rng x2774; omega) (by have := i_rng x2775; omega) ex2774 ex2775 m2776 m2777 (by omega)
      have J110 : ∀ (nf : Nat) (ls2780 : Array Slot) (H2779 : Heap) (locsH2779 : List Loc) (x2783 : Int32) (x2784 : Int32) (x2785 : Int32) (x2786 : Int32), lv_has ls2780 7 [(0, .ref a0), (1, .ref a1), (2, .int x2), (4, .int x2783), (5, .int x2784)] → TY K G H2779 → va_S (AE G [78, 79, 80, 81, 69] s.heap.size) s.heap H2779 locsH2779 → (1 ≤ x2.toInt ∧ x2.toInt ≤ 500) → (1 ≤ x2783.toInt ∧ x2783.toInt ≤ 500) → (0 ≤ x2784.toInt ∧ x2784.toInt ≤ 499) → (0 ≤ x2785.toInt ∧ x2785.toInt ≤ 500) → (0 ≤ x2786.toInt ∧ x2786.toInt ≤ 501) → (x2785 = fI H2779 a0 (K.1.2 4 7)) → (x2786 = fI H2779 a0 (K.1.2 4 6)) → (mq = fR H2779 a0 (K.1.2 4 0)) → (kq = fR H2779 a0 (K.1.2 4 3)) → (500 - x2783.toInt < (nf : Int)) → (x2786.toInt ≤ x2784.toInt ∧ x2784.toInt < x2783.toInt ∧ x2784.toInt = x2751.toInt ∧ x2785.toInt = 0) → W p l e ({ frames := 6, cells := 0, slots := 0, locals := 159 } : Room) s m (([.ref a0, .ref a1, .int x2, .int x3] : List Value).toArray) below meth c H2779 locsH2779 0 0 Q (F0 m 110 ls2780 []) := by
        intro nf
        induction nf with
        | zero =>
          intro ls2780 H2779 locsH2779 x2783 x2784 x2785 x2786 hl2781 hTH2779 hSH2779 b2782 bx2783 bx2784 bx2785 bx2786 ex2785 ex2786 cy2787_0 cy2787_1 hm110 iv110
          exfalso
          omega
        | succ nf ih110 =>
          intro ls2780 H2779 locsH2779 x2783 x2784 x2785 x2786 hl2781 hTH2779 hSH2779 b2782 bx2783 bx2784 bx2785 bx2786 ex2785 ex2786 cy2787_0 cy2787_1 hm110 iv110
          have J132 : ∀ (ls2789 : Array Slot) (H2788 : Heap) (locsH2788 : List Loc) (x2791 : Int32) (x2792 : Int32), lv_has ls2789 7 [(0, .ref a0), (1, .ref a1), (2, .int x2), (4, .int x2783), (5, .int x2784)] → TY K G H2788 → va_S (AE G [78, 79, 80, 81, 69] s.heap.size) s.heap H2788 locsH2788 → (0 ≤ x2791.toInt ∧ x2791.toInt ≤ 500) → (0 ≤ x2792.toInt ∧ x2792.toInt ≤ 501) → (x2791 = fI H2788 a0 (K.1.2 4 7)) → (x2792 = fI H2788 a0 (K.1.2 4 6)) → (mq = fR H2788 a0 (K.1.2 4 0)) → (kq = fR H2788 a0 (K.1.2 4 3)) → (x2792.toInt ≤ x2784.toInt ∧ x2784.toInt < x2783.toInt ∧ x2791.toInt = 0) → W p l e ({ frames := 6, cells := 0, slots := 0, locals := 159 } : Room) s m (([.ref a0, .ref a1, .int x2, .int x3] : List Value).toArray) below meth c H2788 locsH2788 0 0 Q (F0 m 132 ls2789 []) := by
            intro ls2789 H2788 locsH2788 x2791 x2792 hl2790 hTH2788 hSH2788 bx2791 bx2792 ex2791 ex2792 cy2793_0 cy2793_1 iv132
            have J149 : ∀ (ls2795 : Array Slot) (H2794 : Heap) (locsH2794 : List Loc) (x2797 : Int32) (x2798 : Int32) (x2799 : Int32), lv_has ls2795 7 [(0, .ref a0), (1, .ref a1), (2, .int x2), (4, .int x2783), (5, .int x2784)] → TY K G H2794 → va_S (AE G [78, 79, 80, 81, 69] s.heap.size) s.heap H2794 locsH2794 → (24 ≤ x2797.toInt ∧ x2797.toInt ≤ 25) → (0 ≤ x2798.toInt ∧ x2798.toInt ≤ 500) → (0 ≤ x2799.toInt ∧ x2799.toInt ≤ 501) → (x2798 = fI H2794 a0 (K.1.2 4 7)) → (x2799 = fI H2794 a0 (K.1.2 4 6)) → (mq = fR H2794 a0 (K.1.2 4 0)) → (kq = fR H2794 a0 (K.1.2 4 3)) → (x2799.toInt ≤ x2784.toInt ∧ x2784.toInt < x2783.toInt ∧ x2798.toInt = 0) → W p l e ({ frames := 6, cells := 0, slots := 0, locals := 159 } : Room) s m (([.ref a0, .ref a1, .int x2, .int x3] : List Value).toArray) below meth c H2794 locsH2794 0 0 Q (F0 m 149 ls2795 [.int x2797, .ref a0]) := by
              intro ls2795 H2794 locsH2794 x2797 x2798 x2799 hl2796 hTH2794 hSH2794 bx2797 bx2798 bx2799 ex2798 ex2799 cy2800_0 cy2800_1 iv149
              refine lv_aload_n hx hb dX4_start_149 rfl (lv_at hl2796 1 rfl) ?_
              refine lv_iload hx hb dX4_start_150 (lv_at hl2796 4 rfl) ?_
              refine lv_iload hx hb dX4_start_152 (lv_at hl2796 3 rfl) ?_
              refine x_S (As := [.ref a1, .int x2784, .int x2783]) (rest := [.int x2797, .ref a0]) C (a_X4_numberAt l K G H2794 (x2784) (x2783) hTH2794 ga1 (by omega) (by omega)) yo_X4_numberAt wM_X4_63 ⟨⟨by decide, by decide⟩, by decide, by decide⟩ rfl hl2796.1 rfl (Nat.le_of_ble_eq_true rfl) dX4_start_154 hSH2794 (AE_sub (fun _ _ => rfl) (by decide) hSH2794.1) (fun vH2801 H2801 locsH2801 pH2801 zH2801 kH2801 hSH2801 => ?_)
              obtain ⟨x2802, hvH2801, hTH2801⟩ := pH2801
              subst hvH2801
              have m2803 := (ex2798).trans (fI_kept (x_lt hTH2794 kH2801 ga0 (by decide))).symm
              have m2804 := (ex2799).trans (fI_kept (x_lt hTH2794 kH2801 ga0 (by decide))).symm
              have m2805 := (cy2800_0).trans (fR_kept (x_lt hTH2794 kH2801 ga0 (by decide))).symm
              have m2806 := (cy2800_1).trans (fR_kept (x_lt hTH2794 kH2801 ga0 (by decide))).symm
              refine W.eq (g2 := F0 m 157 ls2795 [.int x2802, .int x2797, .ref a0]) rfl ?_
              refine lv_iload hx hb dX4_start_157 (lv_at hl2796 4 rfl) ?_
              refine x_V (As := [.int x2797, .int x2802, .int x2784]) (rest := []) C (a_X4_addToken l K G H2801 (x2797) (x2802) (x2784) (x2798) (x2799) hTH2801 ga0 gmq m2805 gkq m2806 m2803 m2804 (by omega)) yo_X4_addToken wM_X4_56 ⟨⟨by decide, by decide⟩, by decide, by decide⟩ (x_rv C hTH2801 (ci := 4) rfl ga0 rg_78) rfl hl2796.1 rfl (Nat.le_of_ble_eq_true rfl) dX4_start_159 hSH2801 (AE_sub (fun _ _ => rfl) (by decide) hSH2801.1) (fun vH2807 H2807 locsH2807 pH2807 zH2807 kH2807 hSH2807 => ?_)
              obtain ⟨x2808, x2809, hvH2807, ex2808, ex2809, hrH2807, m2810, m2811, m2812, hTH2807⟩ := pH2807
              subst hvH2807
              have bx2808 := ty_fi (x := x2808) (k := 7) ex2808 hTH2807 ga0 rg_78 rfl
              have bx2809 := ty_fi (x := x2809) (k := 6) ex2809 hTH2807 ga0 rg_78 rfl
              refine W.eq (g2 := F0 m 162 ls2795 []) rfl ?_
              refine lv_goto (tgt := 201) hx hb dX4_start_162 (by decide) ?_
              exact J201 ls2795 H2807 locsH2807 (x2783) (x2808) (x2809) (lv_sub hl2796 [0, 1, 2, 3] rfl) hTH2807 hSH2807 (by have := i_rng x2; omega) (by have := i_rng x2783; omega) (by have := i_rng x2808; omega) (by have := i_rng x2809; omega) ex2808 ex2809 m2810 m2811 (by omega)
            refine lv_aload_n hx hb dX4_start_132 rfl (lv_at hl2790 0 rfl) ?_
            refine lv_iload hx hb dX4_start_133 (lv_at hl2790 3 rfl) ?_
            refine lv_iload hx hb dX4_start_135 (lv_at hl2790 4 rfl) ?_
            refine lv_isub hx hb dX4_start_137 ?_
            refine lv_topi (fun x2813 ex2813 => ?_)
            have tx2813 := i_sub ex2813 (by omega)
            refine lv_iconst (v := 5) hx hb dX4_start_138 (by decide) ?_
            refine lv_icmp_gt (tgt := 147) hx hb dX4_start_139 (by decide) (fun c2814 => ?_) (fun c2814 => ?_)
            · have k2815 := i_lt c2814
              refine lv_bipush (v := 25) hx hb dX4_start_147 (by decide) ?_
              exact J149 ls2789 H2788 locsH2788 (25) (x2791) (x2792) (lv_sub hl2790 [0, 1, 2, 3, 4] rfl) hTH2788 hSH2788 (by decide) (by have := i_rng x2791; omega) (by have := i_rng x2792; omega) ex2791 ex2792 cy2793_0 cy2793_1 (by omega)
            · have k2815 := i_nlt c2814
              refine lv_bipush (v := 24) hx hb dX4_start_142 (by decide) ?_
              refine lv_goto (tgt := 149) hx hb dX4_start_144 (by decide) ?_
              exact J149 ls2789 H2788 locsH2788 (24) (x2791) (x2792) (lv_sub hl2790 [0, 1, 2, 3, 4] rfl) hTH2788 hSH2788 (by decide) (by have := i_rng x2791; omega) (by have := i_rng x2792; omega) ex2791 ex2792 cy2793_0 cy2793_1 (by omega)
          refine lv_iload hx hb dX4_start_110 (lv_at hl2781 3 rfl) ?_
          refine lv_iload_n hx hb dX4_start_112 rfl (lv_at hl2781 2 rfl) ?_
          refine lv_icmp_ge (tgt := 132) hx hb dX4_start_113 (by decide) (fun c2816 => ?_) (fun c2816 => ?_)
          · have k2817 := i_le c2816
            exact J132 ls2780 H2779 locsH2779 (x2785) (x2786) (lv_sub hl2781 [0, 1, 2, 3, 4] rfl) hTH2779 hSH2779 (by have := i_rng x2785; omega) (by have := i_rng x2786; omega) ex2785 ex2786 cy2787_0 cy2787_1 (by omega)
          · have k2817 := i_nle c2816
            refine lv_aload_n hx hb dX4_start_116 rfl (lv_at hl2781 1 rfl) ?_
            refine lv_iload hx hb dX4_start_117 (lv_at hl2781 3 rfl) ?_
            refine x_ai C hTH2779 ga1 rg_108 ⟨by omega, by show _ < ((500 : Nat) : Int); omega⟩ dX4_start_119 (fun x2818 ex2818 bx2818 => ?_)
            refine x_S (As := [.int x2818]) (rest := []) C (a_X4_isDigit l K G H2779 (x2818) hTH2779 ) yo_X4_isDigit wM_X4_60 ⟨⟨by decide, by decide⟩, by decide, by decide⟩ rfl hl2781.1 rfl (Nat.le_of_ble_eq_true rfl) dX4_start_120 hSH2779 (AE_sub (fun _ _ => rfl) (by decide) hSH2779.1) (fun vH2819 H2819 locsH2819 pH2819 zH2819 kH2819 hSH2819 => ?_)
            obtain ⟨x2820, hvH2819, bx2820, hTH2819⟩ := pH2819
            subst hvH2819
            have m2821 := (ex2785).trans (fI_kept (x_lt hTH2779 kH2819 ga0 (by decide))).symm
            have m2822 := (ex2786).trans (fI_kept (x_lt hTH2779 kH2819 ga0 (by decide))).symm
            have m2823 := (cy2787_0).trans (fR_kept (x_lt hTH2779 kH2819 ga0 (by decide))).symm
            have m2824 := (cy2787_1).trans (fR_kept (x_lt hTH2779 kH2819 ga0 (by decide))).symm
            refine W.eq (g2 := F0 m 123 ls2780 [.int x2820]) rfl ?_
            refine lv_if_eq (tgt := 132) hx hb dX4_start_123 (by decide) (fun c2825 => ?_) (fun c2825 => ?_)
            · have k2826 := i_eq c2825
              exact J132 ls2780 H2819 locsH2819 (x2785) (x2786) (lv_sub hl2781 [0, 1, 2, 3, 4] rfl) hTH2819 hSH2819 (by have := i_rng x2785; omega) (by have := i_rng x2786; omega) m2821 m2822 m2823 m2824 (by omega)
            · have k2826 := i_ne c2825
              obtain ⟨x2827, ex2827⟩ : ∃ y : Int32, y = x2783 + 1 := ⟨_, rfl⟩
              have tx2827 := i_add ex2827 (by omega)
              refine lv_iinc (v := x2827) (lv' := [(4, .int x2827), (0, .ref a0), (1, .ref a1), (2, .int x2), (5, .int x2784)]) hx hb dX4_start_126 hl2781 (k := 3) rfl (by rw [ex2827]; rfl) (by decide) rfl (fun ls2828 hl2829 => ?_)
              refine lv_goto (tgt := 110) hx hb dX4_start_129 (by decide) ?_
              exact ih110 ls2828 H2819 locsH2819 (x2827) (x2784) (x2785) (x2786) (lv_sub hl2829 [1, 2, 3, 0, 4] rfl) hTH2819 hSH2819 (by have := i_rng x2; omega) (by have := i_rng x2827; omega) (by have := i_rng x2784; omega) (by have := i_rng x2785; omega) (by have := i_rng x2786; omega) m2821 m2822 m2823 m2824 (by omega) (by omega)
      have J62 : ∀ (nf : Nat) (ls2831 : Array Slot) (H2830 : Heap) (locsH2830 : List Loc) (x2834 : Int32) (x2835 : Int32) (x2836 : Int32) (x2837 : Int32), lv_has ls2831 7 [(0, .ref a0), (1, .ref a1), (2, .int x2), (4, .int x2834), (5, .int x2835)] → TY K G H2830 → va_S (AE G [78, 79, 80, 81, 69] s.heap.size) s.heap H2830 locsH2830 → (1 ≤ x2.toInt ∧ x2.toInt ≤ 500) → (1 ≤ x2834.toInt ∧ x2834.toInt ≤ 500) → (0 ≤ x2835.toInt ∧ x2835.toInt ≤ 499) → (0 ≤ x2836.toInt ∧ x2836.toInt ≤ 500) → (0 ≤ x2837.toInt ∧ x2837.toInt ≤ 501) → (x2836 = fI H2830 a0 (K.1.2 4 7)) → (x2837 = fI H2830 a0 (K.1.2 4 6)) → (mq = fR H2830 a0 (K.1.2 4 0)) → (kq = fR H2830 a0 (K.1.2 4 3)) → (500 - x2834.toInt < (nf : Int)) → (x2837.toInt ≤ x2835.toInt ∧ x2835.toInt < x2834.toInt ∧ x2835.toInt = x2751.toInt ∧ x2836.toInt = 0) → W p l e ({ frames := 6, cells := 0, slots := 0, locals := 159 } : Room) s m (([.ref a0, .ref a1, .int x2, .int x3] : List Value).toArray) below meth c H2830 locsH2830 0 0 Q (F0 m 62 ls2831 []) := by
        intro nf
        induction nf with
        | zero =>
          intro ls2831 H2830 locsH2830 x2834 x2835 x2836 x2837 hl2832 hTH2830 hSH2830 b2833 bx2834 bx2835 bx2836 bx2837 ex2836 ex2837 cy2838_0 cy2838_1 hm62 iv62
          exfalso
          omega
        | succ nf ih62 =>
          intro ls2831 H2830 locsH2830 x2834 x2835 x2836 x2837 hl2832 hTH2830 hSH2830 b2833 bx2834 bx2835 bx2836 bx2837 ex2836 ex2837 cy2838_0 cy2838_1 hm62 iv62
          have J84 : ∀ (ls2840 : Array Slot) (H2839 : Heap) (locsH2839 : List Loc) (x2842 : Int32) (x2843 : Int32), lv_has ls2840 7 [(0, .ref a0), (1, .ref a1), (2, .int x2), (4, .int x2834), (5, .int x2835)] → TY K G H2839 → va_S (AE G [78, 79, 80, 81, 69] s.heap.size) s.heap H2839 locsH2839 → (0 ≤ x2842.toInt ∧ x2842.toInt ≤ 500) → (0 ≤ x2843.toInt ∧ x2843.toInt ≤ 501) → (x2842 = fI H2839 a0 (K.1.2 4 7)) → (x2843 = fI H2839 a0 (K.1.2 4 6)) → (mq = fR H2839 a0 (K.1.2 4 0)) → (kq = fR H2839 a0 (K.1.2 4 3)) → (x2843.toInt ≤ x2835.toInt ∧ x2835.toInt < x2834.toInt ∧ x2842.toInt = 0) → W p l e ({ frames := 6, cells := 0, slots := 0, locals := 159 } : Room) s m (([.ref a0, .ref a1, .int x2, .int x3] : List Value).toArray) below meth c H2839 locsH2839 0 0 Q (F0 m 84 ls2840 []) := by
            intro ls2840 H2839 locsH2839 x2842 x2843 hl2841 hTH2839 hSH2839 bx2842 bx2843 ex2842 ex2843 cy2844_0 cy2844_1 iv84
            refine lv_aload_n hx hb dX4_start_84 rfl (lv_at hl2841 0 rfl) ?_
            refine lv_aload_n hx hb dX4_start_85 rfl (lv_at hl2841 1 rfl) ?_
            refine lv_iload hx hb dX4_start_86 (lv_at hl2841 4 rfl) ?_
            refine lv_iload hx hb dX4_start_88 (lv_at hl2841 3 rfl) ?_
            refine x_S (As := [.ref a1, .int x2835, .int x2834]) (rest := [.ref a0]) C (a_X4_wordAt l K G H2839 (x2835) (x2834) hTH2839 ga1 (by omega) (by omega)) yo_X4_wordAt wM_X4_52 ⟨⟨by decide, by decide⟩, by decide, by decide⟩ rfl hl2841.1 rfl (Nat.le_of_ble_eq_true rfl) dX4_start_90 hSH2839 (AE_sub (fun _ _ => rfl) (by decide) hSH2839.1) (fun vH2845 H2845 locsH2845 pH2845 zH2845 kH2845 hSH2845 => ?_)
            obtain ⟨x2846, hvH2845, hTH2845⟩ := pH2845
            subst hvH2845
            have m2847 := (ex2842).trans (fI_kept (x_lt hTH2839 kH2845 ga0 (by decide))).symm
            have m2848 := (ex2843).trans (fI_kept (x_lt hTH2839 kH2845 ga0 (by decide))).symm
            have m2849 := (cy2844_0).trans (fR_kept (x_lt hTH2839 kH2845 ga0 (by decide))).symm
            have m2850 := (cy2844_1).trans (fR_kept (x_lt hTH2839 kH2845 ga0 (by decide))).symm
            refine W.eq (g2 := F0 m 93 ls2840 [.int x2846, .ref a0]) rfl ?_
            refine lv_iconst (v := 0) hx hb dX4_start_93 (by decide) ?_
            refine lv_iload hx hb dX4_start_94 (lv_at hl2841 4 rfl) ?_
            refine x_V (As := [.int x2846, .int 0, .int x2835]) (rest := []) C (a_X4_addToken l K G H2845 (x2846) (0) (x2835) (x2842) (x2843) hTH2845 ga0 gmq m2849 gkq m2850 m2847 m2848 (by omega)) yo_X4_addToken wM_X4_56 ⟨⟨by decide, by decide⟩, by decide, by decide⟩ (x_rv C hTH2845 (ci := 4) rfl ga0 rg_78) rfl hl2841.1 rfl (Nat.le_of_ble_eq_true rfl) dX4_start_96 hSH2845 (AE_sub (fun _ _ => rfl) (by decide) hSH2845.1) (fun vH2851 H2851 locsH2851 pH2851 zH2851 kH2851 hSH2851 => ?_)
            obtain ⟨x2852, x2853, hvH2851, ex2852, ex2853, hrH2851, m2854, m2855, m2856, hTH2851⟩ := pH2851
            subst hvH2851
            have bx2852 := ty_fi (x := x2852) (k := 7) ex2852 hTH2851 ga0 rg_78 rfl
            have bx2853 := ty_fi (x := x2853) (k := 6) ex2853 hTH2851 ga0 rg_78 rfl
            refine W.eq (g2 := F0 m 99 ls2840 []) rfl ?_
            refine lv_goto (tgt := 201) hx hb dX4_start_99 (by decide) ?_
            exact J201 ls2840 H2851 locsH2851 (x2834) (x2852) (x2853) (lv_sub hl2841 [0, 1, 2, 3] rfl) hTH2851 hSH2851 (by have := i_rng x2; omega) (by have := i_rng x2834; omega) (by have := i_rng x2852; omega) (by have := i_rng x2853; omega) ex2852 ex2853 m2854 m2855 (by omega)
          refine lv_iload hx hb dX4_start_62 (lv_at hl2832 3 rfl) ?_
          refine lv_iload_n hx hb dX4_start_64 rfl (lv_at hl2832 2 rfl) ?_
          refine lv_icmp_ge (tgt := 84) hx hb dX4_start_65 (by decide) (fun c2857 => ?_) (fun c2857 => ?_)
          · have k2858 := i_le c2857
            exact J84 ls2831 H2830 locsH2830 (x2836) (x2837) (lv_sub hl2832 [0, 1, 2, 3, 4] rfl) hTH2830 hSH2830 (by have := i_rng x2836; omega) (by have := i_rng x2837; omega) ex2836 ex2837 cy2838_0 cy2838_1 (by omega)
          · have k2858 := i_nle c2857
            refine lv_aload_n hx hb dX4_start_68 rfl (lv_at hl2832 1 rfl) ?_
            refine lv_iload hx hb dX4_start_69 (lv_at hl2832 3 rfl) ?_
            refine x_ai C hTH2830 ga1 rg_108 ⟨by omega, by show _ < ((500 : Nat) : Int); omega⟩ dX4_start_71 (fun x2859 ex2859 bx2859 => ?_)
            refine x_S (As := [.int x2859]) (rest := []) C (a_X4_isLetter l K G H2830 (x2859) hTH2830 ) yo_X4_isLetter wM_X4_48 ⟨⟨by decide, by decide⟩, by decide, by decide⟩ rfl hl2832.1 rfl (Nat.le_of_ble_eq_true rfl) dX4_start_72 hSH2830 (AE_sub (fun _ _ => rfl) (by decide) hSH2830.1) (fun vH2860 H2860 locsH2860 pH2860 zH2860 kH2860 hSH2860 => ?_)
            obtain ⟨x2861, hvH2860, bx2861, hTH2860⟩ := pH2860
            subst hvH2860
            have m2862 := (ex2836).trans (fI_kept (x_lt hTH2830 kH2860 ga0 (by decide))).symm
            have m2863 := (ex2837).trans (fI_kept (x_lt hTH2830 kH2860 ga0 (by decide))).symm
            have m2864 := (cy2838_0).trans (fR_kept (x_lt hTH2830 kH2860 ga0 (by decide))).symm
            have m2865 := (cy2838_1).trans (fR_kept (x_lt hTH2830 kH2860 ga0 (by decide))).symm
            refine W.eq (g2 := F0 m 75 ls2831 [.int x2861]) rfl ?_
            refine lv_if_eq (tgt := 84) hx hb dX4_start_75 (by decide) (fun c2866 => ?_) (fun c2866 => ?_)
            · have k2867 := i_eq c2866
              exact J84 ls2831 H2860 locsH2860 (x2836) (x2837) (lv_sub hl2832 [0, 1, 2, 3, 4] rfl) hTH2860 hSH2860 (by have := i_rng x2836; omega) (by have := i_rng x2837; omega) m2862 m2863 m2864 m2865 (by omega)
            · have k2867 := i_ne c2866
              obtain ⟨x2868, ex2868⟩ : ∃ y : Int32, y = x2834 + 1 := ⟨_, rfl⟩
              have tx2868 := i_add ex2868 (by omega)
              refine lv_iinc (v := x2868) (lv' := [(4, .int x2868), (0, .ref a0), (1, .ref a1), (2, .int x2), (5, .int x2835)]) hx hb dX4_start_78 hl2832 (k := 3) rfl (by rw [ex2868]; rfl) (by decide) rfl (fun ls2869 hl2870 => ?_)
              refine lv_goto (tgt := 62) hx hb dX4_start_81 (by decide) ?_
              exact ih62 ls2869 H2860 locsH2860 (x2868) (x2835) (x2836) (x2837) (lv_sub hl2870 [1, 2, 3, 0, 4] rfl) hTH2860 hSH2860 (by have := i_rng x2; omega) (by have := i_rng x2868; omega) (by have := i_rng x2835; omega) (by have := i_rng x2836; omega) (by have := i_rng x2837; omega) m2862 m2863 m2864 m2865 (by omega) (by omega)
      refine lv_iload hx hb dX4_start_35 (lv_at hl2750 3 rfl) ?_
      refine lv_iload_n hx hb dX4_start_37 rfl (lv_at hl2750 2 rfl) ?_
      refine lv_icmp_ge (tgt := 204) hx hb dX4_start_38 (by decide) (fun c2871 => ?_) (fun c2871 => ?_)
      · have k2872 := i_le c2871
        refine lv_aload_n hx hb dX4_start_204 rfl (lv_at hl2750 0 rfl) ?_
        refine lv_bipush (v := 26) hx hb dX4_start_205 (by decide) ?_
        refine lv_iconst (v := 0) hx hb dX4_start_207 (by decide) ?_
        refine lv_iload_n hx hb dX4_start_208 rfl (lv_at hl2750 2 rfl) ?_
        refine x_V (As := [.int 26, .int 0, .int x2]) (rest := []) C (a_X4_addToken l K G H2748 (26) (0) (x2) (x2752) (x2753) hTH2748 ga0 gmq cy2754_0 gkq cy2754_1 ex2752 ex2753 (by omega)) yo_X4_addToken wM_X4_56 ⟨⟨by decide, by decide⟩, by decide, by decide⟩ (x_rv C hTH2748 (ci := 4) rfl ga0 rg_78) rfl hl2750.1 rfl (Nat.le_of_ble_eq_true rfl) dX4_start_209 hSH2748 (AE_sub (fun _ _ => rfl) (by decide) hSH2748.1) (fun vH2873 H2873 locsH2873 pH2873 zH2873 kH2873 hSH2873 => ?_)
        obtain ⟨x2874, x2875, hvH2873, ex2874, ex2875, hrH2873, m2876, m2877, m2878, hTH2873⟩ := pH2873
        subst hvH2873
        have bx2874 := ty_fi (x := x2874) (k := 7) ex2874 hTH2873 ga0 rg_78 rfl
        have bx2875 := ty_fi (x := x2875) (k := 6) ex2875 hTH2873 ga0 rg_78 rfl
        refine W.eq (g2 := F0 m 212 ls2749 []) rfl ?_
        exact x_vret C hQ dX4_start_212 hSH2873 (by decide) (by decide) (⟨x2874, x2875, rfl, ex2874, ex2875, by omega, m2876, m2877, ⟨x2753, by omega, m2878.symm⟩, hTH2873⟩)
      · have k2872 := i_nle c2871
        refine lv_iload hx hb dX4_start_41 (lv_at hl2750 3 rfl) ?_
        refine lv_istore (lv' := [(5, .int x2751), (0, .ref a0), (1, .ref a1), (2, .int x2), (4, .int x2751)]) hx hb dX4_start_43 hl2750 (by decide) rfl (fun ls2879 hl2880 => ?_)
        refine lv_aload_n hx hb dX4_start_45 rfl (lv_at hl2880 2 rfl) ?_
        refine lv_iload hx hb dX4_start_46 (lv_at hl2880 4 rfl) ?_
        refine x_ai C hTH2748 ga1 rg_108 ⟨by omega, by show _ < ((500 : Nat) : Int); omega⟩ dX4_start_48 (fun x2881 ex2881 bx2881 => ?_)
        refine lv_istore (lv' := [(6, .int x2881), (5, .int x2751), (0, .ref a0), (1, .ref a1), (2, .int x2), (4, .int x2751)]) hx hb dX4_start_49 hl2880 (by decide) rfl (fun ls2882 hl2883 => ?_)
        obtain ⟨x2884, ex2884⟩ : ∃ y : Int32, y = x2751 + 1 := ⟨_, rfl⟩
        have tx2884 := i_add ex2884 (by omega)
        refine lv_iinc (v := x2884) (lv' := [(4, .int x2884), (6, .int x2881), (5, .int x2751), (0, .ref a0), (1, .ref a1), (2, .int x2)]) hx hb dX4_start_51 hl2883 (k := 5) rfl (by rw [ex2884]; rfl) (by decide) rfl (fun ls2885 hl2886 => ?_)
        refine lv_iload hx hb dX4_start_54 (lv_at hl2886 1 rfl) ?_
        refine x_S (As := [.int x2881]) (rest := []) C (a_X4_isLetter l K G H2748 (x2881) hTH2748 ) yo_X4_isLetter wM_X4_48 ⟨⟨by decide, by decide⟩, by decide, by decide⟩ rfl hl2886.1 rfl (Nat.le_of_ble_eq_true rfl) dX4_start_56 hSH2748 (AE_sub (fun _ _ => rfl) (by decide) hSH2748.1) (fun vH2887 H2887 locsH2887 pH2887 zH2887 kH2887 hSH2887 => ?_)
        obtain ⟨x2888, hvH2887, bx2888, hTH2887⟩ := pH2887
        subst hvH2887
        have m2889 := (ex2752).trans (fI_kept (x_lt hTH2748 kH2887 ga0 (by decide))).symm
        have m2890 := (ex2753).trans (fI_kept (x_lt hTH2748 kH2887 ga0 (by decide))).symm
        have m2891 := (cy2754_0).trans (fR_kept (x_lt hTH2748 kH2887 ga0 (by decide))).symm
        have m2892 := (cy2754_1).trans (fR_kept (x_lt hTH2748 kH2887 ga0 (by decide))).symm
        refine W.eq (g2 := F0 m 59 ls2885 [.int x2888]) rfl ?_
        refine lv_if_eq (tgt := 102) hx hb dX4_start_59 (by decide) (fun c2893 => ?_) (fun c2893 => ?_)
        · have k2894 := i_eq c2893
          refine lv_iload hx hb dX4_start_102 (lv_at hl2886 1 rfl) ?_
          refine x_S (As := [.int x2881]) (rest := []) C (a_X4_isDigit l K G H2887 (x2881) hTH2887 ) yo_X4_isDigit wM_X4_60 ⟨⟨by decide, by decide⟩, by decide, by decide⟩ rfl hl2886.1 rfl (Nat.le_of_ble_eq_true rfl) dX4_start_104 hSH2887 (AE_sub (fun _ _ => rfl) (by decide) hSH2887.1) (fun vH2895 H2895 locsH2895 pH2895 zH2895 kH2895 hSH2895 => ?_)
          obtain ⟨x2896, hvH2895, bx2896, hTH2895⟩ := pH2895
          subst hvH2895
          have m2897 := (m2889).trans (fI_kept (x_lt hTH2887 kH2895 ga0 (by decide))).symm
          have m2898 := (m2890).trans (fI_kept (x_lt hTH2887 kH2895 ga0 (by decide))).symm
          have m2899 := (m2891).trans (fR_kept (x_lt hTH2887 kH2895 ga0 (by decide))).symm
          have m2900 := (m2892).trans (fR_kept (x_lt hTH2887 kH2895 ga0 (by decide))).symm
          refine W.eq (g2 := F0 m 107 ls2885 [.int x2896]) rfl ?_
          refine lv_if_eq (tgt := 165) hx hb dX4_start_107 (by decide) (fun c2901 => ?_) (fun c2901 => ?_)
          · have k2902 := i_eq c2901
            refine lv_iload hx hb dX4_start_165 (lv_at hl2886 1 rfl) ?_
            refine lv_bipush (v := 32) hx hb dX4_start_167 (by decide) ?_
            refine lv_icmp_eq (tgt := 201) hx hb dX4_start_169 (by decide) (fun c2903 => ?_) (fun c2903 => ?_)
            · have k2904 := i_eq c2903
              exact J201 ls2885 H2895 locsH2895 (x2884) (x2752) (x2753) (lv_sub hl2886 [3, 4, 5, 0] rfl) hTH2895 hSH2895 (by have := i_rng x2; omega) (by have := i_rng x2884; omega) (by have := i_rng x2752; omega) (by have := i_rng x2753; omega) m2897 m2898 m2899 m2900 (by omega)
            · have k2904 := i_ne c2903
              refine lv_iload hx hb dX4_start_172 (lv_at hl2886 1 rfl) ?_
              refine lv_bipush (v := 10) hx hb dX4_start_174 (by decide) ?_
              refine lv_icmp_eq (tgt := 201) hx hb dX4_start_176 (by decide) (fun c2905 => ?_) (fun c2905 => ?_)
              · have k2906 := i_eq c2905
                exact J201 ls2885 H2895 locsH2895 (x2884) (x2752) (x2753) (lv_sub hl2886 [3, 4, 5, 0] rfl) hTH2895 hSH2895 (by have := i_rng x2; omega) (by have := i_rng x2884; omega) (by have := i_rng x2752; omega) (by have := i_rng x2753; omega) m2897 m2898 m2899 m2900 (by omega)
              · have k2906 := i_ne c2905
                refine lv_aload_n hx hb dX4_start_179 rfl (lv_at hl2886 3 rfl) ?_
                refine lv_iload hx hb dX4_start_180 (lv_at hl2886 1 rfl) ?_
                refine x_S (As := [.int x2881]) (rest := [.ref a0]) C (a_X4_isSign l K G H2895 (x2881) hTH2895 ) yo_X4_isSign wM_X4_66 ⟨⟨by decide, by decide⟩, by decide, by decide⟩ rfl hl2886.1 rfl (Nat.le_of_ble_eq_true rfl) dX4_start_182 hSH2895 (AE_sub (fun _ _ => rfl) (by decide) hSH2895.1) (fun vH2907 H2907 locsH2907 pH2907 zH2907 kH2907 hSH2907 => ?_)
                obtain ⟨x2908, hvH2907, bx2908, hTH2907⟩ := pH2907
                subst hvH2907
                have m2909 := (m2897).trans (fI_kept (x_lt hTH2895 kH2907 ga0 (by decide))).symm
                have m2910 := (m2898).trans (fI_kept (x_lt hTH2895 kH2907 ga0 (by decide))).symm
                have m2911 := (m2899).trans (fR_kept (x_lt hTH2895 kH2907 ga0 (by decide))).symm
                have m2912 := (m2900).trans (fR_kept (x_lt hTH2895 kH2907 ga0 (by decide))).symm
                refine W.eq (g2 := F0 m 185 ls2885 [.int x2908, .ref a0]) rfl ?_
                refine lv_if_eq (tgt := 193) hx hb dX4_start_185 (by decide) (fun c2913 => ?_) (fun c2913 => ?_)
                · have k2914 := i_eq c2913
                  refine lv_bipush (v := 25) hx hb dX4_start_193 (by decide) ?_
                  exact J195 ls2885 H2907 locsH2907 (x2884) (x2751) (25) (x2752) (x2753) (lv_sub hl2886 [3, 4, 5, 0, 2] rfl) hTH2907 hSH2907 (by have := i_rng x2; omega) (by have := i_rng x2884; omega) (by have := i_rng x2751; omega) (by have := i_rng x2752; omega) (by have := i_rng x2753; omega) m2909 m2910 m2911 m2912 (by omega)
                · have k2914 := i_ne c2913
                  refine lv_iload hx hb dX4_start_188 (lv_at hl2886 1 rfl) ?_
                  refine lv_goto (tgt := 195) hx hb dX4_start_190 (by decide) ?_
                  exact J195 ls2885 H2907 locsH2907 (x2884) (x2751) (x2881) (x2752) (x2753) (lv_sub hl2886 [3, 4, 5, 0, 2] rfl) hTH2907 hSH2907 (by have := i_rng x2; omega) (by have := i_rng x2884; omega) (by have := i_rng x2751; omega) (by have := i_rng x2752; omega) (by have := i_rng x2753; omega) m2909 m2910 m2911 m2912 (by omega)
          · have k2902 := i_ne c2901
            exact J110 ((500 - x2884.toInt).toNat + 1) ls2885 H2895 locsH2895 (x2884) (x2751) (x2752) (x2753) (lv_sub hl2886 [3, 4, 5, 0, 2] rfl) hTH2895 hSH2895 (by have := i_rng x2; omega) (by have := i_rng x2884; omega) (by have := i_rng x2751; omega) (by have := i_rng x2752; omega) (by have := i_rng x2753; omega) m2897 m2898 m2899 m2900 (by omega) (by omega)
        · have k2894 := i_ne c2893
          exact J62 ((500 - x2884.toInt).toNat + 1) ls2885 H2887 locsH2887 (x2884) (x2751) (x2752) (x2753) (lv_sub hl2886 [3, 4, 5, 0, 2] rfl) hTH2887 hSH2887 (by have := i_rng x2; omega) (by have := i_rng x2884; omega) (by have := i_rng x2751; omega) (by have := i_rng x2752; omega) (by have := i_rng x2753; omega) m2889 m2890 m2891 m2892 (by omega) (by omega)
  refine lv_aload_n hx hb dX4_start_0 rfl (lv_at hl 0 rfl) ?_
  refine lv_iload_n hx hb dX4_start_1 rfl (lv_at hl 3 rfl) ?_
  refine x_put C hT hS (ci := 4) (k := 8) (v := .int x3) (ty0 := tyX4) rfl inX4 tyX4_ok nmX4 (by decide) rfl wF_X4_28 ga0 rg_78 rfl rfl (okI (by have := i_rng x3; omega) (by have := i_rng x3; omega)) (by rcases i_01 (x := x3) (by omega) with h | h <;> rw [h] <;> rfl) (by rcases i_01 (x := x3) (by omega) with h | h <;> rw [h] <;> rfl) (AE_in ga0 (by decide)) dX4_start_2 (fun H2915 locsH2915 hTH2915 hSH2915 wH2915 => ?_)
  have m2916 := emq.trans (Wr.neR wH2915 (Or.inr (x_apart hKT hts inX4 tyX4 tyX4_ok nmX4 rfl 0 8 (by decide) (by decide) (by decide)))).symm
  have m2917 := ekq.trans (Wr.neR wH2915 (Or.inr (x_apart hKT hts inX4 tyX4 tyX4_ok nmX4 rfl 3 8 (by decide) (by decide) (by decide)))).symm
  have m2918 := etat.trans (Wr.neI wH2915 (Or.inr (x_apart hKT hts inX4 tyX4 tyX4_ok nmX4 rfl 7 8 (by decide) (by decide) (by decide)))).symm
  have m2919 := etk.trans (Wr.neI wH2915 (Or.inr (x_apart hKT hts inX4 tyX4 tyX4_ok nmX4 rfl 6 8 (by decide) (by decide) (by decide)))).symm
  have m2920 := Wr.I wH2915
  have m2920 := m2920.symm
  refine lv_aload_n hx hb dX4_start_5 rfl (lv_at hl 0 rfl) ?_
  refine lv_iconst (v := 0) hx hb dX4_start_6 (by decide) ?_
  refine x_put C hTH2915 hSH2915 (ci := 4) (k := 1) (v := .int 0) (ty0 := tyX4) rfl inX4 tyX4_ok nmX4 (by decide) rfl wF_X4_32 ga0 rg_78 rfl rfl (okI (by have := i_rng (0 : Int32); omega) (by have := i_rng (0 : Int32); omega)) rfl rfl (AE_in ga0 (by decide)) dX4_start_7 (fun H2921 locsH2921 hTH2921 hSH2921 wH2921 => ?_)
  have m2922 := m2916.trans (Wr.neR wH2921 (Or.inr (x_apart hKT hts inX4 tyX4 tyX4_ok nmX4 rfl 0 1 (by decide) (by decide) (by decide)))).symm
  have m2923 := m2917.trans (Wr.neR wH2921 (Or.inr (x_apart hKT hts inX4 tyX4 tyX4_ok nmX4 rfl 3 1 (by decide) (by decide) (by decide)))).symm
  have m2924 := m2918.trans (Wr.neI wH2921 (Or.inr (x_apart hKT hts inX4 tyX4 tyX4_ok nmX4 rfl 7 1 (by decide) (by decide) (by decide)))).symm
  have m2925 := m2919.trans (Wr.neI wH2921 (Or.inr (x_apart hKT hts inX4 tyX4 tyX4_ok nmX4 rfl 6 1 (by decide) (by decide) (by decide)))).symm
  have m2926 := m2920.trans (Wr.neI wH2921 (Or.inr (x_apart hKT hts inX4 tyX4 tyX4_ok nmX4 rfl 8 1 (by decide) (by decide) (by decide)))).symm
  have m2927 := Wr.I wH2921
  refine lv_aload_n hx hb dX4_start_10 rfl (lv_at hl 0 rfl) ?_
  refine lv_iconst (v := (-1)) hx hb dX4_start_11 (by decide) ?_
  refine x_put C hTH2921 hSH2921 (ci := 4) (k := 2) (v := .int (-1)) (ty0 := tyX4) rfl inX4 tyX4_ok nmX4 (by decide) rfl wF_X4_36 ga0 rg_78 rfl rfl (okI (by have := i_rng ((-1) : Int32); omega) (by have := i_rng ((-1) : Int32); omega)) rfl rfl (AE_in ga0 (by decide)) dX4_start_12 (fun H2928 locsH2928 hTH2928 hSH2928 wH2928 => ?_)
  have m2929 := m2922.trans (Wr.neR wH2928 (Or.inr (x_apart hKT hts inX4 tyX4 tyX4_ok nmX4 rfl 0 2 (by decide) (by decide) (by decide)))).symm
  have m2930 := m2923.trans (Wr.neR wH2928 (Or.inr (x_apart hKT hts inX4 tyX4 tyX4_ok nmX4 rfl 3 2 (by decide) (by decide) (by decide)))).symm
  have m2931 := m2924.trans (Wr.neI wH2928 (Or.inr (x_apart hKT hts inX4 tyX4 tyX4_ok nmX4 rfl 7 2 (by decide) (by decide) (by decide)))).symm
  have m2932 := m2925.trans (Wr.neI wH2928 (Or.inr (x_apart hKT hts inX4 tyX4 tyX4_ok nmX4 rfl 6 2 (by decide) (by decide) (by decide)))).symm
  have m2933 := m2926.trans (Wr.neI wH2928 (Or.inr (x_apart hKT hts inX4 tyX4 tyX4_ok nmX4 rfl 8 2 (by decide) (by decide) (by decide)))).symm
  have m2934 := (Wr.neI wH2928 (Or.inr (x_apart hKT hts inX4 tyX4 tyX4_ok nmX4 rfl 1 2 (by decide) (by decide) (by decide)))).trans m2927
  have m2935 := Wr.I wH2928
  refine lv_aload_n hx hb dX4_start_15 rfl (lv_at hl 0 rfl) ?_
  refine x_gr C hTH2928 (ci := 4) (k := 0) rfl inX4 (by decide) wF_X4_12 ga0 rg_78 rfl dX4_start_16 (fun q2936 eq2936 gq2936 => ?_)
  have uq2936 : mq = q2936 := (m2929).trans eq2936.symm
  subst uq2936
  refine x_V (As := []) (rest := []) C (a_X7_clear l K G H2928  hTH2928 gmq) yo_X7_clear wM_X4_39 ⟨⟨by decide, by decide⟩, by decide, by decide⟩ (x_rv C hTH2928 (ci := 7) rfl gmq rg_69) rfl hl.1 rfl (Nat.le_of_ble_eq_true rfl) dX4_start_19 hSH2928 (AE_sub (fun _ _ => rfl) (by decide) hSH2928.1) (fun vH2937 H2937 locsH2937 pH2937 zH2937 kH2937 hSH2937 => ?_)
  obtain ⟨hvH2937, hTH2937⟩ := pH2937
  subst hvH2937
  have m2938 := (m2929).trans (fR_kept (x_lt hTH2928 kH2937 ga0 (by decide))).symm
  have m2939 := (m2930).trans (fR_kept (x_lt hTH2928 kH2937 ga0 (by decide))).symm
  have m2940 := (m2931).trans (fI_kept (x_lt hTH2928 kH2937 ga0 (by decide))).symm
  have m2941 := (m2932).trans (fI_kept (x_lt hTH2928 kH2937 ga0 (by decide))).symm
  have m2942 := (m2933).trans (fI_kept (x_lt hTH2928 kH2937 ga0 (by decide))).symm
  have m2943 := (fI_kept (x_lt hTH2928 kH2937 ga0 (by decide))).trans m2934
  have m2944 := (fI_kept (x_lt hTH2928 kH2937 ga0 (by decide))).trans m2935
  refine W.eq (g2 := F0 m 22 ls []) rfl ?_
  refine lv_aload_n hx hb dX4_start_22 rfl (lv_at hl 0 rfl) ?_
  refine lv_iconst (v := 0) hx hb dX4_start_23 (by decide) ?_
  refine x_put C hTH2937 hSH2937 (ci := 4) (k := 7) (v := .int 0) (ty0 := tyX4) rfl inX4 tyX4_ok nmX4 (by decide) rfl wF_X4_42 ga0 rg_78 rfl rfl (okI (by have := i_rng (0 : Int32); omega) (by have := i_rng (0 : Int32); omega)) rfl rfl (AE_in ga0 (by decide)) dX4_start_24 (fun H2945 locsH2945 hTH2945 hSH2945 wH2945 => ?_)
  have m2946 := m2938.trans (Wr.neR wH2945 (Or.inr (x_apart hKT hts inX4 tyX4 tyX4_ok nmX4 rfl 0 7 (by decide) (by decide) (by decide)))).symm
  have m2947 := m2939.trans (Wr.neR wH2945 (Or.inr (x_apart hKT hts inX4 tyX4 tyX4_ok nmX4 rfl 3 7 (by decide) (by decide) (by decide)))).symm
  have m2949 := m2941.trans (Wr.neI wH2945 (Or.inr (x_apart hKT hts inX4 tyX4 tyX4_ok nmX4 rfl 6 7 (by decide) (by decide) (by decide)))).symm
  have m2950 := m2942.trans (Wr.neI wH2945 (Or.inr (x_apart hKT hts inX4 tyX4 tyX4_ok nmX4 rfl 8 7 (by decide) (by decide) (by decide)))).symm
  have m2951 := (Wr.neI wH2945 (Or.inr (x_apart hKT hts inX4 tyX4 tyX4_ok nmX4 rfl 1 7 (by decide) (by decide) (by decide)))).trans m2943
  have m2952 := (Wr.neI wH2945 (Or.inr (x_apart hKT hts inX4 tyX4 tyX4_ok nmX4 rfl 2 7 (by decide) (by decide) (by decide)))).trans m2944
  have m2953 := Wr.I wH2945
  refine lv_aload_n hx hb dX4_start_27 rfl (lv_at hl 0 rfl) ?_
  refine lv_iconst (v := 0) hx hb dX4_start_28 (by decide) ?_
  refine x_put C hTH2945 hSH2945 (ci := 4) (k := 6) (v := .int 0) (ty0 := tyX4) rfl inX4 tyX4_ok nmX4 (by decide) rfl wF_X4_45 ga0 rg_78 rfl rfl (okI (by have := i_rng (0 : Int32); omega) (by have := i_rng (0 : Int32); omega)) rfl rfl (AE_in ga0 (by decide)) dX4_start_29 (fun H2954 locsH2954 hTH2954 hSH2954 wH2954 => ?_)
  have m2955 := m2946.trans (Wr.neR wH2954 (Or.inr (x_apart hKT hts inX4 tyX4 tyX4_ok nmX4 rfl 0 6 (by decide) (by decide) (by decide)))).symm
  have m2956 := m2947.trans (Wr.neR wH2954 (Or.inr (x_apart hKT hts inX4 tyX4 tyX4_ok nmX4 rfl 3 6 (by decide) (by decide) (by decide)))).symm
  have m2958 := m2950.trans (Wr.neI wH2954 (Or.inr (x_apart hKT hts inX4 tyX4 tyX4_ok nmX4 rfl 8 6 (by decide) (by decide) (by decide)))).symm
  have m2959 := (Wr.neI wH2954 (Or.inr (x_apart hKT hts inX4 tyX4 tyX4_ok nmX4 rfl 1 6 (by decide) (by decide) (by decide)))).trans m2951
  have m2960 := (Wr.neI wH2954 (Or.inr (x_apart hKT hts inX4 tyX4 tyX4_ok nmX4 rfl 2 6 (by decide) (by decide) (by decide)))).trans m2952
  have m2961 := (Wr.neI wH2954 (Or.inr (x_apart hKT hts inX4 tyX4 tyX4_ok nmX4 rfl 7 6 (by decide) (by decide) (by decide)))).trans m2953
  have m2962 := Wr.I wH2954
  refine lv_iconst (v := 0) hx hb dX4_start_32 (by decide) ?_
  refine lv_istore (lv' := [(4, .int 0), (0, .ref a0), (1, .ref a1), (2, .int x2), (3, .int x3)]) hx hb dX4_start_33 hl (by decide) rfl (fun ls2963 hl2964 => ?_)
  exact J35 ((500 - (0 : Int32).toInt).toNat + 1) ls2963 H2954 locsH2954 (0) (0) (0) (lv_sub hl2964 [1, 2, 3, 0] rfl) hTH2954 hSH2954 (by decide) (by decide) (by decide) (m2961).symm (m2962).symm m2955 m2956 (by omega) (by omega)
