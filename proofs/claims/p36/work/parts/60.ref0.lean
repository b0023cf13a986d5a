/-! ===== the reference: codes ===== -/
/-- one step of a code: depth before, depth behind -/
def WFC (f g : Nat → Int32) (a z : Nat) (d : Nat → Nat) : Prop := ∀ k : Nat, a ≤ k → k < z →
  ((f k).toInt = 0 ∧ d (k + 1) = d k + 1) ∨ ((f k).toInt = 1 ∧ d (k + 1) = d k + 1 ∧ 0 ≤ (g k).toInt ∧ (g k).toInt ≤ 13) ∨ ((f k).toInt = 9 ∧ 1 ≤ d k ∧ d (k + 1) = d k) ∨
  (2 ≤ (f k).toInt ∧ (f k).toInt ≤ 11 ∧ (f k).toInt ≠ 9 ∧ 2 ≤ d k ∧ d (k + 1) + 1 = d k ∧ ((f k).toInt ≠ 5 ∨ (a < k ∧ (f (k - 1)).toInt = 0 ∧ (g (k - 1)).toInt ≠ 0)))
/-- from a to z, from depth D to depth E -/
def WF (f g : Nat → Int32) (a z D E : Nat) : Prop := ∃ d : Nat → Nat, d a = D ∧ d z = E ∧ WFC f g a z d
theorem WFC.le {f g : Nat → Int32} {a z : Nat} {d : Nat → Nat} (h : WFC f g a z d) : ∀ k, a ≤ k → k ≤ z → d k ≤ d a + (k - a) := by
  intro k
  induction k with
  | zero => intro h1 h2; have : a = 0 := by omega
            subst this; omega
  | succ k ih =>
    intro h1 h2
    by_cases e : a = k + 1
    · subst e; omega
    · have h3 := ih (by omega) (by omega)
      have h4 := h k (by omega) (by omega)
      omega
theorem i_nk {k : Int32} {n : Nat} (h : k.toInt = (n : Int)) : k.toNatClampNeg = n := by
  show k.toInt.toNat = n
  omega
set_option maxHeartbeats 4000000 in
set_option maxRecDepth 100000 in
theorem a_X10_twoOf (l : Launch) (K : KE) (G : Nat → Option Nat) (H : Heap) {a0 : Nat} (x1 : Int32) (x2 : Int32) (x3 : Int32) (hT : TY K G H) (ga0 : G a0 = some 112) (hp0 : x1.toInt ≠ 5 ∨ x3.toInt ≠ 0) : MX l K yX10_twoOf cX10_twoOf 4 (some .int) 0 0 0 0 [.ref a0, .int x1, .int x2, .int x3] H (AE G [] H.size) (fun v H1 => ∃ (r : Int32), v = some (.int r) ∧ TY K G H1) := by
  refine MX.of (by decide +kernel) (Nat.le_of_ble_eq_true rfl) ?_
  intro p e s m below meth c ls Q C hH hl hQ
  subst hH
  have C : CX p K s m _ meth c RX10 cX10_twoOf 4 (some .int) "twoOf" := C
  obtain ⟨hx, hb, hml, hown, hts, hKT, hr, hlocks, hnm⟩ := id C
  have hl : lv_has ls 4 [(0, .ref a0), (1, .int x1), (2, .int x2), (3, .int x3)] := hl
  have hS : va_S (AE G [] s.heap.size) s.heap s.heap [] := va_S.rf
  have n_0 : (0 : Int32).toInt = 0 := rfl
  have n_1 : (1 : Int32).toInt = 1 := rfl
  have n_2 : (2 : Int32).toInt = 2 := rfl
  have n_3 : (3 : Int32).toInt = 3 := rfl
  have n_4 : (4 : Int32).toInt = 4 := rfl
  have n_5 : (5 : Int32).toInt = 5 := rfl
  have n_6 : (6 : Int32).toInt = 6 := rfl
  have n_7 : (7 : Int32).toInt = 7 := rfl
  have n_8 : (8 : Int32).toInt = 8 := rfl
  have n_10 : (10 : Int32).toInt = 10 := rfl
  have hap : ∀ x y, x < 74 → y < 74 → x ≠ y → K.1.2 10 x ≠ K.1.2 10 y := x_apart hKT hts inX10 tyX10 tyX10_ok nmX10 rfl
  have J110 : ∀ (ls243 : Array Slot) (H242 : Heap) (locsH242 : List Loc) (x245 : Int32), lv_has ls243 4 [] → TY K G H242 → va_S (AE G [] s.heap.size) s.heap H242 locsH242 → W p l e ({ frames := 0, cells := 0, slots := 0, locals := 0 } : Room) s m (([.ref a0, .int x1, .int x2, .int x3] : List Value).toArray) below meth c H242 locsH242 0 0 Q (F0 m 110 ls243 [.int x245]) := by
    intro ls243 H242 locsH242 x245 hl244 hTH242 hSH242 
    exact x_iret C hQ dX10_twoOf_110 hSH242 (by decide) (by decide) (⟨x245, rfl, hTH242⟩)
  have J86 : ∀ (ls248 : Array Slot) (H247 : Heap) (locsH247 : List Loc) (x250 : Int32), lv_has ls248 4 [] → TY K G H247 → va_S (AE G [] s.heap.size) s.heap H247 locsH247 → (0 ≤ x250.toInt ∧ x250.toInt ≤ 1) → W p l e ({ frames := 0, cells := 0, slots := 0, locals := 0 } : Room) s m (([.ref a0, .int x1, .int x2, .int x3] : List Value).toArray) below meth c H247 locsH247 0 0 Q (F0 m 86 ls248 [.int x250]) := by
    intro ls248 H247 locsH247 x250 hl249 hTH247 hSH247 bx250
    exact x_iret C hQ dX10_twoOf_86 hSH247 (by decide) (by decide) (⟨x250, rfl, hTH247⟩)
  have J69 : ∀ (ls253 : Array Slot) (H252 : Heap) (locsH252 : List Loc) (x255 : Int32), lv_has ls253 4 [] → TY K G H252 → va_S (AE G [] s.heap.size) s.heap H252 locsH252 → (0 ≤ x255.toInt ∧ x255.toInt ≤ 1) → W p l e ({ frames := 0, cells := 0, slots := 0, locals := 0 } : Room) s m (([.ref a0, .int x1, .int x2, .int x3] : List Value).toArray) below meth c H252 locsH252 0 0 Q (F0 m 69 ls253 [.int x255]) := by
    intro ls253 H252 locsH252 x255 hl254 hTH252 hSH252 bx255
    exact x_iret C hQ dX10_twoOf_69 hSH252 (by decide) (by decide) (⟨x255, rfl, hTH252⟩)
  have J52 : ∀ (ls258 : Array Slot) (H257 : Heap) (locsH257 : List Loc) (x260 : Int32), lv_has ls258 4 [] → TY K G H257 → va_S (AE G [] s.heap.size) s.heap H257 locsH257 → (0 ≤ x260.toInt ∧ x260.toInt ≤ 1) → W p l e ({ frames := 0, cells := 0, slots := 0, locals := 0 } : Room) s m (([.ref a0, .int x1, .int x2, .int x3] : List Value).toArray) below meth c H257 locsH257 0 0 Q (F0 m 52 ls258 [.int x260]) := by
    intro ls258 H257 locsH257 x260 hl259 hTH257 hSH257 bx260
    exact x_iret C hQ dX10_twoOf_52 hSH257 (by decide) (by decide) (⟨x260, rfl, hTH257⟩)
  refine lv_iload_n hx hb dX10_twoOf_0 rfl (lv_at hl 1 rfl) ?_
  refine lv_iconst (v := 2) hx hb dX10_twoOf_1 (by decide) ?_
  refine lv_icmp_ne (tgt := 9) hx hb dX10_twoOf_2 (by decide) (fun c262 => ?_) (fun c262 => ?_)
  · have k263 := i_ne c262
    refine lv_iload_n hx hb dX10_twoOf_9 rfl (lv_at hl 1 rfl) ?_
    refine lv_iconst (v := 3) hx hb dX10_twoOf_10 (by decide) ?_
    refine lv_icmp_ne (tgt := 18) hx hb dX10_twoOf_11 (by decide) (fun c264 => ?_) (fun c264 => ?_)
    · have k265 := i_ne c264
      refine lv_iload_n hx hb dX10_twoOf_18 rfl (lv_at hl 1 rfl) ?_
      refine lv_iconst (v := 4) hx hb dX10_twoOf_19 (by decide) ?_
      refine lv_icmp_ne (tgt := 27) hx hb dX10_twoOf_20 (by decide) (fun c266 => ?_) (fun c266 => ?_)
      · have k267 := i_ne c266
        refine lv_iload_n hx hb dX10_twoOf_27 rfl (lv_at hl 1 rfl) ?_
        refine lv_iconst (v := 5) hx hb dX10_twoOf_28 (by decide) ?_
        refine lv_icmp_ne (tgt := 36) hx hb dX10_twoOf_29 (by decide) (fun c268 => ?_) (fun c268 => ?_)
        · have k269 := i_ne c268
          refine lv_iload_n hx hb dX10_twoOf_36 rfl (lv_at hl 1 rfl) ?_
          refine lv_bipush (v := 6) hx hb dX10_twoOf_37 (by decide) ?_
          refine lv_icmp_ne (tgt := 53) hx hb dX10_twoOf_39 (by decide) (fun c270 => ?_) (fun c270 => ?_)
          · have k271 := i_ne c270
            refine lv_iload_n hx hb dX10_twoOf_53 rfl (lv_at hl 1 rfl) ?_
            refine lv_bipush (v := 7) hx hb dX10_twoOf_54 (by decide) ?_
            refine lv_icmp_ne (tgt := 70) hx hb dX10_twoOf_56 (by decide) (fun c272 => ?_) (fun c272 => ?_)
            · have k273 := i_ne c272
              refine lv_iload_n hx hb dX10_twoOf_70 rfl (lv_at hl 1 rfl) ?_
              refine lv_bipush (v := 8) hx hb dX10_twoOf_71 (by decide) ?_
              refine lv_icmp_ne (tgt := 87) hx hb dX10_twoOf_73 (by decide) (fun c274 => ?_) (fun c274 => ?_)
              · have k275 := i_ne c274
                refine lv_iload_n hx hb dX10_twoOf_87 rfl (lv_at hl 1 rfl) ?_
                refine lv_bipush (v := 10) hx hb dX10_twoOf_88 (by decide) ?_
                refine lv_icmp_ne (tgt := 99) hx hb dX10_twoOf_90 (by decide) (fun c276 => ?_) (fun c276 => ?_)
                · have k277 := i_ne c276
                  refine lv_iload_n hx hb dX10_twoOf_99 rfl (lv_at hl 2 rfl) ?_
                  refine lv_iload_n hx hb dX10_twoOf_100 rfl (lv_at hl 3 rfl) ?_
                  refine lv_iadd hx hb dX10_twoOf_101 ?_
                  refine lv_topi (fun x278 ex278 => ?_)
                  refine lv_if_le (tgt := 109) hx hb dX10_twoOf_102 (by decide) (fun c279 => ?_) (fun c279 => ?_)
                  · have k280 := i_le c279
                    refine lv_iconst (v := 0) hx hb dX10_twoOf_109 (by decide) ?_
                    exact J110 ls s.heap [] (0) (lv_sub hl [] rfl) hT hS 
                  · have k280 := i_nle c279
                    refine lv_iconst (v := 1) hx hb dX10_twoOf_105 (by decide) ?_
                    refine lv_goto (tgt := 110) hx hb dX10_twoOf_106 (by decide) ?_
                    exact J110 ls s.heap [] (1) (lv_sub hl [] rfl) hT hS 
                · have k277 := i_eq c276
                  refine lv_iload_n hx hb dX10_twoOf_93 rfl (lv_at hl 2 rfl) ?_
                  refine lv_iload_n hx hb dX10_twoOf_94 rfl (lv_at hl 3 rfl) ?_
                  refine lv_imul hx hb dX10_twoOf_95 ?_
                  refine lv_topi (fun x281 ex281 => ?_)
                  refine lv_goto (tgt := 110) hx hb dX10_twoOf_96 (by decide) ?_
                  exact J110 ls s.heap [] (x281) (lv_sub hl [] rfl) hT hS 
              · have k275 := i_eq c274
                refine lv_iload_n hx hb dX10_twoOf_76 rfl (lv_at hl 2 rfl) ?_
                refine lv_iload_n hx hb dX10_twoOf_77 rfl (lv_at hl 3 rfl) ?_
                refine lv_icmp_le (tgt := 85) hx hb dX10_twoOf_78 (by decide) (fun c282 => ?_) (fun c282 => ?_)
                · have k283 := i_le c282
                  refine lv_iconst (v := 0) hx hb dX10_twoOf_85 (by decide) ?_
                  exact J86 ls s.heap [] (0) (lv_sub hl [] rfl) hT hS (by decide)
                · have k283 := i_nle c282
                  refine lv_iconst (v := 1) hx hb dX10_twoOf_81 (by decide) ?_
                  refine lv_goto (tgt := 86) hx hb dX10_twoOf_82 (by decide) ?_
                  exact J86 ls s.heap [] (1) (lv_sub hl [] rfl) hT hS (by decide)
            · have k273 := i_eq c272
              refine lv_iload_n hx hb dX10_twoOf_59 rfl (lv_at hl 2 rfl) ?_
              refine lv_iload_n hx hb dX10_twoOf_60 rfl (lv_at hl 3 rfl) ?_
              refine lv_icmp_ne (tgt := 68) hx hb dX10_twoOf_61 (by decide) (fun c284 => ?_) (fun c284 => ?_)
              · have k285 := i_ne c284
                refine lv_iconst (v := 0) hx hb dX10_twoOf_68 (by decide) ?_
                exact J69 ls s.heap [] (0) (lv_sub hl [] rfl) hT hS (by decide)
              · have k285 := i_eq c284
                refine lv_iconst (v := 1) hx hb dX10_twoOf_64 (by decide) ?_
                refine lv_goto (tgt := 69) hx hb dX10_twoOf_65 (by decide) ?_
                exact J69 ls s.heap [] (1) (lv_sub hl [] rfl) hT hS (by decide)
          · have k271 := i_eq c270
            refine lv_iload_n hx hb dX10_twoOf_42 rfl (lv_at hl 2 rfl) ?_
            refine lv_iload_n hx hb dX10_twoOf_43 rfl (lv_at hl 3 rfl) ?_
            refine lv_icmp_ge (tgt := 51) hx hb dX10_twoOf_44 (by decide) (fun c286 => ?_) (fun c286 => ?_)
            · have k287 := i_le c286
              refine lv_iconst (v := 0) hx hb dX10_twoOf_51 (by decide) ?_
              exact J52 ls s.heap [] (0) (lv_sub hl [] rfl) hT hS (by decide)
            · have k287 := i_nle c286
              refine lv_iconst (v := 1) hx hb dX10_twoOf_47 (by decide) ?_
              refine lv_goto (tgt := 52) hx hb dX10_twoOf_48 (by decide) ?_
              exact J52 ls s.heap [] (1) (lv_sub hl [] rfl) hT hS (by decide)
        · have k269 := i_eq c268
          refine lv_iload_n hx hb dX10_twoOf_32 rfl (lv_at hl 2 rfl) ?_
          refine lv_iload_n hx hb dX10_twoOf_33 rfl (lv_at hl 3 rfl) ?_
          refine lv_idiv hx hb dX10_twoOf_34 (fun h => by have := i_eq h; omega) ?_
          refine lv_topi (fun x288 ex288 => ?_)
          exact x_iret C hQ dX10_twoOf_35 hS (by decide) (by decide) (⟨x288, rfl, hT⟩)
      · have k267 := i_eq c266
        refine lv_iload_n hx hb dX10_twoOf_23 rfl (lv_at hl 2 rfl) ?_
        refine lv_iload_n hx hb dX10_twoOf_24 rfl (lv_at hl 3 rfl) ?_
        refine lv_imul hx hb dX10_twoOf_25 ?_
        refine lv_topi (fun x289 ex289 => ?_)
        exact x_iret C hQ dX10_twoOf_26 hS (by decide) (by decide) (⟨x289, rfl, hT⟩)
    · have k265 := i_eq c264
      refine lv_iload_n hx hb dX10_twoOf_14 rfl (lv_at hl 2 rfl) ?_
      refine lv_iload_n hx hb dX10_twoOf_15 rfl (lv_at hl 3 rfl) ?_
      refine lv_isub hx hb dX10_twoOf_16 ?_
      refine lv_topi (fun x290 ex290 => ?_)
      exact x_iret C hQ dX10_twoOf_17 hS (by decide) (by decide) (⟨x290, rfl, hT⟩)
  · have k263 := i_eq c262
    refine lv_iload_n hx hb dX10_twoOf_5 rfl (lv_at hl 2 rfl) ?_
    refine lv_iload_n hx hb dX10_twoOf_6 rfl (lv_at hl 3 rfl) ?_
    refine lv_iadd hx hb dX10_twoOf_7 ?_
    refine lv_topi (fun x291 ex291 => ?_)
    exact x_iret C hQ dX10_twoOf_8 hS (by decide) (by decide) (⟨x291, rfl, hT⟩)

set_option maxHeartbeats 4000000 in
set_option maxRecDepth 100000 in
theorem a_X10_worth (l : Launch) (K : KE) (G : Nat → Option Nat) (H : Heap) {a0 : Nat} (x1 : Int32) (x2 : Int32) (x3 : Int32) {oq : Nat} {aq : Nat} {sq : Nat} (hT : TY K G H) (ga0 : G a0 = some 112) (hx1 : 0 ≤ x1.toInt ∧ x1.toInt ≤ 6) (hx2 : 0 ≤ x2.toInt ∧ x2.toInt ≤ 500) (hx3 : 0 ≤ x3.toInt ∧ x3.toInt ≤ 500) (goq : G oq = some 136) (eoq : oq = fR H a0 (K.1.2 10 32)) (gaq : G aq = some 137) (eaq : aq = fR H a0 (K.1.2 10 33)) (gsq : G sq = some 140) (esq : sq = fR H a0 (K.1.2 10 44)) (hy0 : ∃ E, WF (fun k => fI H oq k) (fun k => fI H aq k) (500 * x1.toNatClampNeg + x2.toNatClampNeg) (500 * x1.toNatClampNeg + x3.toNatClampNeg) 0 E) : MX l K yX10_worth cX10_worth 6 (some .int) 1 23 0 0 [.ref a0, .int x1, .int x2, .int x3] H (AE G [140] H.size) (fun v H1 => ∃ (r : Int32), v = some (.int r) ∧ TY K G H1) := by
  refine MX.of (by decide +kernel) (Nat.le_of_ble_eq_true rfl) ?_
  intro p e s m below meth c ls Q C hH hl hQ
  subst hH
  have C : CX p K s m _ meth c RX10 cX10_worth 6 (some .int) "worth" := C
  obtain ⟨hx, hb, hml, hown, hts, hKT, hr, hlocks, hnm⟩ := id C
  have hl : lv_has ls 6 [(0, .ref a0), (1, .int x1), (2, .int x2), (3, .int x3)] := hl
  have hS : va_S (AE G [140] s.heap.size) s.heap s.heap [] := va_S.rf
  have n_0 : (0 : Int32).toInt = 0 := rfl
  have n_1 : (1 : Int32).toInt = 1 := rfl
  have n_9 : (9 : Int32).toInt = 9 := rfl
  have n_500 : (500 : Int32).toInt = 500 := rfl
  have hap : ∀ x y, x < 74 → y < 74 → x ≠ y → K.1.2 10 x ≠ K.1.2 10 y := x_apart hKT hts inX10 tyX10 tyX10_ok nmX10 rfl
  obtain ⟨E, d, hd0, hdE, hd⟩ := hy0
  have hx1n := i_cl (x := x1) (by omega)
  have hx2n := i_cl (x := x2) (by omega)
  have hx3n := i_cl (x := x3) (by omega)
  have f0_op : ∀ j : Nat, fI s.heap oq j = fI s.heap oq j := fun _ => rfl
  have f0_ar : ∀ j : Nat, fI s.heap aq j = fI s.heap aq j := fun _ => rfl
  have J12 : ∀ (nf : Nat) (kn : Nat) (ls3272 : Array Slot) (H3271 : Heap) (locsH3271 : List Loc) (x3274 : Int32) (x3275 : Int32), lv_has ls3272 6 [(0, .ref a0), (1, .int x1), (3, .int x3), (4, .int x3274), (5, .int x3275)] → TY K G H3271 → va_S (AE G [140] s.heap.size) s.heap H3271 locsH3271 → (0 ≤ x3274.toInt ∧ x3274.toInt ≤ 501) → (0 ≤ x3275.toInt ∧ x3275.toInt ≤ 3500) → (oq = fR H3271 a0 (K.1.2 10 32)) → (aq = fR H3271 a0 (K.1.2 10 33)) → (sq = fR H3271 a0 (K.1.2 10 44)) → (∀ j : Nat, fI H3271 oq j = fI s.heap oq j) → (∀ j : Nat, fI H3271 aq j = fI s.heap aq j) → (3500 - x3275.toInt < (nf : Int)) → (x3275.toInt = (kn : Int)) → (500 * x1.toNatClampNeg + x2.toNatClampNeg ≤ kn) → (x3274.toInt = (d kn : Int)) → (∀ z y : Nat, z + 1 = kn → 500 * x1.toNatClampNeg + x2.toNatClampNeg ≤ z → (fI s.heap oq z).toInt = 0 → (y : Int) + 1 = x3274.toInt → fI H3271 sq y = fI s.heap aq z) → W p l e ({ frames := 1, cells := 0, slots := 0, locals := 23 } : Room) s m (([.ref a0, .int x1, .int x2, .int x3] : List Value).toArray) below meth c H3271 locsH3271 0 0 Q (F0 m 12 ls3272 []) := by
    intro nf
    induction nf with
    | zero =>
      intro kn ls3272 H3271 locsH3271 x3274 x3275 hl3273 hTH3271 hSH3271 bx3274 bx3275 cy3276_0 cy3276_1 cy3276_2 fy3276_op fy3276_ar hm12 hkn hka hn hpt
      exfalso
      omega
    | succ nf ih12 =>
      intro kn ls3272 H3271 locsH3271 x3274 x3275 hl3273 hTH3271 hSH3271 bx3274 bx3275 cy3276_0 cy3276_1 cy3276_2 fy3276_op fy3276_ar hm12 hkn hka hn hpt
      refine lv_iload hx hb dX10_worth_12 (lv_at hl3273 4 rfl) ?_
      refine lv_sipush (v := 500) hx hb dX10_worth_14 (by decide) ?_
      refine lv_iload_n hx hb dX10_worth_17 rfl (lv_at hl3273 1 rfl) ?_
      refine lv_imul hx hb dX10_worth_18 ?_
      refine lv_topi (fun x3277 ex3277 => ?_)
      have tx3277 := i_mul ex3277 (by rw [n_500]; omega)
      rw [n_500] at tx3277
      refine lv_iload_n hx hb dX10_worth_19 rfl (lv_at hl3273 2 rfl) ?_
      refine lv_iadd hx hb dX10_worth_20 ?_
      refine lv_topi (fun x3278 ex3278 => ?_)
      have tx3278 := i_add ex3278 (by omega)
      refine lv_icmp_ge (tgt := 176) hx hb dX10_worth_21 (by decide) (fun c3279 => ?_) (fun c3279 => ?_)
      · have k3280 := i_le c3279
        refine lv_aload_n hx hb dX10_worth_176 rfl (lv_at hl3273 0 rfl) ?_
        refine x_gr C hTH3271 (ci := 10) (k := 44) rfl inX10 (by decide) wF_X10_98 ga0 rg_112 rfl dX10_worth_177 (fun q3281 eq3281 gq3281 => ?_)
        have uq3281 : sq = q3281 := (cy3276_2).trans eq3281.symm
        subst uq3281
        refine lv_iconst (v := 0) hx hb dX10_worth_180 (by decide) ?_
        refine x_ai C hTH3271 gsq rg_140 (by decide) dX10_worth_181 (fun x3282 ex3282 bx3282 => ?_)
        exact x_iret C hQ dX10_worth_182 hSH3271 (by decide) (by decide) (⟨x3282, rfl, hTH3271⟩)
      · have k3280 := i_nle c3279
        have hle := hd.le kn hka (by omega)
        have hw := hd kn hka (by omega)
        dsimp only at hw
        refine lv_aload_n hx hb dX10_worth_24 rfl (lv_at hl3273 0 rfl) ?_
        refine x_gr C hTH3271 (ci := 10) (k := 32) rfl inX10 (by decide) wF_X10_83 ga0 rg_112 rfl dX10_worth_25 (fun q3283 eq3283 gq3283 => ?_)
        have uq3283 : oq = q3283 := (cy3276_0).trans eq3283.symm
        subst uq3283
        refine lv_iload hx hb dX10_worth_28 (lv_at hl3273 4 rfl) ?_
        refine x_ai C hTH3271 goq rg_136 ⟨by omega, by show _ < ((3500 : Nat) : Int); omega⟩ dX10_worth_30 (fun x3284 ex3284 bx3284 => ?_)
        have wx3284 : x3284.toInt = (fI s.heap oq kn).toInt := by rw [ex3284, fy3276_op, i_nk hkn]
        refine lv_if_eq (tgt := 45) hx hb dX10_worth_31 (by decide) (fun c3285 => ?_) (fun c3285 => ?_)
        · have k3286 := i_eq c3285
          refine lv_aload_n hx hb dX10_worth_45 rfl (lv_at hl3273 0 rfl) ?_
          refine x_gr C hTH3271 (ci := 10) (k := 44) rfl inX10 (by decide) wF_X10_98 ga0 rg_112 rfl dX10_worth_46 (fun q3287 eq3287 gq3287 => ?_)
          have uq3287 : sq = q3287 := (cy3276_2).trans eq3287.symm
          subst uq3287
          refine lv_iload hx hb dX10_worth_49 (lv_at hl3273 3 rfl) ?_
          refine lv_aload_n hx hb dX10_worth_51 rfl (lv_at hl3273 0 rfl) ?_
          refine x_gr C hTH3271 (ci := 10) (k := 32) rfl inX10 (by decide) wF_X10_83 ga0 rg_112 rfl dX10_worth_52 (fun q3288 eq3288 gq3288 => ?_)
          have uq3288 : oq = q3288 := (cy3276_0).trans eq3288.symm
          subst uq3288
          refine lv_iload hx hb dX10_worth_55 (lv_at hl3273 4 rfl) ?_
          refine x_ai C hTH3271 goq rg_136 ⟨by omega, by show _ < ((3500 : Nat) : Int); omega⟩ dX10_worth_57 (fun x3289 ex3289 bx3289 => ?_)
          have ux3289 : x3284 = x3289 := (ex3284).trans ex3289.symm
          subst ux3289
          refine lv_if_ne (tgt := 71) hx hb dX10_worth_58 (by decide) (fun c3290 => ?_) (fun c3290 => ?_)
          · have k3291 := i_ne c3290
            exfalso
            omega
          · have k3291 := i_eq c3290
            refine lv_aload_n hx hb dX10_worth_61 rfl (lv_at hl3273 0 rfl) ?_
            refine x_gr C hTH3271 (ci := 10) (k := 33) rfl inX10 (by decide) wF_X10_86 ga0 rg_112 rfl dX10_worth_62 (fun q3292 eq3292 gq3292 => ?_)
            have uq3292 : aq = q3292 := (cy3276_1).trans eq3292.symm
            subst uq3292
            refine lv_iload hx hb dX10_worth_65 (lv_at hl3273 4 rfl) ?_
            refine x_ai C hTH3271 gaq rg_137 ⟨by omega, by show _ < ((3500 : Nat) : Int); omega⟩ dX10_worth_67 (fun x3293 ex3293 bx3293 => ?_)
            have wx3293 : x3293.toInt = (fI s.heap aq kn).toInt := by rw [ex3293, fy3276_ar, i_nk hkn]
            refine lv_goto (tgt := 83) hx hb dX10_worth_68 (by decide) ?_
            refine x_iast C hTH3271 hSH3271 gsq rg_140 (by omega) (by show _ < ((520 : Nat) : Int); omega) ⟨by have := i_rng x3293; omega, by have := i_rng x3293; omega⟩ (AE_in gsq (by decide)) dX10_worth_83 (fun H3294 locsH3294 hTH3294 hSH3294 wH3294 => ?_)
            have f3295 : ∀ j : Nat, fI H3294 oq j = fI s.heap oq j := fun j => (Wr.neI wH3294 (Or.inl (G_ne goq gsq (by decide)))).trans (fy3276_op j)
            have f3296 : ∀ j : Nat, fI H3294 aq j = fI s.heap aq j := fun j => (Wr.neI wH3294 (Or.inl (G_ne gaq gsq (by decide)))).trans (fy3276_ar j)
            have m3297 := cy3276_0.trans (Wr.neR wH3294 (Or.inl (G_ne ga0 gsq (by decide)))).symm
            have m3298 := cy3276_1.trans (Wr.neR wH3294 (Or.inl (G_ne ga0 gsq (by decide)))).symm
            have m3299 := cy3276_2.trans (Wr.neR wH3294 (Or.inl (G_ne ga0 gsq (by decide)))).symm
            have m3300 := ex3284.trans (Wr.neI wH3294 (Or.inl (G_ne goq gsq (by decide)))).symm
            have m3301 := ex3293.trans (Wr.neI wH3294 (Or.inl (G_ne gaq gsq (by decide)))).symm
            have m3302 := Wr.I wH3294
            have m3302 := m3302.symm
            refine lv_iload hx hb dX10_worth_84 (lv_at hl3273 3 rfl) ?_
            refine lv_iconst (v := 1) hx hb dX10_worth_86 (by decide) ?_
            refine lv_iadd hx hb dX10_worth_87 ?_
            refine lv_topi (fun x3303 ex3303 => ?_)
            have tx3303 := i_add ex3303 (by omega)
            refine lv_istore (lv' := [(4, .int x3303), (0, .ref a0), (1, .int x1), (3, .int x3), (5, .int x3275)]) hx hb dX10_worth_88 hl3273 (by decide) rfl (fun ls3304 hl3305 => ?_)
            refine lv_goto (tgt := 170) hx hb dX10_worth_90 (by decide) ?_
            obtain ⟨x3306, ex3306⟩ : ∃ y : Int32, y = x3275 + 1 := ⟨_, rfl⟩
            have tx3306 := i_add ex3306 (by omega)
            refine lv_iinc (v := x3306) (lv' := [(5, .int x3306), (4, .int x3303), (0, .ref a0), (1, .int x1), (3, .int x3)]) hx hb dX10_worth_170 hl3305 (k := 4) rfl (by rw [ex3306]; rfl) (by decide) rfl (fun ls3307 hl3308 => ?_)
            refine lv_goto (tgt := 12) hx hb dX10_worth_173 (by decide) ?_
            have hpt2 : ∀ z y : Nat, z + 1 = kn + 1 → 500 * x1.toNatClampNeg + x2.toNatClampNeg ≤ z → (fI s.heap oq z).toInt = 0 → (y : Int) + 1 = x3303.toInt → fI H3294 sq y = fI s.heap aq z := by
              intro z y hz ha ho hy
              have e1 : z = kn := by omega
              rw [e1] at ho ⊢
              have e2 := i_nk (k := x3274) (n := y) (by omega)
              rw [← e2, ← m3302]
              exact Int32.toInt_inj.mp (by omega)
            exact ih12 (kn + 1) ls3307 H3294 locsH3294 (x3303) (x3306) (lv_sub hl3308 [2, 3, 4, 1, 0] rfl) hTH3294 hSH3294 (by have := i_rng x3303; omega) (by have := i_rng x3306; omega) m3297 m3298 m3299 f3295 f3296 (by omega) (by omega) (by omega) (by omega) hpt2
        · have k3286 := i_ne c3285
          refine lv_aload_n hx hb dX10_worth_34 rfl (lv_at hl3273 0 rfl) ?_
          refine x_gr C hTH3271 (ci := 10) (k := 32) rfl inX10 (by decide) wF_X10_83 ga0 rg_112 rfl dX10_worth_35 (fun q3309 eq3309 gq3309 => ?_)
          have uq3309 : oq = q3309 := (cy3276_0).trans eq3309.symm
          subst uq3309
          refine lv_iload hx hb dX10_worth_38 (lv_at hl3273 4 rfl) ?_
          refine x_ai C hTH3271 goq rg_136 ⟨by omega, by show _ < ((3500 : Nat) : Int); omega⟩ dX10_worth_40 (fun x3310 ex3310 bx3310 => ?_)
          have ux3310 : x3284 = x3310 := (ex3284).trans ex3310.symm
          subst ux3310
          refine lv_iconst (v := 1) hx hb dX10_worth_41 (by decide) ?_
          refine lv_icmp_ne (tgt := 93) hx hb dX10_worth_42 (by decide) (fun c3311 => ?_) (fun c3311 => ?_)
          · have k3312 := i_ne c3311
            refine lv_aload_n hx hb dX10_worth_93 rfl (lv_at hl3273 0 rfl) ?_
            refine x_gr C hTH3271 (ci := 10) (k := 32) rfl inX10 (by decide) wF_X10_83 ga0 rg_112 rfl dX10_worth_94 (fun q3313 eq3313 gq3313 => ?_)
            have uq3313 : oq = q3313 := (cy3276_0).trans eq3313.symm
            subst uq3313
            refine lv_iload hx hb dX10_worth_97 (lv_at hl3273 4 rfl) ?_
            refine x_ai C hTH3271 goq rg_136 ⟨by omega, by show _ < ((3500 : Nat) : Int); omega⟩ dX10_worth_99 (fun x3314 ex3314 bx3314 => ?_)
            have ux3314 : x3284 = x3314 := (ex3284).trans ex3314.symm
            subst ux3314
            refine lv_bipush (v := 9) hx hb dX10_worth_100 (by decide) ?_
            refine lv_icmp_ne (tgt := 128) hx hb dX10_worth_102 (by decide) (fun c3315 => ?_) (fun c3315 => ?_)
            · have k3316 := i_ne c3315
              refine lv_iload hx hb dX10_worth_128 (lv_at hl3273 3 rfl) ?_
              refine lv_iconst (v := 1) hx hb dX10_worth_130 (by decide) ?_
              refine lv_isub hx hb dX10_worth_131 ?_
              refine lv_topi (fun x3317 ex3317 => ?_)
              have tx3317 := i_sub ex3317 (by omega)
              refine lv_istore (lv' := [(4, .int x3317), (0, .ref a0), (1, .int x1), (3, .int x3), (5, .int x3275)]) hx hb dX10_worth_132 hl3273 (by decide) rfl (fun ls3318 hl3319 => ?_)
              refine lv_aload_n hx hb dX10_worth_134 rfl (lv_at hl3319 1 rfl) ?_
              refine x_gr C hTH3271 (ci := 10) (k := 44) rfl inX10 (by decide) wF_X10_98 ga0 rg_112 rfl dX10_worth_135 (fun q3320 eq3320 gq3320 => ?_)
              have uq3320 : sq = q3320 := (cy3276_2).trans eq3320.symm
              subst uq3320
              refine lv_iload hx hb dX10_worth_138 (lv_at hl3319 0 rfl) ?_
              refine lv_iconst (v := 1) hx hb dX10_worth_140 (by decide) ?_
              refine lv_isub hx hb dX10_worth_141 ?_
              refine lv_topi (fun x3321 ex3321 => ?_)
              have tx3321 := i_sub ex3321 (by omega)
              refine lv_aload_n hx hb dX10_worth_142 rfl (lv_at hl3319 1 rfl) ?_
              refine lv_aload_n hx hb dX10_worth_143 rfl (lv_at hl3319 1 rfl) ?_
              refine x_gr C hTH3271 (ci := 10) (k := 32) rfl inX10 (by decide) wF_X10_83 ga0 rg_112 rfl dX10_worth_144 (fun q3322 eq3322 gq3322 => ?_)
              have uq3322 : oq = q3322 := (cy3276_0).trans eq3322.symm
              subst uq3322
              refine lv_iload hx hb dX10_worth_147 (lv_at hl3319 4 rfl) ?_
              refine x_ai C hTH3271 goq rg_136 ⟨by omega, by show _ < ((3500 : Nat) : Int); omega⟩ dX10_worth_149 (fun x3323 ex3323 bx3323 => ?_)
              have ux3323 : x3284 = x3323 := (ex3284).trans ex3323.symm
              subst ux3323
              refine lv_aload_n hx hb dX10_worth_150 rfl (lv_at hl3319 1 rfl) ?_
              refine x_gr C hTH3271 (ci := 10) (k := 44) rfl inX10 (by decide) wF_X10_98 ga0 rg_112 rfl dX10_worth_151 (fun q3324 eq3324 gq3324 => ?_)
              have uq3324 : sq = q3324 := (cy3276_2).trans eq3324.symm
              subst uq3324
              refine lv_iload hx hb dX10_worth_154 (lv_at hl3319 0 rfl) ?_
              refine lv_iconst (v := 1) hx hb dX10_worth_156 (by decide) ?_
              refine lv_isub hx hb dX10_worth_157 ?_
              refine lv_topi (fun x3325 ex3325 => ?_)
              have tx3325 := i_sub ex3325 (by omega)
              refine x_ai C hTH3271 gsq rg_140 ⟨by omega, by show _ < ((520 : Nat) : Int); omega⟩ dX10_worth_158 (fun x3326 ex3326 bx3326 => ?_)
              refine lv_aload_n hx hb dX10_worth_159 rfl (lv_at hl3319 1 rfl) ?_
              refine x_gr C hTH3271 (ci := 10) (k := 44) rfl inX10 (by decide) wF_X10_98 ga0 rg_112 rfl dX10_worth_160 (fun q3327 eq3327 gq3327 => ?_)
              have uq3327 : sq = q3327 := (cy3276_2).trans eq3327.symm
              subst uq3327
              refine lv_iload hx hb dX10_worth_163 (lv_at hl3319 0 rfl) ?_
              refine x_ai C hTH3271 gsq rg_140 ⟨by omega, by show _ < ((520 : Nat) : Int); omega⟩ dX10_worth_165 (fun x3328 ex3328 bx3328 => ?_)
              have hdv : x3284.toInt ≠ 5 ∨ x3328.toInt ≠ 0 := by
                by_cases h5 : x3284.toInt = 5
                · have h6 : 500 * x1.toNatClampNeg + x2.toNatClampNeg < kn ∧ (fI s.heap oq (kn - 1)).toInt = 0 ∧ (fI s.heap aq (kn - 1)).toInt ≠ 0 := by omega
                  have h7 := hpt (kn - 1) x3317.toNatClampNeg (by omega) (by omega) h6.2.1 (by rw [i_cl (by omega)]; omega)
                  refine Or.inr ?_
                  rw [ex3328, h7]
                  exact h6.2.2
                · exact Or.inl h5
              refine x_V (As := [.int x3284, .int x3326, .int x3328]) (rest := [.int x3321, .ref sq]) C (a_X10_twoOf l K G H3271 (x3284) (x3326) (x3328) hTH3271 ga0 (by omega)) yo_X10_twoOf wM_X10_298 ⟨⟨by decide, by decide⟩, by decide, by decide⟩ (x_rv C hTH3271 (ci := 10) rfl ga0 rg_112) rfl hl3319.1 rfl (Nat.le_of_ble_eq_true rfl) dX10_worth_166 hSH3271 (AE_sub (fun _ _ => rfl) (by decide) hSH3271.1) (fun vH3329 H3329 locsH3329 pH3329 zH3329 kH3329 hSH3329 => ?_)
              obtain ⟨x3330, hvH3329, hTH3329⟩ := pH3329
              subst hvH3329
              have f3331 : ∀ j : Nat, fI H3329 oq j = fI s.heap oq j := fun j => (fI_kept (x_lt hTH3271 kH3329 goq (by decide))).trans (fy3276_op j)
              have f3332 : ∀ j : Nat, fI H3329 aq j = fI s.heap aq j := fun j => (fI_kept (x_lt hTH3271 kH3329 gaq (by decide))).trans (fy3276_ar j)
              have m3333 := (cy3276_0).trans (fR_kept (x_lt hTH3271 kH3329 ga0 (by decide))).symm
              have m3334 := (cy3276_1).trans (fR_kept (x_lt hTH3271 kH3329 ga0 (by decide))).symm
              have m3335 := (cy3276_2).trans (fR_kept (x_lt hTH3271 kH3329 ga0 (by decide))).symm
              have m3336 := (ex3284).trans (fI_kept (x_lt hTH3271 kH3329 goq (by decide))).symm
              have m3337 := (ex3326).trans (fI_kept (x_lt hTH3271 kH3329 gsq (by decide))).symm
              have m3338 := (ex3328).trans (fI_kept (x_lt hTH3271 kH3329 gsq (by decide))).symm
              refine W.eq (g2 := F0 m 169 ls3318 [.int x3330, .int x3321, .ref sq]) rfl ?_
              refine x_iast C hTH3329 hSH3329 gsq rg_140 (by omega) (by show _ < ((520 : Nat) : Int); omega) ⟨by have := i_rng x3330; omega, by have := i_rng x3330; omega⟩ (AE_in gsq (by decide)) dX10_worth_169 (fun H3339 locsH3339 hTH3339 hSH3339 wH3339 => ?_)
              have f3340 : ∀ j : Nat, fI H3339 oq j = fI s.heap oq j := fun j => (Wr.neI wH3339 (Or.inl (G_ne goq gsq (by decide)))).trans (f3331 j)
              have f3341 : ∀ j : Nat, fI H3339 aq j = fI s.heap aq j := fun j => (Wr.neI wH3339 (Or.inl (G_ne gaq gsq (by decide)))).trans (f3332 j)
              have m3342 := m3333.trans (Wr.neR wH3339 (Or.inl (G_ne ga0 gsq (by decide)))).symm
              have m3343 := m3334.trans (Wr.neR wH3339 (Or.inl (G_ne ga0 gsq (by decide)))).symm
              have m3344 := m3335.trans (Wr.neR wH3339 (Or.inl (G_ne ga0 gsq (by decide)))).symm
              have m3345 := m3336.trans (Wr.neI wH3339 (Or.inl (G_ne goq gsq (by decide)))).symm
              have m3348 := Wr.I wH3339
              have m3348 := m3348.symm
              obtain ⟨x3349, ex3349⟩ : ∃ y : Int32, y = x3275 + 1 := ⟨_, rfl⟩
              have tx3349 := i_add ex3349 (by omega)
              refine lv_iinc (v := x3349) (lv' := [(5, .int x3349), (4, .int x3317), (0, .ref a0), (1, .int x1), (3, .int x3)]) hx hb dX10_worth_170 hl3319 (k := 4) rfl (by rw [ex3349]; rfl) (by decide) rfl (fun ls3350 hl3351 => ?_)
              refine lv_goto (tgt := 12) hx hb dX10_worth_173 (by decide) ?_
              have hpt2 : ∀ z y : Nat, z + 1 = kn + 1 → 500 * x1.toNatClampNeg + x2.toNatClampNeg ≤ z → (fI s.heap oq z).toInt = 0 → (y : Int) + 1 = x3317.toInt → fI H3339 sq y = fI s.heap aq z := by
                intro z y hz ha ho hy
                have e1 : z = kn := by omega
                rw [e1] at ho ⊢
                exfalso
                omega
              exact ih12 (kn + 1) ls3350 H3339 locsH3339 (x3317) (x3349) (lv_sub hl3351 [2, 3, 4, 1, 0] rfl) hTH3339 hSH3339 (by have := i_rng x3317; omega) (by have := i_rng x3349; omega) m3342 m3343 m3344 f3340 f3341 (by omega) (by omega) (by omega) (by omega) hpt2
            · have k3316 := i_eq c3315
              refine lv_aload_n hx hb dX10_worth_105 rfl (lv_at hl3273 0 rfl) ?_
              refine x_gr C hTH3271 (ci := 10) (k := 44) rfl inX10 (by decide) wF_X10_98 ga0 rg_112 rfl dX10_worth_106 (fun q3352 eq3352 gq3352 => ?_)
              have uq3352 : sq = q3352 := (cy3276_2).trans eq3352.symm
              subst uq3352
              refine lv_iload hx hb dX10_worth_109 (lv_at hl3273 3 rfl) ?_
              refine lv_iconst (v := 1) hx hb dX10_worth_111 (by decide) ?_
              refine lv_isub hx hb dX10_worth_112 ?_
              refine lv_topi (fun x3353 ex3353 => ?_)
              have tx3353 := i_sub ex3353 (by omega)
              refine lv_iconst (v := 1) hx hb dX10_worth_113 (by decide) ?_
              refine lv_aload_n hx hb dX10_worth_114 rfl (lv_at hl3273 0 rfl) ?_
              refine x_gr C hTH3271 (ci := 10) (k := 44) rfl inX10 (by decide) wF_X10_98 ga0 rg_112 rfl dX10_worth_115 (fun q3354 eq3354 gq3354 => ?_)
              have uq3354 : sq = q3354 := (cy3276_2).trans eq3354.symm
              subst uq3354
              refine lv_iload hx hb dX10_worth_118 (lv_at hl3273 3 rfl) ?_
              refine lv_iconst (v := 1) hx hb dX10_worth_120 (by decide) ?_
              refine lv_isub hx hb dX10_worth_121 ?_
              refine lv_topi (fun x3355 ex3355 => ?_)
              have tx3355 := i_sub ex3355 (by omega)
              refine x_ai C hTH3271 gsq rg_140 ⟨by omega, by show _ < ((520 : Nat) : Int); omega⟩ dX10_worth_122 (fun x3356 ex3356 bx3356 => ?_)
              refine lv_isub hx hb dX10_worth_123 ?_
              refine lv_topi (fun x3357 ex3357 => ?_)
              refine x_iast C hTH3271 hSH3271 gsq rg_140 (by omega) (by show _ < ((520 : Nat) : Int); omega) ⟨by have := i_rng x3357; omega, by have := i_rng x3357; omega⟩ (AE_in gsq (by decide)) dX10_worth_124 (fun H3358 locsH3358 hTH3358 hSH3358 wH3358 => ?_)
              have f3359 : ∀ j : Nat, fI H3358 oq j = fI s.heap oq j := fun j => (Wr.neI wH3358 (Or.inl (G_ne goq gsq (by decide)))).trans (fy3276_op j)
              have f3360 : ∀ j : Nat, fI H3358 aq j = fI s.heap aq j := fun j => (Wr.neI wH3358 (Or.inl (G_ne gaq gsq (by decide)))).trans (fy3276_ar j)
              have m3361 := cy3276_0.trans (Wr.neR wH3358 (Or.inl (G_ne ga0 gsq (by decide)))).symm
              have m3362 := cy3276_1.trans (Wr.neR wH3358 (Or.inl (G_ne ga0 gsq (by decide)))).symm
              have m3363 := cy3276_2.trans (Wr.neR wH3358 (Or.inl (G_ne ga0 gsq (by decide)))).symm
              have m3364 := ex3284.trans (Wr.neI wH3358 (Or.inl (G_ne goq gsq (by decide)))).symm
              have m3366 := Wr.I wH3358
              have m3366 := m3366.symm
              refine lv_goto (tgt := 170) hx hb dX10_worth_125 (by decide) ?_
              obtain ⟨x3367, ex3367⟩ : ∃ y : Int32, y = x3275 + 1 := ⟨_, rfl⟩
              have tx3367 := i_add ex3367 (by omega)
              refine lv_iinc (v := x3367) (lv' := [(5, .int x3367), (0, .ref a0), (1, .int x1), (3, .int x3), (4, .int x3274)]) hx hb dX10_worth_170 hl3273 (k := 4) rfl (by rw [ex3367]; rfl) (by decide) rfl (fun ls3368 hl3369 => ?_)
              refine lv_goto (tgt := 12) hx hb dX10_worth_173 (by decide) ?_
              have hpt2 : ∀ z y : Nat, z + 1 = kn + 1 → 500 * x1.toNatClampNeg + x2.toNatClampNeg ≤ z → (fI s.heap oq z).toInt = 0 → (y : Int) + 1 = x3274.toInt → fI H3358 sq y = fI s.heap aq z := by
                intro z y hz ha ho hy
                have e1 : z = kn := by omega
                rw [e1] at ho ⊢
                exfalso
                omega
              exact ih12 (kn + 1) ls3368 H3358 locsH3358 (x3274) (x3367) (lv_sub hl3369 [1, 2, 3, 4, 0] rfl) hTH3358 hSH3358 (by have := i_rng x3274; omega) (by have := i_rng x3367; omega) m3361 m3362 m3363 f3359 f3360 (by omega) (by omega) (by omega) (by omega) hpt2
          · have k3312 := i_eq c3311
            refine lv_aload_n hx hb dX10_worth_45 rfl (lv_at hl3273 0 rfl) ?_
            refine x_gr C hTH3271 (ci := 10) (k := 44) rfl inX10 (by decide) wF_X10_98 ga0 rg_112 rfl dX10_worth_46 (fun q3370 eq3370 gq3370 => ?_)
            have uq3370 : sq = q3370 := (cy3276_2).trans eq3370.symm
            subst uq3370
            refine lv_iload hx hb dX10_worth_49 (lv_at hl3273 3 rfl) ?_
            refine lv_aload_n hx hb dX10_worth_51 rfl (lv_at hl3273 0 rfl) ?_
            refine x_gr C hTH3271 (ci := 10) (k := 32) rfl inX10 (by decide) wF_X10_83 ga0 rg_112 rfl dX10_worth_52 (fun q3371 eq3371 gq3371 => ?_)
            have uq3371 : oq = q3371 := (cy3276_0).trans eq3371.symm
            subst uq3371
            refine lv_iload hx hb dX10_worth_55 (lv_at hl3273 4 rfl) ?_
            refine x_ai C hTH3271 goq rg_136 ⟨by omega, by show _ < ((3500 : Nat) : Int); omega⟩ dX10_worth_57 (fun x3372 ex3372 bx3372 => ?_)
            have ux3372 : x3284 = x3372 := (ex3284).trans ex3372.symm
            subst ux3372
            refine lv_if_ne (tgt := 71) hx hb dX10_worth_58 (by decide) (fun c3373 => ?_) (fun c3373 => ?_)
            · have k3374 := i_ne c3373
              refine lv_aload_n hx hb dX10_worth_71 rfl (lv_at hl3273 0 rfl) ?_
              refine x_gr C hTH3271 (ci := 10) (k := 43) rfl inX10 (by decide) wF_X10_95 ga0 rg_112 rfl dX10_worth_72 (fun q3375 eq3375 gq3375 => ?_)
              refine lv_aload_n hx hb dX10_worth_75 rfl (lv_at hl3273 0 rfl) ?_
              refine x_gr C hTH3271 (ci := 10) (k := 33) rfl inX10 (by decide) wF_X10_86 ga0 rg_112 rfl dX10_worth_76 (fun q3376 eq3376 gq3376 => ?_)
              have uq3376 : aq = q3376 := (cy3276_1).trans eq3376.symm
              subst uq3376
              refine lv_iload hx hb dX10_worth_79 (lv_at hl3273 4 rfl) ?_
              refine x_ai C hTH3271 gaq rg_137 ⟨by omega, by show _ < ((3500 : Nat) : Int); omega⟩ dX10_worth_81 (fun x3377 ex3377 bx3377 => ?_)
              have wx3377 : x3377.toInt = (fI s.heap aq kn).toInt := by rw [ex3377, fy3276_ar, i_nk hkn]
              refine x_ai C hTH3271 gq3375 rg_139 ⟨by omega, by show _ < ((14 : Nat) : Int); omega⟩ dX10_worth_82 (fun x3378 ex3378 bx3378 => ?_)
              refine x_iast C hTH3271 hSH3271 gsq rg_140 (by omega) (by show _ < ((520 : Nat) : Int); omega) ⟨by have := i_rng x3378; omega, by have := i_rng x3378; omega⟩ (AE_in gsq (by decide)) dX10_worth_83 (fun H3379 locsH3379 hTH3379 hSH3379 wH3379 => ?_)
              have f3380 : ∀ j : Nat, fI H3379 oq j = fI s.heap oq j := fun j => (Wr.neI wH3379 (Or.inl (G_ne goq gsq (by decide)))).trans (fy3276_op j)
              have f3381 : ∀ j : Nat, fI H3379 aq j = fI s.heap aq j := fun j => (Wr.neI wH3379 (Or.inl (G_ne gaq gsq (by decide)))).trans (fy3276_ar j)
              have m3382 := cy3276_0.trans (Wr.neR wH3379 (Or.inl (G_ne ga0 gsq (by decide)))).symm
              have m3383 := cy3276_1.trans (Wr.neR wH3379 (Or.inl (G_ne ga0 gsq (by decide)))).symm
              have m3384 := cy3276_2.trans (Wr.neR wH3379 (Or.inl (G_ne ga0 gsq (by decide)))).symm
              have m3385 := ex3284.trans (Wr.neI wH3379 (Or.inl (G_ne goq gsq (by decide)))).symm
              have m3386 := eq3375.trans (Wr.neR wH3379 (Or.inl (G_ne ga0 gsq (by decide)))).symm
              have m3387 := ex3377.trans (Wr.neI wH3379 (Or.inl (G_ne gaq gsq (by decide)))).symm
              have m3388 := ex3378.trans (Wr.neI wH3379 (Or.inl (G_ne gq3375 gsq (by decide)))).symm
              have m3389 := Wr.I wH3379
              have m3389 := m3389.symm
              refine lv_iload hx hb dX10_worth_84 (lv_at hl3273 3 rfl) ?_
              refine lv_iconst (v := 1) hx hb dX10_worth_86 (by decide) ?_
              refine lv_iadd hx hb dX10_worth_87 ?_
              refine lv_topi (fun x3390 ex3390 => ?_)
              have tx3390 := i_add ex3390 (by omega)
              refine lv_istore (lv' := [(4, .int x3390), (0, .ref a0), (1, .int x1), (3, .int x3), (5, .int x3275)]) hx hb dX10_worth_88 hl3273 (by decide) rfl (fun ls3391 hl3392 => ?_)
              refine lv_goto (tgt := 170) hx hb dX10_worth_90 (by decide) ?_
              obtain ⟨x3393, ex3393⟩ : ∃ y : Int32, y = x3275 + 1 := ⟨_, rfl⟩
              have tx3393 := i_add ex3393 (by omega)
              refine lv_iinc (v := x3393) (lv' := [(5, .int x3393), (4, .int x3390), (0, .ref a0), (1, .int x1), (3, .int x3)]) hx hb dX10_worth_170 hl3392 (k := 4) rfl (by rw [ex3393]; rfl) (by decide) rfl (fun ls3394 hl3395 => ?_)
              refine lv_goto (tgt := 12) hx hb dX10_worth_173 (by decide) ?_
              have hpt2 : ∀ z y : Nat, z + 1 = kn + 1 → 500 * x1.toNatClampNeg + x2.toNatClampNeg ≤ z → (fI s.heap oq z).toInt = 0 → (y : Int) + 1 = x3390.toInt → fI H3379 sq y = fI s.heap aq z := by
                intro z y hz ha ho hy
                have e1 : z = kn := by omega
                rw [e1] at ho ⊢
                exfalso
                omega
              exact ih12 (kn + 1) ls3394 H3379 locsH3379 (x3390) (x3393) (lv_sub hl3395 [2, 3, 4, 1, 0] rfl) hTH3379 hSH3379 (by have := i_rng x3390; omega) (by have := i_rng x3393; omega) m3382 m3383 m3384 f3380 f3381 (by omega) (by omega) (by omega) (by omega) hpt2
            · have k3374 := i_eq c3373
              exfalso
              omega
  refine lv_iconst (v := 0) hx hb dX10_worth_0 (by decide) ?_
  refine lv_istore (lv' := [(4, .int 0), (0, .ref a0), (1, .int x1), (2, .int x2), (3, .int x3)]) hx hb dX10_worth_1 hl (by decide) rfl (fun ls3396 hl3397 => ?_)
  refine lv_sipush (v := 500) hx hb dX10_worth_3 (by decide) ?_
  refine lv_iload_n hx hb dX10_worth_6 rfl (lv_at hl3397 2 rfl) ?_
  refine lv_imul hx hb dX10_worth_7 ?_
  refine lv_topi (fun x3398 ex3398 => ?_)
  have tx3398 := i_mul ex3398 (by rw [n_500]; omega)
  rw [n_500] at tx3398
  refine lv_iload_n hx hb dX10_worth_8 rfl (lv_at hl3397 3 rfl) ?_
  refine lv_iadd hx hb dX10_worth_9 ?_
  refine lv_topi (fun x3399 ex3399 => ?_)
  have tx3399 := i_add ex3399 (by omega)
  refine lv_istore (lv' := [(5, .int x3399), (4, .int 0), (0, .ref a0), (1, .int x1), (2, .int x2), (3, .int x3)]) hx hb dX10_worth_10 hl3397 (by decide) rfl (fun ls3400 hl3401 => ?_)
  exact J12 ((3500 - x3399.toInt).toNat + 1) (500 * x1.toNatClampNeg + x2.toNatClampNeg) ls3400 s.heap [] (0) (x3399) (lv_sub hl3401 [2, 3, 5, 1, 0] rfl) hT hS (by decide) (by have := i_rng x3399; omega) eoq eaq esq f0_op f0_ar (by omega) (by omega) (Nat.le_refl _) (by rw [hd0]; rfl) (fun z y hz ha _ _ => by omega)
