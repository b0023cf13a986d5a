/-! ===== the reference's stack machine, a step at a time ===== -/
theorem rnR_step {as O A k k1 : Nat → Int32} {f g p q n n1 : Nat} {x : Int32} (h : x = (rnR as O A f p k n).1 0) (hf : f = g + 1) (hs : stR as (O p) (A p) k n = (k1, n1)) (hq : q = p + 1) : x = (rnR as O A g q k1 n1).1 0 := by rw [h, rnR_go hf hs hq]
theorem stR_push {as k : Nat → Int32} {o a v : Int32} {n n1 i : Nat} (h : o.toInt = 0 ∨ o.toInt = 1) (hi : i = n) (h1 : n1 = n + 1) (hv : v = if o.toInt = 0 then a else as a.toNatClampNeg) : stR as o a k n = (up1 k i v, n1) := by
  rw [hi, h1, hv]
  exact if_pos h
theorem stR_not {as k : Nat → Int32} {o a v : Int32} {n n1 i : Nat} (h : o.toInt = 9) (hi : i = n - 1) (h1 : n1 = n) (hv : v = 1 - k i) : stR as o a k n = (up1 k i v, n1) := by
  rw [hv, hi, h1]
  unfold stR
  rw [if_neg (by omega), if_pos h]
theorem stR_bin {as k : Nat → Int32} {o a v : Int32} {n n1 i j : Nat} (h : o.toInt ≠ 0 ∧ o.toInt ≠ 1 ∧ o.toInt ≠ 9) (hi : i = n - 2) (hj : j = n - 1) (h1 : n1 = n - 1) (hv : v = twR o.toInt (k i) (k j)) : stR as o a k n = (up1 k i v, n1) := by
  rw [hv, hi, hj, h1]
  unfold stR
  rw [if_neg (by omega), if_neg (by omega)]
theorem vlR_at {as O A as1 O1 A1 k : Nat → Int32} {a z a1 z1 : Nat} {r f : Int32} (h : r = vlR as1 O1 A1 k a1 z1) (e1 : ∀ j, as1 j = as j) (e2 : ∀ j, O1 j = O j) (e3 : ∀ j, A1 j = A j) (e4 : a1 = a) (e5 : z1 = z) (g : ∀ k : Nat → Int32, vlR as O A k a z = f) : r = f := by
  obtain rfl : as1 = as := funext e1
  obtain rfl : O1 = O := funext e2
  obtain rfl : A1 = A := funext e3
  subst e4; subst e5
  rw [h]; exact g k
set_option maxHeartbeats 4000000 in
set_option maxRecDepth 100000 in
theorem a_X10_twoOf_v (l : Launch) (K : KE) (G : Nat → Option Nat) (H : Heap) {a : Nat} (x1 x2 x3 : Int32) (hT : TY K G H) (ga : G a = some 112) (hd : x1.toInt ≠ 5 ∨ x3.toInt ≠ 0) : MX l K yX10_twoOf cX10_twoOf 4 (some .int) 0 0 0 0 [.ref a, .int x1, .int x2, .int x3] H (AE G [] H.size) (fun v H1 => H1 = H ∧ ∃ r : Int32, v = some (.int r) ∧ (r = twR x1.toInt x2 x3)) := by
  refine MX.of (by decide +kernel) (Nat.le_of_ble_eq_true rfl) ?_
  intro p e s m below meth c ls Q C hH hl hQ
  subst hH
  have C : CX p K s m _ meth c RX10 cX10_twoOf 4 (some .int) "twoOf" := C
  obtain ⟨hx, hb, hml, hown, hts, hKT, hr, hlocks, hnm⟩ := id C
  have hl : lv_has ls 4 [(0, .ref a), (1, .int x1), (2, .int x2), (3, .int x3)] := hl
  have hS : va_S (AE G [] s.heap.size) s.heap s.heap [] := va_S.rf
  have n_0 : (0 : Int32).toInt = 0 := rfl
  have n_1 : (1 : Int32).toInt = 1 := rfl
  have n_2 : (2 : Int32).toInt = 2 := rfl
  have n_3 : (3 : Int32).toInt = 3 := rfl
  have n_4 : (4 : Int32).toInt = 4 := rfl
  have n_5 : (5 : Int32).toInt = 5 := rfl
  have n_6 : (6 : Int32).toInt = 6 := rfl
  have n_7 : (7 : Int32).toInt = 7 := rfl
  have n_8 : (8 : Int32).toInt = 8 := rfl
  have n_10 : (10 : Int32).toInt = 10 := rfl
  refine lv_iload_n hx hb dX10_twoOf_0 rfl (lv_at hl 1 rfl) ?_
  refine lv_iconst (v := 2) hx hb dX10_twoOf_1 (by decide) ?_
  refine lv_icmp_ne (tgt := 9) hx hb dX10_twoOf_2 (by decide) (fun c101 => ?_) (fun c101 => ?_)
  · have k102 := i_ne c101
    refine lv_iload_n hx hb dX10_twoOf_9 rfl (lv_at hl 1 rfl) ?_
    refine lv_iconst (v := 3) hx hb dX10_twoOf_10 (by decide) ?_
    refine lv_icmp_ne (tgt := 18) hx hb dX10_twoOf_11 (by decide) (fun c103 => ?_) (fun c103 => ?_)
    · have k104 := i_ne c103
      refine lv_iload_n hx hb dX10_twoOf_18 rfl (lv_at hl 1 rfl) ?_
      refine lv_iconst (v := 4) hx hb dX10_twoOf_19 (by decide) ?_
      refine lv_icmp_ne (tgt := 27) hx hb dX10_twoOf_20 (by decide) (fun c105 => ?_) (fun c105 => ?_)
      · have k106 := i_ne c105
        refine lv_iload_n hx hb dX10_twoOf_27 rfl (lv_at hl 1 rfl) ?_
        refine lv_iconst (v := 5) hx hb dX10_twoOf_28 (by decide) ?_
        refine lv_icmp_ne (tgt := 36) hx hb dX10_twoOf_29 (by decide) (fun c107 => ?_) (fun c107 => ?_)
        · have k108 := i_ne c107
          refine lv_iload_n hx hb dX10_twoOf_36 rfl (lv_at hl 1 rfl) ?_
          refine lv_bipush (v := 6) hx hb dX10_twoOf_37 (by decide) ?_
          refine lv_icmp_ne (tgt := 53) hx hb dX10_twoOf_39 (by decide) (fun c109 => ?_) (fun c109 => ?_)
          · have k110 := i_ne c109
            refine lv_iload_n hx hb dX10_twoOf_53 rfl (lv_at hl 1 rfl) ?_
            refine lv_bipush (v := 7) hx hb dX10_twoOf_54 (by decide) ?_
            refine lv_icmp_ne (tgt := 70) hx hb dX10_twoOf_56 (by decide) (fun c111 => ?_) (fun c111 => ?_)
            · have k112 := i_ne c111
              refine lv_iload_n hx hb dX10_twoOf_70 rfl (lv_at hl 1 rfl) ?_
              refine lv_bipush (v := 8) hx hb dX10_twoOf_71 (by decide) ?_
              refine lv_icmp_ne (tgt := 87) hx hb dX10_twoOf_73 (by decide) (fun c113 => ?_) (fun c113 => ?_)
              · have k114 := i_ne c113
                refine lv_iload_n hx hb dX10_twoOf_87 rfl (lv_at hl 1 rfl) ?_
                refine lv_bipush (v := 10) hx hb dX10_twoOf_88 (by decide) ?_
                refine lv_icmp_ne (tgt := 99) hx hb dX10_twoOf_90 (by decide) (fun c115 => ?_) (fun c115 => ?_)
                · have k116 := i_ne c115
                  refine lv_iload_n hx hb dX10_twoOf_99 rfl (lv_at hl 2 rfl) ?_
                  refine lv_iload_n hx hb dX10_twoOf_100 rfl (lv_at hl 3 rfl) ?_
                  refine lv_iadd hx hb dX10_twoOf_101 ?_
                  refine lv_topi (fun x117 ex117 => ?_)
                  refine lv_if_le (tgt := 109) hx hb dX10_twoOf_102 (by decide) (fun c118 => ?_) (fun c118 => ?_)
                  · have k119 := i_le c118
                    refine lv_iconst (v := 0) hx hb dX10_twoOf_109 (by decide) ?_
                    exact x_iret C hQ dX10_twoOf_110 hS (by decide) (by decide) (⟨rfl, 0, rfl, (by unfold twR; rw [if_neg (by omega), if_neg (by omega), if_neg (by omega), if_neg (by omega), if_neg (by omega), if_neg (by omega), if_neg (by omega), if_neg (by omega), ← ex117, if_neg (by omega)])⟩)
                  · have k119 := i_nle c118
                    refine lv_iconst (v := 1) hx hb dX10_twoOf_105 (by decide) ?_
                    refine lv_goto (tgt := 110) hx hb dX10_twoOf_106 (by decide) ?_
                    exact x_iret C hQ dX10_twoOf_110 hS (by decide) (by decide) (⟨rfl, 1, rfl, (by unfold twR; rw [if_neg (by omega), if_neg (by omega), if_neg (by omega), if_neg (by omega), if_neg (by omega), if_neg (by omega), if_neg (by omega), if_neg (by omega), ← ex117, if_pos (by omega)])⟩)
                · have k116 := i_eq c115
                  refine lv_iload_n hx hb dX10_twoOf_93 rfl (lv_at hl 2 rfl) ?_
                  refine lv_iload_n hx hb dX10_twoOf_94 rfl (lv_at hl 3 rfl) ?_
                  refine lv_imul hx hb dX10_twoOf_95 ?_
                  refine lv_topi (fun x120 ex120 => ?_)
                  refine lv_goto (tgt := 110) hx hb dX10_twoOf_96 (by decide) ?_
                  exact x_iret C hQ dX10_twoOf_110 hS (by decide) (by decide) (⟨rfl, x120, rfl, (by unfold twR; rw [if_neg (by omega), if_neg (by omega), if_neg (by omega), if_neg (by omega), if_neg (by omega), if_neg (by omega), if_neg (by omega), if_pos (by omega)]; exact ex120)⟩)
              · have k114 := i_eq c113
                refine lv_iload_n hx hb dX10_twoOf_76 rfl (lv_at hl 2 rfl) ?_
                refine lv_iload_n hx hb dX10_twoOf_77 rfl (lv_at hl 3 rfl) ?_
                refine lv_icmp_le (tgt := 85) hx hb dX10_twoOf_78 (by decide) (fun c121 => ?_) (fun c121 => ?_)
                · have k122 := i_le c121
                  refine lv_iconst (v := 0) hx hb dX10_twoOf_85 (by decide) ?_
                  exact x_iret C hQ dX10_twoOf_86 hS (by decide) (by decide) (⟨rfl, 0, rfl, (by unfold twR; rw [if_neg (by omega), if_neg (by omega), if_neg (by omega), if_neg (by omega), if_neg (by omega), if_neg (by omega), if_pos (by omega), if_neg (by omega)])⟩)
                · have k122 := i_nle c121
                  refine lv_iconst (v := 1) hx hb dX10_twoOf_81 (by decide) ?_
                  refine lv_goto (tgt := 86) hx hb dX10_twoOf_82 (by decide) ?_
                  exact x_iret C hQ dX10_twoOf_86 hS (by decide) (by decide) (⟨rfl, 1, rfl, (by unfold twR; rw [if_neg (by omega), if_neg (by omega), if_neg (by omega), if_neg (by omega), if_neg (by omega), if_neg (by omega), if_pos (by omega), if_pos (by omega)])⟩)
            · have k112 := i_eq c111
              refine lv_iload_n hx hb dX10_twoOf_59 rfl (lv_at hl 2 rfl) ?_
              refine lv_iload_n hx hb dX10_twoOf_60 rfl (lv_at hl 3 rfl) ?_
              refine lv_icmp_ne (tgt := 68) hx hb dX10_twoOf_61 (by decide) (fun c123 => ?_) (fun c123 => ?_)
              · have k124 := i_ne c123
                refine lv_iconst (v := 0) hx hb dX10_twoOf_68 (by decide) ?_
                exact x_iret C hQ dX10_twoOf_69 hS (by decide) (by decide) (⟨rfl, 0, rfl, (by unfold twR; rw [if_neg (by omega), if_neg (by omega), if_neg (by omega), if_neg (by omega), if_neg (by omega), if_pos (by omega), if_neg (by omega)])⟩)
              · have k124 := i_eq c123
                refine lv_iconst (v := 1) hx hb dX10_twoOf_64 (by decide) ?_
                refine lv_goto (tgt := 69) hx hb dX10_twoOf_65 (by decide) ?_
                exact x_iret C hQ dX10_twoOf_69 hS (by decide) (by decide) (⟨rfl, 1, rfl, (by unfold twR; rw [if_neg (by omega), if_neg (by omega), if_neg (by omega), if_neg (by omega), if_neg (by omega), if_pos (by omega), if_pos (by omega)])⟩)
          · have k110 := i_eq c109
            refine lv_iload_n hx hb dX10_twoOf_42 rfl (lv_at hl 2 rfl) ?_
            refine lv_iload_n hx hb dX10_twoOf_43 rfl (lv_at hl 3 rfl) ?_
            refine lv_icmp_ge (tgt := 51) hx hb dX10_twoOf_44 (by decide) (fun c125 => ?_) (fun c125 => ?_)
            · have k126 := i_le c125
              refine lv_iconst (v := 0) hx hb dX10_twoOf_51 (by decide) ?_
              exact x_iret C hQ dX10_twoOf_52 hS (by decide) (by decide) (⟨rfl, 0, rfl, (by unfold twR; rw [if_neg (by omega), if_neg (by omega), if_neg (by omega), if_neg (by omega), if_pos (by omega), if_neg (by omega)])⟩)
            · have k126 := i_nle c125
              refine lv_iconst (v := 1) hx hb dX10_twoOf_47 (by decide) ?_
              refine lv_goto (tgt := 52) hx hb dX10_twoOf_48 (by decide) ?_
              exact x_iret C hQ dX10_twoOf_52 hS (by decide) (by decide) (⟨rfl, 1, rfl, (by unfold twR; rw [if_neg (by omega), if_neg (by omega), if_neg (by omega), if_neg (by omega), if_pos (by omega), if_pos (by omega)])⟩)
        · have k108 := i_eq c107
          refine lv_iload_n hx hb dX10_twoOf_32 rfl (lv_at hl 2 rfl) ?_
          refine lv_iload_n hx hb dX10_twoOf_33 rfl (lv_at hl 3 rfl) ?_
          refine lv_idiv hx hb dX10_twoOf_34 (fun h => by have := i_eq h; omega) ?_
          refine lv_topi (fun x127 ex127 => ?_)
          exact x_iret C hQ dX10_twoOf_35 hS (by decide) (by decide) (⟨rfl, x127, rfl, (by unfold twR; rw [if_neg (by omega), if_neg (by omega), if_neg (by omega), if_pos (by omega)]; exact ex127)⟩)
      · have k106 := i_eq c105
        refine lv_iload_n hx hb dX10_twoOf_23 rfl (lv_at hl 2 rfl) ?_
        refine lv_iload_n hx hb dX10_twoOf_24 rfl (lv_at hl 3 rfl) ?_
        refine lv_imul hx hb dX10_twoOf_25 ?_
        refine lv_topi (fun x128 ex128 => ?_)
        exact x_iret C hQ dX10_twoOf_26 hS (by decide) (by decide) (⟨rfl, x128, rfl, (by unfold twR; rw [if_neg (by omega), if_neg (by omega), if_pos (by omega)]; exact ex128)⟩)
    · have k104 := i_eq c103
      refine lv_iload_n hx hb dX10_twoOf_14 rfl (lv_at hl 2 rfl) ?_
      refine lv_iload_n hx hb dX10_twoOf_15 rfl (lv_at hl 3 rfl) ?_
      refine lv_isub hx hb dX10_twoOf_16 ?_
      refine lv_topi (fun x129 ex129 => ?_)
      exact x_iret C hQ dX10_twoOf_17 hS (by decide) (by decide) (⟨rfl, x129, rfl, (by unfold twR; rw [if_neg (by omega), if_pos (by omega)]; exact ex129)⟩)
  · have k102 := i_eq c101
    refine lv_iload_n hx hb dX10_twoOf_5 rfl (lv_at hl 2 rfl) ?_
    refine lv_iload_n hx hb dX10_twoOf_6 rfl (lv_at hl 3 rfl) ?_
    refine lv_iadd hx hb dX10_twoOf_7 ?_
    refine lv_topi (fun x130 ex130 => ?_)
    exact x_iret C hQ dX10_twoOf_8 hS (by decide) (by decide) (⟨rfl, x130, rfl, (by unfold twR; rw [if_pos (by omega)]; exact ex130)⟩)

set_option maxHeartbeats 4000000 in
set_option maxRecDepth 100000 in
theorem a_X10_worth_v (l : Launch) (K : KE) (G : Nat → Option Nat) (H : Heap) {a0 : Nat} (x1 : Int32) (x2 : Int32) (x3 : Int32) {oq : Nat} {aq : Nat} {sq : Nat} {uq : Nat} (hT : TY K G H) (ga0 : G a0 = some 112) (hx1 : 0 ≤ x1.toInt ∧ x1.toInt ≤ 6) (hx2 : 0 ≤ x2.toInt ∧ x2.toInt ≤ 500) (hx3 : 0 ≤ x3.toInt ∧ x3.toInt ≤ 500) (goq : G oq = some 136) (eoq : oq = fR H a0 (K.1.2 10 32)) (gaq : G aq = some 137) (eaq : aq = fR H a0 (K.1.2 10 33)) (gsq : G sq = some 140) (esq : sq = fR H a0 (K.1.2 10 44)) (guq : G uq = some 139) (euq : uq = fR H a0 (K.1.2 10 43)) (hy0 : ∃ E, WF (fun k => fI H oq k) (fun k => fI H aq k) (500 * x1.toNatClampNeg + x2.toNatClampNeg) (500 * x1.toNatClampNeg + x3.toNatClampNeg) 0 E) : MX l K yX10_worth cX10_worth 6 (some .int) 1 23 0 0 [.ref a0, .int x1, .int x2, .int x3] H (AE G [140] H.size) (fun v H1 => ∃ (r : Int32), v = some (.int r) ∧ (r = vlR (fun j => fI H uq j) (fun j => fI H oq j) (fun j => fI H aq j) (fun j => fI H sq j) (500 * x1.toNatClampNeg + x2.toNatClampNeg) (500 * x1.toNatClampNeg + x3.toNatClampNeg)) ∧ TY K G H1) := by
  refine MX.of (by decide +kernel) (Nat.le_of_ble_eq_true rfl) ?_
  intro p e s m below meth c ls Q C hH hl hQ
  subst hH
  have C : CX p K s m _ meth c RX10 cX10_worth 6 (some .int) "worth" := C
  obtain ⟨hx, hb, hml, hown, hts, hKT, hr, hlocks, hnm⟩ := id C
  have hl : lv_has ls 6 [(0, .ref a0), (1, .int x1), (2, .int x2), (3, .int x3)] := hl
  have hS : va_S (AE G [140] s.heap.size) s.heap s.heap [] := va_S.rf
  have n_0 : (0 : Int32).toInt = 0 := rfl
  have n_1 : (1 : Int32).toInt = 1 := rfl
  have n_9 : (9 : Int32).toInt = 9 := rfl
  have n_500 : (500 : Int32).toInt = 500 := rfl
  have hap : ∀ x y, x < 74 → y < 74 → x ≠ y → K.1.2 10 x ≠ K.1.2 10 y := x_apart hKT hts inX10 tyX10 tyX10_ok nmX10 rfl
  obtain ⟨E, d, hd0, hdE, hd⟩ := hy0
  have hx1n := i_cl (x := x1) (by omega)
  have hx2n := i_cl (x := x2) (by omega)
  have hx3n := i_cl (x := x3) (by omega)
  have f0_op : ∀ j : Nat, fI s.heap oq j = fI s.heap oq j := fun _ => rfl
  have f0_ar : ∀ j : Nat, fI s.heap aq j = fI s.heap aq j := fun _ => rfl
  have f0_uu : ∀ j : Nat, fI s.heap uq j = fI s.heap uq j := fun _ => rfl
  have J12 : ∀ (nf : Nat) (kn : Nat) (ls3246 : Array Slot) (H3245 : Heap) (locsH3245 : List Loc) (x3248 : Int32) (x3249 : Int32), lv_has ls3246 6 [(0, .ref a0), (1, .int x1), (3, .int x3), (4, .int x3248), (5, .int x3249)] → TY K G H3245 → va_S (AE G [140] s.heap.size) s.heap H3245 locsH3245 → (0 ≤ x3248.toInt ∧ x3248.toInt ≤ 501) → (0 ≤ x3249.toInt ∧ x3249.toInt ≤ 3500) → (oq = fR H3245 a0 (K.1.2 10 32)) → (aq = fR H3245 a0 (K.1.2 10 33)) → (sq = fR H3245 a0 (K.1.2 10 44)) → (uq = fR H3245 a0 (K.1.2 10 43)) → (∀ j : Nat, fI H3245 oq j = fI s.heap oq j) → (∀ j : Nat, fI H3245 aq j = fI s.heap aq j) → (∀ j : Nat, fI H3245 uq j = fI s.heap uq j) → (3500 - x3249.toInt < (nf : Int)) → (x3249.toInt = (kn : Int)) → (500 * x1.toNatClampNeg + x2.toNatClampNeg ≤ kn) → (x3248.toInt = (d kn : Int)) → (∀ z y : Nat, z + 1 = kn → 500 * x1.toNatClampNeg + x2.toNatClampNeg ≤ z → (fI s.heap oq z).toInt = 0 → (y : Int) + 1 = x3248.toInt → fI H3245 sq y = fI s.heap aq z) → (vlR (fun j => fI s.heap uq j) (fun j => fI s.heap oq j) (fun j => fI s.heap aq j) (fun j => fI s.heap sq j) (500 * x1.toNatClampNeg + x2.toNatClampNeg) (500 * x1.toNatClampNeg + x3.toNatClampNeg) = (rnR (fun j => fI s.heap uq j) (fun j => fI s.heap oq j) (fun j => fI s.heap aq j) ((500 * x1.toNatClampNeg + x3.toNatClampNeg) - kn) kn (fun j => fI H3245 sq j) x3248.toNatClampNeg).1 0) → W p l e ({ frames := 1, cells := 0, slots := 0, locals := 23 } : Room) s m (([.ref a0, .int x1, .int x2, .int x3] : List Value).toArray) below meth c H3245 locsH3245 0 0 Q (F0 m 12 ls3246 []) := by
    intro nf
    induction nf with
    | zero =>
      intro kn ls3246 H3245 locsH3245 x3248 x3249 hl3247 hTH3245 hSH3245 bx3248 bx3249 cy3250_0 cy3250_1 cy3250_2 cy3250_3 fy3250_op fy3250_ar fy3250_uu hm12 hkn hka hn hpt hsp12
      exfalso
      omega
    | succ nf ih12 =>
      intro kn ls3246 H3245 locsH3245 x3248 x3249 hl3247 hTH3245 hSH3245 bx3248 bx3249 cy3250_0 cy3250_1 cy3250_2 cy3250_3 fy3250_op fy3250_ar fy3250_uu hm12 hkn hka hn hpt hsp12
      refine lv_iload hx hb dX10_worth_12 (lv_at hl3247 4 rfl) ?_
      refine lv_sipush (v := 500) hx hb dX10_worth_14 (by decide) ?_
      refine lv_iload_n hx hb dX10_worth_17 rfl (lv_at hl3247 1 rfl) ?_
      refine lv_imul hx hb dX10_worth_18 ?_
      refine lv_topi (fun x3251 ex3251 => ?_)
      have tx3251 := i_mul ex3251 (by rw [n_500]; omega)
      rw [n_500] at tx3251
      refine lv_iload_n hx hb dX10_worth_19 rfl (lv_at hl3247 2 rfl) ?_
      refine lv_iadd hx hb dX10_worth_20 ?_
      refine lv_topi (fun x3252 ex3252 => ?_)
      have tx3252 := i_add ex3252 (by omega)
      refine lv_icmp_ge (tgt := 176) hx hb dX10_worth_21 (by decide) (fun c3253 => ?_) (fun c3253 => ?_)
      · have k3254 := i_le c3253
        refine lv_aload_n hx hb dX10_worth_176 rfl (lv_at hl3247 0 rfl) ?_
        refine x_gr C hTH3245 (ci := 10) (k := 44) rfl inX10 (by decide) wF_X10_98 ga0 rg_112 rfl dX10_worth_177 (fun q3255 eq3255 gq3255 => ?_)
        have uq3255 : sq = q3255 := (cy3250_2).trans eq3255.symm
        subst uq3255
        refine lv_iconst (v := 0) hx hb dX10_worth_180 (by decide) ?_
        refine x_ai C hTH3245 gsq rg_140 (by decide) dX10_worth_181 (fun x3256 ex3256 bx3256 => ?_)
        exact x_iret C hQ dX10_worth_182 hSH3245 (by decide) (by decide) (⟨x3256, rfl, ((show x3256 = fI _ sq 0 from ex3256).trans (by rw [hsp12, show (500 * x1.toNatClampNeg + x3.toNatClampNeg) - kn = 0 by omega]; rfl)), hTH3245⟩)
      · have k3254 := i_nle c3253
        have hle := hd.le kn hka (by omega)
        have hw := hd kn hka (by omega)
        dsimp only at hw
        refine lv_aload_n hx hb dX10_worth_24 rfl (lv_at hl3247 0 rfl) ?_
        refine x_gr C hTH3245 (ci := 10) (k := 32) rfl inX10 (by decide) wF_X10_83 ga0 rg_112 rfl dX10_worth_25 (fun q3257 eq3257 gq3257 => ?_)
        have uq3257 : oq = q3257 := (cy3250_0).trans eq3257.symm
        subst uq3257
        refine lv_iload hx hb dX10_worth_28 (lv_at hl3247 4 rfl) ?_
        refine x_ai C hTH3245 goq rg_136 ⟨by omega, by show _ < ((3500 : Nat) : Int); omega⟩ dX10_worth_30 (fun x3258 ex3258 bx3258 => ?_)
        have wx3258 : x3258.toInt = (fI s.heap oq kn).toInt := by rw [ex3258, fy3250_op, i_nk hkn]
        refine lv_if_eq (tgt := 45) hx hb dX10_worth_31 (by decide) (fun c3259 => ?_) (fun c3259 => ?_)
        · have k3260 := i_eq c3259
          refine lv_aload_n hx hb dX10_worth_45 rfl (lv_at hl3247 0 rfl) ?_
          refine x_gr C hTH3245 (ci := 10) (k := 44) rfl inX10 (by decide) wF_X10_98 ga0 rg_112 rfl dX10_worth_46 (fun q3261 eq3261 gq3261 => ?_)
          have uq3261 : sq = q3261 := (cy3250_2).trans eq3261.symm
          subst uq3261
          refine lv_iload hx hb dX10_worth_49 (lv_at hl3247 3 rfl) ?_
          refine lv_aload_n hx hb dX10_worth_51 rfl (lv_at hl3247 0 rfl) ?_
          refine x_gr C hTH3245 (ci := 10) (k := 32) rfl inX10 (by decide) wF_X10_83 ga0 rg_112 rfl dX10_worth_52 (fun q3262 eq3262 gq3262 => ?_)
          have uq3262 : oq = q3262 := (cy3250_0).trans eq3262.symm
          subst uq3262
          refine lv_iload hx hb dX10_worth_55 (lv_at hl3247 4 rfl) ?_
          refine x_ai C hTH3245 goq rg_136 ⟨by omega, by show _ < ((3500 : Nat) : Int); omega⟩ dX10_worth_57 (fun x3263 ex3263 bx3263 => ?_)
          have ux3263 : x3258 = x3263 := (ex3258).trans ex3263.symm
          subst ux3263
          refine lv_if_ne (tgt := 71) hx hb dX10_worth_58 (by decide) (fun c3264 => ?_) (fun c3264 => ?_)
          · have k3265 := i_ne c3264
            exfalso
            omega
          · have k3265 := i_eq c3264
            refine lv_aload_n hx hb dX10_worth_61 rfl (lv_at hl3247 0 rfl) ?_
            refine x_gr C hTH3245 (ci := 10) (k := 33) rfl inX10 (by decide) wF_X10_86 ga0 rg_112 rfl dX10_worth_62 (fun q3266 eq3266 gq3266 => ?_)
            have uq3266 : aq = q3266 := (cy3250_1).trans eq3266.symm
            subst uq3266
            refine lv_iload hx hb dX10_worth_65 (lv_at hl3247 4 rfl) ?_
            refine x_ai C hTH3245 gaq rg_137 ⟨by omega, by show _ < ((3500 : Nat) : Int); omega⟩ dX10_worth_67 (fun x3267 ex3267 bx3267 => ?_)
            have wx3267 : x3267.toInt = (fI s.heap aq kn).toInt := by rw [ex3267, fy3250_ar, i_nk hkn]
            refine lv_goto (tgt := 83) hx hb dX10_worth_68 (by decide) ?_
            refine x_iast C hTH3245 hSH3245 gsq rg_140 (by omega) (by show _ < ((520 : Nat) : Int); omega) ⟨by have := i_rng x3267; omega, by have := i_rng x3267; omega⟩ (AE_in gsq (by decide)) dX10_worth_83 (fun H3268 locsH3268 hTH3268 hSH3268 wH3268 => ?_)
            have f3269 : ∀ j : Nat, fI H3268 oq j = fI s.heap oq j := fun j => (Wr.neI wH3268 (Or.inl (G_ne goq gsq (by decide)))).trans (fy3250_op j)
            have f3270 : ∀ j : Nat, fI H3268 aq j = fI s.heap aq j := fun j => (Wr.neI wH3268 (Or.inl (G_ne gaq gsq (by decide)))).trans (fy3250_ar j)
            have f3271 : ∀ j : Nat, fI H3268 uq j = fI s.heap uq j := fun j => (Wr.neI wH3268 (Or.inl (G_ne guq gsq (by decide)))).trans (fy3250_uu j)
            have m3272 := cy3250_0.trans (Wr.neR wH3268 (Or.inl (G_ne ga0 gsq (by decide)))).symm
            have m3273 := cy3250_1.trans (Wr.neR wH3268 (Or.inl (G_ne ga0 gsq (by decide)))).symm
            have m3274 := cy3250_2.trans (Wr.neR wH3268 (Or.inl (G_ne ga0 gsq (by decide)))).symm
            have m3275 := cy3250_3.trans (Wr.neR wH3268 (Or.inl (G_ne ga0 gsq (by decide)))).symm
            have m3276 := ex3258.trans (Wr.neI wH3268 (Or.inl (G_ne goq gsq (by decide)))).symm
            have m3277 := ex3267.trans (Wr.neI wH3268 (Or.inl (G_ne gaq gsq (by decide)))).symm
            have m3278 := Wr.I wH3268
            have m3278 := m3278.symm
            refine lv_iload hx hb dX10_worth_84 (lv_at hl3247 3 rfl) ?_
            refine lv_iconst (v := 1) hx hb dX10_worth_86 (by decide) ?_
            refine lv_iadd hx hb dX10_worth_87 ?_
            refine lv_topi (fun x3279 ex3279 => ?_)
            have tx3279 := i_add ex3279 (by omega)
            refine lv_istore (lv' := [(4, .int x3279), (0, .ref a0), (1, .int x1), (3, .int x3), (5, .int x3249)]) hx hb dX10_worth_88 hl3247 (by decide) rfl (fun ls3280 hl3281 => ?_)
            refine lv_goto (tgt := 170) hx hb dX10_worth_90 (by decide) ?_
            obtain ⟨x3282, ex3282⟩ : ∃ y : Int32, y = x3249 + 1 := ⟨_, rfl⟩
            have tx3282 := i_add ex3282 (by omega)
            refine lv_iinc (v := x3282) (lv' := [(5, .int x3282), (4, .int x3279), (0, .ref a0), (1, .int x1), (3, .int x3)]) hx hb dX10_worth_170 hl3281 (k := 4) rfl (by rw [ex3282]; rfl) (by decide) rfl (fun ls3283 hl3284 => ?_)
            refine lv_goto (tgt := 12) hx hb dX10_worth_173 (by decide) ?_
            have hpt2 : ∀ z y : Nat, z + 1 = kn + 1 → 500 * x1.toNatClampNeg + x2.toNatClampNeg ≤ z → (fI s.heap oq z).toInt = 0 → (y : Int) + 1 = x3279.toInt → fI H3268 sq y = fI s.heap aq z := by
              intro z y hz ha ho hy
              have e1 : z = kn := by omega
              rw [e1] at ho ⊢
              have e2 := i_nk (k := x3248) (n := y) (by omega)
              rw [← e2, ← m3278]
              exact Int32.toInt_inj.mp (by omega)
            have cn_x3248 := i_cl (x := x3248) (by omega)
            have cn_x3279 := i_cl (x := x3279) (by omega)
            have cn_x3248 := i_cl (x := x3248) (by omega)
            have qo3285 : fI s.heap oq kn = x3258 := by rw [ex3258, fy3250_op, i_nk hkn]
            have qo3286 : fI s.heap aq kn = x3267 := by rw [ex3267, fy3250_ar, i_nk hkn]
            exact ih12 (kn + 1) ls3283 H3268 locsH3268 (x3279) (x3282) (lv_sub hl3284 [2, 3, 4, 1, 0] rfl) hTH3268 hSH3268 (by have := i_rng x3279; omega) (by have := i_rng x3282; omega) m3272 m3273 m3274 m3275 f3269 f3270 f3271 (by omega) (by omega) (by omega) (by omega) hpt2 (rnR_step hsp12 (by omega) (pr_wr (stR_push (by show (fI s.heap oq kn).toInt = 0 ∨ (fI s.heap oq kn).toInt = 1; rw [qo3285]; omega) (by omega) (by omega) (by show _ = if (fI s.heap oq kn).toInt = 0 then fI s.heap aq kn else _; rw [if_pos (by rw [qo3285]; omega), qo3286])) (wr_up1 wH3268)) rfl)
        · have k3260 := i_ne c3259
          refine lv_aload_n hx hb dX10_worth_34 rfl (lv_at hl3247 0 rfl) ?_
          refine x_gr C hTH3245 (ci := 10) (k := 32) rfl inX10 (by decide) wF_X10_83 ga0 rg_112 rfl dX10_worth_35 (fun q3287 eq3287 gq3287 => ?_)
          have uq3287 : oq = q3287 := (cy3250_0).trans eq3287.symm
          subst uq3287
          refine lv_iload hx hb dX10_worth_38 (lv_at hl3247 4 rfl) ?_
          refine x_ai C hTH3245 goq rg_136 ⟨by omega, by show _ < ((3500 : Nat) : Int); omega⟩ dX10_worth_40 (fun x3288 ex3288 bx3288 => ?_)
          have ux3288 : x3258 = x3288 := (ex3258).trans ex3288.symm
          subst ux3288
          refine lv_iconst (v := 1) hx hb dX10_worth_41 (by decide) ?_
          refine lv_icmp_ne (tgt := 93) hx hb dX10_worth_42 (by decide) (fun c3289 => ?_) (fun c3289 => ?_)
          · have k3290 := i_ne c3289
            refine lv_aload_n hx hb dX10_worth_93 rfl (lv_at hl3247 0 rfl) ?_
            refine x_gr C hTH3245 (ci := 10) (k := 32) rfl inX10 (by decide) wF_X10_83 ga0 rg_112 rfl dX10_worth_94 (fun q3291 eq3291 gq3291 => ?_)
            have uq3291 : oq = q3291 := (cy3250_0).trans eq3291.symm
            subst uq3291
            refine lv_iload hx hb dX10_worth_97 (lv_at hl3247 4 rfl) ?_
            refine x_ai C hTH3245 goq rg_136 ⟨by omega, by show _ < ((3500 : Nat) : Int); omega⟩ dX10_worth_99 (fun x3292 ex3292 bx3292 => ?_)
            have ux3292 : x3258 = x3292 := (ex3258).trans ex3292.symm
            subst ux3292
            refine lv_bipush (v := 9) hx hb dX10_worth_100 (by decide) ?_
            refine lv_icmp_ne (tgt := 128) hx hb dX10_worth_102 (by decide) (fun c3293 => ?_) (fun c3293 => ?_)
            · have k3294 := i_ne c3293
              refine lv_iload hx hb dX10_worth_128 (lv_at hl3247 3 rfl) ?_
              refine lv_iconst (v := 1) hx hb dX10_worth_130 (by decide) ?_
              refine lv_isub hx hb dX10_worth_131 ?_
              refine lv_topi (fun x3295 ex3295 => ?_)
              have tx3295 := i_sub ex3295 (by omega)
              refine lv_istore (lv' := [(4, .int x3295), (0, .ref a0), (1, .int x1), (3, .int x3), (5, .int x3249)]) hx hb dX10_worth_132 hl3247 (by decide) rfl (fun ls3296 hl3297 => ?_)
              refine lv_aload_n hx hb dX10_worth_134 rfl (lv_at hl3297 1 rfl) ?_
              refine x_gr C hTH3245 (ci := 10) (k := 44) rfl inX10 (by decide) wF_X10_98 ga0 rg_112 rfl dX10_worth_135 (fun q3298 eq3298 gq3298 => ?_)
              have uq3298 : sq = q3298 := (cy3250_2).trans eq3298.symm
              subst uq3298
              refine lv_iload hx hb dX10_worth_138 (lv_at hl3297 0 rfl) ?_
              refine lv_iconst (v := 1) hx hb dX10_worth_140 (by decide) ?_
              refine lv_isub hx hb dX10_worth_141 ?_
              refine lv_topi (fun x3299 ex3299 => ?_)
              have tx3299 := i_sub ex3299 (by omega)
              refine lv_aload_n hx hb dX10_worth_142 rfl (lv_at hl3297 1 rfl) ?_
              refine lv_aload_n hx hb dX10_worth_143 rfl (lv_at hl3297 1 rfl) ?_
              refine x_gr C hTH3245 (ci := 10) (k := 32) rfl inX10 (by decide) wF_X10_83 ga0 rg_112 rfl dX10_worth_144 (fun q3300 eq3300 gq3300 => ?_)
              have uq3300 : oq = q3300 := (cy3250_0).trans eq3300.symm
              subst uq3300
              refine lv_iload hx hb dX10_worth_147 (lv_at hl3297 4 rfl) ?_
              refine x_ai C hTH3245 goq rg_136 ⟨by omega, by show _ < ((3500 : Nat) : Int); omega⟩ dX10_worth_149 (fun x3301 ex3301 bx3301 => ?_)
              have ux3301 : x3258 = x3301 := (ex3258).trans ex3301.symm
              subst ux3301
              refine lv_aload_n hx hb dX10_worth_150 rfl (lv_at hl3297 1 rfl) ?_
              refine x_gr C hTH3245 (ci := 10) (k := 44) rfl inX10 (by decide) wF_X10_98 ga0 rg_112 rfl dX10_worth_151 (fun q3302 eq3302 gq3302 => ?_)
              have uq3302 : sq = q3302 := (cy3250_2).trans eq3302.symm
              subst uq3302
              refine lv_iload hx hb dX10_worth_154 (lv_at hl3297 0 rfl) ?_
              refine lv_iconst (v := 1) hx hb dX10_worth_156 (by decide) ?_
              refine lv_isub hx hb dX10_worth_157 ?_
              refine lv_topi (fun x3303 ex3303 => ?_)
              have tx3303 := i_sub ex3303 (by omega)
              refine x_ai C hTH3245 gsq rg_140 ⟨by omega, by show _ < ((520 : Nat) : Int); omega⟩ dX10_worth_158 (fun x3304 ex3304 bx3304 => ?_)
              refine lv_aload_n hx hb dX10_worth_159 rfl (lv_at hl3297 1 rfl) ?_
              refine x_gr C hTH3245 (ci := 10) (k := 44) rfl inX10 (by decide) wF_X10_98 ga0 rg_112 rfl dX10_worth_160 (fun q3305 eq3305 gq3305 => ?_)
              have uq3305 : sq = q3305 := (cy3250_2).trans eq3305.symm
              subst uq3305
              refine lv_iload hx hb dX10_worth_163 (lv_at hl3297 0 rfl) ?_
              refine x_ai C hTH3245 gsq rg_140 ⟨by omega, by show _ < ((520 : Nat) : Int); omega⟩ dX10_worth_165 (fun x3306 ex3306 bx3306 => ?_)
              have hdv : x3258.toInt ≠ 5 ∨ x3306.toInt ≠ 0 := by
                by_cases h5 : x3258.toInt = 5
                · have h6 : 500 * x1.toNatClampNeg + x2.toNatClampNeg < kn ∧ (fI s.heap oq (kn - 1)).toInt = 0 ∧ (fI s.heap aq (kn - 1)).toInt ≠ 0 := by omega
                  have h7 := hpt (kn - 1) x3295.toNatClampNeg (by omega) (by omega) h6.2.1 (by rw [i_cl (by omega)]; omega)
                  refine Or.inr ?_
                  rw [ex3306, h7]
                  exact h6.2.2
                · exact Or.inl h5
              refine x_V (As := [.int x3258, .int x3304, .int x3306]) (rest := [.int x3299, .ref sq]) C (a_X10_twoOf_v l K G H3245 (x3258) (x3304) (x3306) hTH3245 ga0 (by omega)) yo_X10_twoOf wM_X10_298 ⟨⟨by decide, by decide⟩, by decide, by decide⟩ (x_rv C hTH3245 (ci := 10) rfl ga0 rg_112) rfl hl3297.1 rfl (Nat.le_of_ble_eq_true rfl) dX10_worth_166 hSH3245 (AE_sub (fun _ _ => rfl) (by decide) hSH3245.1) (fun vH3307 H3307 locsH3307 pH3307 zH3307 kH3307 hSH3307 => ?_)
              have hqH3307 := pH3307.1.symm
              subst hqH3307
              obtain ⟨x3308, hvH3307, tx3308⟩ := pH3307.2
              subst hvH3307
              refine W.eq (g2 := F0 m 169 ls3296 [.int x3308, .int x3299, .ref sq]) rfl ?_
              refine x_iast C hTH3245 hSH3307 gsq rg_140 (by omega) (by show _ < ((520 : Nat) : Int); omega) ⟨by have := i_rng x3308; omega, by have := i_rng x3308; omega⟩ (AE_in gsq (by decide)) dX10_worth_169 (fun H3309 locsH3309 hTH3309 hSH3309 wH3309 => ?_)
              have f3310 : ∀ j : Nat, fI H3309 oq j = fI s.heap oq j := fun j => (Wr.neI wH3309 (Or.inl (G_ne goq gsq (by decide)))).trans (fy3250_op j)
              have f3311 : ∀ j : Nat, fI H3309 aq j = fI s.heap aq j := fun j => (Wr.neI wH3309 (Or.inl (G_ne gaq gsq (by decide)))).trans (fy3250_ar j)
              have f3312 : ∀ j : Nat, fI H3309 uq j = fI s.heap uq j := fun j => (Wr.neI wH3309 (Or.inl (G_ne guq gsq (by decide)))).trans (fy3250_uu j)
              have m3313 := cy3250_0.trans (Wr.neR wH3309 (Or.inl (G_ne ga0 gsq (by decide)))).symm
              have m3314 := cy3250_1.trans (Wr.neR wH3309 (Or.inl (G_ne ga0 gsq (by decide)))).symm
              have m3315 := cy3250_2.trans (Wr.neR wH3309 (Or.inl (G_ne ga0 gsq (by decide)))).symm
              have m3316 := cy3250_3.trans (Wr.neR wH3309 (Or.inl (G_ne ga0 gsq (by decide)))).symm
              have m3317 := ex3258.trans (Wr.neI wH3309 (Or.inl (G_ne goq gsq (by decide)))).symm
              have m3320 := Wr.I wH3309
              have m3320 := m3320.symm
              obtain ⟨x3321, ex3321⟩ : ∃ y : Int32, y = x3249 + 1 := ⟨_, rfl⟩
              have tx3321 := i_add ex3321 (by omega)
              refine lv_iinc (v := x3321) (lv' := [(5, .int x3321), (4, .int x3295), (0, .ref a0), (1, .int x1), (3, .int x3)]) hx hb dX10_worth_170 hl3297 (k := 4) rfl (by rw [ex3321]; rfl) (by decide) rfl (fun ls3322 hl3323 => ?_)
              refine lv_goto (tgt := 12) hx hb dX10_worth_173 (by decide) ?_
              have hpt2 : ∀ z y : Nat, z + 1 = kn + 1 → 500 * x1.toNatClampNeg + x2.toNatClampNeg ≤ z → (fI s.heap oq z).toInt = 0 → (y : Int) + 1 = x3295.toInt → fI H3309 sq y = fI s.heap aq z := by
                intro z y hz ha ho hy
                have e1 : z = kn := by omega
                rw [e1] at ho ⊢
                exfalso
                omega
              have cn_x3248 := i_cl (x := x3248) (by omega)
              have cn_x3295 := i_cl (x := x3295) (by omega)
              have cn_x3299 := i_cl (x := x3299) (by omega)
              have qo3324 : fI s.heap oq kn = x3258 := by rw [ex3258, fy3250_op, i_nk hkn]
              have cn_x3303 := i_cl (x := x3303) (by omega)
              have cn_x3295 := i_cl (x := x3295) (by omega)
              exact ih12 (kn + 1) ls3322 H3309 locsH3309 (x3295) (x3321) (lv_sub hl3323 [2, 3, 4, 1, 0] rfl) hTH3309 hSH3309 (by have := i_rng x3295; omega) (by have := i_rng x3321; omega) m3313 m3314 m3315 m3316 f3310 f3311 f3312 (by omega) (by omega) (by omega) (by omega) hpt2 (rnR_step hsp12 (by omega) (pr_wr (stR_bin (j := x3295.toNatClampNeg) (by show (fI s.heap oq kn).toInt ≠ 0 ∧ (fI s.heap oq kn).toInt ≠ 1 ∧ (fI s.heap oq kn).toInt ≠ 9; rw [qo3324]; omega) (by omega) (by omega) (by omega) (by show _ = twR (fI s.heap oq kn).toInt _ _; rw [qo3324, show fI _ sq x3299.toNatClampNeg = x3304 from by rw [show x3299.toNatClampNeg = x3303.toNatClampNeg by omega]; exact ex3304.symm, show fI _ sq x3295.toNatClampNeg = x3306 from ex3306.symm]; exact tx3308)) (wr_up1 wH3309)) rfl)
            · have k3294 := i_eq c3293
              refine lv_aload_n hx hb dX10_worth_105 rfl (lv_at hl3247 0 rfl) ?_
              refine x_gr C hTH3245 (ci := 10) (k := 44) rfl inX10 (by decide) wF_X10_98 ga0 rg_112 rfl dX10_worth_106 (fun q3325 eq3325 gq3325 => ?_)
              have uq3325 : sq = q3325 := (cy3250_2).trans eq3325.symm
              subst uq3325
              refine lv_iload hx hb dX10_worth_109 (lv_at hl3247 3 rfl) ?_
              refine lv_iconst (v := 1) hx hb dX10_worth_111 (by decide) ?_
              refine lv_isub hx hb dX10_worth_112 ?_
              refine lv_topi (fun x3326 ex3326 => ?_)
              have tx3326 := i_sub ex3326 (by omega)
              refine lv_iconst (v := 1) hx hb dX10_worth_113 (by decide) ?_
              refine lv_aload_n hx hb dX10_worth_114 rfl (lv_at hl3247 0 rfl) ?_
              refine x_gr C hTH3245 (ci := 10) (k := 44) rfl inX10 (by decide) wF_X10_98 ga0 rg_112 rfl dX10_worth_115 (fun q3327 eq3327 gq3327 => ?_)
              have uq3327 : sq = q3327 := (cy3250_2).trans eq3327.symm
              subst uq3327
              refine lv_iload hx hb dX10_worth_118 (lv_at hl3247 3 rfl) ?_
              refine lv_iconst (v := 1) hx hb dX10_worth_120 (by decide) ?_
              refine lv_isub hx hb dX10_worth_121 ?_
              refine lv_topi (fun x3328 ex3328 => ?_)
              have tx3328 := i_sub ex3328 (by omega)
              refine x_ai C hTH3245 gsq rg_140 ⟨by omega, by show _ < ((520 : Nat) : Int); omega⟩ dX10_worth_122 (fun x3329 ex3329 bx3329 => ?_)
              refine lv_isub hx hb dX10_worth_123 ?_
              refine lv_topi (fun x3330 ex3330 => ?_)
              refine x_iast C hTH3245 hSH3245 gsq rg_140 (by omega) (by show _ < ((520 : Nat) : Int); omega) ⟨by have := i_rng x3330; omega, by have := i_rng x3330; omega⟩ (AE_in gsq (by decide)) dX10_worth_124 (fun H3331 locsH3331 hTH3331 hSH3331 wH3331 => ?_)
              have f3332 : ∀ j : Nat, fI H3331 oq j = fI s.heap oq j := fun j => (Wr.neI wH3331 (Or.inl (G_ne goq gsq (by decide)))).trans (fy3250_op j)
              have f3333 : ∀ j : Nat, fI H3331 aq j = fI s.heap aq j := fun j => (Wr.neI wH3331 (Or.inl (G_ne gaq gsq (by decide)))).trans (fy3250_ar j)
              have f3334 : ∀ j : Nat, fI H3331 uq j = fI s.heap uq j := fun j => (Wr.neI wH3331 (Or.inl (G_ne guq gsq (by decide)))).trans (fy3250_uu j)
              have m3335 := cy3250_0.trans (Wr.neR wH3331 (Or.inl (G_ne ga0 gsq (by decide)))).symm
              have m3336 := cy3250_1.trans (Wr.neR wH3331 (Or.inl (G_ne ga0 gsq (by decide)))).symm
              have m3337 := cy3250_2.trans (Wr.neR wH3331 (Or.inl (G_ne ga0 gsq (by decide)))).symm
              have m3338 := cy3250_3.trans (Wr.neR wH3331 (Or.inl (G_ne ga0 gsq (by decide)))).symm
              have m3339 := ex3258.trans (Wr.neI wH3331 (Or.inl (G_ne goq gsq (by decide)))).symm
              have m3341 := Wr.I wH3331
              have m3341 := m3341.symm
              refine lv_goto (tgt := 170) hx hb dX10_worth_125 (by decide) ?_
              obtain ⟨x3342, ex3342⟩ : ∃ y : Int32, y = x3249 + 1 := ⟨_, rfl⟩
              have tx3342 := i_add ex3342 (by omega)
              refine lv_iinc (v := x3342) (lv' := [(5, .int x3342), (0, .ref a0), (1, .int x1), (3, .int x3), (4, .int x3248)]) hx hb dX10_worth_170 hl3247 (k := 4) rfl (by rw [ex3342]; rfl) (by decide) rfl (fun ls3343 hl3344 => ?_)
              refine lv_goto (tgt := 12) hx hb dX10_worth_173 (by decide) ?_
              have hpt2 : ∀ z y : Nat, z + 1 = kn + 1 → 500 * x1.toNatClampNeg + x2.toNatClampNeg ≤ z → (fI s.heap oq z).toInt = 0 → (y : Int) + 1 = x3248.toInt → fI H3331 sq y = fI s.heap aq z := by
                intro z y hz ha ho hy
                have e1 : z = kn := by omega
                rw [e1] at ho ⊢
                exfalso
                omega
              have cn_x3248 := i_cl (x := x3248) (by omega)
              have cn_x3248 := i_cl (x := x3248) (by omega)
              have cn_x3326 := i_cl (x := x3326) (by omega)
              have qo3345 : fI s.heap oq kn = x3258 := by rw [ex3258, fy3250_op, i_nk hkn]
              have cn_x3328 := i_cl (x := x3328) (by omega)
              exact ih12 (kn + 1) ls3343 H3331 locsH3331 (x3248) (x3342) (lv_sub hl3344 [1, 2, 3, 4, 0] rfl) hTH3331 hSH3331 (by have := i_rng x3248; omega) (by have := i_rng x3342; omega) m3335 m3336 m3337 m3338 f3332 f3333 f3334 (by omega) (by omega) (by omega) (by omega) hpt2 (rnR_step hsp12 (by omega) (pr_wr (stR_not (by show (fI s.heap oq kn).toInt = 9; rw [qo3345]; omega) (by omega) (by omega) (by rw [show fI _ sq x3326.toNatClampNeg = x3329 from by rw [show x3326.toNatClampNeg = x3328.toNatClampNeg by omega]; exact ex3329.symm]; exact ex3330)) (wr_up1 wH3331)) rfl)
          · have k3290 := i_eq c3289
            refine lv_aload_n hx hb dX10_worth_45 rfl (lv_at hl3247 0 rfl) ?_
            refine x_gr C hTH3245 (ci := 10) (k := 44) rfl inX10 (by decide) wF_X10_98 ga0 rg_112 rfl dX10_worth_46 (fun q3346 eq3346 gq3346 => ?_)
            have uq3346 : sq = q3346 := (cy3250_2).trans eq3346.symm
            subst uq3346
            refine lv_iload hx hb dX10_worth_49 (lv_at hl3247 3 rfl) ?_
            refine lv_aload_n hx hb dX10_worth_51 rfl (lv_at hl3247 0 rfl) ?_
            refine x_gr C hTH3245 (ci := 10) (k := 32) rfl inX10 (by decide) wF_X10_83 ga0 rg_112 rfl dX10_worth_52 (fun q3347 eq3347 gq3347 => ?_)
            have uq3347 : oq = q3347 := (cy3250_0).trans eq3347.symm
            subst uq3347
            refine lv_iload hx hb dX10_worth_55 (lv_at hl3247 4 rfl) ?_
            refine x_ai C hTH3245 goq rg_136 ⟨by omega, by show _ < ((3500 : Nat) : Int); omega⟩ dX10_worth_57 (fun x3348 ex3348 bx3348 => ?_)
            have ux3348 : x3258 = x3348 := (ex3258).trans ex3348.symm
            subst ux3348
            refine lv_if_ne (tgt := 71) hx hb dX10_worth_58 (by decide) (fun c3349 => ?_) (fun c3349 => ?_)
            · have k3350 := i_ne c3349
              refine lv_aload_n hx hb dX10_worth_71 rfl (lv_at hl3247 0 rfl) ?_
              refine x_gr C hTH3245 (ci := 10) (k := 43) rfl inX10 (by decide) wF_X10_95 ga0 rg_112 rfl dX10_worth_72 (fun q3351 eq3351 gq3351 => ?_)
              have uq3351 : uq = q3351 := (cy3250_3).trans eq3351.symm
              subst uq3351
              refine lv_aload_n hx hb dX10_worth_75 rfl (lv_at hl3247 0 rfl) ?_
              refine x_gr C hTH3245 (ci := 10) (k := 33) rfl inX10 (by decide) wF_X10_86 ga0 rg_112 rfl dX10_worth_76 (fun q3352 eq3352 gq3352 => ?_)
              have uq3352 : aq = q3352 := (cy3250_1).trans eq3352.symm
              subst uq3352
              refine lv_iload hx hb dX10_worth_79 (lv_at hl3247 4 rfl) ?_
              refine x_ai C hTH3245 gaq rg_137 ⟨by omega, by show _ < ((3500 : Nat) : Int); omega⟩ dX10_worth_81 (fun x3353 ex3353 bx3353 => ?_)
              have wx3353 : x3353.toInt = (fI s.heap aq kn).toInt := by rw [ex3353, fy3250_ar, i_nk hkn]
              refine x_ai C hTH3245 guq rg_139 ⟨by omega, by show _ < ((14 : Nat) : Int); omega⟩ dX10_worth_82 (fun x3354 ex3354 bx3354 => ?_)
              refine x_iast C hTH3245 hSH3245 gsq rg_140 (by omega) (by show _ < ((520 : Nat) : Int); omega) ⟨by have := i_rng x3354; omega, by have := i_rng x3354; omega⟩ (AE_in gsq (by decide)) dX10_worth_83 (fun H3355 locsH3355 hTH3355 hSH3355 wH3355 => ?_)
              have f3356 : ∀ j : Nat, fI H3355 oq j = fI s.heap oq j := fun j => (Wr.neI wH3355 (Or.inl (G_ne goq gsq (by decide)))).trans (fy3250_op j)
              have f3357 : ∀ j : Nat, fI H3355 aq j = fI s.heap aq j := fun j => (Wr.neI wH3355 (Or.inl (G_ne gaq gsq (by decide)))).trans (fy3250_ar j)
              have f3358 : ∀ j : Nat, fI H3355 uq j = fI s.heap uq j := fun j => (Wr.neI wH3355 (Or.inl (G_ne guq gsq (by decide)))).trans (fy3250_uu j)
              have m3359 := cy3250_0.trans (Wr.neR wH3355 (Or.inl (G_ne ga0 gsq (by decide)))).symm
              have m3360 := cy3250_1.trans (Wr.neR wH3355 (Or.inl (G_ne ga0 gsq (by decide)))).symm
              have m3361 := cy3250_2.trans (Wr.neR wH3355 (Or.inl (G_ne ga0 gsq (by decide)))).symm
              have m3362 := cy3250_3.trans (Wr.neR wH3355 (Or.inl (G_ne ga0 gsq (by decide)))).symm
              have m3363 := ex3258.trans (Wr.neI wH3355 (Or.inl (G_ne goq gsq (by decide)))).symm
              have m3364 := ex3353.trans (Wr.neI wH3355 (Or.inl (G_ne gaq gsq (by decide)))).symm
              have m3365 := ex3354.trans (Wr.neI wH3355 (Or.inl (G_ne guq gsq (by decide)))).symm
              have m3366 := Wr.I wH3355
              have m3366 := m3366.symm
              refine lv_iload hx hb dX10_worth_84 (lv_at hl3247 3 rfl) ?_
              refine lv_iconst (v := 1) hx hb dX10_worth_86 (by decide) ?_
              refine lv_iadd hx hb dX10_worth_87 ?_
              refine lv_topi (fun x3367 ex3367 => ?_)
              have tx3367 := i_add ex3367 (by omega)
              refine lv_istore (lv' := [(4, .int x3367), (0, .ref a0), (1, .int x1), (3, .int x3), (5, .int x3249)]) hx hb dX10_worth_88 hl3247 (by decide) rfl (fun ls3368 hl3369 => ?_)
              refine lv_goto (tgt := 170) hx hb dX10_worth_90 (by decide) ?_
              obtain ⟨x3370, ex3370⟩ : ∃ y : Int32, y = x3249 + 1 := ⟨_, rfl⟩
              have tx3370 := i_add ex3370 (by omega)
              refine lv_iinc (v := x3370) (lv' := [(5, .int x3370), (4, .int x3367), (0, .ref a0), (1, .int x1), (3, .int x3)]) hx hb dX10_worth_170 hl3369 (k := 4) rfl (by rw [ex3370]; rfl) (by decide) rfl (fun ls3371 hl3372 => ?_)
              refine lv_goto (tgt := 12) hx hb dX10_worth_173 (by decide) ?_
              have hpt2 : ∀ z y : Nat, z + 1 = kn + 1 → 500 * x1.toNatClampNeg + x2.toNatClampNeg ≤ z → (fI s.heap oq z).toInt = 0 → (y : Int) + 1 = x3367.toInt → fI H3355 sq y = fI s.heap aq z := by
                intro z y hz ha ho hy
                have e1 : z = kn := by omega
                rw [e1] at ho ⊢
                exfalso
                omega
              have cn_x3248 := i_cl (x := x3248) (by omega)
              have cn_x3367 := i_cl (x := x3367) (by omega)
              have cn_x3248 := i_cl (x := x3248) (by omega)
              have qo3373 : fI s.heap oq kn = x3258 := by rw [ex3258, fy3250_op, i_nk hkn]
              have qo3374 : fI s.heap aq kn = x3353 := by rw [ex3353, fy3250_ar, i_nk hkn]
              exact ih12 (kn + 1) ls3371 H3355 locsH3355 (x3367) (x3370) (lv_sub hl3372 [2, 3, 4, 1, 0] rfl) hTH3355 hSH3355 (by have := i_rng x3367; omega) (by have := i_rng x3370; omega) m3359 m3360 m3361 m3362 f3356 f3357 f3358 (by omega) (by omega) (by omega) (by omega) hpt2 (rnR_step hsp12 (by omega) (pr_wr (stR_push (by show (fI s.heap oq kn).toInt = 0 ∨ (fI s.heap oq kn).toInt = 1; rw [qo3373]; omega) (by omega) (by omega) (by show _ = if (fI s.heap oq kn).toInt = 0 then _ else fI s.heap uq (fI s.heap aq kn).toNatClampNeg; rw [if_neg (by rw [qo3373]; omega), qo3374]; exact ex3354.trans (fy3250_uu _))) (wr_up1 wH3355)) rfl)
            · have k3350 := i_eq c3349
              exfalso
              omega
  refine lv_iconst (v := 0) hx hb dX10_worth_0 (by decide) ?_
  refine lv_istore (lv' := [(4, .int 0), (0, .ref a0), (1, .int x1), (2, .int x2), (3, .int x3)]) hx hb dX10_worth_1 hl (by decide) rfl (fun ls3375 hl3376 => ?_)
  refine lv_sipush (v := 500) hx hb dX10_worth_3 (by decide) ?_
  refine lv_iload_n hx hb dX10_worth_6 rfl (lv_at hl3376 2 rfl) ?_
  refine lv_imul hx hb dX10_worth_7 ?_
  refine lv_topi (fun x3377 ex3377 => ?_)
  have tx3377 := i_mul ex3377 (by rw [n_500]; omega)
  rw [n_500] at tx3377
  refine lv_iload_n hx hb dX10_worth_8 rfl (lv_at hl3376 3 rfl) ?_
  refine lv_iadd hx hb dX10_worth_9 ?_
  refine lv_topi (fun x3378 ex3378 => ?_)
  have tx3378 := i_add ex3378 (by omega)
  refine lv_istore (lv' := [(5, .int x3378), (4, .int 0), (0, .ref a0), (1, .int x1), (2, .int x2), (3, .int x3)]) hx hb dX10_worth_10 hl3376 (by decide) rfl (fun ls3379 hl3380 => ?_)
  exact J12 ((3500 - x3378.toInt).toNat + 1) (500 * x1.toNatClampNeg + x2.toNatClampNeg) ls3379 s.heap [] (0) (x3378) (lv_sub hl3380 [2, 3, 5, 1, 0] rfl) hT hS (by decide) (by have := i_rng x3378; omega) eoq eaq esq euq f0_op f0_ar f0_uu (by omega) (by omega) (Nat.le_refl _) (by rw [hd0]; rfl) (fun z y hz ha _ _ => by omega) (by rfl)
