/-! ===== the class's stack machine, a step at a time ===== -/
theorem wr_up1 {H H1 : Heap} {q i : Nat} {x : Int32} (w : Wr H H1 q i (.int x)) : (fun j => fI H1 q j) = up1 (fun j => fI H q j) i x := by
  funext j
  unfold up1
  by_cases e : j = i
  · rw [if_pos e, e]; exact Wr.I w
  · rw [if_neg e]; exact Wr.neI w (Or.inr e)
theorem rnC_step {un S k k1 : Nat → Int32} {f g p q t t1 : Nat} {x : Int32} (h : x = (rnC un S f p k t).1 0) (hf : f = g + 1) (hs : stC un (S p) k t = (k1, t1)) (hq : q = p + 1) : x = (rnC un S g q k1 t1).1 0 := by rw [h, rnC_go hf hs hq]
theorem pr_wr {a : (Nat → Int32) × Nat} {k k1 : Nat → Int32} {t : Nat} (h : a = (k, t)) (e : k1 = k) : a = (k1, t) := by rw [h, e]
theorem kd_div {x z : Int32} (e : z = x / 100000) (h : 0 ≤ x.toInt) : z.toInt = kdC x := by
  rw [e]
  exact lg_idiv_nonneg h (by decide)
theorem nm_rem {x z : Int32} (e : z = x - x / 100000 * 100000) (h : 0 ≤ x.toInt) : z.toInt = nmC x := by
  have rx := i_rng x
  have h1 : (x / 100000).toInt = x.toInt / 100000 := lg_idiv_nonneg h (by decide)
  have n0 : (100000 : Int32).toInt = 100000 := rfl
  have h4 := i_mul (x := x / 100000) (y := 100000) rfl (by rw [n0, h1]; omega)
  rw [n0, h1] at h4
  have h5 := i_sub e (by rw [h4]; omega)
  unfold nmC
  omega
theorem stC_push {un k : Nat → Int32} {s v : Int32} {t t1 i : Nat} (h : kdC s = 24 ∨ kdC s = 6 ∨ (11 ≤ kdC s ∧ kdC s ≤ 23)) (ht : t < 40) (hi : i = t) (h1 : t1 = t + 1) (hv : v = if kdC s = 24 then Int32.ofInt (nmC s) else un (kdC s).toNat) : stC un s k t = (up1 k i v, t1) := by
  rw [hi, h1, hv]
  exact if_pos ⟨h, ht⟩
theorem stC_not {un k : Nat → Int32} {s v : Int32} {t t1 i : Nat} (h : kdC s = 10) (ht : 1 ≤ t) (hi : i = t - 1) (h1 : t1 = t) (hv : v = 1 - k i) : stC un s k t = (up1 k i v, t1) := by
  rw [hv, hi, h1]
  unfold stC
  rw [if_neg (by omega), if_pos ⟨h, ht⟩]
theorem stC_div {un k : Nat → Int32} {s v : Int32} {t t1 i : Nat} (h : kdC s = 47) (ht : 1 ≤ t) (hn : 0 < nmC s) (hi : i = t - 1) (h1 : t1 = t) (hv : v = k i / Int32.ofInt (nmC s)) : stC un s k t = (up1 k i v, t1) := by
  rw [hv, hi, h1]
  unfold stC
  rw [if_neg (by omega), if_neg (by omega), if_pos ⟨h, ht, hn⟩]
theorem stC_bin {un k : Nat → Int32} {s v : Int32} {t t1 i j : Nat} (h1 : ¬ ((kdC s = 24 ∨ kdC s = 6 ∨ (11 ≤ kdC s ∧ kdC s ≤ 23)) ∧ t < 40)) (h2 : ¬ (kdC s = 10 ∧ 1 ≤ t)) (h3 : ¬ (kdC s = 47 ∧ 1 ≤ t ∧ 0 < nmC s)) (ht : 2 ≤ t) (hi : i = t - 2) (hj : j = t - 1) (h4 : t1 = t - 1) (hv : v = jdC (kdC s) (k i) (k j)) : stC un s k t = (up1 k i v, t1) := by
  rw [hv, hi, hj, h4]
  unfold stC
  rw [if_neg h1, if_neg h2, if_neg h3, if_pos ht]
theorem stC_no {un k : Nat → Int32} {s : Int32} {t t1 : Nat} (h1 : ¬ ((kdC s = 24 ∨ kdC s = 6 ∨ (11 ≤ kdC s ∧ kdC s ≤ 23)) ∧ t < 40)) (h2 : ¬ (kdC s = 10 ∧ 1 ≤ t)) (h3 : ¬ (kdC s = 47 ∧ 1 ≤ t ∧ 0 < nmC s)) (ht : ¬ 2 ≤ t) (h4 : t1 = t) : stC un s k t = (k, t1) := by
  rw [h4]
  unfold stC
  rw [if_neg h1, if_neg h2, if_neg h3, if_neg ht]
/-- what a word tells: the first of its lines that holds -/
def clT (w : Int) (v : Int) : Int := if w ≤ 1 then (if v < 0 then 0 else if 99999 < v then 99999 else v) else (if v < -9999 then -9999 else if 9999 < v then 9999 else v)
def tdF (wd fi : Nat → Int) (hw : Nat → Bool) (fs fw : Nat → Int32) (w t : Int) : Nat → Nat → Int
  | 0, _ => 0
  | f + 1, l => if wd l = w ∧ fi l = t ∧ (hw l = false ∨ fw l ≠ 0) then clT w (fs l).toInt else tdF wd fi hw fs fw w t f (l + 1)
theorem tdF_y {wd fi : Nat → Int} {hw : Nat → Bool} {fs fw : Nat → Int32} {w t : Int} {f l : Nat} (hf : 0 < f) (h1 : wd l = w) (h2 : fi l = t) (h3 : hw l = false ∨ fw l ≠ 0) : tdF wd fi hw fs fw w t f l = clT w (fs l).toInt := by
  obtain ⟨f, rfl⟩ : ∃ g, f = g + 1 := ⟨f - 1, by omega⟩
  exact if_pos ⟨h1, h2, h3⟩
theorem tdF_n {wd fi : Nat → Int} {hw : Nat → Bool} {fs fw : Nat → Int32} {w t : Int} {f g l m : Nat} (hf : f = g + 1) (hm : m = l + 1) (h : ¬ (wd l = w ∧ fi l = t ∧ (hw l = false ∨ fw l ≠ 0))) : tdF wd fi hw fs fw w t f l = tdF wd fi hw fs fw w t g m := by
  subst hf; subst hm
  exact if_neg h
theorem tdF_0 {wd fi : Nat → Int} {hw : Nat → Bool} {fs fw : Nat → Int32} {w t : Int} {f l : Nat} (hf : f = 0) : tdF wd fi hw fs fw w t f l = 0 := by
  subst hf; rfl
set_option maxHeartbeats 4000000 in
set_option maxRecDepth 100000 in
theorem a_X6_joined_v (l : Launch) (K : KE) (G : Nat → Option Nat) (H : Heap) (x0 x1 x2 : Int32) (hT : TY K G H)  : MX l K yX6_joined cX6_joined 3 (some .int) 0 0 0 0 [.int x0, .int x1, .int x2] H (AE G [] H.size) (fun v H1 => H1 = H ∧ ∃ r : Int32, v = some (.int r) ∧ (r = jdC x0.toInt x1 x2)) := by
  refine MX.of (by decide +kernel) (Nat.le_of_ble_eq_true rfl) ?_
  intro p e s m below meth c ls Q C hH hl hQ
  subst hH
  have C : CX p K s m _ meth c RX6 cX6_joined 3 (some .int) "joined" := C
  obtain ⟨hx, hb, hml, hown, hts, hKT, hr, hlocks, hnm⟩ := id C
  have hl : lv_has ls 3 [(0, .int x0), (1, .int x1), (2, .int x2)] := hl
  have hS : va_S (AE G [] s.heap.size) s.heap s.heap [] := va_S.rf
  have n_0 : (0 : Int32).toInt = 0 := rfl
  have n_1 : (1 : Int32).toInt = 1 := rfl
  have n_9 : (9 : Int32).toInt = 9 := rfl
  have n_42 : (42 : Int32).toInt = 42 := rfl
  have n_43 : (43 : Int32).toInt = 43 := rfl
  have n_45 : (45 : Int32).toInt = 45 := rfl
  have n_60 : (60 : Int32).toInt = 60 := rfl
  have n_61 : (61 : Int32).toInt = 61 := rfl
  have n_62 : (62 : Int32).toInt = 62 := rfl
  refine lv_iload_n hx hb dX6_joined_0 rfl (lv_at hl 0 rfl) ?_
  by_cases c101 : x0 = 9
  · have kc101 := i_eq c101
    refine lv_lookup (tgt := 113) (off := 112) hx hb dX6_joined_1 (by decide) (by rw [c101]; rfl) (by decide) ?_
    refine lv_iload_n hx hb dX6_joined_113 rfl (lv_at hl 1 rfl) ?_
    refine lv_iload_n hx hb dX6_joined_114 rfl (lv_at hl 2 rfl) ?_
    refine lv_iand hx hb dX6_joined_115 ?_
    refine lv_topi (fun x102 ex102 => ?_)
    exact x_iret C hQ dX6_joined_116 hS (by decide) (by decide) (⟨rfl, x102, rfl, (by unfold jdC; rw [if_neg (by omega), if_neg (by omega), if_neg (by omega), if_neg (by omega), if_neg (by omega), if_neg (by omega), if_pos (by omega)]; exact ex102)⟩)
  have kc101 := i_ne c101
  by_cases c103 : x0 = 42
  · have kc103 := i_eq c103
    refine lv_lookup (tgt := 76) (off := 75) hx hb dX6_joined_1 (by decide) (by rw [c103]; rfl) (by decide) ?_
    refine lv_iload_n hx hb dX6_joined_76 rfl (lv_at hl 1 rfl) ?_
    refine lv_iload_n hx hb dX6_joined_77 rfl (lv_at hl 2 rfl) ?_
    refine lv_imul hx hb dX6_joined_78 ?_
    refine lv_topi (fun x104 ex104 => ?_)
    exact x_iret C hQ dX6_joined_79 hS (by decide) (by decide) (⟨rfl, x104, rfl, (by unfold jdC; rw [if_neg (by omega), if_neg (by omega), if_pos (by omega)]; exact ex104)⟩)
  have kc103 := i_ne c103
  by_cases c105 : x0 = 43
  · have kc105 := i_eq c105
    refine lv_lookup (tgt := 68) (off := 67) hx hb dX6_joined_1 (by decide) (by rw [c105]; rfl) (by decide) ?_
    refine lv_iload_n hx hb dX6_joined_68 rfl (lv_at hl 1 rfl) ?_
    refine lv_iload_n hx hb dX6_joined_69 rfl (lv_at hl 2 rfl) ?_
    refine lv_iadd hx hb dX6_joined_70 ?_
    refine lv_topi (fun x106 ex106 => ?_)
    exact x_iret C hQ dX6_joined_71 hS (by decide) (by decide) (⟨rfl, x106, rfl, (by unfold jdC; rw [if_pos (by omega)]; exact ex106)⟩)
  have kc105 := i_ne c105
  by_cases c107 : x0 = 45
  · have kc107 := i_eq c107
    refine lv_lookup (tgt := 72) (off := 71) hx hb dX6_joined_1 (by decide) (by rw [c107]; rfl) (by decide) ?_
    refine lv_iload_n hx hb dX6_joined_72 rfl (lv_at hl 1 rfl) ?_
    refine lv_iload_n hx hb dX6_joined_73 rfl (lv_at hl 2 rfl) ?_
    refine lv_isub hx hb dX6_joined_74 ?_
    refine lv_topi (fun x108 ex108 => ?_)
    exact x_iret C hQ dX6_joined_75 hS (by decide) (by decide) (⟨rfl, x108, rfl, (by unfold jdC; rw [if_neg (by omega), if_pos (by omega)]; exact ex108)⟩)
  have kc107 := i_ne c107
  by_cases c109 : x0 = 60
  · have kc109 := i_eq c109
    refine lv_lookup (tgt := 80) (off := 79) hx hb dX6_joined_1 (by decide) (by rw [c109]; rfl) (by decide) ?_
    refine lv_iload_n hx hb dX6_joined_80 rfl (lv_at hl 1 rfl) ?_
    refine lv_iload_n hx hb dX6_joined_81 rfl (lv_at hl 2 rfl) ?_
    refine lv_icmp_ge (tgt := 89) hx hb dX6_joined_82 (by decide) (fun c110 => ?_) (fun c110 => ?_)
    · have k111 := i_le c110
      refine lv_iconst (v := 0) hx hb dX6_joined_89 (by decide) ?_
      exact x_iret C hQ dX6_joined_90 hS (by decide) (by decide) (⟨rfl, 0, rfl, (by unfold jdC; rw [if_neg (by omega), if_neg (by omega), if_neg (by omega), if_pos (by omega), if_neg (by omega)])⟩)
    · have k111 := i_nle c110
      refine lv_iconst (v := 1) hx hb dX6_joined_85 (by decide) ?_
      refine lv_goto (tgt := 90) hx hb dX6_joined_86 (by decide) ?_
      exact x_iret C hQ dX6_joined_90 hS (by decide) (by decide) (⟨rfl, 1, rfl, (by unfold jdC; rw [if_neg (by omega), if_neg (by omega), if_neg (by omega), if_pos (by omega), if_pos (by omega)])⟩)
  have kc109 := i_ne c109
  by_cases c112 : x0 = 61
  · have kc112 := i_eq c112
    refine lv_lookup (tgt := 91) (off := 90) hx hb dX6_joined_1 (by decide) (by rw [c112]; rfl) (by decide) ?_
    refine lv_iload_n hx hb dX6_joined_91 rfl (lv_at hl 1 rfl) ?_
    refine lv_iload_n hx hb dX6_joined_92 rfl (lv_at hl 2 rfl) ?_
    refine lv_icmp_ne (tgt := 100) hx hb dX6_joined_93 (by decide) (fun c113 => ?_) (fun c113 => ?_)
    · have k114 := i_ne c113
      refine lv_iconst (v := 0) hx hb dX6_joined_100 (by decide) ?_
      exact x_iret C hQ dX6_joined_101 hS (by decide) (by decide) (⟨rfl, 0, rfl, (by unfold jdC; rw [if_neg (by omega), if_neg (by omega), if_neg (by omega), if_neg (by omega), if_pos (by omega), if_neg (by omega)])⟩)
    · have k114 := i_eq c113
      refine lv_iconst (v := 1) hx hb dX6_joined_96 (by decide) ?_
      refine lv_goto (tgt := 101) hx hb dX6_joined_97 (by decide) ?_
      exact x_iret C hQ dX6_joined_101 hS (by decide) (by decide) (⟨rfl, 1, rfl, (by unfold jdC; rw [if_neg (by omega), if_neg (by omega), if_neg (by omega), if_neg (by omega), if_pos (by omega), if_pos (by omega)])⟩)
  have kc112 := i_ne c112
  by_cases c115 : x0 = 62
  · have kc115 := i_eq c115
    refine lv_lookup (tgt := 102) (off := 101) hx hb dX6_joined_1 (by decide) (by rw [c115]; rfl) (by decide) ?_
    refine lv_iload_n hx hb dX6_joined_102 rfl (lv_at hl 1 rfl) ?_
    refine lv_iload_n hx hb dX6_joined_103 rfl (lv_at hl 2 rfl) ?_
    refine lv_icmp_le (tgt := 111) hx hb dX6_joined_104 (by decide) (fun c116 => ?_) (fun c116 => ?_)
    · have k117 := i_le c116
      refine lv_iconst (v := 0) hx hb dX6_joined_111 (by decide) ?_
      exact x_iret C hQ dX6_joined_112 hS (by decide) (by decide) (⟨rfl, 0, rfl, (by unfold jdC; rw [if_neg (by omega), if_neg (by omega), if_neg (by omega), if_neg (by omega), if_neg (by omega), if_pos (by omega), if_neg (by omega)])⟩)
    · have k117 := i_nle c116
      refine lv_iconst (v := 1) hx hb dX6_joined_107 (by decide) ?_
      refine lv_goto (tgt := 112) hx hb dX6_joined_108 (by decide) ?_
      exact x_iret C hQ dX6_joined_112 hS (by decide) (by decide) (⟨rfl, 1, rfl, (by unfold jdC; rw [if_neg (by omega), if_neg (by omega), if_neg (by omega), if_neg (by omega), if_neg (by omega), if_pos (by omega), if_pos (by omega)])⟩)
  have kc115 := i_ne c115
  refine lv_lookup (tgt := 117) (off := 116) hx hb dX6_joined_1 (by decide) (show Op.lookupswitch.offset [(9, 112), (42, 75), (43, 67), (45, 71), (60, 79), (61, 90), (62, 101)] 116 x0.toInt = 116 by rw [lv_osw (a := 9) c101 rfl, lv_osw (a := 42) c103 rfl, lv_osw (a := 43) c105 rfl, lv_osw (a := 45) c107 rfl, lv_osw (a := 60) c109 rfl, lv_osw (a := 61) c112 rfl, lv_osw (a := 62) c115 rfl]; rfl) (by decide) ?_
  refine lv_iload_n hx hb dX6_joined_117 rfl (lv_at hl 1 rfl) ?_
  refine lv_iload_n hx hb dX6_joined_118 rfl (lv_at hl 2 rfl) ?_
  refine lv_ior hx hb dX6_joined_119 ?_
  refine lv_topi (fun x118 ex118 => ?_)
  exact x_iret C hQ dX6_joined_120 hS (by decide) (by decide) (⟨rfl, x118, rfl, (by unfold jdC; rw [if_neg (by omega), if_neg (by omega), if_neg (by omega), if_neg (by omega), if_neg (by omega), if_neg (by omega), if_neg (by omega)]; exact ex118)⟩)

set_option maxHeartbeats 4000000 in
set_option maxRecDepth 100000 in
theorem a_X6_value_v (l : Launch) (K : KE) (G : Nat → Option Nat) (H : Heap) {a0 : Nat} {a1 : Nat} (x2 : Int32) (x3 : Int32) {uq : Nat} {tq : Nat} {sq : Nat} (hT : TY K G H) (ga0 : G a0 = some 82) (ga1 : G a1 = some 16) (hx2 : 0 ≤ x2.toInt ∧ x2.toInt ≤ 500) (hx3 : 0 ≤ x3.toInt ∧ x3.toInt ≤ 500) (guq : G uq = some 83) (euq : uq = fR H a0 (K.1.2 6 0)) (gtq : G tq = some 84) (etq : tq = fR H a0 (K.1.2 6 1)) (gsq : G sq = some 24) (esq : sq = fR H a1 (K.1.2 7 8)) (hy0 : ∀ j : Nat, x2.toNatClampNeg ≤ j → j < x3.toNatClampNeg → 0 ≤ (fI H sq j).toInt) : MX l K yX6_value cX6_value 9 (some .int) 1 22 0 0 [.ref a0, .ref a1, .int x2, .int x3] H (AE G [84] H.size) (fun v H1 => ∃ (r : Int32), v = some (.int r) ∧ (r = vlC (fun j => fI H uq j) (fun j => fI H sq j) (fun j => fI H tq j) x2.toNatClampNeg x3.toNatClampNeg) ∧ TY K G H1) := by
  refine MX.of (by decide +kernel) (Nat.le_of_ble_eq_true rfl) ?_
  intro p e s m below meth c ls Q C hH hl hQ
  subst hH
  have C : CX p K s m _ meth c RX6 cX6_value 9 (some .int) "value" := C
  obtain ⟨hx, hb, hml, hown, hts, hKT, hr, hlocks, hnm⟩ := id C
  have hl : lv_has ls 9 [(0, .ref a0), (1, .ref a1), (2, .int x2), (3, .int x3)] := hl
  have hS : va_S (AE G [84] s.heap.size) s.heap s.heap [] := va_S.rf
  have n_m1 : ((-1) : Int32).toInt = -1 := rfl
  have n_0 : (0 : Int32).toInt = 0 := rfl
  have n_1 : (1 : Int32).toInt = 1 := rfl
  have n_2 : (2 : Int32).toInt = 2 := rfl
  have n_6 : (6 : Int32).toInt = 6 := rfl
  have n_10 : (10 : Int32).toInt = 10 := rfl
  have n_11 : (11 : Int32).toInt = 11 := rfl
  have n_23 : (23 : Int32).toInt = 23 := rfl
  have n_24 : (24 : Int32).toInt = 24 := rfl
  have n_40 : (40 : Int32).toInt = 40 := rfl
  have n_47 : (47 : Int32).toInt = 47 := rfl
  have n_500 : (500 : Int32).toInt = 500 := rfl
  have n_100000 : (100000 : Int32).toInt = 100000 := rfl
  have f0_sS : ∀ j : Nat, fI s.heap sq j = fI s.heap sq j := fun _ => rfl
  have f0_sU : ∀ j : Nat, fI s.heap uq j = fI s.heap uq j := fun _ => rfl
  have J13 : ∀ (nf : Nat)  (ls5223 : Array Slot) (H5222 : Heap) (locsH5222 : List Loc) (x5225 : Int32) (x5226 : Int32), lv_has ls5223 9 [(0, .ref a0), (1, .ref a1), (3, .int x3), (4, .int x5225), (5, .int x5226)] → TY K G H5222 → va_S (AE G [84] s.heap.size) s.heap H5222 locsH5222 → (0 ≤ x5225.toInt ∧ x5225.toInt ≤ 40) → (0 ≤ x5226.toInt ∧ x5226.toInt ≤ 500) → (uq = fR H5222 a0 (K.1.2 6 0)) → (tq = fR H5222 a0 (K.1.2 6 1)) → (sq = fR H5222 a1 (K.1.2 7 8)) → (∀ j : Nat, fI H5222 sq j = fI s.heap sq j) → (∀ j : Nat, fI H5222 uq j = fI s.heap uq j) → (500 - x5226.toInt < (nf : Int)) → (x2.toInt ≤ x5226.toInt) → (vlC (fun j => fI s.heap uq j) (fun j => fI s.heap sq j) (fun j => fI s.heap tq j) x2.toNatClampNeg x3.toNatClampNeg = (rnC (fun j => fI s.heap uq j) (fun j => fI s.heap sq j) (x3.toNatClampNeg - x5226.toNatClampNeg) x5226.toNatClampNeg (fun j => fI H5222 tq j) x5225.toNatClampNeg).1 0) → W p l e ({ frames := 1, cells := 0, slots := 0, locals := 22 } : Room) s m (([.ref a0, .ref a1, .int x2, .int x3] : List Value).toArray) below meth c H5222 locsH5222 0 0 Q (F0 m 13 ls5223 []) := by
    intro nf
    induction nf with
    | zero =>
      intro  ls5223 H5222 locsH5222 x5225 x5226 hl5224 hTH5222 hSH5222 bx5225 bx5226 cy5227_0 cy5227_1 cy5227_2 fy5227_sS fy5227_sU hm13 iv13 hsp13
      exfalso
      omega
    | succ nf ih13 =>
      intro  ls5223 H5222 locsH5222 x5225 x5226 hl5224 hTH5222 hSH5222 bx5225 bx5226 cy5227_0 cy5227_1 cy5227_2 fy5227_sS fy5227_sU hm13 iv13 hsp13
      have J79 : ∀  (ls5229 : Array Slot) (H5228 : Heap) (locsH5228 : List Loc) (x5233 : Int32) (x5234 : Int32), lv_has ls5229 9 [(0, .ref a0), (1, .ref a1), (3, .int x3), (4, .int x5225), (5, .int x5226), (6, .int x5233), (7, .int x5234)] → TY K G H5228 → va_S (AE G [84] s.heap.size) s.heap H5228 locsH5228 → (1 ≤ x3.toInt ∧ x3.toInt ≤ 500) → (0 ≤ x5226.toInt ∧ x5226.toInt ≤ 499) → (6 ≤ x5233.toInt ∧ x5233.toInt ≤ 24) → (uq = fR H5228 a0 (K.1.2 6 0)) → (tq = fR H5228 a0 (K.1.2 6 1)) → (sq = fR H5228 a1 (K.1.2 7 8)) → (∀ j : Nat, fI H5228 sq j = fI s.heap sq j) → (∀ j : Nat, fI H5228 uq j = fI s.heap uq j) → ((x5233.toInt = 24 ∨ x5233.toInt = 6 ∨ (11 ≤ x5233.toInt ∧ x5233.toInt ≤ 23)) ∧ x2.toInt ≤ x5226.toInt ∧ x5226.toInt < x3.toInt) → (vlC (fun j => fI s.heap uq j) (fun j => fI s.heap sq j) (fun j => fI s.heap tq j) x2.toNatClampNeg x3.toNatClampNeg = (rnC (fun j => fI s.heap uq j) (fun j => fI s.heap sq j) (x3.toNatClampNeg - x5226.toNatClampNeg) x5226.toNatClampNeg (fun j => fI H5228 tq j) x5225.toNatClampNeg).1 0) → (kdC (fI s.heap sq x5226.toNatClampNeg) = x5233.toInt) → (nmC (fI s.heap sq x5226.toNatClampNeg) = x5234.toInt) → W p l e ({ frames := 1, cells := 0, slots := 0, locals := 22 } : Room) s m (([.ref a0, .ref a1, .int x2, .int x3] : List Value).toArray) below meth c H5228 locsH5228 0 0 Q (F0 m 79 ls5229 []) := by
        intro  ls5229 H5228 locsH5228 x5233 x5234 hl5230 hTH5228 hSH5228 b5231 b5232 bx5233 cy5235_0 cy5235_1 cy5235_2 fy5235_sS fy5235_sU iv79 hsp79 hkd79 hnm79
        refine lv_iconst (v := 1) hx hb dX6_value_79 (by decide) ?_
        refine lv_goto (tgt := 84) hx hb dX6_value_80 (by decide) ?_
        refine lv_istore (lv' := [(8, .int 1), (0, .ref a0), (1, .ref a1), (3, .int x3), (4, .int x5225), (5, .int x5226), (6, .int x5233), (7, .int x5234)]) hx hb dX6_value_84 hl5230 (by decide) rfl (fun ls5236 hl5237 => ?_)
        refine lv_iload hx hb dX6_value_86 (lv_at hl5237 0 rfl) ?_
        refine lv_if_eq (tgt := 130) hx hb dX6_value_88 (by decide) (fun c5238 => ?_) (fun c5238 => ?_)
        · have k5239 := i_eq c5238
          exfalso
          omega
        · have k5239 := i_ne c5238
          refine lv_iload hx hb dX6_value_91 (lv_at hl5237 4 rfl) ?_
          refine lv_bipush (v := 40) hx hb dX6_value_93 (by decide) ?_
          refine lv_icmp_ge (tgt := 130) hx hb dX6_value_95 (by decide) (fun c5240 => ?_) (fun c5240 => ?_)
          · have k5241 := i_le c5240
            refine lv_iload hx hb dX6_value_130 (lv_at hl5237 6 rfl) ?_
            refine lv_bipush (v := 10) hx hb dX6_value_132 (by decide) ?_
            refine lv_icmp_ne (tgt := 166) hx hb dX6_value_134 (by decide) (fun c5242 => ?_) (fun c5242 => ?_)
            · have k5243 := i_ne c5242
              refine lv_iload hx hb dX6_value_166 (lv_at hl5237 6 rfl) ?_
              refine lv_bipush (v := 47) hx hb dX6_value_168 (by decide) ?_
              refine lv_icmp_ne (tgt := 201) hx hb dX6_value_170 (by decide) (fun c5244 => ?_) (fun c5244 => ?_)
              · have k5245 := i_ne c5244
                refine lv_iload hx hb dX6_value_201 (lv_at hl5237 4 rfl) ?_
                refine lv_iconst (v := 2) hx hb dX6_value_203 (by decide) ?_
                refine lv_icmp_lt (tgt := 240) hx hb dX6_value_204 (by decide) (fun c5246 => ?_) (fun c5246 => ?_)
                · have k5247 := i_lt c5246
                  exfalso
                  omega
                · have k5247 := i_nlt c5246
                  obtain ⟨x5248, ex5248⟩ : ∃ y : Int32, y = x5225 + (-1) := ⟨_, rfl⟩
                  have tx5248 := i_add ex5248 (by omega)
                  refine lv_iinc (v := x5248) (lv' := [(4, .int x5248), (8, .int 1), (0, .ref a0), (1, .ref a1), (3, .int x3), (5, .int x5226), (6, .int x5233), (7, .int x5234)]) hx hb dX6_value_207 hl5237 (k := 4) rfl (by rw [ex5248]; rfl) (by decide) rfl (fun ls5249 hl5250 => ?_)
                  refine lv_aload_n hx hb dX6_value_210 rfl (lv_at hl5250 2 rfl) ?_
                  refine x_gr C hTH5228 (ci := 6) (k := 1) rfl inX6 (by decide) wF_X6_15 ga0 rg_82 rfl dX6_value_211 (fun q5251 eq5251 gq5251 => ?_)
                  have uq5251 : tq = q5251 := (cy5235_1).trans eq5251.symm
                  subst uq5251
                  refine lv_iload hx hb dX6_value_214 (lv_at hl5250 0 rfl) ?_
                  refine lv_iconst (v := 1) hx hb dX6_value_216 (by decide) ?_
                  refine lv_isub hx hb dX6_value_217 ?_
                  refine lv_topi (fun x5252 ex5252 => ?_)
                  have tx5252 := i_sub ex5252 (by omega)
                  refine lv_iload hx hb dX6_value_218 (lv_at hl5250 6 rfl) ?_
                  refine lv_aload_n hx hb dX6_value_220 rfl (lv_at hl5250 2 rfl) ?_
                  refine x_gr C hTH5228 (ci := 6) (k := 1) rfl inX6 (by decide) wF_X6_15 ga0 rg_82 rfl dX6_value_221 (fun q5253 eq5253 gq5253 => ?_)
                  have uq5253 : tq = q5253 := (cy5235_1).trans eq5253.symm
                  subst uq5253
                  refine lv_iload hx hb dX6_value_224 (lv_at hl5250 0 rfl) ?_
                  refine lv_iconst (v := 1) hx hb dX6_value_226 (by decide) ?_
                  refine lv_isub hx hb dX6_value_227 ?_
                  refine lv_topi (fun x5254 ex5254 => ?_)
                  have tx5254 := i_sub ex5254 (by omega)
                  refine x_ai C hTH5228 gtq rg_84 ⟨by omega, by show _ < ((40 : Nat) : Int); omega⟩ dX6_value_228 (fun x5255 ex5255 bx5255 => ?_)
                  refine lv_aload_n hx hb dX6_value_229 rfl (lv_at hl5250 2 rfl) ?_
                  refine x_gr C hTH5228 (ci := 6) (k := 1) rfl inX6 (by decide) wF_X6_15 ga0 rg_82 rfl dX6_value_230 (fun q5256 eq5256 gq5256 => ?_)
                  have uq5256 : tq = q5256 := (cy5235_1).trans eq5256.symm
                  subst uq5256
                  refine lv_iload hx hb dX6_value_233 (lv_at hl5250 0 rfl) ?_
                  refine x_ai C hTH5228 gtq rg_84 ⟨by omega, by show _ < ((40 : Nat) : Int); omega⟩ dX6_value_235 (fun x5257 ex5257 bx5257 => ?_)
                  refine x_S (As := [.int x5233, .int x5255, .int x5257]) (rest := [.int x5252, .ref tq]) C (a_X6_joined_v l K G H5228 (x5233) (x5255) (x5257) hTH5228) yo_X6_joined wM_X6_98 ⟨⟨by decide, by decide⟩, by decide, by decide⟩ rfl hl5250.1 rfl (Nat.le_of_ble_eq_true rfl) dX6_value_236 hSH5228 (AE_sub (fun _ _ => rfl) (by decide) hSH5228.1) (fun vH5258 H5258 locsH5258 pH5258 zH5258 kH5258 hSH5258 => ?_)
                  have hqH5258 := pH5258.1.symm
                  subst hqH5258
                  obtain ⟨x5259, hvH5258, tx5259⟩ := pH5258.2
                  subst hvH5258
                  refine W.eq (g2 := F0 m 239 ls5249 [.int x5259, .int x5252, .ref tq]) rfl ?_
                  refine x_iast C hTH5228 hSH5258 gtq rg_84 (by omega) (by show _ < ((40 : Nat) : Int); omega) ⟨by have := i_rng x5259; omega, by have := i_rng x5259; omega⟩ (AE_in gtq (by decide)) dX6_value_239 (fun H5260 locsH5260 hTH5260 hSH5260 wH5260 => ?_)
                  have f5261 : ∀ j : Nat, fI H5260 sq j = fI s.heap sq j := fun j => (Wr.neI wH5260 (Or.inl (G_ne gsq gtq (by decide)))).trans (fy5235_sS j)
                  have f5262 : ∀ j : Nat, fI H5260 uq j = fI s.heap uq j := fun j => (Wr.neI wH5260 (Or.inl (G_ne guq gtq (by decide)))).trans (fy5235_sU j)
                  have m5263 := cy5235_0.trans (Wr.neR wH5260 (Or.inl (G_ne ga0 gtq (by decide)))).symm
                  have m5264 := cy5235_1.trans (Wr.neR wH5260 (Or.inl (G_ne ga0 gtq (by decide)))).symm
                  have m5265 := cy5235_2.trans (Wr.neR wH5260 (Or.inl (G_ne ga1 gtq (by decide)))).symm
                  have m5268 := Wr.I wH5260
                  have m5268 := m5268.symm
                  obtain ⟨x5269, ex5269⟩ : ∃ y : Int32, y = x5226 + 1 := ⟨_, rfl⟩
                  have tx5269 := i_add ex5269 (by omega)
                  refine lv_iinc (v := x5269) (lv' := [(5, .int x5269), (4, .int x5248), (8, .int 1), (0, .ref a0), (1, .ref a1), (3, .int x3), (6, .int x5233), (7, .int x5234)]) hx hb dX6_value_240 hl5250 (k := 5) rfl (by rw [ex5269]; rfl) (by decide) rfl (fun ls5270 hl5271 => ?_)
                  refine lv_goto (tgt := 13) hx hb dX6_value_243 (by decide) ?_
                  have cn_x5226 := i_cl (x := x5226) (by omega)
                  have cn_x5269 := i_cl (x := x5269) (by omega)
                  have cn_x5225 := i_cl (x := x5225) (by omega)
                  have cn_x5248 := i_cl (x := x5248) (by omega)
                  have cn_x3 := i_cl (x := x3) (by omega)
                  have cn_x5252 := i_cl (x := x5252) (by omega)
                  have cn_x5254 := i_cl (x := x5254) (by omega)
                  have cn_x5248 := i_cl (x := x5248) (by omega)
                  exact ih13  ls5270 H5260 locsH5260 (x5248) (x5269) (lv_sub hl5271 [3, 4, 5, 1, 0] rfl) hTH5260 hSH5260 (by have := i_rng x5248; omega) (by have := i_rng x5269; omega) m5263 m5264 m5265 f5261 f5262 (by omega) (by omega) (rnC_step hsp79 (by omega) (pr_wr (stC_bin (j := x5248.toNatClampNeg) (by rw [hkd79]; omega) (by rw [hkd79]; omega) (by rw [hkd79, hnm79]; omega) (by omega) (by omega) (by omega) (by omega) (by rw [hkd79, show fI _ tq x5252.toNatClampNeg = x5255 from by rw [show x5252.toNatClampNeg = x5254.toNatClampNeg by omega]; exact ex5255.symm, show fI _ tq x5248.toNatClampNeg = x5257 from ex5257.symm]; exact tx5259)) (wr_up1 wH5260)) (by omega))
              · have k5245 := i_eq c5244
                exfalso
                omega
            · have k5243 := i_eq c5242
              refine lv_iload hx hb dX6_value_137 (lv_at hl5237 4 rfl) ?_
              refine lv_iconst (v := 1) hx hb dX6_value_139 (by decide) ?_
              refine lv_icmp_lt (tgt := 166) hx hb dX6_value_140 (by decide) (fun c5272 => ?_) (fun c5272 => ?_)
              · have k5273 := i_lt c5272
                exfalso
                omega
              · have k5273 := i_nlt c5272
                refine lv_aload_n hx hb dX6_value_143 rfl (lv_at hl5237 1 rfl) ?_
                refine x_gr C hTH5228 (ci := 6) (k := 1) rfl inX6 (by decide) wF_X6_15 ga0 rg_82 rfl dX6_value_144 (fun q5274 eq5274 gq5274 => ?_)
                have uq5274 : tq = q5274 := (cy5235_1).trans eq5274.symm
                subst uq5274
                refine lv_iload hx hb dX6_value_147 (lv_at hl5237 4 rfl) ?_
                refine lv_iconst (v := 1) hx hb dX6_value_149 (by decide) ?_
                refine lv_isub hx hb dX6_value_150 ?_
                refine lv_topi (fun x5275 ex5275 => ?_)
                have tx5275 := i_sub ex5275 (by omega)
                refine lv_iconst (v := 1) hx hb dX6_value_151 (by decide) ?_
                refine lv_aload_n hx hb dX6_value_152 rfl (lv_at hl5237 1 rfl) ?_
                refine x_gr C hTH5228 (ci := 6) (k := 1) rfl inX6 (by decide) wF_X6_15 ga0 rg_82 rfl dX6_value_153 (fun q5276 eq5276 gq5276 => ?_)
                have uq5276 : tq = q5276 := (cy5235_1).trans eq5276.symm
                subst uq5276
                refine lv_iload hx hb dX6_value_156 (lv_at hl5237 4 rfl) ?_
                refine lv_iconst (v := 1) hx hb dX6_value_158 (by decide) ?_
                refine lv_isub hx hb dX6_value_159 ?_
                refine lv_topi (fun x5277 ex5277 => ?_)
                have tx5277 := i_sub ex5277 (by omega)
                refine x_ai C hTH5228 gtq rg_84 ⟨by omega, by show _ < ((40 : Nat) : Int); omega⟩ dX6_value_160 (fun x5278 ex5278 bx5278 => ?_)
                refine lv_isub hx hb dX6_value_161 ?_
                refine lv_topi (fun x5279 ex5279 => ?_)
                refine x_iast C hTH5228 hSH5228 gtq rg_84 (by omega) (by show _ < ((40 : Nat) : Int); omega) ⟨by have := i_rng x5279; omega, by have := i_rng x5279; omega⟩ (AE_in gtq (by decide)) dX6_value_162 (fun H5280 locsH5280 hTH5280 hSH5280 wH5280 => ?_)
                have f5281 : ∀ j : Nat, fI H5280 sq j = fI s.heap sq j := fun j => (Wr.neI wH5280 (Or.inl (G_ne gsq gtq (by decide)))).trans (fy5235_sS j)
                have f5282 : ∀ j : Nat, fI H5280 uq j = fI s.heap uq j := fun j => (Wr.neI wH5280 (Or.inl (G_ne guq gtq (by decide)))).trans (fy5235_sU j)
                have m5283 := cy5235_0.trans (Wr.neR wH5280 (Or.inl (G_ne ga0 gtq (by decide)))).symm
                have m5284 := cy5235_1.trans (Wr.neR wH5280 (Or.inl (G_ne ga0 gtq (by decide)))).symm
                have m5285 := cy5235_2.trans (Wr.neR wH5280 (Or.inl (G_ne ga1 gtq (by decide)))).symm
                have m5287 := Wr.I wH5280
                have m5287 := m5287.symm
                refine lv_goto (tgt := 240) hx hb dX6_value_163 (by decide) ?_
                obtain ⟨x5288, ex5288⟩ : ∃ y : Int32, y = x5226 + 1 := ⟨_, rfl⟩
                have tx5288 := i_add ex5288 (by omega)
                refine lv_iinc (v := x5288) (lv' := [(5, .int x5288), (8, .int 1), (0, .ref a0), (1, .ref a1), (3, .int x3), (4, .int x5225), (6, .int x5233), (7, .int x5234)]) hx hb dX6_value_240 hl5237 (k := 5) rfl (by rw [ex5288]; rfl) (by decide) rfl (fun ls5289 hl5290 => ?_)
                refine lv_goto (tgt := 13) hx hb dX6_value_243 (by decide) ?_
                have cn_x5226 := i_cl (x := x5226) (by omega)
                have cn_x5288 := i_cl (x := x5288) (by omega)
                have cn_x5225 := i_cl (x := x5225) (by omega)
                have cn_x5225 := i_cl (x := x5225) (by omega)
                have cn_x3 := i_cl (x := x3) (by omega)
                have cn_x5275 := i_cl (x := x5275) (by omega)
                have cn_x5277 := i_cl (x := x5277) (by omega)
                exact ih13  ls5289 H5280 locsH5280 (x5225) (x5288) (lv_sub hl5290 [2, 3, 4, 5, 0] rfl) hTH5280 hSH5280 (by have := i_rng x5225; omega) (by have := i_rng x5288; omega) m5283 m5284 m5285 f5281 f5282 (by omega) (by omega) (rnC_step hsp79 (by omega) (pr_wr (stC_not (by rw [hkd79]; omega) (by omega) (by omega) (by omega) (by rw [show fI _ tq x5275.toNatClampNeg = x5278 from by rw [show x5275.toNatClampNeg = x5277.toNatClampNeg by omega]; exact ex5278.symm]; exact ex5279)) (wr_up1 wH5280)) (by omega))
          · have k5241 := i_nle c5240
            refine lv_aload_n hx hb dX6_value_98 rfl (lv_at hl5237 1 rfl) ?_
            refine x_gr C hTH5228 (ci := 6) (k := 1) rfl inX6 (by decide) wF_X6_15 ga0 rg_82 rfl dX6_value_99 (fun q5291 eq5291 gq5291 => ?_)
            have uq5291 : tq = q5291 := (cy5235_1).trans eq5291.symm
            subst uq5291
            refine lv_iload hx hb dX6_value_102 (lv_at hl5237 4 rfl) ?_
            refine lv_iload hx hb dX6_value_104 (lv_at hl5237 6 rfl) ?_
            refine lv_bipush (v := 24) hx hb dX6_value_106 (by decide) ?_
            refine lv_icmp_ne (tgt := 116) hx hb dX6_value_108 (by decide) (fun c5292 => ?_) (fun c5292 => ?_)
            · have k5293 := i_ne c5292
              refine lv_aload_n hx hb dX6_value_116 rfl (lv_at hl5237 1 rfl) ?_
              refine x_gr C hTH5228 (ci := 6) (k := 0) rfl inX6 (by decide) wF_X6_9 ga0 rg_82 rfl dX6_value_117 (fun q5294 eq5294 gq5294 => ?_)
              have uq5294 : uq = q5294 := (cy5235_0).trans eq5294.symm
              subst uq5294
              refine lv_iload hx hb dX6_value_120 (lv_at hl5237 6 rfl) ?_
              refine x_ai C hTH5228 guq rg_83 ⟨by omega, by show _ < ((24 : Nat) : Int); omega⟩ dX6_value_122 (fun x5295 ex5295 bx5295 => ?_)
              refine x_iast C hTH5228 hSH5228 gtq rg_84 (by omega) (by show _ < ((40 : Nat) : Int); omega) ⟨by have := i_rng x5295; omega, by have := i_rng x5295; omega⟩ (AE_in gtq (by decide)) dX6_value_123 (fun H5296 locsH5296 hTH5296 hSH5296 wH5296 => ?_)
              have f5297 : ∀ j : Nat, fI H5296 sq j = fI s.heap sq j := fun j => (Wr.neI wH5296 (Or.inl (G_ne gsq gtq (by decide)))).trans (fy5235_sS j)
              have f5298 : ∀ j : Nat, fI H5296 uq j = fI s.heap uq j := fun j => (Wr.neI wH5296 (Or.inl (G_ne guq gtq (by decide)))).trans (fy5235_sU j)
              have m5299 := cy5235_0.trans (Wr.neR wH5296 (Or.inl (G_ne ga0 gtq (by decide)))).symm
              have m5300 := cy5235_1.trans (Wr.neR wH5296 (Or.inl (G_ne ga0 gtq (by decide)))).symm
              have m5301 := cy5235_2.trans (Wr.neR wH5296 (Or.inl (G_ne ga1 gtq (by decide)))).symm
              have m5302 := ex5295.trans (Wr.neI wH5296 (Or.inl (G_ne guq gtq (by decide)))).symm
              have m5303 := Wr.I wH5296
              have m5303 := m5303.symm
              obtain ⟨x5304, ex5304⟩ : ∃ y : Int32, y = x5225 + 1 := ⟨_, rfl⟩
              have tx5304 := i_add ex5304 (by omega)
              refine lv_iinc (v := x5304) (lv' := [(4, .int x5304), (8, .int 1), (0, .ref a0), (1, .ref a1), (3, .int x3), (5, .int x5226), (6, .int x5233), (7, .int x5234)]) hx hb dX6_value_124 hl5237 (k := 4) rfl (by rw [ex5304]; rfl) (by decide) rfl (fun ls5305 hl5306 => ?_)
              refine lv_goto (tgt := 240) hx hb dX6_value_127 (by decide) ?_
              obtain ⟨x5307, ex5307⟩ : ∃ y : Int32, y = x5226 + 1 := ⟨_, rfl⟩
              have tx5307 := i_add ex5307 (by omega)
              refine lv_iinc (v := x5307) (lv' := [(5, .int x5307), (4, .int x5304), (8, .int 1), (0, .ref a0), (1, .ref a1), (3, .int x3), (6, .int x5233), (7, .int x5234)]) hx hb dX6_value_240 hl5306 (k := 5) rfl (by rw [ex5307]; rfl) (by decide) rfl (fun ls5308 hl5309 => ?_)
              refine lv_goto (tgt := 13) hx hb dX6_value_243 (by decide) ?_
              have cn_x5226 := i_cl (x := x5226) (by omega)
              have cn_x5307 := i_cl (x := x5307) (by omega)
              have cn_x5225 := i_cl (x := x5225) (by omega)
              have cn_x5304 := i_cl (x := x5304) (by omega)
              have cn_x3 := i_cl (x := x3) (by omega)
              have cn_x5225 := i_cl (x := x5225) (by omega)
              exact ih13  ls5308 H5296 locsH5296 (x5304) (x5307) (lv_sub hl5309 [3, 4, 5, 1, 0] rfl) hTH5296 hSH5296 (by have := i_rng x5304; omega) (by have := i_rng x5307; omega) m5299 m5300 m5301 f5297 f5298 (by omega) (by omega) (rnC_step hsp79 (by omega) (pr_wr (stC_push (by rw [hkd79]; omega) (by omega) (by omega) (by omega) (by rw [if_neg (by rw [hkd79]; omega), hkd79]; exact ex5295.trans (fy5235_sU _))) (wr_up1 wH5296)) (by omega))
            · have k5293 := i_eq c5292
              refine lv_iload hx hb dX6_value_111 (lv_at hl5237 7 rfl) ?_
              refine lv_goto (tgt := 123) hx hb dX6_value_113 (by decide) ?_
              refine x_iast C hTH5228 hSH5228 gtq rg_84 (by omega) (by show _ < ((40 : Nat) : Int); omega) ⟨by have := i_rng x5234; omega, by have := i_rng x5234; omega⟩ (AE_in gtq (by decide)) dX6_value_123 (fun H5310 locsH5310 hTH5310 hSH5310 wH5310 => ?_)
              have f5311 : ∀ j : Nat, fI H5310 sq j = fI s.heap sq j := fun j => (Wr.neI wH5310 (Or.inl (G_ne gsq gtq (by decide)))).trans (fy5235_sS j)
              have f5312 : ∀ j : Nat, fI H5310 uq j = fI s.heap uq j := fun j => (Wr.neI wH5310 (Or.inl (G_ne guq gtq (by decide)))).trans (fy5235_sU j)
              have m5313 := cy5235_0.trans (Wr.neR wH5310 (Or.inl (G_ne ga0 gtq (by decide)))).symm
              have m5314 := cy5235_1.trans (Wr.neR wH5310 (Or.inl (G_ne ga0 gtq (by decide)))).symm
              have m5315 := cy5235_2.trans (Wr.neR wH5310 (Or.inl (G_ne ga1 gtq (by decide)))).symm
              have m5316 := Wr.I wH5310
              have m5316 := m5316.symm
              obtain ⟨x5317, ex5317⟩ : ∃ y : Int32, y = x5225 + 1 := ⟨_, rfl⟩
              have tx5317 := i_add ex5317 (by omega)
              refine lv_iinc (v := x5317) (lv' := [(4, .int x5317), (8, .int 1), (0, .ref a0), (1, .ref a1), (3, .int x3), (5, .int x5226), (6, .int x5233), (7, .int x5234)]) hx hb dX6_value_124 hl5237 (k := 4) rfl (by rw [ex5317]; rfl) (by decide) rfl (fun ls5318 hl5319 => ?_)
              refine lv_goto (tgt := 240) hx hb dX6_value_127 (by decide) ?_
              obtain ⟨x5320, ex5320⟩ : ∃ y : Int32, y = x5226 + 1 := ⟨_, rfl⟩
              have tx5320 := i_add ex5320 (by omega)
              refine lv_iinc (v := x5320) (lv' := [(5, .int x5320), (4, .int x5317), (8, .int 1), (0, .ref a0), (1, .ref a1), (3, .int x3), (6, .int x5233), (7, .int x5234)]) hx hb dX6_value_240 hl5319 (k := 5) rfl (by rw [ex5320]; rfl) (by decide) rfl (fun ls5321 hl5322 => ?_)
              refine lv_goto (tgt := 13) hx hb dX6_value_243 (by decide) ?_
              have cn_x5226 := i_cl (x := x5226) (by omega)
              have cn_x5320 := i_cl (x := x5320) (by omega)
              have cn_x5225 := i_cl (x := x5225) (by omega)
              have cn_x5317 := i_cl (x := x5317) (by omega)
              have cn_x3 := i_cl (x := x3) (by omega)
              have cn_x5225 := i_cl (x := x5225) (by omega)
              exact ih13  ls5321 H5310 locsH5310 (x5317) (x5320) (lv_sub hl5322 [3, 4, 5, 1, 0] rfl) hTH5310 hSH5310 (by have := i_rng x5317; omega) (by have := i_rng x5320; omega) m5313 m5314 m5315 f5311 f5312 (by omega) (by omega) (rnC_step hsp79 (by omega) (pr_wr (stC_push (by rw [hkd79]; omega) (by omega) (by omega) (by omega) (by rw [if_pos (by rw [hkd79]; omega), hnm79, Int32.ofInt_toInt])) (wr_up1 wH5310)) (by omega))
      have J83 : ∀  (ls5324 : Array Slot) (H5323 : Heap) (locsH5323 : List Loc) (x5328 : Int32) (x5329 : Int32), lv_has ls5324 9 [(0, .ref a0), (1, .ref a1), (3, .int x3), (4, .int x5225), (5, .int x5226), (6, .int x5328), (7, .int x5329)] → TY K G H5323 → va_S (AE G [84] s.heap.size) s.heap H5323 locsH5323 → (1 ≤ x3.toInt ∧ x3.toInt ≤ 500) → (0 ≤ x5226.toInt ∧ x5226.toInt ≤ 499) → (uq = fR H5323 a0 (K.1.2 6 0)) → (tq = fR H5323 a0 (K.1.2 6 1)) → (sq = fR H5323 a1 (K.1.2 7 8)) → (∀ j : Nat, fI H5323 sq j = fI s.heap sq j) → (∀ j : Nat, fI H5323 uq j = fI s.heap uq j) → (¬ (x5328.toInt = 24 ∨ x5328.toInt = 6 ∨ (11 ≤ x5328.toInt ∧ x5328.toInt ≤ 23)) ∧ x2.toInt ≤ x5226.toInt ∧ x5226.toInt < x3.toInt) → (vlC (fun j => fI s.heap uq j) (fun j => fI s.heap sq j) (fun j => fI s.heap tq j) x2.toNatClampNeg x3.toNatClampNeg = (rnC (fun j => fI s.heap uq j) (fun j => fI s.heap sq j) (x3.toNatClampNeg - x5226.toNatClampNeg) x5226.toNatClampNeg (fun j => fI H5323 tq j) x5225.toNatClampNeg).1 0) → (kdC (fI s.heap sq x5226.toNatClampNeg) = x5328.toInt) → (nmC (fI s.heap sq x5226.toNatClampNeg) = x5329.toInt) → W p l e ({ frames := 1, cells := 0, slots := 0, locals := 22 } : Room) s m (([.ref a0, .ref a1, .int x2, .int x3] : List Value).toArray) below meth c H5323 locsH5323 0 0 Q (F0 m 83 ls5324 []) := by
        intro  ls5324 H5323 locsH5323 x5328 x5329 hl5325 hTH5323 hSH5323 b5326 b5327 cy5330_0 cy5330_1 cy5330_2 fy5330_sS fy5330_sU iv83 hsp83 hkd83 hnm83
        refine lv_iconst (v := 0) hx hb dX6_value_83 (by decide) ?_
        refine lv_istore (lv' := [(8, .int 0), (0, .ref a0), (1, .ref a1), (3, .int x3), (4, .int x5225), (5, .int x5226), (6, .int x5328), (7, .int x5329)]) hx hb dX6_value_84 hl5325 (by decide) rfl (fun ls5331 hl5332 => ?_)
        refine lv_iload hx hb dX6_value_86 (lv_at hl5332 0 rfl) ?_
        refine lv_if_eq (tgt := 130) hx hb dX6_value_88 (by decide) (fun c5333 => ?_) (fun c5333 => ?_)
        · have k5334 := i_eq c5333
          refine lv_iload hx hb dX6_value_130 (lv_at hl5332 6 rfl) ?_
          refine lv_bipush (v := 10) hx hb dX6_value_132 (by decide) ?_
          refine lv_icmp_ne (tgt := 166) hx hb dX6_value_134 (by decide) (fun c5335 => ?_) (fun c5335 => ?_)
          · have k5336 := i_ne c5335
            refine lv_iload hx hb dX6_value_166 (lv_at hl5332 6 rfl) ?_
            refine lv_bipush (v := 47) hx hb dX6_value_168 (by decide) ?_
            refine lv_icmp_ne (tgt := 201) hx hb dX6_value_170 (by decide) (fun c5337 => ?_) (fun c5337 => ?_)
            · have k5338 := i_ne c5337
              refine lv_iload hx hb dX6_value_201 (lv_at hl5332 4 rfl) ?_
              refine lv_iconst (v := 2) hx hb dX6_value_203 (by decide) ?_
              refine lv_icmp_lt (tgt := 240) hx hb dX6_value_204 (by decide) (fun c5339 => ?_) (fun c5339 => ?_)
              · have k5340 := i_lt c5339
                obtain ⟨x5341, ex5341⟩ : ∃ y : Int32, y = x5226 + 1 := ⟨_, rfl⟩
                have tx5341 := i_add ex5341 (by omega)
                refine lv_iinc (v := x5341) (lv' := [(5, .int x5341), (8, .int 0), (0, .ref a0), (1, .ref a1), (3, .int x3), (4, .int x5225), (6, .int x5328), (7, .int x5329)]) hx hb dX6_value_240 hl5332 (k := 5) rfl (by rw [ex5341]; rfl) (by decide) rfl (fun ls5342 hl5343 => ?_)
                refine lv_goto (tgt := 13) hx hb dX6_value_243 (by decide) ?_
                have cn_x5226 := i_cl (x := x5226) (by omega)
                have cn_x5341 := i_cl (x := x5341) (by omega)
                have cn_x5225 := i_cl (x := x5225) (by omega)
                have cn_x5225 := i_cl (x := x5225) (by omega)
                have cn_x3 := i_cl (x := x3) (by omega)
                exact ih13  ls5342 H5323 locsH5323 (x5225) (x5341) (lv_sub hl5343 [2, 3, 4, 5, 0] rfl) hTH5323 hSH5323 (by have := i_rng x5225; omega) (by have := i_rng x5341; omega) cy5330_0 cy5330_1 cy5330_2 fy5330_sS fy5330_sU (by omega) (by omega) (rnC_step hsp83 (by omega) (stC_no (by rw [hkd83]; omega) (by rw [hkd83]; omega) (by rw [hkd83, hnm83]; omega) (by omega) (by omega)) (by omega))
              · have k5340 := i_nlt c5339
                obtain ⟨x5344, ex5344⟩ : ∃ y : Int32, y = x5225 + (-1) := ⟨_, rfl⟩
                have tx5344 := i_add ex5344 (by omega)
                refine lv_iinc (v := x5344) (lv' := [(4, .int x5344), (8, .int 0), (0, .ref a0), (1, .ref a1), (3, .int x3), (5, .int x5226), (6, .int x5328), (7, .int x5329)]) hx hb dX6_value_207 hl5332 (k := 4) rfl (by rw [ex5344]; rfl) (by decide) rfl (fun ls5345 hl5346 => ?_)
                refine lv_aload_n hx hb dX6_value_210 rfl (lv_at hl5346 2 rfl) ?_
                refine x_gr C hTH5323 (ci := 6) (k := 1) rfl inX6 (by decide) wF_X6_15 ga0 rg_82 rfl dX6_value_211 (fun q5347 eq5347 gq5347 => ?_)
                have uq5347 : tq = q5347 := (cy5330_1).trans eq5347.symm
                subst uq5347
                refine lv_iload hx hb dX6_value_214 (lv_at hl5346 0 rfl) ?_
                refine lv_iconst (v := 1) hx hb dX6_value_216 (by decide) ?_
                refine lv_isub hx hb dX6_value_217 ?_
                refine lv_topi (fun x5348 ex5348 => ?_)
                have tx5348 := i_sub ex5348 (by omega)
                refine lv_iload hx hb dX6_value_218 (lv_at hl5346 6 rfl) ?_
                refine lv_aload_n hx hb dX6_value_220 rfl (lv_at hl5346 2 rfl) ?_
                refine x_gr C hTH5323 (ci := 6) (k := 1) rfl inX6 (by decide) wF_X6_15 ga0 rg_82 rfl dX6_value_221 (fun q5349 eq5349 gq5349 => ?_)
                have uq5349 : tq = q5349 := (cy5330_1).trans eq5349.symm
                subst uq5349
                refine lv_iload hx hb dX6_value_224 (lv_at hl5346 0 rfl) ?_
                refine lv_iconst (v := 1) hx hb dX6_value_226 (by decide) ?_
                refine lv_isub hx hb dX6_value_227 ?_
                refine lv_topi (fun x5350 ex5350 => ?_)
                have tx5350 := i_sub ex5350 (by omega)
                refine x_ai C hTH5323 gtq rg_84 ⟨by omega, by show _ < ((40 : Nat) : Int); omega⟩ dX6_value_228 (fun x5351 ex5351 bx5351 => ?_)
                refine lv_aload_n hx hb dX6_value_229 rfl (lv_at hl5346 2 rfl) ?_
                refine x_gr C hTH5323 (ci := 6) (k := 1) rfl inX6 (by decide) wF_X6_15 ga0 rg_82 rfl dX6_value_230 (fun q5352 eq5352 gq5352 => ?_)
                have uq5352 : tq = q5352 := (cy5330_1).trans eq5352.symm
                subst uq5352
                refine lv_iload hx hb dX6_value_233 (lv_at hl5346 0 rfl) ?_
                refine x_ai C hTH5323 gtq rg_84 ⟨by omega, by show _ < ((40 : Nat) : Int); omega⟩ dX6_value_235 (fun x5353 ex5353 bx5353 => ?_)
                refine x_S (As := [.int x5328, .int x5351, .int x5353]) (rest := [.int x5348, .ref tq]) C (a_X6_joined_v l K G H5323 (x5328) (x5351) (x5353) hTH5323) yo_X6_joined wM_X6_98 ⟨⟨by decide, by decide⟩, by decide, by decide⟩ rfl hl5346.1 rfl (Nat.le_of_ble_eq_true rfl) dX6_value_236 hSH5323 (AE_sub (fun _ _ => rfl) (by decide) hSH5323.1) (fun vH5354 H5354 locsH5354 pH5354 zH5354 kH5354 hSH5354 => ?_)
                have hqH5354 := pH5354.1.symm
                subst hqH5354
                obtain ⟨x5355, hvH5354, tx5355⟩ := pH5354.2
                subst hvH5354
                refine W.eq (g2 := F0 m 239 ls5345 [.int x5355, .int x5348, .ref tq]) rfl ?_
                refine x_iast C hTH5323 hSH5354 gtq rg_84 (by omega) (by show _ < ((40 : Nat) : Int); omega) ⟨by have := i_rng x5355; omega, by have := i_rng x5355; omega⟩ (AE_in gtq (by decide)) dX6_value_239 (fun H5356 locsH5356 hTH5356 hSH5356 wH5356 => ?_)
                have f5357 : ∀ j : Nat, fI H5356 sq j = fI s.heap sq j := fun j => (Wr.neI wH5356 (Or.inl (G_ne gsq gtq (by decide)))).trans (fy5330_sS j)
                have f5358 : ∀ j : Nat, fI H5356 uq j = fI s.heap uq j := fun j => (Wr.neI wH5356 (Or.inl (G_ne guq gtq (by decide)))).trans (fy5330_sU j)
                have m5359 := cy5330_0.trans (Wr.neR wH5356 (Or.inl (G_ne ga0 gtq (by decide)))).symm
                have m5360 := cy5330_1.trans (Wr.neR wH5356 (Or.inl (G_ne ga0 gtq (by decide)))).symm
                have m5361 := cy5330_2.trans (Wr.neR wH5356 (Or.inl (G_ne ga1 gtq (by decide)))).symm
                have m5364 := Wr.I wH5356
                have m5364 := m5364.symm
                obtain ⟨x5365, ex5365⟩ : ∃ y : Int32, y = x5226 + 1 := ⟨_, rfl⟩
                have tx5365 := i_add ex5365 (by omega)
                refine lv_iinc (v := x5365) (lv' := [(5, .int x5365), (4, .int x5344), (8, .int 0), (0, .ref a0), (1, .ref a1), (3, .int x3), (6, .int x5328), (7, .int x5329)]) hx hb dX6_value_240 hl5346 (k := 5) rfl (by rw [ex5365]; rfl) (by decide) rfl (fun ls5366 hl5367 => ?_)
                refine lv_goto (tgt := 13) hx hb dX6_value_243 (by decide) ?_
                have cn_x5226 := i_cl (x := x5226) (by omega)
                have cn_x5365 := i_cl (x := x5365) (by omega)
                have cn_x5225 := i_cl (x := x5225) (by omega)
                have cn_x5344 := i_cl (x := x5344) (by omega)
                have cn_x3 := i_cl (x := x3) (by omega)
                have cn_x5348 := i_cl (x := x5348) (by omega)
                have cn_x5350 := i_cl (x := x5350) (by omega)
                have cn_x5344 := i_cl (x := x5344) (by omega)
                exact ih13  ls5366 H5356 locsH5356 (x5344) (x5365) (lv_sub hl5367 [3, 4, 5, 1, 0] rfl) hTH5356 hSH5356 (by have := i_rng x5344; omega) (by have := i_rng x5365; omega) m5359 m5360 m5361 f5357 f5358 (by omega) (by omega) (rnC_step hsp83 (by omega) (pr_wr (stC_bin (j := x5344.toNatClampNeg) (by rw [hkd83]; omega) (by rw [hkd83]; omega) (by rw [hkd83, hnm83]; omega) (by omega) (by omega) (by omega) (by omega) (by rw [hkd83, show fI _ tq x5348.toNatClampNeg = x5351 from by rw [show x5348.toNatClampNeg = x5350.toNatClampNeg by omega]; exact ex5351.symm, show fI _ tq x5344.toNatClampNeg = x5353 from ex5353.symm]; exact tx5355)) (wr_up1 wH5356)) (by omega))
            · have k5338 := i_eq c5337
              refine lv_iload hx hb dX6_value_173 (lv_at hl5332 4 rfl) ?_
              refine lv_iconst (v := 1) hx hb dX6_value_175 (by decide) ?_
              refine lv_icmp_lt (tgt := 201) hx hb dX6_value_176 (by decide) (fun c5368 => ?_) (fun c5368 => ?_)
              · have k5369 := i_lt c5368
                refine lv_iload hx hb dX6_value_201 (lv_at hl5332 4 rfl) ?_
                refine lv_iconst (v := 2) hx hb dX6_value_203 (by decide) ?_
                refine lv_icmp_lt (tgt := 240) hx hb dX6_value_204 (by decide) (fun c5370 => ?_) (fun c5370 => ?_)
                · have k5371 := i_lt c5370
                  obtain ⟨x5372, ex5372⟩ : ∃ y : Int32, y = x5226 + 1 := ⟨_, rfl⟩
                  have tx5372 := i_add ex5372 (by omega)
                  refine lv_iinc (v := x5372) (lv' := [(5, .int x5372), (8, .int 0), (0, .ref a0), (1, .ref a1), (3, .int x3), (4, .int x5225), (6, .int x5328), (7, .int x5329)]) hx hb dX6_value_240 hl5332 (k := 5) rfl (by rw [ex5372]; rfl) (by decide) rfl (fun ls5373 hl5374 => ?_)
                  refine lv_goto (tgt := 13) hx hb dX6_value_243 (by decide) ?_
                  have cn_x5226 := i_cl (x := x5226) (by omega)
                  have cn_x5372 := i_cl (x := x5372) (by omega)
                  have cn_x5225 := i_cl (x := x5225) (by omega)
                  have cn_x5225 := i_cl (x := x5225) (by omega)
                  have cn_x3 := i_cl (x := x3) (by omega)
                  exact ih13  ls5373 H5323 locsH5323 (x5225) (x5372) (lv_sub hl5374 [2, 3, 4, 5, 0] rfl) hTH5323 hSH5323 (by have := i_rng x5225; omega) (by have := i_rng x5372; omega) cy5330_0 cy5330_1 cy5330_2 fy5330_sS fy5330_sU (by omega) (by omega) (rnC_step hsp83 (by omega) (stC_no (by rw [hkd83]; omega) (by rw [hkd83]; omega) (by rw [hkd83, hnm83]; omega) (by omega) (by omega)) (by omega))
                · have k5371 := i_nlt c5370
                  exfalso
                  omega
              · have k5369 := i_nlt c5368
                refine lv_iload hx hb dX6_value_179 (lv_at hl5332 7 rfl) ?_
                refine lv_if_le (tgt := 201) hx hb dX6_value_181 (by decide) (fun c5375 => ?_) (fun c5375 => ?_)
                · have k5376 := i_le c5375
                  refine lv_iload hx hb dX6_value_201 (lv_at hl5332 4 rfl) ?_
                  refine lv_iconst (v := 2) hx hb dX6_value_203 (by decide) ?_
                  refine lv_icmp_lt (tgt := 240) hx hb dX6_value_204 (by decide) (fun c5377 => ?_) (fun c5377 => ?_)
                  · have k5378 := i_lt c5377
                    obtain ⟨x5379, ex5379⟩ : ∃ y : Int32, y = x5226 + 1 := ⟨_, rfl⟩
                    have tx5379 := i_add ex5379 (by omega)
                    refine lv_iinc (v := x5379) (lv' := [(5, .int x5379), (8, .int 0), (0, .ref a0), (1, .ref a1), (3, .int x3), (4, .int x5225), (6, .int x5328), (7, .int x5329)]) hx hb dX6_value_240 hl5332 (k := 5) rfl (by rw [ex5379]; rfl) (by decide) rfl (fun ls5380 hl5381 => ?_)
                    refine lv_goto (tgt := 13) hx hb dX6_value_243 (by decide) ?_
                    have cn_x5226 := i_cl (x := x5226) (by omega)
                    have cn_x5379 := i_cl (x := x5379) (by omega)
                    have cn_x5225 := i_cl (x := x5225) (by omega)
                    have cn_x5225 := i_cl (x := x5225) (by omega)
                    have cn_x3 := i_cl (x := x3) (by omega)
                    exact ih13  ls5380 H5323 locsH5323 (x5225) (x5379) (lv_sub hl5381 [2, 3, 4, 5, 0] rfl) hTH5323 hSH5323 (by have := i_rng x5225; omega) (by have := i_rng x5379; omega) cy5330_0 cy5330_1 cy5330_2 fy5330_sS fy5330_sU (by omega) (by omega) (rnC_step hsp83 (by omega) (stC_no (by rw [hkd83]; omega) (by rw [hkd83]; omega) (by rw [hkd83, hnm83]; omega) (by omega) (by omega)) (by omega))
                  · have k5378 := i_nlt c5377
                    obtain ⟨x5382, ex5382⟩ : ∃ y : Int32, y = x5225 + (-1) := ⟨_, rfl⟩
                    have tx5382 := i_add ex5382 (by omega)
                    refine lv_iinc (v := x5382) (lv' := [(4, .int x5382), (8, .int 0), (0, .ref a0), (1, .ref a1), (3, .int x3), (5, .int x5226), (6, .int x5328), (7, .int x5329)]) hx hb dX6_value_207 hl5332 (k := 4) rfl (by rw [ex5382]; rfl) (by decide) rfl (fun ls5383 hl5384 => ?_)
                    refine lv_aload_n hx hb dX6_value_210 rfl (lv_at hl5384 2 rfl) ?_
                    refine x_gr C hTH5323 (ci := 6) (k := 1) rfl inX6 (by decide) wF_X6_15 ga0 rg_82 rfl dX6_value_211 (fun q5385 eq5385 gq5385 => ?_)
                    have uq5385 : tq = q5385 := (cy5330_1).trans eq5385.symm
                    subst uq5385
                    refine lv_iload hx hb dX6_value_214 (lv_at hl5384 0 rfl) ?_
                    refine lv_iconst (v := 1) hx hb dX6_value_216 (by decide) ?_
                    refine lv_isub hx hb dX6_value_217 ?_
                    refine lv_topi (fun x5386 ex5386 => ?_)
                    have tx5386 := i_sub ex5386 (by omega)
                    refine lv_iload hx hb dX6_value_218 (lv_at hl5384 6 rfl) ?_
                    refine lv_aload_n hx hb dX6_value_220 rfl (lv_at hl5384 2 rfl) ?_
                    refine x_gr C hTH5323 (ci := 6) (k := 1) rfl inX6 (by decide) wF_X6_15 ga0 rg_82 rfl dX6_value_221 (fun q5387 eq5387 gq5387 => ?_)
                    have uq5387 : tq = q5387 := (cy5330_1).trans eq5387.symm
                    subst uq5387
                    refine lv_iload hx hb dX6_value_224 (lv_at hl5384 0 rfl) ?_
                    refine lv_iconst (v := 1) hx hb dX6_value_226 (by decide) ?_
                    refine lv_isub hx hb dX6_value_227 ?_
                    refine lv_topi (fun x5388 ex5388 => ?_)
                    have tx5388 := i_sub ex5388 (by omega)
                    refine x_ai C hTH5323 gtq rg_84 ⟨by omega, by show _ < ((40 : Nat) : Int); omega⟩ dX6_value_228 (fun x5389 ex5389 bx5389 => ?_)
                    refine lv_aload_n hx hb dX6_value_229 rfl (lv_at hl5384 2 rfl) ?_
                    refine x_gr C hTH5323 (ci := 6) (k := 1) rfl inX6 (by decide) wF_X6_15 ga0 rg_82 rfl dX6_value_230 (fun q5390 eq5390 gq5390 => ?_)
                    have uq5390 : tq = q5390 := (cy5330_1).trans eq5390.symm
                    subst uq5390
                    refine lv_iload hx hb dX6_value_233 (lv_at hl5384 0 rfl) ?_
                    refine x_ai C hTH5323 gtq rg_84 ⟨by omega, by show _ < ((40 : Nat) : Int); omega⟩ dX6_value_235 (fun x5391 ex5391 bx5391 => ?_)
                    refine x_S (As := [.int x5328, .int x5389, .int x5391]) (rest := [.int x5386, .ref tq]) C (a_X6_joined_v l K G H5323 (x5328) (x5389) (x5391) hTH5323) yo_X6_joined wM_X6_98 ⟨⟨by decide, by decide⟩, by decide, by decide⟩ rfl hl5384.1 rfl (Nat.le_of_ble_eq_true rfl) dX6_value_236 hSH5323 (AE_sub (fun _ _ => rfl) (by decide) hSH5323.1) (fun vH5392 H5392 locsH5392 pH5392 zH5392 kH5392 hSH5392 => ?_)
                    have hqH5392 := pH5392.1.symm
                    subst hqH5392
                    obtain ⟨x5393, hvH5392, tx5393⟩ := pH5392.2
                    subst hvH5392
                    refine W.eq (g2 := F0 m 239 ls5383 [.int x5393, .int x5386, .ref tq]) rfl ?_
                    refine x_iast C hTH5323 hSH5392 gtq rg_84 (by omega) (by show _ < ((40 : Nat) : Int); omega) ⟨by have := i_rng x5393; omega, by have := i_rng x5393; omega⟩ (AE_in gtq (by decide)) dX6_value_239 (fun H5394 locsH5394 hTH5394 hSH5394 wH5394 => ?_)
                    have f5395 : ∀ j : Nat, fI H5394 sq j = fI s.heap sq j := fun j => (Wr.neI wH5394 (Or.inl (G_ne gsq gtq (by decide)))).trans (fy5330_sS j)
                    have f5396 : ∀ j : Nat, fI H5394 uq j = fI s.heap uq j := fun j => (Wr.neI wH5394 (Or.inl (G_ne guq gtq (by decide)))).trans (fy5330_sU j)
                    have m5397 := cy5330_0.trans (Wr.neR wH5394 (Or.inl (G_ne ga0 gtq (by decide)))).symm
                    have m5398 := cy5330_1.trans (Wr.neR wH5394 (Or.inl (G_ne ga0 gtq (by decide)))).symm
                    have m5399 := cy5330_2.trans (Wr.neR wH5394 (Or.inl (G_ne ga1 gtq (by decide)))).symm
                    have m5402 := Wr.I wH5394
                    have m5402 := m5402.symm
                    obtain ⟨x5403, ex5403⟩ : ∃ y : Int32, y = x5226 + 1 := ⟨_, rfl⟩
                    have tx5403 := i_add ex5403 (by omega)
                    refine lv_iinc (v := x5403) (lv' := [(5, .int x5403), (4, .int x5382), (8, .int 0), (0, .ref a0), (1, .ref a1), (3, .int x3), (6, .int x5328), (7, .int x5329)]) hx hb dX6_value_240 hl5384 (k := 5) rfl (by rw [ex5403]; rfl) (by decide) rfl (fun ls5404 hl5405 => ?_)
                    refine lv_goto (tgt := 13) hx hb dX6_value_243 (by decide) ?_
                    have cn_x5226 := i_cl (x := x5226) (by omega)
                    have cn_x5403 := i_cl (x := x5403) (by omega)
                    have cn_x5225 := i_cl (x := x5225) (by omega)
                    have cn_x5382 := i_cl (x := x5382) (by omega)
                    have cn_x3 := i_cl (x := x3) (by omega)
                    have cn_x5386 := i_cl (x := x5386) (by omega)
                    have cn_x5388 := i_cl (x := x5388) (by omega)
                    have cn_x5382 := i_cl (x := x5382) (by omega)
                    exact ih13  ls5404 H5394 locsH5394 (x5382) (x5403) (lv_sub hl5405 [3, 4, 5, 1, 0] rfl) hTH5394 hSH5394 (by have := i_rng x5382; omega) (by have := i_rng x5403; omega) m5397 m5398 m5399 f5395 f5396 (by omega) (by omega) (rnC_step hsp83 (by omega) (pr_wr (stC_bin (j := x5382.toNatClampNeg) (by rw [hkd83]; omega) (by rw [hkd83]; omega) (by rw [hkd83, hnm83]; omega) (by omega) (by omega) (by omega) (by omega) (by rw [hkd83, show fI _ tq x5386.toNatClampNeg = x5389 from by rw [show x5386.toNatClampNeg = x5388.toNatClampNeg by omega]; exact ex5389.symm, show fI _ tq x5382.toNatClampNeg = x5391 from ex5391.symm]; exact tx5393)) (wr_up1 wH5394)) (by omega))
                · have k5376 := i_nle c5375
                  refine lv_aload_n hx hb dX6_value_184 rfl (lv_at hl5332 1 rfl) ?_
                  refine x_gr C hTH5323 (ci := 6) (k := 1) rfl inX6 (by decide) wF_X6_15 ga0 rg_82 rfl dX6_value_185 (fun q5406 eq5406 gq5406 => ?_)
                  have uq5406 : tq = q5406 := (cy5330_1).trans eq5406.symm
                  subst uq5406
                  refine lv_iload hx hb dX6_value_188 (lv_at hl5332 4 rfl) ?_
                  refine lv_iconst (v := 1) hx hb dX6_value_190 (by decide) ?_
                  refine lv_isub hx hb dX6_value_191 ?_
                  refine lv_topi (fun x5407 ex5407 => ?_)
                  have tx5407 := i_sub ex5407 (by omega)
                  refine lv_dup2_11 hx hb dX6_value_192 rfl rfl ?_
                  refine x_ai C hTH5323 gtq rg_84 ⟨by omega, by show _ < ((40 : Nat) : Int); omega⟩ dX6_value_193 (fun x5408 ex5408 bx5408 => ?_)
                  refine lv_iload hx hb dX6_value_194 (lv_at hl5332 7 rfl) ?_
                  refine lv_idiv hx hb dX6_value_196 (fun h => by have := i_eq h; omega) ?_
                  refine lv_topi (fun x5409 ex5409 => ?_)
                  refine x_iast C hTH5323 hSH5323 gtq rg_84 (by omega) (by show _ < ((40 : Nat) : Int); omega) ⟨by have := i_rng x5409; omega, by have := i_rng x5409; omega⟩ (AE_in gtq (by decide)) dX6_value_197 (fun H5410 locsH5410 hTH5410 hSH5410 wH5410 => ?_)
                  have f5411 : ∀ j : Nat, fI H5410 sq j = fI s.heap sq j := fun j => (Wr.neI wH5410 (Or.inl (G_ne gsq gtq (by decide)))).trans (fy5330_sS j)
                  have f5412 : ∀ j : Nat, fI H5410 uq j = fI s.heap uq j := fun j => (Wr.neI wH5410 (Or.inl (G_ne guq gtq (by decide)))).trans (fy5330_sU j)
                  have m5413 := cy5330_0.trans (Wr.neR wH5410 (Or.inl (G_ne ga0 gtq (by decide)))).symm
                  have m5414 := cy5330_1.trans (Wr.neR wH5410 (Or.inl (G_ne ga0 gtq (by decide)))).symm
                  have m5415 := cy5330_2.trans (Wr.neR wH5410 (Or.inl (G_ne ga1 gtq (by decide)))).symm
                  have m5417 := Wr.I wH5410
                  have m5417 := m5417.symm
                  refine lv_goto (tgt := 240) hx hb dX6_value_198 (by decide) ?_
                  obtain ⟨x5418, ex5418⟩ : ∃ y : Int32, y = x5226 + 1 := ⟨_, rfl⟩
                  have tx5418 := i_add ex5418 (by omega)
                  refine lv_iinc (v := x5418) (lv' := [(5, .int x5418), (8, .int 0), (0, .ref a0), (1, .ref a1), (3, .int x3), (4, .int x5225), (6, .int x5328), (7, .int x5329)]) hx hb dX6_value_240 hl5332 (k := 5) rfl (by rw [ex5418]; rfl) (by decide) rfl (fun ls5419 hl5420 => ?_)
                  refine lv_goto (tgt := 13) hx hb dX6_value_243 (by decide) ?_
                  have cn_x5226 := i_cl (x := x5226) (by omega)
                  have cn_x5418 := i_cl (x := x5418) (by omega)
                  have cn_x5225 := i_cl (x := x5225) (by omega)
                  have cn_x5225 := i_cl (x := x5225) (by omega)
                  have cn_x3 := i_cl (x := x3) (by omega)
                  have cn_x5407 := i_cl (x := x5407) (by omega)
                  have cn_x5407 := i_cl (x := x5407) (by omega)
                  exact ih13  ls5419 H5410 locsH5410 (x5225) (x5418) (lv_sub hl5420 [2, 3, 4, 5, 0] rfl) hTH5410 hSH5410 (by have := i_rng x5225; omega) (by have := i_rng x5418; omega) m5413 m5414 m5415 f5411 f5412 (by omega) (by omega) (rnC_step hsp83 (by omega) (pr_wr (stC_div (by rw [hkd83]; omega) (by omega) (by rw [hnm83]; omega) (by omega) (by omega) (by rw [show fI _ tq x5407.toNatClampNeg = x5408 from by rw [show x5407.toNatClampNeg = x5407.toNatClampNeg by omega]; exact ex5408.symm, hnm83, Int32.ofInt_toInt]; exact ex5409)) (wr_up1 wH5410)) (by omega))
          · have k5336 := i_eq c5335
            refine lv_iload hx hb dX6_value_137 (lv_at hl5332 4 rfl) ?_
            refine lv_iconst (v := 1) hx hb dX6_value_139 (by decide) ?_
            refine lv_icmp_lt (tgt := 166) hx hb dX6_value_140 (by decide) (fun c5421 => ?_) (fun c5421 => ?_)
            · have k5422 := i_lt c5421
              refine lv_iload hx hb dX6_value_166 (lv_at hl5332 6 rfl) ?_
              refine lv_bipush (v := 47) hx hb dX6_value_168 (by decide) ?_
              refine lv_icmp_ne (tgt := 201) hx hb dX6_value_170 (by decide) (fun c5423 => ?_) (fun c5423 => ?_)
              · have k5424 := i_ne c5423
                refine lv_iload hx hb dX6_value_201 (lv_at hl5332 4 rfl) ?_
                refine lv_iconst (v := 2) hx hb dX6_value_203 (by decide) ?_
                refine lv_icmp_lt (tgt := 240) hx hb dX6_value_204 (by decide) (fun c5425 => ?_) (fun c5425 => ?_)
                · have k5426 := i_lt c5425
                  obtain ⟨x5427, ex5427⟩ : ∃ y : Int32, y = x5226 + 1 := ⟨_, rfl⟩
                  have tx5427 := i_add ex5427 (by omega)
                  refine lv_iinc (v := x5427) (lv' := [(5, .int x5427), (8, .int 0), (0, .ref a0), (1, .ref a1), (3, .int x3), (4, .int x5225), (6, .int x5328), (7, .int x5329)]) hx hb dX6_value_240 hl5332 (k := 5) rfl (by rw [ex5427]; rfl) (by decide) rfl (fun ls5428 hl5429 => ?_)
                  refine lv_goto (tgt := 13) hx hb dX6_value_243 (by decide) ?_
                  have cn_x5226 := i_cl (x := x5226) (by omega)
                  have cn_x5427 := i_cl (x := x5427) (by omega)
                  have cn_x5225 := i_cl (x := x5225) (by omega)
                  have cn_x5225 := i_cl (x := x5225) (by omega)
                  have cn_x3 := i_cl (x := x3) (by omega)
                  exact ih13  ls5428 H5323 locsH5323 (x5225) (x5427) (lv_sub hl5429 [2, 3, 4, 5, 0] rfl) hTH5323 hSH5323 (by have := i_rng x5225; omega) (by have := i_rng x5427; omega) cy5330_0 cy5330_1 cy5330_2 fy5330_sS fy5330_sU (by omega) (by omega) (rnC_step hsp83 (by omega) (stC_no (by rw [hkd83]; omega) (by rw [hkd83]; omega) (by rw [hkd83, hnm83]; omega) (by omega) (by omega)) (by omega))
                · have k5426 := i_nlt c5425
                  exfalso
                  omega
              · have k5424 := i_eq c5423
                exfalso
                omega
            · have k5422 := i_nlt c5421
              refine lv_aload_n hx hb dX6_value_143 rfl (lv_at hl5332 1 rfl) ?_
              refine x_gr C hTH5323 (ci := 6) (k := 1) rfl inX6 (by decide) wF_X6_15 ga0 rg_82 rfl dX6_value_144 (fun q5430 eq5430 gq5430 => ?_)
              have uq5430 : tq = q5430 := (cy5330_1).trans eq5430.symm
              subst uq5430
              refine lv_iload hx hb dX6_value_147 (lv_at hl5332 4 rfl) ?_
              refine lv_iconst (v := 1) hx hb dX6_value_149 (by decide) ?_
              refine lv_isub hx hb dX6_value_150 ?_
              refine lv_topi (fun x5431 ex5431 => ?_)
              have tx5431 := i_sub ex5431 (by omega)
              refine lv_iconst (v := 1) hx hb dX6_value_151 (by decide) ?_
              refine lv_aload_n hx hb dX6_value_152 rfl (lv_at hl5332 1 rfl) ?_
              refine x_gr C hTH5323 (ci := 6) (k := 1) rfl inX6 (by decide) wF_X6_15 ga0 rg_82 rfl dX6_value_153 (fun q5432 eq5432 gq5432 => ?_)
              have uq5432 : tq = q5432 := (cy5330_1).trans eq5432.symm
              subst uq5432
              refine lv_iload hx hb dX6_value_156 (lv_at hl5332 4 rfl) ?_
              refine lv_iconst (v := 1) hx hb dX6_value_158 (by decide) ?_
              refine lv_isub hx hb dX6_value_159 ?_
              refine lv_topi (fun x5433 ex5433 => ?_)
              have tx5433 := i_sub ex5433 (by omega)
              refine x_ai C hTH5323 gtq rg_84 ⟨by omega, by show _ < ((40 : Nat) : Int); omega⟩ dX6_value_160 (fun x5434 ex5434 bx5434 => ?_)
              refine lv_isub hx hb dX6_value_161 ?_
              refine lv_topi (fun x5435 ex5435 => ?_)
              refine x_iast C hTH5323 hSH5323 gtq rg_84 (by omega) (by show _ < ((40 : Nat) : Int); omega) ⟨by have := i_rng x5435; omega, by have := i_rng x5435; omega⟩ (AE_in gtq (by decide)) dX6_value_162 (fun H5436 locsH5436 hTH5436 hSH5436 wH5436 => ?_)
              have f5437 : ∀ j : Nat, fI H5436 sq j = fI s.heap sq j := fun j => (Wr.neI wH5436 (Or.inl (G_ne gsq gtq (by decide)))).trans (fy5330_sS j)
              have f5438 : ∀ j : Nat, fI H5436 uq j = fI s.heap uq j := fun j => (Wr.neI wH5436 (Or.inl (G_ne guq gtq (by decide)))).trans (fy5330_sU j)
              have m5439 := cy5330_0.trans (Wr.neR wH5436 (Or.inl (G_ne ga0 gtq (by decide)))).symm
              have m5440 := cy5330_1.trans (Wr.neR wH5436 (Or.inl (G_ne ga0 gtq (by decide)))).symm
              have m5441 := cy5330_2.trans (Wr.neR wH5436 (Or.inl (G_ne ga1 gtq (by decide)))).symm
              have m5443 := Wr.I wH5436
              have m5443 := m5443.symm
              refine lv_goto (tgt := 240) hx hb dX6_value_163 (by decide) ?_
              obtain ⟨x5444, ex5444⟩ : ∃ y : Int32, y = x5226 + 1 := ⟨_, rfl⟩
              have tx5444 := i_add ex5444 (by omega)
              refine lv_iinc (v := x5444) (lv' := [(5, .int x5444), (8, .int 0), (0, .ref a0), (1, .ref a1), (3, .int x3), (4, .int x5225), (6, .int x5328), (7, .int x5329)]) hx hb dX6_value_240 hl5332 (k := 5) rfl (by rw [ex5444]; rfl) (by decide) rfl (fun ls5445 hl5446 => ?_)
              refine lv_goto (tgt := 13) hx hb dX6_value_243 (by decide) ?_
              have cn_x5226 := i_cl (x := x5226) (by omega)
              have cn_x5444 := i_cl (x := x5444) (by omega)
              have cn_x5225 := i_cl (x := x5225) (by omega)
              have cn_x5225 := i_cl (x := x5225) (by omega)
              have cn_x3 := i_cl (x := x3) (by omega)
              have cn_x5431 := i_cl (x := x5431) (by omega)
              have cn_x5433 := i_cl (x := x5433) (by omega)
              exact ih13  ls5445 H5436 locsH5436 (x5225) (x5444) (lv_sub hl5446 [2, 3, 4, 5, 0] rfl) hTH5436 hSH5436 (by have := i_rng x5225; omega) (by have := i_rng x5444; omega) m5439 m5440 m5441 f5437 f5438 (by omega) (by omega) (rnC_step hsp83 (by omega) (pr_wr (stC_not (by rw [hkd83]; omega) (by omega) (by omega) (by omega) (by rw [show fI _ tq x5431.toNatClampNeg = x5434 from by rw [show x5431.toNatClampNeg = x5433.toNatClampNeg by omega]; exact ex5434.symm]; exact ex5435)) (wr_up1 wH5436)) (by omega))
        · have k5334 := i_ne c5333
          exfalso
          omega
      refine lv_iload hx hb dX6_value_13 (lv_at hl5224 4 rfl) ?_
      refine lv_iload_n hx hb dX6_value_15 rfl (lv_at hl5224 2 rfl) ?_
      refine lv_icmp_ge (tgt := 246) hx hb dX6_value_16 (by decide) (fun c5447 => ?_) (fun c5447 => ?_)
      · have k5448 := i_le c5447
        refine lv_aload_n hx hb dX6_value_246 rfl (lv_at hl5224 0 rfl) ?_
        refine x_gr C hTH5222 (ci := 6) (k := 1) rfl inX6 (by decide) wF_X6_15 ga0 rg_82 rfl dX6_value_247 (fun q5449 eq5449 gq5449 => ?_)
        have uq5449 : tq = q5449 := (cy5227_1).trans eq5449.symm
        subst uq5449
        refine lv_iconst (v := 0) hx hb dX6_value_250 (by decide) ?_
        refine x_ai C hTH5222 gtq rg_84 (by decide) dX6_value_251 (fun x5450 ex5450 bx5450 => ?_)
        have cn_x3 := i_cl (x := x3) (by omega)
        have cn_x5226 := i_cl (x := x5226) (by omega)
        exact x_iret C hQ dX6_value_252 hSH5222 (by decide) (by decide) (⟨x5450, rfl, ((show x5450 = fI _ tq 0 from ex5450).trans (by rw [hsp13, show x3.toNatClampNeg - x5226.toNatClampNeg = 0 by omega]; rfl)), hTH5222⟩)
      · have k5448 := i_nle c5447
        refine lv_iload hx hb dX6_value_19 (lv_at hl5224 4 rfl) ?_
        refine lv_sipush (v := 500) hx hb dX6_value_21 (by decide) ?_
        refine lv_icmp_ge (tgt := 246) hx hb dX6_value_24 (by decide) (fun c5451 => ?_) (fun c5451 => ?_)
        · have k5452 := i_le c5451
          exfalso
          omega
        · have k5452 := i_nle c5451
          refine lv_aload_n hx hb dX6_value_27 rfl (lv_at hl5224 1 rfl) ?_
          refine x_gr C hTH5222 (ci := 7) (k := 8) rfl inX7 (by decide) wF_X6_94 ga1 rg_16 rfl dX6_value_28 (fun q5453 eq5453 gq5453 => ?_)
          have uq5453 : sq = q5453 := (cy5227_2).trans eq5453.symm
          subst uq5453
          refine lv_iload hx hb dX6_value_31 (lv_at hl5224 4 rfl) ?_
          refine x_ai C hTH5222 gsq rg_24 ⟨by omega, by show _ < ((500 : Nat) : Int); omega⟩ dX6_value_33 (fun x5454 ex5454 bx5454 => ?_)
          refine lv_ldc (v := 100000) hx hb hown (hts _ wK_X6_97) dX6_value_34 ?_
          refine lv_idiv hx hb dX6_value_36 (fun h => by have := i_eq h; omega) ?_
          refine lv_topi (fun x5455 ex5455 => ?_)
          refine lv_istore (lv' := [(6, .int x5455), (0, .ref a0), (1, .ref a1), (3, .int x3), (4, .int x5225), (5, .int x5226)]) hx hb dX6_value_37 hl5224 (by decide) rfl (fun ls5456 hl5457 => ?_)
          refine lv_aload_n hx hb dX6_value_39 rfl (lv_at hl5457 2 rfl) ?_
          refine x_gr C hTH5222 (ci := 7) (k := 8) rfl inX7 (by decide) wF_X6_94 ga1 rg_16 rfl dX6_value_40 (fun q5458 eq5458 gq5458 => ?_)
          have uq5458 : sq = q5458 := (cy5227_2).trans eq5458.symm
          subst uq5458
          refine lv_iload hx hb dX6_value_43 (lv_at hl5457 5 rfl) ?_
          refine x_ai C hTH5222 gsq rg_24 ⟨by omega, by show _ < ((500 : Nat) : Int); omega⟩ dX6_value_45 (fun x5459 ex5459 bx5459 => ?_)
          have ux5459 : x5454 = x5459 := (ex5454).trans ex5459.symm
          subst ux5459
          refine lv_ldc (v := 100000) hx hb hown (hts _ wK_X6_97) dX6_value_46 ?_
          refine lv_irem hx hb dX6_value_48 (fun h => by have := i_eq h; omega) ?_
          refine lv_topi (fun x5460 ex5460 => ?_)
          refine lv_istore (lv' := [(7, .int x5460), (6, .int x5455), (0, .ref a0), (1, .ref a1), (3, .int x3), (4, .int x5225), (5, .int x5226)]) hx hb dX6_value_49 hl5457 (by decide) rfl (fun ls5461 hl5462 => ?_)
          have cn_x2 := i_cl (x := x2) (by omega)
          have cn_x3 := i_cl (x := x3) (by omega)
          have cn_x5226 := i_cl (x := x5226) (by omega)
          have hn0 := hy0 x5226.toNatClampNeg (by omega) (by omega)
          have hs1 : x5454 = fI s.heap sq x5226.toNatClampNeg := ex5454.trans (fy5227_sS _)
          have hs2 : x5454 = fI s.heap sq x5226.toNatClampNeg := ex5459.trans (fy5227_sS _)
          have hkd : kdC (fI s.heap sq x5226.toNatClampNeg) = x5455.toInt := by rw [← hs1]; exact (kd_div ex5455 (by rw [hs1]; exact hn0)).symm
          have hnm : nmC (fI s.heap sq x5226.toNatClampNeg) = x5460.toInt := by rw [← hs2]; exact (nm_rem ex5460 (by rw [hs2]; exact hn0)).symm
          refine lv_iload hx hb dX6_value_51 (lv_at hl5462 1 rfl) ?_
          refine lv_bipush (v := 24) hx hb dX6_value_53 (by decide) ?_
          refine lv_icmp_eq (tgt := 79) hx hb dX6_value_55 (by decide) (fun c5463 => ?_) (fun c5463 => ?_)
          · have k5464 := i_eq c5463
            exact J79  ls5461 H5222 locsH5222 (x5455) (x5460) (lv_sub hl5462 [2, 3, 4, 5, 6, 1, 0] rfl) hTH5222 hSH5222 (by have := i_rng x3; omega) (by have := i_rng x5226; omega) (by have := i_rng x5455; omega) cy5227_0 cy5227_1 cy5227_2 fy5227_sS fy5227_sU (by omega) hsp13 hkd hnm
          · have k5464 := i_ne c5463
            refine lv_iload hx hb dX6_value_58 (lv_at hl5462 1 rfl) ?_
            refine lv_bipush (v := 6) hx hb dX6_value_60 (by decide) ?_
            refine lv_icmp_eq (tgt := 79) hx hb dX6_value_62 (by decide) (fun c5465 => ?_) (fun c5465 => ?_)
            · have k5466 := i_eq c5465
              exact J79  ls5461 H5222 locsH5222 (x5455) (x5460) (lv_sub hl5462 [2, 3, 4, 5, 6, 1, 0] rfl) hTH5222 hSH5222 (by have := i_rng x3; omega) (by have := i_rng x5226; omega) (by have := i_rng x5455; omega) cy5227_0 cy5227_1 cy5227_2 fy5227_sS fy5227_sU (by omega) hsp13 hkd hnm
            · have k5466 := i_ne c5465
              refine lv_iload hx hb dX6_value_65 (lv_at hl5462 1 rfl) ?_
              refine lv_bipush (v := 11) hx hb dX6_value_67 (by decide) ?_
              refine lv_icmp_lt (tgt := 83) hx hb dX6_value_69 (by decide) (fun c5467 => ?_) (fun c5467 => ?_)
              · have k5468 := i_lt c5467
                exact J83  ls5461 H5222 locsH5222 (x5455) (x5460) (lv_sub hl5462 [2, 3, 4, 5, 6, 1, 0] rfl) hTH5222 hSH5222 (by have := i_rng x3; omega) (by have := i_rng x5226; omega) cy5227_0 cy5227_1 cy5227_2 fy5227_sS fy5227_sU (by omega) hsp13 hkd hnm
              · have k5468 := i_nlt c5467
                refine lv_iload hx hb dX6_value_72 (lv_at hl5462 1 rfl) ?_
                refine lv_bipush (v := 23) hx hb dX6_value_74 (by decide) ?_
                refine lv_icmp_gt (tgt := 83) hx hb dX6_value_76 (by decide) (fun c5469 => ?_) (fun c5469 => ?_)
                · have k5470 := i_lt c5469
                  exact J83  ls5461 H5222 locsH5222 (x5455) (x5460) (lv_sub hl5462 [2, 3, 4, 5, 6, 1, 0] rfl) hTH5222 hSH5222 (by have := i_rng x3; omega) (by have := i_rng x5226; omega) cy5227_0 cy5227_1 cy5227_2 fy5227_sS fy5227_sU (by omega) hsp13 hkd hnm
                · have k5470 := i_nlt c5469
                  exact J79  ls5461 H5222 locsH5222 (x5455) (x5460) (lv_sub hl5462 [2, 3, 4, 5, 6, 1, 0] rfl) hTH5222 hSH5222 (by have := i_rng x3; omega) (by have := i_rng x5226; omega) (by have := i_rng x5455; omega) cy5227_0 cy5227_1 cy5227_2 fy5227_sS fy5227_sU (by omega) hsp13 hkd hnm
  refine lv_iconst (v := 0) hx hb dX6_value_0 (by decide) ?_
  refine lv_istore (lv' := [(4, .int 0), (0, .ref a0), (1, .ref a1), (2, .int x2), (3, .int x3)]) hx hb dX6_value_1 hl (by decide) rfl (fun ls5471 hl5472 => ?_)
  refine lv_aload_n hx hb dX6_value_3 rfl (lv_at hl5472 1 rfl) ?_
  refine x_gr C hT (ci := 6) (k := 1) rfl inX6 (by decide) wF_X6_15 ga0 rg_82 rfl dX6_value_4 (fun q5473 eq5473 gq5473 => ?_)
  have uq5473 : tq = q5473 := (etq).trans eq5473.symm
  subst uq5473
  refine lv_iconst (v := 0) hx hb dX6_value_7 (by decide) ?_
  refine lv_iconst (v := 0) hx hb dX6_value_8 (by decide) ?_
  refine x_iast C hT hS gtq rg_84 (by decide) (by decide) (by decide) (AE_in gtq (by decide)) dX6_value_9 (fun H5474 locsH5474 hTH5474 hSH5474 wH5474 => ?_)
  have f5475 : ∀ j : Nat, fI H5474 sq j = fI s.heap sq j := fun j => (Wr.neI wH5474 (Or.inl (G_ne gsq gtq (by decide)))).trans (f0_sS j)
  have f5476 : ∀ j : Nat, fI H5474 uq j = fI s.heap uq j := fun j => (Wr.neI wH5474 (Or.inl (G_ne guq gtq (by decide)))).trans (f0_sU j)
  have m5477 := euq.trans (Wr.neR wH5474 (Or.inl (G_ne ga0 gtq (by decide)))).symm
  have m5478 := etq.trans (Wr.neR wH5474 (Or.inl (G_ne ga0 gtq (by decide)))).symm
  have m5479 := esq.trans (Wr.neR wH5474 (Or.inl (G_ne ga1 gtq (by decide)))).symm
  have m5480 := Wr.I wH5474
  refine lv_iload_n hx hb dX6_value_10 rfl (lv_at hl5472 3 rfl) ?_
  refine lv_istore (lv' := [(5, .int x2), (4, .int 0), (0, .ref a0), (1, .ref a1), (2, .int x2), (3, .int x3)]) hx hb dX6_value_11 hl5472 (by decide) rfl (fun ls5481 hl5482 => ?_)
  exact J13 ((500 - x2.toInt).toNat + 1)  ls5481 H5474 locsH5474 (0) (x2) (lv_sub hl5482 [2, 3, 5, 1, 0] rfl) hTH5474 hSH5474 (by decide) (by have := i_rng x2; omega) m5477 m5478 m5479 f5475 f5476 (by omega) (by omega) (by show (rnC _ _ _ _ (up1 _ 0 0) 0).1 0 = _; first | (rw [wr_up1 wH5474]; rfl) | exact congrArg (fun z => (rnC _ _ _ _ z _).1 0) (wr_up1 wH5474).symm)
