/-! ===== what a law's word tells, of the reference's arrays ===== -/
def tdG (wd fi : Nat → Int) (hw : Nat → Bool) (fs fw : Nat → Int32) (w t : Int) : Nat → Nat → Int
  | 0, _ => 0
  | f + 1, l => if wd l = w ∧ (w = 3 ∨ fi l = t) ∧ (hw l = false ∨ fw l ≠ 0) then clT w (fs l).toInt else tdG wd fi hw fs fw w t f (l + 1)
def tdB (H : Heap) (wq jq nq tq : Nat) (fs fw : Nat → Int32) (w t : Int) (f l : Nat) : Int := tdG (fun j => (fI H wq j).toInt) (fun j => (fI H jq j).toInt) (fun j => decide ((fI H nq j).toInt ≠ (fI H tq j).toInt)) fs fw w t f l
theorem tdB_y {H : Heap} {wq jq nq tq : Nat} {fs fw : Nat → Int32} {w t : Int} {f l : Nat} (hf : 0 < f) (h1 : (fI H wq l).toInt = w) (h2 : w = 3 ∨ (fI H jq l).toInt = t) (h3 : (fI H tq l).toInt = (fI H nq l).toInt ∨ fw l ≠ 0) : tdB H wq jq nq tq fs fw w t f l = clT w (fs l).toInt := by
  obtain ⟨f, rfl⟩ : ∃ g, f = g + 1 := ⟨f - 1, by omega⟩
  exact if_pos ⟨h1, h2, h3.imp (fun z => decide_eq_false (by omega)) id⟩
theorem tdB_n {H : Heap} {wq jq nq tq : Nat} {fs fw : Nat → Int32} {w t : Int} {f g l m : Nat} (hf : f = g + 1) (hm : m = l + 1) (h : (fI H wq l).toInt ≠ w ∨ (w ≠ 3 ∧ (fI H jq l).toInt ≠ t) ∨ ((fI H tq l).toInt ≠ (fI H nq l).toInt ∧ fw l = 0)) : tdB H wq jq nq tq fs fw w t f l = tdB H wq jq nq tq fs fw w t g m := by
  subst hf; subst hm
  refine if_neg (fun z => ?_)
  rcases h with h | h | ⟨h, h0⟩
  · exact h z.1
  · rcases z.2.1 with a | a
    · exact h.1 a
    · exact h.2 a
  · rcases z.2.2 with a | a
    · have := of_decide_eq_false a; omega
    · exact a h0
theorem tdB_0 {H : Heap} {wq jq nq tq : Nat} {fs fw : Nat → Int32} {w t : Int} {f l : Nat} (hf : f = 0) : tdB H wq jq nq tq fs fw w t f l = 0 := by
  subst hf; rfl
theorem hyR_at {as O A as1 O1 A1 : Nat → Int32} {p q p1 q1 f : Int32} {b : Nat} (e1 : ∀ j, as1 j = as j) (e2 : ∀ j, O1 j = O j) (e3 : ∀ j, A1 j = A j) (ep : p1 = p) (eq : q1 = q) (g : q ≠ p → ∀ k : Nat → Int32, vlR as O A k (b + p.toNatClampNeg) (b + q.toNatClampNeg) = f) : q1 ≠ p1 → ∀ k : Nat → Int32, vlR as1 O1 A1 k (b + p1.toNatClampNeg) (b + q1.toNatClampNeg) = f := by
  obtain rfl : as1 = as := funext e1
  obtain rfl : O1 = O := funext e2
  obtain rfl : A1 = A := funext e3
  subst ep; subst eq
  exact g
set_option maxHeartbeats 4000000 in
set_option maxRecDepth 100000 in
theorem a_X10_isSo_v (l : Launch) (K : KE) (G : Nat → Option Nat) (H : Heap) {a0 : Nat} (x1 : Int32) (x2 : Int32) {mq : Nat} {oq : Nat} {aq : Nat} {sq : Nat} {uq : Nat} {nq : Nat} {tq : Nat} (lm : Int32) (fw : Nat → Int32) (hT : TY K G H) (ga0 : G a0 = some 112) (hx1 : 0 ≤ x1.toInt ∧ x1.toInt ≤ 5) (hx2 : 0 ≤ x2.toInt ∧ x2.toInt ≤ 95) (gmq : G mq = some 128) (emq : mq = fR H a0 (K.1.2 10 24)) (goq : G oq = some 136) (eoq : oq = fR H a0 (K.1.2 10 32)) (gaq : G aq = some 137) (eaq : aq = fR H a0 (K.1.2 10 33)) (gsq : G sq = some 140) (esq : sq = fR H a0 (K.1.2 10 44)) (guq : G uq = some 139) (euq : uq = fR H a0 (K.1.2 10 43)) (gnq : G nq = some 134) (enq : nq = fR H a0 (K.1.2 10 30)) (gtq : G tq = some 135) (etq : tq = fR H a0 (K.1.2 10 31)) (elm : lm = fI H mq (x1 : Int32).toNatClampNeg) (hg_CG : CG (avw K H a0)) (hp0 : 16 * x1.toInt ≤ x2.toInt ∧ x2.toInt < 16 * x1.toInt + lm.toInt) (hy0 : fI H tq x2.toNatClampNeg ≠ fI H nq x2.toNatClampNeg → ∀ k : Nat → Int32, vlR (fun j => fI H uq j) (fun j => fI H oq j) (fun j => fI H aq j) k (500 * x1.toNatClampNeg + (fI H nq x2.toNatClampNeg).toNatClampNeg) (500 * x1.toNatClampNeg + (fI H tq x2.toNatClampNeg).toNatClampNeg) = fw x2.toNatClampNeg) : MX l K yX10_isSo cX10_isSo 3 (some .boolean) 2 48 0 0 [.ref a0, .int x1, .int x2] H (AE G [140] H.size) (fun v H1 => ∃ (r : Int32), v = some (.int r) ∧ (0 ≤ r.toInt ∧ r.toInt ≤ 1) ∧ ((r.toInt = 1 ∧ (fI H tq x2.toNatClampNeg = fI H nq x2.toNatClampNeg ∨ fw x2.toNatClampNeg ≠ 0)) ∨ (r.toInt = 0 ∧ fI H tq x2.toNatClampNeg ≠ fI H nq x2.toNatClampNeg ∧ fw x2.toNatClampNeg = 0)) ∧ TY K G H1) := by
  refine MX.of (by decide +kernel) (Nat.le_of_ble_eq_true rfl) ?_
  intro p e s m below meth c ls Q C hH hl hQ
  subst hH
  have C : CX p K s m _ meth c RX10 cX10_isSo 3 (some .boolean) "isSo" := C
  obtain ⟨hx, hb, hml, hown, hts, hKT, hr, hlocks, hnm⟩ := id C
  have hl : lv_has ls 3 [(0, .ref a0), (1, .int x1), (2, .int x2)] := hl
  have hS : va_S (AE G [140] s.heap.size) s.heap s.heap [] := va_S.rf
  have n_0 : (0 : Int32).toInt = 0 := rfl
  have n_1 : (1 : Int32).toInt = 1 := rfl
  have blm := ty_ai (x := lm) elm hT gmq rg_128 (by omega)
  have hap : ∀ x y, x < 74 → y < 74 → x ≠ y → K.1.2 10 x ≠ K.1.2 10 y := x_apart hKT hts inX10 tyX10 tyX10_ok nmX10 rfl
  have f0_s_oq : ∀ j : Nat, fI s.heap oq j = fI s.heap oq j := fun _ => rfl
  have f0_s_aq : ∀ j : Nat, fI s.heap aq j = fI s.heap aq j := fun _ => rfl
  have f0_s_uq : ∀ j : Nat, fI s.heap uq j = fI s.heap uq j := fun _ => rfl
  have f0_s_nq : ∀ j : Nat, fI s.heap nq j = fI s.heap nq j := fun _ => rfl
  have f0_s_tq : ∀ j : Nat, fI s.heap tq j = fI s.heap tq j := fun _ => rfl
  refine lv_aload_n hx hb dX10_isSo_0 rfl (lv_at hl 0 rfl) ?_
  refine x_gr C hT (ci := 10) (k := 31) rfl inX10 (by decide) wF_X10_80 ga0 rg_112 rfl dX10_isSo_1 (fun q233 eq233 gq233 => ?_)
  have uq233 : tq = q233 := (etq).trans eq233.symm
  subst uq233
  refine lv_iload_n hx hb dX10_isSo_4 rfl (lv_at hl 2 rfl) ?_
  refine x_ai C hT gtq rg_135 ⟨by omega, by show _ < ((112 : Nat) : Int); omega⟩ dX10_isSo_5 (fun x234 ex234 bx234 => ?_)
  refine lv_aload_n hx hb dX10_isSo_6 rfl (lv_at hl 0 rfl) ?_
  refine x_gr C hT (ci := 10) (k := 30) rfl inX10 (by decide) wF_X10_77 ga0 rg_112 rfl dX10_isSo_7 (fun q235 eq235 gq235 => ?_)
  have uq235 : nq = q235 := (enq).trans eq235.symm
  subst uq235
  refine lv_iload_n hx hb dX10_isSo_10 rfl (lv_at hl 2 rfl) ?_
  refine x_ai C hT gnq rg_134 ⟨by omega, by show _ < ((112 : Nat) : Int); omega⟩ dX10_isSo_11 (fun x236 ex236 bx236 => ?_)
  refine lv_icmp_eq (tgt := 35) hx hb dX10_isSo_12 (by decide) (fun c237 => ?_) (fun c237 => ?_)
  · have k238 := i_eq c237
    refine lv_iconst (v := 1) hx hb dX10_isSo_35 (by decide) ?_
    refine lv_goto (tgt := 40) hx hb dX10_isSo_36 (by decide) ?_
    have qr239 : fI s.heap nq x2.toNatClampNeg = x236 := ((f0_s_nq _).symm.trans ex236.symm)
    have qr240 : fI s.heap tq x2.toNatClampNeg = x234 := ((f0_s_tq _).symm.trans ex234.symm)
    exact x_zret C hQ (Or.inr rfl) dX10_isSo_40 hS (by decide) (by decide) (⟨1, rfl, by decide, (Or.inl ⟨by rfl, Or.inl (by rw [qr240, qr239]; exact Int32.toInt_inj.mp (by omega))⟩), hT⟩)
  · have k238 := i_ne c237
    refine lv_aload_n hx hb dX10_isSo_15 rfl (lv_at hl 0 rfl) ?_
    refine lv_iload_n hx hb dX10_isSo_16 rfl (lv_at hl 1 rfl) ?_
    refine lv_aload_n hx hb dX10_isSo_17 rfl (lv_at hl 0 rfl) ?_
    refine x_gr C hT (ci := 10) (k := 30) rfl inX10 (by decide) wF_X10_77 ga0 rg_112 rfl dX10_isSo_18 (fun q241 eq241 gq241 => ?_)
    have uq241 : nq = q241 := (enq).trans eq241.symm
    subst uq241
    refine lv_iload_n hx hb dX10_isSo_21 rfl (lv_at hl 2 rfl) ?_
    refine x_ai C hT gnq rg_134 ⟨by omega, by show _ < ((112 : Nat) : Int); omega⟩ dX10_isSo_22 (fun x242 ex242 bx242 => ?_)
    have ux242 : x236 = x242 := (ex236).trans ex242.symm
    subst ux242
    refine lv_aload_n hx hb dX10_isSo_23 rfl (lv_at hl 0 rfl) ?_
    refine x_gr C hT (ci := 10) (k := 31) rfl inX10 (by decide) wF_X10_80 ga0 rg_112 rfl dX10_isSo_24 (fun q243 eq243 gq243 => ?_)
    have uq243 : tq = q243 := (etq).trans eq243.symm
    subst uq243
    refine lv_iload_n hx hb dX10_isSo_27 rfl (lv_at hl 2 rfl) ?_
    refine x_ai C hT gtq rg_135 ⟨by omega, by show _ < ((112 : Nat) : Int); omega⟩ dX10_isSo_28 (fun x244 ex244 bx244 => ?_)
    have ux244 : x234 = x244 := (ex234).trans ex244.symm
    subst ux244
    obtain ⟨q245, eq245⟩ : ∃ z : Nat, z = fR s.heap a0 (K.1.2 10 29) := ⟨_, rfl⟩
    have gq245 := ty_fr (q := q245) (k := 29) (u := 133) eq245 hT ga0 rg_112 rfl
    refine x_V (As := [.int x1, .int x236, .int x234]) (rest := []) C (a_X10_worth_v l K G s.heap (x1) (x236) (x234) hT ga0 (by omega) (by omega) (by omega) goq eoq gaq eaq gsq esq guq euq (cg_when hg_CG eoq eaq emq enq etq ex236 ex234 elm (by omega) (by omega))) yo_X10_worth wM_X10_302 ⟨⟨by decide, by decide⟩, by decide, by decide⟩ (x_rv C hT (ci := 10) rfl ga0 rg_112) rfl hl.1 rfl (Nat.le_of_ble_eq_true rfl) dX10_isSo_29 hS (AE_sub (fun _ _ => rfl) (by decide) hS.1) (fun vH246 H246 locsH246 pH246 zH246 kH246 hSH246 => ?_)
    obtain ⟨x247, hvH246, m248, hTH246⟩ := pH246
    subst hvH246
    have g249 : CG (avw K H246 a0) := CG.congr (fun k hk j => av_eff hT kH246 ga0 (by decide) (CG_eff [140] (by decide) k hk)) hg_CG
    have f250 : ∀ j : Nat, fI H246 oq j = fI s.heap oq j := fun j => (fI_kept (x_lt hT kH246 goq (by decide))).trans (f0_s_oq j)
    have f251 : ∀ j : Nat, fI H246 aq j = fI s.heap aq j := fun j => (fI_kept (x_lt hT kH246 gaq (by decide))).trans (f0_s_aq j)
    have f252 : ∀ j : Nat, fI H246 uq j = fI s.heap uq j := fun j => (fI_kept (x_lt hT kH246 guq (by decide))).trans (f0_s_uq j)
    have f253 : ∀ j : Nat, fI H246 nq j = fI s.heap nq j := fun j => (fI_kept (x_lt hT kH246 gnq (by decide))).trans (f0_s_nq j)
    have f254 : ∀ j : Nat, fI H246 tq j = fI s.heap tq j := fun j => (fI_kept (x_lt hT kH246 gtq (by decide))).trans (f0_s_tq j)
    have m255 := (emq).trans (fR_kept (x_lt hT kH246 ga0 (by decide))).symm
    have m256 := (eoq).trans (fR_kept (x_lt hT kH246 ga0 (by decide))).symm
    have m257 := (eaq).trans (fR_kept (x_lt hT kH246 ga0 (by decide))).symm
    have m258 := (esq).trans (fR_kept (x_lt hT kH246 ga0 (by decide))).symm
    have m259 := (euq).trans (fR_kept (x_lt hT kH246 ga0 (by decide))).symm
    have m260 := (enq).trans (fR_kept (x_lt hT kH246 ga0 (by decide))).symm
    have m261 := (etq).trans (fR_kept (x_lt hT kH246 ga0 (by decide))).symm
    have m262 := (elm).trans (fI_kept (x_lt hT kH246 gmq (by decide))).symm
    have m263 := (ex234).trans (fI_kept (x_lt hT kH246 gtq (by decide))).symm
    have m264 := (ex236).trans (fI_kept (x_lt hT kH246 gnq (by decide))).symm
    have m265 := (eq245).trans (fR_kept (x_lt hT kH246 ga0 (by decide))).symm
    have qr266 : fI s.heap nq x2.toNatClampNeg = x236 := ((f0_s_nq _).symm.trans ex242.symm)
    have qr267 : fI s.heap tq x2.toNatClampNeg = x234 := ((f0_s_tq _).symm.trans ex244.symm)
    have cn_x2 := i_cl (x := x2) (by omega)
    have hne_ : fI s.heap tq x2.toNatClampNeg ≠ fI s.heap nq x2.toNatClampNeg := by rw [qr267, qr266]; intro z; have z := congrArg Int32.toInt z; omega
    have hv268 : x247 = fw x2.toNatClampNeg := vlR_at m248 f0_s_uq f0_s_oq f0_s_aq (by rw [qr266]) (by rw [qr267]) (hy0 hne_)
    refine W.eq (g2 := F0 m 32 ls [.int x247]) rfl ?_
    refine lv_if_eq (tgt := 39) hx hb dX10_isSo_32 (by decide) (fun c269 => ?_) (fun c269 => ?_)
    · have k270 := i_eq c269
      refine lv_iconst (v := 0) hx hb dX10_isSo_39 (by decide) ?_
      exact x_zret C hQ (Or.inl rfl) dX10_isSo_40 hSH246 (by decide) (by decide) (⟨0, rfl, by decide, (Or.inr ⟨by rfl, hne_, by rw [← hv268]; exact Int32.toInt_inj.mp (by omega)⟩), hTH246⟩)
    · have k270 := i_ne c269
      refine lv_iconst (v := 1) hx hb dX10_isSo_35 (by decide) ?_
      refine lv_goto (tgt := 40) hx hb dX10_isSo_36 (by decide) ?_
      exact x_zret C hQ (Or.inr rfl) dX10_isSo_40 hSH246 (by decide) (by decide) (⟨1, rfl, by decide, (Or.inl ⟨by rfl, Or.inr (by rw [← hv268]; intro z; have z := i_eq z; omega)⟩), hTH246⟩)

set_option maxHeartbeats 4000000 in
set_option maxRecDepth 100000 in
theorem a_X10_tellsBy_v (l : Launch) (K : KE) (G : Nat → Option Nat) (H : Heap) {a0 : Nat} (x1 : Int32) (x2 : Int32) (x3 : Int32) {mq : Nat} {oq : Nat} {aq : Nat} {sq : Nat} {uq : Nat} {nq : Nat} {tq : Nat} {fq : Nat} {wq : Nat} {jq : Nat} (lm : Int32) (fs : Nat → Int32) (fw : Nat → Int32) (hT : TY K G H) (ga0 : G a0 = some 112) (hx1 : 0 ≤ x1.toInt ∧ x1.toInt ≤ 1) (gmq : G mq = some 128) (emq : mq = fR H a0 (K.1.2 10 24)) (goq : G oq = some 136) (eoq : oq = fR H a0 (K.1.2 10 32)) (gaq : G aq = some 137) (eaq : aq = fR H a0 (K.1.2 10 33)) (gsq : G sq = some 140) (esq : sq = fR H a0 (K.1.2 10 44)) (guq : G uq = some 139) (euq : uq = fR H a0 (K.1.2 10 43)) (gnq : G nq = some 134) (enq : nq = fR H a0 (K.1.2 10 30)) (gtq : G tq = some 135) (etq : tq = fR H a0 (K.1.2 10 31)) (gfq : G fq = some 133) (efq : fq = fR H a0 (K.1.2 10 29)) (gwq : G wq = some 129) (ewq : wq = fR H a0 (K.1.2 10 25)) (gjq : G jq = some 130) (ejq : jq = fR H a0 (K.1.2 10 26)) (elm : lm = fI H mq (x1 : Int32).toNatClampNeg) (hg_CG : CG (avw K H a0)) (hy0 : ∀ l : Nat, 16 * x1.toNatClampNeg ≤ l → l < 16 * x1.toNatClampNeg + lm.toNatClampNeg → ∀ k : Nat → Int32, vlR (fun j => fI H uq j) (fun j => fI H oq j) (fun j => fI H aq j) k (500 * x1.toNatClampNeg + (fI H fq l).toNatClampNeg) (500 * x1.toNatClampNeg + (fI H nq l).toNatClampNeg) = fs l) (hy1 : ∀ l : Nat, 16 * x1.toNatClampNeg ≤ l → l < 16 * x1.toNatClampNeg + lm.toNatClampNeg → fI H tq l ≠ fI H nq l → ∀ k : Nat → Int32, vlR (fun j => fI H uq j) (fun j => fI H oq j) (fun j => fI H aq j) k (500 * x1.toNatClampNeg + (fI H nq l).toNatClampNeg) (500 * x1.toNatClampNeg + (fI H tq l).toNatClampNeg) = fw l) : MX l K yX10_tellsBy cX10_tellsBy 8 (some .int) 3 70 0 0 [.ref a0, .int x1, .int x2, .int x3] H (AE G [140] H.size) (fun v H1 => ∃ (r : Int32), v = some (.int r) ∧ (r.toInt = tdB H wq jq nq tq fs fw x2.toInt x3.toInt (lm.toNatClampNeg) (16 * x1.toNatClampNeg)) ∧ TY K G H1) := by
  refine MX.of (by decide +kernel) (Nat.le_of_ble_eq_true rfl) ?_
  intro p e s m below meth c ls Q C hH hl hQ
  subst hH
  have C : CX p K s m _ meth c RX10 cX10_tellsBy 8 (some .int) "tellsBy" := C
  obtain ⟨hx, hb, hml, hown, hts, hKT, hr, hlocks, hnm⟩ := id C
  have hl : lv_has ls 8 [(0, .ref a0), (1, .int x1), (2, .int x2), (3, .int x3)] := hl
  have hS : va_S (AE G [140] s.heap.size) s.heap s.heap [] := va_S.rf
  have n_m9999 : ((-9999) : Int32).toInt = -9999 := rfl
  have n_0 : (0 : Int32).toInt = 0 := rfl
  have n_1 : (1 : Int32).toInt = 1 := rfl
  have n_2 : (2 : Int32).toInt = 2 := rfl
  have n_3 : (3 : Int32).toInt = 3 := rfl
  have n_16 : (16 : Int32).toInt = 16 := rfl
  have n_9999 : (9999 : Int32).toInt = 9999 := rfl
  have n_99999 : (99999 : Int32).toInt = 99999 := rfl
  have blm := ty_ai (x := lm) elm hT gmq rg_128 (by omega)
  have hap : ∀ x y, x < 74 → y < 74 → x ≠ y → K.1.2 10 x ≠ K.1.2 10 y := x_apart hKT hts inX10 tyX10 tyX10_ok nmX10 rfl
  have f0_s_oq : ∀ j : Nat, fI s.heap oq j = fI s.heap oq j := fun _ => rfl
  have f0_s_aq : ∀ j : Nat, fI s.heap aq j = fI s.heap aq j := fun _ => rfl
  have f0_s_uq : ∀ j : Nat, fI s.heap uq j = fI s.heap uq j := fun _ => rfl
  have f0_s_nq : ∀ j : Nat, fI s.heap nq j = fI s.heap nq j := fun _ => rfl
  have f0_s_tq : ∀ j : Nat, fI s.heap tq j = fI s.heap tq j := fun _ => rfl
  have f0_s_fq : ∀ j : Nat, fI s.heap fq j = fI s.heap fq j := fun _ => rfl
  have f0_s_wq : ∀ j : Nat, fI s.heap wq j = fI s.heap wq j := fun _ => rfl
  have f0_s_jq : ∀ j : Nat, fI s.heap jq j = fI s.heap jq j := fun _ => rfl
  have J12 : ∀ (nf : Nat)  (ls2158 : Array Slot) (H2157 : Heap) (locsH2157 : List Loc) (x2160 : Int32) (x2161 : Int32) (x2162 : Int32), lv_has ls2158 8 [(0, .ref a0), (1, .int x1), (2, .int x2), (3, .int x3), (4, .int x2160), (5, .int x2161), (6, .int x2162)] → TY K G H2157 → va_S (AE G [140] s.heap.size) s.heap H2157 locsH2157 → (0 ≤ x2161.toInt ∧ x2161.toInt ≤ 1) → (0 ≤ x2162.toInt ∧ x2162.toInt ≤ 32) → (mq = fR H2157 a0 (K.1.2 10 24)) → (oq = fR H2157 a0 (K.1.2 10 32)) → (aq = fR H2157 a0 (K.1.2 10 33)) → (sq = fR H2157 a0 (K.1.2 10 44)) → (uq = fR H2157 a0 (K.1.2 10 43)) → (nq = fR H2157 a0 (K.1.2 10 30)) → (tq = fR H2157 a0 (K.1.2 10 31)) → (fq = fR H2157 a0 (K.1.2 10 29)) → (wq = fR H2157 a0 (K.1.2 10 25)) → (jq = fR H2157 a0 (K.1.2 10 26)) → (lm = fI H2157 mq (x1 : Int32).toNatClampNeg) → (CG (avw K H2157 a0)) → (∀ j : Nat, fI H2157 oq j = fI s.heap oq j) → (∀ j : Nat, fI H2157 aq j = fI s.heap aq j) → (∀ j : Nat, fI H2157 uq j = fI s.heap uq j) → (∀ j : Nat, fI H2157 nq j = fI s.heap nq j) → (∀ j : Nat, fI H2157 tq j = fI s.heap tq j) → (∀ j : Nat, fI H2157 fq j = fI s.heap fq j) → (∀ j : Nat, fI H2157 wq j = fI s.heap wq j) → (∀ j : Nat, fI H2157 jq j = fI s.heap jq j) → (32 - x2162.toInt < (nf : Int)) → (16 * x1.toInt ≤ x2162.toInt) → (HD ((x2161.toInt = 0 ∧ x2160.toInt = 0 ∧ tdB s.heap wq jq nq tq fs fw x2.toInt x3.toInt (lm.toNatClampNeg) (16 * x1.toNatClampNeg) = tdB s.heap wq jq nq tq fs fw x2.toInt x3.toInt (16 * x1.toNatClampNeg + lm.toNatClampNeg - x2162.toNatClampNeg) (x2162.toNatClampNeg)) ∨ (x2161.toInt = 1 ∧ tdB s.heap wq jq nq tq fs fw x2.toInt x3.toInt (lm.toNatClampNeg) (16 * x1.toNatClampNeg) = clT x2.toInt x2160.toInt))) → W p l e ({ frames := 3, cells := 0, slots := 0, locals := 70 } : Room) s m (([.ref a0, .int x1, .int x2, .int x3] : List Value).toArray) below meth c H2157 locsH2157 0 0 Q (F0 m 12 ls2158 []) := by
    intro nf
    induction nf with
    | zero =>
      intro  ls2158 H2157 locsH2157 x2160 x2161 x2162 hl2159 hTH2157 hSH2157 bx2161 bx2162 cy2163_0 cy2163_1 cy2163_2 cy2163_3 cy2163_4 cy2163_5 cy2163_6 cy2163_7 cy2163_8 cy2163_9 cy2163_10 gy2163_CG fy2163_s_oq fy2163_s_aq fy2163_s_uq fy2163_s_nq fy2163_s_tq fy2163_s_fq fy2163_s_wq fy2163_s_jq hm12 iv12 hsp12
      have rx2160 := i_rng x2160
      exfalso
      omega
    | succ nf ih12 =>
      intro  ls2158 H2157 locsH2157 x2160 x2161 x2162 hl2159 hTH2157 hSH2157 bx2161 bx2162 cy2163_0 cy2163_1 cy2163_2 cy2163_3 cy2163_4 cy2163_5 cy2163_6 cy2163_7 cy2163_8 cy2163_9 cy2163_10 gy2163_CG fy2163_s_oq fy2163_s_aq fy2163_s_uq fy2163_s_nq fy2163_s_tq fy2163_s_fq fy2163_s_wq fy2163_s_jq hm12 iv12 hsp12
      have rx2160 := i_rng x2160
      refine lv_iload hx hb dX10_tellsBy_12 (lv_at hl2159 6 rfl) ?_
      refine lv_bipush (v := 16) hx hb dX10_tellsBy_14 (by decide) ?_
      refine lv_iload_n hx hb dX10_tellsBy_16 rfl (lv_at hl2159 1 rfl) ?_
      refine lv_imul hx hb dX10_tellsBy_17 ?_
      refine lv_topi (fun x2164 ex2164 => ?_)
      have tx2164 := i_mul ex2164 (by rw [n_16]; omega)
      rw [n_16] at tx2164
      refine lv_aload_n hx hb dX10_tellsBy_18 rfl (lv_at hl2159 0 rfl) ?_
      refine x_gr C hTH2157 (ci := 10) (k := 24) rfl inX10 (by decide) wF_X10_59 ga0 rg_112 rfl dX10_tellsBy_19 (fun q2165 eq2165 gq2165 => ?_)
      have uq2165 : mq = q2165 := (cy2163_0).trans eq2165.symm
      subst uq2165
      refine lv_iload_n hx hb dX10_tellsBy_22 rfl (lv_at hl2159 1 rfl) ?_
      refine x_ai C hTH2157 gmq rg_128 ⟨by omega, by show _ < ((7 : Nat) : Int); omega⟩ dX10_tellsBy_23 (fun x2166 ex2166 bx2166 => ?_)
      have ux2166 : lm = x2166 := (cy2163_10).trans ex2166.symm
      subst ux2166
      refine lv_iadd hx hb dX10_tellsBy_24 ?_
      refine lv_topi (fun x2167 ex2167 => ?_)
      have tx2167 := i_add ex2167 (by omega)
      refine lv_icmp_ge (tgt := 103) hx hb dX10_tellsBy_25 (by decide) (fun c2168 => ?_) (fun c2168 => ?_)
      · have k2169 := i_le c2168
        refine lv_iload_n hx hb dX10_tellsBy_103 rfl (lv_at hl2159 2 rfl) ?_
        refine lv_iconst (v := 2) hx hb dX10_tellsBy_104 (by decide) ?_
        refine lv_icmp_ge (tgt := 112) hx hb dX10_tellsBy_105 (by decide) (fun c2170 => ?_) (fun c2170 => ?_)
        · have k2171 := i_le c2170
          refine lv_sipush (v := (-9999)) hx hb dX10_tellsBy_112 (by decide) ?_
          refine lv_istore (lv' := [(6, .int (-9999)), (0, .ref a0), (1, .int x1), (2, .int x2), (3, .int x3), (4, .int x2160), (5, .int x2161)]) hx hb dX10_tellsBy_115 hl2159 (by decide) rfl (fun ls2172 hl2173 => ?_)
          refine lv_iload_n hx hb dX10_tellsBy_117 rfl (lv_at hl2173 3 rfl) ?_
          refine lv_iconst (v := 2) hx hb dX10_tellsBy_118 (by decide) ?_
          refine lv_icmp_ge (tgt := 128) hx hb dX10_tellsBy_119 (by decide) (fun c2174 => ?_) (fun c2174 => ?_)
          · have k2175 := i_le c2174
            refine lv_sipush (v := 9999) hx hb dX10_tellsBy_128 (by decide) ?_
            refine lv_istore (lv' := [(7, .int 9999), (6, .int (-9999)), (0, .ref a0), (1, .int x1), (2, .int x2), (3, .int x3), (4, .int x2160), (5, .int x2161)]) hx hb dX10_tellsBy_131 hl2173 (by decide) rfl (fun ls2176 hl2177 => ?_)
            refine lv_iload hx hb dX10_tellsBy_133 (lv_at hl2177 6 rfl) ?_
            refine lv_iload hx hb dX10_tellsBy_135 (lv_at hl2177 1 rfl) ?_
            refine lv_icmp_ge (tgt := 145) hx hb dX10_tellsBy_137 (by decide) (fun c2178 => ?_) (fun c2178 => ?_)
            · have k2179 := i_le c2178
              refine lv_iload hx hb dX10_tellsBy_145 (lv_at hl2177 6 rfl) ?_
              refine lv_iload hx hb dX10_tellsBy_147 (lv_at hl2177 0 rfl) ?_
              refine lv_icmp_le (tgt := 157) hx hb dX10_tellsBy_149 (by decide) (fun c2180 => ?_) (fun c2180 => ?_)
              · have k2181 := i_le c2180
                refine lv_iload hx hb dX10_tellsBy_157 (lv_at hl2177 6 rfl) ?_
                have cn_x1 := i_cl (x := x1) (by omega)
                have cn_lm := i_cl (x := lm) (by omega)
                have cn_x2162 := i_cl (x := x2162) (by omega)
                exact x_iret C hQ dX10_tellsBy_159 hSH2157 (by decide) (by decide) (⟨x2160, rfl, (by rcases HD.out hsp12 with ⟨i0, v0, e⟩ | ⟨i1, e⟩ <;> first | (exfalso; omega) | (rw [e, tdB_0 (by omega)]; omega) | (rw [e]; unfold clT; (first | rw [if_pos (by omega)] | rw [if_neg (by omega)]); (repeat' split) <;> omega)), hTH2157⟩)
              · have k2181 := i_nle c2180
                refine lv_iload hx hb dX10_tellsBy_152 (lv_at hl2177 0 rfl) ?_
                refine lv_goto (tgt := 159) hx hb dX10_tellsBy_154 (by decide) ?_
                have cn_x1 := i_cl (x := x1) (by omega)
                have cn_lm := i_cl (x := lm) (by omega)
                have cn_x2162 := i_cl (x := x2162) (by omega)
                exact x_iret C hQ dX10_tellsBy_159 hSH2157 (by decide) (by decide) (⟨9999, rfl, (by rcases HD.out hsp12 with ⟨i0, v0, e⟩ | ⟨i1, e⟩ <;> first | (exfalso; omega) | (rw [e, tdB_0 (by omega)]; omega) | (rw [e]; unfold clT; (first | rw [if_pos (by omega)] | rw [if_neg (by omega)]); (repeat' split) <;> omega)), hTH2157⟩)
            · have k2179 := i_nle c2178
              refine lv_iload hx hb dX10_tellsBy_140 (lv_at hl2177 1 rfl) ?_
              refine lv_goto (tgt := 159) hx hb dX10_tellsBy_142 (by decide) ?_
              have cn_x1 := i_cl (x := x1) (by omega)
              have cn_lm := i_cl (x := lm) (by omega)
              have cn_x2162 := i_cl (x := x2162) (by omega)
              exact x_iret C hQ dX10_tellsBy_159 hSH2157 (by decide) (by decide) (⟨(-9999), rfl, (by rcases HD.out hsp12 with ⟨i0, v0, e⟩ | ⟨i1, e⟩ <;> first | (exfalso; omega) | (rw [e, tdB_0 (by omega)]; omega) | (rw [e]; unfold clT; (first | rw [if_pos (by omega)] | rw [if_neg (by omega)]); (repeat' split) <;> omega)), hTH2157⟩)
          · have k2175 := i_nle c2174
            exfalso
            omega
        · have k2171 := i_nle c2170
          refine lv_iconst (v := 0) hx hb dX10_tellsBy_108 (by decide) ?_
          refine lv_goto (tgt := 115) hx hb dX10_tellsBy_109 (by decide) ?_
          refine lv_istore (lv' := [(6, .int 0), (0, .ref a0), (1, .int x1), (2, .int x2), (3, .int x3), (4, .int x2160), (5, .int x2161)]) hx hb dX10_tellsBy_115 hl2159 (by decide) rfl (fun ls2182 hl2183 => ?_)
          refine lv_iload_n hx hb dX10_tellsBy_117 rfl (lv_at hl2183 3 rfl) ?_
          refine lv_iconst (v := 2) hx hb dX10_tellsBy_118 (by decide) ?_
          refine lv_icmp_ge (tgt := 128) hx hb dX10_tellsBy_119 (by decide) (fun c2184 => ?_) (fun c2184 => ?_)
          · have k2185 := i_le c2184
            exfalso
            omega
          · have k2185 := i_nle c2184
            refine lv_ldcw (v := 99999) hx hb hown (hts _ wK_X10_308) dX10_tellsBy_122 ?_
            refine lv_goto (tgt := 131) hx hb dX10_tellsBy_125 (by decide) ?_
            refine lv_istore (lv' := [(7, .int 99999), (6, .int 0), (0, .ref a0), (1, .int x1), (2, .int x2), (3, .int x3), (4, .int x2160), (5, .int x2161)]) hx hb dX10_tellsBy_131 hl2183 (by decide) rfl (fun ls2186 hl2187 => ?_)
            refine lv_iload hx hb dX10_tellsBy_133 (lv_at hl2187 6 rfl) ?_
            refine lv_iload hx hb dX10_tellsBy_135 (lv_at hl2187 1 rfl) ?_
            refine lv_icmp_ge (tgt := 145) hx hb dX10_tellsBy_137 (by decide) (fun c2188 => ?_) (fun c2188 => ?_)
            · have k2189 := i_le c2188
              refine lv_iload hx hb dX10_tellsBy_145 (lv_at hl2187 6 rfl) ?_
              refine lv_iload hx hb dX10_tellsBy_147 (lv_at hl2187 0 rfl) ?_
              refine lv_icmp_le (tgt := 157) hx hb dX10_tellsBy_149 (by decide) (fun c2190 => ?_) (fun c2190 => ?_)
              · have k2191 := i_le c2190
                refine lv_iload hx hb dX10_tellsBy_157 (lv_at hl2187 6 rfl) ?_
                have cn_x1 := i_cl (x := x1) (by omega)
                have cn_lm := i_cl (x := lm) (by omega)
                have cn_x2162 := i_cl (x := x2162) (by omega)
                exact x_iret C hQ dX10_tellsBy_159 hSH2157 (by decide) (by decide) (⟨x2160, rfl, (by rcases HD.out hsp12 with ⟨i0, v0, e⟩ | ⟨i1, e⟩ <;> first | (exfalso; omega) | (rw [e, tdB_0 (by omega)]; omega) | (rw [e]; unfold clT; (first | rw [if_pos (by omega)] | rw [if_neg (by omega)]); (repeat' split) <;> omega)), hTH2157⟩)
              · have k2191 := i_nle c2190
                refine lv_iload hx hb dX10_tellsBy_152 (lv_at hl2187 0 rfl) ?_
                refine lv_goto (tgt := 159) hx hb dX10_tellsBy_154 (by decide) ?_
                have cn_x1 := i_cl (x := x1) (by omega)
                have cn_lm := i_cl (x := lm) (by omega)
                have cn_x2162 := i_cl (x := x2162) (by omega)
                exact x_iret C hQ dX10_tellsBy_159 hSH2157 (by decide) (by decide) (⟨99999, rfl, (by rcases HD.out hsp12 with ⟨i0, v0, e⟩ | ⟨i1, e⟩ <;> first | (exfalso; omega) | (rw [e, tdB_0 (by omega)]; omega) | (rw [e]; unfold clT; (first | rw [if_pos (by omega)] | rw [if_neg (by omega)]); (repeat' split) <;> omega)), hTH2157⟩)
            · have k2189 := i_nle c2188
              refine lv_iload hx hb dX10_tellsBy_140 (lv_at hl2187 1 rfl) ?_
              refine lv_goto (tgt := 159) hx hb dX10_tellsBy_142 (by decide) ?_
              have cn_x1 := i_cl (x := x1) (by omega)
              have cn_lm := i_cl (x := lm) (by omega)
              have cn_x2162 := i_cl (x := x2162) (by omega)
              exact x_iret C hQ dX10_tellsBy_159 hSH2157 (by decide) (by decide) (⟨0, rfl, (by rcases HD.out hsp12 with ⟨i0, v0, e⟩ | ⟨i1, e⟩ <;> first | (exfalso; omega) | (rw [e, tdB_0 (by omega)]; omega) | (rw [e]; unfold clT; (first | rw [if_pos (by omega)] | rw [if_neg (by omega)]); (repeat' split) <;> omega)), hTH2157⟩)
      · have k2169 := i_nle c2168
        refine lv_iload hx hb dX10_tellsBy_28 (lv_at hl2159 5 rfl) ?_
        refine lv_if_ne (tgt := 103) hx hb dX10_tellsBy_30 (by decide) (fun c2192 => ?_) (fun c2192 => ?_)
        · have k2193 := i_ne c2192
          refine lv_iload_n hx hb dX10_tellsBy_103 rfl (lv_at hl2159 2 rfl) ?_
          refine lv_iconst (v := 2) hx hb dX10_tellsBy_104 (by decide) ?_
          refine lv_icmp_ge (tgt := 112) hx hb dX10_tellsBy_105 (by decide) (fun c2194 => ?_) (fun c2194 => ?_)
          · have k2195 := i_le c2194
            refine lv_sipush (v := (-9999)) hx hb dX10_tellsBy_112 (by decide) ?_
            refine lv_istore (lv' := [(6, .int (-9999)), (0, .ref a0), (1, .int x1), (2, .int x2), (3, .int x3), (4, .int x2160), (5, .int x2161)]) hx hb dX10_tellsBy_115 hl2159 (by decide) rfl (fun ls2196 hl2197 => ?_)
            refine lv_iload_n hx hb dX10_tellsBy_117 rfl (lv_at hl2197 3 rfl) ?_
            refine lv_iconst (v := 2) hx hb dX10_tellsBy_118 (by decide) ?_
            refine lv_icmp_ge (tgt := 128) hx hb dX10_tellsBy_119 (by decide) (fun c2198 => ?_) (fun c2198 => ?_)
            · have k2199 := i_le c2198
              refine lv_sipush (v := 9999) hx hb dX10_tellsBy_128 (by decide) ?_
              refine lv_istore (lv' := [(7, .int 9999), (6, .int (-9999)), (0, .ref a0), (1, .int x1), (2, .int x2), (3, .int x3), (4, .int x2160), (5, .int x2161)]) hx hb dX10_tellsBy_131 hl2197 (by decide) rfl (fun ls2200 hl2201 => ?_)
              refine lv_iload hx hb dX10_tellsBy_133 (lv_at hl2201 6 rfl) ?_
              refine lv_iload hx hb dX10_tellsBy_135 (lv_at hl2201 1 rfl) ?_
              refine lv_icmp_ge (tgt := 145) hx hb dX10_tellsBy_137 (by decide) (fun c2202 => ?_) (fun c2202 => ?_)
              · have k2203 := i_le c2202
                refine lv_iload hx hb dX10_tellsBy_145 (lv_at hl2201 6 rfl) ?_
                refine lv_iload hx hb dX10_tellsBy_147 (lv_at hl2201 0 rfl) ?_
                refine lv_icmp_le (tgt := 157) hx hb dX10_tellsBy_149 (by decide) (fun c2204 => ?_) (fun c2204 => ?_)
                · have k2205 := i_le c2204
                  refine lv_iload hx hb dX10_tellsBy_157 (lv_at hl2201 6 rfl) ?_
                  have cn_x1 := i_cl (x := x1) (by omega)
                  have cn_lm := i_cl (x := lm) (by omega)
                  have cn_x2162 := i_cl (x := x2162) (by omega)
                  exact x_iret C hQ dX10_tellsBy_159 hSH2157 (by decide) (by decide) (⟨x2160, rfl, (by rcases HD.out hsp12 with ⟨i0, v0, e⟩ | ⟨i1, e⟩ <;> first | (exfalso; omega) | (rw [e, tdB_0 (by omega)]; omega) | (rw [e]; unfold clT; (first | rw [if_pos (by omega)] | rw [if_neg (by omega)]); (repeat' split) <;> omega)), hTH2157⟩)
                · have k2205 := i_nle c2204
                  refine lv_iload hx hb dX10_tellsBy_152 (lv_at hl2201 0 rfl) ?_
                  refine lv_goto (tgt := 159) hx hb dX10_tellsBy_154 (by decide) ?_
                  have cn_x1 := i_cl (x := x1) (by omega)
                  have cn_lm := i_cl (x := lm) (by omega)
                  have cn_x2162 := i_cl (x := x2162) (by omega)
                  exact x_iret C hQ dX10_tellsBy_159 hSH2157 (by decide) (by decide) (⟨9999, rfl, (by rcases HD.out hsp12 with ⟨i0, v0, e⟩ | ⟨i1, e⟩ <;> first | (exfalso; omega) | (rw [e, tdB_0 (by omega)]; omega) | (rw [e]; unfold clT; (first | rw [if_pos (by omega)] | rw [if_neg (by omega)]); (repeat' split) <;> omega)), hTH2157⟩)
              · have k2203 := i_nle c2202
                refine lv_iload hx hb dX10_tellsBy_140 (lv_at hl2201 1 rfl) ?_
                refine lv_goto (tgt := 159) hx hb dX10_tellsBy_142 (by decide) ?_
                have cn_x1 := i_cl (x := x1) (by omega)
                have cn_lm := i_cl (x := lm) (by omega)
                have cn_x2162 := i_cl (x := x2162) (by omega)
                exact x_iret C hQ dX10_tellsBy_159 hSH2157 (by decide) (by decide) (⟨(-9999), rfl, (by rcases HD.out hsp12 with ⟨i0, v0, e⟩ | ⟨i1, e⟩ <;> first | (exfalso; omega) | (rw [e, tdB_0 (by omega)]; omega) | (rw [e]; unfold clT; (first | rw [if_pos (by omega)] | rw [if_neg (by omega)]); (repeat' split) <;> omega)), hTH2157⟩)
            · have k2199 := i_nle c2198
              exfalso
              omega
          · have k2195 := i_nle c2194
            refine lv_iconst (v := 0) hx hb dX10_tellsBy_108 (by decide) ?_
            refine lv_goto (tgt := 115) hx hb dX10_tellsBy_109 (by decide) ?_
            refine lv_istore (lv' := [(6, .int 0), (0, .ref a0), (1, .int x1), (2, .int x2), (3, .int x3), (4, .int x2160), (5, .int x2161)]) hx hb dX10_tellsBy_115 hl2159 (by decide) rfl (fun ls2206 hl2207 => ?_)
            refine lv_iload_n hx hb dX10_tellsBy_117 rfl (lv_at hl2207 3 rfl) ?_
            refine lv_iconst (v := 2) hx hb dX10_tellsBy_118 (by decide) ?_
            refine lv_icmp_ge (tgt := 128) hx hb dX10_tellsBy_119 (by decide) (fun c2208 => ?_) (fun c2208 => ?_)
            · have k2209 := i_le c2208
              exfalso
              omega
            · have k2209 := i_nle c2208
              refine lv_ldcw (v := 99999) hx hb hown (hts _ wK_X10_308) dX10_tellsBy_122 ?_
              refine lv_goto (tgt := 131) hx hb dX10_tellsBy_125 (by decide) ?_
              refine lv_istore (lv' := [(7, .int 99999), (6, .int 0), (0, .ref a0), (1, .int x1), (2, .int x2), (3, .int x3), (4, .int x2160), (5, .int x2161)]) hx hb dX10_tellsBy_131 hl2207 (by decide) rfl (fun ls2210 hl2211 => ?_)
              refine lv_iload hx hb dX10_tellsBy_133 (lv_at hl2211 6 rfl) ?_
              refine lv_iload hx hb dX10_tellsBy_135 (lv_at hl2211 1 rfl) ?_
              refine lv_icmp_ge (tgt := 145) hx hb dX10_tellsBy_137 (by decide) (fun c2212 => ?_) (fun c2212 => ?_)
              · have k2213 := i_le c2212
                refine lv_iload hx hb dX10_tellsBy_145 (lv_at hl2211 6 rfl) ?_
                refine lv_iload hx hb dX10_tellsBy_147 (lv_at hl2211 0 rfl) ?_
                refine lv_icmp_le (tgt := 157) hx hb dX10_tellsBy_149 (by decide) (fun c2214 => ?_) (fun c2214 => ?_)
                · have k2215 := i_le c2214
                  refine lv_iload hx hb dX10_tellsBy_157 (lv_at hl2211 6 rfl) ?_
                  have cn_x1 := i_cl (x := x1) (by omega)
                  have cn_lm := i_cl (x := lm) (by omega)
                  have cn_x2162 := i_cl (x := x2162) (by omega)
                  exact x_iret C hQ dX10_tellsBy_159 hSH2157 (by decide) (by decide) (⟨x2160, rfl, (by rcases HD.out hsp12 with ⟨i0, v0, e⟩ | ⟨i1, e⟩ <;> first | (exfalso; omega) | (rw [e, tdB_0 (by omega)]; omega) | (rw [e]; unfold clT; (first | rw [if_pos (by omega)] | rw [if_neg (by omega)]); (repeat' split) <;> omega)), hTH2157⟩)
                · have k2215 := i_nle c2214
                  refine lv_iload hx hb dX10_tellsBy_152 (lv_at hl2211 0 rfl) ?_
                  refine lv_goto (tgt := 159) hx hb dX10_tellsBy_154 (by decide) ?_
                  have cn_x1 := i_cl (x := x1) (by omega)
                  have cn_lm := i_cl (x := lm) (by omega)
                  have cn_x2162 := i_cl (x := x2162) (by omega)
                  exact x_iret C hQ dX10_tellsBy_159 hSH2157 (by decide) (by decide) (⟨99999, rfl, (by rcases HD.out hsp12 with ⟨i0, v0, e⟩ | ⟨i1, e⟩ <;> first | (exfalso; omega) | (rw [e, tdB_0 (by omega)]; omega) | (rw [e]; unfold clT; (first | rw [if_pos (by omega)] | rw [if_neg (by omega)]); (repeat' split) <;> omega)), hTH2157⟩)
              · have k2213 := i_nle c2212
                refine lv_iload hx hb dX10_tellsBy_140 (lv_at hl2211 1 rfl) ?_
                refine lv_goto (tgt := 159) hx hb dX10_tellsBy_142 (by decide) ?_
                have cn_x1 := i_cl (x := x1) (by omega)
                have cn_lm := i_cl (x := lm) (by omega)
                have cn_x2162 := i_cl (x := x2162) (by omega)
                exact x_iret C hQ dX10_tellsBy_159 hSH2157 (by decide) (by decide) (⟨0, rfl, (by rcases HD.out hsp12 with ⟨i0, v0, e⟩ | ⟨i1, e⟩ <;> first | (exfalso; omega) | (rw [e, tdB_0 (by omega)]; omega) | (rw [e]; unfold clT; (first | rw [if_pos (by omega)] | rw [if_neg (by omega)]); (repeat' split) <;> omega)), hTH2157⟩)
        · have k2193 := i_eq c2192
          have hA_ := ((HD.out hsp12).resolve_right (fun z => by have := z.1; omega)).2
          refine lv_aload_n hx hb dX10_tellsBy_33 rfl (lv_at hl2159 0 rfl) ?_
          refine x_gr C hTH2157 (ci := 10) (k := 25) rfl inX10 (by decide) wF_X10_62 ga0 rg_112 rfl dX10_tellsBy_34 (fun q2216 eq2216 gq2216 => ?_)
          have uq2216 : wq = q2216 := (cy2163_8).trans eq2216.symm
          subst uq2216
          refine lv_iload hx hb dX10_tellsBy_37 (lv_at hl2159 6 rfl) ?_
          refine x_ai C hTH2157 gwq rg_129 ⟨by omega, by show _ < ((112 : Nat) : Int); omega⟩ dX10_tellsBy_39 (fun x2217 ex2217 bx2217 => ?_)
          refine lv_iload_n hx hb dX10_tellsBy_40 rfl (lv_at hl2159 2 rfl) ?_
          refine lv_icmp_ne (tgt := 97) hx hb dX10_tellsBy_41 (by decide) (fun c2218 => ?_) (fun c2218 => ?_)
          · have k2219 := i_ne c2218
            obtain ⟨x2220, ex2220⟩ : ∃ y : Int32, y = x2162 + 1 := ⟨_, rfl⟩
            have tx2220 := i_add ex2220 (by omega)
            refine lv_iinc (v := x2220) (lv' := [(6, .int x2220), (0, .ref a0), (1, .int x1), (2, .int x2), (3, .int x3), (4, .int x2160), (5, .int x2161)]) hx hb dX10_tellsBy_97 hl2159 (k := 6) rfl (by rw [ex2220]; rfl) (by decide) rfl (fun ls2221 hl2222 => ?_)
            refine lv_goto (tgt := 12) hx hb dX10_tellsBy_100 (by decide) ?_
            have cn_x1 := i_cl (x := x1) (by omega)
            have cn_lm := i_cl (x := lm) (by omega)
            have cn_x2162 := i_cl (x := x2162) (by omega)
            have cn_x2220 := i_cl (x := x2220) (by omega)
            have qr2223 : fI s.heap wq x2162.toNatClampNeg = x2217 := ((fy2163_s_wq _).symm.trans ex2217.symm)
            exact ih12  ls2221 H2157 locsH2157 (x2160) (x2161) (x2220) (lv_sub hl2222 [1, 2, 3, 4, 5, 6, 0] rfl) hTH2157 hSH2157 (by have := i_rng x2161; omega) (by have := i_rng x2220; omega) cy2163_0 cy2163_1 cy2163_2 cy2163_3 cy2163_4 cy2163_5 cy2163_6 cy2163_7 cy2163_8 cy2163_9 cy2163_10 gy2163_CG fy2163_s_oq fy2163_s_aq fy2163_s_uq fy2163_s_nq fy2163_s_tq fy2163_s_fq fy2163_s_wq fy2163_s_jq (by omega) (by omega) (HD.mk (Or.inl ⟨by omega, hA_.1, hA_.2.trans (tdB_n (g := 16 * x1.toNatClampNeg + lm.toNatClampNeg - x2220.toNatClampNeg) (by omega) (by omega) (Or.inl (by rw [qr2223]; omega)))⟩))
          · have k2219 := i_eq c2218
            have qr2224 : fI s.heap wq x2162.toNatClampNeg = x2217 := ((fy2163_s_wq _).symm.trans ex2217.symm)
            have ha_ : (fI s.heap wq x2162.toNatClampNeg).toInt = x2.toInt := by rw [qr2224]; omega
            refine lv_iload_n hx hb dX10_tellsBy_44 rfl (lv_at hl2159 2 rfl) ?_
            refine lv_iconst (v := 3) hx hb dX10_tellsBy_45 (by decide) ?_
            refine lv_icmp_eq (tgt := 60) hx hb dX10_tellsBy_46 (by decide) (fun c2225 => ?_) (fun c2225 => ?_)
            · have k2226 := i_eq c2225
              have hb_ : x2.toInt = 3 ∨ (fI s.heap jq x2162.toNatClampNeg).toInt = x3.toInt := Or.inl (by omega)
              refine lv_aload_n hx hb dX10_tellsBy_60 rfl (lv_at hl2159 0 rfl) ?_
              refine lv_iload_n hx hb dX10_tellsBy_61 rfl (lv_at hl2159 1 rfl) ?_
              refine lv_iload hx hb dX10_tellsBy_62 (lv_at hl2159 6 rfl) ?_
              have cn_x1 := i_cl (x := x1) (by omega)
              have cn_lm := i_cl (x := lm) (by omega)
              have cn_x2162 := i_cl (x := x2162) (by omega)
              refine x_V (As := [.int x1, .int x2162]) (rest := []) C (a_X10_isSo_v l K G H2157 (x1) (x2162) (lm) (fw) hTH2157 ga0 (by omega) (by omega) gmq cy2163_0 goq cy2163_1 gaq cy2163_2 gsq cy2163_3 guq cy2163_4 gnq cy2163_5 gtq cy2163_6 cy2163_10 gy2163_CG (by omega) (hyR_at fy2163_s_uq fy2163_s_oq fy2163_s_aq (fy2163_s_nq _) (fy2163_s_tq _) (hy1 x2162.toNatClampNeg (by omega) (by omega)))) yo_X10_isSo wM_X10_305 ⟨⟨by decide, by decide⟩, by decide, by decide⟩ (x_rv C hTH2157 (ci := 10) rfl ga0 rg_112) rfl hl2159.1 rfl (Nat.le_of_ble_eq_true rfl) dX10_tellsBy_64 hSH2157 (AE_sub (fun _ _ => rfl) (by decide) hSH2157.1) (fun vH2227 H2227 locsH2227 pH2227 zH2227 kH2227 hSH2227 => ?_)
              obtain ⟨x2228, hvH2227, bx2228, m2229, hTH2227⟩ := pH2227
              subst hvH2227
              have g2230 : CG (avw K H2227 a0) := CG.congr (fun k hk j => av_eff hTH2157 kH2227 ga0 (by decide) (CG_eff [140] (by decide) k hk)) gy2163_CG
              have f2231 : ∀ j : Nat, fI H2227 oq j = fI s.heap oq j := fun j => (fI_kept (x_lt hTH2157 kH2227 goq (by decide))).trans (fy2163_s_oq j)
              have f2232 : ∀ j : Nat, fI H2227 aq j = fI s.heap aq j := fun j => (fI_kept (x_lt hTH2157 kH2227 gaq (by decide))).trans (fy2163_s_aq j)
              have f2233 : ∀ j : Nat, fI H2227 uq j = fI s.heap uq j := fun j => (fI_kept (x_lt hTH2157 kH2227 guq (by decide))).trans (fy2163_s_uq j)
              have f2234 : ∀ j : Nat, fI H2227 nq j = fI s.heap nq j := fun j => (fI_kept (x_lt hTH2157 kH2227 gnq (by decide))).trans (fy2163_s_nq j)
              have f2235 : ∀ j : Nat, fI H2227 tq j = fI s.heap tq j := fun j => (fI_kept (x_lt hTH2157 kH2227 gtq (by decide))).trans (fy2163_s_tq j)
              have f2236 : ∀ j : Nat, fI H2227 fq j = fI s.heap fq j := fun j => (fI_kept (x_lt hTH2157 kH2227 gfq (by decide))).trans (fy2163_s_fq j)
              have f2237 : ∀ j : Nat, fI H2227 wq j = fI s.heap wq j := fun j => (fI_kept (x_lt hTH2157 kH2227 gwq (by decide))).trans (fy2163_s_wq j)
              have f2238 : ∀ j : Nat, fI H2227 jq j = fI s.heap jq j := fun j => (fI_kept (x_lt hTH2157 kH2227 gjq (by decide))).trans (fy2163_s_jq j)
              have m2239 := (cy2163_0).trans (fR_kept (x_lt hTH2157 kH2227 ga0 (by decide))).symm
              have m2240 := (cy2163_1).trans (fR_kept (x_lt hTH2157 kH2227 ga0 (by decide))).symm
              have m2241 := (cy2163_2).trans (fR_kept (x_lt hTH2157 kH2227 ga0 (by decide))).symm
              have m2242 := (cy2163_3).trans (fR_kept (x_lt hTH2157 kH2227 ga0 (by decide))).symm
              have m2243 := (cy2163_4).trans (fR_kept (x_lt hTH2157 kH2227 ga0 (by decide))).symm
              have m2244 := (cy2163_5).trans (fR_kept (x_lt hTH2157 kH2227 ga0 (by decide))).symm
              have m2245 := (cy2163_6).trans (fR_kept (x_lt hTH2157 kH2227 ga0 (by decide))).symm
              have m2246 := (cy2163_7).trans (fR_kept (x_lt hTH2157 kH2227 ga0 (by decide))).symm
              have m2247 := (cy2163_8).trans (fR_kept (x_lt hTH2157 kH2227 ga0 (by decide))).symm
              have m2248 := (cy2163_9).trans (fR_kept (x_lt hTH2157 kH2227 ga0 (by decide))).symm
              have m2249 := (cy2163_10).trans (fI_kept (x_lt hTH2157 kH2227 gmq (by decide))).symm
              have m2250 := (ex2217).trans (fI_kept (x_lt hTH2157 kH2227 gwq (by decide))).symm
              have so2251 : ((x2228.toInt = 1 ∧ (fI s.heap tq x2162.toNatClampNeg = fI s.heap nq x2162.toNatClampNeg ∨ fw x2162.toNatClampNeg ≠ 0)) ∨ (x2228.toInt = 0 ∧ fI s.heap tq x2162.toNatClampNeg ≠ fI s.heap nq x2162.toNatClampNeg ∧ fw x2162.toNatClampNeg = 0)) := by rw [← fy2163_s_tq x2162.toNatClampNeg, ← fy2163_s_nq x2162.toNatClampNeg]; exact m2229
              refine W.eq (g2 := F0 m 67 ls2158 [.int x2228]) rfl ?_
              refine lv_if_ne (tgt := 73) hx hb dX10_tellsBy_67 (by decide) (fun c2252 => ?_) (fun c2252 => ?_)
              · have k2253 := i_ne c2252
                refine lv_iconst (v := 1) hx hb dX10_tellsBy_73 (by decide) ?_
                refine lv_istore (lv' := [(5, .int 1), (0, .ref a0), (1, .int x1), (2, .int x2), (3, .int x3), (4, .int x2160), (6, .int x2162)]) hx hb dX10_tellsBy_74 hl2159 (by decide) rfl (fun ls2254 hl2255 => ?_)
                refine lv_aload_n hx hb dX10_tellsBy_76 rfl (lv_at hl2255 1 rfl) ?_
                refine lv_iload_n hx hb dX10_tellsBy_77 rfl (lv_at hl2255 2 rfl) ?_
                refine lv_aload_n hx hb dX10_tellsBy_78 rfl (lv_at hl2255 1 rfl) ?_
                refine x_gr C hTH2227 (ci := 10) (k := 29) rfl inX10 (by decide) wF_X10_74 ga0 rg_112 rfl dX10_tellsBy_79 (fun q2256 eq2256 gq2256 => ?_)
                have uq2256 : fq = q2256 := (m2246).trans eq2256.symm
                subst uq2256
                refine lv_iload hx hb dX10_tellsBy_82 (lv_at hl2255 6 rfl) ?_
                refine x_ai C hTH2227 gfq rg_133 ⟨by omega, by show _ < ((112 : Nat) : Int); omega⟩ dX10_tellsBy_84 (fun x2257 ex2257 bx2257 => ?_)
                refine lv_aload_n hx hb dX10_tellsBy_85 rfl (lv_at hl2255 1 rfl) ?_
                refine x_gr C hTH2227 (ci := 10) (k := 30) rfl inX10 (by decide) wF_X10_77 ga0 rg_112 rfl dX10_tellsBy_86 (fun q2258 eq2258 gq2258 => ?_)
                have uq2258 : nq = q2258 := (m2244).trans eq2258.symm
                subst uq2258
                refine lv_iload hx hb dX10_tellsBy_89 (lv_at hl2255 6 rfl) ?_
                refine x_ai C hTH2227 gnq rg_134 ⟨by omega, by show _ < ((112 : Nat) : Int); omega⟩ dX10_tellsBy_91 (fun x2259 ex2259 bx2259 => ?_)
                refine x_V (As := [.int x1, .int x2257, .int x2259]) (rest := []) C (a_X10_worth_v l K G H2227 (x1) (x2257) (x2259) hTH2227 ga0 (by omega) (by omega) (by omega) goq m2240 gaq m2241 gsq m2242 guq m2243 (cg_sum g2230 m2240 m2241 m2239 m2244 m2246 ex2257 ex2259 m2249 (by omega) (by omega))) yo_X10_worth wM_X10_302 ⟨⟨by decide, by decide⟩, by decide, by decide⟩ (x_rv C hTH2227 (ci := 10) rfl ga0 rg_112) rfl hl2255.1 rfl (Nat.le_of_ble_eq_true rfl) dX10_tellsBy_92 hSH2227 (AE_sub (fun _ _ => rfl) (by decide) hSH2227.1) (fun vH2260 H2260 locsH2260 pH2260 zH2260 kH2260 hSH2260 => ?_)
                obtain ⟨x2261, hvH2260, m2262, hTH2260⟩ := pH2260
                subst hvH2260
                have g2263 : CG (avw K H2260 a0) := CG.congr (fun k hk j => av_eff hTH2227 kH2260 ga0 (by decide) (CG_eff [140] (by decide) k hk)) g2230
                have f2264 : ∀ j : Nat, fI H2260 oq j = fI s.heap oq j := fun j => (fI_kept (x_lt hTH2227 kH2260 goq (by decide))).trans (f2231 j)
                have f2265 : ∀ j : Nat, fI H2260 aq j = fI s.heap aq j := fun j => (fI_kept (x_lt hTH2227 kH2260 gaq (by decide))).trans (f2232 j)
                have f2266 : ∀ j : Nat, fI H2260 uq j = fI s.heap uq j := fun j => (fI_kept (x_lt hTH2227 kH2260 guq (by decide))).trans (f2233 j)
                have f2267 : ∀ j : Nat, fI H2260 nq j = fI s.heap nq j := fun j => (fI_kept (x_lt hTH2227 kH2260 gnq (by decide))).trans (f2234 j)
                have f2268 : ∀ j : Nat, fI H2260 tq j = fI s.heap tq j := fun j => (fI_kept (x_lt hTH2227 kH2260 gtq (by decide))).trans (f2235 j)
                have f2269 : ∀ j : Nat, fI H2260 fq j = fI s.heap fq j := fun j => (fI_kept (x_lt hTH2227 kH2260 gfq (by decide))).trans (f2236 j)
                have f2270 : ∀ j : Nat, fI H2260 wq j = fI s.heap wq j := fun j => (fI_kept (x_lt hTH2227 kH2260 gwq (by decide))).trans (f2237 j)
                have f2271 : ∀ j : Nat, fI H2260 jq j = fI s.heap jq j := fun j => (fI_kept (x_lt hTH2227 kH2260 gjq (by decide))).trans (f2238 j)
                have m2272 := (m2239).trans (fR_kept (x_lt hTH2227 kH2260 ga0 (by decide))).symm
                have m2273 := (m2240).trans (fR_kept (x_lt hTH2227 kH2260 ga0 (by decide))).symm
                have m2274 := (m2241).trans (fR_kept (x_lt hTH2227 kH2260 ga0 (by decide))).symm
                have m2275 := (m2242).trans (fR_kept (x_lt hTH2227 kH2260 ga0 (by decide))).symm
                have m2276 := (m2243).trans (fR_kept (x_lt hTH2227 kH2260 ga0 (by decide))).symm
                have m2277 := (m2244).trans (fR_kept (x_lt hTH2227 kH2260 ga0 (by decide))).symm
                have m2278 := (m2245).trans (fR_kept (x_lt hTH2227 kH2260 ga0 (by decide))).symm
                have m2279 := (m2246).trans (fR_kept (x_lt hTH2227 kH2260 ga0 (by decide))).symm
                have m2280 := (m2247).trans (fR_kept (x_lt hTH2227 kH2260 ga0 (by decide))).symm
                have m2281 := (m2248).trans (fR_kept (x_lt hTH2227 kH2260 ga0 (by decide))).symm
                have m2282 := (m2249).trans (fI_kept (x_lt hTH2227 kH2260 gmq (by decide))).symm
                have m2283 := (m2250).trans (fI_kept (x_lt hTH2227 kH2260 gwq (by decide))).symm
                have m2284 := (ex2257).trans (fI_kept (x_lt hTH2227 kH2260 gfq (by decide))).symm
                have m2285 := (ex2259).trans (fI_kept (x_lt hTH2227 kH2260 gnq (by decide))).symm
                have cn_x1 := i_cl (x := x1) (by omega)
                have cn_lm := i_cl (x := lm) (by omega)
                have cn_x2162 := i_cl (x := x2162) (by omega)
                have qr2286 : fI s.heap fq x2162.toNatClampNeg = x2257 := ((f2236 _).symm.trans ex2257.symm)
                have qr2287 : fI s.heap nq x2162.toNatClampNeg = x2259 := ((f2234 _).symm.trans ex2259.symm)
                have hv2288 : x2261 = fs x2162.toNatClampNeg := vlR_at m2262 f2233 f2231 f2232 (by rw [qr2286]) (by rw [qr2287]) (hy0 x2162.toNatClampNeg (by omega) (by omega))
                refine W.eq (g2 := F0 m 95 ls2254 [.int x2261]) rfl ?_
                refine lv_istore (lv' := [(4, .int x2261), (5, .int 1), (0, .ref a0), (1, .int x1), (2, .int x2), (3, .int x3), (6, .int x2162)]) hx hb dX10_tellsBy_95 hl2255 (by decide) rfl (fun ls2289 hl2290 => ?_)
                obtain ⟨x2291, ex2291⟩ : ∃ y : Int32, y = x2162 + 1 := ⟨_, rfl⟩
                have tx2291 := i_add ex2291 (by omega)
                refine lv_iinc (v := x2291) (lv' := [(6, .int x2291), (4, .int x2261), (5, .int 1), (0, .ref a0), (1, .int x1), (2, .int x2), (3, .int x3)]) hx hb dX10_tellsBy_97 hl2290 (k := 6) rfl (by rw [ex2291]; rfl) (by decide) rfl (fun ls2292 hl2293 => ?_)
                refine lv_goto (tgt := 12) hx hb dX10_tellsBy_100 (by decide) ?_
                have cn_x1 := i_cl (x := x1) (by omega)
                have cn_lm := i_cl (x := lm) (by omega)
                have cn_x2162 := i_cl (x := x2162) (by omega)
                have cn_x2291 := i_cl (x := x2291) (by omega)
                exact ih12  ls2292 H2260 locsH2260 (x2261) (1) (x2291) (lv_sub hl2293 [3, 4, 5, 6, 1, 2, 0] rfl) hTH2260 hSH2260 (by decide) (by have := i_rng x2291; omega) m2272 m2273 m2274 m2275 m2276 m2277 m2278 m2279 m2280 m2281 m2282 g2263 f2264 f2265 f2266 f2267 f2268 f2269 f2270 f2271 (by omega) (by omega) (HD.mk (Or.inr ⟨rfl, by rw [hA_.2, tdB_y (by omega) ha_ hb_ ((so2251.resolve_right (fun z => by have := z.1; omega)).2.imp (fun z => congrArg Int32.toInt z) id), ← hv2288]⟩))
              · have k2253 := i_eq c2252
                refine lv_goto (tgt := 97) hx hb dX10_tellsBy_70 (by decide) ?_
                obtain ⟨x2294, ex2294⟩ : ∃ y : Int32, y = x2162 + 1 := ⟨_, rfl⟩
                have tx2294 := i_add ex2294 (by omega)
                refine lv_iinc (v := x2294) (lv' := [(6, .int x2294), (0, .ref a0), (1, .int x1), (2, .int x2), (3, .int x3), (4, .int x2160), (5, .int x2161)]) hx hb dX10_tellsBy_97 hl2159 (k := 6) rfl (by rw [ex2294]; rfl) (by decide) rfl (fun ls2295 hl2296 => ?_)
                refine lv_goto (tgt := 12) hx hb dX10_tellsBy_100 (by decide) ?_
                have cn_x1 := i_cl (x := x1) (by omega)
                have cn_lm := i_cl (x := lm) (by omega)
                have cn_x2162 := i_cl (x := x2162) (by omega)
                have cn_x2294 := i_cl (x := x2294) (by omega)
                exact ih12  ls2295 H2227 locsH2227 (x2160) (x2161) (x2294) (lv_sub hl2296 [1, 2, 3, 4, 5, 6, 0] rfl) hTH2227 hSH2227 (by have := i_rng x2161; omega) (by have := i_rng x2294; omega) m2239 m2240 m2241 m2242 m2243 m2244 m2245 m2246 m2247 m2248 m2249 g2230 f2231 f2232 f2233 f2234 f2235 f2236 f2237 f2238 (by omega) (by omega) (HD.mk (Or.inl ⟨by omega, hA_.1, hA_.2.trans (tdB_n (g := 16 * x1.toNatClampNeg + lm.toNatClampNeg - x2294.toNatClampNeg) (by omega) (by omega) (Or.inr (Or.inr ((so2251.resolve_left (fun z => by have := z.1; omega)).2.imp (fun z e => z (Int32.toInt_inj.mp e)) id))))⟩))
            · have k2226 := i_ne c2225
              refine lv_aload_n hx hb dX10_tellsBy_49 rfl (lv_at hl2159 0 rfl) ?_
              refine x_gr C hTH2157 (ci := 10) (k := 26) rfl inX10 (by decide) wF_X10_65 ga0 rg_112 rfl dX10_tellsBy_50 (fun q2297 eq2297 gq2297 => ?_)
              have uq2297 : jq = q2297 := (cy2163_9).trans eq2297.symm
              subst uq2297
              refine lv_iload hx hb dX10_tellsBy_53 (lv_at hl2159 6 rfl) ?_
              refine x_ai C hTH2157 gjq rg_130 ⟨by omega, by show _ < ((112 : Nat) : Int); omega⟩ dX10_tellsBy_55 (fun x2298 ex2298 bx2298 => ?_)
              refine lv_iload_n hx hb dX10_tellsBy_56 rfl (lv_at hl2159 3 rfl) ?_
              refine lv_icmp_ne (tgt := 97) hx hb dX10_tellsBy_57 (by decide) (fun c2299 => ?_) (fun c2299 => ?_)
              · have k2300 := i_ne c2299
                obtain ⟨x2301, ex2301⟩ : ∃ y : Int32, y = x2162 + 1 := ⟨_, rfl⟩
                have tx2301 := i_add ex2301 (by omega)
                refine lv_iinc (v := x2301) (lv' := [(6, .int x2301), (0, .ref a0), (1, .int x1), (2, .int x2), (3, .int x3), (4, .int x2160), (5, .int x2161)]) hx hb dX10_tellsBy_97 hl2159 (k := 6) rfl (by rw [ex2301]; rfl) (by decide) rfl (fun ls2302 hl2303 => ?_)
                refine lv_goto (tgt := 12) hx hb dX10_tellsBy_100 (by decide) ?_
                have cn_x1 := i_cl (x := x1) (by omega)
                have cn_lm := i_cl (x := lm) (by omega)
                have cn_x2162 := i_cl (x := x2162) (by omega)
                have cn_x2301 := i_cl (x := x2301) (by omega)
                have qr2304 : fI s.heap jq x2162.toNatClampNeg = x2298 := ((fy2163_s_jq _).symm.trans ex2298.symm)
                exact ih12  ls2302 H2157 locsH2157 (x2160) (x2161) (x2301) (lv_sub hl2303 [1, 2, 3, 4, 5, 6, 0] rfl) hTH2157 hSH2157 (by have := i_rng x2161; omega) (by have := i_rng x2301; omega) cy2163_0 cy2163_1 cy2163_2 cy2163_3 cy2163_4 cy2163_5 cy2163_6 cy2163_7 cy2163_8 cy2163_9 cy2163_10 gy2163_CG fy2163_s_oq fy2163_s_aq fy2163_s_uq fy2163_s_nq fy2163_s_tq fy2163_s_fq fy2163_s_wq fy2163_s_jq (by omega) (by omega) (HD.mk (Or.inl ⟨by omega, hA_.1, hA_.2.trans (tdB_n (g := 16 * x1.toNatClampNeg + lm.toNatClampNeg - x2301.toNatClampNeg) (by omega) (by omega) (Or.inr (Or.inl ⟨by omega, by rw [qr2304]; omega⟩)))⟩))
              · have k2300 := i_eq c2299
                have qr2305 : fI s.heap jq x2162.toNatClampNeg = x2298 := ((fy2163_s_jq _).symm.trans ex2298.symm)
                have hb_ : x2.toInt = 3 ∨ (fI s.heap jq x2162.toNatClampNeg).toInt = x3.toInt := Or.inr (by rw [qr2305]; omega)
                refine lv_aload_n hx hb dX10_tellsBy_60 rfl (lv_at hl2159 0 rfl) ?_
                refine lv_iload_n hx hb dX10_tellsBy_61 rfl (lv_at hl2159 1 rfl) ?_
                refine lv_iload hx hb dX10_tellsBy_62 (lv_at hl2159 6 rfl) ?_
                have cn_x1 := i_cl (x := x1) (by omega)
                have cn_lm := i_cl (x := lm) (by omega)
                have cn_x2162 := i_cl (x := x2162) (by omega)
                refine x_V (As := [.int x1, .int x2162]) (rest := []) C (a_X10_isSo_v l K G H2157 (x1) (x2162) (lm) (fw) hTH2157 ga0 (by omega) (by omega) gmq cy2163_0 goq cy2163_1 gaq cy2163_2 gsq cy2163_3 guq cy2163_4 gnq cy2163_5 gtq cy2163_6 cy2163_10 gy2163_CG (by omega) (hyR_at fy2163_s_uq fy2163_s_oq fy2163_s_aq (fy2163_s_nq _) (fy2163_s_tq _) (hy1 x2162.toNatClampNeg (by omega) (by omega)))) yo_X10_isSo wM_X10_305 ⟨⟨by decide, by decide⟩, by decide, by decide⟩ (x_rv C hTH2157 (ci := 10) rfl ga0 rg_112) rfl hl2159.1 rfl (Nat.le_of_ble_eq_true rfl) dX10_tellsBy_64 hSH2157 (AE_sub (fun _ _ => rfl) (by decide) hSH2157.1) (fun vH2306 H2306 locsH2306 pH2306 zH2306 kH2306 hSH2306 => ?_)
                obtain ⟨x2307, hvH2306, bx2307, m2308, hTH2306⟩ := pH2306
                subst hvH2306
                have g2309 : CG (avw K H2306 a0) := CG.congr (fun k hk j => av_eff hTH2157 kH2306 ga0 (by decide) (CG_eff [140] (by decide) k hk)) gy2163_CG
                have f2310 : ∀ j : Nat, fI H2306 oq j = fI s.heap oq j := fun j => (fI_kept (x_lt hTH2157 kH2306 goq (by decide))).trans (fy2163_s_oq j)
                have f2311 : ∀ j : Nat, fI H2306 aq j = fI s.heap aq j := fun j => (fI_kept (x_lt hTH2157 kH2306 gaq (by decide))).trans (fy2163_s_aq j)
                have f2312 : ∀ j : Nat, fI H2306 uq j = fI s.heap uq j := fun j => (fI_kept (x_lt hTH2157 kH2306 guq (by decide))).trans (fy2163_s_uq j)
                have f2313 : ∀ j : Nat, fI H2306 nq j = fI s.heap nq j := fun j => (fI_kept (x_lt hTH2157 kH2306 gnq (by decide))).trans (fy2163_s_nq j)
                have f2314 : ∀ j : Nat, fI H2306 tq j = fI s.heap tq j := fun j => (fI_kept (x_lt hTH2157 kH2306 gtq (by decide))).trans (fy2163_s_tq j)
                have f2315 : ∀ j : Nat, fI H2306 fq j = fI s.heap fq j := fun j => (fI_kept (x_lt hTH2157 kH2306 gfq (by decide))).trans (fy2163_s_fq j)
                have f2316 : ∀ j : Nat, fI H2306 wq j = fI s.heap wq j := fun j => (fI_kept (x_lt hTH2157 kH2306 gwq (by decide))).trans (fy2163_s_wq j)
                have f2317 : ∀ j : Nat, fI H2306 jq j = fI s.heap jq j := fun j => (fI_kept (x_lt hTH2157 kH2306 gjq (by decide))).trans (fy2163_s_jq j)
                have m2318 := (cy2163_0).trans (fR_kept (x_lt hTH2157 kH2306 ga0 (by decide))).symm
                have m2319 := (cy2163_1).trans (fR_kept (x_lt hTH2157 kH2306 ga0 (by decide))).symm
                have m2320 := (cy2163_2).trans (fR_kept (x_lt hTH2157 kH2306 ga0 (by decide))).symm
                have m2321 := (cy2163_3).trans (fR_kept (x_lt hTH2157 kH2306 ga0 (by decide))).symm
                have m2322 := (cy2163_4).trans (fR_kept (x_lt hTH2157 kH2306 ga0 (by decide))).symm
                have m2323 := (cy2163_5).trans (fR_kept (x_lt hTH2157 kH2306 ga0 (by decide))).symm
                have m2324 := (cy2163_6).trans (fR_kept (x_lt hTH2157 kH2306 ga0 (by decide))).symm
                have m2325 := (cy2163_7).trans (fR_kept (x_lt hTH2157 kH2306 ga0 (by decide))).symm
                have m2326 := (cy2163_8).trans (fR_kept (x_lt hTH2157 kH2306 ga0 (by decide))).symm
                have m2327 := (cy2163_9).trans (fR_kept (x_lt hTH2157 kH2306 ga0 (by decide))).symm
                have m2328 := (cy2163_10).trans (fI_kept (x_lt hTH2157 kH2306 gmq (by decide))).symm
                have m2329 := (ex2217).trans (fI_kept (x_lt hTH2157 kH2306 gwq (by decide))).symm
                have m2330 := (ex2298).trans (fI_kept (x_lt hTH2157 kH2306 gjq (by decide))).symm
                have so2331 : ((x2307.toInt = 1 ∧ (fI s.heap tq x2162.toNatClampNeg = fI s.heap nq x2162.toNatClampNeg ∨ fw x2162.toNatClampNeg ≠ 0)) ∨ (x2307.toInt = 0 ∧ fI s.heap tq x2162.toNatClampNeg ≠ fI s.heap nq x2162.toNatClampNeg ∧ fw x2162.toNatClampNeg = 0)) := by rw [← fy2163_s_tq x2162.toNatClampNeg, ← fy2163_s_nq x2162.toNatClampNeg]; exact m2308
                refine W.eq (g2 := F0 m 67 ls2158 [.int x2307]) rfl ?_
                refine lv_if_ne (tgt := 73) hx hb dX10_tellsBy_67 (by decide) (fun c2332 => ?_) (fun c2332 => ?_)
                · have k2333 := i_ne c2332
                  refine lv_iconst (v := 1) hx hb dX10_tellsBy_73 (by decide) ?_
                  refine lv_istore (lv' := [(5, .int 1), (0, .ref a0), (1, .int x1), (2, .int x2), (3, .int x3), (4, .int x2160), (6, .int x2162)]) hx hb dX10_tellsBy_74 hl2159 (by decide) rfl (fun ls2334 hl2335 => ?_)
                  refine lv_aload_n hx hb dX10_tellsBy_76 rfl (lv_at hl2335 1 rfl) ?_
                  refine lv_iload_n hx hb dX10_tellsBy_77 rfl (lv_at hl2335 2 rfl) ?_
                  refine lv_aload_n hx hb dX10_tellsBy_78 rfl (lv_at hl2335 1 rfl) ?_
                  refine x_gr C hTH2306 (ci := 10) (k := 29) rfl inX10 (by decide) wF_X10_74 ga0 rg_112 rfl dX10_tellsBy_79 (fun q2336 eq2336 gq2336 => ?_)
                  have uq2336 : fq = q2336 := (m2325).trans eq2336.symm
                  subst uq2336
                  refine lv_iload hx hb dX10_tellsBy_82 (lv_at hl2335 6 rfl) ?_
                  refine x_ai C hTH2306 gfq rg_133 ⟨by omega, by show _ < ((112 : Nat) : Int); omega⟩ dX10_tellsBy_84 (fun x2337 ex2337 bx2337 => ?_)
                  refine lv_aload_n hx hb dX10_tellsBy_85 rfl (lv_at hl2335 1 rfl) ?_
                  refine x_gr C hTH2306 (ci := 10) (k := 30) rfl inX10 (by decide) wF_X10_77 ga0 rg_112 rfl dX10_tellsBy_86 (fun q2338 eq2338 gq2338 => ?_)
                  have uq2338 : nq = q2338 := (m2323).trans eq2338.symm
                  subst uq2338
                  refine lv_iload hx hb dX10_tellsBy_89 (lv_at hl2335 6 rfl) ?_
                  refine x_ai C hTH2306 gnq rg_134 ⟨by omega, by show _ < ((112 : Nat) : Int); omega⟩ dX10_tellsBy_91 (fun x2339 ex2339 bx2339 => ?_)
                  refine x_V (As := [.int x1, .int x2337, .int x2339]) (rest := []) C (a_X10_worth_v l K G H2306 (x1) (x2337) (x2339) hTH2306 ga0 (by omega) (by omega) (by omega) goq m2319 gaq m2320 gsq m2321 guq m2322 (cg_sum g2309 m2319 m2320 m2318 m2323 m2325 ex2337 ex2339 m2328 (by omega) (by omega))) yo_X10_worth wM_X10_302 ⟨⟨by decide, by decide⟩, by decide, by decide⟩ (x_rv C hTH2306 (ci := 10) rfl ga0 rg_112) rfl hl2335.1 rfl (Nat.le_of_ble_eq_true rfl) dX10_tellsBy_92 hSH2306 (AE_sub (fun _ _ => rfl) (by decide) hSH2306.1) (fun vH2340 H2340 locsH2340 pH2340 zH2340 kH2340 hSH2340 => ?_)
                  obtain ⟨x2341, hvH2340, m2342, hTH2340⟩ := pH2340
                  subst hvH2340
                  have g2343 : CG (avw K H2340 a0) := CG.congr (fun k hk j => av_eff hTH2306 kH2340 ga0 (by decide) (CG_eff [140] (by decide) k hk)) g2309
                  have f2344 : ∀ j : Nat, fI H2340 oq j = fI s.heap oq j := fun j => (fI_kept (x_lt hTH2306 kH2340 goq (by decide))).trans (f2310 j)
                  have f2345 : ∀ j : Nat, fI H2340 aq j = fI s.heap aq j := fun j => (fI_kept (x_lt hTH2306 kH2340 gaq (by decide))).trans (f2311 j)
                  have f2346 : ∀ j : Nat, fI H2340 uq j = fI s.heap uq j := fun j => (fI_kept (x_lt hTH2306 kH2340 guq (by decide))).trans (f2312 j)
                  have f2347 : ∀ j : Nat, fI H2340 nq j = fI s.heap nq j := fun j => (fI_kept (x_lt hTH2306 kH2340 gnq (by decide))).trans (f2313 j)
                  have f2348 : ∀ j : Nat, fI H2340 tq j = fI s.heap tq j := fun j => (fI_kept (x_lt hTH2306 kH2340 gtq (by decide))).trans (f2314 j)
                  have f2349 : ∀ j : Nat, fI H2340 fq j = fI s.heap fq j := fun j => (fI_kept (x_lt hTH2306 kH2340 gfq (by decide))).trans (f2315 j)
                  have f2350 : ∀ j : Nat, fI H2340 wq j = fI s.heap wq j := fun j => (fI_kept (x_lt hTH2306 kH2340 gwq (by decide))).trans (f2316 j)
                  have f2351 : ∀ j : Nat, fI H2340 jq j = fI s.heap jq j := fun j => (fI_kept (x_lt hTH2306 kH2340 gjq (by decide))).trans (f2317 j)
                  have m2352 := (m2318).trans (fR_kept (x_lt hTH2306 kH2340 ga0 (by decide))).symm
                  have m2353 := (m2319).trans (fR_kept (x_lt hTH2306 kH2340 ga0 (by decide))).symm
                  have m2354 := (m2320).trans (fR_kept (x_lt hTH2306 kH2340 ga0 (by decide))).symm
                  have m2355 := (m2321).trans (fR_kept (x_lt hTH2306 kH2340 ga0 (by decide))).symm
                  have m2356 := (m2322).trans (fR_kept (x_lt hTH2306 kH2340 ga0 (by decide))).symm
                  have m2357 := (m2323).trans (fR_kept (x_lt hTH2306 kH2340 ga0 (by decide))).symm
                  have m2358 := (m2324).trans (fR_kept (x_lt hTH2306 kH2340 ga0 (by decide))).symm
                  have m2359 := (m2325).trans (fR_kept (x_lt hTH2306 kH2340 ga0 (by decide))).symm
                  have m2360 := (m2326).trans (fR_kept (x_lt hTH2306 kH2340 ga0 (by decide))).symm
                  have m2361 := (m2327).trans (fR_kept (x_lt hTH2306 kH2340 ga0 (by decide))).symm
                  have m2362 := (m2328).trans (fI_kept (x_lt hTH2306 kH2340 gmq (by decide))).symm
                  have m2363 := (m2329).trans (fI_kept (x_lt hTH2306 kH2340 gwq (by decide))).symm
                  have m2364 := (m2330).trans (fI_kept (x_lt hTH2306 kH2340 gjq (by decide))).symm
                  have m2365 := (ex2337).trans (fI_kept (x_lt hTH2306 kH2340 gfq (by decide))).symm
                  have m2366 := (ex2339).trans (fI_kept (x_lt hTH2306 kH2340 gnq (by decide))).symm
                  have cn_x1 := i_cl (x := x1) (by omega)
                  have cn_lm := i_cl (x := lm) (by omega)
                  have cn_x2162 := i_cl (x := x2162) (by omega)
                  have qr2367 : fI s.heap fq x2162.toNatClampNeg = x2337 := ((f2315 _).symm.trans ex2337.symm)
                  have qr2368 : fI s.heap nq x2162.toNatClampNeg = x2339 := ((f2313 _).symm.trans ex2339.symm)
                  have hv2369 : x2341 = fs x2162.toNatClampNeg := vlR_at m2342 f2312 f2310 f2311 (by rw [qr2367]) (by rw [qr2368]) (hy0 x2162.toNatClampNeg (by omega) (by omega))
                  refine W.eq (g2 := F0 m 95 ls2334 [.int x2341]) rfl ?_
                  refine lv_istore (lv' := [(4, .int x2341), (5, .int 1), (0, .ref a0), (1, .int x1), (2, .int x2), (3, .int x3), (6, .int x2162)]) hx hb dX10_tellsBy_95 hl2335 (by decide) rfl (fun ls2370 hl2371 => ?_)
                  obtain ⟨x2372, ex2372⟩ : ∃ y : Int32, y = x2162 + 1 := ⟨_, rfl⟩
                  have tx2372 := i_add ex2372 (by omega)
                  refine lv_iinc (v := x2372) (lv' := [(6, .int x2372), (4, .int x2341), (5, .int 1), (0, .ref a0), (1, .int x1), (2, .int x2), (3, .int x3)]) hx hb dX10_tellsBy_97 hl2371 (k := 6) rfl (by rw [ex2372]; rfl) (by decide) rfl (fun ls2373 hl2374 => ?_)
                  refine lv_goto (tgt := 12) hx hb dX10_tellsBy_100 (by decide) ?_
                  have cn_x1 := i_cl (x := x1) (by omega)
                  have cn_lm := i_cl (x := lm) (by omega)
                  have cn_x2162 := i_cl (x := x2162) (by omega)
                  have cn_x2372 := i_cl (x := x2372) (by omega)
                  exact ih12  ls2373 H2340 locsH2340 (x2341) (1) (x2372) (lv_sub hl2374 [3, 4, 5, 6, 1, 2, 0] rfl) hTH2340 hSH2340 (by decide) (by have := i_rng x2372; omega) m2352 m2353 m2354 m2355 m2356 m2357 m2358 m2359 m2360 m2361 m2362 g2343 f2344 f2345 f2346 f2347 f2348 f2349 f2350 f2351 (by omega) (by omega) (HD.mk (Or.inr ⟨rfl, by rw [hA_.2, tdB_y (by omega) ha_ hb_ ((so2331.resolve_right (fun z => by have := z.1; omega)).2.imp (fun z => congrArg Int32.toInt z) id), ← hv2369]⟩))
                · have k2333 := i_eq c2332
                  refine lv_goto (tgt := 97) hx hb dX10_tellsBy_70 (by decide) ?_
                  obtain ⟨x2375, ex2375⟩ : ∃ y : Int32, y = x2162 + 1 := ⟨_, rfl⟩
                  have tx2375 := i_add ex2375 (by omega)
                  refine lv_iinc (v := x2375) (lv' := [(6, .int x2375), (0, .ref a0), (1, .int x1), (2, .int x2), (3, .int x3), (4, .int x2160), (5, .int x2161)]) hx hb dX10_tellsBy_97 hl2159 (k := 6) rfl (by rw [ex2375]; rfl) (by decide) rfl (fun ls2376 hl2377 => ?_)
                  refine lv_goto (tgt := 12) hx hb dX10_tellsBy_100 (by decide) ?_
                  have cn_x1 := i_cl (x := x1) (by omega)
                  have cn_lm := i_cl (x := lm) (by omega)
                  have cn_x2162 := i_cl (x := x2162) (by omega)
                  have cn_x2375 := i_cl (x := x2375) (by omega)
                  exact ih12  ls2376 H2306 locsH2306 (x2160) (x2161) (x2375) (lv_sub hl2377 [1, 2, 3, 4, 5, 6, 0] rfl) hTH2306 hSH2306 (by have := i_rng x2161; omega) (by have := i_rng x2375; omega) m2318 m2319 m2320 m2321 m2322 m2323 m2324 m2325 m2326 m2327 m2328 g2309 f2310 f2311 f2312 f2313 f2314 f2315 f2316 f2317 (by omega) (by omega) (HD.mk (Or.inl ⟨by omega, hA_.1, hA_.2.trans (tdB_n (g := 16 * x1.toNatClampNeg + lm.toNatClampNeg - x2375.toNatClampNeg) (by omega) (by omega) (Or.inr (Or.inr ((so2331.resolve_left (fun z => by have := z.1; omega)).2.imp (fun z e => z (Int32.toInt_inj.mp e)) id))))⟩))
  refine lv_iconst (v := 0) hx hb dX10_tellsBy_0 (by decide) ?_
  refine lv_istore (lv' := [(4, .int 0), (0, .ref a0), (1, .int x1), (2, .int x2), (3, .int x3)]) hx hb dX10_tellsBy_1 hl (by decide) rfl (fun ls2378 hl2379 => ?_)
  refine lv_iconst (v := 0) hx hb dX10_tellsBy_3 (by decide) ?_
  refine lv_istore (lv' := [(5, .int 0), (4, .int 0), (0, .ref a0), (1, .int x1), (2, .int x2), (3, .int x3)]) hx hb dX10_tellsBy_4 hl2379 (by decide) rfl (fun ls2380 hl2381 => ?_)
  refine lv_bipush (v := 16) hx hb dX10_tellsBy_6 (by decide) ?_
  refine lv_iload_n hx hb dX10_tellsBy_8 rfl (lv_at hl2381 3 rfl) ?_
  refine lv_imul hx hb dX10_tellsBy_9 ?_
  refine lv_topi (fun x2382 ex2382 => ?_)
  have tx2382 := i_mul ex2382 (by rw [n_16]; omega)
  rw [n_16] at tx2382
  refine lv_istore (lv' := [(6, .int x2382), (5, .int 0), (4, .int 0), (0, .ref a0), (1, .int x1), (2, .int x2), (3, .int x3)]) hx hb dX10_tellsBy_10 hl2381 (by decide) rfl (fun ls2383 hl2384 => ?_)
  have cn_x1 := i_cl (x := x1) (by omega)
  have cn_lm := i_cl (x := lm) (by omega)
  have cn_x2382 := i_cl (x := x2382) (by omega)
  exact J12 ((32 - x2382.toInt).toNat + 1)  ls2383 s.heap [] (0) (0) (x2382) (lv_sub hl2384 [3, 4, 5, 6, 2, 1, 0] rfl) hT hS (by decide) (by have := i_rng x2382; omega) emq eoq eaq esq euq enq etq efq ewq ejq elm hg_CG f0_s_oq f0_s_aq f0_s_uq f0_s_nq f0_s_tq f0_s_fq f0_s_wq f0_s_jq (by omega) (by omega) (HD.mk (Or.inl ⟨rfl, rfl, by rw [show x2382.toNatClampNeg = 16 * x1.toNatClampNeg by omega, show 16 * x1.toNatClampNeg + lm.toNatClampNeg - 16 * x1.toNatClampNeg = lm.toNatClampNeg by omega]⟩))
