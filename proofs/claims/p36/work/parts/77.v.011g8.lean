/-! ===== laws as functions; tones, being lost ===== -/
abbrev TF : Type := Int → Int → (Nat → Int32) → Int
/-- what the class's text tx comes to: fsE its sums, fwE its conditions -/
def TXC (K : KE) (H : Heap) (tx : Nat) (lw : Int) (fsE fwE : Nat → EF) : Prop :=
  (∀ l : Nat, (l : Int) < (fI H tx (K.1.2 7 0)).toInt → ∀ j : Nat, (((fI H (fR H tx (K.1.2 7 5)) l).toNatClampNeg ≤ j ∧ j < (fI H (fR H tx (K.1.2 7 6)) l).toNatClampNeg) ∨ ((fI H (fR H tx (K.1.2 7 6)) l).toNatClampNeg ≤ j ∧ j < (fI H (fR H tx (K.1.2 7 7)) l).toNatClampNeg)) → 0 ≤ (fI H (fR H tx (K.1.2 7 8)) j).toInt) ∧
  (∀ l : Nat, (l : Int) < (fI H tx (K.1.2 7 0)).toInt → ∀ un k : Nat → Int32, vlC un (fun j => fI H (fR H tx (K.1.2 7 8)) j) k (fI H (fR H tx (K.1.2 7 5)) l).toNatClampNeg (fI H (fR H tx (K.1.2 7 6)) l).toNatClampNeg = fsE l (mkE lw (eC un))) ∧
  (∀ l : Nat, (l : Int) < (fI H tx (K.1.2 7 0)).toInt → (fI H (fR H tx (K.1.2 7 6)) l).toInt < (fI H (fR H tx (K.1.2 7 7)) l).toInt → ∀ un k : Nat → Int32, vlC un (fun j => fI H (fR H tx (K.1.2 7 8)) j) k (fI H (fR H tx (K.1.2 7 6)) l).toNatClampNeg (fI H (fR H tx (K.1.2 7 7)) l).toNatClampNeg = fwE l (mkE lw (eC un)))
def tlC (K : KE) (H : Heap) (tx : Nat) (fsE fwE : Nat → EF) : TF := fun w k e => tlA H (fR H tx (K.1.2 7 1)) (fR H tx (K.1.2 7 2)) (fR H tx (K.1.2 7 6)) (fR H tx (K.1.2 7 7)) fsE fwE w k (fI H tx (K.1.2 7 0)).toNatClampNeg e
def toneV (T : TF) (sz : Int) (th gr he wx : Nat → Int) (k : Int) : Int := rtF (suI (fun j => T 0 k (seE sz (j : Int) (th j) (gr j) (he j) (wx j))) sz.toNat) (suI (fun j => T 1 k (seE sz (j : Int) (th j) (gr j) (he j) (wx j))) sz.toNat)
def loV (t : Int → Int) (g : Nat → Int) (sl : Int) : Nat → Nat → Bool
  | 0, _ => false
  | f + 1, k => if g k ≠ 0 ∧ t (k : Int) < g k - sl then true else loV t g sl f (k + 1)
def trV (t : Int → Int) (g : Nat → Int) (sl : Int) : Nat → Nat → Bool
  | 0, _ => true
  | f + 1, k => if g k ≠ 0 ∧ (t (k : Int) - g k > sl ∨ g k - t (k : Int) > sl) then false else trV t g sl f (k + 1)
theorem loV_y {t : Int → Int} {g : Nat → Int} {sl : Int} {f k : Nat} (hf : 0 < f) (h : g k ≠ 0 ∧ t (k : Int) < g k - sl) : loV t g sl f k = true := by
  obtain ⟨f, rfl⟩ : ∃ z, f = z + 1 := ⟨f - 1, by omega⟩
  exact if_pos h
theorem loV_n {t : Int → Int} {g : Nat → Int} {sl : Int} {f e k m : Nat} (hf : f = e + 1) (hm : m = k + 1) (h : ¬ (g k ≠ 0 ∧ t (k : Int) < g k - sl)) : loV t g sl f k = loV t g sl e m := by
  subst hf; subst hm; exact if_neg h
theorem loV_0 {t : Int → Int} {g : Nat → Int} {sl : Int} {f k : Nat} (hf : f = 0) : loV t g sl f k = false := by subst hf; rfl
theorem trV_y {t : Int → Int} {g : Nat → Int} {sl : Int} {f k : Nat} (hf : 0 < f) (h : g k ≠ 0 ∧ (t (k : Int) - g k > sl ∨ g k - t (k : Int) > sl)) : trV t g sl f k = false := by
  obtain ⟨f, rfl⟩ : ∃ z, f = z + 1 := ⟨f - 1, by omega⟩
  exact if_pos h
theorem trV_n {t : Int → Int} {g : Nat → Int} {sl : Int} {f e k m : Nat} (hf : f = e + 1) (hm : m = k + 1) (h : ¬ (g k ≠ 0 ∧ (t (k : Int) - g k > sl ∨ g k - t (k : Int) > sl))) : trV t g sl f k = trV t g sl e m := by
  subst hf; subst hm; exact if_neg h
theorem trV_0 {t : Int → Int} {g : Nat → Int} {sl : Int} {f k : Nat} (hf : f = 0) : trV t g sl f k = true := by subst hf; rfl
theorem loV_congr {t t1 g g1 : _} {sl : Int} : ∀ (f k : Nat), (∀ j : Nat, j < k + f → (t1 : Int → Int) (j : Int) = t (j : Int) ∧ (g1 : Nat → Int) j = g j) → loV t1 g1 sl f k = loV t g sl f k
  | 0, _, _ => rfl
  | f + 1, k, h => by
    have hk := h k (by omega)
    show (if g1 k ≠ 0 ∧ t1 (k : Int) < g1 k - sl then true else loV t1 g1 sl f (k + 1)) = (if g k ≠ 0 ∧ t (k : Int) < g k - sl then true else loV t g sl f (k + 1))
    rw [hk.1, hk.2, loV_congr f (k + 1) (fun j hj => h j (by omega))]
/-! ===== a later heap: all but units (83) and stack (84) as it was ===== -/
def FRM (G : Nat → Option Nat) (H1 H : Heap) : Prop := ∀ q t : Nat, G q = some t → t ≠ 83 → t ≠ 84 → H1[q]? = H[q]?
theorem FRM.rf {G : Nat → Option Nat} {H : Heap} : FRM G H H := fun _ _ _ _ _ => rfl
/-- the texts' cells (16 .. 24) are as they were -/
def TXF (G : Nat → Option Nat) (H1 H : Heap) : Prop := ∀ q t : Nat, G q = some t → 16 ≤ t → t ≤ 24 → H1[q]? = H[q]?
theorem TXF.rf {G : Nat → Option Nat} {H : Heap} : TXF G H H := fun _ _ _ _ _ => rfl
theorem FRM.tx {G : Nat → Option Nat} {H1 H : Heap} (fr : FRM G H1 H) : TXF G H1 H := fun q t g h1 h2 => fr q t g (by omega) (by omega)
section
variable {K : KE} {G : Nat → Option Nat} {H H1 : Heap} {tx q : Nat} {lw : Int} {fsE fwE : Nat → EF}
theorem FRM.I {t i : Nat} (fr : FRM G H1 H) (g : G q = some t) (h1 : t ≠ 83) (h2 : t ≠ 84) : fI H1 q i = fI H q i := fI_kept (fr q t g h1 h2)
theorem FRM.R {t i : Nat} (fr : FRM G H1 H) (g : G q = some t) (h1 : t ≠ 83) (h2 : t ≠ 84) : fR H1 q i = fR H q i := fR_kept (fr q t g h1 h2)
theorem TXF.I {t i : Nat} (fr : TXF G H1 H) (g : G q = some t) (h1 : 16 ≤ t) (h2 : t ≤ 24) : fI H1 q i = fI H q i := fI_kept (fr q t g h1 h2)
theorem TXF.R {t i : Nat} (fr : TXF G H1 H) (g : G q = some t) (h1 : 16 ≤ t) (h2 : t ≤ 24) : fR H1 q i = fR H q i := fR_kept (fr q t g h1 h2)
theorem TXC.frm (hT : TY K G H) (g : G tx = some 16) (fr : TXF G H1 H) (h : TXC K H tx lw fsE fwE) : TXC K H1 tx lw fsE fwE := by
  have e0 : fI H1 tx (K.1.2 7 0) = fI H tx (K.1.2 7 0) := fr.I g (by decide) (by decide)
  have e5 : fR H1 tx (K.1.2 7 5) = fR H tx (K.1.2 7 5) := fr.R g (by decide) (by decide)
  have e6 : fR H1 tx (K.1.2 7 6) = fR H tx (K.1.2 7 6) := fr.R g (by decide) (by decide)
  have e7 : fR H1 tx (K.1.2 7 7) = fR H tx (K.1.2 7 7) := fr.R g (by decide) (by decide)
  have e8 : fR H1 tx (K.1.2 7 8) = fR H tx (K.1.2 7 8) := fr.R g (by decide) (by decide)
  have a5 : ∀ j, fI H1 (fR H tx (K.1.2 7 5)) j = fI H (fR H tx (K.1.2 7 5)) j := fun j => fr.I (ty_fr (q := _) (k := 5) (u := 21) rfl hT g rg_16 rfl) (by decide) (by decide)
  have a6 : ∀ j, fI H1 (fR H tx (K.1.2 7 6)) j = fI H (fR H tx (K.1.2 7 6)) j := fun j => fr.I (ty_fr (q := _) (k := 6) (u := 22) rfl hT g rg_16 rfl) (by decide) (by decide)
  have a7 : ∀ j, fI H1 (fR H tx (K.1.2 7 7)) j = fI H (fR H tx (K.1.2 7 7)) j := fun j => fr.I (ty_fr (q := _) (k := 7) (u := 23) rfl hT g rg_16 rfl) (by decide) (by decide)
  have a8 : ∀ j, fI H1 (fR H tx (K.1.2 7 8)) j = fI H (fR H tx (K.1.2 7 8)) j := fun j => fr.I (ty_fr (q := _) (k := 8) (u := 24) rfl hT g rg_16 rfl) (by decide) (by decide)
  unfold TXC at h ⊢
  simp only [e0, e5, e6, e7, e8, a5, a6, a7, a8]
  exact h
theorem tlC_frm (hT : TY K G H) (g : G tx = some 16) (fr : TXF G H1 H) : tlC K H1 tx fsE fwE = tlC K H tx fsE fwE := by
  have e0 : fI H1 tx (K.1.2 7 0) = fI H tx (K.1.2 7 0) := fr.I g (by decide) (by decide)
  have e1 : fR H1 tx (K.1.2 7 1) = fR H tx (K.1.2 7 1) := fr.R g (by decide) (by decide)
  have e2 : fR H1 tx (K.1.2 7 2) = fR H tx (K.1.2 7 2) := fr.R g (by decide) (by decide)
  have e6 : fR H1 tx (K.1.2 7 6) = fR H tx (K.1.2 7 6) := fr.R g (by decide) (by decide)
  have e7 : fR H1 tx (K.1.2 7 7) = fR H tx (K.1.2 7 7) := fr.R g (by decide) (by decide)
  funext w k e
  unfold tlC tlA
  rw [e0, e1, e2, e6, e7]
  exact tdA_congr (fun j => fr.I (ty_fr (q := _) (k := 1) (u := 17) rfl hT g rg_16 rfl) (by decide) (by decide)) (fun j => fr.I (ty_fr (q := _) (k := 2) (u := 18) rfl hT g rg_16 rfl) (by decide) (by decide)) (fun j => fr.I (ty_fr (q := _) (k := 6) (u := 22) rfl hT g rg_16 rfl) (by decide) (by decide)) (fun j => fr.I (ty_fr (q := _) (k := 7) (u := 23) rfl hT g rg_16 rfl) (by decide) (by decide))
/-- a row of a bar, as numbers -/
def bvC (K : KE) (H : Heap) (q k : Nat) : Nat → Int := fun j => (fI H (fR H q (K.1.2 0 k)) j).toInt
theorem bvC_frm {k u : Nat} (g : G q = some 1) (gu : G (fR H q (K.1.2 0 k)) = some u) (h1 : u ≠ 83) (h2 : u ≠ 84) (fr : FRM G H1 H) : bvC K H1 q k = bvC K H q k := by
  funext j
  unfold bvC
  rw [fr.R g (by decide) (by decide), fr.I gu h1 h2]
/-- a tone of a bar of the class by the law tx -/
def tnC (K : KE) (H : Heap) (tx q : Nat) (fsE fwE : Nat → EF) : Int → Int := fun k => toneV (tlC K H tx fsE fwE) (fI H q (K.1.2 0 0)).toInt (bvC K H q 1) (bvC K H q 2) (bvC K H q 3) (bvC K H q 4) k
theorem tnC_frm (hT : TY K G H) (g : G tx = some 16) (gq : G q = some 1) (fr : FRM G H1 H) : tnC K H1 tx q fsE fwE = tnC K H tx q fsE fwE := by
  funext k
  unfold tnC
  rw [tlC_frm hT g fr.tx, fr.I gq (by decide) (by decide), bvC_frm gq (ty_fr (q := _) (k := 1) (u := 2) rfl hT gq rg_1 rfl) (by decide) (by decide) fr, bvC_frm gq (ty_fr (q := _) (k := 2) (u := 3) rfl hT gq rg_1 rfl) (by decide) (by decide) fr, bvC_frm gq (ty_fr (q := _) (k := 3) (u := 4) rfl hT gq rg_1 rfl) (by decide) (by decide) fr, bvC_frm gq (ty_fr (q := _) (k := 4) (u := 5) rfl hT gq rg_1 rfl) (by decide) (by decide) fr]
end
set_option maxHeartbeats 4000000 in
set_option maxRecDepth 100000 in
theorem a_X8_law_v (l : Launch) (K : KE) (G : Nat → Option Nat) (H : Heap) {a0 lawq tx : Nat} (fo : Int32) (hT : TY K G H) (ga0 : G a0 = some 0) (glawq : G lawq = some 26) (elawq : lawq = fR H a0 (K.1.2 8 2)) (efo : fo = fI H a0 (K.1.2 8 4)) (gtx : G tx = some 16) (etx : tx = fR H lawq fo.toNatClampNeg) : MX l K yX8_law cX8_law 1 (some (.object "RingBars$Text")) 0 0 0 0 [.ref a0] H (AE G [] H.size) (fun v H1 => H1 = H ∧ v = some (.ref tx)) := by
  refine MX.of (by decide +kernel) (Nat.le_of_ble_eq_true rfl) ?_
  intro p e s m below meth c ls Q C hH hl hQ
  subst hH
  have C : CX p K s m _ meth c RX8 cX8_law 1 (some (.object "RingBars$Text")) "law" := C
  obtain ⟨hx, hb, hml, hown, hts, hKT, hr, hlocks, hnm⟩ := id C
  have hl : lv_has ls 1 [(0, .ref a0)] := hl
  have hS : va_S (AE G [] s.heap.size) s.heap s.heap [] := va_S.rf
  skip
  have bfo := ty_fi (x := fo) (k := 4) efo hT ga0 rg_0 rfl
  refine lv_aload_n hx hb dX8_law_0 rfl (lv_at hl 0 rfl) ?_
  refine x_gr C hT (ci := 8) (k := 2) rfl inX8 (by decide) wF_X8_19 ga0 rg_0 rfl dX8_law_1 (fun q101 eq101 gq101 => ?_)
  have uq101 : lawq = q101 := (elawq).trans eq101.symm
  subst uq101
  refine lv_aload_n hx hb dX8_law_4 rfl (lv_at hl 0 rfl) ?_
  refine x_gi C hT (ci := 8) (k := 4) rfl inX8 (by decide) wF_X8_54 ga0 rg_0 rfl dX8_law_5 (fun x102 ex102 bx102 => ?_)
  have ux102 : fo = x102 := (efo).trans ex102.symm
  subst ux102
  refine x_ar C hT rfl rfl glawq rg_26 ⟨by omega, by show _ < ((2 : Nat) : Int); omega⟩ dX8_law_8 (fun q103 eq103 gq103 => ?_)
  exact x_aret C hQ (Or.inr ⟨_, rfl⟩) dX8_law_9 hS (by decide) (by decide) (⟨rfl, by rw [← show tx = q103 from etx.trans eq103.symm]⟩)

set_option maxHeartbeats 4000000 in
set_option maxRecDepth 100000 in
theorem a_X9_toneNow_v (l : Launch) (K : KE) (G : Nat → Option Nat) (H : Heap) {a0 : Nat} {a1 : Nat} (x2 : Int32) {smq : Nat} {w0 : Nat} {lawq : Nat} {tx : Nat} (fo : Int32) (fsE : Nat → EF) (fwE : Nat → EF) (hT : TY K G H) (ga0 : G a0 = some 68) (ga1 : G a1 = some 1) (hx2 : 0 ≤ x2.toInt ∧ x2.toInt ≤ 2) (gsmq : G smq = some 82) (esmq : smq = fR H a0 (K.1.2 9 5)) (gw0 : G w0 = some 0) (ew0 : w0 = fR H a0 (K.1.2 9 0)) (glawq : G lawq = some 26) (elawq : lawq = fR H w0 (K.1.2 8 2)) (gtx : G tx = some 16) (etx : tx = fR H lawq (fo : Int32).toNatClampNeg) (efo : fo = fI H w0 (K.1.2 8 4)) (hy0 : TXC K H tx 1 fsE fwE) : MX l K yX9_toneNow cX9_toneNow 3 (some .int) 4 104 0 0 [.ref a0, .ref a1, .int x2] H (AE G [83, 84] H.size) (fun v H1 => ∃ (r : Int32), v = some (.int r) ∧ (0 ≤ r.toInt ∧ r.toInt ≤ 2000000000) ∧ (r.toInt = tnC K H tx a1 fsE fwE x2.toInt) ∧ TY K G H1) := by
  refine MX.of (by decide +kernel) (Nat.le_of_ble_eq_true rfl) ?_
  intro p e s m below meth c ls Q C hH hl hQ
  subst hH
  have C : CX p K s m _ meth c RX9 cX9_toneNow 3 (some .int) "toneNow" := C
  obtain ⟨hx, hb, hml, hown, hts, hKT, hr, hlocks, hnm⟩ := id C
  have hl : lv_has ls 3 [(0, .ref a0), (1, .ref a1), (2, .int x2)] := hl
  have hS : va_S (AE G [83, 84] s.heap.size) s.heap s.heap [] := va_S.rf
  skip
  have bfo := ty_fi (x := fo) (k := 4) efo hT gw0 rg_0 rfl
  refine lv_aload_n hx hb dX9_toneNow_0 rfl (lv_at hl 0 rfl) ?_
  refine x_gr C hT (ci := 9) (k := 5) rfl inX9 (by decide) wF_X9_30 ga0 rg_68 rfl dX9_toneNow_1 (fun q257 eq257 gq257 => ?_)
  have uq257 : smq = q257 := (esmq).trans eq257.symm
  subst uq257
  refine lv_aload_n hx hb dX9_toneNow_4 rfl (lv_at hl 0 rfl) ?_
  refine x_gr C hT (ci := 9) (k := 0) rfl inX9 (by decide) wF_X9_12 ga0 rg_68 rfl dX9_toneNow_5 (fun q258 eq258 gq258 => ?_)
  have uq258 : w0 = q258 := (ew0).trans eq258.symm
  subst uq258
  refine x_V (As := []) (rest := [.ref smq]) C (a_X8_law_v l K G s.heap (fo) hT gw0 glawq elawq efo gtx etx) yo_X8_law wM_X9_212 ⟨⟨by decide, by decide⟩, by decide, by decide⟩ (x_rv C hT (ci := 8) rfl gw0 rg_0) rfl hl.1 rfl (Nat.le_of_ble_eq_true rfl) dX9_toneNow_8 hS (AE_sub (fun _ _ => rfl) (by decide) hS.1) (fun vH259 H259 locsH259 pH259 zH259 kH259 hSH259 => ?_)
  have hqH259 := pH259.1.symm
  subst hqH259
  have hvH259 := pH259.2
  subst hvH259
  refine W.eq (g2 := F0 m 11 ls [.ref tx, .ref smq]) rfl ?_
  refine lv_iload_n hx hb dX9_toneNow_11 rfl (lv_at hl 2 rfl) ?_
  refine lv_aload_n hx hb dX9_toneNow_12 rfl (lv_at hl 1 rfl) ?_
  refine lv_aload_n hx hb dX9_toneNow_13 rfl (lv_at hl 1 rfl) ?_
  refine x_gr C hT (ci := 0) (k := 1) rfl inX0 (by decide) wF_X9_93 ga1 rg_1 rfl dX9_toneNow_14 (fun q260 eq260 gq260 => ?_)
  refine lv_aload_n hx hb dX9_toneNow_17 rfl (lv_at hl 1 rfl) ?_
  refine x_gr C hT (ci := 0) (k := 2) rfl inX0 (by decide) wF_X9_96 ga1 rg_1 rfl dX9_toneNow_18 (fun q261 eq261 gq261 => ?_)
  refine lv_aload_n hx hb dX9_toneNow_21 rfl (lv_at hl 1 rfl) ?_
  refine x_gr C hT (ci := 0) (k := 4) rfl inX0 (by decide) wF_X9_102 ga1 rg_1 rfl dX9_toneNow_22 (fun q262 eq262 gq262 => ?_)
  obtain ⟨q263, eq263⟩ : ∃ z : Nat, z = fR s.heap smq (K.1.2 6 0) := ⟨_, rfl⟩
  have gq263 := ty_fr (q := q263) (k := 0) (u := 83) eq263 hT gsmq rg_82 rfl
  obtain ⟨q264, eq264⟩ : ∃ z : Nat, z = fR s.heap smq (K.1.2 6 1) := ⟨_, rfl⟩
  have gq264 := ty_fr (q := q264) (k := 1) (u := 84) eq264 hT gsmq rg_82 rfl
  obtain ⟨q265, eq265⟩ : ∃ z : Nat, z = fR s.heap tx (K.1.2 7 8) := ⟨_, rfl⟩
  have gq265 := ty_fr (q := q265) (k := 8) (u := 24) eq265 hT gtx rg_16 rfl
  obtain ⟨q266, eq266⟩ : ∃ z : Nat, z = fR s.heap tx (K.1.2 7 1) := ⟨_, rfl⟩
  have gq266 := ty_fr (q := q266) (k := 1) (u := 17) eq266 hT gtx rg_16 rfl
  obtain ⟨q267, eq267⟩ : ∃ z : Nat, z = fR s.heap tx (K.1.2 7 2) := ⟨_, rfl⟩
  have gq267 := ty_fr (q := q267) (k := 2) (u := 18) eq267 hT gtx rg_16 rfl
  obtain ⟨q268, eq268⟩ : ∃ z : Nat, z = fR s.heap tx (K.1.2 7 5) := ⟨_, rfl⟩
  have gq268 := ty_fr (q := q268) (k := 5) (u := 21) eq268 hT gtx rg_16 rfl
  obtain ⟨q269, eq269⟩ : ∃ z : Nat, z = fR s.heap tx (K.1.2 7 6) := ⟨_, rfl⟩
  have gq269 := ty_fr (q := q269) (k := 6) (u := 22) eq269 hT gtx rg_16 rfl
  obtain ⟨q270, eq270⟩ : ∃ z : Nat, z = fR s.heap tx (K.1.2 7 7) := ⟨_, rfl⟩
  have gq270 := ty_fr (q := q270) (k := 7) (u := 23) eq270 hT gtx rg_16 rfl
  obtain ⟨q271, eq271⟩ : ∃ z : Nat, z = fR s.heap a1 (K.1.2 0 3) := ⟨_, rfl⟩
  have gq271 := ty_fr (q := q271) (k := 3) (u := 4) eq271 hT ga1 rg_1 rfl
  obtain ⟨x272, ex272⟩ : ∃ z : Int32, z = fI s.heap tx (K.1.2 7 0) := ⟨_, rfl⟩
  have bx272 := ty_fi (x := x272) (k := 0) ex272 hT gtx rg_16 rfl
  obtain ⟨x273, ex273⟩ : ∃ z : Int32, z = fI s.heap a1 (K.1.2 0 0) := ⟨_, rfl⟩
  have bx273 := ty_fi (x := x273) (k := 0) ex273 hT ga1 rg_1 rfl
  refine x_V (As := [.ref tx, .int x2, .ref a1, .ref q260, .ref q261, .ref q262]) (rest := []) C (a_X6_toneOf_v l K G s.heap (x2) (x272) (x273) (fsE) (fwE) hT gsmq gtx (by omega) ga1 gq260 gq261 gq262 gq263 eq263 gq264 eq264 gq265 eq265 gq266 eq266 gq267 eq267 gq268 eq268 gq269 eq269 gq270 eq270 gq271 eq271 ex272 ex273 (by rw [eq265, eq268, eq269, eq270, ex272]; exact hy0.1) (by rw [eq265, eq268, eq269, ex272]; exact hy0.2.1) (by rw [eq265, eq269, eq270, ex272]; exact hy0.2.2)) yo_X6_toneOf wM_X9_216 ⟨⟨by decide, by decide⟩, by decide, by decide⟩ (x_rv C hT (ci := 6) rfl gsmq rg_82) rfl hl.1 rfl (Nat.le_of_ble_eq_true rfl) dX9_toneNow_25 hSH259 (AE_sub (fun _ _ => rfl) (by decide) hSH259.1) (fun vH274 H274 locsH274 pH274 zH274 kH274 hSH274 => ?_)
  obtain ⟨x275, hvH274, bx275, m276, hTH274⟩ := pH274
  subst hvH274
  have m277 := (esmq).trans (fR_kept (x_lt hT kH274 ga0 (by decide))).symm
  have m278 := (ew0).trans (fR_kept (x_lt hT kH274 ga0 (by decide))).symm
  have m279 := (elawq).trans (fR_kept (x_lt hT kH274 gw0 (by decide))).symm
  have m280 := (etx).trans (fR_kept (x_lt hT kH274 glawq (by decide))).symm
  have m281 := (efo).trans (fI_kept (x_lt hT kH274 gw0 (by decide))).symm
  have m282 := (eq260).trans (fR_kept (x_lt hT kH274 ga1 (by decide))).symm
  have m283 := (eq261).trans (fR_kept (x_lt hT kH274 ga1 (by decide))).symm
  have m284 := (eq262).trans (fR_kept (x_lt hT kH274 ga1 (by decide))).symm
  have m285 := (eq263).trans (fR_kept (x_lt hT kH274 gsmq (by decide))).symm
  have m286 := (eq264).trans (fR_kept (x_lt hT kH274 gsmq (by decide))).symm
  have m287 := (eq265).trans (fR_kept (x_lt hT kH274 gtx (by decide))).symm
  have m288 := (eq266).trans (fR_kept (x_lt hT kH274 gtx (by decide))).symm
  have m289 := (eq267).trans (fR_kept (x_lt hT kH274 gtx (by decide))).symm
  have m290 := (eq268).trans (fR_kept (x_lt hT kH274 gtx (by decide))).symm
  have m291 := (eq269).trans (fR_kept (x_lt hT kH274 gtx (by decide))).symm
  have m292 := (eq270).trans (fR_kept (x_lt hT kH274 gtx (by decide))).symm
  have m293 := (eq271).trans (fR_kept (x_lt hT kH274 ga1 (by decide))).symm
  have m294 := (ex272).trans (fI_kept (x_lt hT kH274 gtx (by decide))).symm
  have m295 := (ex273).trans (fI_kept (x_lt hT kH274 ga1 (by decide))).symm
  refine W.eq (g2 := F0 m 28 ls [.int x275]) rfl ?_
  exact x_iret C hQ dX9_toneNow_28 hSH274 (by decide) (by decide) (⟨x275, rfl, by omega, (by rw [m276, eq266, eq267, eq269, eq270, ex272, ex273, eq271, eq260, eq261, eq262]; rfl), hTH274⟩)

set_option maxHeartbeats 4000000 in
set_option maxRecDepth 100000 in
theorem a_X9_isLost_v (l : Launch) (K : KE) (G : Nat → Option Nat) (H : Heap) {a0 : Nat} {a1 : Nat} {smq : Nat} {w0 : Nat} {lawq : Nat} {tx : Nat} {gq : Nat} (fo : Int32) (sl : Int32) (fsE : Nat → EF) (fwE : Nat → EF) (hT : TY K G H) (ga0 : G a0 = some 68) (ga1 : G a1 = some 1) (gsmq : G smq = some 82) (esmq : smq = fR H a0 (K.1.2 9 5)) (gw0 : G w0 = some 0) (ew0 : w0 = fR H a0 (K.1.2 9 0)) (glawq : G lawq = some 26) (elawq : lawq = fR H w0 (K.1.2 8 2)) (gtx : G tx = some 16) (etx : tx = fR H lawq (fo : Int32).toNatClampNeg) (ggq : G gq = some 6) (egq : gq = fR H a1 (K.1.2 0 5)) (efo : fo = fI H w0 (K.1.2 8 4)) (esl : sl = fI H w0 (K.1.2 8 5)) (hp0 : 0 ≤ sl.toInt ∧ sl.toInt ≤ 9999) (hy0 : TXC K H tx 1 fsE fwE) (hy1 : ∀ j : Nat, j < 3 → 0 ≤ (fI H gq j).toInt ∧ (fI H gq j).toInt ≤ 999999) : MX l K yX9_isLost cX9_isLost 3 (some .boolean) 4 104 0 0 [.ref a0, .ref a1] H (AE G [83, 84] H.size) (fun v H1 => ∃ (r : Int32), v = some (.int r) ∧ (0 ≤ r.toInt ∧ r.toInt ≤ 1) ∧ (loV (tnC K H tx a1 fsE fwE) (fun j : Nat => (fI H gq j).toInt) sl.toInt 3 0 = decide (r.toInt = 1)) ∧ TY K G H1) := by
  refine MX.of (by decide +kernel) (Nat.le_of_ble_eq_true rfl) ?_
  intro p e s m below meth c ls Q C hH hl hQ
  subst hH
  have C : CX p K s m _ meth c RX9 cX9_isLost 3 (some .boolean) "isLost" := C
  obtain ⟨hx, hb, hml, hown, hts, hKT, hr, hlocks, hnm⟩ := id C
  have hl : lv_has ls 3 [(0, .ref a0), (1, .ref a1)] := hl
  have hS : va_S (AE G [83, 84] s.heap.size) s.heap s.heap [] := va_S.rf
  have n_0 : (0 : Int32).toInt = 0 := rfl
  have n_1 : (1 : Int32).toInt = 1 := rfl
  have n_3 : (3 : Int32).toInt = 3 := rfl
  have bfo := ty_fi (x := fo) (k := 4) efo hT gw0 rg_0 rfl
  have bsl := ty_fi (x := sl) (k := 5) esl hT gw0 rg_0 rfl
  have f0_fr : FRM G s.heap s.heap := FRM.rf
  have f0_s_gq : ∀ j : Nat, fI s.heap gq j = fI s.heap gq j := fun _ => rfl
  have J2 : ∀ (nf : Nat)  (ls558 : Array Slot) (H557 : Heap) (locsH557 : List Loc) (x560 : Int32), lv_has ls558 3 [(0, .ref a0), (1, .ref a1), (2, .int x560)] → TY K G H557 → va_S (AE G [83, 84] s.heap.size) s.heap H557 locsH557 → (0 ≤ x560.toInt ∧ x560.toInt ≤ 3) → (smq = fR H557 a0 (K.1.2 9 5)) → (w0 = fR H557 a0 (K.1.2 9 0)) → (lawq = fR H557 w0 (K.1.2 8 2)) → (tx = fR H557 lawq (fo : Int32).toNatClampNeg) → (gq = fR H557 a1 (K.1.2 0 5)) → (fo = fI H557 w0 (K.1.2 8 4)) → (sl = fI H557 w0 (K.1.2 8 5)) → (FRM G H557 s.heap) → (∀ j : Nat, fI H557 gq j = fI s.heap gq j) → (3 - x560.toInt < (nf : Int)) → (loV (tnC K s.heap tx a1 fsE fwE) (fun j : Nat => (fI s.heap gq j).toInt) sl.toInt (3) 0 = loV (tnC K s.heap tx a1 fsE fwE) (fun j : Nat => (fI s.heap gq j).toInt) sl.toInt (3 - x560.toNatClampNeg) x560.toNatClampNeg) → W p l e ({ frames := 4, cells := 0, slots := 0, locals := 104 } : Room) s m (([.ref a0, .ref a1] : List Value).toArray) below meth c H557 locsH557 0 0 Q (F0 m 2 ls558 []) := by
    intro nf
    induction nf with
    | zero =>
      intro  ls558 H557 locsH557 x560 hl559 hTH557 hSH557 bx560 cy561_0 cy561_1 cy561_2 cy561_3 cy561_4 cy561_5 cy561_6 fy561_fr fy561_s_gq hm2 hsp2
      exfalso
      omega
    | succ nf ih2 =>
      intro  ls558 H557 locsH557 x560 hl559 hTH557 hSH557 bx560 cy561_0 cy561_1 cy561_2 cy561_3 cy561_4 cy561_5 cy561_6 fy561_fr fy561_s_gq hm2 hsp2
      refine lv_iload_n hx hb dX9_isLost_2 rfl (lv_at hl559 2 rfl) ?_
      refine lv_iconst (v := 3) hx hb dX9_isLost_3 (by decide) ?_
      refine lv_icmp_ge (tgt := 69) hx hb dX9_isLost_4 (by decide) (fun c562 => ?_) (fun c562 => ?_)
      · have k563 := i_le c562
        refine lv_iconst (v := 0) hx hb dX9_isLost_69 (by decide) ?_
        have cn_x560 := i_cl (x := x560) (by omega)
        exact x_zret C hQ (Or.inl rfl) dX9_isLost_70 hSH557 (by decide) (by decide) (⟨0, rfl, by decide, (by rw [hsp2, loV_0 (by omega)]; rfl), hTH557⟩)
      · have k563 := i_nle c562
        refine lv_aload_n hx hb dX9_isLost_7 rfl (lv_at hl559 1 rfl) ?_
        refine x_gr C hTH557 (ci := 0) (k := 5) rfl inX0 (by decide) wF_X9_181 ga1 rg_1 rfl dX9_isLost_8 (fun q564 eq564 gq564 => ?_)
        have uq564 : gq = q564 := (cy561_4).trans eq564.symm
        subst uq564
        refine lv_iload_n hx hb dX9_isLost_11 rfl (lv_at hl559 2 rfl) ?_
        refine x_ai C hTH557 ggq rg_6 ⟨by omega, by show _ < ((3 : Nat) : Int); omega⟩ dX9_isLost_12 (fun x565 ex565 bx565 => ?_)
        have cn_x560 := i_cl (x := x560) (by omega)
        have bg566 : 0 ≤ x565.toInt ∧ x565.toInt ≤ 999999 := by rw [show x565 = fI s.heap gq x560.toNatClampNeg from ex565.trans (fy561_s_gq _)]; exact hy1 x560.toNatClampNeg (by omega)
        refine lv_if_eq (tgt := 63) hx hb dX9_isLost_13 (by decide) (fun c567 => ?_) (fun c567 => ?_)
        · have k568 := i_eq c567
          obtain ⟨x569, ex569⟩ : ∃ y : Int32, y = x560 + 1 := ⟨_, rfl⟩
          have tx569 := i_add ex569 (by omega)
          refine lv_iinc (v := x569) (lv' := [(2, .int x569), (0, .ref a0), (1, .ref a1)]) hx hb dX9_isLost_63 hl559 (k := 2) rfl (by rw [ex569]; rfl) (by decide) rfl (fun ls570 hl571 => ?_)
          refine lv_goto (tgt := 2) hx hb dX9_isLost_66 (by decide) ?_
          have cn_x560 := i_cl (x := x560) (by omega)
          have cn_x569 := i_cl (x := x569) (by omega)
          have gz_ : fI s.heap gq x560.toNatClampNeg = x565 := ((fy561_s_gq _).symm.trans ex565.symm)
          exact ih2  ls570 H557 locsH557 (x569) (lv_sub hl571 [1, 2, 0] rfl) hTH557 hSH557 (by have := i_rng x569; omega) cy561_0 cy561_1 cy561_2 cy561_3 cy561_4 cy561_5 cy561_6 fy561_fr fy561_s_gq (by omega) (hsp2.trans (loV_n (e := 3 - x569.toNatClampNeg) (by omega) (by omega) (fun z => by have z1 : (fI s.heap gq x560.toNatClampNeg).toInt ≠ 0 ∧ _ := z; (try dsimp only at z1); rw [gz_] at z1; omega)))
        · have k568 := i_ne c567
          refine lv_aload_n hx hb dX9_isLost_16 rfl (lv_at hl559 0 rfl) ?_
          refine x_gr C hTH557 (ci := 9) (k := 5) rfl inX9 (by decide) wF_X9_30 ga0 rg_68 rfl dX9_isLost_17 (fun q572 eq572 gq572 => ?_)
          have uq572 : smq = q572 := (cy561_0).trans eq572.symm
          subst uq572
          refine lv_aload_n hx hb dX9_isLost_20 rfl (lv_at hl559 0 rfl) ?_
          refine x_gr C hTH557 (ci := 9) (k := 0) rfl inX9 (by decide) wF_X9_12 ga0 rg_68 rfl dX9_isLost_21 (fun q573 eq573 gq573 => ?_)
          have uq573 : w0 = q573 := (cy561_1).trans eq573.symm
          subst uq573
          refine x_V (As := []) (rest := [.ref smq]) C (a_X8_law_v l K G H557 (fo) hTH557 gw0 glawq cy561_2 cy561_5 gtx cy561_3) yo_X8_law wM_X9_212 ⟨⟨by decide, by decide⟩, by decide, by decide⟩ (x_rv C hTH557 (ci := 8) rfl gw0 rg_0) rfl hl559.1 rfl (Nat.le_of_ble_eq_true rfl) dX9_isLost_24 hSH557 (AE_sub (fun _ _ => rfl) (by decide) hSH557.1) (fun vH574 H574 locsH574 pH574 zH574 kH574 hSH574 => ?_)
          have hqH574 := pH574.1.symm
          subst hqH574
          have hvH574 := pH574.2
          subst hvH574
          refine W.eq (g2 := F0 m 27 ls558 [.ref tx, .ref smq]) rfl ?_
          refine lv_iload_n hx hb dX9_isLost_27 rfl (lv_at hl559 2 rfl) ?_
          refine lv_aload_n hx hb dX9_isLost_28 rfl (lv_at hl559 1 rfl) ?_
          refine lv_aload_n hx hb dX9_isLost_29 rfl (lv_at hl559 1 rfl) ?_
          refine x_gr C hTH557 (ci := 0) (k := 1) rfl inX0 (by decide) wF_X9_93 ga1 rg_1 rfl dX9_isLost_30 (fun q575 eq575 gq575 => ?_)
          refine lv_aload_n hx hb dX9_isLost_33 rfl (lv_at hl559 1 rfl) ?_
          refine x_gr C hTH557 (ci := 0) (k := 2) rfl inX0 (by decide) wF_X9_96 ga1 rg_1 rfl dX9_isLost_34 (fun q576 eq576 gq576 => ?_)
          refine lv_aload_n hx hb dX9_isLost_37 rfl (lv_at hl559 1 rfl) ?_
          refine x_gr C hTH557 (ci := 0) (k := 4) rfl inX0 (by decide) wF_X9_102 ga1 rg_1 rfl dX9_isLost_38 (fun q577 eq577 gq577 => ?_)
          obtain ⟨q578, eq578⟩ : ∃ z : Nat, z = fR H557 smq (K.1.2 6 0) := ⟨_, rfl⟩
          have gq578 := ty_fr (q := q578) (k := 0) (u := 83) eq578 hTH557 gsmq rg_82 rfl
          obtain ⟨q579, eq579⟩ : ∃ z : Nat, z = fR H557 smq (K.1.2 6 1) := ⟨_, rfl⟩
          have gq579 := ty_fr (q := q579) (k := 1) (u := 84) eq579 hTH557 gsmq rg_82 rfl
          obtain ⟨q580, eq580⟩ : ∃ z : Nat, z = fR H557 tx (K.1.2 7 8) := ⟨_, rfl⟩
          have gq580 := ty_fr (q := q580) (k := 8) (u := 24) eq580 hTH557 gtx rg_16 rfl
          obtain ⟨q581, eq581⟩ : ∃ z : Nat, z = fR H557 tx (K.1.2 7 1) := ⟨_, rfl⟩
          have gq581 := ty_fr (q := q581) (k := 1) (u := 17) eq581 hTH557 gtx rg_16 rfl
          obtain ⟨q582, eq582⟩ : ∃ z : Nat, z = fR H557 tx (K.1.2 7 2) := ⟨_, rfl⟩
          have gq582 := ty_fr (q := q582) (k := 2) (u := 18) eq582 hTH557 gtx rg_16 rfl
          obtain ⟨q583, eq583⟩ : ∃ z : Nat, z = fR H557 tx (K.1.2 7 5) := ⟨_, rfl⟩
          have gq583 := ty_fr (q := q583) (k := 5) (u := 21) eq583 hTH557 gtx rg_16 rfl
          obtain ⟨q584, eq584⟩ : ∃ z : Nat, z = fR H557 tx (K.1.2 7 6) := ⟨_, rfl⟩
          have gq584 := ty_fr (q := q584) (k := 6) (u := 22) eq584 hTH557 gtx rg_16 rfl
          obtain ⟨q585, eq585⟩ : ∃ z : Nat, z = fR H557 tx (K.1.2 7 7) := ⟨_, rfl⟩
          have gq585 := ty_fr (q := q585) (k := 7) (u := 23) eq585 hTH557 gtx rg_16 rfl
          obtain ⟨q586, eq586⟩ : ∃ z : Nat, z = fR H557 a1 (K.1.2 0 3) := ⟨_, rfl⟩
          have gq586 := ty_fr (q := q586) (k := 3) (u := 4) eq586 hTH557 ga1 rg_1 rfl
          obtain ⟨x587, ex587⟩ : ∃ z : Int32, z = fI H557 tx (K.1.2 7 0) := ⟨_, rfl⟩
          have bx587 := ty_fi (x := x587) (k := 0) ex587 hTH557 gtx rg_16 rfl
          obtain ⟨x588, ex588⟩ : ∃ z : Int32, z = fI H557 a1 (K.1.2 0 0) := ⟨_, rfl⟩
          have bx588 := ty_fi (x := x588) (k := 0) ex588 hTH557 ga1 rg_1 rfl
          refine x_V (As := [.ref tx, .int x560, .ref a1, .ref q575, .ref q576, .ref q577]) (rest := []) C (a_X6_toneOf_v l K G H557 (x560) (x587) (x588) (fsE) (fwE) hTH557 gsmq gtx (by omega) ga1 gq575 gq576 gq577 gq578 eq578 gq579 eq579 gq580 eq580 gq581 eq581 gq582 eq582 gq583 eq583 gq584 eq584 gq585 eq585 gq586 eq586 ex587 ex588 (by rw [eq580, eq583, eq584, eq585, ex587]; exact (TXC.frm hT gtx (FRM.tx fy561_fr) hy0).1) (by rw [eq580, eq583, eq584, ex587]; exact (TXC.frm hT gtx (FRM.tx fy561_fr) hy0).2.1) (by rw [eq580, eq584, eq585, ex587]; exact (TXC.frm hT gtx (FRM.tx fy561_fr) hy0).2.2)) yo_X6_toneOf wM_X9_216 ⟨⟨by decide, by decide⟩, by decide, by decide⟩ (x_rv C hTH557 (ci := 6) rfl gsmq rg_82) rfl hl559.1 rfl (Nat.le_of_ble_eq_true rfl) dX9_isLost_41 hSH574 (AE_sub (fun _ _ => rfl) (by decide) hSH574.1) (fun vH589 H589 locsH589 pH589 zH589 kH589 hSH589 => ?_)
          obtain ⟨x590, hvH589, bx590, m591, hTH589⟩ := pH589
          subst hvH589
          have f592 : FRM G H589 s.heap := (fun q t hq h1 h2 => (x_lt hTH557 kH589 hq (by intro z; simp only [List.mem_cons, List.not_mem_nil, or_false] at z <;> omega)).trans (fy561_fr q t hq h1 h2))
          have f593 : ∀ j : Nat, fI H589 gq j = fI s.heap gq j := fun j => (fI_kept (x_lt hTH557 kH589 ggq (by decide))).trans (fy561_s_gq j)
          have m594 := (cy561_0).trans (fR_kept (x_lt hTH557 kH589 ga0 (by decide))).symm
          have m595 := (cy561_1).trans (fR_kept (x_lt hTH557 kH589 ga0 (by decide))).symm
          have m596 := (cy561_2).trans (fR_kept (x_lt hTH557 kH589 gw0 (by decide))).symm
          have m597 := (cy561_3).trans (fR_kept (x_lt hTH557 kH589 glawq (by decide))).symm
          have m598 := (cy561_4).trans (fR_kept (x_lt hTH557 kH589 ga1 (by decide))).symm
          have m599 := (cy561_5).trans (fI_kept (x_lt hTH557 kH589 gw0 (by decide))).symm
          have m600 := (cy561_6).trans (fI_kept (x_lt hTH557 kH589 gw0 (by decide))).symm
          have m601 := (ex565).trans (fI_kept (x_lt hTH557 kH589 ggq (by decide))).symm
          have m602 := (eq575).trans (fR_kept (x_lt hTH557 kH589 ga1 (by decide))).symm
          have m603 := (eq576).trans (fR_kept (x_lt hTH557 kH589 ga1 (by decide))).symm
          have m604 := (eq577).trans (fR_kept (x_lt hTH557 kH589 ga1 (by decide))).symm
          have m605 := (eq578).trans (fR_kept (x_lt hTH557 kH589 gsmq (by decide))).symm
          have m606 := (eq579).trans (fR_kept (x_lt hTH557 kH589 gsmq (by decide))).symm
          have m607 := (eq580).trans (fR_kept (x_lt hTH557 kH589 gtx (by decide))).symm
          have m608 := (eq581).trans (fR_kept (x_lt hTH557 kH589 gtx (by decide))).symm
          have m609 := (eq582).trans (fR_kept (x_lt hTH557 kH589 gtx (by decide))).symm
          have m610 := (eq583).trans (fR_kept (x_lt hTH557 kH589 gtx (by decide))).symm
          have m611 := (eq584).trans (fR_kept (x_lt hTH557 kH589 gtx (by decide))).symm
          have m612 := (eq585).trans (fR_kept (x_lt hTH557 kH589 gtx (by decide))).symm
          have m613 := (eq586).trans (fR_kept (x_lt hTH557 kH589 ga1 (by decide))).symm
          have m614 := (ex587).trans (fI_kept (x_lt hTH557 kH589 gtx (by decide))).symm
          have m615 := (ex588).trans (fI_kept (x_lt hTH557 kH589 ga1 (by decide))).symm
          have tn616 : x590.toInt = tnC K s.heap tx a1 fsE fwE x560.toInt := by rw [← tnC_frm hT gtx ga1 fy561_fr, m591, eq581, eq582, eq584, eq585, ex587, ex588, eq586, eq575, eq576, eq577]; rfl
          refine W.eq (g2 := F0 m 44 ls558 [.int x590]) rfl ?_
          refine lv_aload_n hx hb dX9_isLost_44 rfl (lv_at hl559 1 rfl) ?_
          refine x_gr C hTH589 (ci := 0) (k := 5) rfl inX0 (by decide) wF_X9_181 ga1 rg_1 rfl dX9_isLost_45 (fun q617 eq617 gq617 => ?_)
          have uq617 : gq = q617 := (m598).trans eq617.symm
          subst uq617
          refine lv_iload_n hx hb dX9_isLost_48 rfl (lv_at hl559 2 rfl) ?_
          refine x_ai C hTH589 ggq rg_6 ⟨by omega, by show _ < ((3 : Nat) : Int); omega⟩ dX9_isLost_49 (fun x618 ex618 bx618 => ?_)
          have ux618 : x565 = x618 := (m601).trans ex618.symm
          subst ux618
          have cn_x560 := i_cl (x := x560) (by omega)
          have bg619 : 0 ≤ x565.toInt ∧ x565.toInt ≤ 999999 := by rw [show x565 = fI s.heap gq x560.toNatClampNeg from ex618.trans (f593 _)]; exact hy1 x560.toNatClampNeg (by omega)
          refine lv_aload_n hx hb dX9_isLost_50 rfl (lv_at hl559 0 rfl) ?_
          refine x_gr C hTH589 (ci := 9) (k := 0) rfl inX9 (by decide) wF_X9_12 ga0 rg_68 rfl dX9_isLost_51 (fun q620 eq620 gq620 => ?_)
          have uq620 : w0 = q620 := (m595).trans eq620.symm
          subst uq620
          refine x_gi C hTH589 (ci := 8) (k := 5) rfl inX8 (by decide) wF_X9_184 gw0 rg_0 rfl dX9_isLost_54 (fun x621 ex621 bx621 => ?_)
          have ux621 : sl = x621 := (m600).trans ex621.symm
          subst ux621
          refine lv_isub hx hb dX9_isLost_57 ?_
          refine lv_topi (fun x622 ex622 => ?_)
          have tx622 := i_sub ex622 (by omega)
          refine lv_icmp_ge (tgt := 63) hx hb dX9_isLost_58 (by decide) (fun c623 => ?_) (fun c623 => ?_)
          · have k624 := i_le c623
            obtain ⟨x625, ex625⟩ : ∃ y : Int32, y = x560 + 1 := ⟨_, rfl⟩
            have tx625 := i_add ex625 (by omega)
            refine lv_iinc (v := x625) (lv' := [(2, .int x625), (0, .ref a0), (1, .ref a1)]) hx hb dX9_isLost_63 hl559 (k := 2) rfl (by rw [ex625]; rfl) (by decide) rfl (fun ls626 hl627 => ?_)
            refine lv_goto (tgt := 2) hx hb dX9_isLost_66 (by decide) ?_
            have cn_x560 := i_cl (x := x560) (by omega)
            have cn_x625 := i_cl (x := x625) (by omega)
            have gz_ : fI s.heap gq x560.toNatClampNeg = x565 := ((fy561_s_gq _).symm.trans ex565.symm)
            have tz_ := tn616
            rw [show x560.toInt = ((x560.toNatClampNeg : Nat) : Int) by omega] at tz_
            exact ih2  ls626 H589 locsH589 (x625) (lv_sub hl627 [1, 2, 0] rfl) hTH589 hSH589 (by have := i_rng x625; omega) m594 m595 m596 m597 m598 m599 m600 f592 f593 (by omega) (hsp2.trans (loV_n (e := 3 - x625.toNatClampNeg) (by omega) (by omega) (fun z => by have z1 : (fI s.heap gq x560.toNatClampNeg).toInt ≠ 0 ∧ _ := z; (try dsimp only at z1); rw [gz_, ← tz_] at z1; omega)))
          · have k624 := i_nle c623
            refine lv_iconst (v := 1) hx hb dX9_isLost_61 (by decide) ?_
            have cn_x560 := i_cl (x := x560) (by omega)
            have gz_ : fI s.heap gq x560.toNatClampNeg = x565 := ((fy561_s_gq _).symm.trans ex565.symm)
            have tz_ := tn616
            rw [show x560.toInt = ((x560.toNatClampNeg : Nat) : Int) by omega] at tz_
            exact x_zret C hQ (Or.inr rfl) dX9_isLost_62 hSH589 (by decide) (by decide) (⟨1, rfl, by decide, (by rw [hsp2, loV_y (by omega) (by show (fI s.heap gq x560.toNatClampNeg).toInt ≠ 0 ∧ _; rw [gz_, ← tz_]; omega)]; rfl), hTH589⟩)
  refine lv_iconst (v := 0) hx hb dX9_isLost_0 (by decide) ?_
  refine lv_istore_n (lv' := [(2, .int 0), (0, .ref a0), (1, .ref a1)]) hx hb dX9_isLost_1 rfl hl (by decide) rfl (fun ls628 hl629 => ?_)
  exact J2 ((3 - (0 : Int32).toInt).toNat + 1)  ls628 s.heap [] (0) (lv_sub hl629 [1, 2, 0] rfl) hT hS (by decide) esmq ew0 elawq etx egq efo esl f0_fr f0_s_gq (by omega) (by rfl)

set_option maxHeartbeats 4000000 in
set_option maxRecDepth 100000 in
theorem a_X9_isTrue_v (l : Launch) (K : KE) (G : Nat → Option Nat) (H : Heap) {a0 : Nat} {a1 : Nat} {smq : Nat} {w0 : Nat} {lawq : Nat} {tx : Nat} {gq : Nat} (fo : Int32) (sl : Int32) (fsE : Nat → EF) (fwE : Nat → EF) (hT : TY K G H) (ga0 : G a0 = some 68) (ga1 : G a1 = some 1) (gsmq : G smq = some 82) (esmq : smq = fR H a0 (K.1.2 9 5)) (gw0 : G w0 = some 0) (ew0 : w0 = fR H a0 (K.1.2 9 0)) (glawq : G lawq = some 26) (elawq : lawq = fR H w0 (K.1.2 8 2)) (gtx : G tx = some 16) (etx : tx = fR H lawq (fo : Int32).toNatClampNeg) (ggq : G gq = some 6) (egq : gq = fR H a1 (K.1.2 0 5)) (efo : fo = fI H w0 (K.1.2 8 4)) (esl : sl = fI H w0 (K.1.2 8 5)) (hp0 : 0 ≤ sl.toInt ∧ sl.toInt ≤ 9999) (hy0 : TXC K H tx 1 fsE fwE) (hy1 : ∀ j : Nat, j < 3 → 0 ≤ (fI H gq j).toInt ∧ (fI H gq j).toInt ≤ 999999) : MX l K yX9_isTrue cX9_isTrue 3 (some .boolean) 5 126 0 0 [.ref a0, .ref a1] H (AE G [83, 84] H.size) (fun v H1 => ∃ (r : Int32), v = some (.int r) ∧ (0 ≤ r.toInt ∧ r.toInt ≤ 1) ∧ (trV (tnC K H tx a1 fsE fwE) (fun j : Nat => (fI H gq j).toInt) sl.toInt 3 0 = decide (r.toInt = 1)) ∧ TY K G H1) := by
  refine MX.of (by decide +kernel) (Nat.le_of_ble_eq_true rfl) ?_
  intro p e s m below meth c ls Q C hH hl hQ
  subst hH
  have C : CX p K s m _ meth c RX9 cX9_isTrue 3 (some .boolean) "isTrue" := C
  obtain ⟨hx, hb, hml, hown, hts, hKT, hr, hlocks, hnm⟩ := id C
  have hl : lv_has ls 3 [(0, .ref a0), (1, .ref a1)] := hl
  have hS : va_S (AE G [83, 84] s.heap.size) s.heap s.heap [] := va_S.rf
  have n_0 : (0 : Int32).toInt = 0 := rfl
  have n_1 : (1 : Int32).toInt = 1 := rfl
  have n_3 : (3 : Int32).toInt = 3 := rfl
  have bfo := ty_fi (x := fo) (k := 4) efo hT gw0 rg_0 rfl
  have bsl := ty_fi (x := sl) (k := 5) esl hT gw0 rg_0 rfl
  have f0_fr : FRM G s.heap s.heap := FRM.rf
  have f0_s_gq : ∀ j : Nat, fI s.heap gq j = fI s.heap gq j := fun _ => rfl
  have J2 : ∀ (nf : Nat)  (ls348 : Array Slot) (H347 : Heap) (locsH347 : List Loc) (x350 : Int32), lv_has ls348 3 [(0, .ref a0), (1, .ref a1), (2, .int x350)] → TY K G H347 → va_S (AE G [83, 84] s.heap.size) s.heap H347 locsH347 → (0 ≤ x350.toInt ∧ x350.toInt ≤ 3) → (smq = fR H347 a0 (K.1.2 9 5)) → (w0 = fR H347 a0 (K.1.2 9 0)) → (lawq = fR H347 w0 (K.1.2 8 2)) → (tx = fR H347 lawq (fo : Int32).toNatClampNeg) → (gq = fR H347 a1 (K.1.2 0 5)) → (fo = fI H347 w0 (K.1.2 8 4)) → (sl = fI H347 w0 (K.1.2 8 5)) → (FRM G H347 s.heap) → (∀ j : Nat, fI H347 gq j = fI s.heap gq j) → (3 - x350.toInt < (nf : Int)) → (trV (tnC K s.heap tx a1 fsE fwE) (fun j : Nat => (fI s.heap gq j).toInt) sl.toInt (3) 0 = trV (tnC K s.heap tx a1 fsE fwE) (fun j : Nat => (fI s.heap gq j).toInt) sl.toInt (3 - x350.toNatClampNeg) x350.toNatClampNeg) → W p l e ({ frames := 5, cells := 0, slots := 0, locals := 126 } : Room) s m (([.ref a0, .ref a1] : List Value).toArray) below meth c H347 locsH347 0 0 Q (F0 m 2 ls348 []) := by
    intro nf
    induction nf with
    | zero =>
      intro  ls348 H347 locsH347 x350 hl349 hTH347 hSH347 bx350 cy351_0 cy351_1 cy351_2 cy351_3 cy351_4 cy351_5 cy351_6 fy351_fr fy351_s_gq hm2 hsp2
      exfalso
      omega
    | succ nf ih2 =>
      intro  ls348 H347 locsH347 x350 hl349 hTH347 hSH347 bx350 cy351_0 cy351_1 cy351_2 cy351_3 cy351_4 cy351_5 cy351_6 fy351_fr fy351_s_gq hm2 hsp2
      refine lv_iload_n hx hb dX9_isTrue_2 rfl (lv_at hl349 2 rfl) ?_
      refine lv_iconst (v := 3) hx hb dX9_isTrue_3 (by decide) ?_
      refine lv_icmp_ge (tgt := 50) hx hb dX9_isTrue_4 (by decide) (fun c352 => ?_) (fun c352 => ?_)
      · have k353 := i_le c352
        refine lv_iconst (v := 1) hx hb dX9_isTrue_50 (by decide) ?_
        have cn_x350 := i_cl (x := x350) (by omega)
        exact x_zret C hQ (Or.inr rfl) dX9_isTrue_51 hSH347 (by decide) (by decide) (⟨1, rfl, by decide, (by rw [hsp2, trV_0 (by omega)]; rfl), hTH347⟩)
      · have k353 := i_nle c352
        refine lv_aload_n hx hb dX9_isTrue_7 rfl (lv_at hl349 1 rfl) ?_
        refine x_gr C hTH347 (ci := 0) (k := 5) rfl inX0 (by decide) wF_X9_181 ga1 rg_1 rfl dX9_isTrue_8 (fun q354 eq354 gq354 => ?_)
        have uq354 : gq = q354 := (cy351_4).trans eq354.symm
        subst uq354
        refine lv_iload_n hx hb dX9_isTrue_11 rfl (lv_at hl349 2 rfl) ?_
        refine x_ai C hTH347 ggq rg_6 ⟨by omega, by show _ < ((3 : Nat) : Int); omega⟩ dX9_isTrue_12 (fun x355 ex355 bx355 => ?_)
        have cn_x350 := i_cl (x := x350) (by omega)
        have bg356 : 0 ≤ x355.toInt ∧ x355.toInt ≤ 999999 := by rw [show x355 = fI s.heap gq x350.toNatClampNeg from ex355.trans (fy351_s_gq _)]; exact hy1 x350.toNatClampNeg (by omega)
        refine lv_if_eq (tgt := 44) hx hb dX9_isTrue_13 (by decide) (fun c357 => ?_) (fun c357 => ?_)
        · have k358 := i_eq c357
          obtain ⟨x359, ex359⟩ : ∃ y : Int32, y = x350 + 1 := ⟨_, rfl⟩
          have tx359 := i_add ex359 (by omega)
          refine lv_iinc (v := x359) (lv' := [(2, .int x359), (0, .ref a0), (1, .ref a1)]) hx hb dX9_isTrue_44 hl349 (k := 2) rfl (by rw [ex359]; rfl) (by decide) rfl (fun ls360 hl361 => ?_)
          refine lv_goto (tgt := 2) hx hb dX9_isTrue_47 (by decide) ?_
          have cn_x350 := i_cl (x := x350) (by omega)
          have cn_x359 := i_cl (x := x359) (by omega)
          have gz_ : fI s.heap gq x350.toNatClampNeg = x355 := ((fy351_s_gq _).symm.trans ex355.symm)
          exact ih2  ls360 H347 locsH347 (x359) (lv_sub hl361 [1, 2, 0] rfl) hTH347 hSH347 (by have := i_rng x359; omega) cy351_0 cy351_1 cy351_2 cy351_3 cy351_4 cy351_5 cy351_6 fy351_fr fy351_s_gq (by omega) (hsp2.trans (trV_n (e := 3 - x359.toNatClampNeg) (by omega) (by omega) (fun z => by have z1 : (fI s.heap gq x350.toNatClampNeg).toInt ≠ 0 ∧ _ := z; (try dsimp only at z1); rw [gz_] at z1; omega)))
        · have k358 := i_ne c357
          refine lv_aload_n hx hb dX9_isTrue_16 rfl (lv_at hl349 0 rfl) ?_
          refine lv_aload_n hx hb dX9_isTrue_17 rfl (lv_at hl349 1 rfl) ?_
          refine lv_iload_n hx hb dX9_isTrue_18 rfl (lv_at hl349 2 rfl) ?_
          refine x_V (As := [.ref a1, .int x350]) (rest := []) C (a_X9_toneNow_v l K G H347 (x350) (fo) (fsE) (fwE) hTH347 ga0 ga1 (by omega) gsmq cy351_0 gw0 cy351_1 glawq cy351_2 gtx cy351_3 cy351_5 ((TXC.frm hT gtx (FRM.tx fy351_fr) hy0))) yo_X9_toneNow wM_X9_166 ⟨⟨by decide, by decide⟩, by decide, by decide⟩ (x_rv C hTH347 (ci := 9) rfl ga0 rg_68) rfl hl349.1 rfl (Nat.le_of_ble_eq_true rfl) dX9_isTrue_19 hSH347 (AE_sub (fun _ _ => rfl) (by decide) hSH347.1) (fun vH362 H362 locsH362 pH362 zH362 kH362 hSH362 => ?_)
          obtain ⟨x363, hvH362, bx363, m364, hTH362⟩ := pH362
          subst hvH362
          have f365 : FRM G H362 s.heap := (fun q t hq h1 h2 => (x_lt hTH347 kH362 hq (by intro z; simp only [List.mem_cons, List.not_mem_nil, or_false] at z <;> omega)).trans (fy351_fr q t hq h1 h2))
          have f366 : ∀ j : Nat, fI H362 gq j = fI s.heap gq j := fun j => (fI_kept (x_lt hTH347 kH362 ggq (by decide))).trans (fy351_s_gq j)
          have m367 := (cy351_0).trans (fR_kept (x_lt hTH347 kH362 ga0 (by decide))).symm
          have m368 := (cy351_1).trans (fR_kept (x_lt hTH347 kH362 ga0 (by decide))).symm
          have m369 := (cy351_2).trans (fR_kept (x_lt hTH347 kH362 gw0 (by decide))).symm
          have m370 := (cy351_3).trans (fR_kept (x_lt hTH347 kH362 glawq (by decide))).symm
          have m371 := (cy351_4).trans (fR_kept (x_lt hTH347 kH362 ga1 (by decide))).symm
          have m372 := (cy351_5).trans (fI_kept (x_lt hTH347 kH362 gw0 (by decide))).symm
          have m373 := (cy351_6).trans (fI_kept (x_lt hTH347 kH362 gw0 (by decide))).symm
          have m374 := (ex355).trans (fI_kept (x_lt hTH347 kH362 ggq (by decide))).symm
          have tn375 : x363.toInt = tnC K s.heap tx a1 fsE fwE x350.toInt := by rw [← tnC_frm hT gtx ga1 fy351_fr]; exact m364
          refine W.eq (g2 := F0 m 22 ls348 [.int x363]) rfl ?_
          refine lv_aload_n hx hb dX9_isTrue_22 rfl (lv_at hl349 1 rfl) ?_
          refine x_gr C hTH362 (ci := 0) (k := 5) rfl inX0 (by decide) wF_X9_181 ga1 rg_1 rfl dX9_isTrue_23 (fun q376 eq376 gq376 => ?_)
          have uq376 : gq = q376 := (m371).trans eq376.symm
          subst uq376
          refine lv_iload_n hx hb dX9_isTrue_26 rfl (lv_at hl349 2 rfl) ?_
          refine x_ai C hTH362 ggq rg_6 ⟨by omega, by show _ < ((3 : Nat) : Int); omega⟩ dX9_isTrue_27 (fun x377 ex377 bx377 => ?_)
          have ux377 : x355 = x377 := (m374).trans ex377.symm
          subst ux377
          have cn_x350 := i_cl (x := x350) (by omega)
          have bg378 : 0 ≤ x355.toInt ∧ x355.toInt ≤ 999999 := by rw [show x355 = fI s.heap gq x350.toNatClampNeg from ex377.trans (f366 _)]; exact hy1 x350.toNatClampNeg (by omega)
          refine lv_isub hx hb dX9_isTrue_28 ?_
          refine lv_topi (fun x379 ex379 => ?_)
          have tx379 := i_sub ex379 (by omega)
          refine va_mabs hx hb (hml.trans hl349.1.symm) hown (hts _ wM_X9_362) (hts _ wST_J9_abs_0f7a4) (hts _ wIN_J9) (hts _ wCD_J9_abs_0f7a4) (by decide) (Nat.le_of_ble_eq_true rfl) (by decide) (by decide) dX9_isTrue_29 ?_
          refine lv_topi (fun x380 ex380 => ?_)
          have tx380 := i_abs ex380 (by omega)
          refine lv_aload_n hx hb dX9_isTrue_32 rfl (lv_at hl349 0 rfl) ?_
          refine x_gr C hTH362 (ci := 9) (k := 0) rfl inX9 (by decide) wF_X9_12 ga0 rg_68 rfl dX9_isTrue_33 (fun q381 eq381 gq381 => ?_)
          have uq381 : w0 = q381 := (m368).trans eq381.symm
          subst uq381
          refine x_gi C hTH362 (ci := 8) (k := 5) rfl inX8 (by decide) wF_X9_184 gw0 rg_0 rfl dX9_isTrue_36 (fun x382 ex382 bx382 => ?_)
          have ux382 : sl = x382 := (m373).trans ex382.symm
          subst ux382
          refine lv_icmp_le (tgt := 44) hx hb dX9_isTrue_39 (by decide) (fun c383 => ?_) (fun c383 => ?_)
          · have k384 := i_le c383
            obtain ⟨x385, ex385⟩ : ∃ y : Int32, y = x350 + 1 := ⟨_, rfl⟩
            have tx385 := i_add ex385 (by omega)
            refine lv_iinc (v := x385) (lv' := [(2, .int x385), (0, .ref a0), (1, .ref a1)]) hx hb dX9_isTrue_44 hl349 (k := 2) rfl (by rw [ex385]; rfl) (by decide) rfl (fun ls386 hl387 => ?_)
            refine lv_goto (tgt := 2) hx hb dX9_isTrue_47 (by decide) ?_
            have cn_x350 := i_cl (x := x350) (by omega)
            have cn_x385 := i_cl (x := x385) (by omega)
            have gz_ : fI s.heap gq x350.toNatClampNeg = x355 := ((fy351_s_gq _).symm.trans ex355.symm)
            have tz_ := tn375
            rw [show x350.toInt = ((x350.toNatClampNeg : Nat) : Int) by omega] at tz_
            exact ih2  ls386 H362 locsH362 (x385) (lv_sub hl387 [1, 2, 0] rfl) hTH362 hSH362 (by have := i_rng x385; omega) m367 m368 m369 m370 m371 m372 m373 f365 f366 (by omega) (hsp2.trans (trV_n (e := 3 - x385.toNatClampNeg) (by omega) (by omega) (fun z => by have z1 : (fI s.heap gq x350.toNatClampNeg).toInt ≠ 0 ∧ _ := z; (try dsimp only at z1); rw [gz_, ← tz_] at z1; omega)))
          · have k384 := i_nle c383
            refine lv_iconst (v := 0) hx hb dX9_isTrue_42 (by decide) ?_
            have cn_x350 := i_cl (x := x350) (by omega)
            have gz_ : fI s.heap gq x350.toNatClampNeg = x355 := ((fy351_s_gq _).symm.trans ex355.symm)
            have tz_ := tn375
            rw [show x350.toInt = ((x350.toNatClampNeg : Nat) : Int) by omega] at tz_
            exact x_zret C hQ (Or.inl rfl) dX9_isTrue_43 hSH362 (by decide) (by decide) (⟨0, rfl, by decide, (by rw [hsp2, trV_y (by omega) (by show (fI s.heap gq x350.toNatClampNeg).toInt ≠ 0 ∧ _; rw [gz_, ← tz_]; omega)]; rfl), hTH362⟩)
  refine lv_iconst (v := 0) hx hb dX9_isTrue_0 (by decide) ?_
  refine lv_istore_n (lv' := [(2, .int 0), (0, .ref a0), (1, .ref a1)]) hx hb dX9_isTrue_1 rfl hl (by decide) rfl (fun ls388 hl389 => ?_)
  exact J2 ((3 - (0 : Int32).toInt).toNat + 1)  ls388 s.heap [] (0) (lv_sub hl389 [1, 2, 0] rfl) hT hS (by decide) esmq ew0 elawq etx egq efo esl f0_fr f0_s_gq (by omega) (by rfl)
