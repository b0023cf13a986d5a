/-! ===== the reference: a law's row, tones, a later heap ===== -/
def FRR (G : Nat → Option Nat) (H1 H : Heap) : Prop := ∀ q t : Nat, G q = some t → t ≠ 140 → t ≠ 139 → H1[q]? = H[q]?
theorem FRR.rf {G : Nat → Option Nat} {H : Heap} : FRR G H H := fun _ _ _ _ _ => rfl
/-- the reference's references and its texts' rows are as they were -/
def TXG (K : KE) (b : Nat) (G : Nat → Option Nat) (H1 H : Heap) : Prop := (∀ k : Nat, 0 < k → k < 74 → fR H1 b (K.1.2 10 k) = fR H b (K.1.2 10 k)) ∧ ∀ q t : Nat, G q = some t → (t = 128 ∨ t = 129 ∨ t = 130 ∨ t = 131 ∨ t = 132 ∨ t = 133 ∨ t = 134 ∨ t = 135 ∨ t = 136 ∨ t = 137) → H1[q]? = H[q]?
theorem TXG.rf {K : KE} {b : Nat} {G : Nat → Option Nat} {H : Heap} : TXG K b G H H := ⟨fun _ _ _ => rfl, fun _ _ _ _ => rfl⟩
theorem FRR.tx {K : KE} {b : Nat} {G : Nat → Option Nat} {H1 H : Heap} (gb : G b = some 112) (fr : FRR G H1 H) : TXG K b G H1 H := ⟨fun _ _ _ => fR_kept (fr b 112 gb (by decide) (by decide)), fun q t g h => fr q t g (by omega) (by omega)⟩
section
variable {K : KE} {G : Nat → Option Nat} {H H1 : Heap} {b q law bar : Nat} {lw : Int} {fsE fwE : Nat → EF}
theorem FRR.I {t i : Nat} (fr : FRR G H1 H) (g : G q = some t) (h1 : t ≠ 140) (h2 : t ≠ 139) : fI H1 q i = fI H q i := fI_kept (fr q t g h1 h2)
theorem FRR.R {t i : Nat} (fr : FRR G H1 H) (g : G q = some t) (h1 : t ≠ 140) (h2 : t ≠ 139) : fR H1 q i = fR H q i := fR_kept (fr q t g h1 h2)
/-- the row law of the reference comes to fsE, fwE -/
def TXR (K : KE) (H : Heap) (b law : Nat) (lw : Int) (fsE fwE : Nat → EF) : Prop :=
  (lw ≠ 0 → ∀ l : Nat, 16 * law ≤ l → l < 16 * law + (fI H (fR H b (K.1.2 10 24)) law).toNatClampNeg → ∀ as k : Nat → Int32, vlR as (fun j => fI H (fR H b (K.1.2 10 32)) j) (fun j => fI H (fR H b (K.1.2 10 33)) j) k (500 * law + (fI H (fR H b (K.1.2 10 29)) l).toNatClampNeg) (500 * law + (fI H (fR H b (K.1.2 10 30)) l).toNatClampNeg) = fsE l (mkE lw as)) ∧
  (∀ l : Nat, 16 * law ≤ l → l < 16 * law + (fI H (fR H b (K.1.2 10 24)) law).toNatClampNeg → fI H (fR H b (K.1.2 10 31)) l ≠ fI H (fR H b (K.1.2 10 30)) l → ∀ as k : Nat → Int32, vlR as (fun j => fI H (fR H b (K.1.2 10 32)) j) (fun j => fI H (fR H b (K.1.2 10 33)) j) k (500 * law + (fI H (fR H b (K.1.2 10 30)) l).toNatClampNeg) (500 * law + (fI H (fR H b (K.1.2 10 31)) l).toNatClampNeg) = fwE l (mkE lw as))
def tlR (K : KE) (H : Heap) (b law : Nat) (fsE fwE : Nat → EF) : TF := fun w k e => tlB H (fR H b (K.1.2 10 25)) (fR H b (K.1.2 10 26)) (fR H b (K.1.2 10 30)) (fR H b (K.1.2 10 31)) fsE fwE w k (fI H (fR H b (K.1.2 10 24)) law).toNatClampNeg (16 * law) e
def bvR (K : KE) (H : Heap) (b k bar : Nat) : Nat → Int := fun j => (fI H (fR H b (K.1.2 10 k)) (16 * bar + j)).toInt
def tnR (K : KE) (H : Heap) (b law bar : Nat) (fsE fwE : Nat → EF) : Int → Int := fun k => toneV (tlR K H b law fsE fwE) (fI H (fR H b (K.1.2 10 4)) bar).toInt (bvR K H b 5 bar) (bvR K H b 6 bar) (bvR K H b 7 bar) (bvR K H b 8 bar) k
theorem frr_a {k u : Nat} {lo hi : Int} (hT : TY K G H) (gb : G b = some 112) (fr : FRR G H1 H) (gq : G (fR H b (K.1.2 10 k)) = some u) (h1 : u ≠ 140) (h2 : u ≠ 139) : ∀ j, fI H1 (fR H1 b (K.1.2 10 k)) j = fI H (fR H b (K.1.2 10 k)) j := fun j => by rw [fr.R gb (by decide) (by decide)]; exact fr.I gq h1 h2
theorem txg_a {k u : Nat} (fr : TXG K b G H1 H) (gq : G (fR H b (K.1.2 10 k)) = some u) (h : u = 128 ∨ u = 129 ∨ u = 130 ∨ u = 131 ∨ u = 132 ∨ u = 133 ∨ u = 134 ∨ u = 135 ∨ u = 136 ∨ u = 137) (h0 : 0 < k) (h1 : k < 74) : ∀ j, fI H1 (fR H1 b (K.1.2 10 k)) j = fI H (fR H b (K.1.2 10 k)) j := fun j => by rw [fr.1 k h0 h1]; exact fI_kept (fr.2 _ u gq h)
theorem TXR.frr (hT : TY K G H) (gb : G b = some 112) (fr : TXG K b G H1 H) (h : TXR K H b law lw fsE fwE) : TXR K H1 b law lw fsE fwE := by
  have a24 := txg_a fr (ty_fr (q := _) (k := 24) (u := 128) rfl hT gb rgM rfl) (by decide) (by decide) (by decide)
  have a29 := txg_a fr (ty_fr (q := _) (k := 29) (u := 133) rfl hT gb rgM rfl) (by decide) (by decide) (by decide)
  have a30 := txg_a fr (ty_fr (q := _) (k := 30) (u := 134) rfl hT gb rgM rfl) (by decide) (by decide) (by decide)
  have a31 := txg_a fr (ty_fr (q := _) (k := 31) (u := 135) rfl hT gb rgM rfl) (by decide) (by decide) (by decide)
  have a32 := txg_a fr (ty_fr (q := _) (k := 32) (u := 136) rfl hT gb rgM rfl) (by decide) (by decide) (by decide)
  have a33 := txg_a fr (ty_fr (q := _) (k := 33) (u := 137) rfl hT gb rgM rfl) (by decide) (by decide) (by decide)
  unfold TXR at h ⊢
  simp only [a24, a29, a30, a31, a32, a33]
  exact h
theorem tlR_frr (hT : TY K G H) (gb : G b = some 112) (fr : TXG K b G H1 H) : tlR K H1 b law fsE fwE = tlR K H b law fsE fwE := by
  have a24 := txg_a fr (ty_fr (q := _) (k := 24) (u := 128) rfl hT gb rgM rfl) (by decide) (by decide) (by decide)
  have a25 := txg_a fr (ty_fr (q := _) (k := 25) (u := 129) rfl hT gb rgM rfl) (by decide) (by decide) (by decide)
  have a26 := txg_a fr (ty_fr (q := _) (k := 26) (u := 130) rfl hT gb rgM rfl) (by decide) (by decide) (by decide)
  have a30 := txg_a fr (ty_fr (q := _) (k := 30) (u := 134) rfl hT gb rgM rfl) (by decide) (by decide) (by decide)
  have a31 := txg_a fr (ty_fr (q := _) (k := 31) (u := 135) rfl hT gb rgM rfl) (by decide) (by decide) (by decide)
  funext w k e
  unfold tlR tlB tdB
  simp only [a24, a25, a26, a30, a31]
theorem tnR_frr (hT : TY K G H) (gb : G b = some 112) (fr : FRR G H1 H) : tnR K H1 b law bar fsE fwE = tnR K H b law bar fsE fwE := by
  have a4 := frr_a (lo := 0) (hi := 0) hT gb fr (ty_fr (q := _) (k := 4) (u := 113) rfl hT gb rgM rfl) (by decide) (by decide)
  have a5 := frr_a (lo := 0) (hi := 0) hT gb fr (ty_fr (q := _) (k := 5) (u := 114) rfl hT gb rgM rfl) (by decide) (by decide)
  have a6 := frr_a (lo := 0) (hi := 0) hT gb fr (ty_fr (q := _) (k := 6) (u := 115) rfl hT gb rgM rfl) (by decide) (by decide)
  have a7 := frr_a (lo := 0) (hi := 0) hT gb fr (ty_fr (q := _) (k := 7) (u := 116) rfl hT gb rgM rfl) (by decide) (by decide)
  have a8 := frr_a (lo := 0) (hi := 0) hT gb fr (ty_fr (q := _) (k := 8) (u := 117) rfl hT gb rgM rfl) (by decide) (by decide)
  funext k
  unfold tnR bvR
  rw [tlR_frr hT gb (fr.tx gb)]
  simp only [a4, a5, a6, a7, a8]
end
set_option maxHeartbeats 4000000 in
set_option maxRecDepth 100000 in
theorem a_X10_toneNow_v (l : Launch) (K : KE) (G : Nat → Option Nat) (H : Heap) {a0 : Nat} (x1 : Int32) (x2 : Int32) (fo : Int32) (fsE : Nat → EF) (fwE : Nat → EF) (hT : TY K G H) (ga0 : G a0 = some 112) (hx1 : 0 ≤ x1.toInt ∧ x1.toInt ≤ 9) (hx2 : 0 ≤ x2.toInt ∧ x2.toInt ≤ 2) (efo : fo = fI H a0 (K.1.2 10 2)) (hg_CG : CG (avw K H a0)) (hy0 : TXR K H a0 fo.toNatClampNeg 1 fsE fwE) : MX l K yX10_toneNow cX10_toneNow 3 (some .int) 5 123 0 0 [.ref a0, .int x1, .int x2] H (AE G [140, 139] H.size) (fun v H1 => ∃ (r : Int32), v = some (.int r) ∧ (0 ≤ r.toInt ∧ r.toInt ≤ 2000000000) ∧ (r.toInt = tnR K H a0 fo.toNatClampNeg x1.toNatClampNeg fsE fwE x2.toInt) ∧ TY K G H1) := by
  refine MX.of (by decide +kernel) (Nat.le_of_ble_eq_true rfl) ?_
  intro p e s m below meth c ls Q C hH hl hQ
  subst hH
  have C : CX p K s m _ meth c RX10 cX10_toneNow 3 (some .int) "toneNow" := C
  obtain ⟨hx, hb, hml, hown, hts, hKT, hr, hlocks, hnm⟩ := id C
  have hl : lv_has ls 3 [(0, .ref a0), (1, .int x1), (2, .int x2)] := hl
  have hS : va_S (AE G [140, 139] s.heap.size) s.heap s.heap [] := va_S.rf
  skip
  have bfo := ty_fi (x := fo) (k := 2) efo hT ga0 rg_112 rfl
  have hap : ∀ x y, x < 74 → y < 74 → x ≠ y → K.1.2 10 x ≠ K.1.2 10 y := x_apart hKT hts inX10 tyX10 tyX10_ok nmX10 rfl
  refine lv_aload_n hx hb dX10_toneNow_0 rfl (lv_at hl 0 rfl) ?_
  refine lv_aload_n hx hb dX10_toneNow_1 rfl (lv_at hl 0 rfl) ?_
  refine x_gi C hT (ci := 10) (k := 2) rfl inX10 (by decide) wF_X10_322 ga0 rg_112 rfl dX10_toneNow_2 (fun x261 ex261 bx261 => ?_)
  have ux261 : fo = x261 := (efo).trans ex261.symm
  subst ux261
  refine lv_iload_n hx hb dX10_toneNow_5 rfl (lv_at hl 1 rfl) ?_
  refine lv_iload_n hx hb dX10_toneNow_6 rfl (lv_at hl 2 rfl) ?_
  obtain ⟨q262, eq262⟩ : ∃ z : Nat, z = fR s.heap a0 (K.1.2 10 24) := ⟨_, rfl⟩
  have gq262 := ty_fr (q := q262) (k := 24) (u := 128) eq262 hT ga0 rg_112 rfl
  obtain ⟨q263, eq263⟩ : ∃ z : Nat, z = fR s.heap a0 (K.1.2 10 32) := ⟨_, rfl⟩
  have gq263 := ty_fr (q := q263) (k := 32) (u := 136) eq263 hT ga0 rg_112 rfl
  obtain ⟨q264, eq264⟩ : ∃ z : Nat, z = fR s.heap a0 (K.1.2 10 33) := ⟨_, rfl⟩
  have gq264 := ty_fr (q := q264) (k := 33) (u := 137) eq264 hT ga0 rg_112 rfl
  obtain ⟨q265, eq265⟩ : ∃ z : Nat, z = fR s.heap a0 (K.1.2 10 44) := ⟨_, rfl⟩
  have gq265 := ty_fr (q := q265) (k := 44) (u := 140) eq265 hT ga0 rg_112 rfl
  obtain ⟨q266, eq266⟩ : ∃ z : Nat, z = fR s.heap a0 (K.1.2 10 43) := ⟨_, rfl⟩
  have gq266 := ty_fr (q := q266) (k := 43) (u := 139) eq266 hT ga0 rg_112 rfl
  obtain ⟨q267, eq267⟩ : ∃ z : Nat, z = fR s.heap a0 (K.1.2 10 30) := ⟨_, rfl⟩
  have gq267 := ty_fr (q := q267) (k := 30) (u := 134) eq267 hT ga0 rg_112 rfl
  obtain ⟨q268, eq268⟩ : ∃ z : Nat, z = fR s.heap a0 (K.1.2 10 31) := ⟨_, rfl⟩
  have gq268 := ty_fr (q := q268) (k := 31) (u := 135) eq268 hT ga0 rg_112 rfl
  obtain ⟨q269, eq269⟩ : ∃ z : Nat, z = fR s.heap a0 (K.1.2 10 29) := ⟨_, rfl⟩
  have gq269 := ty_fr (q := q269) (k := 29) (u := 133) eq269 hT ga0 rg_112 rfl
  obtain ⟨q270, eq270⟩ : ∃ z : Nat, z = fR s.heap a0 (K.1.2 10 25) := ⟨_, rfl⟩
  have gq270 := ty_fr (q := q270) (k := 25) (u := 129) eq270 hT ga0 rg_112 rfl
  obtain ⟨q271, eq271⟩ : ∃ z : Nat, z = fR s.heap a0 (K.1.2 10 26) := ⟨_, rfl⟩
  have gq271 := ty_fr (q := q271) (k := 26) (u := 130) eq271 hT ga0 rg_112 rfl
  obtain ⟨q272, eq272⟩ : ∃ z : Nat, z = fR s.heap a0 (K.1.2 10 4) := ⟨_, rfl⟩
  have gq272 := ty_fr (q := q272) (k := 4) (u := 113) eq272 hT ga0 rg_112 rfl
  obtain ⟨q273, eq273⟩ : ∃ z : Nat, z = fR s.heap a0 (K.1.2 10 5) := ⟨_, rfl⟩
  have gq273 := ty_fr (q := q273) (k := 5) (u := 114) eq273 hT ga0 rg_112 rfl
  obtain ⟨q274, eq274⟩ : ∃ z : Nat, z = fR s.heap a0 (K.1.2 10 6) := ⟨_, rfl⟩
  have gq274 := ty_fr (q := q274) (k := 6) (u := 115) eq274 hT ga0 rg_112 rfl
  obtain ⟨q275, eq275⟩ : ∃ z : Nat, z = fR s.heap a0 (K.1.2 10 7) := ⟨_, rfl⟩
  have gq275 := ty_fr (q := q275) (k := 7) (u := 116) eq275 hT ga0 rg_112 rfl
  obtain ⟨q276, eq276⟩ : ∃ z : Nat, z = fR s.heap a0 (K.1.2 10 8) := ⟨_, rfl⟩
  have gq276 := ty_fr (q := q276) (k := 8) (u := 117) eq276 hT ga0 rg_112 rfl
  obtain ⟨x277, ex277⟩ : ∃ z : Int32, z = fI s.heap q262 (fo : Int32).toNatClampNeg := ⟨_, rfl⟩
  have bx277 := ty_ai (x := x277) ex277 hT gq262 rg_128 (by omega)
  obtain ⟨x278, ex278⟩ : ∃ z : Int32, z = fI s.heap q272 (x1 : Int32).toNatClampNeg := ⟨_, rfl⟩
  have bx278 := ty_ai (x := x278) ex278 hT gq272 rg_113 (by omega)
  refine x_V (As := [.int fo, .int x1, .int x2]) (rest := []) C (a_X10_toneBy_v l K G s.heap (fo) (x1) (x2) (x277) (x278) (fsE) (fwE) hT ga0 (by omega) (by omega) (by omega) gq262 eq262 gq263 eq263 gq264 eq264 gq265 eq265 gq266 eq266 gq267 eq267 gq268 eq268 gq269 eq269 gq270 eq270 gq271 eq271 gq272 eq272 gq273 eq273 gq274 eq274 gq275 eq275 gq276 eq276 ex277 ex278 hg_CG (by rw [ex277, eq262, eq263, eq264, eq269, eq267]; exact hy0.1 (by decide)) (by rw [ex277, eq262, eq263, eq264, eq267, eq268]; exact hy0.2)) yo_X10_toneBy wM_X10_325 ⟨⟨by decide, by decide⟩, by decide, by decide⟩ (x_rv C hT (ci := 10) rfl ga0 rg_112) rfl hl.1 rfl (Nat.le_of_ble_eq_true rfl) dX10_toneNow_7 hS (AE_sub (fun _ _ => rfl) (by decide) hS.1) (fun vH279 H279 locsH279 pH279 zH279 kH279 hSH279 => ?_)
  obtain ⟨x280, hvH279, bx280, m281, hTH279⟩ := pH279
  subst hvH279
  have g282 : CG (avw K H279 a0) := CG.congr (fun k hk j => av_eff hT kH279 ga0 (by decide) (CG_eff [140, 139] (by decide) k hk)) hg_CG
  have m283 := (efo).trans (fI_kept (x_lt hT kH279 ga0 (by decide))).symm
  have m284 := (eq262).trans (fR_kept (x_lt hT kH279 ga0 (by decide))).symm
  have m285 := (eq263).trans (fR_kept (x_lt hT kH279 ga0 (by decide))).symm
  have m286 := (eq264).trans (fR_kept (x_lt hT kH279 ga0 (by decide))).symm
  have m287 := (eq265).trans (fR_kept (x_lt hT kH279 ga0 (by decide))).symm
  have m288 := (eq266).trans (fR_kept (x_lt hT kH279 ga0 (by decide))).symm
  have m289 := (eq267).trans (fR_kept (x_lt hT kH279 ga0 (by decide))).symm
  have m290 := (eq268).trans (fR_kept (x_lt hT kH279 ga0 (by decide))).symm
  have m291 := (eq269).trans (fR_kept (x_lt hT kH279 ga0 (by decide))).symm
  have m292 := (eq270).trans (fR_kept (x_lt hT kH279 ga0 (by decide))).symm
  have m293 := (eq271).trans (fR_kept (x_lt hT kH279 ga0 (by decide))).symm
  have m294 := (eq272).trans (fR_kept (x_lt hT kH279 ga0 (by decide))).symm
  have m295 := (eq273).trans (fR_kept (x_lt hT kH279 ga0 (by decide))).symm
  have m296 := (eq274).trans (fR_kept (x_lt hT kH279 ga0 (by decide))).symm
  have m297 := (eq275).trans (fR_kept (x_lt hT kH279 ga0 (by decide))).symm
  have m298 := (eq276).trans (fR_kept (x_lt hT kH279 ga0 (by decide))).symm
  have m299 := (ex277).trans (fI_kept (x_lt hT kH279 gq262 (by decide))).symm
  have m300 := (ex278).trans (fI_kept (x_lt hT kH279 gq272 (by decide))).symm
  refine W.eq (g2 := F0 m 10 ls [.int x280]) rfl ?_
  exact x_iret C hQ dX10_toneNow_10 hSH279 (by decide) (by decide) (⟨x280, rfl, by omega, (by rw [m281, ex277, ex278, eq262, eq270, eq271, eq267, eq268, eq272, eq273, eq274, eq275, eq276]; rfl), hTH279⟩)

set_option maxHeartbeats 4000000 in
set_option maxRecDepth 100000 in
theorem a_X10_isLost_v (l : Launch) (K : KE) (G : Nat → Option Nat) (H : Heap) {a0 : Nat} (x1 : Int32) {gq : Nat} (fo : Int32) (sl : Int32) (fsE : Nat → EF) (fwE : Nat → EF) (hT : TY K G H) (ga0 : G a0 = some 112) (hx1 : 0 ≤ x1.toInt ∧ x1.toInt ≤ 9) (ggq : G gq = some 118) (egq : gq = fR H a0 (K.1.2 10 9)) (efo : fo = fI H a0 (K.1.2 10 2)) (esl : sl = fI H a0 (K.1.2 10 3)) (hg_CG : CG (avw K H a0)) (hp0 : 0 ≤ sl.toInt ∧ sl.toInt ≤ 9999) (hy0 : TXR K H a0 fo.toNatClampNeg 1 fsE fwE) (hy1 : ∀ j : Nat, j < 3 → 0 ≤ (fI H gq (3 * x1.toNatClampNeg + j)).toInt ∧ (fI H gq (3 * x1.toNatClampNeg + j)).toInt ≤ 999999) : MX l K yX10_isLost cX10_isLost 3 (some .boolean) 6 145 0 0 [.ref a0, .int x1] H (AE G [140, 139] H.size) (fun v H1 => ∃ (r : Int32), v = some (.int r) ∧ (0 ≤ r.toInt ∧ r.toInt ≤ 1) ∧ (loV (tnR K H a0 fo.toNatClampNeg x1.toNatClampNeg fsE fwE) (fun j : Nat => (fI H gq (3 * x1.toNatClampNeg + j)).toInt) sl.toInt 3 0 = decide (r.toInt = 1)) ∧ TY K G H1) := by
  refine MX.of (by decide +kernel) (Nat.le_of_ble_eq_true rfl) ?_
  intro p e s m below meth c ls Q C hH hl hQ
  subst hH
  have C : CX p K s m _ meth c RX10 cX10_isLost 3 (some .boolean) "isLost" := C
  obtain ⟨hx, hb, hml, hown, hts, hKT, hr, hlocks, hnm⟩ := id C
  have hl : lv_has ls 3 [(0, .ref a0), (1, .int x1)] := hl
  have hS : va_S (AE G [140, 139] s.heap.size) s.heap s.heap [] := va_S.rf
  have n_0 : (0 : Int32).toInt = 0 := rfl
  have n_1 : (1 : Int32).toInt = 1 := rfl
  have n_3 : (3 : Int32).toInt = 3 := rfl
  have bfo := ty_fi (x := fo) (k := 2) efo hT ga0 rg_112 rfl
  have bsl := ty_fi (x := sl) (k := 3) esl hT ga0 rg_112 rfl
  have hap : ∀ x y, x < 74 → y < 74 → x ≠ y → K.1.2 10 x ≠ K.1.2 10 y := x_apart hKT hts inX10 tyX10 tyX10_ok nmX10 rfl
  have f0_fr : FRR G s.heap s.heap := FRR.rf
  have f0_s_gq : ∀ j : Nat, fI s.heap gq j = fI s.heap gq j := fun _ => rfl
  have J2 : ∀ (nf : Nat)  (ls341 : Array Slot) (H340 : Heap) (locsH340 : List Loc) (x343 : Int32), lv_has ls341 3 [(0, .ref a0), (1, .int x1), (2, .int x343)] → TY K G H340 → va_S (AE G [140, 139] s.heap.size) s.heap H340 locsH340 → (0 ≤ x343.toInt ∧ x343.toInt ≤ 3) → (gq = fR H340 a0 (K.1.2 10 9)) → (fo = fI H340 a0 (K.1.2 10 2)) → (sl = fI H340 a0 (K.1.2 10 3)) → (CG (avw K H340 a0)) → (FRR G H340 s.heap) → (∀ j : Nat, fI H340 gq j = fI s.heap gq j) → (3 - x343.toInt < (nf : Int)) → (loV (tnR K s.heap a0 fo.toNatClampNeg x1.toNatClampNeg fsE fwE) (fun j : Nat => (fI s.heap gq (3 * x1.toNatClampNeg + j)).toInt) sl.toInt (3) 0 = loV (tnR K s.heap a0 fo.toNatClampNeg x1.toNatClampNeg fsE fwE) (fun j : Nat => (fI s.heap gq (3 * x1.toNatClampNeg + j)).toInt) sl.toInt (3 - x343.toNatClampNeg) x343.toNatClampNeg) → W p l e ({ frames := 6, cells := 0, slots := 0, locals := 145 } : Room) s m (([.ref a0, .int x1] : List Value).toArray) below meth c H340 locsH340 0 0 Q (F0 m 2 ls341 []) := by
    intro nf
    induction nf with
    | zero =>
      intro  ls341 H340 locsH340 x343 hl342 hTH340 hSH340 bx343 cy344_0 cy344_1 cy344_2 gy344_CG fy344_fr fy344_s_gq hm2 hsp2
      exfalso
      omega
    | succ nf ih2 =>
      intro  ls341 H340 locsH340 x343 hl342 hTH340 hSH340 bx343 cy344_0 cy344_1 cy344_2 gy344_CG fy344_fr fy344_s_gq hm2 hsp2
      refine lv_iload_n hx hb dX10_isLost_2 rfl (lv_at hl342 2 rfl) ?_
      refine lv_iconst (v := 3) hx hb dX10_isLost_3 (by decide) ?_
      refine lv_icmp_ge (tgt := 52) hx hb dX10_isLost_4 (by decide) (fun c345 => ?_) (fun c345 => ?_)
      · have k346 := i_le c345
        refine lv_iconst (v := 0) hx hb dX10_isLost_52 (by decide) ?_
        have cn_x343 := i_cl (x := x343) (by omega)
        exact x_zret C hQ (Or.inl rfl) dX10_isLost_53 hSH340 (by decide) (by decide) (⟨0, rfl, by decide, (by rw [hsp2, loV_0 (by omega)]; rfl), hTH340⟩)
      · have k346 := i_nle c345
        refine lv_aload_n hx hb dX10_isLost_7 rfl (lv_at hl342 0 rfl) ?_
        refine x_gr C hTH340 (ci := 10) (k := 9) rfl inX10 (by decide) wF_X10_29 ga0 rg_112 rfl dX10_isLost_8 (fun q347 eq347 gq347 => ?_)
        have uq347 : gq = q347 := (cy344_0).trans eq347.symm
        subst uq347
        refine lv_iconst (v := 3) hx hb dX10_isLost_11 (by decide) ?_
        refine lv_iload_n hx hb dX10_isLost_12 rfl (lv_at hl342 1 rfl) ?_
        refine lv_imul hx hb dX10_isLost_13 ?_
        refine lv_topi (fun x348 ex348 => ?_)
        have tx348 := i_mul ex348 (by rw [n_3]; omega)
        rw [n_3] at tx348
        refine lv_iload_n hx hb dX10_isLost_14 rfl (lv_at hl342 2 rfl) ?_
        refine lv_iadd hx hb dX10_isLost_15 ?_
        refine lv_topi (fun x349 ex349 => ?_)
        have tx349 := i_add ex349 (by omega)
        refine x_ai C hTH340 ggq rg_118 ⟨by omega, by show _ < ((30 : Nat) : Int); omega⟩ dX10_isLost_16 (fun x350 ex350 bx350 => ?_)
        have cn_x343 := i_cl (x := x343) (by omega)
        have cn_x1 := i_cl (x := x1) (by omega)
        have cn_x349 := i_cl (x := x349) (by omega)
        have gzbg351 : fI s.heap gq (3 * x1.toNatClampNeg + x343.toNatClampNeg) = x350 := by rw [show (3 * x1.toNatClampNeg + x343.toNatClampNeg) = x349.toNatClampNeg by omega]; exact (fy344_s_gq _).symm.trans ex350.symm
        have bg351 : 0 ≤ x350.toInt ∧ x350.toInt ≤ 999999 := by rw [← gzbg351]; exact hy1 x343.toNatClampNeg (by omega)
        refine lv_if_le (tgt := 46) hx hb dX10_isLost_17 (by decide) (fun c352 => ?_) (fun c352 => ?_)
        · have k353 := i_le c352
          obtain ⟨x354, ex354⟩ : ∃ y : Int32, y = x343 + 1 := ⟨_, rfl⟩
          have tx354 := i_add ex354 (by omega)
          refine lv_iinc (v := x354) (lv' := [(2, .int x354), (0, .ref a0), (1, .int x1)]) hx hb dX10_isLost_46 hl342 (k := 2) rfl (by rw [ex354]; rfl) (by decide) rfl (fun ls355 hl356 => ?_)
          refine lv_goto (tgt := 2) hx hb dX10_isLost_49 (by decide) ?_
          have cn_x343 := i_cl (x := x343) (by omega)
          have cn_x354 := i_cl (x := x354) (by omega)
          exact ih2  ls355 H340 locsH340 (x354) (lv_sub hl356 [1, 2, 0] rfl) hTH340 hSH340 (by have := i_rng x354; omega) cy344_0 cy344_1 cy344_2 gy344_CG fy344_fr fy344_s_gq (by omega) (hsp2.trans (loV_n (e := 3 - x354.toNatClampNeg) (by omega) (by omega) (fun z => by have z1 : (fI s.heap gq (3 * x1.toNatClampNeg + x343.toNatClampNeg)).toInt ≠ 0 ∧ _ := z; (try dsimp only at z1); rw [gzbg351] at z1; omega)))
        · have k353 := i_nle c352
          refine lv_aload_n hx hb dX10_isLost_20 rfl (lv_at hl342 0 rfl) ?_
          refine lv_iload_n hx hb dX10_isLost_21 rfl (lv_at hl342 1 rfl) ?_
          refine lv_iload_n hx hb dX10_isLost_22 rfl (lv_at hl342 2 rfl) ?_
          refine x_V (As := [.int x1, .int x343]) (rest := []) C (a_X10_toneNow_v l K G H340 (x1) (x343) (fo) (fsE) (fwE) hTH340 ga0 (by omega) (by omega) cy344_1 gy344_CG ((TXR.frr hT ga0 (FRR.tx ga0 fy344_fr) hy0))) yo_X10_toneNow wM_X10_335 ⟨⟨by decide, by decide⟩, by decide, by decide⟩ (x_rv C hTH340 (ci := 10) rfl ga0 rg_112) rfl hl342.1 rfl (Nat.le_of_ble_eq_true rfl) dX10_isLost_23 hSH340 (AE_sub (fun _ _ => rfl) (by decide) hSH340.1) (fun vH357 H357 locsH357 pH357 zH357 kH357 hSH357 => ?_)
          obtain ⟨x358, hvH357, bx358, m359, hTH357⟩ := pH357
          subst hvH357
          have g360 : CG (avw K H357 a0) := CG.congr (fun k hk j => av_eff hTH340 kH357 ga0 (by decide) (CG_eff [140, 139] (by decide) k hk)) gy344_CG
          have f361 : FRR G H357 s.heap := (fun q t hq h1 h2 => (x_lt hTH340 kH357 hq (by first | omega | (intro z; simp only [List.mem_cons, List.not_mem_nil, or_false] at z <;> omega))).trans (fy344_fr q t hq h1 h2))
          have f362 : ∀ j : Nat, fI H357 gq j = fI s.heap gq j := fun j => (fI_kept (x_lt hTH340 kH357 ggq (by decide))).trans (fy344_s_gq j)
          have m363 := (cy344_0).trans (fR_kept (x_lt hTH340 kH357 ga0 (by decide))).symm
          have m364 := (cy344_1).trans (fI_kept (x_lt hTH340 kH357 ga0 (by decide))).symm
          have m365 := (cy344_2).trans (fI_kept (x_lt hTH340 kH357 ga0 (by decide))).symm
          have m366 := (ex350).trans (fI_kept (x_lt hTH340 kH357 ggq (by decide))).symm
          have tn367 : x358.toInt = tnR K s.heap a0 fo.toNatClampNeg x1.toNatClampNeg fsE fwE x343.toInt := by rw [← tnR_frr hT ga0 fy344_fr]; exact m359
          refine W.eq (g2 := F0 m 26 ls341 [.int x358]) rfl ?_
          refine lv_aload_n hx hb dX10_isLost_26 rfl (lv_at hl342 0 rfl) ?_
          refine x_gr C hTH357 (ci := 10) (k := 9) rfl inX10 (by decide) wF_X10_29 ga0 rg_112 rfl dX10_isLost_27 (fun q368 eq368 gq368 => ?_)
          have uq368 : gq = q368 := (m363).trans eq368.symm
          subst uq368
          refine lv_iconst (v := 3) hx hb dX10_isLost_30 (by decide) ?_
          refine lv_iload_n hx hb dX10_isLost_31 rfl (lv_at hl342 1 rfl) ?_
          refine lv_imul hx hb dX10_isLost_32 ?_
          refine lv_topi (fun x369 ex369 => ?_)
          have tx369 := i_mul ex369 (by rw [n_3]; omega)
          rw [n_3] at tx369
          refine lv_iload_n hx hb dX10_isLost_33 rfl (lv_at hl342 2 rfl) ?_
          refine lv_iadd hx hb dX10_isLost_34 ?_
          refine lv_topi (fun x370 ex370 => ?_)
          have tx370 := i_add ex370 (by omega)
          refine x_ai C hTH357 ggq rg_118 ⟨by omega, by show _ < ((30 : Nat) : Int); omega⟩ dX10_isLost_35 (fun x371 ex371 bx371 => ?_)
          have cn_x343 := i_cl (x := x343) (by omega)
          have cn_x1 := i_cl (x := x1) (by omega)
          have cn_x370 := i_cl (x := x370) (by omega)
          have gzbg372 : fI s.heap gq (3 * x1.toNatClampNeg + x343.toNatClampNeg) = x371 := by rw [show (3 * x1.toNatClampNeg + x343.toNatClampNeg) = x370.toNatClampNeg by omega]; exact (f362 _).symm.trans ex371.symm
          have bg372 : 0 ≤ x371.toInt ∧ x371.toInt ≤ 999999 := by rw [← gzbg372]; exact hy1 x343.toNatClampNeg (by omega)
          have gebg372 : x371.toInt = x350.toInt := congrArg Int32.toInt (gzbg372.symm.trans gzbg351)
          refine lv_aload_n hx hb dX10_isLost_36 rfl (lv_at hl342 0 rfl) ?_
          refine x_gi C hTH357 (ci := 10) (k := 3) rfl inX10 (by decide) wF_X10_7 ga0 rg_112 rfl dX10_isLost_37 (fun x373 ex373 bx373 => ?_)
          have ux373 : sl = x373 := (m365).trans ex373.symm
          subst ux373
          refine lv_isub hx hb dX10_isLost_40 ?_
          refine lv_topi (fun x374 ex374 => ?_)
          have tx374 := i_sub ex374 (by omega)
          refine lv_icmp_ge (tgt := 46) hx hb dX10_isLost_41 (by decide) (fun c375 => ?_) (fun c375 => ?_)
          · have k376 := i_le c375
            obtain ⟨x377, ex377⟩ : ∃ y : Int32, y = x343 + 1 := ⟨_, rfl⟩
            have tx377 := i_add ex377 (by omega)
            refine lv_iinc (v := x377) (lv' := [(2, .int x377), (0, .ref a0), (1, .int x1)]) hx hb dX10_isLost_46 hl342 (k := 2) rfl (by rw [ex377]; rfl) (by decide) rfl (fun ls378 hl379 => ?_)
            refine lv_goto (tgt := 2) hx hb dX10_isLost_49 (by decide) ?_
            have cn_x343 := i_cl (x := x343) (by omega)
            have cn_x377 := i_cl (x := x377) (by omega)
            have tz_ := tn367
            rw [show x343.toInt = ((x343.toNatClampNeg : Nat) : Int) by omega] at tz_
            exact ih2  ls378 H357 locsH357 (x377) (lv_sub hl379 [1, 2, 0] rfl) hTH357 hSH357 (by have := i_rng x377; omega) m363 m364 m365 g360 f361 f362 (by omega) (hsp2.trans (loV_n (e := 3 - x377.toNatClampNeg) (by omega) (by omega) (fun z => by have z1 : (fI s.heap gq (3 * x1.toNatClampNeg + x343.toNatClampNeg)).toInt ≠ 0 ∧ _ := z; (try dsimp only at z1); rw [gzbg372, ← tz_] at z1; omega)))
          · have k376 := i_nle c375
            refine lv_iconst (v := 1) hx hb dX10_isLost_44 (by decide) ?_
            have cn_x343 := i_cl (x := x343) (by omega)
            have tz_ := tn367
            rw [show x343.toInt = ((x343.toNatClampNeg : Nat) : Int) by omega] at tz_
            exact x_zret C hQ (Or.inr rfl) dX10_isLost_45 hSH357 (by decide) (by decide) (⟨1, rfl, by decide, (by rw [hsp2, loV_y (by omega) (by show (fI s.heap gq (3 * x1.toNatClampNeg + x343.toNatClampNeg)).toInt ≠ 0 ∧ _; rw [gzbg372, ← tz_]; omega)]; rfl), hTH357⟩)
  refine lv_iconst (v := 0) hx hb dX10_isLost_0 (by decide) ?_
  refine lv_istore_n (lv' := [(2, .int 0), (0, .ref a0), (1, .int x1)]) hx hb dX10_isLost_1 rfl hl (by decide) rfl (fun ls380 hl381 => ?_)
  exact J2 ((3 - (0 : Int32).toInt).toNat + 1)  ls380 s.heap [] (0) (lv_sub hl381 [1, 2, 0] rfl) hT hS (by decide) egq efo esl hg_CG f0_fr f0_s_gq (by omega) (by rfl)

set_option maxHeartbeats 4000000 in
set_option maxRecDepth 100000 in
theorem a_X10_isTrue_v (l : Launch) (K : KE) (G : Nat → Option Nat) (H : Heap) {a0 : Nat} (x1 : Int32) {gq : Nat} (fo : Int32) (sl : Int32) (fsE : Nat → EF) (fwE : Nat → EF) (hT : TY K G H) (ga0 : G a0 = some 112) (hx1 : 0 ≤ x1.toInt ∧ x1.toInt ≤ 9) (ggq : G gq = some 118) (egq : gq = fR H a0 (K.1.2 10 9)) (efo : fo = fI H a0 (K.1.2 10 2)) (esl : sl = fI H a0 (K.1.2 10 3)) (hg_CG : CG (avw K H a0)) (hp0 : 0 ≤ sl.toInt ∧ sl.toInt ≤ 9999) (hy0 : TXR K H a0 fo.toNatClampNeg 1 fsE fwE) (hy1 : ∀ j : Nat, j < 3 → 0 ≤ (fI H gq (3 * x1.toNatClampNeg + j)).toInt ∧ (fI H gq (3 * x1.toNatClampNeg + j)).toInt ≤ 999999) : MX l K yX10_isTrue cX10_isTrue 3 (some .boolean) 6 145 0 0 [.ref a0, .int x1] H (AE G [140, 139] H.size) (fun v H1 => ∃ (r : Int32), v = some (.int r) ∧ (0 ≤ r.toInt ∧ r.toInt ≤ 1) ∧ (trV (tnR K H a0 fo.toNatClampNeg x1.toNatClampNeg fsE fwE) (fun j : Nat => (fI H gq (3 * x1.toNatClampNeg + j)).toInt) sl.toInt 3 0 = decide (r.toInt = 1)) ∧ TY K G H1) := by
  refine MX.of (by decide +kernel) (Nat.le_of_ble_eq_true rfl) ?_
  intro p e s m below meth c ls Q C hH hl hQ
  subst hH
  have C : CX p K s m _ meth c RX10 cX10_isTrue 3 (some .boolean) "isTrue" := C
  obtain ⟨hx, hb, hml, hown, hts, hKT, hr, hlocks, hnm⟩ := id C
  have hl : lv_has ls 3 [(0, .ref a0), (1, .int x1)] := hl
  have hS : va_S (AE G [140, 139] s.heap.size) s.heap s.heap [] := va_S.rf
  have n_0 : (0 : Int32).toInt = 0 := rfl
  have n_1 : (1 : Int32).toInt = 1 := rfl
  have n_3 : (3 : Int32).toInt = 3 := rfl
  have bfo := ty_fi (x := fo) (k := 2) efo hT ga0 rg_112 rfl
  have bsl := ty_fi (x := sl) (k := 3) esl hT ga0 rg_112 rfl
  have hap : ∀ x y, x < 74 → y < 74 → x ≠ y → K.1.2 10 x ≠ K.1.2 10 y := x_apart hKT hts inX10 tyX10 tyX10_ok nmX10 rfl
  have f0_fr : FRR G s.heap s.heap := FRR.rf
  have f0_s_gq : ∀ j : Nat, fI s.heap gq j = fI s.heap gq j := fun _ => rfl
  have J2 : ∀ (nf : Nat)  (ls411 : Array Slot) (H410 : Heap) (locsH410 : List Loc) (x413 : Int32), lv_has ls411 3 [(0, .ref a0), (1, .int x1), (2, .int x413)] → TY K G H410 → va_S (AE G [140, 139] s.heap.size) s.heap H410 locsH410 → (0 ≤ x413.toInt ∧ x413.toInt ≤ 3) → (gq = fR H410 a0 (K.1.2 10 9)) → (fo = fI H410 a0 (K.1.2 10 2)) → (sl = fI H410 a0 (K.1.2 10 3)) → (CG (avw K H410 a0)) → (FRR G H410 s.heap) → (∀ j : Nat, fI H410 gq j = fI s.heap gq j) → (3 - x413.toInt < (nf : Int)) → (trV (tnR K s.heap a0 fo.toNatClampNeg x1.toNatClampNeg fsE fwE) (fun j : Nat => (fI s.heap gq (3 * x1.toNatClampNeg + j)).toInt) sl.toInt (3) 0 = trV (tnR K s.heap a0 fo.toNatClampNeg x1.toNatClampNeg fsE fwE) (fun j : Nat => (fI s.heap gq (3 * x1.toNatClampNeg + j)).toInt) sl.toInt (3 - x413.toNatClampNeg) x413.toNatClampNeg) → W p l e ({ frames := 6, cells := 0, slots := 0, locals := 145 } : Room) s m (([.ref a0, .int x1] : List Value).toArray) below meth c H410 locsH410 0 0 Q (F0 m 2 ls411 []) := by
    intro nf
    induction nf with
    | zero =>
      intro  ls411 H410 locsH410 x413 hl412 hTH410 hSH410 bx413 cy414_0 cy414_1 cy414_2 gy414_CG fy414_fr fy414_s_gq hm2 hsp2
      exfalso
      omega
    | succ nf ih2 =>
      intro  ls411 H410 locsH410 x413 hl412 hTH410 hSH410 bx413 cy414_0 cy414_1 cy414_2 gy414_CG fy414_fr fy414_s_gq hm2 hsp2
      refine lv_iload_n hx hb dX10_isTrue_2 rfl (lv_at hl412 2 rfl) ?_
      refine lv_iconst (v := 3) hx hb dX10_isTrue_3 (by decide) ?_
      refine lv_icmp_ge (tgt := 56) hx hb dX10_isTrue_4 (by decide) (fun c415 => ?_) (fun c415 => ?_)
      · have k416 := i_le c415
        refine lv_iconst (v := 1) hx hb dX10_isTrue_56 (by decide) ?_
        have cn_x413 := i_cl (x := x413) (by omega)
        exact x_zret C hQ (Or.inr rfl) dX10_isTrue_57 hSH410 (by decide) (by decide) (⟨1, rfl, by decide, (by rw [hsp2, trV_0 (by omega)]; rfl), hTH410⟩)
      · have k416 := i_nle c415
        refine lv_aload_n hx hb dX10_isTrue_7 rfl (lv_at hl412 0 rfl) ?_
        refine x_gr C hTH410 (ci := 10) (k := 9) rfl inX10 (by decide) wF_X10_29 ga0 rg_112 rfl dX10_isTrue_8 (fun q417 eq417 gq417 => ?_)
        have uq417 : gq = q417 := (cy414_0).trans eq417.symm
        subst uq417
        refine lv_iconst (v := 3) hx hb dX10_isTrue_11 (by decide) ?_
        refine lv_iload_n hx hb dX10_isTrue_12 rfl (lv_at hl412 1 rfl) ?_
        refine lv_imul hx hb dX10_isTrue_13 ?_
        refine lv_topi (fun x418 ex418 => ?_)
        have tx418 := i_mul ex418 (by rw [n_3]; omega)
        rw [n_3] at tx418
        refine lv_iload_n hx hb dX10_isTrue_14 rfl (lv_at hl412 2 rfl) ?_
        refine lv_iadd hx hb dX10_isTrue_15 ?_
        refine lv_topi (fun x419 ex419 => ?_)
        have tx419 := i_add ex419 (by omega)
        refine x_ai C hTH410 ggq rg_118 ⟨by omega, by show _ < ((30 : Nat) : Int); omega⟩ dX10_isTrue_16 (fun x420 ex420 bx420 => ?_)
        have cn_x413 := i_cl (x := x413) (by omega)
        have cn_x1 := i_cl (x := x1) (by omega)
        have cn_x419 := i_cl (x := x419) (by omega)
        have gzbg421 : fI s.heap gq (3 * x1.toNatClampNeg + x413.toNatClampNeg) = x420 := by rw [show (3 * x1.toNatClampNeg + x413.toNatClampNeg) = x419.toNatClampNeg by omega]; exact (fy414_s_gq _).symm.trans ex420.symm
        have bg421 : 0 ≤ x420.toInt ∧ x420.toInt ≤ 999999 := by rw [← gzbg421]; exact hy1 x413.toNatClampNeg (by omega)
        refine lv_if_le (tgt := 50) hx hb dX10_isTrue_17 (by decide) (fun c422 => ?_) (fun c422 => ?_)
        · have k423 := i_le c422
          obtain ⟨x424, ex424⟩ : ∃ y : Int32, y = x413 + 1 := ⟨_, rfl⟩
          have tx424 := i_add ex424 (by omega)
          refine lv_iinc (v := x424) (lv' := [(2, .int x424), (0, .ref a0), (1, .int x1)]) hx hb dX10_isTrue_50 hl412 (k := 2) rfl (by rw [ex424]; rfl) (by decide) rfl (fun ls425 hl426 => ?_)
          refine lv_goto (tgt := 2) hx hb dX10_isTrue_53 (by decide) ?_
          have cn_x413 := i_cl (x := x413) (by omega)
          have cn_x424 := i_cl (x := x424) (by omega)
          exact ih2  ls425 H410 locsH410 (x424) (lv_sub hl426 [1, 2, 0] rfl) hTH410 hSH410 (by have := i_rng x424; omega) cy414_0 cy414_1 cy414_2 gy414_CG fy414_fr fy414_s_gq (by omega) (hsp2.trans (trV_n (e := 3 - x424.toNatClampNeg) (by omega) (by omega) (fun z => by have z1 : (fI s.heap gq (3 * x1.toNatClampNeg + x413.toNatClampNeg)).toInt ≠ 0 ∧ _ := z; (try dsimp only at z1); rw [gzbg421] at z1; omega)))
        · have k423 := i_nle c422
          refine lv_aload_n hx hb dX10_isTrue_20 rfl (lv_at hl412 0 rfl) ?_
          refine lv_aload_n hx hb dX10_isTrue_21 rfl (lv_at hl412 0 rfl) ?_
          refine lv_iload_n hx hb dX10_isTrue_22 rfl (lv_at hl412 1 rfl) ?_
          refine lv_iload_n hx hb dX10_isTrue_23 rfl (lv_at hl412 2 rfl) ?_
          refine x_V (As := [.int x1, .int x413]) (rest := [.ref a0]) C (a_X10_toneNow_v l K G H410 (x1) (x413) (fo) (fsE) (fwE) hTH410 ga0 (by omega) (by omega) cy414_1 gy414_CG ((TXR.frr hT ga0 (FRR.tx ga0 fy414_fr) hy0))) yo_X10_toneNow wM_X10_335 ⟨⟨by decide, by decide⟩, by decide, by decide⟩ (x_rv C hTH410 (ci := 10) rfl ga0 rg_112) rfl hl412.1 rfl (Nat.le_of_ble_eq_true rfl) dX10_isTrue_24 hSH410 (AE_sub (fun _ _ => rfl) (by decide) hSH410.1) (fun vH427 H427 locsH427 pH427 zH427 kH427 hSH427 => ?_)
          obtain ⟨x428, hvH427, bx428, m429, hTH427⟩ := pH427
          subst hvH427
          have g430 : CG (avw K H427 a0) := CG.congr (fun k hk j => av_eff hTH410 kH427 ga0 (by decide) (CG_eff [140, 139] (by decide) k hk)) gy414_CG
          have f431 : FRR G H427 s.heap := (fun q t hq h1 h2 => (x_lt hTH410 kH427 hq (by first | omega | (intro z; simp only [List.mem_cons, List.not_mem_nil, or_false] at z <;> omega))).trans (fy414_fr q t hq h1 h2))
          have f432 : ∀ j : Nat, fI H427 gq j = fI s.heap gq j := fun j => (fI_kept (x_lt hTH410 kH427 ggq (by decide))).trans (fy414_s_gq j)
          have m433 := (cy414_0).trans (fR_kept (x_lt hTH410 kH427 ga0 (by decide))).symm
          have m434 := (cy414_1).trans (fI_kept (x_lt hTH410 kH427 ga0 (by decide))).symm
          have m435 := (cy414_2).trans (fI_kept (x_lt hTH410 kH427 ga0 (by decide))).symm
          have m436 := (ex420).trans (fI_kept (x_lt hTH410 kH427 ggq (by decide))).symm
          have tn437 : x428.toInt = tnR K s.heap a0 fo.toNatClampNeg x1.toNatClampNeg fsE fwE x413.toInt := by rw [← tnR_frr hT ga0 fy414_fr]; exact m429
          refine W.eq (g2 := F0 m 27 ls411 [.int x428, .ref a0]) rfl ?_
          refine lv_aload_n hx hb dX10_isTrue_27 rfl (lv_at hl412 0 rfl) ?_
          refine x_gr C hTH427 (ci := 10) (k := 9) rfl inX10 (by decide) wF_X10_29 ga0 rg_112 rfl dX10_isTrue_28 (fun q438 eq438 gq438 => ?_)
          have uq438 : gq = q438 := (m433).trans eq438.symm
          subst uq438
          refine lv_iconst (v := 3) hx hb dX10_isTrue_31 (by decide) ?_
          refine lv_iload_n hx hb dX10_isTrue_32 rfl (lv_at hl412 1 rfl) ?_
          refine lv_imul hx hb dX10_isTrue_33 ?_
          refine lv_topi (fun x439 ex439 => ?_)
          have tx439 := i_mul ex439 (by rw [n_3]; omega)
          rw [n_3] at tx439
          refine lv_iload_n hx hb dX10_isTrue_34 rfl (lv_at hl412 2 rfl) ?_
          refine lv_iadd hx hb dX10_isTrue_35 ?_
          refine lv_topi (fun x440 ex440 => ?_)
          have tx440 := i_add ex440 (by omega)
          refine x_ai C hTH427 ggq rg_118 ⟨by omega, by show _ < ((30 : Nat) : Int); omega⟩ dX10_isTrue_36 (fun x441 ex441 bx441 => ?_)
          have cn_x413 := i_cl (x := x413) (by omega)
          have cn_x1 := i_cl (x := x1) (by omega)
          have cn_x440 := i_cl (x := x440) (by omega)
          have gzbg442 : fI s.heap gq (3 * x1.toNatClampNeg + x413.toNatClampNeg) = x441 := by rw [show (3 * x1.toNatClampNeg + x413.toNatClampNeg) = x440.toNatClampNeg by omega]; exact (f432 _).symm.trans ex441.symm
          have bg442 : 0 ≤ x441.toInt ∧ x441.toInt ≤ 999999 := by rw [← gzbg442]; exact hy1 x413.toNatClampNeg (by omega)
          have gebg442 : x441.toInt = x420.toInt := congrArg Int32.toInt (gzbg442.symm.trans gzbg421)
          refine lv_isub hx hb dX10_isTrue_37 ?_
          refine lv_topi (fun x443 ex443 => ?_)
          have tx443 := i_sub ex443 (by omega)
          refine x_V (As := [.int x443]) (rest := []) C (a_X10_size_v l K G H427 (x443) hTH427 ga0 (by omega)) yo_X10_size wM_X10_309 ⟨⟨by decide, by decide⟩, by decide, by decide⟩ (x_rv C hTH427 (ci := 10) rfl ga0 rg_112) rfl hl412.1 rfl (Nat.le_of_ble_eq_true rfl) dX10_isTrue_38 hSH427 (AE_sub (fun _ _ => rfl) (by decide) hSH427.1) (fun vH444 H444 locsH444 pH444 zH444 kH444 hSH444 => ?_)
          obtain ⟨x445, hvH444, hrH444, hTH444⟩ := pH444
          subst hvH444
          have g446 : CG (avw K H444 a0) := CG.congr (fun k hk j => av_eff hTH427 kH444 ga0 (by decide) (CG_eff [] (by decide) k hk)) g430
          have f447 : FRR G H444 s.heap := (fun q t hq h1 h2 => (x_lt hTH427 kH444 hq (by first | omega | (intro z; simp only [List.mem_cons, List.not_mem_nil, or_false] at z <;> omega))).trans (f431 q t hq h1 h2))
          have f448 : ∀ j : Nat, fI H444 gq j = fI s.heap gq j := fun j => (fI_kept (x_lt hTH427 kH444 ggq (by decide))).trans (f432 j)
          have m449 := (m433).trans (fR_kept (x_lt hTH427 kH444 ga0 (by decide))).symm
          have m450 := (m434).trans (fI_kept (x_lt hTH427 kH444 ga0 (by decide))).symm
          have m451 := (m435).trans (fI_kept (x_lt hTH427 kH444 ga0 (by decide))).symm
          have m452 := (m436).trans (fI_kept (x_lt hTH427 kH444 ggq (by decide))).symm
          have m453 := (ex441).trans (fI_kept (x_lt hTH427 kH444 ggq (by decide))).symm
          refine W.eq (g2 := F0 m 41 ls411 [.int x445]) rfl ?_
          refine lv_aload_n hx hb dX10_isTrue_41 rfl (lv_at hl412 0 rfl) ?_
          refine x_gi C hTH444 (ci := 10) (k := 3) rfl inX10 (by decide) wF_X10_7 ga0 rg_112 rfl dX10_isTrue_42 (fun x454 ex454 bx454 => ?_)
          have ux454 : sl = x454 := (m451).trans ex454.symm
          subst ux454
          refine lv_icmp_le (tgt := 50) hx hb dX10_isTrue_45 (by decide) (fun c455 => ?_) (fun c455 => ?_)
          · have k456 := i_le c455
            obtain ⟨x457, ex457⟩ : ∃ y : Int32, y = x413 + 1 := ⟨_, rfl⟩
            have tx457 := i_add ex457 (by omega)
            refine lv_iinc (v := x457) (lv' := [(2, .int x457), (0, .ref a0), (1, .int x1)]) hx hb dX10_isTrue_50 hl412 (k := 2) rfl (by rw [ex457]; rfl) (by decide) rfl (fun ls458 hl459 => ?_)
            refine lv_goto (tgt := 2) hx hb dX10_isTrue_53 (by decide) ?_
            have cn_x413 := i_cl (x := x413) (by omega)
            have cn_x457 := i_cl (x := x457) (by omega)
            have tz_ := tn437
            rw [show x413.toInt = ((x413.toNatClampNeg : Nat) : Int) by omega] at tz_
            exact ih2  ls458 H444 locsH444 (x457) (lv_sub hl459 [1, 2, 0] rfl) hTH444 hSH444 (by have := i_rng x457; omega) m449 m450 m451 g446 f447 f448 (by omega) (hsp2.trans (trV_n (e := 3 - x457.toNatClampNeg) (by omega) (by omega) (fun z => by have z1 : (fI s.heap gq (3 * x1.toNatClampNeg + x413.toNatClampNeg)).toInt ≠ 0 ∧ _ := z; (try dsimp only at z1); rw [gzbg442, ← tz_] at z1; omega)))
          · have k456 := i_nle c455
            refine lv_iconst (v := 0) hx hb dX10_isTrue_48 (by decide) ?_
            have cn_x413 := i_cl (x := x413) (by omega)
            have tz_ := tn437
            rw [show x413.toInt = ((x413.toNatClampNeg : Nat) : Int) by omega] at tz_
            exact x_zret C hQ (Or.inl rfl) dX10_isTrue_49 hSH444 (by decide) (by decide) (⟨0, rfl, by decide, (by rw [hsp2, trV_y (by omega) (by show (fI s.heap gq (3 * x1.toNatClampNeg + x413.toNatClampNeg)).toInt ≠ 0 ∧ _; rw [gzbg442, ← tz_]; omega)]; rfl), hTH444⟩)
  refine lv_iconst (v := 0) hx hb dX10_isTrue_0 (by decide) ?_
  refine lv_istore_n (lv' := [(2, .int 0), (0, .ref a0), (1, .int x1)]) hx hb dX10_isTrue_1 rfl hl (by decide) rfl (fun ls460 hl461 => ?_)
  exact J2 ((3 - (0 : Int32).toInt).toNat + 1)  ls460 s.heap [] (0) (lv_sub hl461 [1, 2, 0] rfl) hT hS (by decide) egq efo esl hg_CG f0_fr f0_s_gq (by omega) (by rfl)
