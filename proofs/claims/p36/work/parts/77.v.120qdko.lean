/-! ===== nights: the bar that beats most, the tuning that suits, how far from one another ===== -/
/-! ===== nights: numbers of 64 bits; beats in heaps that differ but in units and stack ===== -/
/-- tones and drifts of the bars in a later heap -/
theorem tv_fr3 {K : KE} {G : Nat → Option Nat} {H H0 : Heap} {tx bq j : Nat} {fsE fwE : Nat → EF} (hT : TY K G H) (gtx : G tx = some 16) (gbq : G bq = some 25) (fr : ∀ q t : Nat, G q = some t → t ≠ 83 → t ≠ 84 → t ≠ 109 → H0[q]? = H[q]?) (hj : j < 10) : toV (tlC K H0 tx fsE fwE) (vwC K H0 (fR H0 bq j)) 0 = toV (tlC K H tx fsE fwE) (vwC K H (fR H bq j)) 0 := by
  obtain ⟨c, -, -, -, -, -, gb⟩ := hT.aref gbq rg_25 hj
  rw [show fR H0 bq j = fR H bq j from fR_kept (fr _ _ gbq (by decide) (by decide) (by decide)), tlC_frm hT gtx (fun q t g h1 h2 => fr q t g (by omega) (by omega) (by omega)), vw_z hT gb (fun q t g ht => fr q t g (by omega) (by omega) (by omega))]
/-- what the tones' row says, the tubes' rows: in a later heap -/
def LTS (K : KE) (H : Heap) (tx bq ltq : Nat) (fsE fwE : Nat → EF) (n : Int) : Prop := ∀ j : Nat, j < 10 → (j : Int) < n → (fI H ltq j).toInt = toV (tlC K H tx fsE fwE) (vwC K H (fR H bq j)) 0 ∧ 0 ≤ (fI H ltq j).toInt ∧ (fI H ltq j).toInt ≤ 2000000000
def TUS (K : KE) (H : Heap) (bq : Nat) (n : Int) : Prop := ∀ j : Nat, j < 10 → (j : Int) < n → ∀ i : Nat, i < 2 → 1 ≤ (fI H (fR H (fR H bq j) (K.1.2 0 17)) i).toInt
theorem LTS.frm {K : KE} {G : Nat → Option Nat} {H H0 : Heap} {tx bq ltq : Nat} {fsE fwE : Nat → EF} {n : Int} (h : LTS K H tx bq ltq fsE fwE n) (hT : TY K G H) (gtx : G tx = some 16) (gbq : G bq = some 25) (glt : G ltq = some 109) (fr : FRM G H0 H) : LTS K H0 tx bq ltq fsE fwE n := fun j hj hn => by
  obtain ⟨c, -, -, -, -, -, gb⟩ := hT.aref gbq rg_25 hj
  rw [show fI H0 ltq j = fI H ltq j from fr.I glt (by decide) (by decide), show fR H0 bq j = fR H bq j from fr.R gbq (by decide) (by decide), tlC_frm hT gtx fr.tx, vw_frm hT gb fr]
  exact h j hj hn
theorem TUS.fr3 {K : KE} {G : Nat → Option Nat} {H H0 : Heap} {bq : Nat} {n : Int} (h : TUS K H bq n) (hT : TY K G H) (gbq : G bq = some 25) (fr : ∀ q t : Nat, G q = some t → (t = 1 ∨ t = 25 ∨ t = 15) → H0[q]? = H[q]?) : TUS K H0 bq n := fun j hj hn i hi => by
  obtain ⟨c, -, -, -, -, -, gb⟩ := hT.aref gbq rg_25 hj
  have gt : G (fR H (fR H bq j) (K.1.2 0 17)) = some 15 := ty_fr (q := _) (k := 17) (u := 15) rfl hT gb rg_1 rfl
  rw [show fR H0 bq j = fR H bq j from fR_kept (fr _ _ gbq (by omega)), show fR H0 (fR H bq j) (K.1.2 0 17) = fR H (fR H bq j) (K.1.2 0 17) from fR_kept (fr _ _ gb (by omega)), show fI H0 (fR H (fR H bq j) (K.1.2 0 17)) i = fI H (fR H (fR H bq j) (K.1.2 0 17)) i from fI_kept (fr _ _ gt (by omega))]
  exact h j hj hn i hi
theorem TUS.frm {K : KE} {G : Nat → Option Nat} {H H0 : Heap} {bq : Nat} {n : Int} (h : TUS K H bq n) (hT : TY K G H) (gbq : G bq = some 25) (fr : FRM G H0 H) : TUS K H0 bq n := h.fr3 hT gbq (fun q t g ht => fr q t g (by omega) (by omega))
theorem LTS.of {K : KE} {G : Nat → Option Nat} {H H0 : Heap} {tx bq ltq : Nat} {fsE fwE : Nat → EF} {n : Int} (h : ∀ j : Nat, j < 10 → (j : Int) < n → (fI H0 ltq j).toInt = toV (tlC K H tx fsE fwE) (vwC K H (fR H bq j)) 0 ∧ 0 ≤ (fI H0 ltq j).toInt ∧ (fI H0 ltq j).toInt ≤ 2000000000) (hT : TY K G H) (gtx : G tx = some 16) (gbq : G bq = some 25) (fr : ∀ q t : Nat, G q = some t → t ≠ 83 → t ≠ 84 → t ≠ 109 → H0[q]? = H[q]?) : LTS K H0 tx bq ltq fsE fwE n := fun j hj hn => by
  rw [tv_fr3 hT gtx gbq fr hj]
  exact h j hj hn
