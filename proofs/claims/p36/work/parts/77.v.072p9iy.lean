/-! ===== what both sides share: bars and texts ===== -/
def LWT (r : Nat) : Int := if r < 2 then 1 else 0
def ThV (v : BW) : Prop := ∀ j : Nat, (j : Int) < v 0 0 → 1 ≤ v 1 j
def GoV (v : BW) : Prop := (∀ k, k < 3 → 0 ≤ v 5 k ∧ v 5 k ≤ 999999) ∧ ThV v
def BPE (n : Int) (C R : Nat → BW) : Prop := (∀ j : Nat, j < 10 → (j : Int) < n → EqW (C j) (R j) ∧ ObV (C j) ∧ GoV (C j)) ∧ ∀ j : Nat, j < 10 → n ≤ (j : Int) → PrsV (R j)
theorem EqV.sy {v u : BW} (h : EqV v u) : EqV u v := fun k j hj => (h k j hj).symm
theorem PrsV.eqv {v u : BW} (h : PrsV v) (e : EqV u v) : PrsV u := ⟨fun j hj => (e 5 j (by show j < 3; exact hj)).trans (h.1 j hj), (e 8 0 (by decide)).trans h.2.1, (e 9 0 (by decide)).trans h.2.2⟩
theorem ObV.p {v : BW} (h : ObV v) : v 8 0 ≤ 200 := h.2.2.2
theorem BPE.congr {n : Int} {C R C1 R1 : Nat → BW} (h : BPE n C R) (c : ∀ j, j < 10 → C1 j = C j) (r : ∀ j, j < 10 → EqV (R1 j) (R j)) : BPE n C1 R1 := by
  refine ⟨fun j hj hn => ?_, fun j hj hn => ?_⟩
  · obtain ⟨a, b, g⟩ := h.1 j hj hn
    rw [c j hj]
    exact ⟨a.trR b.p (r j hj).sy, b, g⟩
  · exact (h.2 j hj hn).eqv (r j hj)
theorem BPE.set {n : Int} {C R C1 R1 : Nat → BW} {i : Nat} (h : BPE n C R) (hn : (i : Int) < n) (e : EqW (C1 i) (R1 i)) (o : ObV (C1 i)) (g : GoV (C1 i)) (c : ∀ j, j < 10 → j ≠ i → C1 j = C j) (r : ∀ j, j < 10 → j ≠ i → EqV (R1 j) (R j)) : BPE n C1 R1 := by
  refine ⟨fun j hj hn2 => ?_, fun j hj hn2 => ?_⟩
  · by_cases z : j = i
    · subst z
      exact ⟨e, o, g⟩
    · obtain ⟨a, b, g2⟩ := h.1 j hj hn2
      rw [c j hj z]
      exact ⟨a.trR b.p (r j hj z).sy, b, g2⟩
  · exact (h.2 j hj hn2).eqv (r j hj (by intro z; subst z; omega))
theorem BPE.add {n m s : Int} {C R C1 R1 : Nat → BW} {i : Nat} (h : BPE n C R) (hn : (i : Int) = n) (hm : m = n + 1) (hs : 3 ≤ s ∧ s ≤ 16) (a : NewV (C1 i) s) (b : NewV (R1 i) s) (c : ∀ j, j < 10 → j ≠ i → C1 j = C j) (r : ∀ j, j < 10 → j ≠ i → EqV (R1 j) (R j)) : BPE m C1 R1 := by
  subst hm
  refine ⟨fun j hj hn2 => ?_, fun j hj hn2 => ?_⟩
  · by_cases z : j = i
    · subst z
      obtain ⟨a1, a2, a3, a4, a5⟩ := id a
      refine ⟨a.eq b, ?_, fun k hk => ?_, fun l hl => ?_⟩
      · unfold ObV
        rw [a1, a4]
        omega
      · rw [a3 k hk]
        omega
      · have := (a2 l (by omega)).1
        omega
    · obtain ⟨x, y, g2⟩ := h.1 j hj (by omega)
      rw [c j hj z]
      exact ⟨x.trR y.p (r j hj z).sy, y, g2⟩
  · exact (h.2 j hj (by omega)).eqv (r j hj (by intro z; subst z; omega))
theorem BPE.nil {C R : Nat → BW} (h : ∀ j, j < 10 → PrsV (R j)) : BPE 0 C R := ⟨fun j _ hn => by omega, fun j hj _ => h j hj⟩
/-- a law, a job of a world; of the reference; of its image -/
def TXP (K : KE) (H : Heap) (w : Nat) (r : Nat) (kk vv : Nat → Int) (lw : Int) (n : Nat) : Prop := TXM K H (ow K H w (10 + r)) kk vv lw n ∧ (fI H (ow K H w (10 + r)) (K.1.2 7 0)).toInt = (n : Int) ∧ TXB K H (ow K H w (10 + r)) n
def TRP (K : KE) (H : Heap) (b : Nat) (r : Nat) (kk vv : Nat → Int) (lw : Int) (n : Nat) : Prop := TXMR K H b r kk vv lw n ∧ (fI H (fR H b (K.1.2 10 24)) r).toInt = (n : Int)
def TIP (H : Heap) (iq : Nat) (r : Nat) (kk vv : Nat → Int) (lw : Int) (n : Nat) : Prop := (∀ j, j < n → LNR kk vv lw (lpo kk vv lw j) (fI H iq (8914 + 7 * (16 * r + j))) (fI H iq (8915 + 7 * (16 * r + j))) (fI H iq (8916 + 7 * (16 * r + j))) (fI H iq (8917 + 7 * (16 * r + j))) (fI H iq (8918 + 7 * (16 * r + j))) (fI H iq (8919 + 7 * (16 * r + j))) (fI H iq (8920 + 7 * (16 * r + j))) (fun i => fI H iq (9586 + 2 * i)) (fun i => fI H iq (9587 + 2 * i)) (500 * r)) ∧ (fI H iq (8908 + r)).toInt = (n : Int)
abbrev TPR : Type := Nat → (Nat → Int) → (Nat → Int) → Int → Nat → Prop
def TPE (C R : TPR) : Prop := ∀ r : Nat, r < 6 → ∃ (n : Nat) (kk vv : Nat → Int), n ≤ 16 ∧ LNO kk vv (LWT r) n ∧ C r kk vv (LWT r) n ∧ R r kk vv (LWT r) n
def TPK (C1 C : TPR) : Prop := ∀ (r : Nat) (kk vv : Nat → Int) (lw : Int) (n : Nat), r < 6 → n ≤ 16 → C r kk vv lw n → C1 r kk vv lw n
theorem TPK.rf {C : TPR} : TPK C C := fun _ _ _ _ _ _ _ h => h
theorem TPE.congr {C R C1 R1 : TPR} (h : TPE C R) (c : TPK C1 C) (d : TPK R1 R) : TPE C1 R1 := by
  intro r hr
  obtain ⟨n, kk, vv, h1, h2, h3, h4⟩ := h r hr
  exact ⟨n, kk, vv, h1, h2, c r kk vv _ n hr h1 h3, d r kk vv _ n hr h1 h4⟩
theorem TPE.set {C R C1 R1 : TPR} {i n : Nat} {kk vv : Nat → Int} (h : TPE C R) (h1 : n ≤ 16) (h2 : LNO kk vv (LWT i) n) (h3 : C1 i kk vv (LWT i) n) (h4 : R1 i kk vv (LWT i) n) (c : ∀ (r : Nat) (kk vv : Nat → Int) (lw : Int) (n : Nat), r < 6 → n ≤ 16 → r ≠ i → C r kk vv lw n → C1 r kk vv lw n) (d : ∀ (r : Nat) (kk vv : Nat → Int) (lw : Int) (n : Nat), r < 6 → n ≤ 16 → r ≠ i → R r kk vv lw n → R1 r kk vv lw n) : TPE C1 R1 := by
  intro r hr
  by_cases z : r = i
  · subst z
    exact ⟨n, kk, vv, h1, h2, h3, h4⟩
  · obtain ⟨n, kk, vv, h1, h2, h3, h4⟩ := h r hr
    exact ⟨n, kk, vv, h1, h2, c r kk vv _ n hr h1 z h3, d r kk vv _ n hr h1 z h4⟩
/-- bars of a world, of the reference, of its image -/
def vcN (K : KE) (H : Heap) (w : Nat) : Nat → BW := fun j => vwC K H (ow K H w j)
def vrN (K : KE) (H : Heap) (b : Nat) : Nat → BW := fun j => vwR K H b j
def imP (k bar j : Nat) : Nat := if k = 0 then 6 + 6 * bar else if k = 8 then 7 + 6 * bar else if k = 9 then 8 + 6 * bar else if k ≤ 4 then 65 + k + 4 * (16 * bar + j) else if k = 5 then 706 + (3 * bar + j) else 790 + k + 2 * (200 * bar + j)
def viN (H : Heap) (iq : Nat) : Nat → BW := fun bar k j => if k ≤ 9 then (if (k = 0 ∨ k = 8 ∨ k = 9) ∧ j ≠ 0 then 0 else (fI H iq (imP k bar j)).toInt) else 0
/-- the image's rows are the fields -/
def IMB (K : KE) (H : Heap) (b iq : Nat) : Prop := ∀ bar, bar < 10 → ∀ k j, k ≤ 9 → j < mwR k → fI H (fR H b (K.1.2 10 (rcR k))) (mwR k * bar + j) = fI H iq (imP k bar j)
theorem IMB.eqv {K : KE} {H : Heap} {b iq : Nat} (h : IMB K H b iq) {bar : Nat} (hb : bar < 10) : EqV (vwR K H b bar) (viN H iq bar) := by
  intro k j hj
  show vwR K H b bar k j = (if k ≤ 9 then (if (k = 0 ∨ k = 8 ∨ k = 9) ∧ j ≠ 0 then 0 else (fI H iq (imP k bar j)).toInt) else 0)
  unfold vwR
  by_cases c : k ≤ 9
  · rw [if_pos c, if_pos c]
    by_cases d : (k = 0 ∨ k = 8 ∨ k = 9) ∧ j ≠ 0
    · rw [if_pos d, if_pos d]
    · rw [if_neg d, if_neg d, h bar hb k j c]
      have : k = 0 ∨ k = 1 ∨ k = 2 ∨ k = 3 ∨ k = 4 ∨ k = 5 ∨ k = 6 ∨ k = 7 ∨ k = 8 ∨ k = 9 := by omega
      rcases this with rfl | rfl | rfl | rfl | rfl | rfl | rfl | rfl | rfl | rfl <;> exact hj
  · rw [if_neg c, if_neg c]
theorem IMB.of {K : KE} {H : Heap} {b iq : Nat} (e4 : EQ (fun j => fI H (fR H b (K.1.2 10 4)) j) (fun j => fI H iq j) 6 6 10) (e10 : EQ (fun j => fI H (fR H b (K.1.2 10 10)) j) (fun j => fI H iq j) 7 6 10) (e13 : EQ (fun j => fI H (fR H b (K.1.2 10 13)) j) (fun j => fI H iq j) 8 6 10) (e5 : EQ (fun j => fI H (fR H b (K.1.2 10 5)) j) (fun j => fI H iq j) 66 4 160) (e6 : EQ (fun j => fI H (fR H b (K.1.2 10 6)) j) (fun j => fI H iq j) 67 4 160) (e7 : EQ (fun j => fI H (fR H b (K.1.2 10 7)) j) (fun j => fI H iq j) 68 4 160) (e8 : EQ (fun j => fI H (fR H b (K.1.2 10 8)) j) (fun j => fI H iq j) 69 4 160) (e9 : EQ (fun j => fI H (fR H b (K.1.2 10 9)) j) (fun j => fI H iq j) 706 1 30) (e11 : EQ (fun j => fI H (fR H b (K.1.2 10 11)) j) (fun j => fI H iq j) 796 2 2000) (e12 : EQ (fun j => fI H (fR H b (K.1.2 10 12)) j) (fun j => fI H iq j) 797 2 2000) : IMB K H b iq := by
  intro bar hb k j hk hj
  have : k = 0 ∨ k = 1 ∨ k = 2 ∨ k = 3 ∨ k = 4 ∨ k = 5 ∨ k = 6 ∨ k = 7 ∨ k = 8 ∨ k = 9 := by omega
  rcases this with rfl | rfl | rfl | rfl | rfl | rfl | rfl | rfl | rfl | rfl
  · have hj : j < 1 := hj
    have z := e4 (1 * bar + j) (by omega)
    rw [show imP 0 bar j = 6 + 6 * (1 * bar + j) by show 6 + 6 * bar = _; omega]
    exact z
  · have hj : j < 16 := hj
    exact e5 (16 * bar + j) (by omega)
  · have hj : j < 16 := hj
    exact e6 (16 * bar + j) (by omega)
  · have hj : j < 16 := hj
    exact e7 (16 * bar + j) (by omega)
  · have hj : j < 16 := hj
    exact e8 (16 * bar + j) (by omega)
  · have hj : j < 3 := hj
    have z := e9 (3 * bar + j) (by omega)
    rw [Nat.one_mul] at z
    exact z
  · have hj : j < 200 := hj
    exact e11 (200 * bar + j) (by omega)
  · have hj : j < 200 := hj
    exact e12 (200 * bar + j) (by omega)
  · have hj : j < 1 := hj
    have z := e10 (1 * bar + j) (by omega)
    rw [show imP 8 bar j = 7 + 6 * (1 * bar + j) by show 7 + 6 * bar = _; omega]
    exact z
  · have hj : j < 1 := hj
    have z := e13 (1 * bar + j) (by omega)
    rw [show imP 9 bar j = 8 + 6 * (1 * bar + j) by show 8 + 6 * bar = _; omega]
    exact z
/-- a world whose bars', texts' cells and rows are as they were -/
theorem RFW.of {K : KE} {G : Nat → Option Nat} {H H1 : Heap} {w : Nat} (hT : TY K G H) (gw : G w = some 0) (r : ∀ k, k = 0 ∨ k = 2 ∨ k = 3 → fR H1 w (K.1.2 8 k) = fR H w (K.1.2 8 k)) (e : ∀ q t, G q = some t → (1 ≤ t ∧ t ≤ 27) → H1[q]? = H[q]?) : RFW K H1 H w := by
  refine ⟨r, fun k i hk => ?_, fun i hi => RFB.cell (e _ _ (ow_g hT gw hi) (by omega)), fun i h1 h2 => RFT.cell (e _ _ (ow_t hT gw h1 h2) (by omega))⟩
  rcases hk with ⟨rfl, _⟩ | ⟨rfl, _⟩ | ⟨rfl, _⟩
  · exact fR_kept (e _ _ (ty_fr (q := _) (k := 0) (u := 25) rfl hT gw rg_0 rfl) (by omega))
  · exact fR_kept (e _ _ (ty_fr (q := _) (k := 2) (u := 26) rfl hT gw rg_0 rfl) (by omega))
  · exact fR_kept (e _ _ (ty_fr (q := _) (k := 3) (u := 27) rfl hT gw rg_0 rfl) (by omega))
theorem vcN.kept {K : KE} {G : Nat → Option Nat} {H H1 : Heap} {w : Nat} (hT : TY K G H) (gw : G w = some 0) (r : RFW K H1 H w) (e : ∀ q t, G q = some t → (1 ≤ t ∧ t ≤ 8) → H1[q]? = H[q]?) : ∀ j, j < 10 → vcN K H1 w j = vcN K H w j := by
  intro j hj
  show vwC K H1 (ow K H1 w j) = vwC K H (ow K H w j)
  rw [r.wo (by omega)]
  exact vw_z hT (ow_g hT gw hj) e
theorem TXP.kept {K : KE} {G : Nat → Option Nat} {H H1 : Heap} {w : Nat} (hT : TY K G H) (gw : G w = some 0) (r : RFW K H1 H w) (e : ∀ q t, G q = some t → (16 ≤ t ∧ t ≤ 24) → H1[q]? = H[q]?) : TPK (TXP K H1 w) (TXP K H w) := by
  intro i kk vv lw n hi hn h
  have gt := ow_t hT gw (i := 10 + i) (by omega) (by omega)
  have ec := e _ _ gt (by omega)
  have er : ∀ k, 1 ≤ k → k ≤ 8 → ∀ j, fI H1 (fR H1 (ow K H w (10 + i)) (K.1.2 7 k)) j = fI H (fR H (ow K H w (10 + i)) (K.1.2 7 k)) j := fun k h1 h8 j => by
    rw [fR_kept ec, fI_kept (e _ _ (gTz hT gt k h1 h8) (by omega))]
  obtain ⟨h1, h2, h3⟩ := h
  unfold TXP
  rw [r.wo (by omega)]
  refine ⟨fun j hj => ?_, (congrArg Int32.toInt (fI_kept ec)).trans h2, fun l hl => ?_⟩
  · rw [er 1 (by decide) (by decide), er 2 (by decide) (by decide), er 3 (by decide) (by decide), er 4 (by decide) (by decide), er 5 (by decide) (by decide), er 6 (by decide) (by decide), er 7 (by decide) (by decide), show (fun z => fI H1 (fR H1 (ow K H w (10 + i)) (K.1.2 7 8)) z) = (fun z => fI H (fR H (ow K H w (10 + i)) (K.1.2 7 8)) z) from funext (er 8 (by decide) (by decide))]
    exact h1 j hj
  · rw [er 6 (by decide) (by decide), er 7 (by decide) (by decide), fI_kept ec]
    exact h3 l hl
/-- a world whose bars', texts' cells and rows are as they were -/
theorem RFW.ofK {K : KE} {G : Nat → Option Nat} {H H1 : Heap} {w : Nat} (hT : TY K G H) (gw : G w = some 34) (r : ∀ k, k = 0 ∨ k = 2 ∨ k = 3 → fR H1 w (K.1.2 8 k) = fR H w (K.1.2 8 k)) (e : ∀ q t, G q = some t → (35 ≤ t ∧ t ≤ 61) → H1[q]? = H[q]?) : RFW K H1 H w := by
  refine ⟨r, fun k i hk => ?_, fun i hi => RFB.cell (e _ _ (ow_gK hT gw hi) (by omega)), fun i h1 h2 => RFT.cell (e _ _ (ow_tK hT gw h1 h2) (by omega))⟩
  rcases hk with ⟨rfl, _⟩ | ⟨rfl, _⟩ | ⟨rfl, _⟩
  · exact fR_kept (e _ _ (ty_fr (q := _) (k := 0) (u := 59) rfl hT gw rg_34 rfl) (by omega))
  · exact fR_kept (e _ _ (ty_fr (q := _) (k := 2) (u := 60) rfl hT gw rg_34 rfl) (by omega))
  · exact fR_kept (e _ _ (ty_fr (q := _) (k := 3) (u := 61) rfl hT gw rg_34 rfl) (by omega))
theorem vcN.keptK {K : KE} {G : Nat → Option Nat} {H H1 : Heap} {w : Nat} (hT : TY K G H) (gw : G w = some 34) (r : RFW K H1 H w) (e : ∀ q t, G q = some t → (35 ≤ t ∧ t ≤ 42) → H1[q]? = H[q]?) : ∀ j, j < 10 → vcN K H1 w j = vcN K H w j := by
  intro j hj
  show vwC K H1 (ow K H1 w j) = vwC K H (ow K H w j)
  rw [r.wo (by omega)]
  exact vw_zK hT (ow_gK hT gw hj) e
theorem TXP.keptK {K : KE} {G : Nat → Option Nat} {H H1 : Heap} {w : Nat} (hT : TY K G H) (gw : G w = some 34) (r : RFW K H1 H w) (e : ∀ q t, G q = some t → (50 ≤ t ∧ t ≤ 58) → H1[q]? = H[q]?) : TPK (TXP K H1 w) (TXP K H w) := by
  intro i kk vv lw n hi hn h
  have gt := ow_tK hT gw (i := 10 + i) (by omega) (by omega)
  have ec := e _ _ gt (by omega)
  have er : ∀ k, 1 ≤ k → k ≤ 8 → ∀ j, fI H1 (fR H1 (ow K H w (10 + i)) (K.1.2 7 k)) j = fI H (fR H (ow K H w (10 + i)) (K.1.2 7 k)) j := fun k h1 h8 j => by
    rw [fR_kept ec, fI_kept (e _ _ (gTzK hT gt k h1 h8) (by omega))]
  obtain ⟨h1, h2, h3⟩ := h
  unfold TXP
  rw [r.wo (by omega)]
  refine ⟨fun j hj => ?_, (congrArg Int32.toInt (fI_kept ec)).trans h2, fun l hl => ?_⟩
  · rw [er 1 (by decide) (by decide), er 2 (by decide) (by decide), er 3 (by decide) (by decide), er 4 (by decide) (by decide), er 5 (by decide) (by decide), er 6 (by decide) (by decide), er 7 (by decide) (by decide), show (fun z => fI H1 (fR H1 (ow K H w (10 + i)) (K.1.2 7 8)) z) = (fun z => fI H (fR H (ow K H w (10 + i)) (K.1.2 7 8)) z) from funext (er 8 (by decide) (by decide))]
    exact h1 j hj
  · rw [er 6 (by decide) (by decide), er 7 (by decide) (by decide), fI_kept ec]
    exact h3 l hl
theorem BPE.congrV {n : Int} {C R C1 R1 : Nat → BW} (h : BPE n C R) (c : ∀ j : Nat, j < 10 → (j : Int) < n → EqV (C1 j) (C j)) (r : ∀ j, j < 10 → EqV (R1 j) (R j)) : BPE n C1 R1 := by
  refine ⟨fun j hj hn => ?_, fun j hj hn => (h.2 j hj hn).eqv (r j hj)⟩
  obtain ⟨a, b, g⟩ := h.1 j hj hn
  have e := c j hj hn
  have e0 : C1 j 0 0 = C j 0 0 := e 0 0 (by decide)
  have e8 : C1 j 8 0 = C j 8 0 := e 8 0 (by decide)
  have b1 : ObV (C1 j) := by
    unfold ObV at b ⊢
    rw [e0, e8]
    exact b
  have b16 := b.2.1
  refine ⟨(EqW.trL e b1.p a).trR b1.p (r j hj).sy, b1, fun k hk => ?_, fun l hl => ?_⟩
  · rw [e 5 k (by show k < 3; exact hk)]
    exact g.1 k hk
  · rw [e0] at hl
    rw [e 1 l (by show l < 16; omega)]
    exact g.2 l hl
theorem TXO.copy {K : KE} {H H1 : Heap} {q q1 n : Nat} {kk vv : Nat → Int} {lw : Int} (c : CPX K H1 H q1 q) (h : TXM K H q kk vv lw n) (h2 : (fI H q (K.1.2 7 0)).toInt = (n : Int)) (h3 : TXB K H q n) (hn : n ≤ 16) : TXM K H1 q1 kk vv lw n ∧ (fI H1 q1 (K.1.2 7 0)).toInt = (n : Int) ∧ TXB K H1 q1 n := by
  obtain ⟨c1, c2, c3, c4⟩ := c
  refine ⟨h.copy (m := (fI H q (K.1.2 7 9)).toNatClampNeg) hn c3 c4 h3, by rw [c1]; exact h2, fun l hl => ?_⟩
  rw [c3 6 (by decide) (by decide) l (by omega), c3 7 (by decide) (by decide) l (by omega), c2]
  exact h3 l hl
theorem TXP.copy {K : KE} {H H1 : Heap} {w w1 : Nat} (c : ∀ i, 10 ≤ i → i < 16 → CPX K H1 H (ow K H1 w1 i) (ow K H w i)) : TPK (TXP K H1 w1) (TXP K H w) := fun r _ _ _ _ hr hn h => TXO.copy (c (10 + r) (by omega) (by omega)) h.1 h.2.1 h.2.2 hn
theorem LNR.iff {kk vv : Nat → Int} {lw : Int} {i r : Nat} {w f1 f2 f3 a b c w' f1' f2' f3' a' b' c' : Int32} {O A O1 A1 : Nat → Int32} (hr : r < 6) (h : LNR kk vv lw i w f1 f2 f3 a b c O A (500 * r)) (e : w' = w ∧ f1' = f1 ∧ f2' = f2 ∧ f3' = f3 ∧ a' = a ∧ b' = b ∧ c' = c) (eO : ∀ j, j < 3000 → O1 j = O j) (eA : ∀ j, j < 3000 → A1 j = A j) (hb : b.toNatClampNeg ≤ 500) (hc : c.toNatClampNeg ≤ 500) : LNR kk vv lw i w' f1' f2' f3' a' b' c' O1 A1 (500 * r) := by
  obtain ⟨rfl, rfl, rfl, rfl, rfl, rfl, rfl⟩ := e
  exact h.keep (n := 500) (fun j hj => eO j (by omega)) (fun j hj => eA j (by omega)) hb hc
theorem ln_500 {K : KE} {G : Nat → Option Nat} {H : Heap} {b l : Nat} (hT : TY K G H) (gb : G b = some 112) (hl : l < 96) : (fI H (fR H b (K.1.2 10 30)) l).toNatClampNeg ≤ 500 ∧ (fI H (fR H b (K.1.2 10 31)) l).toNatClampNeg ≤ 500 := by
  obtain ⟨-, -, -, -, -, -, z1⟩ := hT.aint (j := l) (ty_fr (q := _) (k := 30) (u := 134) rfl hT gb rgM rfl) rg_134 (by omega)
  obtain ⟨-, -, -, -, -, -, z2⟩ := hT.aint (j := l) (ty_fr (q := _) (k := 31) (u := 135) rfl hT gb rgM rfl) rg_135 (by omega)
  have c1 := i_cl (x := fI H (fR H b (K.1.2 10 30)) l) (by omega)
  have c2 := i_cl (x := fI H (fR H b (K.1.2 10 31)) l) (by omega)
  exact ⟨by omega, by omega⟩
/-- the image's rows of texts are the fields' -/
def IMT (K : KE) (H : Heap) (b iq : Nat) : Prop := EQ (fun j => fI H (fR H b (K.1.2 10 24)) j) (fun j => fI H iq j) 8908 1 6 ∧ EQ (fun j => fI H (fR H b (K.1.2 10 25)) j) (fun j => fI H iq j) 8914 7 96 ∧ EQ (fun j => fI H (fR H b (K.1.2 10 26)) j) (fun j => fI H iq j) 8915 7 96 ∧ EQ (fun j => fI H (fR H b (K.1.2 10 27)) j) (fun j => fI H iq j) 8916 7 96 ∧ EQ (fun j => fI H (fR H b (K.1.2 10 28)) j) (fun j => fI H iq j) 8917 7 96 ∧ EQ (fun j => fI H (fR H b (K.1.2 10 29)) j) (fun j => fI H iq j) 8918 7 96 ∧ EQ (fun j => fI H (fR H b (K.1.2 10 30)) j) (fun j => fI H iq j) 8919 7 96 ∧ EQ (fun j => fI H (fR H b (K.1.2 10 31)) j) (fun j => fI H iq j) 8920 7 96 ∧ EQ (fun j => fI H (fR H b (K.1.2 10 32)) j) (fun j => fI H iq j) 9586 2 3000 ∧ EQ (fun j => fI H (fR H b (K.1.2 10 33)) j) (fun j => fI H iq j) 9587 2 3000
theorem IMT.i {K : KE} {G : Nat → Option Nat} {H : Heap} {b iq : Nat} (h : IMT K H b iq) (hT : TY K G H) (gb : G b = some 112) : TPK (TIP H iq) (TRP K H b) := by
  intro r kk vv lw n hr hn t
  obtain ⟨e0, e1, e2, e3, e4, e5, e6, e7, eo, ea⟩ := h
  obtain ⟨t1, t2⟩ := t
  refine ⟨fun j hj => ?_, ?_⟩
  · have b5 := ln_500 hT gb (l := 16 * r + j) (by omega)
    exact (t1 j hj).iff hr ⟨(e1 _ (by omega)).symm, (e2 _ (by omega)).symm, (e3 _ (by omega)).symm, (e4 _ (by omega)).symm, (e5 _ (by omega)).symm, (e6 _ (by omega)).symm, (e7 _ (by omega)).symm⟩ (fun j hj => (eo j hj).symm) (fun j hj => (ea j hj).symm) b5.1 b5.2
  · have z := e0 r hr
    rw [Nat.one_mul] at z
    exact (congrArg Int32.toInt z.symm).trans t2
theorem IMT.r {K : KE} {G : Nat → Option Nat} {H : Heap} {b iq : Nat} (h : IMT K H b iq) (hT : TY K G H) (gb : G b = some 112) : TPK (TRP K H b) (TIP H iq) := by
  intro r kk vv lw n hr hn t
  obtain ⟨e0, e1, e2, e3, e4, e5, e6, e7, eo, ea⟩ := h
  obtain ⟨t1, t2⟩ := t
  refine ⟨fun j hj => ?_, ?_⟩
  · have b5 := ln_500 hT gb (l := 16 * r + j) (by omega)
    have x6 := e6 (16 * r + j) (by omega)
    have x7 := e7 (16 * r + j) (by omega)
    exact (t1 j hj).iff hr ⟨e1 _ (by omega), e2 _ (by omega), e3 _ (by omega), e4 _ (by omega), e5 _ (by omega), x6, x7⟩ eo ea (by have z := b5.1; rw [show fI H (fR H b (K.1.2 10 30)) (16 * r + j) = _ from x6] at z; exact z) (by have z := b5.2; rw [show fI H (fR H b (K.1.2 10 31)) (16 * r + j) = _ from x7] at z; exact z)
  · have z := e0 r hr
    rw [Nat.one_mul] at z
    exact (congrArg Int32.toInt z).trans t2
/-- the reference's bars, texts: rows as they were -/
theorem vrN.kept {K : KE} {H H1 : Heap} {b : Nat} (r : ∀ k, k < 10 → fR H1 b (K.1.2 10 (rcR k)) = fR H b (K.1.2 10 (rcR k))) (e : ∀ k, k < 10 → ∀ j, fI H1 (fR H b (K.1.2 10 (rcR k))) j = fI H (fR H b (K.1.2 10 (rcR k))) j) (bar : Nat) : vrN K H1 b bar = vrN K H b bar := by
  funext k j
  show vwR K H1 b bar k j = vwR K H b bar k j
  unfold vwR
  by_cases c : k ≤ 9
  · rw [if_pos c, if_pos c, r k (by omega), e k (by omega)]
  · rw [if_neg c, if_neg c]
theorem TRP.kept {K : KE} {H H1 : Heap} {b : Nat} (r : ∀ k, 24 ≤ k → k ≤ 33 → fR H1 b (K.1.2 10 k) = fR H b (K.1.2 10 k)) (e : ∀ k, 24 ≤ k → k ≤ 33 → ∀ j, fI H1 (fR H b (K.1.2 10 k)) j = fI H (fR H b (K.1.2 10 k)) j) : TPK (TRP K H1 b) (TRP K H b) := by
  intro i kk vv lw n hi hn h
  have er : ∀ k, 24 ≤ k → k ≤ 33 → ∀ j, fI H1 (fR H1 b (K.1.2 10 k)) j = fI H (fR H b (K.1.2 10 k)) j := fun k h1 h2 j => by rw [r k h1 h2, e k h1 h2]
  obtain ⟨h1, h2⟩ := h
  refine ⟨fun j hj => ?_, by rw [er 24 (by decide) (by decide)]; exact h2⟩
  rw [er 25 (by decide) (by decide), er 26 (by decide) (by decide), er 27 (by decide) (by decide), er 28 (by decide) (by decide), er 29 (by decide) (by decide), er 30 (by decide) (by decide), er 31 (by decide) (by decide), show (fun z => fI H1 (fR H1 b (K.1.2 10 32)) z) = (fun z => fI H (fR H b (K.1.2 10 32)) z) from funext (er 32 (by decide) (by decide)), show (fun z => fI H1 (fR H1 b (K.1.2 10 33)) z) = (fun z => fI H (fR H b (K.1.2 10 33)) z) from funext (er 33 (by decide) (by decide))]
  exact h1 j hj
theorem viN.kept {H H1 : Heap} {iq : Nat} (e : ∀ j, fI H1 iq j = fI H iq j) (bar : Nat) : viN H1 iq bar = viN H iq bar := by
  funext k j
  show (if k ≤ 9 then (if (k = 0 ∨ k = 8 ∨ k = 9) ∧ j ≠ 0 then 0 else (fI H1 iq (imP k bar j)).toInt) else 0) = (if k ≤ 9 then (if (k = 0 ∨ k = 8 ∨ k = 9) ∧ j ≠ 0 then 0 else (fI H iq (imP k bar j)).toInt) else 0)
  rw [e]
theorem TIP.kept {H H1 : Heap} {iq : Nat} (e : ∀ j, fI H1 iq j = fI H iq j) : TPK (TIP H1 iq) (TIP H iq) := by
  intro i kk vv lw n hi hn h
  obtain ⟨h1, h2⟩ := h
  refine ⟨fun j hj => ?_, by rw [e]; exact h2⟩
  simp only [e]
  exact h1 j hj
