/-! ===== what the reference's lines say ===== -/
/-- one line of the reference: its word, numbers, where its steps stand (z: the row's first step) -/
def LNR (kk vv : Nat → Int) (lw : Int) (i : Nat) (w f1 f2 f3 a b c : Int32) (O A : Nat → Int32) (z : Nat) : Prop :=
  ((lw ≠ 0 → w.toInt = kk i) ∧ (lw = 0 → wdR w.toInt = kk i ∧ w.toInt ≠ 6) ∧ f1.toInt = lf1 kk vv lw i) ∧ (lw = 0 → f3.toInt = lf3 kk vv i ∧ (kk i = 5 → f2.toInt = vv (i + 2))) ∧ ((lw ≠ 0 ∧ RZ lw O A (z + a.toNatClampNeg) (z + b.toNatClampNeg) [lfs kk vv lw i]) ∨ (lw = 0 ∧ a = b)) ∧ ((lhw kk vv lw i = true ∧ b.toInt < c.toInt ∧ RZ lw O A (z + b.toNatClampNeg) (z + c.toNatClampNeg) [lfw kk vv lw i]) ∨ (lhw kk vv lw i = false ∧ c = b))
def TXMR (K : KE) (H : Heap) (b row : Nat) (kk vv : Nat → Int) (lw : Int) (n : Nat) : Prop := ∀ j, j < n → LNR kk vv lw (lpo kk vv lw j) (fI H (fR H b (K.1.2 10 25)) (16 * row + j)) (fI H (fR H b (K.1.2 10 26)) (16 * row + j)) (fI H (fR H b (K.1.2 10 27)) (16 * row + j)) (fI H (fR H b (K.1.2 10 28)) (16 * row + j)) (fI H (fR H b (K.1.2 10 29)) (16 * row + j)) (fI H (fR H b (K.1.2 10 30)) (16 * row + j)) (fI H (fR H b (K.1.2 10 31)) (16 * row + j)) (fun i => fI H (fR H b (K.1.2 10 32)) i) (fun i => fI H (fR H b (K.1.2 10 33)) i) (500 * row)
def txRs (kk vv : Nat → Int) (lw : Int) (row : Nat) : Nat → EF := fun l => txFs kk vv lw (l - 16 * row)
def txRw (kk vv : Nat → Int) (lw : Int) (row : Nat) : Nat → EF := fun l => txFw kk vv lw (l - 16 * row)
theorem TXMR.txr {K : KE} {H : Heap} {b row n : Nat} {kk vv : Nat → Int} {lw : Int} (h : TXMR K H b row kk vv lw n) (hn : (fI H (fR H b (K.1.2 10 24)) row).toNatClampNeg = n) : TXR K H b row lw (txRs kk vv lw row) (txRw kk vv lw row) := by
  refine ⟨fun hl l h1 h2 as k => ?_, fun l h1 h2 hne as k => ?_⟩
  · obtain ⟨j, rfl⟩ : ∃ j, l = 16 * row + j := ⟨l - 16 * row, by omega⟩
    have g := h j (by omega)
    show _ = txFs kk vv lw (16 * row + j - 16 * row) (mkE lw as)
    rw [show 16 * row + j - 16 * row = j by omega]
    show _ = (if lw = 0 then zF else lfs kk vv lw (lpo kk vv lw j)) (mkE lw as)
    rw [if_neg hl]
    exact (g.2.2.1.resolve_right (fun z => hl z.1)).2.val
  · obtain ⟨j, rfl⟩ : ∃ j, l = 16 * row + j := ⟨l - 16 * row, by omega⟩
    have g := h j (by omega)
    show _ = lfw kk vv lw (lpo kk vv lw (16 * row + j - 16 * row)) (mkE lw as)
    rw [show 16 * row + j - 16 * row = j by omega]
    rcases g.2.2.2 with z | z
    · exact z.2.2.val
    · exact absurd z.2 hne
/-- the two sides' laws tell alike -/
theorem tdFG {wd fi wd1 fi1 : Nat → Int} {hw hw1 : Nat → Bool} {fs fw fs1 fw1 : Nat → Int32} {w t : Int} (hw3 : w ≠ 3) : ∀ (f l m : Nat), (∀ j, j < f → wd (l + j) = wd1 (m + j) ∧ fi (l + j) = fi1 (m + j) ∧ hw (l + j) = hw1 (m + j) ∧ fs (l + j) = fs1 (m + j) ∧ (hw (l + j) = true → fw (l + j) = fw1 (m + j))) → tdF wd fi hw fs fw w t f l = tdG wd1 fi1 hw1 fs1 fw1 w t f m
  | 0, _, _, _ => rfl
  | f + 1, l, m, h => by
    have h0 := h 0 (by omega)
    rw [Nat.add_zero, Nat.add_zero] at h0
    obtain ⟨e1, e2, e3, e4, e5⟩ := h0
    have ih := tdFG (wd := wd) (fi := fi) (wd1 := wd1) (fi1 := fi1) (hw := hw) (hw1 := hw1) (fs := fs) (fw := fw) (fs1 := fs1) (fw1 := fw1) (w := w) (t := t) hw3 f (l + 1) (m + 1) (fun j hj => by have z := h (j + 1) (by omega); rw [show l + (j + 1) = l + 1 + j by omega, show m + (j + 1) = m + 1 + j by omega] at z; exact z)
    show (if wd l = w ∧ fi l = t ∧ (hw l = false ∨ fw l ≠ 0) then clT w (fs l).toInt else tdF wd fi hw fs fw w t f (l + 1)) = (if wd1 m = w ∧ (w = 3 ∨ fi1 m = t) ∧ (hw1 m = false ∨ fw1 m ≠ 0) then clT w (fs1 m).toInt else tdG wd1 fi1 hw1 fs1 fw1 w t f (m + 1))
    rw [← e1, ← e2, ← e3, ← e4, ih]
    have hwq : (hw l = false ∨ fw l ≠ 0) ↔ (hw l = false ∨ fw1 m ≠ 0) := by
      cases hh : hw l with
      | false => exact ⟨fun _ => Or.inl rfl, fun _ => Or.inl rfl⟩
      | true => rw [e5 hh]
    by_cases c : wd l = w ∧ fi l = t ∧ (hw l = false ∨ fw l ≠ 0)
    · rw [if_pos c, if_pos ⟨c.1, Or.inr c.2.1, hwq.mp c.2.2⟩]
    · rw [if_neg c, if_neg (fun z => c ⟨z.1, z.2.1.resolve_left hw3, hwq.mpr z.2.2⟩)]
theorem EqT.of {K : KE} {H H1 : Heap} {q b row n : Nat} {kk vv : Nat → Int} {lw : Int} (h : TXM K H q kk vv lw n) (g : TXMR K H1 b row kk vv lw n) (hl : lw ≠ 0) (hn : (fI H q (K.1.2 7 0)).toNatClampNeg = n) (gn : (fI H1 (fR H1 b (K.1.2 10 24)) row).toNatClampNeg = n) : EqT (tlC K H q (txFs kk vv lw) (txFw kk vv lw)) (tlR K H1 b row (txRs kk vv lw row) (txRw kk vv lw row)) := by
  intro w k e hw h0 h2
  show tdF _ _ _ _ _ w k (fI H q (K.1.2 7 0)).toNatClampNeg 0 = tdG _ _ _ _ _ w k (fI H1 (fR H1 b (K.1.2 10 24)) row).toNatClampNeg (16 * row)
  rw [hn, gn]
  refine tdFG (by omega) n 0 (16 * row) (fun j hj => ?_)
  have a := h j hj
  have d := g j hj
  rw [Nat.zero_add]
  refine ⟨a.1.1.trans (d.1.1 hl).symm, a.1.2.trans d.1.2.2.symm, ?_, ?_, fun _ => ?_⟩
  · rcases a.2.2.2 with x | x
    · rcases d.2.2.2 with y | y
      · exact (decide_eq_true x.2.1).trans (decide_eq_true (by have := y.2.1; omega)).symm
      · exact absurd (x.1.symm.trans y.1) (by decide)
    · rcases d.2.2.2 with y | y
      · exact absurd (x.1.symm.trans y.1) (by decide)
      · exact (decide_eq_false (by rw [x.2]; omega)).trans (decide_eq_false (by rw [y.2]; omega)).symm
  · show txFs kk vv lw j e = txFs kk vv lw (16 * row + j - 16 * row) e
    rw [show 16 * row + j - 16 * row = j by omega]
  · show txFw kk vv lw j e = txFw kk vv lw (16 * row + j - 16 * row) e
    rw [show 16 * row + j - 16 * row = j by omega]
