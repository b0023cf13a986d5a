/-! ===== the fresh reference ===== -/
def ZR (H : Heap) (q : Nat) : Prop := ∀ j : Nat, fI H q j = 0
def WDN (H : Heap) (q n : Nat) : Prop := ∀ j : Nat, j < n → (fI H q j).toInt = wdN j
theorem ZR.kept {H H1 : Heap} {q : Nat} (e : H1[q]? = H[q]?) (h : ZR H q) : ZR H1 q := fun j => (fI_kept e).trans (h j)
theorem WDN.kept {H H1 : Heap} {q n : Nat} (e : H1[q]? = H[q]?) (h : WDN H q n) : WDN H1 q n := fun j hj => (congrArg Int32.toInt (fI_kept e)).trans (h j hj)
theorem WDN.nil {H : Heap} {q : Nat} : WDN H q 0 := fun j hj => by omega
theorem WDN.put {H H1 : Heap} {q i n : Nat} {x : Int32} (h : WDN H q n) (w : Wr H H1 q i (.int x)) (hi : i = n) (hx : x.toInt = wdN n) : WDN H1 q (n + 1) := by
  subst hi
  intro j hj
  by_cases e : j = i
  · rw [e, Wr.I w]; exact hx
  · rw [Wr.neI w (Or.inr e)]; exact h j (by omega)
theorem cg_new {K : KE} {H : Heap} {b q : Nat} (e : q = fR H b (K.1.2 10 24)) (z : ZR H q) : CG (avw K H b) := by
  intro row l h1 h2 h3
  have : avw K H b 24 row = 0 := by unfold avw; rw [← e]; exact z row
  rw [this] at h3
  have n0 : (0 : Int32).toInt = 0 := rfl
  omega
theorem tu_new {K : KE} {H : Heap} {b : Nat} (e : fI H b (K.1.2 10 1) = 0) : TU (avw K H b) (svw K H b) := by
  have n0 : (0 : Int32).toInt = 0 := rfl
  have es : (svw K H b 1).toInt = 0 := by unfold svw; rw [e]; rfl
  exact ⟨fun j hj => by omega, fun j hj => by omega⟩
theorem wd_new {K : KE} {H : Heap} {b q : Nat} (e : q = fR H b (K.1.2 10 23)) (h : WDN H q 115) : WD (avw K H b) := by
  intro j hj
  unfold avw
  rw [← e]
  exact h j hj
theorem im_new {K : KE} {H : Heap} {b q : Nat} (e : q = fR H b (K.1.2 10 73)) (z : ZR H q) : IM (avw K H b) := by
  have n0 : (0 : Int32).toInt = 0 := rfl
  have hw : ∀ j, avw K H b 73 j = 0 := fun j => by unfold avw; rw [← e]; exact z j
  have hr : ∀ p lo hi, lo ≤ 0 → 0 ≤ hi → iR (avw K H b 73) p lo hi := fun p lo hi h1 h2 => by unfold iR; rw [hw p]; omega
  refine ⟨⟨hr _ _ _ (by decide) (by decide), hr _ _ _ (by decide) (by decide), hr _ _ _ (by decide) (by decide), hr _ _ _ (by decide) (by decide), hr _ _ _ (by decide) (by decide)⟩, fun i hi => ⟨hr _ _ _ (by decide) (by decide), hr _ _ _ (by decide) (by decide), hr _ _ _ (by decide) (by decide)⟩, fun i hi => hr _ _ _ (by decide) (by decide), fun i hi => hr _ _ _ (by decide) (by decide), fun i hi => ⟨hr _ _ _ (by decide) (by decide), hr _ _ _ (by decide) (by decide), hr _ _ _ (by decide) (by decide), hr _ _ _ (by decide) (by decide)⟩, ?_, ?_⟩
  · have es : (sI (avw K H b 73) 1).toInt = 0 := by unfold sI; rw [hw]; rfl
    exact ⟨fun j hj => by omega, fun j hj => by omega⟩
  · intro row l h1 h2 h3
    have : (vI (avw K H b 73) 24 row).toInt = 0 := by show (avw K H b 73 (8908 + row)).toInt = 0; rw [hw]; rfl
    omega
