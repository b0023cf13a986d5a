/-! ===== what bars have besides: taps, holes ===== -/
def DB (H : Heap) (bq : Nat) : Prop := ∀ i : Nat, i < 9 → fR H bq i < fR H bq (i + 1)
theorem DB.kept {H H1 : Heap} {bq : Nat} (h : DB H bq) (e : H1[bq]? = H[bq]?) : DB H1 bq := fun i hi => by
  rw [fR_kept e, fR_kept e]
  exact h i hi
/-- field i (0 taps, 1, 2 holes) of bar j on both sides: alike for bars that are there; what the others have -/
def XSE (n : Int) (C R : Nat → Nat → Int32) : Prop := ∀ j : Nat, j < 10 → ((j : Int) < n → C j 0 = R j 0 ∧ C j 1 = R j 1 ∧ ((R j 1).toInt ≠ -1 → C j 2 = R j 2)) ∧ (n ≤ (j : Int) → (R j 0).toInt = 0 ∧ (R j 1).toInt = -1)
theorem XSE.congr {n : Int} {C R C1 R1 : Nat → Nat → Int32} (h : XSE n C R) (c : ∀ j i : Nat, j < 10 → (j : Int) < n → i < 3 → C1 j i = C j i) (r : ∀ j i : Nat, j < 10 → i < 3 → R1 j i = R j i) : XSE n C1 R1 := fun j hj => by
  rw [r j 0 hj (by decide), r j 1 hj (by decide), r j 2 hj (by decide)]
  refine ⟨fun hn => ?_, (h j hj).2⟩
  rw [c j 0 hj hn (by decide), c j 1 hj hn (by decide), c j 2 hj hn (by decide)]
  exact (h j hj).1 hn
theorem XSE.cast {n m : Int} {C R : Nat → Nat → Int32} (h : XSE n C R) (e : m = n) : XSE m C R := by
  subst e
  exact h
theorem XSE.set {n : Int} {C R C1 R1 : Nat → Nat → Int32} {k : Nat} (h : XSE n C R) (hk : (k : Int) < n) (h0 : C1 k 0 = R1 k 0) (h1 : C1 k 1 = R1 k 1) (h2 : (R1 k 1).toInt ≠ -1 → C1 k 2 = R1 k 2) (c : ∀ j i : Nat, j < 10 → i < 3 → j ≠ k → C1 j i = C j i) (r : ∀ j i : Nat, j < 10 → i < 3 → j ≠ k → R1 j i = R j i) : XSE n C1 R1 := fun j hj => by
  by_cases z : j = k
  · subst z
    exact ⟨fun _ => ⟨h0, h1, h2⟩, fun y => by omega⟩
  · rw [r j 0 hj (by decide) z, r j 1 hj (by decide) z, r j 2 hj (by decide) z, c j 0 hj (by decide) z, c j 1 hj (by decide) z, c j 2 hj (by decide) z]
    exact h j hj
theorem XSE.add {n m : Int} {C R C1 R1 : Nat → Nat → Int32} {k : Nat} (h : XSE n C R) (hk : (k : Int) = n) (hm : m = n + 1) (h10 : k < 10) (h0 : (C1 k 0).toInt = 0) (h1 : (C1 k 1).toInt = -1) (c : ∀ j i : Nat, j < 10 → i < 3 → j ≠ k → C1 j i = C j i) (r : ∀ j i : Nat, j < 10 → i < 3 → R1 j i = R j i) : XSE m C1 R1 := fun j hj => by
  subst hm
  rw [r j 0 hj (by decide), r j 1 hj (by decide), r j 2 hj (by decide)]
  by_cases z : j = k
  · subst z
    obtain ⟨z0, z1⟩ := (h j hj).2 (by omega)
    exact ⟨fun _ => ⟨Int32.toInt_inj.mp (h0.trans z0.symm), Int32.toInt_inj.mp (h1.trans z1.symm), fun y => absurd z1 y⟩, fun y => by omega⟩
  · rw [c j 0 hj (by decide) z, c j 1 hj (by decide) z, c j 2 hj (by decide) z]
    exact ⟨fun y => (h j hj).1 (by omega), fun y => (h j hj).2 (by omega)⟩
theorem XSE.nil {C R : Nat → Nat → Int32} (h : ∀ j : Nat, j < 10 → (R j 0).toInt = 0 ∧ (R j 1).toInt = -1) : XSE 0 C R := fun j hj => ⟨fun y => by omega, fun _ => h j hj⟩
/-- of a world, of the reference, of its image -/
def xcN (K : KE) (H : Heap) (w : Nat) : Nat → Nat → Int32 := fun j i => fI H (ow K H w j) (K.1.2 0 (14 + i))
def xrF (i : Nat) : Nat := if i = 0 then 50 else if i = 1 then 14 else 15
def xrN (K : KE) (H : Heap) (b : Nat) : Nat → Nat → Int32 := fun j i => fI H (fR H b (K.1.2 10 (xrF i))) j
def xiN (H : Heap) (iq : Nat) : Nat → Nat → Int32 := fun j i => fI H iq ((if i = 0 then 11 else if i = 1 then 9 else 10) + 6 * j)
theorem xcN.kept {K : KE} {G : Nat → Option Nat} {H H1 : Heap} {w : Nat} (hT : TY K G H) (gw : G w = some 0) (ho : ∀ j, j < 10 → ow K H1 w j = ow K H w j) (e : ∀ q : Nat, G q = some 1 → ∀ i : Nat, i < 3 → fI H1 q (K.1.2 0 (14 + i)) = fI H q (K.1.2 0 (14 + i))) : ∀ j i : Nat, j < 10 → i < 3 → xcN K H1 w j i = xcN K H w j i := fun j i hj hi => by
  show fI H1 (ow K H1 w j) _ = fI H (ow K H w j) _
  rw [ho j hj]
  exact e _ (ow_g hT gw hj) i hi
theorem xcN.keptK {K : KE} {G : Nat → Option Nat} {H H1 : Heap} {w : Nat} (hT : TY K G H) (gw : G w = some 34) (ho : ∀ j, j < 10 → ow K H1 w j = ow K H w j) (e : ∀ q : Nat, G q = some 35 → ∀ i : Nat, i < 3 → fI H1 q (K.1.2 0 (14 + i)) = fI H q (K.1.2 0 (14 + i))) : ∀ j i : Nat, j < 10 → i < 3 → xcN K H1 w j i = xcN K H w j i := fun j i hj hi => by
  show fI H1 (ow K H1 w j) _ = fI H (ow K H w j) _
  rw [ho j hj]
  exact e _ (ow_gK hT gw hj) i hi
theorem xrN.kept {K : KE} {H H1 : Heap} {b : Nat} (r : ∀ i : Nat, i < 3 → fR H1 b (K.1.2 10 (xrF i)) = fR H b (K.1.2 10 (xrF i))) (e : ∀ i : Nat, i < 3 → ∀ j, fI H1 (fR H b (K.1.2 10 (xrF i))) j = fI H (fR H b (K.1.2 10 (xrF i))) j) : ∀ j i : Nat, j < 10 → i < 3 → xrN K H1 b j i = xrN K H b j i := fun j i _ hi => by
  show fI H1 (fR H1 b _) j = fI H (fR H b _) j
  rw [r i hi, e i hi]
theorem xiN.kept {H H1 : Heap} {iq : Nat} (e : ∀ j, fI H1 iq j = fI H iq j) : ∀ j i : Nat, xiN H1 iq j i = xiN H iq j i := fun j i => e _
/-- the image's places are the fields' -/
theorem xiN.of {K : KE} {H : Heap} {b iq : Nat} (e0 : EQ (fun j => fI H (fR H b (K.1.2 10 50)) j) (fun j => fI H iq j) 11 6 10) (e1 : EQ (fun j => fI H (fR H b (K.1.2 10 14)) j) (fun j => fI H iq j) 9 6 10) (e2 : EQ (fun j => fI H (fR H b (K.1.2 10 15)) j) (fun j => fI H iq j) 10 6 10) : ∀ j i : Nat, j < 10 → i < 3 → xrN K H b j i = xiN H iq j i := fun j i hj hi => by
  have : i = 0 ∨ i = 1 ∨ i = 2 := by omega
  rcases this with rfl | rfl | rfl
  · exact e0 j hj
  · exact e1 j hj
  · exact e2 j hj
/-! ===== what state answers ===== -/
