/-- the draft's lines: a from, b sum, c to -/
def LNW (a b c f g : Nat → Int32) (l : Nat) (m m1 : Int) : Prop := (a l).toInt = m ∧ m ≤ (b l).toInt ∧ (b l).toInt ≤ m1 ∧ (c l).toInt = m1 ∧ (∃ E, WF f g (3000 + (a l).toNatClampNeg) (3000 + (b l).toNatClampNeg) 0 E) ∧ ∃ E, WF f g (3000 + (b l).toNatClampNeg) (3000 + (c l).toNatClampNeg) 0 E
theorem LNW.mk {a b c f g : Nat → Int32} {l : Nat} {m m1 : Int} {x y z : Int32} {E F : Nat} (h9 : x = a l) (h0 : y = b l) (h1 : z = c l) (hm : x.toInt = m) (hy : m ≤ y.toInt) (hy1 : y.toInt ≤ m1) (hz : z.toInt = m1) (w : WF f g (3000 + x.toNatClampNeg) (3000 + y.toNatClampNeg) 0 E) (w1 : WF f g (3000 + y.toNatClampNeg) (3000 + z.toNatClampNeg) 0 F) : LNW a b c f g l m m1 := by
  subst h9 h0 h1
  exact ⟨hm, hy, hy1, hz, ⟨E, w⟩, F, w1⟩
def DL (a b c f g : Nat → Int32) (n : Nat) (m : Int) : Prop := ∀ i : Nat, i < n → 0 ≤ (a (96 + i)).toInt ∧ (a (96 + i)).toInt ≤ (b (96 + i)).toInt ∧ (b (96 + i)).toInt ≤ (c (96 + i)).toInt ∧ (c (96 + i)).toInt ≤ m ∧ (∃ E, WF f g (3000 + (a (96 + i)).toNatClampNeg) (3000 + (b (96 + i)).toNatClampNeg) 0 E) ∧ ∃ E, WF f g (3000 + (b (96 + i)).toNatClampNeg) (3000 + (c (96 + i)).toNatClampNeg) 0 E
theorem DL.nil {a b c f g : Nat → Int32} {n : Nat} {m : Int} (hn : n = 0) : DL a b c f g n m := fun i hi => by omega
theorem DL.cast {a b c f g : Nat → Int32} {n n' : Nat} {m m' : Int} (h : DL a b c f g n m) (hn : n' = n) (hm : m' = m) : DL a b c f g n' m' := by rw [hn, hm]; exact h
theorem DL.congr {a b c f g a1 b1 c1 f1 g1 : Nat → Int32} {n : Nat} {m : Int} (ha : ∀ j, a1 j = a j) (hb : ∀ j, b1 j = b j) (hc : ∀ j, c1 j = c j) (hf : ∀ j, f1 j = f j) (hg : ∀ j, g1 j = g j) (h : DL a b c f g n m) : DL a1 b1 c1 f1 g1 n m := by
  rw [show a1 = a from funext ha, show b1 = b from funext hb, show c1 = c from funext hc, show f1 = f from funext hf, show g1 = g from funext hg]
  exact h
theorem DL.push {a b c f g a1 b1 c1 f1 g1 : Nat → Int32} {n l M : Nat} {m m1 : Int} (h : DL a b c f g n m) (hl : l = 96 + n) (hM : (M : Int) = m) (ha : ∀ j, j ≠ l → a1 j = a j) (hb : ∀ j, j ≠ l → b1 j = b j) (hc : ∀ j, j ≠ l → c1 j = c j) (hf : ∀ j, j < 3000 + M → f1 j = f j ∧ g1 j = g j) (hL : LNW a1 b1 c1 f1 g1 l m m1) : DL a1 b1 c1 f1 g1 (n + 1) m1 := by
  have cl : ∀ (y : Int32) (N : Nat), y.toInt ≤ (N : Int) → y.toNatClampNeg ≤ N := fun y N hy => by show y.toInt.toNat ≤ N; omega
  obtain ⟨k1, k2, k3, k4, k5, k6⟩ := hL
  intro i hi
  by_cases e : i = n
  · subst e
    rw [← hl]
    exact ⟨by omega, by omega, by omega, by omega, k5, k6⟩
  · obtain ⟨q1, q2, q3, q4, ⟨E, q5⟩, F, q6⟩ := h i (by omega)
    rw [ha (96 + i) (by omega), hb (96 + i) (by omega), hc (96 + i) (by omega)]
    have c1 := cl (b (96 + i)) M (by omega)
    have c2 := cl (c (96 + i)) M (by omega)
    exact ⟨q1, q2, q3, by omega, ⟨E, q5.keep (fun j hj => (hf j (by omega)).1) (fun j hj => (hf j (by omega)).2)⟩, F, q6.keep (fun j hj => (hf j (by omega)).1) (fun j hj => (hf j (by omega)).2)⟩
theorem CG.putL {K : KE} {G : Nat → Option Nat} {H H1 : Heap} {b q i t : Nat} {x : Int32} (hT : TY K G H) (gb : G b = some 112) (w : Wr H H1 q i (.int x)) (gq : G q = some t) (ht : t = 133 ∨ t = 134 ∨ t = 135) (hi : 96 ≤ i) (h : CG (avw K H b)) : CG (avw K H1 b) := by
  have h112 : 112 ≠ t := by omega
  have ek : ∀ k ∈ ([24, 32, 33] : List Nat), ∀ j, avw K H1 b k j = avw K H b k j := by
    intro k hk j
    refine av_arr hT gb w gq h112 ?_
    rcases ht with rfl | rfl | rfl
    · exact List.all_eq_true.mp (show ([24, 32, 33] : List Nat).all (fun k => arOk k 133) = true by decide) k hk
    · exact List.all_eq_true.mp (show ([24, 32, 33] : List Nat).all (fun k => arOk k 134) = true by decide) k hk
    · exact List.all_eq_true.mp (show ([24, 32, 33] : List Nat).all (fun k => arOk k 135) = true by decide) k hk
  have el : ∀ k j, j < 96 → avw K H1 b k j = avw K H b k j := by
    intro k j hj
    unfold avw
    rw [Wr.neR w (Or.inl (G_ne gb gq h112))]
    exact Wr.neI w (Or.inr (by omega))
  intro row l h1 h2 h3
  have e32 : avw K H1 b 32 = avw K H b 32 := funext (ek 32 (by decide))
  have e33 : avw K H1 b 33 = avw K H b 33 := funext (ek 33 (by decide))
  rw [ek 24 (by decide)] at h3
  rw [el 29 _ (by omega), el 30 _ (by omega), el 31 _ (by omega), e32, e33]
  exact h row l h1 h2 h3
