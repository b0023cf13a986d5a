/-! ===== the reference: passes; a new bar ===== -/
theorem paV_8 {T : TF} {sl i d : Int} {v : BW} (h : 0 ≤ i ∧ i < v 0 0 ∧ 1 ≤ d ∧ d ≤ 9 ∧ d < v 1 i.toNat ∧ v 8 0 < 200) : paV T sl v i d 8 0 = v 8 0 + 1 := by
  unfold paV
  rw [if_pos h]
  (try dsimp only)
  split
  · rw [upV_ne (Or.inl (by decide)), upV_at]
  · rw [upV_at]
theorem rcR_v : ∀ k, k < 10 → (rcR k = 4 ∨ rcR k = 5 ∨ rcR k = 6 ∨ rcR k = 7 ∨ rcR k = 8 ∨ rcR k = 9 ∨ rcR k = 10 ∨ rcR k = 11 ∨ rcR k = 12 ∨ rcR k = 13) := by decide
def BLP (H H0 : Heap) (k g h x B i : Nat) : Prop := (∀ l, B ≤ l → l < i → fI H k l = 20 ∧ fI H g l = 5 ∧ fI H h l = 5 ∧ fI H x l = 0) ∧ ∀ l, (l < B ∨ B + 16 ≤ l) → fI H k l = fI H0 k l ∧ fI H g l = fI H0 g l ∧ fI H h l = fI H0 h l ∧ fI H x l = fI H0 x l
theorem BLP.nil {H H0 : Heap} {k g h x B i : Nat} (hi : i = B) (ek : ∀ l, fI H k l = fI H0 k l) (eg : ∀ l, fI H g l = fI H0 g l) (eh : ∀ l, fI H h l = fI H0 h l) (ex : ∀ l, fI H x l = fI H0 x l) : BLP H H0 k g h x B i := by
  subst hi
  exact ⟨fun l h1 h2 => absurd h2 (Nat.not_lt.mpr h1), fun l _ => ⟨ek l, eg l, eh l, ex l⟩⟩
theorem BLP.go {H H0 H1 : Heap} {k g h x B i n : Nat} (p : BLP H H0 k g h x B i) (hi : B ≤ i ∧ i < B + 16) (hn : n = i + 1) (ek : ∀ l, l ≠ i → fI H1 k l = fI H k l) (vk : fI H1 k i = 20) (eg : ∀ l, l ≠ i → fI H1 g l = fI H g l) (vg : fI H1 g i = 5) (eh : ∀ l, l ≠ i → fI H1 h l = fI H h l) (vh : fI H1 h i = 5) (ex : ∀ l, l ≠ i → fI H1 x l = fI H x l) (vx : fI H1 x i = 0) : BLP H1 H0 k g h x B n := by
  subst hn
  refine ⟨fun l h1 h2 => ?_, fun l hl => ?_⟩
  · by_cases e : l = i
    · subst e
      exact ⟨vk, vg, vh, vx⟩
    · obtain ⟨a, b, c, d⟩ := p.1 l h1 (by omega)
      exact ⟨(ek l e).trans a, (eg l e).trans b, (eh l e).trans c, (ex l e).trans d⟩
  · obtain ⟨a, b, c, d⟩ := p.2 l hl
    have e : l ≠ i := by omega
    exact ⟨(ek l e).trans a, (eg l e).trans b, (eh l e).trans c, (ex l e).trans d⟩
theorem BLP.kept {H H0 H1 : Heap} {k g h x B i : Nat} (p : BLP H H0 k g h x B i) (ek : ∀ l, fI H1 k l = fI H k l) (eg : ∀ l, fI H1 g l = fI H g l) (eh : ∀ l, fI H1 h l = fI H h l) (ex : ∀ l, fI H1 x l = fI H x l) : BLP H1 H0 k g h x B i := by
  refine ⟨fun l h1 h2 => ?_, fun l hl => ?_⟩
  · rw [ek, eg, eh, ex]; exact p.1 l h1 h2
  · rw [ek, eg, eh, ex]; exact p.2 l hl
/-- a place of the reference's that no bar has had -/
def PrsV (v : BW) : Prop := (∀ j, j < 3 → v 5 j = 0) ∧ v 8 0 = 0 ∧ v 9 0 = 0
theorem newR {K : KE} {H1 H : Heap} {b bs : Nat} {n : Int} (p : PrsV (vwR K H b bs)) (er : ∀ k, k < 10 → fR H1 b (K.1.2 10 (rcR k)) = fR H b (K.1.2 10 (rcR k))) (hs : (fI H1 (fR H b (K.1.2 10 4)) bs).toInt = n) (q : BLP H1 H (fR H b (K.1.2 10 5)) (fR H b (K.1.2 10 6)) (fR H b (K.1.2 10 7)) (fR H b (K.1.2 10 8)) (16 * bs) (16 * bs + 16)) (eo : ∀ k, (k = 5 ∨ k = 8 ∨ k = 9) → ∀ j, fI H1 (fR H b (K.1.2 10 (rcR k))) j = fI H (fR H b (K.1.2 10 (rcR k))) j) : NewV (vwR K H1 b bs) n := by
  obtain ⟨p5, p8, p9⟩ := p
  have n20 : (20 : Int32).toInt = 20 := rfl
  have n5 : (5 : Int32).toInt = 5 := rfl
  have n0 : (0 : Int32).toInt = 0 := rfl
  refine ⟨?_, fun j hj => ?_, fun j hj => ?_, ?_, ?_⟩
  · rw [vwR_f (Or.inl rfl), er 0 (by decide)]
    exact hs
  · obtain ⟨a, c, d, e⟩ := q.1 (16 * bs + j) (by omega) (by omega)
    rw [vwR_a (k := 1) (by decide), vwR_a (k := 2) (by decide), vwR_a (k := 3) (by decide), vwR_a (k := 4) (by decide), er 1 (by decide), er 2 (by decide), er 3 (by decide), er 4 (by decide)]
    exact ⟨(congrArg Int32.toInt a).trans n20, (congrArg Int32.toInt c).trans n5, (congrArg Int32.toInt d).trans n5, (congrArg Int32.toInt e).trans n0⟩
  · have := p5 j hj
    rw [vwR_a (k := 5) (by decide)] at this ⊢
    rw [er 5 (by decide)]
    dsimp only
    rw [eo 5 (Or.inl rfl)]
    exact this
  · rw [vwR_f (Or.inr (Or.inl rfl)), er 8 (by decide), eo 8 (Or.inr (Or.inl rfl)), ← vwR_f (Or.inr (Or.inl rfl))]
    exact p8
  · rw [vwR_f (Or.inr (Or.inr rfl)), er 9 (by decide), eo 9 (Or.inr (Or.inr rfl)), ← vwR_f (Or.inr (Or.inr rfl))]
    exact p9
theorem newO {K : KE} {H1 H : Heap} {b bs b2 : Nat} (hb : b2 ≠ bs) (er : ∀ k, k < 10 → fR H1 b (K.1.2 10 (rcR k)) = fR H b (K.1.2 10 (rcR k))) (hs : ∀ j, j ≠ bs → fI H1 (fR H b (K.1.2 10 4)) j = fI H (fR H b (K.1.2 10 4)) j) (q : BLP H1 H (fR H b (K.1.2 10 5)) (fR H b (K.1.2 10 6)) (fR H b (K.1.2 10 7)) (fR H b (K.1.2 10 8)) (16 * bs) (16 * bs + 16)) (eo : ∀ k, 5 ≤ k → k < 10 → ∀ j, fI H1 (fR H b (K.1.2 10 (rcR k))) j = fI H (fR H b (K.1.2 10 (rcR k))) j) : EqV (vwR K H1 b b2) (vwR K H b b2) := by
  intro k j hj
  by_cases c9 : k ≤ 9
  · by_cases c5 : 5 ≤ k
    · unfold vwR
      rw [if_pos c9, if_pos c9, er k (by omega), eo k c5 (by omega)]
    · by_cases c0 : k = 0
      · subst c0
        have : j = 0 := by have : j < 1 := hj; omega
        subst this
        rw [vwR_f (Or.inl rfl), vwR_f (Or.inl rfl), er 0 (by decide)]
        exact congrArg Int32.toInt (hs b2 hb)
      · have hj : j < 16 := by unfold wdV at hj; rw [if_pos (by omega)] at hj; exact hj
        obtain ⟨a1, a2, a3, a4⟩ := q.2 (16 * b2 + j) (by omega)
        have : k = 1 ∨ k = 2 ∨ k = 3 ∨ k = 4 := by omega
        rcases this with rfl | rfl | rfl | rfl
        · rw [vwR_a (by decide), vwR_a (by decide), er 1 (by decide)]
          exact congrArg Int32.toInt a1
        · rw [vwR_a (by decide), vwR_a (by decide), er 2 (by decide)]
          exact congrArg Int32.toInt a2
        · rw [vwR_a (by decide), vwR_a (by decide), er 3 (by decide)]
          exact congrArg Int32.toInt a3
        · rw [vwR_a (by decide), vwR_a (by decide), er 4 (by decide)]
          exact congrArg Int32.toInt a4
  · unfold vwR
    rw [if_neg c9, if_neg c9]
