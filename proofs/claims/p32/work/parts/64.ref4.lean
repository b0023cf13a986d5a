/-! ===== leastWaste: where it is, and how far ===== -/
def PW : Nat → Int
  | 0 => 43046721
  | 1 => 4782969
  | 2 => 531441
  | 3 => 59049
  | 4 => 6561
  | 5 => 729
  | 6 => 81
  | 7 => 9
  | _ => 1
def cw : Nat → Int
  | 0 => 0
  | 1 => -774840977
  | 2 => -860934418
  | 3 => -870500355
  | 4 => -871563236
  | 5 => -871681333
  | 6 => -871694454
  | 7 => -871695911
  | 8 => -871696072
  | 9 => -871696089
  | _ => -871696089
def RKs (f : Nat → Int32) : Nat → Int
  | 0 => 0
  | n + 1 => RKs f n + 2 * ((f n).toInt + 1) * PW n
def gm (f : Nat → Int32) (m : Nat) : Int := 774840978 - RKs f 8 - cw m
def GW (f : Nat → Int32) (i bl : Int) : Prop := ∀ j : Nat, j < 8 → ((j : Int) < i → 0 ≤ (f j).toInt ∧ (f j).toInt < bl) ∧ ((j : Int) = i → -1 ≤ (f j).toInt ∧ (f j).toInt < bl) ∧ (i < (j : Int) → (f j).toInt = -1)
theorem GW.congr {f f1 : Nat → Int32} {i bl : Int} (e : ∀ j, f1 j = f j) (h : GW f i bl) : GW f1 i bl := by rw [show f1 = f from funext e]; exact h
theorem GW.cast {f : Nat → Int32} {i i' bl : Int} (h : GW f i bl) (e : i' = i) : GW f i' bl := by rw [e]; exact h
theorem gm_congr {f f1 : Nat → Int32} {m : Nat} {M : Int} (e : ∀ j, f1 j = f j) (h : gm f m < M) : gm f1 m < M := by rw [show f1 = f from funext e]; exact h
theorem GW.init {H : Heap} {q : Nat} {bl : Int} (h : AB H q 8 (-1) (-1)) (hb : 0 ≤ bl) : GW (fun j => fI H q j) 0 bl := by
  intro j hj
  have := h j hj
  exact ⟨fun h => by omega, fun h => by dsimp only; omega, fun h => by dsimp only; omega⟩
theorem GW.inc {f f1 : Nat → Int32} {i bl : Int} {k : Nat} (h : GW f i bl) (hk : (k : Int) = i) (ho : ∀ j, j ≠ k → f1 j = f j) (h1 : 0 ≤ (f1 k).toInt ∧ (f1 k).toInt < bl) : GW f1 i bl := by
  intro j hj
  by_cases e : j = k
  · subst e
    exact ⟨fun h => by omega, fun h => by omega, fun h => by omega⟩
  · rw [ho j e]
    exact h j hj
theorem GW.push {f : Nat → Int32} {i i' bl : Int} {k : Nat} (h : GW f i bl) (hk : (k : Int) = i) (h0 : 0 ≤ (f k).toInt) (hi : i' = i + 1) (hb : 0 ≤ bl) : GW f i' bl := by
  intro j hj
  have h2 := h j hj
  by_cases e : j = k
  · subst e
    exact ⟨fun h => by have := h2.2.1 hk; omega, fun h => by omega, fun h => by omega⟩
  · exact ⟨fun h => h2.1 (by omega), fun h => by have := h2.2.2 (by omega); omega, fun h => h2.2.2 (by omega)⟩
theorem GW.pop {f f1 : Nat → Int32} {i i' bl : Int} {k : Nat} (h : GW f i bl) (hk : (k : Int) = i) (ho : ∀ j, j ≠ k → f1 j = f j) (h1 : (f1 k).toInt = -1) (hi : i' = i - 1) : GW f1 i' bl := by
  intro j hj
  have h2 := h j hj
  by_cases e : j = k
  · subst e
    exact ⟨fun h => by omega, fun h => by omega, fun h => h1⟩
  · rw [ho j e]
    exact ⟨fun h => h2.1 (by omega), fun h => by have := h2.1 (by omega); omega, fun h => h2.2.2 (by omega)⟩
theorem GW.ab {H : Heap} {q : Nat} {i bl : Int} {k n : Nat} (h : GW (fun j => fI H q j) i bl) (hk : (k : Int) = i) (h0 : 0 ≤ (fI H q k).toInt) (hn : n = k + 1) (hb : bl ≤ 8) (h8 : k < 8) : AB H q n 0 7 := by
  intro j hj
  have h2 := h j (by omega)
  dsimp only at h2
  by_cases e : j = k
  · subst e
    have := h2.2.1 hk
    omega
  · have := h2.1 (by omega)
    omega
theorem RK8 (f : Nat → Int32) : RKs f 8 = 2 * ((f 0).toInt + 1) * 43046721 + 2 * ((f 1).toInt + 1) * 4782969 + 2 * ((f 2).toInt + 1) * 531441 + 2 * ((f 3).toInt + 1) * 59049 + 2 * ((f 4).toInt + 1) * 6561 + 2 * ((f 5).toInt + 1) * 729 + 2 * ((f 6).toInt + 1) * 81 + 2 * ((f 7).toInt + 1) * 9 := by
  simp only [RKs, PW]
  omega
theorem cw_le (m : Nat) : cw m ≤ 0 := by
  unfold cw
  split <;> decide
theorem gm_pos {f : Nat → Int32} {i bl : Int} {m : Nat} (h : GW f i bl) (hb : bl ≤ 8) : 0 ≤ gm f m := by
  have key : ∀ j : Nat, j < 8 → (f j).toInt ≤ 7 := by
    intro j hj
    have := h j hj
    rcases Int.lt_trichotomy (j : Int) i with e | e | e
    · have := this.1 e; omega
    · have := this.2.1 e; omega
    · have := this.2.2 e; omega
  have h0 := key 0 (by decide)
  have h1 := key 1 (by decide)
  have h2 := key 2 (by decide)
  have h3 := key 3 (by decide)
  have h4 := key 4 (by decide)
  have h5 := key 5 (by decide)
  have h6 := key 6 (by decide)
  have h7 := key 7 (by decide)
  have hc := cw_le m
  unfold gm
  rw [RK8]
  omega
theorem gm_stay {f f1 : Nat → Int32} {k m : Nat} (hk : k < 8) (ho : ∀ j, j ≠ k → f1 j = f j) (h1 : (f1 k).toInt = (f k).toInt + 1) (hm : m = k + 1) : gm f1 m < gm f m := by
  subst hm
  have hk8 : k = 0 ∨ k = 1 ∨ k = 2 ∨ k = 3 ∨ k = 4 ∨ k = 5 ∨ k = 6 ∨ k = 7 := by omega
  unfold gm
  rw [RK8, RK8]
  rcases hk8 with rfl | rfl | rfl | rfl | rfl | rfl | rfl | rfl
  · rw [ho 1 (by decide), ho 2 (by decide), ho 3 (by decide), ho 4 (by decide), ho 5 (by decide), ho 6 (by decide), ho 7 (by decide), h1]
    simp only [cw]
    omega
  · rw [ho 0 (by decide), ho 2 (by decide), ho 3 (by decide), ho 4 (by decide), ho 5 (by decide), ho 6 (by decide), ho 7 (by decide), h1]
    simp only [cw]
    omega
  · rw [ho 0 (by decide), ho 1 (by decide), ho 3 (by decide), ho 4 (by decide), ho 5 (by decide), ho 6 (by decide), ho 7 (by decide), h1]
    simp only [cw]
    omega
  · rw [ho 0 (by decide), ho 1 (by decide), ho 2 (by decide), ho 4 (by decide), ho 5 (by decide), ho 6 (by decide), ho 7 (by decide), h1]
    simp only [cw]
    omega
  · rw [ho 0 (by decide), ho 1 (by decide), ho 2 (by decide), ho 3 (by decide), ho 5 (by decide), ho 6 (by decide), ho 7 (by decide), h1]
    simp only [cw]
    omega
  · rw [ho 0 (by decide), ho 1 (by decide), ho 2 (by decide), ho 3 (by decide), ho 4 (by decide), ho 6 (by decide), ho 7 (by decide), h1]
    simp only [cw]
    omega
  · rw [ho 0 (by decide), ho 1 (by decide), ho 2 (by decide), ho 3 (by decide), ho 4 (by decide), ho 5 (by decide), ho 7 (by decide), h1]
    simp only [cw]
    omega
  · rw [ho 0 (by decide), ho 1 (by decide), ho 2 (by decide), ho 3 (by decide), ho 4 (by decide), ho 5 (by decide), ho 6 (by decide), h1]
    simp only [cw]
    omega
theorem gm_push {f f1 : Nat → Int32} {k m m2 : Nat} (hk : k < 8) (ho : ∀ j, j ≠ k → f1 j = f j) (h1 : (f1 k).toInt = (f k).toInt + 1) (hm : m = k + 1) (hm2 : m2 = k + 2) : gm f1 m2 < gm f m := by
  subst hm hm2
  have hk8 : k = 0 ∨ k = 1 ∨ k = 2 ∨ k = 3 ∨ k = 4 ∨ k = 5 ∨ k = 6 ∨ k = 7 := by omega
  unfold gm
  rw [RK8, RK8]
  rcases hk8 with rfl | rfl | rfl | rfl | rfl | rfl | rfl | rfl
  · rw [ho 1 (by decide), ho 2 (by decide), ho 3 (by decide), ho 4 (by decide), ho 5 (by decide), ho 6 (by decide), ho 7 (by decide), h1]
    simp only [cw]
    omega
  · rw [ho 0 (by decide), ho 2 (by decide), ho 3 (by decide), ho 4 (by decide), ho 5 (by decide), ho 6 (by decide), ho 7 (by decide), h1]
    simp only [cw]
    omega
  · rw [ho 0 (by decide), ho 1 (by decide), ho 3 (by decide), ho 4 (by decide), ho 5 (by decide), ho 6 (by decide), ho 7 (by decide), h1]
    simp only [cw]
    omega
  · rw [ho 0 (by decide), ho 1 (by decide), ho 2 (by decide), ho 4 (by decide), ho 5 (by decide), ho 6 (by decide), ho 7 (by decide), h1]
    simp only [cw]
    omega
  · rw [ho 0 (by decide), ho 1 (by decide), ho 2 (by decide), ho 3 (by decide), ho 5 (by decide), ho 6 (by decide), ho 7 (by decide), h1]
    simp only [cw]
    omega
  · rw [ho 0 (by decide), ho 1 (by decide), ho 2 (by decide), ho 3 (by decide), ho 4 (by decide), ho 6 (by decide), ho 7 (by decide), h1]
    simp only [cw]
    omega
  · rw [ho 0 (by decide), ho 1 (by decide), ho 2 (by decide), ho 3 (by decide), ho 4 (by decide), ho 5 (by decide), ho 7 (by decide), h1]
    simp only [cw]
    omega
  · rw [ho 0 (by decide), ho 1 (by decide), ho 2 (by decide), ho 3 (by decide), ho 4 (by decide), ho 5 (by decide), ho 6 (by decide), h1]
    simp only [cw]
    omega
theorem gm_pop {f f1 : Nat → Int32} {k m : Nat} (hk : k < 8) (ho : ∀ j, j ≠ k → f1 j = f j) (h1 : (f1 k).toInt = -1) (hx : -1 ≤ (f k).toInt ∧ (f k).toInt ≤ 7) (hm : m = k + 1) : gm f1 k < gm f m := by
  subst hm
  have hk8 : k = 0 ∨ k = 1 ∨ k = 2 ∨ k = 3 ∨ k = 4 ∨ k = 5 ∨ k = 6 ∨ k = 7 := by omega
  unfold gm
  rw [RK8, RK8]
  rcases hk8 with rfl | rfl | rfl | rfl | rfl | rfl | rfl | rfl
  · rw [ho 1 (by decide), ho 2 (by decide), ho 3 (by decide), ho 4 (by decide), ho 5 (by decide), ho 6 (by decide), ho 7 (by decide), h1]
    simp only [cw]
    omega
  · rw [ho 0 (by decide), ho 2 (by decide), ho 3 (by decide), ho 4 (by decide), ho 5 (by decide), ho 6 (by decide), ho 7 (by decide), h1]
    simp only [cw]
    omega
  · rw [ho 0 (by decide), ho 1 (by decide), ho 3 (by decide), ho 4 (by decide), ho 5 (by decide), ho 6 (by decide), ho 7 (by decide), h1]
    simp only [cw]
    omega
  · rw [ho 0 (by decide), ho 1 (by decide), ho 2 (by decide), ho 4 (by decide), ho 5 (by decide), ho 6 (by decide), ho 7 (by decide), h1]
    simp only [cw]
    omega
  · rw [ho 0 (by decide), ho 1 (by decide), ho 2 (by decide), ho 3 (by decide), ho 5 (by decide), ho 6 (by decide), ho 7 (by decide), h1]
    simp only [cw]
    omega
  · rw [ho 0 (by decide), ho 1 (by decide), ho 2 (by decide), ho 3 (by decide), ho 4 (by decide), ho 6 (by decide), ho 7 (by decide), h1]
    simp only [cw]
    omega
  · rw [ho 0 (by decide), ho 1 (by decide), ho 2 (by decide), ho 3 (by decide), ho 4 (by decide), ho 5 (by decide), ho 7 (by decide), h1]
    simp only [cw]
    omega
  · rw [ho 0 (by decide), ho 1 (by decide), ho 2 (by decide), ho 3 (by decide), ho 4 (by decide), ho 5 (by decide), ho 6 (by decide), h1]
    simp only [cw]
    omega
