/-! ===== the reference's texts behind text ===== -/
section
variable {K : KE} {G : Nat → Option Nat} {H H1 : Heap} {b row : Nat}
theorem TRP.part {r n : Nat} {kk vv : Nat → Int} {lw : Int} (rr : ∀ k, 24 ≤ k → k ≤ 33 → fR H1 b (K.1.2 10 k) = fR H b (K.1.2 10 k)) (hT : TY K G H) (gb : G b = some 112) (hr : r < 6) (hn : n ≤ 16)
    (e7 : ∀ j, j < 16 → fI H1 (fR H b (K.1.2 10 25)) (16 * r + j) = fI H (fR H b (K.1.2 10 25)) (16 * r + j) ∧ fI H1 (fR H b (K.1.2 10 26)) (16 * r + j) = fI H (fR H b (K.1.2 10 26)) (16 * r + j) ∧ fI H1 (fR H b (K.1.2 10 27)) (16 * r + j) = fI H (fR H b (K.1.2 10 27)) (16 * r + j) ∧ fI H1 (fR H b (K.1.2 10 28)) (16 * r + j) = fI H (fR H b (K.1.2 10 28)) (16 * r + j) ∧ fI H1 (fR H b (K.1.2 10 29)) (16 * r + j) = fI H (fR H b (K.1.2 10 29)) (16 * r + j) ∧ fI H1 (fR H b (K.1.2 10 30)) (16 * r + j) = fI H (fR H b (K.1.2 10 30)) (16 * r + j) ∧ fI H1 (fR H b (K.1.2 10 31)) (16 * r + j) = fI H (fR H b (K.1.2 10 31)) (16 * r + j))
    (e2 : ∀ j, j < 500 → fI H1 (fR H b (K.1.2 10 32)) (500 * r + j) = fI H (fR H b (K.1.2 10 32)) (500 * r + j) ∧ fI H1 (fR H b (K.1.2 10 33)) (500 * r + j) = fI H (fR H b (K.1.2 10 33)) (500 * r + j))
    (em : fI H1 (fR H b (K.1.2 10 24)) r = fI H (fR H b (K.1.2 10 24)) r) (h : TRP K H b r kk vv lw n) : TRP K H1 b r kk vv lw n := by
  obtain ⟨h1, h2⟩ := h
  refine ⟨fun j hj => ?_, by rw [rr 24 (by decide) (by decide), em]; exact h2⟩
  obtain ⟨a1, a2, a3, a4, a5, a6, a7⟩ := e7 j (by omega)
  have b5 := ln_500 hT gb (l := 16 * r + j) (by omega)
  rw [rr 25 (by decide) (by decide), rr 26 (by decide) (by decide), rr 27 (by decide) (by decide), rr 28 (by decide) (by decide), rr 29 (by decide) (by decide), rr 30 (by decide) (by decide), rr 31 (by decide) (by decide), rr 32 (by decide) (by decide), rr 33 (by decide) (by decide), a1, a2, a3, a4, a5, a6, a7]
  exact (h1 j hj).move (n := 500) (fun t ht => (e2 t ht).1) (fun t ht => (e2 t ht).2) b5.1 b5.2
/-- one row is written -/
theorem TRP.rwk (rr : ∀ k, 24 ≤ k → k ≤ 33 → fR H1 b (K.1.2 10 k) = fR H b (K.1.2 10 k)) (hT : TY K G H) (gb : G b = some 112) (e : RWK H1 H (fR H b (K.1.2 10 25)) (fR H b (K.1.2 10 26)) (fR H b (K.1.2 10 27)) (fR H b (K.1.2 10 28)) (fR H b (K.1.2 10 29)) (fR H b (K.1.2 10 30)) (fR H b (K.1.2 10 31)) (fR H b (K.1.2 10 32)) (fR H b (K.1.2 10 33)) (fR H b (K.1.2 10 24)) row) (r : Nat) (kk vv : Nat → Int) (lw : Int) (n : Nat) (hr : r < 6) (hn : n ≤ 16) (hne : r ≠ row) (h : TRP K H b r kk vv lw n) : TRP K H1 b r kk vv lw n :=
  TRP.part rr hT gb hr hn (fun j hj => e.1 _ (by omega) (by omega)) (fun j hj => e.2.1 _ (by omega) (by omega)) (e.2.2 r hne) h
/-- no row is written -/
theorem TRP.frd (rr : ∀ k, 24 ≤ k → k ≤ 33 → fR H1 b (K.1.2 10 k) = fR H b (K.1.2 10 k)) (hT : TY K G H) (gb : G b = some 112) (e : FRD H1 H (fR H b (K.1.2 10 25)) (fR H b (K.1.2 10 26)) (fR H b (K.1.2 10 27)) (fR H b (K.1.2 10 28)) (fR H b (K.1.2 10 29)) (fR H b (K.1.2 10 30)) (fR H b (K.1.2 10 31)) (fR H b (K.1.2 10 32)) (fR H b (K.1.2 10 33))) (em : ∀ l, fI H1 (fR H b (K.1.2 10 24)) l = fI H (fR H b (K.1.2 10 24)) l) : TPK (TRP K H1 b) (TRP K H b) :=
  fun r _ _ _ _ hr hn h => TRP.part rr hT gb hr hn (fun j hj => e.1 _ (by omega)) (fun j hj => e.2 _ (by omega)) (em r) h
end
theorem TXA.lno {b : Nat → Int} {L n : Nat} {x1 x2 r : Int32} (h : TXA b L x1 x2 r) (hr : r.toInt = (n : Int)) : LNO (kK b L) (vV b L) (if x1.toInt = 0 then 1 else 0) n := by
  rcases h with ⟨_, h⟩ | ⟨_, _, h⟩
  · rcases h with ⟨_, e⟩ | ⟨m, e, hm⟩
    · omega
    · have : m = n := by omega
      subst this
      exact LNO.of e
  · omega
