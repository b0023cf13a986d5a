/-! ===== two contracts of one method, at once ===== -/
/-! ===== rows of the world: alike up to a count ===== -/
section
variable {K : KE} {H H1 H2 : Heap} {w b q iq s m p d cap : Nat} {N M : Int}
def WRE (K : KE) (H : Heap) (w b s m : Nat) (N : Int) : Prop := ∀ j : Nat, (j : Int) < N → fI H (fR H w (K.1.2 8 s)) j = fI H (fR H b (K.1.2 10 m)) j
def WRI (K : KE) (H : Heap) (q iq s p d : Nat) (N : Int) : Prop := ∀ j : Nat, (j : Int) < N → fI H (fR H q (K.1.2 8 s)) j = fI H iq (p + d * j)
theorem WRE.nil (h : N ≤ 0) : WRE K H w b s m N := fun j hj => by omega
theorem WRE.cast (h : WRE K H w b s m N) (e : M ≤ N) : WRE K H w b s m M := fun j hj => h j (by omega)
theorem WRI.cast (h : WRI K H q iq s p d N) (e : M ≤ N) : WRI K H q iq s p d M := fun j hj => h j (by omega)
theorem WRE.kept (h : WRE K H w b s m N) (e1 : fR H1 w (K.1.2 8 s) = fR H w (K.1.2 8 s)) (e2 : fR H1 b (K.1.2 10 m) = fR H b (K.1.2 10 m)) (f1 : ∀ j, fI H1 (fR H w (K.1.2 8 s)) j = fI H (fR H w (K.1.2 8 s)) j) (f2 : ∀ j, fI H1 (fR H b (K.1.2 10 m)) j = fI H (fR H b (K.1.2 10 m)) j) : WRE K H1 w b s m N := fun j hj => by
  rw [e1, e2, f1, f2]
  exact h j hj
theorem WRI.kept (h : WRI K H q iq s p d N) (e1 : fR H1 q (K.1.2 8 s) = fR H q (K.1.2 8 s)) (f1 : ∀ j, fI H1 (fR H q (K.1.2 8 s)) j = fI H (fR H q (K.1.2 8 s)) j) (f2 : ∀ j, fI H1 iq j = fI H iq j) : WRI K H1 q iq s p d N := fun j hj => by
  rw [e1, f1, f2]
  exact h j hj
/-- the world is the kept one -/
theorem WRI.go (h : WRI K H1 q iq s p d N) (c : ∀ j, j < cap → fI H1 (fR H1 w (K.1.2 8 s)) j = fI H1 (fR H1 q (K.1.2 8 s)) j) (hN : N ≤ (cap : Int)) : WRI K H1 w iq s p d N := fun j hj => (c j (by omega)).trans (h j hj)
theorem WRI.re (h : WRI K H w iq s p d N) (e : EQ (fun j => fI H (fR H b (K.1.2 10 m)) j) (fun j => fI H iq j) p d cap) (hN : N ≤ (cap : Int)) : WRE K H w b s m N := fun j hj => (h j hj).trans (e j (by omega)).symm
/-- the kept world is the world -/
theorem WRE.ki (h : WRE K H w b s m N) (c : ∀ j, j < cap → fI H (fR H q (K.1.2 8 s)) j = fI H (fR H w (K.1.2 8 s)) j) (e : EQ (fun j => fI H (fR H b (K.1.2 10 m)) j) (fun j => fI H iq j) p d cap) (hN : N ≤ (cap : Int)) : WRI K H q iq s p d N := fun j hj => ((c j (by omega)).trans (h j hj)).trans (e j (by omega))
end
/-! ===== the note that a lost bar may go to ===== -/
