theorem EQ.fb {f w w1 : Nat → Int32} {b s n m : Nat} (h : EQ f w b s n) (e : FB w1 w m) (ht : ∀ j, j < n → b + s * j < m) : EQ f w1 b s n := fun j hj => (h j hj).trans (e _ (ht j hj)).symm
theorem pl_av {K : KE} {H : Heap} {b k q p : Nat} {r : Int32} (h : r = fI H b (K.1.2 10 k)) (hp : r = fI H q p) (e : q = fR H b (K.1.2 10 73)) : svw K H b k = avw K H b 73 p := by subst e; exact h.symm.trans hp
theorem all8 {P : Nat → Prop} (h4 : P 4) (h16 : P 16) (h24 : P 24) (h29 : P 29) (h30 : P 30) (h31 : P 31) (h32 : P 32) (h33 : P 33) : ∀ k ∈ ([4, 16, 24, 29, 30, 31, 32, 33] : List Nat), P k := by
  intro k hk
  simp only [List.mem_cons, List.not_mem_nil, or_false] at hk
  rcases hk with rfl | rfl | rfl | rfl | rfl | rfl | rfl | rfl <;> assumption
