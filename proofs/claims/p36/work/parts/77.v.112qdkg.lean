/-- the first n places are -1 -/
def MNN (H : Heap) (q n : Nat) : Prop := ∀ j : Nat, j < n → (fI H q j).toInt = -1
theorem MNN.kept {H H1 : Heap} {q n : Nat} (e : H1[q]? = H[q]?) (h : MNN H q n) : MNN H1 q n := fun j hj => (congrArg Int32.toInt (fI_kept e)).trans (h j hj)
theorem MNN.nil {H : Heap} {q : Nat} : MNN H q 0 := fun j hj => by omega
theorem MNN.put {H H1 : Heap} {q i n : Nat} {x : Int32} (h : MNN H q n) (w : Wr H H1 q i (.int x)) (hi : i = n) (hx : x.toInt = -1) : MNN H1 q (n + 1) := by
  subst hi
  intro j hj
  by_cases e : j = i
  · rw [e, Wr.I w]; exact hx
  · rw [Wr.neI w (Or.inr e)]; exact h j (by omega)
