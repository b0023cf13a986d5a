/-! ===== decoding, some rows at a time ===== -/
def dq_pre (c : ByteArray) (p : Nat) (d : ByteArray) (q : Nat) : Prop := ∀ k, q + k < d.data.size → c.data[p + k]? = d.data[q + k]?
theorem dq_sh {c : ByteArray} {p : Nat} {d : ByteArray} {q : Nat} (h : dq_pre c p d q) (n : Nat) : dq_pre c (p + n) d (q + n) := fun k hk => by
  have := h (n + k) (by omega)
  rw [Nat.add_assoc, Nat.add_assoc]
  exact this
def dqR {α : Type} (r : Decoder α) : Prop := ∀ (c : ByteArray) (p : Nat) (d : ByteArray) (q : Nat) (a : α) (m : Nat), dq_pre c p d q → Reader.runAt r d q = .ok (a, m) → ∃ n, m = q + n ∧ Reader.runAt r c p = .ok (a, p + n)
theorem dq_p {α : Type} {x : α} : dqR (pure x : Decoder α) := fun c p d q a m hp h => by
  have h : (Except.ok (x, q) : Except DecodeError (α × Nat)) = .ok (a, m) := h
  cases h
  exact ⟨0, rfl, rfl⟩
theorem dq_bok {α β : Type} {r : Decoder α} {f : α → Decoder β} {d : ByteArray} {q m : Nat} {a : α} (e : Reader.runAt r d q = .ok (a, m)) : Reader.runAt (r >>= f) d q = Reader.runAt (f a) d m := by
  have h : Reader.runAt (r >>= f) d q = Except.bind (Reader.runAt r d q) (fun x => Reader.runAt (f x.1) d x.2) := rfl
  rw [h, e]
  rfl
theorem dq_ber {α β : Type} {r : Decoder α} {f : α → Decoder β} {d : ByteArray} {q : Nat} {x : DecodeError} (e : Reader.runAt r d q = .error x) : Reader.runAt (r >>= f) d q = .error x := by
  have h : Reader.runAt (r >>= f) d q = Except.bind (Reader.runAt r d q) (fun x => Reader.runAt (f x.1) d x.2) := rfl
  rw [h, e]
  rfl
theorem dq_b {α β : Type} {r : Decoder α} {f : α → Decoder β} (hr : dqR r) (hf : ∀ a, dqR (f a)) : dqR (r >>= f) := fun c p d q b m hp h => by
  cases e : Reader.runAt r d q with
  | error x => rw [dq_ber e] at h; cases h
  | ok y =>
    obtain ⟨a, m1⟩ := y
    rw [dq_bok e] at h
    obtain ⟨n, e1, h2⟩ := hr c p d q _ _ hp e
    subst e1
    obtain ⟨n2, h3, h4⟩ := hf a c (p + n) d (q + n) b m (dq_sh hp n) h
    exact ⟨n + n2, by omega, by rw [dq_bok h2, h4, Nat.add_assoc]⟩
theorem dq_m {α β : Type} {r : Decoder α} {f : α → β} (hr : dqR r) : dqR (f <$> r) := fun c p d q b m hp h => by
  have kz : ∀ (d : ByteArray) (q : Nat), Reader.runAt (f <$> r) d q = Except.bind (Reader.runAt r d q) (fun x => .ok (f x.1, x.2)) := fun _ _ => rfl
  cases e : Reader.runAt r d q with
  | error x => rw [kz, e] at h; cases h
  | ok y =>
    obtain ⟨a, m1⟩ := y
    rw [kz, e] at h
    have h : (Except.ok (f a, m1) : Except DecodeError (β × Nat)) = .ok (b, m) := h
    cases h
    obtain ⟨n, e1, h2⟩ := hr c p d q _ _ hp e
    exact ⟨n, e1, by rw [kz, h2]; rfl⟩
theorem dq_u1y {c : ByteArray} {p : Nat} (h : p < c.data.size) : Reader.runAt (Reader.u1 : Decoder Nat) c p = .ok ((c.data[p]'h).toNat, p + 1) := by
  have e : Reader.runAt (Reader.u1 : Decoder Nat) c p = Reader.runAt (dite (p < c.size) (fun h => (do set (p + 1); pure (c[p]'h).toNat : Decoder Nat)) (fun _ => (throw (HasTruncated.truncated p) : Decoder Nat)) : Decoder Nat) c p := rfl
  rw [e, dif_pos (show p < c.size from h)]
  rfl
theorem dq_u1n {c : ByteArray} {p : Nat} (h : ¬ p < c.data.size) : ∃ x, Reader.runAt (Reader.u1 : Decoder Nat) c p = .error x := by
  have e : Reader.runAt (Reader.u1 : Decoder Nat) c p = Reader.runAt (dite (p < c.size) (fun h => (do set (p + 1); pure (c[p]'h).toNat : Decoder Nat)) (fun _ => (throw (HasTruncated.truncated p) : Decoder Nat)) : Decoder Nat) c p := rfl
  rw [e, dif_neg (show ¬ p < c.size from h)]
  exact ⟨_, rfl⟩
theorem dq_u1 : dqR (Reader.u1 : Decoder Nat) := fun c p d q a m hp h => by
  by_cases hq : q < d.data.size
  · rw [dq_u1y hq] at h
    cases h
    have h1 := hp 0 hq
    rw [Nat.add_zero, Nat.add_zero, Array.getElem?_eq_getElem hq] at h1
    obtain ⟨hc, e⟩ := Array.getElem?_eq_some_iff.mp h1
    exact ⟨1, rfl, by rw [dq_u1y hc, e]⟩
  · obtain ⟨x, e⟩ := dq_u1n hq
    rw [e] at h; cases h
theorem dq_u2 : dqR (Reader.u2 : Decoder Nat) := dq_b dq_u1 (fun _ => dq_b dq_u1 (fun _ => dq_p))
theorem dq_s1 : dqR (Reader.s1 : Decoder Int) := dq_m dq_u1
theorem dq_s2 : dqR (Reader.s2 : Decoder Int) := dq_m dq_u2
def dqO : List Nat := [1, 2, 3, 4, 5, 6, 7, 8, 9, 10, 11, 14, 15, 16, 17, 18, 19, 20, 21, 22, 25, 26, 27, 28, 29, 30, 31, 32, 33, 42, 43, 44, 45, 46, 47, 50, 51, 52, 53, 54, 55, 58, 59, 60, 61, 62, 63, 64, 65, 66, 75, 76, 77, 78, 79, 80, 83, 84, 85, 86, 87, 88, 89, 90, 91, 92, 93, 94, 95, 96, 97, 100, 101, 104, 105, 108, 109, 112, 113, 116, 117, 120, 121, 122, 123, 124, 125, 126, 127, 128, 129, 130, 131, 132, 133, 136, 145, 146, 147, 148, 153, 154, 155, 156, 157, 158, 159, 160, 161, 162, 163, 164, 165, 166, 167, 172, 173, 176, 177, 178, 179, 180, 181, 182, 183, 184, 187, 189, 190, 191, 192, 193, 198, 199]
theorem dq_all {f : Nat → Nat → Decoder Instr} (hi : ∀ pc, Decoder.instr pc = (Reader.u1 : Decoder Nat) >>= f pc) (hf : ∀ b ∈ dqO, ∀ pc, dqR (f pc b)) {c : ByteArray} {pc n : Nat} {i : Instr} {L : List UInt8} (hL : c.data.toList.drop pc = L) (ho : dqO.contains (L.headD 0).toNat = true) (h : Reader.runAt (Decoder.instr pc) ⟨⟨L.take n⟩⟩ 0 = .ok (i, n)) : decode c pc = .ok (i, n) := by
  have nil : ¬ Reader.runAt (Decoder.instr pc) ⟨⟨[]⟩⟩ 0 = .ok (i, n) := by
    intro h
    obtain ⟨x, e⟩ := dq_u1n (c := ⟨⟨[]⟩⟩) (p := 0) (by show ¬ 0 < 0; omega)
    rw [hi, dq_ber e] at h; cases h
  cases L with
  | nil => rw [List.take_nil] at h; exact absurd h nil
  | cons x t =>
    cases n with
    | zero => exact absurd h nil
    | succ n =>
      have h : Reader.runAt (Decoder.instr pc) ⟨⟨x :: t.take n⟩⟩ 0 = .ok (i, n + 1) := h
      have hp : dq_pre c pc ⟨⟨x :: t.take n⟩⟩ 0 := by
        intro k hk
        have e1 : c.data[pc + k]? = (x :: t)[k]? := by rw [← hL, List.getElem?_drop, Array.getElem?_toList]
        have hk : 0 + k < (x :: t.take n).length := hk
        have h3 : (t.take n).length ≤ n := by rw [List.length_take]; omega
        rw [List.length_cons] at hk
        rw [e1, Nat.zero_add, ← Array.getElem?_toList]
        exact (List.getElem?_take_of_lt (l := x :: t) (i := k) (j := n + 1) (by omega)).symm
      have hq : 0 < (⟨⟨x :: t.take n⟩⟩ : ByteArray).data.size := by show 0 < (x :: t.take n).length; rw [List.length_cons]; omega
      rw [hi, dq_bok (dq_u1y hq)] at h
      obtain ⟨n1, e1, h1⟩ := dq_u1 c pc _ 0 _ _ hp (dq_u1y hq)
      have e1 : n1 = 1 := by omega
      subst e1
      have hb : x.toNat ∈ dqO := List.contains_iff_mem.mp ho
      obtain ⟨n2, e2, h2⟩ := hf _ hb pc c (pc + 1) _ (0 + 1) i (n + 1) (dq_sh hp 1) h
      have e : decode c pc = Except.bind (Reader.runAt (Decoder.instr pc) c pc) (fun x => .ok (x.1, x.2 - pc)) := rfl
      have h3 : Reader.runAt (Decoder.instr pc) c pc = .ok (i, pc + 1 + n2) := by rw [hi, dq_bok h1]; exact h2
      rw [e, h3]
      show Except.ok (i, pc + 1 + n2 - pc) = _
      rw [show pc + 1 + n2 - pc = n + 1 by omega]
set_option maxRecDepth 100000 in
theorem dq_main {c : ByteArray} {pc n : Nat} {i : Instr} {L : List UInt8} (hL : c.data.toList.drop pc = L) (ho : dqO.contains (L.headD 0).toNat = true) (h : Reader.runAt (Decoder.instr pc) ⟨⟨L.take n⟩⟩ 0 = .ok (i, n)) : decode c pc = .ok (i, n) := by
  refine dq_all (fun pc => rfl) ?_ hL ho h
  intro b hb pc
  simp only [dqO, List.mem_cons, List.not_mem_nil, or_false] at hb
  rcases hb with rfl | rfl | rfl | rfl | rfl | rfl | rfl | rfl | rfl | rfl | rfl | rfl | rfl | rfl | rfl | rfl | rfl | rfl | rfl | rfl | rfl | rfl | rfl | rfl | rfl | rfl | rfl | rfl | rfl | rfl | rfl | rfl | rfl | rfl | rfl | rfl | rfl | rfl | rfl | rfl | rfl | rfl | rfl | rfl | rfl | rfl | rfl | rfl | rfl | rfl | rfl | rfl | rfl | rfl | rfl | rfl | rfl | rfl | rfl | rfl | rfl | rfl | rfl | rfl | rfl | rfl | rfl | rfl | rfl | rfl | rfl | rfl | rfl | rfl | rfl | rfl | rfl | rfl | rfl | rfl | rfl | rfl | rfl | rfl | rfl | rfl | rfl | rfl | rfl | rfl | rfl | rfl | rfl | rfl | rfl | rfl | rfl | rfl | rfl | rfl | rfl | rfl | rfl | rfl | rfl | rfl | rfl | rfl | rfl | rfl | rfl | rfl | rfl | rfl | rfl | rfl | rfl | rfl | rfl | rfl | rfl | rfl | rfl | rfl | rfl | rfl | rfl | rfl | rfl | rfl | rfl | rfl | rfl | rfl
  all_goals first | exact dq_p | exact dq_b dq_u1 (fun _ => dq_p) | exact dq_b dq_u2 (fun _ => dq_p) | exact dq_b dq_s2 (fun _ => dq_p) | exact dq_b dq_s1 (fun _ => dq_p) | exact dq_b dq_u1 (fun _ => dq_b dq_s1 (fun _ => dq_p))
def dqC : List (Nat × Nat × Option Instr) → List UInt8 → Nat → Bool
  | [], _, _ => true
  | (pc, n, none) :: r, L, p => decide (p = pc) && dqC r (L.drop n) (p + n)
  | (pc, n, some i) :: r, L, p => decide (p = pc) && (dqO.contains (L.headD 0).toNat && (decide (Reader.runAt (Decoder.instr pc) ⟨⟨L.take n⟩⟩ 0 = .ok (i, n)) && dqC r (L.drop n) (p + n)))
def dqP (c : ByteArray) : List (Nat × Nat × Option Instr) → Prop
  | [] => True
  | (_, _, none) :: r => dqP c r
  | (pc, n, some i) :: r => decode c pc = .ok (i, n) ∧ dqP c r
theorem dqC_ok {c : ByteArray} : ∀ (rows : List (Nat × Nat × Option Instr)) (L : List UInt8) (p : Nat), c.data.toList.drop p = L → dqC rows L p = true → dqP c rows
  | [], _, _, _, _ => trivial
  | (pc, n, none) :: r, L, p, hL, h => by
    have h : (decide (p = pc) && dqC r (L.drop n) (p + n)) = true := h
    rw [Bool.and_eq_true] at h
    exact dqC_ok r (L.drop n) (p + n) (by rw [← hL, List.drop_drop]) h.2
  | (pc, n, some i) :: r, L, p, hL, h => by
    have h : (decide (p = pc) && (dqO.contains (L.headD 0).toNat && (decide (Reader.runAt (Decoder.instr pc) ⟨⟨L.take n⟩⟩ 0 = .ok (i, n)) && dqC r (L.drop n) (p + n)))) = true := h
    rw [Bool.and_eq_true, Bool.and_eq_true, Bool.and_eq_true] at h
    obtain ⟨h1, h2, h3, h4⟩ := h
    have h1 := of_decide_eq_true h1
    subst h1
    exact ⟨dq_main hL h2 (of_decide_eq_true h3), dqC_ok r (L.drop n) (p + n) (by rw [← hL, List.drop_drop]) h4⟩
