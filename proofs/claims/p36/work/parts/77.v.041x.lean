theorem dX4_goesOn_0 : decode cX4_goesOn 0 = .ok (.aload_n 0, 1) := by decide +kernel
theorem dX4_goesOn_1 : decode cX4_goesOn 1 = .ok (.getfield 32, 3) := by decide +kernel
theorem dX4_goesOn_4 : decode cX4_goesOn 4 = .ok (.ifCond .ne 21, 3) := by decide +kernel
theorem dX4_goesOn_7 : decode cX4_goesOn 7 = .ok (.aload_n 0, 1) := by decide +kernel
theorem dX4_goesOn_8 : decode cX4_goesOn 8 = .ok (.getfield 18, 3) := by decide +kernel
theorem dX4_goesOn_11 : decode cX4_goesOn 11 = .ok (.aload_n 0, 1) := by decide +kernel
theorem dX4_goesOn_12 : decode cX4_goesOn 12 = .ok (.getfield 42, 3) := by decide +kernel
theorem dX4_goesOn_15 : decode cX4_goesOn 15 = .ok (.iaload, 1) := by decide +kernel
theorem dX4_goesOn_16 : decode cX4_goesOn 16 = .ok (.bipush 26, 2) := by decide +kernel
theorem dX4_goesOn_18 : decode cX4_goesOn 18 = .ok (.if_icmp .eq 7, 3) := by decide +kernel
theorem dX4_goesOn_21 : decode cX4_goesOn 21 = .ok (.iconst 1, 1) := by decide +kernel
theorem dX4_goesOn_22 : decode cX4_goesOn 22 = .ok (.goto 4, 3) := by decide +kernel
theorem dX4_goesOn_25 : decode cX4_goesOn 25 = .ok (.iconst 0, 1) := by decide +kernel
theorem dX4_goesOn_26 : decode cX4_goesOn 26 = .ok (.ireturn, 1) := by decide +kernel
/-! what isn't in a row of codes -/
theorem nm0 {t : Nat} : t ∉ ([] : List Nat) := List.not_mem_nil
theorem nm2 {t c : Nat} {l : List Nat} (h : t ≠ c) (r : t ∉ l) : t ∉ c :: l := fun z => (List.mem_cons.mp z).elim h r
def Ad : Type := Nat
theorem nmb_r {b : Nat → Int} : ∀ (k p : Nat) (a m : Int), 0 ≤ a → a ≤ m → (∀ j, p ≤ j → j < p + k → 48 ≤ b j ∧ b j ≤ 57) → 0 ≤ nmb b k p a ∧ nmb b k p a < (m + 1) * 10 ^ k
  | 0, p, a, m, h0, h1, _ => by show 0 ≤ a ∧ a < (m + 1) * 1; omega
  | k + 1, p, a, m, h0, h1, hb => by
    have hp := hb p (Nat.le_refl _) (by omega)
    have := nmb_r (b := b) k (p + 1) (a * 10 + b p - 48) (m * 10 + 9) (by omega) (by omega) (fun j j1 j2 => hb j (by omega) (by omega))
    show 0 ≤ nmb b k (p + 1) (a * 10 + b p - 48) ∧ nmb b k (p + 1) (a * 10 + b p - 48) < (m + 1) * 10 ^ (k + 1)
    have e : (m + 1) * (10 : Int) ^ (k + 1) = (m * 10 + 9 + 1) * 10 ^ k := by
      rw [Int.pow_succ, Int.mul_comm ((10 : Int) ^ k) 10, ← Int.mul_assoc]
      congr 1
      omega
    rw [e]
    exact this
theorem p10_5 : ∀ k : Nat, k ≤ 5 → (10 : Int) ^ k ≤ 100000 := by
  intro k hk
  have : k = 0 ∨ k = 1 ∨ k = 2 ∨ k = 3 ∨ k = 4 ∨ k = 5 := by omega
  rcases this with rfl | rfl | rfl | rfl | rfl | rfl <;> decide
theorem vV_r {b : Nat → Int} {L : Nat} (i : Nat) : 0 ≤ vV b L i ∧ vV b L i < 100000 := by
  show 0 ≤ tkV b L (skB b L (pS b L i)) ∧ tkV b L (skB b L (pS b L i)) < 100000
  generalize skB b L (pS b L i) = s
  unfold tkV
  split
  · decide
  · split
    · decide
    · split
      · rename_i h1 h2 h3
        have hd : 48 ≤ b s ∧ b s ≤ 57 := of_decide_eq_true h3
        have ha := enD_all (b := b) (L := L) (p := s) rfl hd
        have hr := nmb_r (b := b) (min (enD b L (s + 1) - s) 5) s 0 0 (by decide) (by decide) (fun j j1 j2 => ha j j1 (by omega))
        have hp := p10_5 (min (enD b L (s + 1) - s) 5) (by omega)
        omega
      · decide
