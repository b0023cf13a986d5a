/-! ===== a text's lines, one behind the other; a job of both sides ===== -/
def LNO (kk vv : Nat → Int) (lw : Int) (n : Nat) : Prop := ∀ l, l < n → lnI kk vv lw (lpo kk vv lw l) = some (lpo kk vv lw (l + 1))
theorem LNO.nil {kk vv : Nat → Int} {lw : Int} : LNO kk vv lw 0 := fun l hl => absurd hl (Nat.not_lt_zero l)
theorem tx_lno {kk vv : Nat → Int} {lw : Int} {n : Nat} : ∀ (f m i : Nat), txS kk vv lw f m i = some n → lpo kk vv lw m = i → m ≤ n ∧ ∀ l, m ≤ l → l < n → lnI kk vv lw (lpo kk vv lw l) = some (lpo kk vv lw (l + 1))
  | 0, _, _, h, _ => nomatch (show (none : Option Nat) = some n from h)
  | f + 1, m, i, h, hi => by
    by_cases c : kk i = 26
    · rw [tx_end (by omega) c] at h
      have := Option.some.inj h
      exact ⟨by omega, fun l h1 h2 => by omega⟩
    · by_cases c2 : 16 ≤ m
      · rw [tx_no c (Or.inl c2)] at h
        exact nomatch h
      · cases e : lnI kk vv lw i with
        | none =>
          rw [tx_no c (Or.inr e)] at h
          exact nomatch h
        | some j =>
          have h' : txS kk vv lw f (m + 1) j = some n := by
            have z : txS kk vv lw (f + 1) m i = txS kk vv lw f (m + 1) j := by
              show (if kk i = 26 then some m else if 16 ≤ m then none else match lnI kk vv lw i with
                | none => none
                | some j => txS kk vv lw f (m + 1) j) = _
              rw [if_neg c, if_neg c2, e]
            rw [← z]
            exact h
          have hp : lpo kk vv lw (m + 1) = j := lpo_go rfl (by rw [hi]; exact e)
          have ih := tx_lno f (m + 1) j h' hp
          refine ⟨by omega, fun l h1 h2 => ?_⟩
          by_cases cl : l = m
          · subst cl
            rw [hi, e, hp]
          · exact ih.2 l (by omega) h2
theorem LNO.of {kk vv : Nat → Int} {lw : Int} {f n : Nat} (h : txS kk vv lw f 0 0 = some n) : LNO kk vv lw n := fun l hl => (tx_lno f 0 0 h rfl).2 l (Nat.zero_le l) hl
/-- a job's line: its word and the ranges of its numbers -/
theorem ln_rng {kk vv : Nat → Int} {i j : Nat} (h : lnI kk vv 0 i = some j) : 4 ≤ kk i ∧ kk i ≤ 6 ∧ 0 ≤ vv (i + 1) ∧ vv (i + 1) ≤ 15 ∧ (kk i = 5 → 0 ≤ vv (i + 2) ∧ vv (i + 2) ≤ 15) ∧ (kk i = 6 → 0 ≤ lf3 kk vv i ∧ lf3 kk vv i ≤ 99) ∧ (kk i ≠ 6 → 1 ≤ lf3 kk vv i ∧ lf3 kk vv i ≤ 9) := by
  by_cases c : kk i < 4 ∨ 6 < kk i
  · rw [ln_no0 (Or.inr ⟨rfl, c⟩)] at h
    exact nomatch h
  · cases e : hsI kk vv 0 (kk i) (i + 1) with
    | none =>
      rw [ln_no1 (w := kk i) (m := i + 1) (Or.inr ⟨rfl, by omega⟩) rfl rfl e] at h
      exact nomatch h
    | some p =>
      rw [hs_job rfl] at e
      cases e1 : nmI kk vv 0 15 (i + 1) with
      | none =>
        rw [hj_no1 e1] at e
        exact nomatch e
      | some j1 =>
        have n1 := nm_at e1
        have j1e : j1 = i + 2 := by omega
        subst j1e
        by_cases w5 : kk i = 5
        · cases e2 : nmI kk vv 0 15 (i + 2) with
          | none =>
            rw [hj_no2 e1 w5 e2] at e
            exact nomatch e
          | some j2 =>
            have n2 := nm_at e2
            have j2e : j2 = i + 3 := by omega
            subst j2e
            rw [hj_go e1 (Or.inl ⟨w5, e2⟩), if_neg (show ¬ kk i = 6 by omega)] at e
            have n3 := nm_at e
            have l3 : lf3 kk vv i = vv (i + 3) := if_pos w5
            rw [l3]
            exact ⟨by omega, by omega, n1.2.1, n1.2.2.1, fun _ => ⟨n2.2.1, n2.2.2.1⟩, fun z => absurd z (by omega), fun _ => ⟨n3.2.1, n3.2.2.1⟩⟩
        · have l3 : lf3 kk vv i = vv (i + 2) := if_neg w5
          rw [l3]
          rw [hj_go e1 (Or.inr ⟨w5, rfl⟩)] at e
          by_cases w6 : kk i = 6
          · rw [if_pos w6] at e
            have n3 := nm_at e
            exact ⟨by omega, by omega, n1.2.1, n1.2.2.1, fun z => absurd z w5, fun _ => ⟨n3.2.1, n3.2.2.1⟩, fun z => absurd w6 z⟩
          · rw [if_neg w6] at e
            have n3 := nm_at e
            exact ⟨by omega, by omega, n1.2.1, n1.2.2.1, fun z => absurd z w5, fun z => absurd z w6, fun _ => ⟨n3.2.1, n3.2.2.1⟩⟩
theorem lf1_0 {kk vv : Nat → Int} {i : Nat} : lf1 kk vv 0 i = vv (i + 1) := if_neg (fun z => z.1 rfl)
section
variable {K : KE} {H H1 : Heap} {q b row n : Nat} {kk vv : Nat → Int}
theorem TXM.rng (h : TXM K H q kk vv 0 n) (o : LNO kk vv 0 n) {li : Int32} (hn : li.toInt = (n : Int)) : ∀ j : Nat, (j : Int) < li.toInt → 0 ≤ (fI H (fR H q (K.1.2 7 2)) j).toInt ∧ (fI H (fR H q (K.1.2 7 2)) j).toInt ≤ 15 ∧ ((fI H (fR H q (K.1.2 7 1)) j).toInt = 4 ∨ (fI H (fR H q (K.1.2 7 1)) j).toInt = 6 ∨ (0 ≤ (fI H (fR H q (K.1.2 7 3)) j).toInt ∧ (fI H (fR H q (K.1.2 7 3)) j).toInt ≤ 15)) ∧ 0 ≤ (fI H (fR H q (K.1.2 7 4)) j).toInt ∧ (fI H (fR H q (K.1.2 7 4)) j).toInt ≤ 99 := by
  intro j hj
  have a := h j (by omega)
  have r := ln_rng (o j (by omega))
  obtain ⟨⟨a1, a2⟩, a3, -, -⟩ := a
  obtain ⟨a3, a4⟩ := a3 rfl
  rw [lf1_0] at a2
  obtain ⟨r1, r2, r3, r4, r5, r6, r7⟩ := r
  refine ⟨by omega, by omega, ?_, ?_, ?_⟩
  · by_cases w5 : kk (lpo kk vv 0 j) = 5
    · have := a4 w5
      have := r5 w5
      exact Or.inr (Or.inr (by omega))
    · by_cases w6 : kk (lpo kk vv 0 j) = 6
      · exact Or.inr (Or.inl (by omega))
      · exact Or.inl (by omega)
  · by_cases w6 : kk (lpo kk vv 0 j) = 6
    · have := r6 w6; omega
    · have := r7 w6; omega
  · by_cases w6 : kk (lpo kk vv 0 j) = 6
    · have := r6 w6; omega
    · have := r7 w6; omega
theorem wdR_17 {w : Int} (h : wdR w = 6) (h6 : w ≠ 6) : w = 17 := by
  unfold wdR at h
  by_cases c : w = 17
  · exact c
  · rw [if_neg c] at h
    exact absurd h h6
theorem wdR_n {w k : Int} (h : wdR w = k) (h6 : k ≠ 6) : w = k := by
  unfold wdR at h
  by_cases c : w = 17
  · rw [if_pos c] at h
    exact absurd h.symm h6
  · rw [if_neg c] at h
    exact h
theorem TXMR.rng (h : TXMR K H b row kk vv 0 n) (o : LNO kk vv 0 n) : ∀ l : Nat, 16 * row ≤ l → l < 16 * row + n → (0 ≤ (fI H (fR H b (K.1.2 10 26)) l).toInt ∧ (fI H (fR H b (K.1.2 10 26)) l).toInt ≤ 15) ∧ (0 ≤ (fI H (fR H b (K.1.2 10 28)) l).toInt ∧ (fI H (fR H b (K.1.2 10 28)) l).toInt ≤ 99) ∧ ((fI H (fR H b (K.1.2 10 25)) l).toInt = 4 ∨ (fI H (fR H b (K.1.2 10 25)) l).toInt = 5 ∨ (fI H (fR H b (K.1.2 10 25)) l).toInt = 17) ∧ ((fI H (fR H b (K.1.2 10 25)) l).toInt = 17 ∨ (1 ≤ (fI H (fR H b (K.1.2 10 28)) l).toInt ∧ (fI H (fR H b (K.1.2 10 28)) l).toInt ≤ 9)) ∧ ((fI H (fR H b (K.1.2 10 25)) l).toInt ≠ 5 ∨ (0 ≤ (fI H (fR H b (K.1.2 10 27)) l).toInt ∧ (fI H (fR H b (K.1.2 10 27)) l).toInt ≤ 15)) := by
  intro l h1 h2
  obtain ⟨j, rfl⟩ : ∃ j, l = 16 * row + j := ⟨l - 16 * row, by omega⟩
  have a := h j (by omega)
  have r := ln_rng (o j (by omega))
  obtain ⟨⟨-, a1, a2⟩, a3, -, -⟩ := a
  obtain ⟨a1, a6⟩ := a1 rfl
  obtain ⟨a3, a4⟩ := a3 rfl
  rw [lf1_0] at a2
  obtain ⟨r1, r2, r3, r4, r5, r6, r7⟩ := r
  by_cases w6 : kk (lpo kk vv 0 j) = 6
  · have e := wdR_17 (a1.trans w6) a6
    have := r6 w6
    exact ⟨by omega, by omega, by omega, by omega, by omega⟩
  · have e := wdR_n a1 w6
    have := r7 w6
    refine ⟨by omega, by omega, by omega, by omega, ?_⟩
    by_cases w5 : kk (lpo kk vv 0 j) = 5
    · have := a4 w5
      have := r5 w5
      exact Or.inr (by omega)
    · exact Or.inl (by omega)
/-- a job of both sides does the same -/
theorem job_congr {T U : TF} {sl : Int} {v u : BW} (h : TXM K H q kk vv 0 n) (g : TXMR K H1 b row kk vv 0 n) (lo : LNO kk vv 0 n) (hT : EqT T U) (e : EqW v u) (o : ObV v) : EqW (joV T sl (fun j => (fI H (fR H q (K.1.2 7 1)) j).toInt) (fun j => (fI H (fR H q (K.1.2 7 2)) j).toInt) (fun j => (fI H (fR H q (K.1.2 7 3)) j).toInt) (fun j => (fI H (fR H q (K.1.2 7 4)) j).toInt) (fun j => decide ((fI H (fR H q (K.1.2 7 6)) j).toInt < (fI H (fR H q (K.1.2 7 7)) j).toInt)) (txFw kk vv 0) n 0 v) (joV U sl (fun j => wdR (fI H1 (fR H1 b (K.1.2 10 25)) (16 * row + j)).toInt) (fun j => (fI H1 (fR H1 b (K.1.2 10 26)) (16 * row + j)).toInt) (fun j => (fI H1 (fR H1 b (K.1.2 10 27)) (16 * row + j)).toInt) (fun j => (fI H1 (fR H1 b (K.1.2 10 28)) (16 * row + j)).toInt) (fun j => decide ((fI H1 (fR H1 b (K.1.2 10 30)) (16 * row + j)).toInt ≠ (fI H1 (fR H1 b (K.1.2 10 31)) (16 * row + j)).toInt)) (fun j => txRw kk vv 0 row (16 * row + j)) n 0 u) := by
  refine joV_congrW hT n 0 v u (fun j _ hj => ?_) e o
  obtain ⟨⟨a1, a2⟩, a3, -, a5⟩ := h j (by omega)
  obtain ⟨⟨-, d1, d2⟩, d3, -, d5⟩ := g j (by omega)
  obtain ⟨d1, d6⟩ := d1 rfl
  obtain ⟨a3, a4⟩ := a3 rfl
  obtain ⟨d3, d4⟩ := d3 rfl
  refine ⟨a1.trans d1.symm, a2.trans d2.symm, fun n6 n4 => ?_, a3.trans d3.symm, ?_, fun _ => ?_⟩
  · have w5 : kk (lpo kk vv 0 j) = 5 := by
      have r := ln_rng (lo j (by omega))
      have n6' : ¬ (fI H (fR H q (K.1.2 7 1)) j).toInt = 6 := n6
      have n4' : ¬ (fI H (fR H q (K.1.2 7 1)) j).toInt = 4 := n4
      omega
    exact (a4 w5).trans (d4 w5).symm
  · show decide ((fI H (fR H q (K.1.2 7 6)) j).toInt < (fI H (fR H q (K.1.2 7 7)) j).toInt) = decide ((fI H1 (fR H1 b (K.1.2 10 30)) (16 * row + j)).toInt ≠ (fI H1 (fR H1 b (K.1.2 10 31)) (16 * row + j)).toInt)
    rcases a5 with x | x
    · rcases d5 with y | y
      · exact (decide_eq_true x.2.1).trans (decide_eq_true (by have := y.2.1; omega)).symm
      · exact absurd (x.1.symm.trans y.1) (by decide)
    · rcases d5 with y | y
      · exact absurd (x.1.symm.trans y.1) (by decide)
      · exact (decide_eq_false (by rw [x.2]; omega)).trans (decide_eq_false (by rw [y.2]; exact fun z => z rfl)).symm
  · show txFw kk vv 0 j = txFw kk vv 0 (16 * row + j - 16 * row)
    rw [show 16 * row + j - 16 * row = j by omega]
end
