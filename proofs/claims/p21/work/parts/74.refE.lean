/-! ===== the image ===== -/
def EQ (f w : Nat → Int32) (b s n : Nat) : Prop := ∀ j, j < n → f j = w (b + s * j)
theorem EQ.nil {f w : Nat → Int32} {b s n : Nat} (hn : n = 0) : EQ f w b s n := fun j hj => by omega
theorem EQ.congr {f w f1 w1 : Nat → Int32} {b s n : Nat} (e : ∀ j, f1 j = f j) (e2 : ∀ j, w1 j = w j) (h : EQ f w b s n) : EQ f1 w1 b s n := fun j hj => by rw [e, e2]; exact h j hj
theorem EQ.cast {f w : Nat → Int32} {b s n n' : Nat} (h : EQ f w b s n) (hn : n' = n) : EQ f w b s n' := by rw [hn]; exact h
theorem EQ.wr {f w w1 : Nat → Int32} {b s n t : Nat} (h : EQ f w b s n) (e : ∀ j, j ≠ t → w1 j = w j) (ht : ∀ j, j < n → b + s * j ≠ t) : EQ f w1 b s n := fun j hj => by rw [e _ (ht j hj)]; exact h j hj
theorem EQ.st {f f1 w w1 : Nat → Int32} {b s n i t : Nat} {x : Int32} (h : EQ f w b s n) (hi : i = n) (hx : x = w t) (ht : t = b + s * n) (h1 : f1 i = x) (h2 : ∀ j, j ≠ i → f1 j = f j) (e : ∀ j, w1 j = w j) : EQ f1 w1 b s (n + 1) := by
  subst hi
  intro j hj
  rw [e]
  by_cases c : j = i
  · subst c
    rw [h1, hx, ht]
  · rw [h2 j c]
    exact h j (by omega)
def UN (c : Prop) (f f0 : Nat → Int32) : Prop := c → ∀ j, f j = f0 j
theorem UN.rf {c : Prop} {f : Nat → Int32} : UN c f f := fun _ _ => rfl
theorem UN.congr {c : Prop} {f f0 f1 : Nat → Int32} (e : ∀ j, f1 j = f j) (h : UN c f f0) : UN c f1 f0 := fun hc j => (e j).trans (h hc j)
theorem UN.tr {c : Prop} {f f0 f1 : Nat → Int32} (e : c → ∀ j, f1 j = f j) (h : UN c f f0) : UN c f1 f0 := fun hc j => (e hc j).trans (h hc j)
theorem UN.st {c : Prop} {f f0 f1 : Nat → Int32} {i : Nat} {x : Int32} (h : UN c f f0) (hx : c → x = f i) (h1 : f1 i = x) (h2 : ∀ j, j ≠ i → f1 j = f j) : UN c f1 f0 := by
  intro hc j
  by_cases e : j = i
  · subst e
    rw [h1, hx hc]
    exact h hc j
  · rw [h2 j e]
    exact h hc j
def FB (w w0 : Nat → Int32) (n : Nat) : Prop := ∀ j, j < n → w j = w0 j
theorem FB.rf {w : Nat → Int32} {n : Nat} : FB w w n := fun _ _ => rfl
theorem FB.congr {w w0 w1 : Nat → Int32} {n : Nat} (e : ∀ j, w1 j = w j) (h : FB w w0 n) : FB w1 w0 n := fun j hj => (e j).trans (h j hj)
theorem FB.wr {w w0 w1 : Nat → Int32} {n t : Nat} (h : FB w w0 n) (e : ∀ j, j ≠ t → w1 j = w j) (ht : ∀ j, j < n → j ≠ t) : FB w1 w0 n := fun j hj => (e j (ht j hj)).trans (h j hj)
theorem kr {tk r x : Int32} {lo hi : Int} (h0 : tk.toInt = 0 → lo ≤ r.toInt ∧ r.toInt ≤ hi) (h1 : tk.toInt ≠ 0 → r = x) (hx : lo ≤ x.toInt ∧ x.toInt ≤ hi) : lo ≤ r.toInt ∧ r.toInt ≤ hi := by
  by_cases h : tk.toInt = 0
  · exact h0 h
  · rw [h1 h]; exact hx
theorem kr0 {w w0 : Nat → Int32} {r : Int32} {t p : Nat} {lo hi : Int} (hr : r = w t) (hp : t = p) (e : ∀ j, w j = w0 j) (h : iR w0 p lo hi) : lo ≤ r.toInt ∧ r.toInt ≤ hi := by
  rw [hr, hp, e]; exact h
theorem IMw.congr {w w1 : Nat → Int32} (e : ∀ j, w1 j = w j) (h : IMw w) : IMw w1 := by rw [show w1 = w from funext e]; exact h
theorem IM.w {K : KE} {H : Heap} {b q : Nat} (h : IM (avw K H b)) (e : q = fR H b (K.1.2 10 73)) : IMw (fun k => fI H q k) := by subst e; exact h
theorem EQ.av {K : KE} {H : Heap} {b k q i c s n : Nat} (e : q = fR H b (K.1.2 10 k)) (ei : i = fR H b (K.1.2 10 73)) (h : EQ (fun j => fI H q j) (fun j => fI H i j) c s n) : EQ (avw K H b k) (avw K H b 73) c s n := by subst e ei; exact h
theorem UN.av {K : KE} {H H0 : Heap} {b k q : Nat} {c : Prop} (e : q = fR H b (K.1.2 10 k)) (e0 : q = fR H0 b (K.1.2 10 k)) (h : UN c (fun j => fI H q j) (fun j => fI H0 q j)) : c → ∀ j, avw K H b k j = avw K H0 b k j := fun hc j => by
  unfold avw
  rw [← e, ← e0]
  exact h hc j
theorem tu_pic {v v' : Nat → Nat → Int32} {s s' : Nat → Int32} (h4 : ∀ j, j < 10 → v' 4 j = v 4 j) (h16 : ∀ j, j < 20 → v' 16 j = v 16 j) (hs : s' 1 = s 1) (hb : (s 1).toInt ≤ 10) (h : TU v s) : TU v' s' := by
  refine ⟨fun j hj => ?_, fun j hj => ?_⟩
  · rw [hs] at hj
    rw [h16 j (by omega)]
    exact h.1 j hj
  · rw [hs] at hj
    rw [h4 j (by omega)]
    exact h.2 j hj
theorem cg_pic {v v' : Nat → Nat → Int32} (h24 : ∀ j, j < 6 → v' 24 j = v 24 j) (h29 : ∀ j, j < 96 → v' 29 j = v 29 j ∧ v' 30 j = v 30 j ∧ v' 31 j = v 31 j) (h32 : ∀ j, j < 3000 → v' 32 j = v 32 j ∧ v' 33 j = v 33 j) (hb : ∀ j, j < 96 → (v 29 j).toInt ≤ 500 ∧ (v 30 j).toInt ≤ 500 ∧ (v 31 j).toInt ≤ 500) (h : CG v) : CG v' := by
  have cl : ∀ (y : Int32) (N : Nat), y.toInt ≤ (N : Int) → y.toNatClampNeg ≤ N := fun y N hy => by show y.toInt.toNat ≤ N; omega
  intro row l h1 h2 h3
  rw [h24 row h1] at h3
  obtain ⟨⟨E, q5⟩, F, q6⟩ := h row l h1 h2 h3
  have hl := h29 (16 * row + l) (by omega)
  have hb1 := hb (16 * row + l) (by omega)
  rw [hl.1, hl.2.1, hl.2.2]
  have y0 := cl (v 30 (16 * row + l)) 500 hb1.2.1
  have y1 := cl (v 31 (16 * row + l)) 500 hb1.2.2
  exact ⟨⟨E, q5.keep2 (fun j _ hz => (h32 j (by omega)).1) (fun j _ hz => (h32 j (by omega)).2)⟩, F, q6.keep2 (fun j _ hz => (h32 j (by omega)).1) (fun j _ hz => (h32 j (by omega)).2)⟩
theorem im_rng {K : KE} {G : Nat → Option Nat} {H : Heap} {b : Nat} (hT : TY K G H) (gb : G b = some 112) : (∀ j, j < 10 → (0 ≤ (avw K H b 4 j).toInt ∧ (avw K H b 4 j).toInt ≤ 16) ∧ (0 ≤ (avw K H b 10 j).toInt ∧ (avw K H b 10 j).toInt ≤ 200) ∧ 0 ≤ (avw K H b 50 j).toInt ∧ (avw K H b 50 j).toInt ≤ 12) ∧ (∀ j, j < 20 → 0 ≤ (avw K H b 16 j).toInt ∧ (avw K H b 16 j).toInt ≤ 9999) ∧ (∀ j, j < 6 → 0 ≤ (avw K H b 24 j).toInt ∧ (avw K H b 24 j).toInt ≤ 16) ∧
    ∀ j, j < 96 → (-1 ≤ (avw K H b 27 j).toInt ∧ (avw K H b 27 j).toInt ≤ 15) ∧ (0 ≤ (avw K H b 29 j).toInt ∧ (avw K H b 29 j).toInt ≤ 500) ∧ (0 ≤ (avw K H b 30 j).toInt ∧ (avw K H b 30 j).toInt ≤ 500) ∧ 0 ≤ (avw K H b 31 j).toInt ∧ (avw K H b 31 j).toInt ≤ 500 := by
  obtain ⟨-, -, -, -, -, g4⟩ := hT.fref (k := 4) gb rgM rfl
  obtain ⟨-, -, -, -, -, g10⟩ := hT.fref (k := 10) gb rgM rfl
  obtain ⟨-, -, -, -, -, g50⟩ := hT.fref (k := 50) gb rgM rfl
  obtain ⟨-, -, -, -, -, g16⟩ := hT.fref (k := 16) gb rgM rfl
  obtain ⟨-, -, -, -, -, g24⟩ := hT.fref (k := 24) gb rgM rfl
  obtain ⟨-, -, -, -, -, g27⟩ := hT.fref (k := 27) gb rgM rfl
  obtain ⟨-, -, -, -, -, g29⟩ := hT.fref (k := 29) gb rgM rfl
  obtain ⟨-, -, -, -, -, g30⟩ := hT.fref (k := 30) gb rgM rfl
  obtain ⟨-, -, -, -, -, g31⟩ := hT.fref (k := 31) gb rgM rfl
  refine ⟨fun j hj => ?_, fun j hj => ?_, fun j hj => ?_, fun j hj => ?_⟩
  · obtain ⟨-, -, -, -, -, -, a1⟩ := hT.aint g4 rg_113 hj
    obtain ⟨-, -, -, -, -, -, a2⟩ := hT.aint g10 rg_119 hj
    obtain ⟨-, -, -, -, -, -, a3⟩ := hT.aint g50 rg_146 hj
    exact ⟨a1, a2, a3⟩
  · obtain ⟨-, -, -, -, -, -, a1⟩ := hT.aint g16 rg_125 hj
    exact a1
  · obtain ⟨-, -, -, -, -, -, a1⟩ := hT.aint (j := j) g24 rg_128 (by omega)
    exact a1
  · obtain ⟨-, -, -, -, -, -, a1⟩ := hT.aint (j := j) g27 rg_131 (by omega)
    obtain ⟨-, -, -, -, -, -, a2⟩ := hT.aint (j := j) g29 rg_133 (by omega)
    obtain ⟨-, -, -, -, -, -, a3⟩ := hT.aint (j := j) g30 rg_134 (by omega)
    obtain ⟨-, -, -, -, -, -, a4⟩ := hT.aint (j := j) g31 rg_135 (by omega)
    exact ⟨a1, a2, a3, a4⟩
/-- what an image and the state have in common -/
def PIC (v : Nat → Nat → Int32) (w : Nat → Int32) : Prop := EQ (v 4) w 6 6 10 ∧ EQ (v 10) w 7 6 10 ∧ EQ (v 50) w 11 6 10 ∧ EQ (v 16) w 736 3 20 ∧ EQ (v 24) w 8908 1 6 ∧ EQ (v 27) w 8916 7 96 ∧ EQ (v 29) w 8918 7 96 ∧ EQ (v 30) w 8919 7 96 ∧ EQ (v 31) w 8920 7 96 ∧ EQ (v 32) w 9586 2 3000 ∧ EQ (v 33) w 9587 2 3000
theorem PIC.tu {v : Nat → Nat → Int32} {w : Nat → Int32} (h : PIC v w) : (∀ j, j < 10 → v 4 j = vI w 4 j) ∧ (∀ j, j < 20 → v 16 j = vI w 16 j) ∧ (∀ j, j < 6 → v 24 j = vI w 24 j) ∧ (∀ j, j < 96 → v 29 j = vI w 29 j ∧ v 30 j = vI w 30 j ∧ v 31 j = vI w 31 j) ∧ ∀ j, j < 3000 → v 32 j = vI w 32 j ∧ v 33 j = vI w 33 j := by
  obtain ⟨h4, -, -, h16, h24, -, h29, h30, h31, h32, h33⟩ := h
  exact ⟨fun j hj => h4 j hj, fun j hj => h16 j hj, fun j hj => (h24 j hj).trans (by show w (8908 + 1 * j) = w (8908 + j); rw [Nat.one_mul]), fun j hj => ⟨h29 j hj, h30 j hj, h31 j hj⟩, fun j hj => ⟨h32 j hj, h33 j hj⟩⟩
theorem im_fin {K : KE} {G : Nat → Option Nat} {H0 H : Heap} {b : Nat} {tk : Int32} (hT : TY K G H) (gb : G b = some 112) (cg : CG (avw K H0 b)) (tu : TU (avw K H0 b) (svw K H0 b)) (im : IM (avw K H0 b)) (pic : PIC (avw K H b) (avw K H b 73))
    (p0 : svw K H b 1 = avw K H b 73 0) (p1 : svw K H b 2 = avw K H b 73 1) (p3 : svw K H b 59 = avw K H b 73 3) (p4 : svw K H b 62 = avw K H b 73 4) (p5 : svw K H b 65 = avw K H b 73 5)
    (us : tk.toInt ≠ 0 → svw K H b 1 = svw K H0 b 1) (ua : ∀ k ∈ ([4, 16, 24, 29, 30, 31, 32, 33] : List Nat), tk.toInt ≠ 0 → ∀ j, avw K H b k j = avw K H0 b k j) (ui : tk.toInt = 0 → ∀ j, avw K H b 73 j = avw K H0 b 73 j) : CG (avw K H b) ∧ TU (avw K H b) (svw K H b) ∧ IM (avw K H b) := by
  have R := im_rng hT gb
  obtain ⟨-, -, -, -, -, b0⟩ := hT.fint (k := 1) gb rgM rfl
  obtain ⟨-, -, -, -, -, b1⟩ := hT.fint (k := 2) gb rgM rfl
  obtain ⟨-, -, -, -, -, b3⟩ := hT.fint (k := 59) gb rgM rfl
  obtain ⟨-, -, -, -, -, b4⟩ := hT.fint (k := 62) gb rgM rfl
  obtain ⟨-, -, -, -, -, b5⟩ := hT.fint (k := 65) gb rgM rfl
  obtain ⟨P4, P16, P24, P29, P32⟩ := pic.tu
  by_cases c : tk.toInt = 0
  · have eI : avw K H b 73 = avw K H0 b 73 := funext (ui c)
    have im1 : IMw (avw K H b 73) := by rw [eI]; exact im
    refine ⟨?_, ?_, im1⟩
    · refine cg_pic P24 P29 P32 (fun j hj => ?_) im1.2.2.2.2.2.2
      have r := (R.2.2.2 j hj).2
      rw [← (P29 j hj).1, ← (P29 j hj).2.1, ← (P29 j hj).2.2]
      exact ⟨r.1.2, r.2.1.2, r.2.2.2⟩
    · refine tu_pic P4 P16 p0 ?_ im1.2.2.2.2.2.1
      show (avw K H b 73 0).toInt ≤ 10
      rw [← p0]
      exact b0.2
  · have cg1 : CG (avw K H b) := CG.congr (fun k hk j => ua k (List.all_eq_true.mp (show ([24, 29, 30, 31, 32, 33] : List Nat).all (fun k => decide (k ∈ ([4, 16, 24, 29, 30, 31, 32, 33] : List Nat))) = true by decide) k hk |> of_decide_eq_true) c j) cg
    have tu1 : TU (avw K H b) (svw K H b) := TU.congr (fun k hk j => ua k (List.all_eq_true.mp (show ([16, 4] : List Nat).all (fun k => decide (k ∈ ([4, 16, 24, 29, 30, 31, 32, 33] : List Nat))) = true by decide) k hk |> of_decide_eq_true) c j) (fun k hk => by rw [List.mem_singleton.mp hk]; exact us c) tu
    refine ⟨cg1, tu1, ?_⟩
    obtain ⟨h4, h10, h50, h16, h24, h27, h29, h30, h31, h32, h33⟩ := pic
    refine ⟨⟨?_, ?_, ?_, ?_, ?_⟩, fun i hi => ⟨?_, ?_, ?_⟩, fun i hi => ?_, fun i hi => ?_, fun i hi => ⟨?_, ?_, ?_, ?_⟩, ?_, ?_⟩
    · show 0 ≤ (avw K H b 73 0).toInt ∧ (avw K H b 73 0).toInt ≤ 10; rw [← p0]; exact b0
    · show 0 ≤ (avw K H b 73 1).toInt ∧ (avw K H b 73 1).toInt ≤ 1; rw [← p1]; exact b1
    · show 0 ≤ (avw K H b 73 3).toInt ∧ (avw K H b 73 3).toInt ≤ 20; rw [← p3]; exact b3
    · show 0 ≤ (avw K H b 73 4).toInt ∧ (avw K H b 73 4).toInt ≤ 8; rw [← p4]; exact b4
    · show 0 ≤ (avw K H b 73 5).toInt ∧ (avw K H b 73 5).toInt ≤ 8; rw [← p5]; exact b5
    · show 0 ≤ (avw K H b 73 (6 + 6 * i)).toInt ∧ (avw K H b 73 (6 + 6 * i)).toInt ≤ 16; rw [← h4 i hi]; exact (R.1 i hi).1
    · show 0 ≤ (avw K H b 73 (7 + 6 * i)).toInt ∧ (avw K H b 73 (7 + 6 * i)).toInt ≤ 200; rw [← h10 i hi]; exact (R.1 i hi).2.1
    · show 0 ≤ (avw K H b 73 (11 + 6 * i)).toInt ∧ (avw K H b 73 (11 + 6 * i)).toInt ≤ 12; rw [← h50 i hi]; exact (R.1 i hi).2.2
    · show 0 ≤ (avw K H b 73 (736 + 3 * i)).toInt ∧ (avw K H b 73 (736 + 3 * i)).toInt ≤ 9999; rw [← h16 i hi]; exact R.2.1 i hi
    · have e := h24 i hi
      rw [Nat.one_mul] at e
      show 0 ≤ (avw K H b 73 (8908 + i)).toInt ∧ (avw K H b 73 (8908 + i)).toInt ≤ 16; rw [← e]; exact R.2.2.1 i hi
    · show (-1) ≤ (avw K H b 73 (8916 + 7 * i)).toInt ∧ (avw K H b 73 (8916 + 7 * i)).toInt ≤ 15; rw [← h27 i hi]; exact (R.2.2.2 i hi).1
    · show 0 ≤ (avw K H b 73 (8918 + 7 * i)).toInt ∧ (avw K H b 73 (8918 + 7 * i)).toInt ≤ 500; rw [← h29 i hi]; exact (R.2.2.2 i hi).2.1
    · show 0 ≤ (avw K H b 73 (8919 + 7 * i)).toInt ∧ (avw K H b 73 (8919 + 7 * i)).toInt ≤ 500; rw [← h30 i hi]; exact (R.2.2.2 i hi).2.2.1
    · show 0 ≤ (avw K H b 73 (8920 + 7 * i)).toInt ∧ (avw K H b 73 (8920 + 7 * i)).toInt ≤ 500; rw [← h31 i hi]; exact (R.2.2.2 i hi).2.2.2
    · exact tu_pic (fun j hj => (P4 j hj).symm) (fun j hj => (P16 j hj).symm) p0.symm b0.2 tu1
    · exact cg_pic (fun j hj => (P24 j hj).symm) (fun j hj => ⟨(P29 j hj).1.symm, (P29 j hj).2.1.symm, (P29 j hj).2.2.symm⟩) (fun j hj => ⟨(P32 j hj).1.symm, (P32 j hj).2.symm⟩) (fun j hj => ⟨(R.2.2.2 j hj).2.1.2, (R.2.2.2 j hj).2.2.1.2, (R.2.2.2 j hj).2.2.2.2⟩) cg1
set_option maxHeartbeats 4000000 in
set_option maxRecDepth 100000 in
theorem a_X10_kept (l : Launch) (K : KE) (G : Nat → Option Nat) (H : Heap) {a0 : Nat} (x1 : Int32) {iq : Nat} (ia : Int32) (tk : Int32) (hT : TY K G H) (ga0 : G a0 = some 112) (giq : G iq = some 162) (eiq : iq = fR H a0 (K.1.2 10 73)) (eia : ia = fI H a0 (K.1.2 10 72)) (etk : tk = fI H a0 (K.1.2 10 71)) (hg_WD : WD (avw K H a0)) (hp0 : ia.toInt ≤ 16399) : MX l K yX10_kept cX10_kept 2 (some .int) 0 0 0 0 [.ref a0, .int x1] H (AE G [112, 162] H.size) (fun v H1 => ∃ (r : Int32) (t0 : Int32), v = some (.int r) ∧ t0 = fI H1 a0 (K.1.2 10 72) ∧ (t0.toInt = ia.toInt + 1) ∧ iq = fR H1 a0 (K.1.2 10 73) ∧ (WD (avw K H1 a0)) ∧ MF K H H1 a0 [72] ∧ (r = fI H1 iq ia.toNatClampNeg) ∧ (tk.toInt ≠ 0 → r = x1) ∧ (∀ j : Nat, j ≠ ia.toNatClampNeg → fI H1 iq j = fI H iq j) ∧ (tk.toInt = 0 → ∀ j : Nat, fI H1 iq j = fI H iq j) ∧ TY K G H1) := by
  refine MX.of (by decide +kernel) (Nat.le_of_ble_eq_true rfl) ?_
  intro p e s m below meth c ls Q C hH hl hQ
  subst hH
  have C : CX p K s m _ meth c RX10 cX10_kept 2 (some .int) "kept" := C
  obtain ⟨hx, hb, hml, hown, hts, hKT, hr, hlocks, hnm⟩ := id C
  have hl : lv_has ls 2 [(0, .ref a0), (1, .int x1)] := hl
  have hS : va_S (AE G [112, 162] s.heap.size) s.heap s.heap [] := va_S.rf
  have n_0 : (0 : Int32).toInt = 0 := rfl
  have n_1 : (1 : Int32).toInt = 1 := rfl
  have bia := ty_fi (x := ia) (k := 72) eia hT ga0 rg_112 rfl
  have btk := ty_fi (x := tk) (k := 71) etk hT ga0 rg_112 rfl
  have hap : ∀ x y, x < 74 → y < 74 → x ≠ y → K.1.2 10 x ≠ K.1.2 10 y := x_apart hKT hts inX10 tyX10 tyX10_ok nmX10 rfl
  have mf0 : MF K s.heap s.heap a0 [72] := fun _ _ _ => rfl
  replace eiq := EQN.mk eiq
  refine lv_aload_n hx hb dX10_kept_0 rfl (lv_at hl 0 rfl) ?_
  refine lv_aload_n hx hb dX10_kept_1 rfl (lv_at hl 0 rfl) ?_
  refine x_gi C hT (ci := 10) (k := 72) rfl inX10 (by decide) wF_X10_467 ga0 rg_112 rfl dX10_kept_2 (fun x205 ex205 bx205 => ?_)
  have ux205 : ia = x205 := (eia).trans ex205.symm
  subst ux205
  refine lv_iconst (v := 1) hx hb dX10_kept_5 (by decide) ?_
  refine lv_iadd hx hb dX10_kept_6 ?_
  refine lv_topi (fun x206 ex206 => ?_)
  have tx206 := i_add ex206 (by omega)
  refine x_put C hT hS (ci := 10) (k := 72) (v := .int x206) (ty0 := tyX10) rfl inX10 tyX10_ok nmX10 (by decide) rfl wF_X10_467 ga0 rg_112 rfl rfl (okI (by have := i_rng x206; omega) (by have := i_rng x206; omega)) rfl rfl (AE_in ga0 (by decide)) dX10_kept_7 (fun H207 locsH207 hTH207 hSH207 wH207 => ?_)
  have mf208 : MF K s.heap H207 a0 [72] := MF.fld hap wH207 (by decide) (by decide) mf0
  have g209 : WD (avw K H207 a0) := WD.congr (fun k hk j => av_fld hT ga0 hap wH207 (by decide) (WD_ok 112 (by decide) k hk) (WD_ne 72 (by decide) k hk)) hg_WD
  have m210 := eiq.trans (Wr.neR wH207 (Or.inr (x_apart hKT hts inX10 tyX10 tyX10_ok nmX10 rfl 73 72 (by decide) (by decide) (by decide)))).symm
  have m212 := etk.trans (Wr.neI wH207 (Or.inr (x_apart hKT hts inX10 tyX10 tyX10_ok nmX10 rfl 71 72 (by decide) (by decide) (by decide)))).symm
  have m213 := Wr.I wH207
  have m213 := m213.symm
  refine lv_aload_n hx hb dX10_kept_10 rfl (lv_at hl 0 rfl) ?_
  refine x_gi C hTH207 (ci := 10) (k := 71) rfl inX10 (by decide) wF_X10_470 ga0 rg_112 rfl dX10_kept_11 (fun x214 ex214 bx214 => ?_)
  have ux214 : tk = x214 := (m212).trans ex214.symm
  subst ux214
  refine lv_if_ne (tgt := 29) hx hb dX10_kept_14 (by decide) (fun c215 => ?_) (fun c215 => ?_)
  · have k216 := i_ne c215
    refine lv_aload_n hx hb dX10_kept_29 rfl (lv_at hl 0 rfl) ?_
    refine x_gr C hTH207 (ci := 10) (k := 73) rfl inX10 (by decide) wF_X10_164 ga0 rg_112 rfl dX10_kept_30 (fun q217 eq217 gq217 => ?_)
    have uq217 : iq = q217 := (m210).trans eq217.symm
    subst uq217
    clear eq217
    refine lv_aload_n hx hb dX10_kept_33 rfl (lv_at hl 0 rfl) ?_
    refine x_gi C hTH207 (ci := 10) (k := 72) rfl inX10 (by decide) wF_X10_467 ga0 rg_112 rfl dX10_kept_34 (fun x218 ex218 bx218 => ?_)
    have ux218 : x206 = x218 := (m213).trans ex218.symm
    subst ux218
    refine lv_iconst (v := 1) hx hb dX10_kept_37 (by decide) ?_
    refine lv_isub hx hb dX10_kept_38 ?_
    refine lv_topi (fun x219 ex219 => ?_)
    have tx219 := i_sub ex219 (by omega)
    refine lv_iload_n hx hb dX10_kept_39 rfl (lv_at hl 1 rfl) ?_
    refine x_iast C hTH207 hSH207 giq rg_162 (by omega) (by show _ < ((16400 : Nat) : Int); omega) ⟨by have := i_rng x1; omega, by have := i_rng x1; omega⟩ (AE_in giq (by decide)) dX10_kept_40 (fun H220 locsH220 hTH220 hSH220 wH220 => ?_)
    have mf221 : MF K s.heap H220 a0 [72] := MF.arr wH220 (G_ne ga0 giq (by decide)) mf208
    have g222 : WD (avw K H220 a0) := WD.congr (fun k hk j => av_arr hTH207 ga0 wH220 giq (by decide) (WD_ok 162 (by decide) k hk)) g209
    have m223 := m210.trans (Wr.neR wH220 (Or.inl (G_ne ga0 giq (by decide)))).symm
    have m224 := m212.trans (Wr.neI wH220 (Or.inl (G_ne ga0 giq (by decide)))).symm
    have m225 := m213.trans (Wr.neI wH220 (Or.inl (G_ne ga0 giq (by decide)))).symm
    have m226 := Wr.I wH220
    have m226 := m226.symm
    refine lv_iload_n hx hb dX10_kept_41 rfl (lv_at hl 1 rfl) ?_
    have ck_x219 := i_cl (x := x219) (by omega)
    have ck_ia := i_cl (x := ia) (by omega)
    exact x_iret C hQ dX10_kept_42 hSH220 (by decide) (by decide) (⟨x1, x206, rfl, m225, by omega, m223, g222, mf221, (by rw [show ia.toNatClampNeg = x219.toNatClampNeg by omega]; exact m226), (fun _ => rfl), (fun j hj => (Wr.neI wH220 (Or.inr (by omega))).trans (Wr.neI wH207 (Or.inl (G_ne giq ga0 (by decide))))), (fun h => absurd h (by omega)), hTH220⟩)
  · have k216 := i_eq c215
    refine lv_aload_n hx hb dX10_kept_17 rfl (lv_at hl 0 rfl) ?_
    refine x_gr C hTH207 (ci := 10) (k := 73) rfl inX10 (by decide) wF_X10_164 ga0 rg_112 rfl dX10_kept_18 (fun q227 eq227 gq227 => ?_)
    have uq227 : iq = q227 := (m210).trans eq227.symm
    subst uq227
    clear eq227
    refine lv_aload_n hx hb dX10_kept_21 rfl (lv_at hl 0 rfl) ?_
    refine x_gi C hTH207 (ci := 10) (k := 72) rfl inX10 (by decide) wF_X10_467 ga0 rg_112 rfl dX10_kept_22 (fun x228 ex228 bx228 => ?_)
    have ux228 : x206 = x228 := (m213).trans ex228.symm
    subst ux228
    refine lv_iconst (v := 1) hx hb dX10_kept_25 (by decide) ?_
    refine lv_isub hx hb dX10_kept_26 ?_
    refine lv_topi (fun x229 ex229 => ?_)
    have tx229 := i_sub ex229 (by omega)
    refine x_ai C hTH207 giq rg_162 ⟨by omega, by show _ < ((16400 : Nat) : Int); omega⟩ dX10_kept_27 (fun x230 ex230 bx230 => ?_)
    have ck_x229 := i_cl (x := x229) (by omega)
    have ck_ia := i_cl (x := ia) (by omega)
    exact x_iret C hQ dX10_kept_28 hSH207 (by decide) (by decide) (⟨x230, x206, rfl, m213, by omega, m210, g209, mf208, (by rw [show ia.toNatClampNeg = x229.toNatClampNeg by omega]; exact ex230), (fun h => absurd (by omega) h), (fun j _ => (Wr.neI wH207 (Or.inl (G_ne giq ga0 (by decide))))), (fun _ j => (Wr.neI wH207 (Or.inl (G_ne giq ga0 (by decide))))), hTH207⟩)

set_option maxHeartbeats 4000000 in
set_option maxRecDepth 100000 in
theorem a_X10_keepsBars (l : Launch) (K : KE) (G : Nat → Option Nat) (H : Heap) {a0 : Nat} {iq : Nat} {q4 : Nat} {q10 : Nat} {q16 : Nat} {q50 : Nat} (ia : Int32) (tk : Int32) (hT : TY K G H) (ga0 : G a0 = some 112) (giq : G iq = some 162) (eiq : iq = fR H a0 (K.1.2 10 73)) (gq4 : G q4 = some 113) (eq4 : q4 = fR H a0 (K.1.2 10 4)) (gq10 : G q10 = some 119) (eq10 : q10 = fR H a0 (K.1.2 10 10)) (gq16 : G q16 = some 125) (eq16 : q16 = fR H a0 (K.1.2 10 16)) (gq50 : G q50 = some 146) (eq50 : q50 = fR H a0 (K.1.2 10 50)) (eia : ia = fI H a0 (K.1.2 10 72)) (etk : tk = fI H a0 (K.1.2 10 71)) (hg_WD : WD (avw K H a0)) (hp0 : ia.toInt = 6) (hy0 : tk.toInt = 0 → IMw (fun k => fI H iq k)) : MX l K yX10_keepsBars cX10_keepsBars 2 none 1 21 0 0 [.ref a0] H (AE G [112, 162, 113, 119, 122, 123, 124, 146, 114, 115, 116, 117, 118, 125, 154, 155, 120, 121] H.size) (fun v H1 => ∃ (t0 : Int32), v = none ∧ t0 = fI H1 a0 (K.1.2 10 72) ∧ (t0.toInt = 4796) ∧ iq = fR H1 a0 (K.1.2 10 73) ∧ q4 = fR H1 a0 (K.1.2 10 4) ∧ q10 = fR H1 a0 (K.1.2 10 10) ∧ q16 = fR H1 a0 (K.1.2 10 16) ∧ q50 = fR H1 a0 (K.1.2 10 50) ∧ (WD (avw K H1 a0)) ∧ MF K H H1 a0 [72] ∧ (UN (tk.toInt = 0) (fun k => fI H1 iq k) (fun k => fI H iq k)) ∧ (FB (fun k => fI H1 iq k) (fun k => fI H iq k) 6) ∧ (EQ (fun k => fI H1 q4 k) (fun k => fI H1 iq k) 6 6 10) ∧ (EQ (fun k => fI H1 q10 k) (fun k => fI H1 iq k) 7 6 10) ∧ (EQ (fun k => fI H1 q50 k) (fun k => fI H1 iq k) 11 6 10) ∧ (EQ (fun k => fI H1 q16 k) (fun k => fI H1 iq k) 736 3 20) ∧ (UN (tk.toInt ≠ 0) (fun k => fI H1 q4 k) (fun k => fI H q4 k)) ∧ (UN (tk.toInt ≠ 0) (fun k => fI H1 q16 k) (fun k => fI H q16 k)) ∧ (UN (tk.toInt ≠ 0) (fun k => fI H1 q50 k) (fun k => fI H q50 k)) ∧ TY K G H1) := by
  refine MX.of (by decide +kernel) (Nat.le_of_ble_eq_true rfl) ?_
  intro p e s m below meth c ls Q C hH hl hQ
  subst hH
  have C : CX p K s m _ meth c RX10 cX10_keepsBars 2 none "keepsBars" := C
  obtain ⟨hx, hb, hml, hown, hts, hKT, hr, hlocks, hnm⟩ := id C
  have hl : lv_has ls 2 [(0, .ref a0)] := hl
  have hS : va_S (AE G [112, 162, 113, 119, 122, 123, 124, 146, 114, 115, 116, 117, 118, 125, 154, 155, 120, 121] s.heap.size) s.heap s.heap [] := va_S.rf
  have n_0 : (0 : Int32).toInt = 0 := rfl
  have n_1 : (1 : Int32).toInt = 1 := rfl
  have n_10 : (10 : Int32).toInt = 10 := rfl
  have n_20 : (20 : Int32).toInt = 20 := rfl
  have n_30 : (30 : Int32).toInt = 30 := rfl
  have n_160 : (160 : Int32).toInt = 160 := rfl
  have n_2000 : (2000 : Int32).toInt = 2000 := rfl
  have bia := ty_fi (x := ia) (k := 72) eia hT ga0 rg_112 rfl
  have btk := ty_fi (x := tk) (k := 71) etk hT ga0 rg_112 rfl
  have hap : ∀ x y, x < 74 → y < 74 → x ≠ y → K.1.2 10 x ≠ K.1.2 10 y := x_apart hKT hts inX10 tyX10 tyX10_ok nmX10 rfl
  have mf0 : MF K s.heap s.heap a0 [72] := fun _ _ _ => rfl
  replace eiq := EQN.mk eiq
  replace eq4 := EQN.mk eq4
  replace eq10 := EQN.mk eq10
  replace eq16 := EQN.mk eq16
  replace eq50 := EQN.mk eq50
  have J283 : ∀ (nf : Nat) (ls16245 : Array Slot) (H16244 : Heap) (locsH16244 : List Loc) (x16247 : Int32) (x16248 : Int32), lv_has ls16245 2 [(0, .ref a0), (1, .int x16247)] → TY K G H16244 → va_S (AE G [112, 162, 113, 119, 122, 123, 124, 146, 114, 115, 116, 117, 118, 125, 154, 155, 120, 121] s.heap.size) s.heap H16244 locsH16244 → (0 ≤ x16247.toInt ∧ x16247.toInt ≤ 2000) → (0 ≤ x16248.toInt ∧ x16248.toInt ≤ 16400) → (x16248 = fI H16244 a0 (K.1.2 10 72)) → (EQN iq (fR H16244 a0 (K.1.2 10 73))) → (EQN q4 (fR H16244 a0 (K.1.2 10 4))) → (EQN q10 (fR H16244 a0 (K.1.2 10 10))) → (EQN q16 (fR H16244 a0 (K.1.2 10 16))) → (EQN q50 (fR H16244 a0 (K.1.2 10 50))) → (tk = fI H16244 a0 (K.1.2 10 71)) → (UN (tk.toInt = 0) (fun k => fI H16244 iq k) (fun k => fI s.heap iq k)) → (FB (fun k => fI H16244 iq k) (fun k => fI s.heap iq k) (6)) → (EQ (fun k => fI H16244 q4 k) (fun k => fI H16244 iq k) (6) (6) (10)) → (EQ (fun k => fI H16244 q10 k) (fun k => fI H16244 iq k) (7) (6) (10)) → (EQ (fun k => fI H16244 q50 k) (fun k => fI H16244 iq k) (11) (6) (10)) → (EQ (fun k => fI H16244 q16 k) (fun k => fI H16244 iq k) (736) (3) (20)) → (UN (tk.toInt ≠ 0) (fun k => fI H16244 q4 k) (fun k => fI s.heap q4 k)) → (UN (tk.toInt ≠ 0) (fun k => fI H16244 q16 k) (fun k => fI s.heap q16 k)) → (UN (tk.toInt ≠ 0) (fun k => fI H16244 q50 k) (fun k => fI s.heap q50 k)) → (MF K s.heap H16244 a0 [72]) → (WD (avw K H16244 a0)) → (2000 - x16247.toInt < (nf : Int)) → (x16248.toInt = 796 + 2 * x16247.toInt) → W p l e ({ frames := 1, cells := 0, slots := 0, locals := 21 } : Room) s m (([.ref a0] : List Value).toArray) below meth c H16244 locsH16244 0 0 Q (F0 m 283 ls16245 []) := by
    intro nf
    induction nf with
    | zero =>
      intro ls16245 H16244 locsH16244 x16247 x16248 hl16246 hTH16244 hSH16244 bx16247 bx16248 ex16248 cy16249_0 cy16249_1 cy16249_2 cy16249_3 cy16249_4 cy16249_5 by16249_ui by16249_fb by16249_e4 by16249_e10 by16249_e50 by16249_e16 by16249_u4 by16249_u16 by16249_u50 mfy16249 gy16249_WD hm283 iv283
      exfalso
      omega
    | succ nf ih283 =>
      intro ls16245 H16244 locsH16244 x16247 x16248 hl16246 hTH16244 hSH16244 bx16247 bx16248 ex16248 cy16249_0 cy16249_1 cy16249_2 cy16249_3 cy16249_4 cy16249_5 by16249_ui by16249_fb by16249_e4 by16249_e10 by16249_e50 by16249_e16 by16249_u4 by16249_u16 by16249_u50 mfy16249 gy16249_WD hm283 iv283
      refine lv_iload_n hx hb dX10_keepsBars_283 rfl (lv_at hl16246 1 rfl) ?_
      refine lv_sipush (v := 2000) hx hb dX10_keepsBars_284 (by decide) ?_
      refine lv_icmp_ge (tgt := 328) hx hb dX10_keepsBars_287 (by decide) (fun c16250 => ?_) (fun c16250 => ?_)
      · have k16251 := i_le c16250
        exact x_vret C hQ dX10_keepsBars_328 hSH16244 (by decide) (by decide) (⟨x16248, rfl, ex16248, by omega, cy16249_0, cy16249_1, cy16249_2, cy16249_3, cy16249_4, gy16249_WD, mfy16249, by16249_ui, by16249_fb, (EQ.cast by16249_e4 (by omega)), (EQ.cast by16249_e10 (by omega)), (EQ.cast by16249_e50 (by omega)), (EQ.cast by16249_e16 (by omega)), by16249_u4, by16249_u16, by16249_u50, hTH16244⟩)
      · have k16251 := i_nle c16250
        refine lv_aload_n hx hb dX10_keepsBars_290 rfl (lv_at hl16246 0 rfl) ?_
        refine x_gr C hTH16244 (ci := 10) (k := 11) rfl inX10 (by decide) wF_X10_35 ga0 rg_112 rfl dX10_keepsBars_291 (fun q16252 eq16252 gq16252 => ?_)
        replace eq16252 := EQN.mk eq16252
        refine lv_iload_n hx hb dX10_keepsBars_294 rfl (lv_at hl16246 1 rfl) ?_
        refine lv_aload_n hx hb dX10_keepsBars_295 rfl (lv_at hl16246 0 rfl) ?_
        refine lv_aload_n hx hb dX10_keepsBars_296 rfl (lv_at hl16246 0 rfl) ?_
        refine x_gr C hTH16244 (ci := 10) (k := 11) rfl inX10 (by decide) wF_X10_35 ga0 rg_112 rfl dX10_keepsBars_297 (fun q16253 eq16253 gq16253 => ?_)
        have uq16253 : q16252 = q16253 := (eq16252).trans eq16253.symm
        subst uq16253
        clear eq16253
        refine lv_iload_n hx hb dX10_keepsBars_300 rfl (lv_at hl16246 1 rfl) ?_
        refine x_ai C hTH16244 gq16252 rg_120 ⟨by omega, by show _ < ((2000 : Nat) : Int); omega⟩ dX10_keepsBars_301 (fun x16254 ex16254 bx16254 => ?_)
        refine x_V (As := [.int x16254]) (rest := [.int x16247, .ref q16252]) C (a_X10_kept l K G H16244 (x16254) (x16248) (tk) hTH16244 ga0 giq cy16249_0 ex16248 cy16249_5 gy16249_WD (by and_intros <;> first | assumption | omega)) yo_X10_kept wM_X10_473 ⟨⟨by decide, by decide⟩, by decide, by decide⟩ (x_rv C hTH16244 (ci := 10) rfl ga0 rg_112) rfl hl16246.1 rfl (Nat.le_of_ble_eq_true rfl) dX10_keepsBars_302 hSH16244 (AE_sub (fun _ _ => rfl) (by decide) hSH16244.1) (fun vH16255 H16255 locsH16255 pH16255 zH16255 kH16255 hSH16255 => ?_)
        obtain ⟨x16256, x16257, hvH16255, ex16257, hrH16255, m16258, g16259, mf16260, m16261, m16262, m16263, m16264, hTH16255⟩ := pH16255
        subst hvH16255
        clear zH16255
        replace m16258 := EQN.mk m16258
        have b16265 : UN (tk.toInt ≠ 0) (fun k => fI H16255 q4 k) (fun k => fI s.heap q4 k) := UN.congr (fun j => fI_kept (x_lt hTH16244 kH16255 gq4 (by decide))) by16249_u4
        have b16266 : UN (tk.toInt ≠ 0) (fun k => fI H16255 q16 k) (fun k => fI s.heap q16 k) := UN.congr (fun j => fI_kept (x_lt hTH16244 kH16255 gq16 (by decide))) by16249_u16
        have b16267 : UN (tk.toInt ≠ 0) (fun k => fI H16255 q50 k) (fun k => fI s.heap q50 k) := UN.congr (fun j => fI_kept (x_lt hTH16244 kH16255 gq50 (by decide))) by16249_u50
        have m16268 := (ex16254).trans (fI_kept (x_lt hTH16244 kH16255 gq16252 (by decide))).symm
        have m16269 := (cy16249_0).trans (MF.r mf16260 (k := 73) (by decide) (by decide)).symm
        have m16270 := (cy16249_1).trans (MF.r mf16260 (k := 4) (by decide) (by decide)).symm
        have m16271 := (cy16249_2).trans (MF.r mf16260 (k := 10) (by decide) (by decide)).symm
        have m16272 := (cy16249_3).trans (MF.r mf16260 (k := 16) (by decide) (by decide)).symm
        have m16273 := (cy16249_4).trans (MF.r mf16260 (k := 50) (by decide) (by decide)).symm
        have m16274 := (cy16249_5).trans (MF.i mf16260 (k := 71) (by decide) (by decide)).symm
        have m16275 := (eq16252).trans (MF.r mf16260 (k := 11) (by decide) (by decide)).symm
        have mf16276 : MF K s.heap H16255 a0 [72] := MF.trans mfy16249 mf16260 (by decide)
        have bx16257 := ty_fi (x := x16257) (k := 72) ex16257 hTH16255 ga0 rg_112 rfl
        have ce_x16248 := i_cl (x := x16248) (by omega)
        have b16277 : UN (tk.toInt = 0) (fun k => fI H16255 iq k) (fun k => fI s.heap iq k) := UN.tr m16264 by16249_ui
        have b16278 : FB (fun k => fI H16255 iq k) (fun k => fI s.heap iq k) (6) := FB.wr by16249_fb m16263 (fun j hj => by omega)
        have b16279 : EQ (fun k => fI H16255 q4 k) (fun k => fI H16255 iq k) (6) (6) (10) := EQ.wr (EQ.congr (w1 := fun k => fI H16244 iq k) (fun j => fI_kept (x_lt hTH16244 kH16255 gq4 (by decide))) (fun _ => rfl) by16249_e4) m16263 (fun j hj => by omega)
        have b16280 : EQ (fun k => fI H16255 q10 k) (fun k => fI H16255 iq k) (7) (6) (10) := EQ.wr (EQ.congr (w1 := fun k => fI H16244 iq k) (fun j => fI_kept (x_lt hTH16244 kH16255 gq10 (by decide))) (fun _ => rfl) by16249_e10) m16263 (fun j hj => by omega)
        have b16281 : EQ (fun k => fI H16255 q50 k) (fun k => fI H16255 iq k) (11) (6) (10) := EQ.wr (EQ.congr (w1 := fun k => fI H16244 iq k) (fun j => fI_kept (x_lt hTH16244 kH16255 gq50 (by decide))) (fun _ => rfl) by16249_e50) m16263 (fun j hj => by omega)
        have b16282 : EQ (fun k => fI H16255 q16 k) (fun k => fI H16255 iq k) (736) (3) (20) := EQ.wr (EQ.congr (w1 := fun k => fI H16244 iq k) (fun j => fI_kept (x_lt hTH16244 kH16255 gq16 (by decide))) (fun _ => rfl) by16249_e16) m16263 (fun j hj => by omega)
        clear by16249_e10 by16249_e16 by16249_e4 by16249_e50 by16249_fb by16249_u16 by16249_u4 by16249_u50 by16249_ui cy16249_0 cy16249_1 cy16249_2 cy16249_3 cy16249_4 cy16249_5 eq16252 ex16248 ex16254
        clear m16263 m16264
        refine W.eq (g2 := F0 m 305 ls16245 [.int x16256, .int x16247, .ref q16252]) rfl ?_
        refine x_iast C hTH16255 hSH16255 gq16252 rg_120 (by omega) (by show _ < ((2000 : Nat) : Int); omega) ⟨by have := i_rng x16256; omega, by have := i_rng x16256; omega⟩ (AE_in gq16252 (by decide)) dX10_keepsBars_305 (fun H16283 locsH16283 hTH16283 hSH16283 wH16283 => ?_)
        have mf16284 : MF K s.heap H16283 a0 [72] := MF.arr wH16283 (G_ne ga0 gq16252 (by decide)) mf16276
        have g16285 : WD (avw K H16283 a0) := WD.congr (fun k hk j => av_arr hTH16255 ga0 wH16283 gq16252 (by decide) (WD_ok 120 (by decide) k hk)) g16259
        have b16286 : UN (tk.toInt ≠ 0) (fun k => fI H16283 q4 k) (fun k => fI s.heap q4 k) := UN.congr (fun j => Wr.neI wH16283 (Or.inl (G_ne gq4 gq16252 (by decide)))) b16265
        have b16287 : UN (tk.toInt ≠ 0) (fun k => fI H16283 q16 k) (fun k => fI s.heap q16 k) := UN.congr (fun j => Wr.neI wH16283 (Or.inl (G_ne gq16 gq16252 (by decide)))) b16266
        have b16288 : UN (tk.toInt ≠ 0) (fun k => fI H16283 q50 k) (fun k => fI s.heap q50 k) := UN.congr (fun j => Wr.neI wH16283 (Or.inl (G_ne gq50 gq16252 (by decide)))) b16267
        have b16289 : UN (tk.toInt = 0) (fun k => fI H16283 iq k) (fun k => fI s.heap iq k) := UN.congr (fun j => Wr.neI wH16283 (Or.inl (G_ne giq gq16252 (by decide)))) b16277
        have b16290 : FB (fun k => fI H16283 iq k) (fun k => fI s.heap iq k) (6) := FB.congr (fun j => Wr.neI wH16283 (Or.inl (G_ne giq gq16252 (by decide)))) b16278
        have b16291 : EQ (fun k => fI H16283 q4 k) (fun k => fI H16283 iq k) (6) (6) (10) := EQ.congr (fun j => Wr.neI wH16283 (Or.inl (G_ne gq4 gq16252 (by decide)))) (fun j => Wr.neI wH16283 (Or.inl (G_ne giq gq16252 (by decide)))) b16279
        have b16292 : EQ (fun k => fI H16283 q10 k) (fun k => fI H16283 iq k) (7) (6) (10) := EQ.congr (fun j => Wr.neI wH16283 (Or.inl (G_ne gq10 gq16252 (by decide)))) (fun j => Wr.neI wH16283 (Or.inl (G_ne giq gq16252 (by decide)))) b16280
        have b16293 : EQ (fun k => fI H16283 q50 k) (fun k => fI H16283 iq k) (11) (6) (10) := EQ.congr (fun j => Wr.neI wH16283 (Or.inl (G_ne gq50 gq16252 (by decide)))) (fun j => Wr.neI wH16283 (Or.inl (G_ne giq gq16252 (by decide)))) b16281
        have b16294 : EQ (fun k => fI H16283 q16 k) (fun k => fI H16283 iq k) (736) (3) (20) := EQ.congr (fun j => Wr.neI wH16283 (Or.inl (G_ne gq16 gq16252 (by decide)))) (fun j => Wr.neI wH16283 (Or.inl (G_ne giq gq16252 (by decide)))) b16282
        have m16296 := m16258.trans (Wr.neR wH16283 (Or.inl (G_ne ga0 gq16252 (by decide)))).symm
        have m16297 := m16270.trans (Wr.neR wH16283 (Or.inl (G_ne ga0 gq16252 (by decide)))).symm
        have m16298 := m16271.trans (Wr.neR wH16283 (Or.inl (G_ne ga0 gq16252 (by decide)))).symm
        have m16299 := m16272.trans (Wr.neR wH16283 (Or.inl (G_ne ga0 gq16252 (by decide)))).symm
        have m16300 := m16273.trans (Wr.neR wH16283 (Or.inl (G_ne ga0 gq16252 (by decide)))).symm
        have m16301 := m16274.trans (Wr.neI wH16283 (Or.inl (G_ne ga0 gq16252 (by decide)))).symm
        have m16302 := m16275.trans (Wr.neR wH16283 (Or.inl (G_ne ga0 gq16252 (by decide)))).symm
        have m16303 := ex16257.trans (Wr.neI wH16283 (Or.inl (G_ne ga0 gq16252 (by decide)))).symm
        have m16304 := Wr.I wH16283
        have m16304 := m16304.symm
        clear b16265 b16266 b16267 b16277 b16278 b16279 b16280 b16281 b16282 ex16257 g16259 hTH16255 m16258 m16268 m16270 m16271 m16272 m16273 m16274 m16275 mf16276
        refine lv_aload_n hx hb dX10_keepsBars_306 rfl (lv_at hl16246 0 rfl) ?_
        refine x_gr C hTH16283 (ci := 10) (k := 12) rfl inX10 (by decide) wF_X10_38 ga0 rg_112 rfl dX10_keepsBars_307 (fun q16305 eq16305 gq16305 => ?_)
        replace eq16305 := EQN.mk eq16305
        refine lv_iload_n hx hb dX10_keepsBars_310 rfl (lv_at hl16246 1 rfl) ?_
        refine lv_aload_n hx hb dX10_keepsBars_311 rfl (lv_at hl16246 0 rfl) ?_
        refine lv_aload_n hx hb dX10_keepsBars_312 rfl (lv_at hl16246 0 rfl) ?_
        refine x_gr C hTH16283 (ci := 10) (k := 12) rfl inX10 (by decide) wF_X10_38 ga0 rg_112 rfl dX10_keepsBars_313 (fun q16306 eq16306 gq16306 => ?_)
        have uq16306 : q16305 = q16306 := (eq16305).trans eq16306.symm
        subst uq16306
        clear eq16306
        refine lv_iload_n hx hb dX10_keepsBars_316 rfl (lv_at hl16246 1 rfl) ?_
        refine x_ai C hTH16283 gq16305 rg_121 ⟨by omega, by show _ < ((2000 : Nat) : Int); omega⟩ dX10_keepsBars_317 (fun x16307 ex16307 bx16307 => ?_)
        refine x_V (As := [.int x16307]) (rest := [.int x16247, .ref q16305]) C (a_X10_kept l K G H16283 (x16307) (x16257) (tk) hTH16283 ga0 giq m16296 m16303 m16301 g16285 (by and_intros <;> first | assumption | omega)) yo_X10_kept wM_X10_473 ⟨⟨by decide, by decide⟩, by decide, by decide⟩ (x_rv C hTH16283 (ci := 10) rfl ga0 rg_112) rfl hl16246.1 rfl (Nat.le_of_ble_eq_true rfl) dX10_keepsBars_318 hSH16283 (AE_sub (fun _ _ => rfl) (by decide) hSH16283.1) (fun vH16308 H16308 locsH16308 pH16308 zH16308 kH16308 hSH16308 => ?_)
        obtain ⟨x16309, x16310, hvH16308, ex16310, hrH16308, m16311, g16312, mf16313, m16314, m16315, m16316, m16317, hTH16308⟩ := pH16308
        subst hvH16308
        clear zH16308
        replace m16311 := EQN.mk m16311
        have b16318 : UN (tk.toInt ≠ 0) (fun k => fI H16308 q4 k) (fun k => fI s.heap q4 k) := UN.congr (fun j => fI_kept (x_lt hTH16283 kH16308 gq4 (by decide))) b16286
        have b16319 : UN (tk.toInt ≠ 0) (fun k => fI H16308 q16 k) (fun k => fI s.heap q16 k) := UN.congr (fun j => fI_kept (x_lt hTH16283 kH16308 gq16 (by decide))) b16287
        have b16320 : UN (tk.toInt ≠ 0) (fun k => fI H16308 q50 k) (fun k => fI s.heap q50 k) := UN.congr (fun j => fI_kept (x_lt hTH16283 kH16308 gq50 (by decide))) b16288
        have m16321 := (m16304).trans (fI_kept (x_lt hTH16283 kH16308 gq16252 (by decide))).symm
        have m16322 := (ex16307).trans (fI_kept (x_lt hTH16283 kH16308 gq16305 (by decide))).symm
        have m16323 := (m16296).trans (MF.r mf16313 (k := 73) (by decide) (by decide)).symm
        have m16324 := (m16297).trans (MF.r mf16313 (k := 4) (by decide) (by decide)).symm
        have m16325 := (m16298).trans (MF.r mf16313 (k := 10) (by decide) (by decide)).symm
        have m16326 := (m16299).trans (MF.r mf16313 (k := 16) (by decide) (by decide)).symm
        have m16327 := (m16300).trans (MF.r mf16313 (k := 50) (by decide) (by decide)).symm
        have m16328 := (m16301).trans (MF.i mf16313 (k := 71) (by decide) (by decide)).symm
        have m16329 := (m16302).trans (MF.r mf16313 (k := 11) (by decide) (by decide)).symm
        have m16330 := (eq16305).trans (MF.r mf16313 (k := 12) (by decide) (by decide)).symm
        have mf16331 : MF K s.heap H16308 a0 [72] := MF.trans mf16284 mf16313 (by decide)
        have bx16310 := ty_fi (x := x16310) (k := 72) ex16310 hTH16308 ga0 rg_112 rfl
        have ce_x16257 := i_cl (x := x16257) (by omega)
        have b16332 : UN (tk.toInt = 0) (fun k => fI H16308 iq k) (fun k => fI s.heap iq k) := UN.tr m16317 b16289
        have b16333 : FB (fun k => fI H16308 iq k) (fun k => fI s.heap iq k) (6) := FB.wr b16290 m16316 (fun j hj => by omega)
        have b16334 : EQ (fun k => fI H16308 q4 k) (fun k => fI H16308 iq k) (6) (6) (10) := EQ.wr (EQ.congr (w1 := fun k => fI H16283 iq k) (fun j => fI_kept (x_lt hTH16283 kH16308 gq4 (by decide))) (fun _ => rfl) b16291) m16316 (fun j hj => by omega)
        have b16335 : EQ (fun k => fI H16308 q10 k) (fun k => fI H16308 iq k) (7) (6) (10) := EQ.wr (EQ.congr (w1 := fun k => fI H16283 iq k) (fun j => fI_kept (x_lt hTH16283 kH16308 gq10 (by decide))) (fun _ => rfl) b16292) m16316 (fun j hj => by omega)
        have b16336 : EQ (fun k => fI H16308 q50 k) (fun k => fI H16308 iq k) (11) (6) (10) := EQ.wr (EQ.congr (w1 := fun k => fI H16283 iq k) (fun j => fI_kept (x_lt hTH16283 kH16308 gq50 (by decide))) (fun _ => rfl) b16293) m16316 (fun j hj => by omega)
        have b16337 : EQ (fun k => fI H16308 q16 k) (fun k => fI H16308 iq k) (736) (3) (20) := EQ.wr (EQ.congr (w1 := fun k => fI H16283 iq k) (fun j => fI_kept (x_lt hTH16283 kH16308 gq16 (by decide))) (fun _ => rfl) b16294) m16316 (fun j hj => by omega)
        clear b16286 b16287 b16288 b16289 b16290 b16291 b16292 b16293 b16294 eq16305 ex16307 m16296 m16297 m16298 m16299 m16300 m16301 m16302 m16303 m16304
        clear m16316 m16317
        refine W.eq (g2 := F0 m 321 ls16245 [.int x16309, .int x16247, .ref q16305]) rfl ?_
        refine x_iast C hTH16308 hSH16308 gq16305 rg_121 (by omega) (by show _ < ((2000 : Nat) : Int); omega) ⟨by have := i_rng x16309; omega, by have := i_rng x16309; omega⟩ (AE_in gq16305 (by decide)) dX10_keepsBars_321 (fun H16338 locsH16338 hTH16338 hSH16338 wH16338 => ?_)
        have mf16339 : MF K s.heap H16338 a0 [72] := MF.arr wH16338 (G_ne ga0 gq16305 (by decide)) mf16331
        have g16340 : WD (avw K H16338 a0) := WD.congr (fun k hk j => av_arr hTH16308 ga0 wH16338 gq16305 (by decide) (WD_ok 121 (by decide) k hk)) g16312
        have b16341 : UN (tk.toInt ≠ 0) (fun k => fI H16338 q4 k) (fun k => fI s.heap q4 k) := UN.congr (fun j => Wr.neI wH16338 (Or.inl (G_ne gq4 gq16305 (by decide)))) b16318
        have b16342 : UN (tk.toInt ≠ 0) (fun k => fI H16338 q16 k) (fun k => fI s.heap q16 k) := UN.congr (fun j => Wr.neI wH16338 (Or.inl (G_ne gq16 gq16305 (by decide)))) b16319
        have b16343 : UN (tk.toInt ≠ 0) (fun k => fI H16338 q50 k) (fun k => fI s.heap q50 k) := UN.congr (fun j => Wr.neI wH16338 (Or.inl (G_ne gq50 gq16305 (by decide)))) b16320
        have b16344 : UN (tk.toInt = 0) (fun k => fI H16338 iq k) (fun k => fI s.heap iq k) := UN.congr (fun j => Wr.neI wH16338 (Or.inl (G_ne giq gq16305 (by decide)))) b16332
        have b16345 : FB (fun k => fI H16338 iq k) (fun k => fI s.heap iq k) (6) := FB.congr (fun j => Wr.neI wH16338 (Or.inl (G_ne giq gq16305 (by decide)))) b16333
        have b16346 : EQ (fun k => fI H16338 q4 k) (fun k => fI H16338 iq k) (6) (6) (10) := EQ.congr (fun j => Wr.neI wH16338 (Or.inl (G_ne gq4 gq16305 (by decide)))) (fun j => Wr.neI wH16338 (Or.inl (G_ne giq gq16305 (by decide)))) b16334
        have b16347 : EQ (fun k => fI H16338 q10 k) (fun k => fI H16338 iq k) (7) (6) (10) := EQ.congr (fun j => Wr.neI wH16338 (Or.inl (G_ne gq10 gq16305 (by decide)))) (fun j => Wr.neI wH16338 (Or.inl (G_ne giq gq16305 (by decide)))) b16335
        have b16348 : EQ (fun k => fI H16338 q50 k) (fun k => fI H16338 iq k) (11) (6) (10) := EQ.congr (fun j => Wr.neI wH16338 (Or.inl (G_ne gq50 gq16305 (by decide)))) (fun j => Wr.neI wH16338 (Or.inl (G_ne giq gq16305 (by decide)))) b16336
        have b16349 : EQ (fun k => fI H16338 q16 k) (fun k => fI H16338 iq k) (736) (3) (20) := EQ.congr (fun j => Wr.neI wH16338 (Or.inl (G_ne gq16 gq16305 (by decide)))) (fun j => Wr.neI wH16338 (Or.inl (G_ne giq gq16305 (by decide)))) b16337
        have m16350 := m16321.trans (Wr.neI wH16338 (Or.inl (G_ne gq16252 gq16305 (by decide)))).symm
        have m16352 := m16311.trans (Wr.neR wH16338 (Or.inl (G_ne ga0 gq16305 (by decide)))).symm
        have m16353 := m16324.trans (Wr.neR wH16338 (Or.inl (G_ne ga0 gq16305 (by decide)))).symm
        have m16354 := m16325.trans (Wr.neR wH16338 (Or.inl (G_ne ga0 gq16305 (by decide)))).symm
        have m16355 := m16326.trans (Wr.neR wH16338 (Or.inl (G_ne ga0 gq16305 (by decide)))).symm
        have m16356 := m16327.trans (Wr.neR wH16338 (Or.inl (G_ne ga0 gq16305 (by decide)))).symm
        have m16357 := m16328.trans (Wr.neI wH16338 (Or.inl (G_ne ga0 gq16305 (by decide)))).symm
        have m16358 := m16329.trans (Wr.neR wH16338 (Or.inl (G_ne ga0 gq16305 (by decide)))).symm
        have m16359 := m16330.trans (Wr.neR wH16338 (Or.inl (G_ne ga0 gq16305 (by decide)))).symm
        have m16360 := ex16310.trans (Wr.neI wH16338 (Or.inl (G_ne ga0 gq16305 (by decide)))).symm
        have m16361 := Wr.I wH16338
        have m16361 := m16361.symm
        clear b16318 b16319 b16320 b16332 b16333 b16334 b16335 b16336 b16337 ex16310 g16312 hTH16308 m16311 m16321 m16322 m16324 m16325 m16326 m16327 m16328 m16329 m16330 mf16331
        obtain ⟨x16362, ex16362⟩ : ∃ y : Int32, y = x16247 + 1 := ⟨_, rfl⟩
        have tx16362 := i_add ex16362 (by omega)
        refine lv_iinc (v := x16362) (lv' := [(1, .int x16362), (0, .ref a0)]) hx hb dX10_keepsBars_322 hl16246 (k := 1) rfl (by rw [ex16362]; rfl) (by decide) rfl (fun ls16363 hl16364 => ?_)
        refine lv_goto (tgt := 283) hx hb dX10_keepsBars_325 (by decide) ?_
        exact ih283 ls16363 H16338 locsH16338 (x16362) (x16310) (lv_sub hl16364 [1, 0] rfl) hTH16338 hSH16338 ⟨by have := i_rng x16362; omega, by have := i_rng x16362; omega⟩ ⟨by have := i_rng x16310; omega, by have := i_rng x16310; omega⟩ m16360 m16352 m16353 m16354 m16355 m16356 m16357 b16344 b16345 (EQ.cast b16346 (by omega)) (EQ.cast b16347 (by omega)) (EQ.cast b16348 (by omega)) (EQ.cast b16349 (by omega)) b16341 b16342 b16343 mf16339 g16340 (by omega) (by and_intros <;> first | assumption | omega)
  have J221 : ∀ (nf : Nat) (ls16366 : Array Slot) (H16365 : Heap) (locsH16365 : List Loc) (x16368 : Int32) (x16369 : Int32), lv_has ls16366 2 [(0, .ref a0), (1, .int x16368)] → TY K G H16365 → va_S (AE G [112, 162, 113, 119, 122, 123, 124, 146, 114, 115, 116, 117, 118, 125, 154, 155, 120, 121] s.heap.size) s.heap H16365 locsH16365 → (0 ≤ x16368.toInt ∧ x16368.toInt ≤ 20) → (0 ≤ x16369.toInt ∧ x16369.toInt ≤ 16400) → (x16369 = fI H16365 a0 (K.1.2 10 72)) → (EQN iq (fR H16365 a0 (K.1.2 10 73))) → (EQN q4 (fR H16365 a0 (K.1.2 10 4))) → (EQN q10 (fR H16365 a0 (K.1.2 10 10))) → (EQN q16 (fR H16365 a0 (K.1.2 10 16))) → (EQN q50 (fR H16365 a0 (K.1.2 10 50))) → (tk = fI H16365 a0 (K.1.2 10 71)) → (UN (tk.toInt = 0) (fun k => fI H16365 iq k) (fun k => fI s.heap iq k)) → (FB (fun k => fI H16365 iq k) (fun k => fI s.heap iq k) (6)) → (EQ (fun k => fI H16365 q4 k) (fun k => fI H16365 iq k) (6) (6) (10)) → (EQ (fun k => fI H16365 q10 k) (fun k => fI H16365 iq k) (7) (6) (10)) → (EQ (fun k => fI H16365 q50 k) (fun k => fI H16365 iq k) (11) (6) (10)) → (EQ (fun k => fI H16365 q16 k) (fun k => fI H16365 iq k) (736) (3) (x16368.toNatClampNeg)) → (UN (tk.toInt ≠ 0) (fun k => fI H16365 q4 k) (fun k => fI s.heap q4 k)) → (UN (tk.toInt ≠ 0) (fun k => fI H16365 q16 k) (fun k => fI s.heap q16 k)) → (UN (tk.toInt ≠ 0) (fun k => fI H16365 q50 k) (fun k => fI s.heap q50 k)) → (MF K s.heap H16365 a0 [72]) → (WD (avw K H16365 a0)) → (20 - x16368.toInt < (nf : Int)) → (x16369.toInt = 736 + 3 * x16368.toInt) → W p l e ({ frames := 1, cells := 0, slots := 0, locals := 21 } : Room) s m (([.ref a0] : List Value).toArray) below meth c H16365 locsH16365 0 0 Q (F0 m 221 ls16366 []) := by
    intro nf
    induction nf with
    | zero =>
      intro ls16366 H16365 locsH16365 x16368 x16369 hl16367 hTH16365 hSH16365 bx16368 bx16369 ex16369 cy16370_0 cy16370_1 cy16370_2 cy16370_3 cy16370_4 cy16370_5 by16370_ui by16370_fb by16370_e4 by16370_e10 by16370_e50 by16370_e16 by16370_u4 by16370_u16 by16370_u50 mfy16370 gy16370_WD hm221 iv221
      exfalso
      omega
    | succ nf ih221 =>
      intro ls16366 H16365 locsH16365 x16368 x16369 hl16367 hTH16365 hSH16365 bx16368 bx16369 ex16369 cy16370_0 cy16370_1 cy16370_2 cy16370_3 cy16370_4 cy16370_5 by16370_ui by16370_fb by16370_e4 by16370_e10 by16370_e50 by16370_e16 by16370_u4 by16370_u16 by16370_u50 mfy16370 gy16370_WD hm221 iv221
      refine lv_iload_n hx hb dX10_keepsBars_221 rfl (lv_at hl16367 1 rfl) ?_
      refine lv_bipush (v := 20) hx hb dX10_keepsBars_222 (by decide) ?_
      refine lv_icmp_ge (tgt := 281) hx hb dX10_keepsBars_224 (by decide) (fun c16371 => ?_) (fun c16371 => ?_)
      · have k16372 := i_le c16371
        refine lv_iconst (v := 0) hx hb dX10_keepsBars_281 (by decide) ?_
        refine lv_istore_n (lv' := [(1, .int 0), (0, .ref a0)]) hx hb dX10_keepsBars_282 rfl hl16367 (by decide) rfl (fun ls16373 hl16374 => ?_)
        have cl00 : (0 : Int32).toNatClampNeg = 0 := rfl
        have cl_x16368 := i_cl (x := x16368) (by omega)
        exact J283 ((2000 - (0 : Int32).toInt).toNat + 1) ls16373 H16365 locsH16365 (0) (x16369) (lv_sub hl16374 [1, 0] rfl) hTH16365 hSH16365 (by decide) ⟨by have := i_rng x16369; omega, by have := i_rng x16369; omega⟩ ex16369 cy16370_0 cy16370_1 cy16370_2 cy16370_3 cy16370_4 cy16370_5 by16370_ui by16370_fb (EQ.cast by16370_e4 (by omega)) (EQ.cast by16370_e10 (by omega)) (EQ.cast by16370_e50 (by omega)) (EQ.cast by16370_e16 (by omega)) by16370_u4 by16370_u16 by16370_u50 mfy16370 gy16370_WD (by omega) (by and_intros <;> first | assumption | omega)
      · have k16372 := i_nle c16371
        refine lv_aload_n hx hb dX10_keepsBars_227 rfl (lv_at hl16367 0 rfl) ?_
        refine x_gr C hTH16365 (ci := 10) (k := 16) rfl inX10 (by decide) wF_X10_50 ga0 rg_112 rfl dX10_keepsBars_228 (fun q16375 eq16375 gq16375 => ?_)
        have uq16375 : q16 = q16375 := (cy16370_3).trans eq16375.symm
        subst uq16375
        clear eq16375
        refine lv_iload_n hx hb dX10_keepsBars_231 rfl (lv_at hl16367 1 rfl) ?_
        refine lv_aload_n hx hb dX10_keepsBars_232 rfl (lv_at hl16367 0 rfl) ?_
        refine lv_aload_n hx hb dX10_keepsBars_233 rfl (lv_at hl16367 0 rfl) ?_
        refine x_gr C hTH16365 (ci := 10) (k := 16) rfl inX10 (by decide) wF_X10_50 ga0 rg_112 rfl dX10_keepsBars_234 (fun q16376 eq16376 gq16376 => ?_)
        have uq16376 : q16 = q16376 := (cy16370_3).trans eq16376.symm
        subst uq16376
        clear eq16376
        refine lv_iload_n hx hb dX10_keepsBars_237 rfl (lv_at hl16367 1 rfl) ?_
        refine x_ai C hTH16365 gq16 rg_125 ⟨by omega, by show _ < ((20 : Nat) : Int); omega⟩ dX10_keepsBars_238 (fun x16377 ex16377 bx16377 => ?_)
        refine x_V (As := [.int x16377]) (rest := [.int x16368, .ref q16]) C (a_X10_kept l K G H16365 (x16377) (x16369) (tk) hTH16365 ga0 giq cy16370_0 ex16369 cy16370_5 gy16370_WD (by and_intros <;> first | assumption | omega)) yo_X10_kept wM_X10_473 ⟨⟨by decide, by decide⟩, by decide, by decide⟩ (x_rv C hTH16365 (ci := 10) rfl ga0 rg_112) rfl hl16367.1 rfl (Nat.le_of_ble_eq_true rfl) dX10_keepsBars_239 hSH16365 (AE_sub (fun _ _ => rfl) (by decide) hSH16365.1) (fun vH16378 H16378 locsH16378 pH16378 zH16378 kH16378 hSH16378 => ?_)
        obtain ⟨x16379, x16380, hvH16378, ex16380, hrH16378, m16381, g16382, mf16383, m16384, m16385, m16386, m16387, hTH16378⟩ := pH16378
        subst hvH16378
        clear zH16378
        replace m16381 := EQN.mk m16381
        have b16388 : UN (tk.toInt ≠ 0) (fun k => fI H16378 q4 k) (fun k => fI s.heap q4 k) := UN.congr (fun j => fI_kept (x_lt hTH16365 kH16378 gq4 (by decide))) by16370_u4
        have b16389 : UN (tk.toInt ≠ 0) (fun k => fI H16378 q16 k) (fun k => fI s.heap q16 k) := UN.congr (fun j => fI_kept (x_lt hTH16365 kH16378 gq16 (by decide))) by16370_u16
        have b16390 : UN (tk.toInt ≠ 0) (fun k => fI H16378 q50 k) (fun k => fI s.heap q50 k) := UN.congr (fun j => fI_kept (x_lt hTH16365 kH16378 gq50 (by decide))) by16370_u50
        have m16391 := (ex16377).trans (fI_kept (x_lt hTH16365 kH16378 gq16 (by decide))).symm
        have m16392 := (cy16370_0).trans (MF.r mf16383 (k := 73) (by decide) (by decide)).symm
        have m16393 := (cy16370_1).trans (MF.r mf16383 (k := 4) (by decide) (by decide)).symm
        have m16394 := (cy16370_2).trans (MF.r mf16383 (k := 10) (by decide) (by decide)).symm
        have m16395 := (cy16370_3).trans (MF.r mf16383 (k := 16) (by decide) (by decide)).symm
        have m16396 := (cy16370_4).trans (MF.r mf16383 (k := 50) (by decide) (by decide)).symm
        have m16397 := (cy16370_5).trans (MF.i mf16383 (k := 71) (by decide) (by decide)).symm
        have mf16398 : MF K s.heap H16378 a0 [72] := MF.trans mfy16370 mf16383 (by decide)
        have bx16380 := ty_fi (x := x16380) (k := 72) ex16380 hTH16378 ga0 rg_112 rfl
        have ce_x16368 := i_cl (x := x16368) (by omega)
        have ce_x16369 := i_cl (x := x16369) (by omega)
        have b16399 : UN (tk.toInt = 0) (fun k => fI H16378 iq k) (fun k => fI s.heap iq k) := UN.tr m16387 by16370_ui
        have b16400 : FB (fun k => fI H16378 iq k) (fun k => fI s.heap iq k) (6) := FB.wr by16370_fb m16386 (fun j hj => by omega)
        have b16401 : EQ (fun k => fI H16378 q4 k) (fun k => fI H16378 iq k) (6) (6) (10) := EQ.wr (EQ.congr (w1 := fun k => fI H16365 iq k) (fun j => fI_kept (x_lt hTH16365 kH16378 gq4 (by decide))) (fun _ => rfl) by16370_e4) m16386 (fun j hj => by omega)
        have b16402 : EQ (fun k => fI H16378 q10 k) (fun k => fI H16378 iq k) (7) (6) (10) := EQ.wr (EQ.congr (w1 := fun k => fI H16365 iq k) (fun j => fI_kept (x_lt hTH16365 kH16378 gq10 (by decide))) (fun _ => rfl) by16370_e10) m16386 (fun j hj => by omega)
        have b16403 : EQ (fun k => fI H16378 q50 k) (fun k => fI H16378 iq k) (11) (6) (10) := EQ.wr (EQ.congr (w1 := fun k => fI H16365 iq k) (fun j => fI_kept (x_lt hTH16365 kH16378 gq50 (by decide))) (fun _ => rfl) by16370_e50) m16386 (fun j hj => by omega)
        have b16404 : EQ (fun k => fI H16378 q16 k) (fun k => fI H16378 iq k) (736) (3) (x16368.toNatClampNeg) := EQ.wr (EQ.congr (w1 := fun k => fI H16365 iq k) (fun j => fI_kept (x_lt hTH16365 kH16378 gq16 (by decide))) (fun _ => rfl) by16370_e16) m16386 (fun j hj => by omega)
        clear by16370_e10 by16370_e16 by16370_e4 by16370_e50 by16370_fb by16370_u16 by16370_u4 by16370_u50 by16370_ui cy16370_0 cy16370_1 cy16370_2 cy16370_3 cy16370_4 cy16370_5 ex16369 ex16377
        clear m16386 m16387
        have bx16379 : 0 ≤ x16379.toInt ∧ x16379.toInt ≤ 9999 := kr (fun h0 => by have hiw := (hy0 h0); exact kr0 (w := fun k => fI H16378 iq k) m16384 (p := 736 + 3 * x16368.toNatClampNeg) (by omega) (b16399 h0) (hiw.2.2.1 x16368.toNatClampNeg (by omega))) m16385 (by omega)
        refine W.eq (g2 := F0 m 242 ls16366 [.int x16379, .int x16368, .ref q16]) rfl ?_
        refine x_iast C hTH16378 hSH16378 gq16 rg_125 (by omega) (by show _ < ((20 : Nat) : Int); omega) ⟨by have := i_rng x16379; omega, by have := i_rng x16379; omega⟩ (AE_in gq16 (by decide)) dX10_keepsBars_242 (fun H16405 locsH16405 hTH16405 hSH16405 wH16405 => ?_)
        have mf16406 : MF K s.heap H16405 a0 [72] := MF.arr wH16405 (G_ne ga0 gq16 (by decide)) mf16398
        have g16407 : WD (avw K H16405 a0) := WD.congr (fun k hk j => av_arr hTH16378 ga0 wH16405 gq16 (by decide) (WD_ok 125 (by decide) k hk)) g16382
        have b16408 : UN (tk.toInt ≠ 0) (fun k => fI H16405 q4 k) (fun k => fI s.heap q4 k) := UN.congr (fun j => Wr.neI wH16405 (Or.inl (G_ne gq4 gq16 (by decide)))) b16388
        have b16409 : UN (tk.toInt ≠ 0) (fun k => fI H16405 q16 k) (fun k => fI s.heap q16 k) := UN.st b16389 (i := x16368.toNatClampNeg) (fun hc => (m16385 hc).trans m16391) (Wr.I wH16405) (fun j hj => Wr.neI wH16405 (Or.inr hj))
        have b16410 : UN (tk.toInt ≠ 0) (fun k => fI H16405 q50 k) (fun k => fI s.heap q50 k) := UN.congr (fun j => Wr.neI wH16405 (Or.inl (G_ne gq50 gq16 (by decide)))) b16390
        have b16411 : UN (tk.toInt = 0) (fun k => fI H16405 iq k) (fun k => fI s.heap iq k) := UN.congr (fun j => Wr.neI wH16405 (Or.inl (G_ne giq gq16 (by decide)))) b16399
        have b16412 : FB (fun k => fI H16405 iq k) (fun k => fI s.heap iq k) (6) := FB.congr (fun j => Wr.neI wH16405 (Or.inl (G_ne giq gq16 (by decide)))) b16400
        have b16413 : EQ (fun k => fI H16405 q4 k) (fun k => fI H16405 iq k) (6) (6) (10) := EQ.congr (fun j => Wr.neI wH16405 (Or.inl (G_ne gq4 gq16 (by decide)))) (fun j => Wr.neI wH16405 (Or.inl (G_ne giq gq16 (by decide)))) b16401
        have b16414 : EQ (fun k => fI H16405 q10 k) (fun k => fI H16405 iq k) (7) (6) (10) := EQ.congr (fun j => Wr.neI wH16405 (Or.inl (G_ne gq10 gq16 (by decide)))) (fun j => Wr.neI wH16405 (Or.inl (G_ne giq gq16 (by decide)))) b16402
        have b16415 : EQ (fun k => fI H16405 q50 k) (fun k => fI H16405 iq k) (11) (6) (10) := EQ.congr (fun j => Wr.neI wH16405 (Or.inl (G_ne gq50 gq16 (by decide)))) (fun j => Wr.neI wH16405 (Or.inl (G_ne giq gq16 (by decide)))) b16403
        have b16416 : EQ (fun k => fI H16405 q16 k) (fun k => fI H16405 iq k) (736) (3) (x16368.toNatClampNeg + 1) := EQ.st b16404 (i := x16368.toNatClampNeg) (t := x16369.toNatClampNeg) (by omega) m16384 (by omega) (Wr.I wH16405) (fun j hj => Wr.neI wH16405 (Or.inr hj)) (fun j => Wr.neI wH16405 (Or.inl (G_ne giq gq16 (by decide))))
        have m16418 := m16381.trans (Wr.neR wH16405 (Or.inl (G_ne ga0 gq16 (by decide)))).symm
        have m16419 := m16393.trans (Wr.neR wH16405 (Or.inl (G_ne ga0 gq16 (by decide)))).symm
        have m16420 := m16394.trans (Wr.neR wH16405 (Or.inl (G_ne ga0 gq16 (by decide)))).symm
        have m16421 := m16395.trans (Wr.neR wH16405 (Or.inl (G_ne ga0 gq16 (by decide)))).symm
        have m16422 := m16396.trans (Wr.neR wH16405 (Or.inl (G_ne ga0 gq16 (by decide)))).symm
        have m16423 := m16397.trans (Wr.neI wH16405 (Or.inl (G_ne ga0 gq16 (by decide)))).symm
        have m16424 := ex16380.trans (Wr.neI wH16405 (Or.inl (G_ne ga0 gq16 (by decide)))).symm
        have m16425 := Wr.I wH16405
        have m16425 := m16425.symm
        clear b16388 b16389 b16390 b16399 b16400 b16401 b16402 b16403 b16404 ex16380 g16382 hTH16378 m16381 m16391 m16393 m16394 m16395 m16396 m16397 mf16398
        refine lv_aload_n hx hb dX10_keepsBars_243 rfl (lv_at hl16367 0 rfl) ?_
        refine x_gr C hTH16405 (ci := 10) (k := 60) rfl inX10 (by decide) wF_X10_140 ga0 rg_112 rfl dX10_keepsBars_244 (fun q16426 eq16426 gq16426 => ?_)
        replace eq16426 := EQN.mk eq16426
        refine lv_iload_n hx hb dX10_keepsBars_247 rfl (lv_at hl16367 1 rfl) ?_
        refine lv_aload_n hx hb dX10_keepsBars_248 rfl (lv_at hl16367 0 rfl) ?_
        refine lv_aload_n hx hb dX10_keepsBars_249 rfl (lv_at hl16367 0 rfl) ?_
        refine x_gr C hTH16405 (ci := 10) (k := 60) rfl inX10 (by decide) wF_X10_140 ga0 rg_112 rfl dX10_keepsBars_250 (fun q16427 eq16427 gq16427 => ?_)
        have uq16427 : q16426 = q16427 := (eq16426).trans eq16427.symm
        subst uq16427
        clear eq16427
        refine lv_iload_n hx hb dX10_keepsBars_253 rfl (lv_at hl16367 1 rfl) ?_
        refine x_ai C hTH16405 gq16426 rg_154 ⟨by omega, by show _ < ((20 : Nat) : Int); omega⟩ dX10_keepsBars_254 (fun x16428 ex16428 bx16428 => ?_)
        refine x_V (As := [.int x16428]) (rest := [.int x16368, .ref q16426]) C (a_X10_kept l K G H16405 (x16428) (x16380) (tk) hTH16405 ga0 giq m16418 m16424 m16423 g16407 (by and_intros <;> first | assumption | omega)) yo_X10_kept wM_X10_473 ⟨⟨by decide, by decide⟩, by decide, by decide⟩ (x_rv C hTH16405 (ci := 10) rfl ga0 rg_112) rfl hl16367.1 rfl (Nat.le_of_ble_eq_true rfl) dX10_keepsBars_255 hSH16405 (AE_sub (fun _ _ => rfl) (by decide) hSH16405.1) (fun vH16429 H16429 locsH16429 pH16429 zH16429 kH16429 hSH16429 => ?_)
        obtain ⟨x16430, x16431, hvH16429, ex16431, hrH16429, m16432, g16433, mf16434, m16435, m16436, m16437, m16438, hTH16429⟩ := pH16429
        subst hvH16429
        clear zH16429
        replace m16432 := EQN.mk m16432
        have b16439 : UN (tk.toInt ≠ 0) (fun k => fI H16429 q4 k) (fun k => fI s.heap q4 k) := UN.congr (fun j => fI_kept (x_lt hTH16405 kH16429 gq4 (by decide))) b16408
        have b16440 : UN (tk.toInt ≠ 0) (fun k => fI H16429 q16 k) (fun k => fI s.heap q16 k) := UN.congr (fun j => fI_kept (x_lt hTH16405 kH16429 gq16 (by decide))) b16409
        have b16441 : UN (tk.toInt ≠ 0) (fun k => fI H16429 q50 k) (fun k => fI s.heap q50 k) := UN.congr (fun j => fI_kept (x_lt hTH16405 kH16429 gq50 (by decide))) b16410
        have m16442 := (m16425).trans (fI_kept (x_lt hTH16405 kH16429 gq16 (by decide))).symm
        have m16443 := (ex16428).trans (fI_kept (x_lt hTH16405 kH16429 gq16426 (by decide))).symm
        have m16444 := (m16418).trans (MF.r mf16434 (k := 73) (by decide) (by decide)).symm
        have m16445 := (m16419).trans (MF.r mf16434 (k := 4) (by decide) (by decide)).symm
        have m16446 := (m16420).trans (MF.r mf16434 (k := 10) (by decide) (by decide)).symm
        have m16447 := (m16421).trans (MF.r mf16434 (k := 16) (by decide) (by decide)).symm
        have m16448 := (m16422).trans (MF.r mf16434 (k := 50) (by decide) (by decide)).symm
        have m16449 := (m16423).trans (MF.i mf16434 (k := 71) (by decide) (by decide)).symm
        have m16450 := (eq16426).trans (MF.r mf16434 (k := 60) (by decide) (by decide)).symm
        have mf16451 : MF K s.heap H16429 a0 [72] := MF.trans mf16406 mf16434 (by decide)
        have bx16431 := ty_fi (x := x16431) (k := 72) ex16431 hTH16429 ga0 rg_112 rfl
        have ce_x16380 := i_cl (x := x16380) (by omega)
        have b16452 : UN (tk.toInt = 0) (fun k => fI H16429 iq k) (fun k => fI s.heap iq k) := UN.tr m16438 b16411
        have b16453 : FB (fun k => fI H16429 iq k) (fun k => fI s.heap iq k) (6) := FB.wr b16412 m16437 (fun j hj => by omega)
        have b16454 : EQ (fun k => fI H16429 q4 k) (fun k => fI H16429 iq k) (6) (6) (10) := EQ.wr (EQ.congr (w1 := fun k => fI H16405 iq k) (fun j => fI_kept (x_lt hTH16405 kH16429 gq4 (by decide))) (fun _ => rfl) b16413) m16437 (fun j hj => by omega)
        have b16455 : EQ (fun k => fI H16429 q10 k) (fun k => fI H16429 iq k) (7) (6) (10) := EQ.wr (EQ.congr (w1 := fun k => fI H16405 iq k) (fun j => fI_kept (x_lt hTH16405 kH16429 gq10 (by decide))) (fun _ => rfl) b16414) m16437 (fun j hj => by omega)
        have b16456 : EQ (fun k => fI H16429 q50 k) (fun k => fI H16429 iq k) (11) (6) (10) := EQ.wr (EQ.congr (w1 := fun k => fI H16405 iq k) (fun j => fI_kept (x_lt hTH16405 kH16429 gq50 (by decide))) (fun _ => rfl) b16415) m16437 (fun j hj => by omega)
        have b16457 : EQ (fun k => fI H16429 q16 k) (fun k => fI H16429 iq k) (736) (3) (x16368.toNatClampNeg + 1) := EQ.wr (EQ.congr (w1 := fun k => fI H16405 iq k) (fun j => fI_kept (x_lt hTH16405 kH16429 gq16 (by decide))) (fun _ => rfl) b16416) m16437 (fun j hj => by omega)
        clear b16408 b16409 b16410 b16411 b16412 b16413 b16414 b16415 b16416 eq16426 ex16428 m16418 m16419 m16420 m16421 m16422 m16423 m16424 m16425
        clear m16437 m16438
        refine W.eq (g2 := F0 m 258 ls16366 [.int x16430, .int x16368, .ref q16426]) rfl ?_
        refine x_iast C hTH16429 hSH16429 gq16426 rg_154 (by omega) (by show _ < ((20 : Nat) : Int); omega) ⟨by have := i_rng x16430; omega, by have := i_rng x16430; omega⟩ (AE_in gq16426 (by decide)) dX10_keepsBars_258 (fun H16458 locsH16458 hTH16458 hSH16458 wH16458 => ?_)
        have mf16459 : MF K s.heap H16458 a0 [72] := MF.arr wH16458 (G_ne ga0 gq16426 (by decide)) mf16451
        have g16460 : WD (avw K H16458 a0) := WD.congr (fun k hk j => av_arr hTH16429 ga0 wH16458 gq16426 (by decide) (WD_ok 154 (by decide) k hk)) g16433
        have b16461 : UN (tk.toInt ≠ 0) (fun k => fI H16458 q4 k) (fun k => fI s.heap q4 k) := UN.congr (fun j => Wr.neI wH16458 (Or.inl (G_ne gq4 gq16426 (by decide)))) b16439
        have b16462 : UN (tk.toInt ≠ 0) (fun k => fI H16458 q16 k) (fun k => fI s.heap q16 k) := UN.congr (fun j => Wr.neI wH16458 (Or.inl (G_ne gq16 gq16426 (by decide)))) b16440
        have b16463 : UN (tk.toInt ≠ 0) (fun k => fI H16458 q50 k) (fun k => fI s.heap q50 k) := UN.congr (fun j => Wr.neI wH16458 (Or.inl (G_ne gq50 gq16426 (by decide)))) b16441
        have b16464 : UN (tk.toInt = 0) (fun k => fI H16458 iq k) (fun k => fI s.heap iq k) := UN.congr (fun j => Wr.neI wH16458 (Or.inl (G_ne giq gq16426 (by decide)))) b16452
        have b16465 : FB (fun k => fI H16458 iq k) (fun k => fI s.heap iq k) (6) := FB.congr (fun j => Wr.neI wH16458 (Or.inl (G_ne giq gq16426 (by decide)))) b16453
        have b16466 : EQ (fun k => fI H16458 q4 k) (fun k => fI H16458 iq k) (6) (6) (10) := EQ.congr (fun j => Wr.neI wH16458 (Or.inl (G_ne gq4 gq16426 (by decide)))) (fun j => Wr.neI wH16458 (Or.inl (G_ne giq gq16426 (by decide)))) b16454
        have b16467 : EQ (fun k => fI H16458 q10 k) (fun k => fI H16458 iq k) (7) (6) (10) := EQ.congr (fun j => Wr.neI wH16458 (Or.inl (G_ne gq10 gq16426 (by decide)))) (fun j => Wr.neI wH16458 (Or.inl (G_ne giq gq16426 (by decide)))) b16455
        have b16468 : EQ (fun k => fI H16458 q50 k) (fun k => fI H16458 iq k) (11) (6) (10) := EQ.congr (fun j => Wr.neI wH16458 (Or.inl (G_ne gq50 gq16426 (by decide)))) (fun j => Wr.neI wH16458 (Or.inl (G_ne giq gq16426 (by decide)))) b16456
        have b16469 : EQ (fun k => fI H16458 q16 k) (fun k => fI H16458 iq k) (736) (3) (x16368.toNatClampNeg + 1) := EQ.congr (fun j => Wr.neI wH16458 (Or.inl (G_ne gq16 gq16426 (by decide)))) (fun j => Wr.neI wH16458 (Or.inl (G_ne giq gq16426 (by decide)))) b16457
        have m16470 := m16442.trans (Wr.neI wH16458 (Or.inl (G_ne gq16 gq16426 (by decide)))).symm
        have m16472 := m16432.trans (Wr.neR wH16458 (Or.inl (G_ne ga0 gq16426 (by decide)))).symm
        have m16473 := m16445.trans (Wr.neR wH16458 (Or.inl (G_ne ga0 gq16426 (by decide)))).symm
        have m16474 := m16446.trans (Wr.neR wH16458 (Or.inl (G_ne ga0 gq16426 (by decide)))).symm
        have m16475 := m16447.trans (Wr.neR wH16458 (Or.inl (G_ne ga0 gq16426 (by decide)))).symm
        have m16476 := m16448.trans (Wr.neR wH16458 (Or.inl (G_ne ga0 gq16426 (by decide)))).symm
        have m16477 := m16449.trans (Wr.neI wH16458 (Or.inl (G_ne ga0 gq16426 (by decide)))).symm
        have m16478 := m16450.trans (Wr.neR wH16458 (Or.inl (G_ne ga0 gq16426 (by decide)))).symm
        have m16479 := ex16431.trans (Wr.neI wH16458 (Or.inl (G_ne ga0 gq16426 (by decide)))).symm
        have m16480 := Wr.I wH16458
        have m16480 := m16480.symm
        clear b16439 b16440 b16441 b16452 b16453 b16454 b16455 b16456 b16457 ex16431 g16433 hTH16429 m16432 m16442 m16443 m16445 m16446 m16447 m16448 m16449 m16450 mf16451
        refine lv_aload_n hx hb dX10_keepsBars_259 rfl (lv_at hl16367 0 rfl) ?_
        refine x_gr C hTH16458 (ci := 10) (k := 61) rfl inX10 (by decide) wF_X10_143 ga0 rg_112 rfl dX10_keepsBars_260 (fun q16481 eq16481 gq16481 => ?_)
        replace eq16481 := EQN.mk eq16481
        refine lv_iload_n hx hb dX10_keepsBars_263 rfl (lv_at hl16367 1 rfl) ?_
        refine lv_aload_n hx hb dX10_keepsBars_264 rfl (lv_at hl16367 0 rfl) ?_
        refine lv_aload_n hx hb dX10_keepsBars_265 rfl (lv_at hl16367 0 rfl) ?_
        refine x_gr C hTH16458 (ci := 10) (k := 61) rfl inX10 (by decide) wF_X10_143 ga0 rg_112 rfl dX10_keepsBars_266 (fun q16482 eq16482 gq16482 => ?_)
        have uq16482 : q16481 = q16482 := (eq16481).trans eq16482.symm
        subst uq16482
        clear eq16482
        refine lv_iload_n hx hb dX10_keepsBars_269 rfl (lv_at hl16367 1 rfl) ?_
        refine x_ai C hTH16458 gq16481 rg_155 ⟨by omega, by show _ < ((20 : Nat) : Int); omega⟩ dX10_keepsBars_270 (fun x16483 ex16483 bx16483 => ?_)
        refine x_V (As := [.int x16483]) (rest := [.int x16368, .ref q16481]) C (a_X10_kept l K G H16458 (x16483) (x16431) (tk) hTH16458 ga0 giq m16472 m16479 m16477 g16460 (by and_intros <;> first | assumption | omega)) yo_X10_kept wM_X10_473 ⟨⟨by decide, by decide⟩, by decide, by decide⟩ (x_rv C hTH16458 (ci := 10) rfl ga0 rg_112) rfl hl16367.1 rfl (Nat.le_of_ble_eq_true rfl) dX10_keepsBars_271 hSH16458 (AE_sub (fun _ _ => rfl) (by decide) hSH16458.1) (fun vH16484 H16484 locsH16484 pH16484 zH16484 kH16484 hSH16484 => ?_)
        obtain ⟨x16485, x16486, hvH16484, ex16486, hrH16484, m16487, g16488, mf16489, m16490, m16491, m16492, m16493, hTH16484⟩ := pH16484
        subst hvH16484
        clear zH16484
        replace m16487 := EQN.mk m16487
        have b16494 : UN (tk.toInt ≠ 0) (fun k => fI H16484 q4 k) (fun k => fI s.heap q4 k) := UN.congr (fun j => fI_kept (x_lt hTH16458 kH16484 gq4 (by decide))) b16461
        have b16495 : UN (tk.toInt ≠ 0) (fun k => fI H16484 q16 k) (fun k => fI s.heap q16 k) := UN.congr (fun j => fI_kept (x_lt hTH16458 kH16484 gq16 (by decide))) b16462
        have b16496 : UN (tk.toInt ≠ 0) (fun k => fI H16484 q50 k) (fun k => fI s.heap q50 k) := UN.congr (fun j => fI_kept (x_lt hTH16458 kH16484 gq50 (by decide))) b16463
        have m16497 := (m16470).trans (fI_kept (x_lt hTH16458 kH16484 gq16 (by decide))).symm
        have m16498 := (m16480).trans (fI_kept (x_lt hTH16458 kH16484 gq16426 (by decide))).symm
        have m16499 := (ex16483).trans (fI_kept (x_lt hTH16458 kH16484 gq16481 (by decide))).symm
        have m16500 := (m16472).trans (MF.r mf16489 (k := 73) (by decide) (by decide)).symm
        have m16501 := (m16473).trans (MF.r mf16489 (k := 4) (by decide) (by decide)).symm
        have m16502 := (m16474).trans (MF.r mf16489 (k := 10) (by decide) (by decide)).symm
        have m16503 := (m16475).trans (MF.r mf16489 (k := 16) (by decide) (by decide)).symm
        have m16504 := (m16476).trans (MF.r mf16489 (k := 50) (by decide) (by decide)).symm
        have m16505 := (m16477).trans (MF.i mf16489 (k := 71) (by decide) (by decide)).symm
        have m16506 := (m16478).trans (MF.r mf16489 (k := 60) (by decide) (by decide)).symm
        have m16507 := (eq16481).trans (MF.r mf16489 (k := 61) (by decide) (by decide)).symm
        have mf16508 : MF K s.heap H16484 a0 [72] := MF.trans mf16459 mf16489 (by decide)
        have bx16486 := ty_fi (x := x16486) (k := 72) ex16486 hTH16484 ga0 rg_112 rfl
        have ce_x16431 := i_cl (x := x16431) (by omega)
        have b16509 : UN (tk.toInt = 0) (fun k => fI H16484 iq k) (fun k => fI s.heap iq k) := UN.tr m16493 b16464
        have b16510 : FB (fun k => fI H16484 iq k) (fun k => fI s.heap iq k) (6) := FB.wr b16465 m16492 (fun j hj => by omega)
        have b16511 : EQ (fun k => fI H16484 q4 k) (fun k => fI H16484 iq k) (6) (6) (10) := EQ.wr (EQ.congr (w1 := fun k => fI H16458 iq k) (fun j => fI_kept (x_lt hTH16458 kH16484 gq4 (by decide))) (fun _ => rfl) b16466) m16492 (fun j hj => by omega)
        have b16512 : EQ (fun k => fI H16484 q10 k) (fun k => fI H16484 iq k) (7) (6) (10) := EQ.wr (EQ.congr (w1 := fun k => fI H16458 iq k) (fun j => fI_kept (x_lt hTH16458 kH16484 gq10 (by decide))) (fun _ => rfl) b16467) m16492 (fun j hj => by omega)
        have b16513 : EQ (fun k => fI H16484 q50 k) (fun k => fI H16484 iq k) (11) (6) (10) := EQ.wr (EQ.congr (w1 := fun k => fI H16458 iq k) (fun j => fI_kept (x_lt hTH16458 kH16484 gq50 (by decide))) (fun _ => rfl) b16468) m16492 (fun j hj => by omega)
        have b16514 : EQ (fun k => fI H16484 q16 k) (fun k => fI H16484 iq k) (736) (3) (x16368.toNatClampNeg + 1) := EQ.wr (EQ.congr (w1 := fun k => fI H16458 iq k) (fun j => fI_kept (x_lt hTH16458 kH16484 gq16 (by decide))) (fun _ => rfl) b16469) m16492 (fun j hj => by omega)
        clear b16461 b16462 b16463 b16464 b16465 b16466 b16467 b16468 b16469 eq16481 ex16483 m16470 m16472 m16473 m16474 m16475 m16476 m16477 m16478 m16479 m16480
        clear m16492 m16493
        refine W.eq (g2 := F0 m 274 ls16366 [.int x16485, .int x16368, .ref q16481]) rfl ?_
        refine x_iast C hTH16484 hSH16484 gq16481 rg_155 (by omega) (by show _ < ((20 : Nat) : Int); omega) ⟨by have := i_rng x16485; omega, by have := i_rng x16485; omega⟩ (AE_in gq16481 (by decide)) dX10_keepsBars_274 (fun H16515 locsH16515 hTH16515 hSH16515 wH16515 => ?_)
        have mf16516 : MF K s.heap H16515 a0 [72] := MF.arr wH16515 (G_ne ga0 gq16481 (by decide)) mf16508
        have g16517 : WD (avw K H16515 a0) := WD.congr (fun k hk j => av_arr hTH16484 ga0 wH16515 gq16481 (by decide) (WD_ok 155 (by decide) k hk)) g16488
        have b16518 : UN (tk.toInt ≠ 0) (fun k => fI H16515 q4 k) (fun k => fI s.heap q4 k) := UN.congr (fun j => Wr.neI wH16515 (Or.inl (G_ne gq4 gq16481 (by decide)))) b16494
        have b16519 : UN (tk.toInt ≠ 0) (fun k => fI H16515 q16 k) (fun k => fI s.heap q16 k) := UN.congr (fun j => Wr.neI wH16515 (Or.inl (G_ne gq16 gq16481 (by decide)))) b16495
        have b16520 : UN (tk.toInt ≠ 0) (fun k => fI H16515 q50 k) (fun k => fI s.heap q50 k) := UN.congr (fun j => Wr.neI wH16515 (Or.inl (G_ne gq50 gq16481 (by decide)))) b16496
        have b16521 : UN (tk.toInt = 0) (fun k => fI H16515 iq k) (fun k => fI s.heap iq k) := UN.congr (fun j => Wr.neI wH16515 (Or.inl (G_ne giq gq16481 (by decide)))) b16509
        have b16522 : FB (fun k => fI H16515 iq k) (fun k => fI s.heap iq k) (6) := FB.congr (fun j => Wr.neI wH16515 (Or.inl (G_ne giq gq16481 (by decide)))) b16510
        have b16523 : EQ (fun k => fI H16515 q4 k) (fun k => fI H16515 iq k) (6) (6) (10) := EQ.congr (fun j => Wr.neI wH16515 (Or.inl (G_ne gq4 gq16481 (by decide)))) (fun j => Wr.neI wH16515 (Or.inl (G_ne giq gq16481 (by decide)))) b16511
        have b16524 : EQ (fun k => fI H16515 q10 k) (fun k => fI H16515 iq k) (7) (6) (10) := EQ.congr (fun j => Wr.neI wH16515 (Or.inl (G_ne gq10 gq16481 (by decide)))) (fun j => Wr.neI wH16515 (Or.inl (G_ne giq gq16481 (by decide)))) b16512
        have b16525 : EQ (fun k => fI H16515 q50 k) (fun k => fI H16515 iq k) (11) (6) (10) := EQ.congr (fun j => Wr.neI wH16515 (Or.inl (G_ne gq50 gq16481 (by decide)))) (fun j => Wr.neI wH16515 (Or.inl (G_ne giq gq16481 (by decide)))) b16513
        have b16526 : EQ (fun k => fI H16515 q16 k) (fun k => fI H16515 iq k) (736) (3) (x16368.toNatClampNeg + 1) := EQ.congr (fun j => Wr.neI wH16515 (Or.inl (G_ne gq16 gq16481 (by decide)))) (fun j => Wr.neI wH16515 (Or.inl (G_ne giq gq16481 (by decide)))) b16514
        have m16527 := m16497.trans (Wr.neI wH16515 (Or.inl (G_ne gq16 gq16481 (by decide)))).symm
        have m16528 := m16498.trans (Wr.neI wH16515 (Or.inl (G_ne gq16426 gq16481 (by decide)))).symm
        have m16530 := m16487.trans (Wr.neR wH16515 (Or.inl (G_ne ga0 gq16481 (by decide)))).symm
        have m16531 := m16501.trans (Wr.neR wH16515 (Or.inl (G_ne ga0 gq16481 (by decide)))).symm
        have m16532 := m16502.trans (Wr.neR wH16515 (Or.inl (G_ne ga0 gq16481 (by decide)))).symm
        have m16533 := m16503.trans (Wr.neR wH16515 (Or.inl (G_ne ga0 gq16481 (by decide)))).symm
        have m16534 := m16504.trans (Wr.neR wH16515 (Or.inl (G_ne ga0 gq16481 (by decide)))).symm
        have m16535 := m16505.trans (Wr.neI wH16515 (Or.inl (G_ne ga0 gq16481 (by decide)))).symm
        have m16536 := m16506.trans (Wr.neR wH16515 (Or.inl (G_ne ga0 gq16481 (by decide)))).symm
        have m16537 := m16507.trans (Wr.neR wH16515 (Or.inl (G_ne ga0 gq16481 (by decide)))).symm
        have m16538 := ex16486.trans (Wr.neI wH16515 (Or.inl (G_ne ga0 gq16481 (by decide)))).symm
        have m16539 := Wr.I wH16515
        have m16539 := m16539.symm
        clear b16494 b16495 b16496 b16509 b16510 b16511 b16512 b16513 b16514 ex16486 g16488 hTH16484 m16487 m16497 m16498 m16499 m16501 m16502 m16503 m16504 m16505 m16506 m16507 mf16508
        obtain ⟨x16540, ex16540⟩ : ∃ y : Int32, y = x16368 + 1 := ⟨_, rfl⟩
        have tx16540 := i_add ex16540 (by omega)
        refine lv_iinc (v := x16540) (lv' := [(1, .int x16540), (0, .ref a0)]) hx hb dX10_keepsBars_275 hl16367 (k := 1) rfl (by rw [ex16540]; rfl) (by decide) rfl (fun ls16541 hl16542 => ?_)
        refine lv_goto (tgt := 221) hx hb dX10_keepsBars_278 (by decide) ?_
        have cl_x16540 := i_cl (x := x16540) (by omega)
        exact ih221 ls16541 H16515 locsH16515 (x16540) (x16486) (lv_sub hl16542 [1, 0] rfl) hTH16515 hSH16515 ⟨by have := i_rng x16540; omega, by have := i_rng x16540; omega⟩ ⟨by have := i_rng x16486; omega, by have := i_rng x16486; omega⟩ m16538 m16530 m16531 m16532 m16533 m16534 m16535 b16521 b16522 (EQ.cast b16523 (by omega)) (EQ.cast b16524 (by omega)) (EQ.cast b16525 (by omega)) (EQ.cast b16526 (by omega)) b16518 b16519 b16520 mf16516 g16517 (by omega) (by and_intros <;> first | assumption | omega)
  have J191 : ∀ (nf : Nat) (ls16544 : Array Slot) (H16543 : Heap) (locsH16543 : List Loc) (x16546 : Int32) (x16547 : Int32), lv_has ls16544 2 [(0, .ref a0), (1, .int x16546)] → TY K G H16543 → va_S (AE G [112, 162, 113, 119, 122, 123, 124, 146, 114, 115, 116, 117, 118, 125, 154, 155, 120, 121] s.heap.size) s.heap H16543 locsH16543 → (0 ≤ x16546.toInt ∧ x16546.toInt ≤ 30) → (0 ≤ x16547.toInt ∧ x16547.toInt ≤ 16400) → (x16547 = fI H16543 a0 (K.1.2 10 72)) → (EQN iq (fR H16543 a0 (K.1.2 10 73))) → (EQN q4 (fR H16543 a0 (K.1.2 10 4))) → (EQN q10 (fR H16543 a0 (K.1.2 10 10))) → (EQN q16 (fR H16543 a0 (K.1.2 10 16))) → (EQN q50 (fR H16543 a0 (K.1.2 10 50))) → (tk = fI H16543 a0 (K.1.2 10 71)) → (UN (tk.toInt = 0) (fun k => fI H16543 iq k) (fun k => fI s.heap iq k)) → (FB (fun k => fI H16543 iq k) (fun k => fI s.heap iq k) (6)) → (EQ (fun k => fI H16543 q4 k) (fun k => fI H16543 iq k) (6) (6) (10)) → (EQ (fun k => fI H16543 q10 k) (fun k => fI H16543 iq k) (7) (6) (10)) → (EQ (fun k => fI H16543 q50 k) (fun k => fI H16543 iq k) (11) (6) (10)) → (EQ (fun k => fI H16543 q16 k) (fun k => fI H16543 iq k) (736) (3) (0)) → (UN (tk.toInt ≠ 0) (fun k => fI H16543 q4 k) (fun k => fI s.heap q4 k)) → (UN (tk.toInt ≠ 0) (fun k => fI H16543 q16 k) (fun k => fI s.heap q16 k)) → (UN (tk.toInt ≠ 0) (fun k => fI H16543 q50 k) (fun k => fI s.heap q50 k)) → (MF K s.heap H16543 a0 [72]) → (WD (avw K H16543 a0)) → (30 - x16546.toInt < (nf : Int)) → (x16547.toInt = 706 + 1 * x16546.toInt) → W p l e ({ frames := 1, cells := 0, slots := 0, locals := 21 } : Room) s m (([.ref a0] : List Value).toArray) below meth c H16543 locsH16543 0 0 Q (F0 m 191 ls16544 []) := by
    intro nf
    induction nf with
    | zero =>
      intro ls16544 H16543 locsH16543 x16546 x16547 hl16545 hTH16543 hSH16543 bx16546 bx16547 ex16547 cy16548_0 cy16548_1 cy16548_2 cy16548_3 cy16548_4 cy16548_5 by16548_ui by16548_fb by16548_e4 by16548_e10 by16548_e50 by16548_e16 by16548_u4 by16548_u16 by16548_u50 mfy16548 gy16548_WD hm191 iv191
      exfalso
      omega
    | succ nf ih191 =>
      intro ls16544 H16543 locsH16543 x16546 x16547 hl16545 hTH16543 hSH16543 bx16546 bx16547 ex16547 cy16548_0 cy16548_1 cy16548_2 cy16548_3 cy16548_4 cy16548_5 by16548_ui by16548_fb by16548_e4 by16548_e10 by16548_e50 by16548_e16 by16548_u4 by16548_u16 by16548_u50 mfy16548 gy16548_WD hm191 iv191
      refine lv_iload_n hx hb dX10_keepsBars_191 rfl (lv_at hl16545 1 rfl) ?_
      refine lv_bipush (v := 30) hx hb dX10_keepsBars_192 (by decide) ?_
      refine lv_icmp_ge (tgt := 219) hx hb dX10_keepsBars_194 (by decide) (fun c16549 => ?_) (fun c16549 => ?_)
      · have k16550 := i_le c16549
        refine lv_iconst (v := 0) hx hb dX10_keepsBars_219 (by decide) ?_
        refine lv_istore_n (lv' := [(1, .int 0), (0, .ref a0)]) hx hb dX10_keepsBars_220 rfl hl16545 (by decide) rfl (fun ls16551 hl16552 => ?_)
        have cl00 : (0 : Int32).toNatClampNeg = 0 := rfl
        exact J221 ((20 - (0 : Int32).toInt).toNat + 1) ls16551 H16543 locsH16543 (0) (x16547) (lv_sub hl16552 [1, 0] rfl) hTH16543 hSH16543 (by decide) ⟨by have := i_rng x16547; omega, by have := i_rng x16547; omega⟩ ex16547 cy16548_0 cy16548_1 cy16548_2 cy16548_3 cy16548_4 cy16548_5 by16548_ui by16548_fb (EQ.cast by16548_e4 (by omega)) (EQ.cast by16548_e10 (by omega)) (EQ.cast by16548_e50 (by omega)) (EQ.cast by16548_e16 (by omega)) by16548_u4 by16548_u16 by16548_u50 mfy16548 gy16548_WD (by omega) (by and_intros <;> first | assumption | omega)
      · have k16550 := i_nle c16549
        refine lv_aload_n hx hb dX10_keepsBars_197 rfl (lv_at hl16545 0 rfl) ?_
        refine x_gr C hTH16543 (ci := 10) (k := 9) rfl inX10 (by decide) wF_X10_29 ga0 rg_112 rfl dX10_keepsBars_198 (fun q16553 eq16553 gq16553 => ?_)
        replace eq16553 := EQN.mk eq16553
        refine lv_iload_n hx hb dX10_keepsBars_201 rfl (lv_at hl16545 1 rfl) ?_
        refine lv_aload_n hx hb dX10_keepsBars_202 rfl (lv_at hl16545 0 rfl) ?_
        refine lv_aload_n hx hb dX10_keepsBars_203 rfl (lv_at hl16545 0 rfl) ?_
        refine x_gr C hTH16543 (ci := 10) (k := 9) rfl inX10 (by decide) wF_X10_29 ga0 rg_112 rfl dX10_keepsBars_204 (fun q16554 eq16554 gq16554 => ?_)
        have uq16554 : q16553 = q16554 := (eq16553).trans eq16554.symm
        subst uq16554
        clear eq16554
        refine lv_iload_n hx hb dX10_keepsBars_207 rfl (lv_at hl16545 1 rfl) ?_
        refine x_ai C hTH16543 gq16553 rg_118 ⟨by omega, by show _ < ((30 : Nat) : Int); omega⟩ dX10_keepsBars_208 (fun x16555 ex16555 bx16555 => ?_)
        refine x_V (As := [.int x16555]) (rest := [.int x16546, .ref q16553]) C (a_X10_kept l K G H16543 (x16555) (x16547) (tk) hTH16543 ga0 giq cy16548_0 ex16547 cy16548_5 gy16548_WD (by and_intros <;> first | assumption | omega)) yo_X10_kept wM_X10_473 ⟨⟨by decide, by decide⟩, by decide, by decide⟩ (x_rv C hTH16543 (ci := 10) rfl ga0 rg_112) rfl hl16545.1 rfl (Nat.le_of_ble_eq_true rfl) dX10_keepsBars_209 hSH16543 (AE_sub (fun _ _ => rfl) (by decide) hSH16543.1) (fun vH16556 H16556 locsH16556 pH16556 zH16556 kH16556 hSH16556 => ?_)
        obtain ⟨x16557, x16558, hvH16556, ex16558, hrH16556, m16559, g16560, mf16561, m16562, m16563, m16564, m16565, hTH16556⟩ := pH16556
        subst hvH16556
        clear zH16556
        replace m16559 := EQN.mk m16559
        have b16566 : UN (tk.toInt ≠ 0) (fun k => fI H16556 q4 k) (fun k => fI s.heap q4 k) := UN.congr (fun j => fI_kept (x_lt hTH16543 kH16556 gq4 (by decide))) by16548_u4
        have b16567 : UN (tk.toInt ≠ 0) (fun k => fI H16556 q16 k) (fun k => fI s.heap q16 k) := UN.congr (fun j => fI_kept (x_lt hTH16543 kH16556 gq16 (by decide))) by16548_u16
        have b16568 : UN (tk.toInt ≠ 0) (fun k => fI H16556 q50 k) (fun k => fI s.heap q50 k) := UN.congr (fun j => fI_kept (x_lt hTH16543 kH16556 gq50 (by decide))) by16548_u50
        have m16569 := (ex16555).trans (fI_kept (x_lt hTH16543 kH16556 gq16553 (by decide))).symm
        have m16570 := (cy16548_0).trans (MF.r mf16561 (k := 73) (by decide) (by decide)).symm
        have m16571 := (cy16548_1).trans (MF.r mf16561 (k := 4) (by decide) (by decide)).symm
        have m16572 := (cy16548_2).trans (MF.r mf16561 (k := 10) (by decide) (by decide)).symm
        have m16573 := (cy16548_3).trans (MF.r mf16561 (k := 16) (by decide) (by decide)).symm
        have m16574 := (cy16548_4).trans (MF.r mf16561 (k := 50) (by decide) (by decide)).symm
        have m16575 := (cy16548_5).trans (MF.i mf16561 (k := 71) (by decide) (by decide)).symm
        have m16576 := (eq16553).trans (MF.r mf16561 (k := 9) (by decide) (by decide)).symm
        have mf16577 : MF K s.heap H16556 a0 [72] := MF.trans mfy16548 mf16561 (by decide)
        have bx16558 := ty_fi (x := x16558) (k := 72) ex16558 hTH16556 ga0 rg_112 rfl
        have ce_x16547 := i_cl (x := x16547) (by omega)
        have b16578 : UN (tk.toInt = 0) (fun k => fI H16556 iq k) (fun k => fI s.heap iq k) := UN.tr m16565 by16548_ui
        have b16579 : FB (fun k => fI H16556 iq k) (fun k => fI s.heap iq k) (6) := FB.wr by16548_fb m16564 (fun j hj => by omega)
        have b16580 : EQ (fun k => fI H16556 q4 k) (fun k => fI H16556 iq k) (6) (6) (10) := EQ.wr (EQ.congr (w1 := fun k => fI H16543 iq k) (fun j => fI_kept (x_lt hTH16543 kH16556 gq4 (by decide))) (fun _ => rfl) by16548_e4) m16564 (fun j hj => by omega)
        have b16581 : EQ (fun k => fI H16556 q10 k) (fun k => fI H16556 iq k) (7) (6) (10) := EQ.wr (EQ.congr (w1 := fun k => fI H16543 iq k) (fun j => fI_kept (x_lt hTH16543 kH16556 gq10 (by decide))) (fun _ => rfl) by16548_e10) m16564 (fun j hj => by omega)
        have b16582 : EQ (fun k => fI H16556 q50 k) (fun k => fI H16556 iq k) (11) (6) (10) := EQ.wr (EQ.congr (w1 := fun k => fI H16543 iq k) (fun j => fI_kept (x_lt hTH16543 kH16556 gq50 (by decide))) (fun _ => rfl) by16548_e50) m16564 (fun j hj => by omega)
        have b16583 : EQ (fun k => fI H16556 q16 k) (fun k => fI H16556 iq k) (736) (3) (0) := EQ.wr (EQ.congr (w1 := fun k => fI H16543 iq k) (fun j => fI_kept (x_lt hTH16543 kH16556 gq16 (by decide))) (fun _ => rfl) by16548_e16) m16564 (fun j hj => by omega)
        clear by16548_e10 by16548_e16 by16548_e4 by16548_e50 by16548_fb by16548_u16 by16548_u4 by16548_u50 by16548_ui cy16548_0 cy16548_1 cy16548_2 cy16548_3 cy16548_4 cy16548_5 eq16553 ex16547 ex16555
        clear m16564 m16565
        refine W.eq (g2 := F0 m 212 ls16544 [.int x16557, .int x16546, .ref q16553]) rfl ?_
        refine x_iast C hTH16556 hSH16556 gq16553 rg_118 (by omega) (by show _ < ((30 : Nat) : Int); omega) ⟨by have := i_rng x16557; omega, by have := i_rng x16557; omega⟩ (AE_in gq16553 (by decide)) dX10_keepsBars_212 (fun H16584 locsH16584 hTH16584 hSH16584 wH16584 => ?_)
        have mf16585 : MF K s.heap H16584 a0 [72] := MF.arr wH16584 (G_ne ga0 gq16553 (by decide)) mf16577
        have g16586 : WD (avw K H16584 a0) := WD.congr (fun k hk j => av_arr hTH16556 ga0 wH16584 gq16553 (by decide) (WD_ok 118 (by decide) k hk)) g16560
        have b16587 : UN (tk.toInt ≠ 0) (fun k => fI H16584 q4 k) (fun k => fI s.heap q4 k) := UN.congr (fun j => Wr.neI wH16584 (Or.inl (G_ne gq4 gq16553 (by decide)))) b16566
        have b16588 : UN (tk.toInt ≠ 0) (fun k => fI H16584 q16 k) (fun k => fI s.heap q16 k) := UN.congr (fun j => Wr.neI wH16584 (Or.inl (G_ne gq16 gq16553 (by decide)))) b16567
        have b16589 : UN (tk.toInt ≠ 0) (fun k => fI H16584 q50 k) (fun k => fI s.heap q50 k) := UN.congr (fun j => Wr.neI wH16584 (Or.inl (G_ne gq50 gq16553 (by decide)))) b16568
        have b16590 : UN (tk.toInt = 0) (fun k => fI H16584 iq k) (fun k => fI s.heap iq k) := UN.congr (fun j => Wr.neI wH16584 (Or.inl (G_ne giq gq16553 (by decide)))) b16578
        have b16591 : FB (fun k => fI H16584 iq k) (fun k => fI s.heap iq k) (6) := FB.congr (fun j => Wr.neI wH16584 (Or.inl (G_ne giq gq16553 (by decide)))) b16579
        have b16592 : EQ (fun k => fI H16584 q4 k) (fun k => fI H16584 iq k) (6) (6) (10) := EQ.congr (fun j => Wr.neI wH16584 (Or.inl (G_ne gq4 gq16553 (by decide)))) (fun j => Wr.neI wH16584 (Or.inl (G_ne giq gq16553 (by decide)))) b16580
        have b16593 : EQ (fun k => fI H16584 q10 k) (fun k => fI H16584 iq k) (7) (6) (10) := EQ.congr (fun j => Wr.neI wH16584 (Or.inl (G_ne gq10 gq16553 (by decide)))) (fun j => Wr.neI wH16584 (Or.inl (G_ne giq gq16553 (by decide)))) b16581
        have b16594 : EQ (fun k => fI H16584 q50 k) (fun k => fI H16584 iq k) (11) (6) (10) := EQ.congr (fun j => Wr.neI wH16584 (Or.inl (G_ne gq50 gq16553 (by decide)))) (fun j => Wr.neI wH16584 (Or.inl (G_ne giq gq16553 (by decide)))) b16582
        have b16595 : EQ (fun k => fI H16584 q16 k) (fun k => fI H16584 iq k) (736) (3) (0) := EQ.congr (fun j => Wr.neI wH16584 (Or.inl (G_ne gq16 gq16553 (by decide)))) (fun j => Wr.neI wH16584 (Or.inl (G_ne giq gq16553 (by decide)))) b16583
        have m16597 := m16559.trans (Wr.neR wH16584 (Or.inl (G_ne ga0 gq16553 (by decide)))).symm
        have m16598 := m16571.trans (Wr.neR wH16584 (Or.inl (G_ne ga0 gq16553 (by decide)))).symm
        have m16599 := m16572.trans (Wr.neR wH16584 (Or.inl (G_ne ga0 gq16553 (by decide)))).symm
        have m16600 := m16573.trans (Wr.neR wH16584 (Or.inl (G_ne ga0 gq16553 (by decide)))).symm
        have m16601 := m16574.trans (Wr.neR wH16584 (Or.inl (G_ne ga0 gq16553 (by decide)))).symm
        have m16602 := m16575.trans (Wr.neI wH16584 (Or.inl (G_ne ga0 gq16553 (by decide)))).symm
        have m16603 := m16576.trans (Wr.neR wH16584 (Or.inl (G_ne ga0 gq16553 (by decide)))).symm
        have m16604 := ex16558.trans (Wr.neI wH16584 (Or.inl (G_ne ga0 gq16553 (by decide)))).symm
        have m16605 := Wr.I wH16584
        have m16605 := m16605.symm
        clear b16566 b16567 b16568 b16578 b16579 b16580 b16581 b16582 b16583 ex16558 g16560 hTH16556 m16559 m16569 m16571 m16572 m16573 m16574 m16575 m16576 mf16577
        obtain ⟨x16606, ex16606⟩ : ∃ y : Int32, y = x16546 + 1 := ⟨_, rfl⟩
        have tx16606 := i_add ex16606 (by omega)
        refine lv_iinc (v := x16606) (lv' := [(1, .int x16606), (0, .ref a0)]) hx hb dX10_keepsBars_213 hl16545 (k := 1) rfl (by rw [ex16606]; rfl) (by decide) rfl (fun ls16607 hl16608 => ?_)
        refine lv_goto (tgt := 191) hx hb dX10_keepsBars_216 (by decide) ?_
        exact ih191 ls16607 H16584 locsH16584 (x16606) (x16558) (lv_sub hl16608 [1, 0] rfl) hTH16584 hSH16584 ⟨by have := i_rng x16606; omega, by have := i_rng x16606; omega⟩ ⟨by have := i_rng x16558; omega, by have := i_rng x16558; omega⟩ m16604 m16597 m16598 m16599 m16600 m16601 m16602 b16590 b16591 (EQ.cast b16592 (by omega)) (EQ.cast b16593 (by omega)) (EQ.cast b16594 (by omega)) (EQ.cast b16595 (by omega)) b16587 b16588 b16589 mf16585 g16586 (by omega) (by and_intros <;> first | assumption | omega)
  have J112 : ∀ (nf : Nat) (ls16610 : Array Slot) (H16609 : Heap) (locsH16609 : List Loc) (x16612 : Int32) (x16613 : Int32), lv_has ls16610 2 [(0, .ref a0), (1, .int x16612)] → TY K G H16609 → va_S (AE G [112, 162, 113, 119, 122, 123, 124, 146, 114, 115, 116, 117, 118, 125, 154, 155, 120, 121] s.heap.size) s.heap H16609 locsH16609 → (0 ≤ x16612.toInt ∧ x16612.toInt ≤ 160) → (0 ≤ x16613.toInt ∧ x16613.toInt ≤ 16400) → (x16613 = fI H16609 a0 (K.1.2 10 72)) → (EQN iq (fR H16609 a0 (K.1.2 10 73))) → (EQN q4 (fR H16609 a0 (K.1.2 10 4))) → (EQN q10 (fR H16609 a0 (K.1.2 10 10))) → (EQN q16 (fR H16609 a0 (K.1.2 10 16))) → (EQN q50 (fR H16609 a0 (K.1.2 10 50))) → (tk = fI H16609 a0 (K.1.2 10 71)) → (UN (tk.toInt = 0) (fun k => fI H16609 iq k) (fun k => fI s.heap iq k)) → (FB (fun k => fI H16609 iq k) (fun k => fI s.heap iq k) (6)) → (EQ (fun k => fI H16609 q4 k) (fun k => fI H16609 iq k) (6) (6) (10)) → (EQ (fun k => fI H16609 q10 k) (fun k => fI H16609 iq k) (7) (6) (10)) → (EQ (fun k => fI H16609 q50 k) (fun k => fI H16609 iq k) (11) (6) (10)) → (EQ (fun k => fI H16609 q16 k) (fun k => fI H16609 iq k) (736) (3) (0)) → (UN (tk.toInt ≠ 0) (fun k => fI H16609 q4 k) (fun k => fI s.heap q4 k)) → (UN (tk.toInt ≠ 0) (fun k => fI H16609 q16 k) (fun k => fI s.heap q16 k)) → (UN (tk.toInt ≠ 0) (fun k => fI H16609 q50 k) (fun k => fI s.heap q50 k)) → (MF K s.heap H16609 a0 [72]) → (WD (avw K H16609 a0)) → (160 - x16612.toInt < (nf : Int)) → (x16613.toInt = 66 + 4 * x16612.toInt) → W p l e ({ frames := 1, cells := 0, slots := 0, locals := 21 } : Room) s m (([.ref a0] : List Value).toArray) below meth c H16609 locsH16609 0 0 Q (F0 m 112 ls16610 []) := by
    intro nf
    induction nf with
    | zero =>
      intro ls16610 H16609 locsH16609 x16612 x16613 hl16611 hTH16609 hSH16609 bx16612 bx16613 ex16613 cy16614_0 cy16614_1 cy16614_2 cy16614_3 cy16614_4 cy16614_5 by16614_ui by16614_fb by16614_e4 by16614_e10 by16614_e50 by16614_e16 by16614_u4 by16614_u16 by16614_u50 mfy16614 gy16614_WD hm112 iv112
      exfalso
      omega
    | succ nf ih112 =>
      intro ls16610 H16609 locsH16609 x16612 x16613 hl16611 hTH16609 hSH16609 bx16612 bx16613 ex16613 cy16614_0 cy16614_1 cy16614_2 cy16614_3 cy16614_4 cy16614_5 by16614_ui by16614_fb by16614_e4 by16614_e10 by16614_e50 by16614_e16 by16614_u4 by16614_u16 by16614_u50 mfy16614 gy16614_WD hm112 iv112
      refine lv_iload_n hx hb dX10_keepsBars_112 rfl (lv_at hl16611 1 rfl) ?_
      refine lv_sipush (v := 160) hx hb dX10_keepsBars_113 (by decide) ?_
      refine lv_icmp_ge (tgt := 189) hx hb dX10_keepsBars_116 (by decide) (fun c16615 => ?_) (fun c16615 => ?_)
      · have k16616 := i_le c16615
        refine lv_iconst (v := 0) hx hb dX10_keepsBars_189 (by decide) ?_
        refine lv_istore_n (lv' := [(1, .int 0), (0, .ref a0)]) hx hb dX10_keepsBars_190 rfl hl16611 (by decide) rfl (fun ls16617 hl16618 => ?_)
        have cl00 : (0 : Int32).toNatClampNeg = 0 := rfl
        exact J191 ((30 - (0 : Int32).toInt).toNat + 1) ls16617 H16609 locsH16609 (0) (x16613) (lv_sub hl16618 [1, 0] rfl) hTH16609 hSH16609 (by decide) ⟨by have := i_rng x16613; omega, by have := i_rng x16613; omega⟩ ex16613 cy16614_0 cy16614_1 cy16614_2 cy16614_3 cy16614_4 cy16614_5 by16614_ui by16614_fb (EQ.cast by16614_e4 (by omega)) (EQ.cast by16614_e10 (by omega)) (EQ.cast by16614_e50 (by omega)) (EQ.cast by16614_e16 (by omega)) by16614_u4 by16614_u16 by16614_u50 mfy16614 gy16614_WD (by omega) (by and_intros <;> first | assumption | omega)
      · have k16616 := i_nle c16615
        refine lv_aload_n hx hb dX10_keepsBars_119 rfl (lv_at hl16611 0 rfl) ?_
        refine x_gr C hTH16609 (ci := 10) (k := 5) rfl inX10 (by decide) wF_X10_17 ga0 rg_112 rfl dX10_keepsBars_120 (fun q16619 eq16619 gq16619 => ?_)
        replace eq16619 := EQN.mk eq16619
        refine lv_iload_n hx hb dX10_keepsBars_123 rfl (lv_at hl16611 1 rfl) ?_
        refine lv_aload_n hx hb dX10_keepsBars_124 rfl (lv_at hl16611 0 rfl) ?_
        refine lv_aload_n hx hb dX10_keepsBars_125 rfl (lv_at hl16611 0 rfl) ?_
        refine x_gr C hTH16609 (ci := 10) (k := 5) rfl inX10 (by decide) wF_X10_17 ga0 rg_112 rfl dX10_keepsBars_126 (fun q16620 eq16620 gq16620 => ?_)
        have uq16620 : q16619 = q16620 := (eq16619).trans eq16620.symm
        subst uq16620
        clear eq16620
        refine lv_iload_n hx hb dX10_keepsBars_129 rfl (lv_at hl16611 1 rfl) ?_
        refine x_ai C hTH16609 gq16619 rg_114 ⟨by omega, by show _ < ((160 : Nat) : Int); omega⟩ dX10_keepsBars_130 (fun x16621 ex16621 bx16621 => ?_)
        refine x_V (As := [.int x16621]) (rest := [.int x16612, .ref q16619]) C (a_X10_kept l K G H16609 (x16621) (x16613) (tk) hTH16609 ga0 giq cy16614_0 ex16613 cy16614_5 gy16614_WD (by and_intros <;> first | assumption | omega)) yo_X10_kept wM_X10_473 ⟨⟨by decide, by decide⟩, by decide, by decide⟩ (x_rv C hTH16609 (ci := 10) rfl ga0 rg_112) rfl hl16611.1 rfl (Nat.le_of_ble_eq_true rfl) dX10_keepsBars_131 hSH16609 (AE_sub (fun _ _ => rfl) (by decide) hSH16609.1) (fun vH16622 H16622 locsH16622 pH16622 zH16622 kH16622 hSH16622 => ?_)
        obtain ⟨x16623, x16624, hvH16622, ex16624, hrH16622, m16625, g16626, mf16627, m16628, m16629, m16630, m16631, hTH16622⟩ := pH16622
        subst hvH16622
        clear zH16622
        replace m16625 := EQN.mk m16625
        have b16632 : UN (tk.toInt ≠ 0) (fun k => fI H16622 q4 k) (fun k => fI s.heap q4 k) := UN.congr (fun j => fI_kept (x_lt hTH16609 kH16622 gq4 (by decide))) by16614_u4
        have b16633 : UN (tk.toInt ≠ 0) (fun k => fI H16622 q16 k) (fun k => fI s.heap q16 k) := UN.congr (fun j => fI_kept (x_lt hTH16609 kH16622 gq16 (by decide))) by16614_u16
        have b16634 : UN (tk.toInt ≠ 0) (fun k => fI H16622 q50 k) (fun k => fI s.heap q50 k) := UN.congr (fun j => fI_kept (x_lt hTH16609 kH16622 gq50 (by decide))) by16614_u50
        have m16635 := (ex16621).trans (fI_kept (x_lt hTH16609 kH16622 gq16619 (by decide))).symm
        have m16636 := (cy16614_0).trans (MF.r mf16627 (k := 73) (by decide) (by decide)).symm
        have m16637 := (cy16614_1).trans (MF.r mf16627 (k := 4) (by decide) (by decide)).symm
        have m16638 := (cy16614_2).trans (MF.r mf16627 (k := 10) (by decide) (by decide)).symm
        have m16639 := (cy16614_3).trans (MF.r mf16627 (k := 16) (by decide) (by decide)).symm
        have m16640 := (cy16614_4).trans (MF.r mf16627 (k := 50) (by decide) (by decide)).symm
        have m16641 := (cy16614_5).trans (MF.i mf16627 (k := 71) (by decide) (by decide)).symm
        have m16642 := (eq16619).trans (MF.r mf16627 (k := 5) (by decide) (by decide)).symm
        have mf16643 : MF K s.heap H16622 a0 [72] := MF.trans mfy16614 mf16627 (by decide)
        have bx16624 := ty_fi (x := x16624) (k := 72) ex16624 hTH16622 ga0 rg_112 rfl
        have ce_x16613 := i_cl (x := x16613) (by omega)
        have b16644 : UN (tk.toInt = 0) (fun k => fI H16622 iq k) (fun k => fI s.heap iq k) := UN.tr m16631 by16614_ui
        have b16645 : FB (fun k => fI H16622 iq k) (fun k => fI s.heap iq k) (6) := FB.wr by16614_fb m16630 (fun j hj => by omega)
        have b16646 : EQ (fun k => fI H16622 q4 k) (fun k => fI H16622 iq k) (6) (6) (10) := EQ.wr (EQ.congr (w1 := fun k => fI H16609 iq k) (fun j => fI_kept (x_lt hTH16609 kH16622 gq4 (by decide))) (fun _ => rfl) by16614_e4) m16630 (fun j hj => by omega)
        have b16647 : EQ (fun k => fI H16622 q10 k) (fun k => fI H16622 iq k) (7) (6) (10) := EQ.wr (EQ.congr (w1 := fun k => fI H16609 iq k) (fun j => fI_kept (x_lt hTH16609 kH16622 gq10 (by decide))) (fun _ => rfl) by16614_e10) m16630 (fun j hj => by omega)
        have b16648 : EQ (fun k => fI H16622 q50 k) (fun k => fI H16622 iq k) (11) (6) (10) := EQ.wr (EQ.congr (w1 := fun k => fI H16609 iq k) (fun j => fI_kept (x_lt hTH16609 kH16622 gq50 (by decide))) (fun _ => rfl) by16614_e50) m16630 (fun j hj => by omega)
        have b16649 : EQ (fun k => fI H16622 q16 k) (fun k => fI H16622 iq k) (736) (3) (0) := EQ.wr (EQ.congr (w1 := fun k => fI H16609 iq k) (fun j => fI_kept (x_lt hTH16609 kH16622 gq16 (by decide))) (fun _ => rfl) by16614_e16) m16630 (fun j hj => by omega)
        clear by16614_e10 by16614_e16 by16614_e4 by16614_e50 by16614_fb by16614_u16 by16614_u4 by16614_u50 by16614_ui cy16614_0 cy16614_1 cy16614_2 cy16614_3 cy16614_4 cy16614_5 eq16619 ex16613 ex16621
        clear m16630 m16631
        refine W.eq (g2 := F0 m 134 ls16610 [.int x16623, .int x16612, .ref q16619]) rfl ?_
        refine x_iast C hTH16622 hSH16622 gq16619 rg_114 (by omega) (by show _ < ((160 : Nat) : Int); omega) ⟨by have := i_rng x16623; omega, by have := i_rng x16623; omega⟩ (AE_in gq16619 (by decide)) dX10_keepsBars_134 (fun H16650 locsH16650 hTH16650 hSH16650 wH16650 => ?_)
        have mf16651 : MF K s.heap H16650 a0 [72] := MF.arr wH16650 (G_ne ga0 gq16619 (by decide)) mf16643
        have g16652 : WD (avw K H16650 a0) := WD.congr (fun k hk j => av_arr hTH16622 ga0 wH16650 gq16619 (by decide) (WD_ok 114 (by decide) k hk)) g16626
        have b16653 : UN (tk.toInt ≠ 0) (fun k => fI H16650 q4 k) (fun k => fI s.heap q4 k) := UN.congr (fun j => Wr.neI wH16650 (Or.inl (G_ne gq4 gq16619 (by decide)))) b16632
        have b16654 : UN (tk.toInt ≠ 0) (fun k => fI H16650 q16 k) (fun k => fI s.heap q16 k) := UN.congr (fun j => Wr.neI wH16650 (Or.inl (G_ne gq16 gq16619 (by decide)))) b16633
        have b16655 : UN (tk.toInt ≠ 0) (fun k => fI H16650 q50 k) (fun k => fI s.heap q50 k) := UN.congr (fun j => Wr.neI wH16650 (Or.inl (G_ne gq50 gq16619 (by decide)))) b16634
        have b16656 : UN (tk.toInt = 0) (fun k => fI H16650 iq k) (fun k => fI s.heap iq k) := UN.congr (fun j => Wr.neI wH16650 (Or.inl (G_ne giq gq16619 (by decide)))) b16644
        have b16657 : FB (fun k => fI H16650 iq k) (fun k => fI s.heap iq k) (6) := FB.congr (fun j => Wr.neI wH16650 (Or.inl (G_ne giq gq16619 (by decide)))) b16645
        have b16658 : EQ (fun k => fI H16650 q4 k) (fun k => fI H16650 iq k) (6) (6) (10) := EQ.congr (fun j => Wr.neI wH16650 (Or.inl (G_ne gq4 gq16619 (by decide)))) (fun j => Wr.neI wH16650 (Or.inl (G_ne giq gq16619 (by decide)))) b16646
        have b16659 : EQ (fun k => fI H16650 q10 k) (fun k => fI H16650 iq k) (7) (6) (10) := EQ.congr (fun j => Wr.neI wH16650 (Or.inl (G_ne gq10 gq16619 (by decide)))) (fun j => Wr.neI wH16650 (Or.inl (G_ne giq gq16619 (by decide)))) b16647
        have b16660 : EQ (fun k => fI H16650 q50 k) (fun k => fI H16650 iq k) (11) (6) (10) := EQ.congr (fun j => Wr.neI wH16650 (Or.inl (G_ne gq50 gq16619 (by decide)))) (fun j => Wr.neI wH16650 (Or.inl (G_ne giq gq16619 (by decide)))) b16648
        have b16661 : EQ (fun k => fI H16650 q16 k) (fun k => fI H16650 iq k) (736) (3) (0) := EQ.congr (fun j => Wr.neI wH16650 (Or.inl (G_ne gq16 gq16619 (by decide)))) (fun j => Wr.neI wH16650 (Or.inl (G_ne giq gq16619 (by decide)))) b16649
        have m16663 := m16625.trans (Wr.neR wH16650 (Or.inl (G_ne ga0 gq16619 (by decide)))).symm
        have m16664 := m16637.trans (Wr.neR wH16650 (Or.inl (G_ne ga0 gq16619 (by decide)))).symm
        have m16665 := m16638.trans (Wr.neR wH16650 (Or.inl (G_ne ga0 gq16619 (by decide)))).symm
        have m16666 := m16639.trans (Wr.neR wH16650 (Or.inl (G_ne ga0 gq16619 (by decide)))).symm
        have m16667 := m16640.trans (Wr.neR wH16650 (Or.inl (G_ne ga0 gq16619 (by decide)))).symm
        have m16668 := m16641.trans (Wr.neI wH16650 (Or.inl (G_ne ga0 gq16619 (by decide)))).symm
        have m16669 := m16642.trans (Wr.neR wH16650 (Or.inl (G_ne ga0 gq16619 (by decide)))).symm
        have m16670 := ex16624.trans (Wr.neI wH16650 (Or.inl (G_ne ga0 gq16619 (by decide)))).symm
        have m16671 := Wr.I wH16650
        have m16671 := m16671.symm
        clear b16632 b16633 b16634 b16644 b16645 b16646 b16647 b16648 b16649 ex16624 g16626 hTH16622 m16625 m16635 m16637 m16638 m16639 m16640 m16641 m16642 mf16643
        refine lv_aload_n hx hb dX10_keepsBars_135 rfl (lv_at hl16611 0 rfl) ?_
        refine x_gr C hTH16650 (ci := 10) (k := 6) rfl inX10 (by decide) wF_X10_20 ga0 rg_112 rfl dX10_keepsBars_136 (fun q16672 eq16672 gq16672 => ?_)
        replace eq16672 := EQN.mk eq16672
        refine lv_iload_n hx hb dX10_keepsBars_139 rfl (lv_at hl16611 1 rfl) ?_
        refine lv_aload_n hx hb dX10_keepsBars_140 rfl (lv_at hl16611 0 rfl) ?_
        refine lv_aload_n hx hb dX10_keepsBars_141 rfl (lv_at hl16611 0 rfl) ?_
        refine x_gr C hTH16650 (ci := 10) (k := 6) rfl inX10 (by decide) wF_X10_20 ga0 rg_112 rfl dX10_keepsBars_142 (fun q16673 eq16673 gq16673 => ?_)
        have uq16673 : q16672 = q16673 := (eq16672).trans eq16673.symm
        subst uq16673
        clear eq16673
        refine lv_iload_n hx hb dX10_keepsBars_145 rfl (lv_at hl16611 1 rfl) ?_
        refine x_ai C hTH16650 gq16672 rg_115 ⟨by omega, by show _ < ((160 : Nat) : Int); omega⟩ dX10_keepsBars_146 (fun x16674 ex16674 bx16674 => ?_)
        refine x_V (As := [.int x16674]) (rest := [.int x16612, .ref q16672]) C (a_X10_kept l K G H16650 (x16674) (x16624) (tk) hTH16650 ga0 giq m16663 m16670 m16668 g16652 (by and_intros <;> first | assumption | omega)) yo_X10_kept wM_X10_473 ⟨⟨by decide, by decide⟩, by decide, by decide⟩ (x_rv C hTH16650 (ci := 10) rfl ga0 rg_112) rfl hl16611.1 rfl (Nat.le_of_ble_eq_true rfl) dX10_keepsBars_147 hSH16650 (AE_sub (fun _ _ => rfl) (by decide) hSH16650.1) (fun vH16675 H16675 locsH16675 pH16675 zH16675 kH16675 hSH16675 => ?_)
        obtain ⟨x16676, x16677, hvH16675, ex16677, hrH16675, m16678, g16679, mf16680, m16681, m16682, m16683, m16684, hTH16675⟩ := pH16675
        subst hvH16675
        clear zH16675
        replace m16678 := EQN.mk m16678
        have b16685 : UN (tk.toInt ≠ 0) (fun k => fI H16675 q4 k) (fun k => fI s.heap q4 k) := UN.congr (fun j => fI_kept (x_lt hTH16650 kH16675 gq4 (by decide))) b16653
        have b16686 : UN (tk.toInt ≠ 0) (fun k => fI H16675 q16 k) (fun k => fI s.heap q16 k) := UN.congr (fun j => fI_kept (x_lt hTH16650 kH16675 gq16 (by decide))) b16654
        have b16687 : UN (tk.toInt ≠ 0) (fun k => fI H16675 q50 k) (fun k => fI s.heap q50 k) := UN.congr (fun j => fI_kept (x_lt hTH16650 kH16675 gq50 (by decide))) b16655
        have m16688 := (m16671).trans (fI_kept (x_lt hTH16650 kH16675 gq16619 (by decide))).symm
        have m16689 := (ex16674).trans (fI_kept (x_lt hTH16650 kH16675 gq16672 (by decide))).symm
        have m16690 := (m16663).trans (MF.r mf16680 (k := 73) (by decide) (by decide)).symm
        have m16691 := (m16664).trans (MF.r mf16680 (k := 4) (by decide) (by decide)).symm
        have m16692 := (m16665).trans (MF.r mf16680 (k := 10) (by decide) (by decide)).symm
        have m16693 := (m16666).trans (MF.r mf16680 (k := 16) (by decide) (by decide)).symm
        have m16694 := (m16667).trans (MF.r mf16680 (k := 50) (by decide) (by decide)).symm
        have m16695 := (m16668).trans (MF.i mf16680 (k := 71) (by decide) (by decide)).symm
        have m16696 := (m16669).trans (MF.r mf16680 (k := 5) (by decide) (by decide)).symm
        have m16697 := (eq16672).trans (MF.r mf16680 (k := 6) (by decide) (by decide)).symm
        have mf16698 : MF K s.heap H16675 a0 [72] := MF.trans mf16651 mf16680 (by decide)
        have bx16677 := ty_fi (x := x16677) (k := 72) ex16677 hTH16675 ga0 rg_112 rfl
        have ce_x16624 := i_cl (x := x16624) (by omega)
        have b16699 : UN (tk.toInt = 0) (fun k => fI H16675 iq k) (fun k => fI s.heap iq k) := UN.tr m16684 b16656
        have b16700 : FB (fun k => fI H16675 iq k) (fun k => fI s.heap iq k) (6) := FB.wr b16657 m16683 (fun j hj => by omega)
        have b16701 : EQ (fun k => fI H16675 q4 k) (fun k => fI H16675 iq k) (6) (6) (10) := EQ.wr (EQ.congr (w1 := fun k => fI H16650 iq k) (fun j => fI_kept (x_lt hTH16650 kH16675 gq4 (by decide))) (fun _ => rfl) b16658) m16683 (fun j hj => by omega)
        have b16702 : EQ (fun k => fI H16675 q10 k) (fun k => fI H16675 iq k) (7) (6) (10) := EQ.wr (EQ.congr (w1 := fun k => fI H16650 iq k) (fun j => fI_kept (x_lt hTH16650 kH16675 gq10 (by decide))) (fun _ => rfl) b16659) m16683 (fun j hj => by omega)
        have b16703 : EQ (fun k => fI H16675 q50 k) (fun k => fI H16675 iq k) (11) (6) (10) := EQ.wr (EQ.congr (w1 := fun k => fI H16650 iq k) (fun j => fI_kept (x_lt hTH16650 kH16675 gq50 (by decide))) (fun _ => rfl) b16660) m16683 (fun j hj => by omega)
        have b16704 : EQ (fun k => fI H16675 q16 k) (fun k => fI H16675 iq k) (736) (3) (0) := EQ.wr (EQ.congr (w1 := fun k => fI H16650 iq k) (fun j => fI_kept (x_lt hTH16650 kH16675 gq16 (by decide))) (fun _ => rfl) b16661) m16683 (fun j hj => by omega)
        clear b16653 b16654 b16655 b16656 b16657 b16658 b16659 b16660 b16661 eq16672 ex16674 m16663 m16664 m16665 m16666 m16667 m16668 m16669 m16670 m16671
        clear m16683 m16684
        refine W.eq (g2 := F0 m 150 ls16610 [.int x16676, .int x16612, .ref q16672]) rfl ?_
        refine x_iast C hTH16675 hSH16675 gq16672 rg_115 (by omega) (by show _ < ((160 : Nat) : Int); omega) ⟨by have := i_rng x16676; omega, by have := i_rng x16676; omega⟩ (AE_in gq16672 (by decide)) dX10_keepsBars_150 (fun H16705 locsH16705 hTH16705 hSH16705 wH16705 => ?_)
        have mf16706 : MF K s.heap H16705 a0 [72] := MF.arr wH16705 (G_ne ga0 gq16672 (by decide)) mf16698
        have g16707 : WD (avw K H16705 a0) := WD.congr (fun k hk j => av_arr hTH16675 ga0 wH16705 gq16672 (by decide) (WD_ok 115 (by decide) k hk)) g16679
        have b16708 : UN (tk.toInt ≠ 0) (fun k => fI H16705 q4 k) (fun k => fI s.heap q4 k) := UN.congr (fun j => Wr.neI wH16705 (Or.inl (G_ne gq4 gq16672 (by decide)))) b16685
        have b16709 : UN (tk.toInt ≠ 0) (fun k => fI H16705 q16 k) (fun k => fI s.heap q16 k) := UN.congr (fun j => Wr.neI wH16705 (Or.inl (G_ne gq16 gq16672 (by decide)))) b16686
        have b16710 : UN (tk.toInt ≠ 0) (fun k => fI H16705 q50 k) (fun k => fI s.heap q50 k) := UN.congr (fun j => Wr.neI wH16705 (Or.inl (G_ne gq50 gq16672 (by decide)))) b16687
        have b16711 : UN (tk.toInt = 0) (fun k => fI H16705 iq k) (fun k => fI s.heap iq k) := UN.congr (fun j => Wr.neI wH16705 (Or.inl (G_ne giq gq16672 (by decide)))) b16699
        have b16712 : FB (fun k => fI H16705 iq k) (fun k => fI s.heap iq k) (6) := FB.congr (fun j => Wr.neI wH16705 (Or.inl (G_ne giq gq16672 (by decide)))) b16700
        have b16713 : EQ (fun k => fI H16705 q4 k) (fun k => fI H16705 iq k) (6) (6) (10) := EQ.congr (fun j => Wr.neI wH16705 (Or.inl (G_ne gq4 gq16672 (by decide)))) (fun j => Wr.neI wH16705 (Or.inl (G_ne giq gq16672 (by decide)))) b16701
        have b16714 : EQ (fun k => fI H16705 q10 k) (fun k => fI H16705 iq k) (7) (6) (10) := EQ.congr (fun j => Wr.neI wH16705 (Or.inl (G_ne gq10 gq16672 (by decide)))) (fun j => Wr.neI wH16705 (Or.inl (G_ne giq gq16672 (by decide)))) b16702
        have b16715 : EQ (fun k => fI H16705 q50 k) (fun k => fI H16705 iq k) (11) (6) (10) := EQ.congr (fun j => Wr.neI wH16705 (Or.inl (G_ne gq50 gq16672 (by decide)))) (fun j => Wr.neI wH16705 (Or.inl (G_ne giq gq16672 (by decide)))) b16703
        have b16716 : EQ (fun k => fI H16705 q16 k) (fun k => fI H16705 iq k) (736) (3) (0) := EQ.congr (fun j => Wr.neI wH16705 (Or.inl (G_ne gq16 gq16672 (by decide)))) (fun j => Wr.neI wH16705 (Or.inl (G_ne giq gq16672 (by decide)))) b16704
        have m16717 := m16688.trans (Wr.neI wH16705 (Or.inl (G_ne gq16619 gq16672 (by decide)))).symm
        have m16719 := m16678.trans (Wr.neR wH16705 (Or.inl (G_ne ga0 gq16672 (by decide)))).symm
        have m16720 := m16691.trans (Wr.neR wH16705 (Or.inl (G_ne ga0 gq16672 (by decide)))).symm
        have m16721 := m16692.trans (Wr.neR wH16705 (Or.inl (G_ne ga0 gq16672 (by decide)))).symm
        have m16722 := m16693.trans (Wr.neR wH16705 (Or.inl (G_ne ga0 gq16672 (by decide)))).symm
        have m16723 := m16694.trans (Wr.neR wH16705 (Or.inl (G_ne ga0 gq16672 (by decide)))).symm
        have m16724 := m16695.trans (Wr.neI wH16705 (Or.inl (G_ne ga0 gq16672 (by decide)))).symm
        have m16725 := m16696.trans (Wr.neR wH16705 (Or.inl (G_ne ga0 gq16672 (by decide)))).symm
        have m16726 := m16697.trans (Wr.neR wH16705 (Or.inl (G_ne ga0 gq16672 (by decide)))).symm
        have m16727 := ex16677.trans (Wr.neI wH16705 (Or.inl (G_ne ga0 gq16672 (by decide)))).symm
        have m16728 := Wr.I wH16705
        have m16728 := m16728.symm
        clear b16685 b16686 b16687 b16699 b16700 b16701 b16702 b16703 b16704 ex16677 g16679 hTH16675 m16678 m16688 m16689 m16691 m16692 m16693 m16694 m16695 m16696 m16697 mf16698
        refine lv_aload_n hx hb dX10_keepsBars_151 rfl (lv_at hl16611 0 rfl) ?_
        refine x_gr C hTH16705 (ci := 10) (k := 7) rfl inX10 (by decide) wF_X10_23 ga0 rg_112 rfl dX10_keepsBars_152 (fun q16729 eq16729 gq16729 => ?_)
        replace eq16729 := EQN.mk eq16729
        refine lv_iload_n hx hb dX10_keepsBars_155 rfl (lv_at hl16611 1 rfl) ?_
        refine lv_aload_n hx hb dX10_keepsBars_156 rfl (lv_at hl16611 0 rfl) ?_
        refine lv_aload_n hx hb dX10_keepsBars_157 rfl (lv_at hl16611 0 rfl) ?_
        refine x_gr C hTH16705 (ci := 10) (k := 7) rfl inX10 (by decide) wF_X10_23 ga0 rg_112 rfl dX10_keepsBars_158 (fun q16730 eq16730 gq16730 => ?_)
        have uq16730 : q16729 = q16730 := (eq16729).trans eq16730.symm
        subst uq16730
        clear eq16730
        refine lv_iload_n hx hb dX10_keepsBars_161 rfl (lv_at hl16611 1 rfl) ?_
        refine x_ai C hTH16705 gq16729 rg_116 ⟨by omega, by show _ < ((160 : Nat) : Int); omega⟩ dX10_keepsBars_162 (fun x16731 ex16731 bx16731 => ?_)
        refine x_V (As := [.int x16731]) (rest := [.int x16612, .ref q16729]) C (a_X10_kept l K G H16705 (x16731) (x16677) (tk) hTH16705 ga0 giq m16719 m16727 m16724 g16707 (by and_intros <;> first | assumption | omega)) yo_X10_kept wM_X10_473 ⟨⟨by decide, by decide⟩, by decide, by decide⟩ (x_rv C hTH16705 (ci := 10) rfl ga0 rg_112) rfl hl16611.1 rfl (Nat.le_of_ble_eq_true rfl) dX10_keepsBars_163 hSH16705 (AE_sub (fun _ _ => rfl) (by decide) hSH16705.1) (fun vH16732 H16732 locsH16732 pH16732 zH16732 kH16732 hSH16732 => ?_)
        obtain ⟨x16733, x16734, hvH16732, ex16734, hrH16732, m16735, g16736, mf16737, m16738, m16739, m16740, m16741, hTH16732⟩ := pH16732
        subst hvH16732
        clear zH16732
        replace m16735 := EQN.mk m16735
        have b16742 : UN (tk.toInt ≠ 0) (fun k => fI H16732 q4 k) (fun k => fI s.heap q4 k) := UN.congr (fun j => fI_kept (x_lt hTH16705 kH16732 gq4 (by decide))) b16708
        have b16743 : UN (tk.toInt ≠ 0) (fun k => fI H16732 q16 k) (fun k => fI s.heap q16 k) := UN.congr (fun j => fI_kept (x_lt hTH16705 kH16732 gq16 (by decide))) b16709
        have b16744 : UN (tk.toInt ≠ 0) (fun k => fI H16732 q50 k) (fun k => fI s.heap q50 k) := UN.congr (fun j => fI_kept (x_lt hTH16705 kH16732 gq50 (by decide))) b16710
        have m16745 := (m16717).trans (fI_kept (x_lt hTH16705 kH16732 gq16619 (by decide))).symm
        have m16746 := (m16728).trans (fI_kept (x_lt hTH16705 kH16732 gq16672 (by decide))).symm
        have m16747 := (ex16731).trans (fI_kept (x_lt hTH16705 kH16732 gq16729 (by decide))).symm
        have m16748 := (m16719).trans (MF.r mf16737 (k := 73) (by decide) (by decide)).symm
        have m16749 := (m16720).trans (MF.r mf16737 (k := 4) (by decide) (by decide)).symm
        have m16750 := (m16721).trans (MF.r mf16737 (k := 10) (by decide) (by decide)).symm
        have m16751 := (m16722).trans (MF.r mf16737 (k := 16) (by decide) (by decide)).symm
        have m16752 := (m16723).trans (MF.r mf16737 (k := 50) (by decide) (by decide)).symm
        have m16753 := (m16724).trans (MF.i mf16737 (k := 71) (by decide) (by decide)).symm
        have m16754 := (m16725).trans (MF.r mf16737 (k := 5) (by decide) (by decide)).symm
        have m16755 := (m16726).trans (MF.r mf16737 (k := 6) (by decide) (by decide)).symm
        have m16756 := (eq16729).trans (MF.r mf16737 (k := 7) (by decide) (by decide)).symm
        have mf16757 : MF K s.heap H16732 a0 [72] := MF.trans mf16706 mf16737 (by decide)
        have bx16734 := ty_fi (x := x16734) (k := 72) ex16734 hTH16732 ga0 rg_112 rfl
        have ce_x16677 := i_cl (x := x16677) (by omega)
        have b16758 : UN (tk.toInt = 0) (fun k => fI H16732 iq k) (fun k => fI s.heap iq k) := UN.tr m16741 b16711
        have b16759 : FB (fun k => fI H16732 iq k) (fun k => fI s.heap iq k) (6) := FB.wr b16712 m16740 (fun j hj => by omega)
        have b16760 : EQ (fun k => fI H16732 q4 k) (fun k => fI H16732 iq k) (6) (6) (10) := EQ.wr (EQ.congr (w1 := fun k => fI H16705 iq k) (fun j => fI_kept (x_lt hTH16705 kH16732 gq4 (by decide))) (fun _ => rfl) b16713) m16740 (fun j hj => by omega)
        have b16761 : EQ (fun k => fI H16732 q10 k) (fun k => fI H16732 iq k) (7) (6) (10) := EQ.wr (EQ.congr (w1 := fun k => fI H16705 iq k) (fun j => fI_kept (x_lt hTH16705 kH16732 gq10 (by decide))) (fun _ => rfl) b16714) m16740 (fun j hj => by omega)
        have b16762 : EQ (fun k => fI H16732 q50 k) (fun k => fI H16732 iq k) (11) (6) (10) := EQ.wr (EQ.congr (w1 := fun k => fI H16705 iq k) (fun j => fI_kept (x_lt hTH16705 kH16732 gq50 (by decide))) (fun _ => rfl) b16715) m16740 (fun j hj => by omega)
        have b16763 : EQ (fun k => fI H16732 q16 k) (fun k => fI H16732 iq k) (736) (3) (0) := EQ.wr (EQ.congr (w1 := fun k => fI H16705 iq k) (fun j => fI_kept (x_lt hTH16705 kH16732 gq16 (by decide))) (fun _ => rfl) b16716) m16740 (fun j hj => by omega)
        clear b16708 b16709 b16710 b16711 b16712 b16713 b16714 b16715 b16716 eq16729 ex16731 m16717 m16719 m16720 m16721 m16722 m16723 m16724 m16725 m16726 m16727 m16728
        clear m16740 m16741
        refine W.eq (g2 := F0 m 166 ls16610 [.int x16733, .int x16612, .ref q16729]) rfl ?_
        refine x_iast C hTH16732 hSH16732 gq16729 rg_116 (by omega) (by show _ < ((160 : Nat) : Int); omega) ⟨by have := i_rng x16733; omega, by have := i_rng x16733; omega⟩ (AE_in gq16729 (by decide)) dX10_keepsBars_166 (fun H16764 locsH16764 hTH16764 hSH16764 wH16764 => ?_)
        have mf16765 : MF K s.heap H16764 a0 [72] := MF.arr wH16764 (G_ne ga0 gq16729 (by decide)) mf16757
        have g16766 : WD (avw K H16764 a0) := WD.congr (fun k hk j => av_arr hTH16732 ga0 wH16764 gq16729 (by decide) (WD_ok 116 (by decide) k hk)) g16736
        have b16767 : UN (tk.toInt ≠ 0) (fun k => fI H16764 q4 k) (fun k => fI s.heap q4 k) := UN.congr (fun j => Wr.neI wH16764 (Or.inl (G_ne gq4 gq16729 (by decide)))) b16742
        have b16768 : UN (tk.toInt ≠ 0) (fun k => fI H16764 q16 k) (fun k => fI s.heap q16 k) := UN.congr (fun j => Wr.neI wH16764 (Or.inl (G_ne gq16 gq16729 (by decide)))) b16743
        have b16769 : UN (tk.toInt ≠ 0) (fun k => fI H16764 q50 k) (fun k => fI s.heap q50 k) := UN.congr (fun j => Wr.neI wH16764 (Or.inl (G_ne gq50 gq16729 (by decide)))) b16744
        have b16770 : UN (tk.toInt = 0) (fun k => fI H16764 iq k) (fun k => fI s.heap iq k) := UN.congr (fun j => Wr.neI wH16764 (Or.inl (G_ne giq gq16729 (by decide)))) b16758
        have b16771 : FB (fun k => fI H16764 iq k) (fun k => fI s.heap iq k) (6) := FB.congr (fun j => Wr.neI wH16764 (Or.inl (G_ne giq gq16729 (by decide)))) b16759
        have b16772 : EQ (fun k => fI H16764 q4 k) (fun k => fI H16764 iq k) (6) (6) (10) := EQ.congr (fun j => Wr.neI wH16764 (Or.inl (G_ne gq4 gq16729 (by decide)))) (fun j => Wr.neI wH16764 (Or.inl (G_ne giq gq16729 (by decide)))) b16760
        have b16773 : EQ (fun k => fI H16764 q10 k) (fun k => fI H16764 iq k) (7) (6) (10) := EQ.congr (fun j => Wr.neI wH16764 (Or.inl (G_ne gq10 gq16729 (by decide)))) (fun j => Wr.neI wH16764 (Or.inl (G_ne giq gq16729 (by decide)))) b16761
        have b16774 : EQ (fun k => fI H16764 q50 k) (fun k => fI H16764 iq k) (11) (6) (10) := EQ.congr (fun j => Wr.neI wH16764 (Or.inl (G_ne gq50 gq16729 (by decide)))) (fun j => Wr.neI wH16764 (Or.inl (G_ne giq gq16729 (by decide)))) b16762
        have b16775 : EQ (fun k => fI H16764 q16 k) (fun k => fI H16764 iq k) (736) (3) (0) := EQ.congr (fun j => Wr.neI wH16764 (Or.inl (G_ne gq16 gq16729 (by decide)))) (fun j => Wr.neI wH16764 (Or.inl (G_ne giq gq16729 (by decide)))) b16763
        have m16776 := m16745.trans (Wr.neI wH16764 (Or.inl (G_ne gq16619 gq16729 (by decide)))).symm
        have m16777 := m16746.trans (Wr.neI wH16764 (Or.inl (G_ne gq16672 gq16729 (by decide)))).symm
        have m16779 := m16735.trans (Wr.neR wH16764 (Or.inl (G_ne ga0 gq16729 (by decide)))).symm
        have m16780 := m16749.trans (Wr.neR wH16764 (Or.inl (G_ne ga0 gq16729 (by decide)))).symm
        have m16781 := m16750.trans (Wr.neR wH16764 (Or.inl (G_ne ga0 gq16729 (by decide)))).symm
        have m16782 := m16751.trans (Wr.neR wH16764 (Or.inl (G_ne ga0 gq16729 (by decide)))).symm
        have m16783 := m16752.trans (Wr.neR wH16764 (Or.inl (G_ne ga0 gq16729 (by decide)))).symm
        have m16784 := m16753.trans (Wr.neI wH16764 (Or.inl (G_ne ga0 gq16729 (by decide)))).symm
        have m16785 := m16754.trans (Wr.neR wH16764 (Or.inl (G_ne ga0 gq16729 (by decide)))).symm
        have m16786 := m16755.trans (Wr.neR wH16764 (Or.inl (G_ne ga0 gq16729 (by decide)))).symm
        have m16787 := m16756.trans (Wr.neR wH16764 (Or.inl (G_ne ga0 gq16729 (by decide)))).symm
        have m16788 := ex16734.trans (Wr.neI wH16764 (Or.inl (G_ne ga0 gq16729 (by decide)))).symm
        have m16789 := Wr.I wH16764
        have m16789 := m16789.symm
        clear b16742 b16743 b16744 b16758 b16759 b16760 b16761 b16762 b16763 ex16734 g16736 hTH16732 m16735 m16745 m16746 m16747 m16749 m16750 m16751 m16752 m16753 m16754 m16755 m16756 mf16757
        refine lv_aload_n hx hb dX10_keepsBars_167 rfl (lv_at hl16611 0 rfl) ?_
        refine x_gr C hTH16764 (ci := 10) (k := 8) rfl inX10 (by decide) wF_X10_26 ga0 rg_112 rfl dX10_keepsBars_168 (fun q16790 eq16790 gq16790 => ?_)
        replace eq16790 := EQN.mk eq16790
        refine lv_iload_n hx hb dX10_keepsBars_171 rfl (lv_at hl16611 1 rfl) ?_
        refine lv_aload_n hx hb dX10_keepsBars_172 rfl (lv_at hl16611 0 rfl) ?_
        refine lv_aload_n hx hb dX10_keepsBars_173 rfl (lv_at hl16611 0 rfl) ?_
        refine x_gr C hTH16764 (ci := 10) (k := 8) rfl inX10 (by decide) wF_X10_26 ga0 rg_112 rfl dX10_keepsBars_174 (fun q16791 eq16791 gq16791 => ?_)
        have uq16791 : q16790 = q16791 := (eq16790).trans eq16791.symm
        subst uq16791
        clear eq16791
        refine lv_iload_n hx hb dX10_keepsBars_177 rfl (lv_at hl16611 1 rfl) ?_
        refine x_ai C hTH16764 gq16790 rg_117 ⟨by omega, by show _ < ((160 : Nat) : Int); omega⟩ dX10_keepsBars_178 (fun x16792 ex16792 bx16792 => ?_)
        refine x_V (As := [.int x16792]) (rest := [.int x16612, .ref q16790]) C (a_X10_kept l K G H16764 (x16792) (x16734) (tk) hTH16764 ga0 giq m16779 m16788 m16784 g16766 (by and_intros <;> first | assumption | omega)) yo_X10_kept wM_X10_473 ⟨⟨by decide, by decide⟩, by decide, by decide⟩ (x_rv C hTH16764 (ci := 10) rfl ga0 rg_112) rfl hl16611.1 rfl (Nat.le_of_ble_eq_true rfl) dX10_keepsBars_179 hSH16764 (AE_sub (fun _ _ => rfl) (by decide) hSH16764.1) (fun vH16793 H16793 locsH16793 pH16793 zH16793 kH16793 hSH16793 => ?_)
        obtain ⟨x16794, x16795, hvH16793, ex16795, hrH16793, m16796, g16797, mf16798, m16799, m16800, m16801, m16802, hTH16793⟩ := pH16793
        subst hvH16793
        clear zH16793
        replace m16796 := EQN.mk m16796
        have b16803 : UN (tk.toInt ≠ 0) (fun k => fI H16793 q4 k) (fun k => fI s.heap q4 k) := UN.congr (fun j => fI_kept (x_lt hTH16764 kH16793 gq4 (by decide))) b16767
        have b16804 : UN (tk.toInt ≠ 0) (fun k => fI H16793 q16 k) (fun k => fI s.heap q16 k) := UN.congr (fun j => fI_kept (x_lt hTH16764 kH16793 gq16 (by decide))) b16768
        have b16805 : UN (tk.toInt ≠ 0) (fun k => fI H16793 q50 k) (fun k => fI s.heap q50 k) := UN.congr (fun j => fI_kept (x_lt hTH16764 kH16793 gq50 (by decide))) b16769
        have m16806 := (m16776).trans (fI_kept (x_lt hTH16764 kH16793 gq16619 (by decide))).symm
        have m16807 := (m16777).trans (fI_kept (x_lt hTH16764 kH16793 gq16672 (by decide))).symm
        have m16808 := (m16789).trans (fI_kept (x_lt hTH16764 kH16793 gq16729 (by decide))).symm
        have m16809 := (ex16792).trans (fI_kept (x_lt hTH16764 kH16793 gq16790 (by decide))).symm
        have m16810 := (m16779).trans (MF.r mf16798 (k := 73) (by decide) (by decide)).symm
        have m16811 := (m16780).trans (MF.r mf16798 (k := 4) (by decide) (by decide)).symm
        have m16812 := (m16781).trans (MF.r mf16798 (k := 10) (by decide) (by decide)).symm
        have m16813 := (m16782).trans (MF.r mf16798 (k := 16) (by decide) (by decide)).symm
        have m16814 := (m16783).trans (MF.r mf16798 (k := 50) (by decide) (by decide)).symm
        have m16815 := (m16784).trans (MF.i mf16798 (k := 71) (by decide) (by decide)).symm
        have m16816 := (m16785).trans (MF.r mf16798 (k := 5) (by decide) (by decide)).symm
        have m16817 := (m16786).trans (MF.r mf16798 (k := 6) (by decide) (by decide)).symm
        have m16818 := (m16787).trans (MF.r mf16798 (k := 7) (by decide) (by decide)).symm
        have m16819 := (eq16790).trans (MF.r mf16798 (k := 8) (by decide) (by decide)).symm
        have mf16820 : MF K s.heap H16793 a0 [72] := MF.trans mf16765 mf16798 (by decide)
        have bx16795 := ty_fi (x := x16795) (k := 72) ex16795 hTH16793 ga0 rg_112 rfl
        have ce_x16734 := i_cl (x := x16734) (by omega)
        have b16821 : UN (tk.toInt = 0) (fun k => fI H16793 iq k) (fun k => fI s.heap iq k) := UN.tr m16802 b16770
        have b16822 : FB (fun k => fI H16793 iq k) (fun k => fI s.heap iq k) (6) := FB.wr b16771 m16801 (fun j hj => by omega)
        have b16823 : EQ (fun k => fI H16793 q4 k) (fun k => fI H16793 iq k) (6) (6) (10) := EQ.wr (EQ.congr (w1 := fun k => fI H16764 iq k) (fun j => fI_kept (x_lt hTH16764 kH16793 gq4 (by decide))) (fun _ => rfl) b16772) m16801 (fun j hj => by omega)
        have b16824 : EQ (fun k => fI H16793 q10 k) (fun k => fI H16793 iq k) (7) (6) (10) := EQ.wr (EQ.congr (w1 := fun k => fI H16764 iq k) (fun j => fI_kept (x_lt hTH16764 kH16793 gq10 (by decide))) (fun _ => rfl) b16773) m16801 (fun j hj => by omega)
        have b16825 : EQ (fun k => fI H16793 q50 k) (fun k => fI H16793 iq k) (11) (6) (10) := EQ.wr (EQ.congr (w1 := fun k => fI H16764 iq k) (fun j => fI_kept (x_lt hTH16764 kH16793 gq50 (by decide))) (fun _ => rfl) b16774) m16801 (fun j hj => by omega)
        have b16826 : EQ (fun k => fI H16793 q16 k) (fun k => fI H16793 iq k) (736) (3) (0) := EQ.wr (EQ.congr (w1 := fun k => fI H16764 iq k) (fun j => fI_kept (x_lt hTH16764 kH16793 gq16 (by decide))) (fun _ => rfl) b16775) m16801 (fun j hj => by omega)
        clear b16767 b16768 b16769 b16770 b16771 b16772 b16773 b16774 b16775 eq16790 ex16792 m16776 m16777 m16779 m16780 m16781 m16782 m16783 m16784 m16785 m16786 m16787 m16788 m16789
        clear m16801 m16802
        refine W.eq (g2 := F0 m 182 ls16610 [.int x16794, .int x16612, .ref q16790]) rfl ?_
        refine x_iast C hTH16793 hSH16793 gq16790 rg_117 (by omega) (by show _ < ((160 : Nat) : Int); omega) ⟨by have := i_rng x16794; omega, by have := i_rng x16794; omega⟩ (AE_in gq16790 (by decide)) dX10_keepsBars_182 (fun H16827 locsH16827 hTH16827 hSH16827 wH16827 => ?_)
        have mf16828 : MF K s.heap H16827 a0 [72] := MF.arr wH16827 (G_ne ga0 gq16790 (by decide)) mf16820
        have g16829 : WD (avw K H16827 a0) := WD.congr (fun k hk j => av_arr hTH16793 ga0 wH16827 gq16790 (by decide) (WD_ok 117 (by decide) k hk)) g16797
        have b16830 : UN (tk.toInt ≠ 0) (fun k => fI H16827 q4 k) (fun k => fI s.heap q4 k) := UN.congr (fun j => Wr.neI wH16827 (Or.inl (G_ne gq4 gq16790 (by decide)))) b16803
        have b16831 : UN (tk.toInt ≠ 0) (fun k => fI H16827 q16 k) (fun k => fI s.heap q16 k) := UN.congr (fun j => Wr.neI wH16827 (Or.inl (G_ne gq16 gq16790 (by decide)))) b16804
        have b16832 : UN (tk.toInt ≠ 0) (fun k => fI H16827 q50 k) (fun k => fI s.heap q50 k) := UN.congr (fun j => Wr.neI wH16827 (Or.inl (G_ne gq50 gq16790 (by decide)))) b16805
        have b16833 : UN (tk.toInt = 0) (fun k => fI H16827 iq k) (fun k => fI s.heap iq k) := UN.congr (fun j => Wr.neI wH16827 (Or.inl (G_ne giq gq16790 (by decide)))) b16821
        have b16834 : FB (fun k => fI H16827 iq k) (fun k => fI s.heap iq k) (6) := FB.congr (fun j => Wr.neI wH16827 (Or.inl (G_ne giq gq16790 (by decide)))) b16822
        have b16835 : EQ (fun k => fI H16827 q4 k) (fun k => fI H16827 iq k) (6) (6) (10) := EQ.congr (fun j => Wr.neI wH16827 (Or.inl (G_ne gq4 gq16790 (by decide)))) (fun j => Wr.neI wH16827 (Or.inl (G_ne giq gq16790 (by decide)))) b16823
        have b16836 : EQ (fun k => fI H16827 q10 k) (fun k => fI H16827 iq k) (7) (6) (10) := EQ.congr (fun j => Wr.neI wH16827 (Or.inl (G_ne gq10 gq16790 (by decide)))) (fun j => Wr.neI wH16827 (Or.inl (G_ne giq gq16790 (by decide)))) b16824
        have b16837 : EQ (fun k => fI H16827 q50 k) (fun k => fI H16827 iq k) (11) (6) (10) := EQ.congr (fun j => Wr.neI wH16827 (Or.inl (G_ne gq50 gq16790 (by decide)))) (fun j => Wr.neI wH16827 (Or.inl (G_ne giq gq16790 (by decide)))) b16825
        have b16838 : EQ (fun k => fI H16827 q16 k) (fun k => fI H16827 iq k) (736) (3) (0) := EQ.congr (fun j => Wr.neI wH16827 (Or.inl (G_ne gq16 gq16790 (by decide)))) (fun j => Wr.neI wH16827 (Or.inl (G_ne giq gq16790 (by decide)))) b16826
        have m16839 := m16806.trans (Wr.neI wH16827 (Or.inl (G_ne gq16619 gq16790 (by decide)))).symm
        have m16840 := m16807.trans (Wr.neI wH16827 (Or.inl (G_ne gq16672 gq16790 (by decide)))).symm
        have m16841 := m16808.trans (Wr.neI wH16827 (Or.inl (G_ne gq16729 gq16790 (by decide)))).symm
        have m16843 := m16796.trans (Wr.neR wH16827 (Or.inl (G_ne ga0 gq16790 (by decide)))).symm
        have m16844 := m16811.trans (Wr.neR wH16827 (Or.inl (G_ne ga0 gq16790 (by decide)))).symm
        have m16845 := m16812.trans (Wr.neR wH16827 (Or.inl (G_ne ga0 gq16790 (by decide)))).symm
        have m16846 := m16813.trans (Wr.neR wH16827 (Or.inl (G_ne ga0 gq16790 (by decide)))).symm
        have m16847 := m16814.trans (Wr.neR wH16827 (Or.inl (G_ne ga0 gq16790 (by decide)))).symm
        have m16848 := m16815.trans (Wr.neI wH16827 (Or.inl (G_ne ga0 gq16790 (by decide)))).symm
        have m16849 := m16816.trans (Wr.neR wH16827 (Or.inl (G_ne ga0 gq16790 (by decide)))).symm
        have m16850 := m16817.trans (Wr.neR wH16827 (Or.inl (G_ne ga0 gq16790 (by decide)))).symm
        have m16851 := m16818.trans (Wr.neR wH16827 (Or.inl (G_ne ga0 gq16790 (by decide)))).symm
        have m16852 := m16819.trans (Wr.neR wH16827 (Or.inl (G_ne ga0 gq16790 (by decide)))).symm
        have m16853 := ex16795.trans (Wr.neI wH16827 (Or.inl (G_ne ga0 gq16790 (by decide)))).symm
        have m16854 := Wr.I wH16827
        have m16854 := m16854.symm
        clear b16803 b16804 b16805 b16821 b16822 b16823 b16824 b16825 b16826 ex16795 g16797 hTH16793 m16796 m16806 m16807 m16808 m16809 m16811 m16812 m16813 m16814 m16815 m16816 m16817 m16818 m16819 mf16820
        obtain ⟨x16855, ex16855⟩ : ∃ y : Int32, y = x16612 + 1 := ⟨_, rfl⟩
        have tx16855 := i_add ex16855 (by omega)
        refine lv_iinc (v := x16855) (lv' := [(1, .int x16855), (0, .ref a0)]) hx hb dX10_keepsBars_183 hl16611 (k := 1) rfl (by rw [ex16855]; rfl) (by decide) rfl (fun ls16856 hl16857 => ?_)
        refine lv_goto (tgt := 112) hx hb dX10_keepsBars_186 (by decide) ?_
        exact ih112 ls16856 H16827 locsH16827 (x16855) (x16795) (lv_sub hl16857 [1, 0] rfl) hTH16827 hSH16827 ⟨by have := i_rng x16855; omega, by have := i_rng x16855; omega⟩ ⟨by have := i_rng x16795; omega, by have := i_rng x16795; omega⟩ m16853 m16843 m16844 m16845 m16846 m16847 m16848 b16833 b16834 (EQ.cast b16835 (by omega)) (EQ.cast b16836 (by omega)) (EQ.cast b16837 (by omega)) (EQ.cast b16838 (by omega)) b16830 b16831 b16832 mf16828 g16829 (by omega) (by and_intros <;> first | assumption | omega)
  have J2 : ∀ (nf : Nat) (ls16859 : Array Slot) (H16858 : Heap) (locsH16858 : List Loc) (x16861 : Int32) (x16862 : Int32), lv_has ls16859 2 [(0, .ref a0), (1, .int x16861)] → TY K G H16858 → va_S (AE G [112, 162, 113, 119, 122, 123, 124, 146, 114, 115, 116, 117, 118, 125, 154, 155, 120, 121] s.heap.size) s.heap H16858 locsH16858 → (0 ≤ x16861.toInt ∧ x16861.toInt ≤ 10) → (0 ≤ x16862.toInt ∧ x16862.toInt ≤ 16400) → (x16862 = fI H16858 a0 (K.1.2 10 72)) → (EQN iq (fR H16858 a0 (K.1.2 10 73))) → (EQN q4 (fR H16858 a0 (K.1.2 10 4))) → (EQN q10 (fR H16858 a0 (K.1.2 10 10))) → (EQN q16 (fR H16858 a0 (K.1.2 10 16))) → (EQN q50 (fR H16858 a0 (K.1.2 10 50))) → (tk = fI H16858 a0 (K.1.2 10 71)) → (UN (tk.toInt = 0) (fun k => fI H16858 iq k) (fun k => fI s.heap iq k)) → (FB (fun k => fI H16858 iq k) (fun k => fI s.heap iq k) (6)) → (EQ (fun k => fI H16858 q4 k) (fun k => fI H16858 iq k) (6) (6) (x16861.toNatClampNeg)) → (EQ (fun k => fI H16858 q10 k) (fun k => fI H16858 iq k) (7) (6) (x16861.toNatClampNeg)) → (EQ (fun k => fI H16858 q50 k) (fun k => fI H16858 iq k) (11) (6) (x16861.toNatClampNeg)) → (EQ (fun k => fI H16858 q16 k) (fun k => fI H16858 iq k) (736) (3) (0)) → (UN (tk.toInt ≠ 0) (fun k => fI H16858 q4 k) (fun k => fI s.heap q4 k)) → (UN (tk.toInt ≠ 0) (fun k => fI H16858 q16 k) (fun k => fI s.heap q16 k)) → (UN (tk.toInt ≠ 0) (fun k => fI H16858 q50 k) (fun k => fI s.heap q50 k)) → (MF K s.heap H16858 a0 [72]) → (WD (avw K H16858 a0)) → (10 - x16861.toInt < (nf : Int)) → (x16862.toInt = 6 + 6 * x16861.toInt) → W p l e ({ frames := 1, cells := 0, slots := 0, locals := 21 } : Room) s m (([.ref a0] : List Value).toArray) below meth c H16858 locsH16858 0 0 Q (F0 m 2 ls16859 []) := by
    intro nf
    induction nf with
    | zero =>
      intro ls16859 H16858 locsH16858 x16861 x16862 hl16860 hTH16858 hSH16858 bx16861 bx16862 ex16862 cy16863_0 cy16863_1 cy16863_2 cy16863_3 cy16863_4 cy16863_5 by16863_ui by16863_fb by16863_e4 by16863_e10 by16863_e50 by16863_e16 by16863_u4 by16863_u16 by16863_u50 mfy16863 gy16863_WD hm2 iv2
      exfalso
      omega
    | succ nf ih2 =>
      intro ls16859 H16858 locsH16858 x16861 x16862 hl16860 hTH16858 hSH16858 bx16861 bx16862 ex16862 cy16863_0 cy16863_1 cy16863_2 cy16863_3 cy16863_4 cy16863_5 by16863_ui by16863_fb by16863_e4 by16863_e10 by16863_e50 by16863_e16 by16863_u4 by16863_u16 by16863_u50 mfy16863 gy16863_WD hm2 iv2
      refine lv_iload_n hx hb dX10_keepsBars_2 rfl (lv_at hl16860 1 rfl) ?_
      refine lv_bipush (v := 10) hx hb dX10_keepsBars_3 (by decide) ?_
      refine lv_icmp_ge (tgt := 110) hx hb dX10_keepsBars_5 (by decide) (fun c16864 => ?_) (fun c16864 => ?_)
      · have k16865 := i_le c16864
        refine lv_iconst (v := 0) hx hb dX10_keepsBars_110 (by decide) ?_
        refine lv_istore_n (lv' := [(1, .int 0), (0, .ref a0)]) hx hb dX10_keepsBars_111 rfl hl16860 (by decide) rfl (fun ls16866 hl16867 => ?_)
        have cl00 : (0 : Int32).toNatClampNeg = 0 := rfl
        have cl_x16861 := i_cl (x := x16861) (by omega)
        exact J112 ((160 - (0 : Int32).toInt).toNat + 1) ls16866 H16858 locsH16858 (0) (x16862) (lv_sub hl16867 [1, 0] rfl) hTH16858 hSH16858 (by decide) ⟨by have := i_rng x16862; omega, by have := i_rng x16862; omega⟩ ex16862 cy16863_0 cy16863_1 cy16863_2 cy16863_3 cy16863_4 cy16863_5 by16863_ui by16863_fb (EQ.cast by16863_e4 (by omega)) (EQ.cast by16863_e10 (by omega)) (EQ.cast by16863_e50 (by omega)) (EQ.cast by16863_e16 (by omega)) by16863_u4 by16863_u16 by16863_u50 mfy16863 gy16863_WD (by omega) (by and_intros <;> first | assumption | omega)
      · have k16865 := i_nle c16864
        refine lv_aload_n hx hb dX10_keepsBars_8 rfl (lv_at hl16860 0 rfl) ?_
        refine x_gr C hTH16858 (ci := 10) (k := 4) rfl inX10 (by decide) wF_X10_13 ga0 rg_112 rfl dX10_keepsBars_9 (fun q16868 eq16868 gq16868 => ?_)
        have uq16868 : q4 = q16868 := (cy16863_1).trans eq16868.symm
        subst uq16868
        clear eq16868
        refine lv_iload_n hx hb dX10_keepsBars_12 rfl (lv_at hl16860 1 rfl) ?_
        refine lv_aload_n hx hb dX10_keepsBars_13 rfl (lv_at hl16860 0 rfl) ?_
        refine lv_aload_n hx hb dX10_keepsBars_14 rfl (lv_at hl16860 0 rfl) ?_
        refine x_gr C hTH16858 (ci := 10) (k := 4) rfl inX10 (by decide) wF_X10_13 ga0 rg_112 rfl dX10_keepsBars_15 (fun q16869 eq16869 gq16869 => ?_)
        have uq16869 : q4 = q16869 := (cy16863_1).trans eq16869.symm
        subst uq16869
        clear eq16869
        refine lv_iload_n hx hb dX10_keepsBars_18 rfl (lv_at hl16860 1 rfl) ?_
        refine x_ai C hTH16858 gq4 rg_113 ⟨by omega, by show _ < ((10 : Nat) : Int); omega⟩ dX10_keepsBars_19 (fun x16870 ex16870 bx16870 => ?_)
        refine x_V (As := [.int x16870]) (rest := [.int x16861, .ref q4]) C (a_X10_kept l K G H16858 (x16870) (x16862) (tk) hTH16858 ga0 giq cy16863_0 ex16862 cy16863_5 gy16863_WD (by and_intros <;> first | assumption | omega)) yo_X10_kept wM_X10_473 ⟨⟨by decide, by decide⟩, by decide, by decide⟩ (x_rv C hTH16858 (ci := 10) rfl ga0 rg_112) rfl hl16860.1 rfl (Nat.le_of_ble_eq_true rfl) dX10_keepsBars_20 hSH16858 (AE_sub (fun _ _ => rfl) (by decide) hSH16858.1) (fun vH16871 H16871 locsH16871 pH16871 zH16871 kH16871 hSH16871 => ?_)
        obtain ⟨x16872, x16873, hvH16871, ex16873, hrH16871, m16874, g16875, mf16876, m16877, m16878, m16879, m16880, hTH16871⟩ := pH16871
        subst hvH16871
        clear zH16871
        replace m16874 := EQN.mk m16874
        have b16881 : UN (tk.toInt ≠ 0) (fun k => fI H16871 q4 k) (fun k => fI s.heap q4 k) := UN.congr (fun j => fI_kept (x_lt hTH16858 kH16871 gq4 (by decide))) by16863_u4
        have b16882 : UN (tk.toInt ≠ 0) (fun k => fI H16871 q16 k) (fun k => fI s.heap q16 k) := UN.congr (fun j => fI_kept (x_lt hTH16858 kH16871 gq16 (by decide))) by16863_u16
        have b16883 : UN (tk.toInt ≠ 0) (fun k => fI H16871 q50 k) (fun k => fI s.heap q50 k) := UN.congr (fun j => fI_kept (x_lt hTH16858 kH16871 gq50 (by decide))) by16863_u50
        have m16884 := (ex16870).trans (fI_kept (x_lt hTH16858 kH16871 gq4 (by decide))).symm
        have m16885 := (cy16863_0).trans (MF.r mf16876 (k := 73) (by decide) (by decide)).symm
        have m16886 := (cy16863_1).trans (MF.r mf16876 (k := 4) (by decide) (by decide)).symm
        have m16887 := (cy16863_2).trans (MF.r mf16876 (k := 10) (by decide) (by decide)).symm
        have m16888 := (cy16863_3).trans (MF.r mf16876 (k := 16) (by decide) (by decide)).symm
        have m16889 := (cy16863_4).trans (MF.r mf16876 (k := 50) (by decide) (by decide)).symm
        have m16890 := (cy16863_5).trans (MF.i mf16876 (k := 71) (by decide) (by decide)).symm
        have mf16891 : MF K s.heap H16871 a0 [72] := MF.trans mfy16863 mf16876 (by decide)
        have bx16873 := ty_fi (x := x16873) (k := 72) ex16873 hTH16871 ga0 rg_112 rfl
        have ce_x16861 := i_cl (x := x16861) (by omega)
        have ce_x16862 := i_cl (x := x16862) (by omega)
        have b16892 : UN (tk.toInt = 0) (fun k => fI H16871 iq k) (fun k => fI s.heap iq k) := UN.tr m16880 by16863_ui
        have b16893 : FB (fun k => fI H16871 iq k) (fun k => fI s.heap iq k) (6) := FB.wr by16863_fb m16879 (fun j hj => by omega)
        have b16894 : EQ (fun k => fI H16871 q4 k) (fun k => fI H16871 iq k) (6) (6) (x16861.toNatClampNeg) := EQ.wr (EQ.congr (w1 := fun k => fI H16858 iq k) (fun j => fI_kept (x_lt hTH16858 kH16871 gq4 (by decide))) (fun _ => rfl) by16863_e4) m16879 (fun j hj => by omega)
        have b16895 : EQ (fun k => fI H16871 q10 k) (fun k => fI H16871 iq k) (7) (6) (x16861.toNatClampNeg) := EQ.wr (EQ.congr (w1 := fun k => fI H16858 iq k) (fun j => fI_kept (x_lt hTH16858 kH16871 gq10 (by decide))) (fun _ => rfl) by16863_e10) m16879 (fun j hj => by omega)
        have b16896 : EQ (fun k => fI H16871 q50 k) (fun k => fI H16871 iq k) (11) (6) (x16861.toNatClampNeg) := EQ.wr (EQ.congr (w1 := fun k => fI H16858 iq k) (fun j => fI_kept (x_lt hTH16858 kH16871 gq50 (by decide))) (fun _ => rfl) by16863_e50) m16879 (fun j hj => by omega)
        have b16897 : EQ (fun k => fI H16871 q16 k) (fun k => fI H16871 iq k) (736) (3) (0) := EQ.wr (EQ.congr (w1 := fun k => fI H16858 iq k) (fun j => fI_kept (x_lt hTH16858 kH16871 gq16 (by decide))) (fun _ => rfl) by16863_e16) m16879 (fun j hj => by omega)
        clear by16863_e10 by16863_e16 by16863_e4 by16863_e50 by16863_fb by16863_u16 by16863_u4 by16863_u50 by16863_ui cy16863_0 cy16863_1 cy16863_2 cy16863_3 cy16863_4 cy16863_5 ex16862 ex16870
        clear m16879 m16880
        have bx16872 : 0 ≤ x16872.toInt ∧ x16872.toInt ≤ 16 := kr (fun h0 => by have hiw := (hy0 h0); exact kr0 (w := fun k => fI H16871 iq k) m16877 (p := 6 + 6 * x16861.toNatClampNeg) (by omega) (b16892 h0) ((hiw.2.1 x16861.toNatClampNeg (by omega)).1)) m16878 (by omega)
        refine W.eq (g2 := F0 m 23 ls16859 [.int x16872, .int x16861, .ref q4]) rfl ?_
        refine x_iast C hTH16871 hSH16871 gq4 rg_113 (by omega) (by show _ < ((10 : Nat) : Int); omega) ⟨by have := i_rng x16872; omega, by have := i_rng x16872; omega⟩ (AE_in gq4 (by decide)) dX10_keepsBars_23 (fun H16898 locsH16898 hTH16898 hSH16898 wH16898 => ?_)
        have mf16899 : MF K s.heap H16898 a0 [72] := MF.arr wH16898 (G_ne ga0 gq4 (by decide)) mf16891
        have g16900 : WD (avw K H16898 a0) := WD.congr (fun k hk j => av_arr hTH16871 ga0 wH16898 gq4 (by decide) (WD_ok 113 (by decide) k hk)) g16875
        have b16901 : UN (tk.toInt ≠ 0) (fun k => fI H16898 q4 k) (fun k => fI s.heap q4 k) := UN.st b16881 (i := x16861.toNatClampNeg) (fun hc => (m16878 hc).trans m16884) (Wr.I wH16898) (fun j hj => Wr.neI wH16898 (Or.inr hj))
        have b16902 : UN (tk.toInt ≠ 0) (fun k => fI H16898 q16 k) (fun k => fI s.heap q16 k) := UN.congr (fun j => Wr.neI wH16898 (Or.inl (G_ne gq16 gq4 (by decide)))) b16882
        have b16903 : UN (tk.toInt ≠ 0) (fun k => fI H16898 q50 k) (fun k => fI s.heap q50 k) := UN.congr (fun j => Wr.neI wH16898 (Or.inl (G_ne gq50 gq4 (by decide)))) b16883
        have b16904 : UN (tk.toInt = 0) (fun k => fI H16898 iq k) (fun k => fI s.heap iq k) := UN.congr (fun j => Wr.neI wH16898 (Or.inl (G_ne giq gq4 (by decide)))) b16892
        have b16905 : FB (fun k => fI H16898 iq k) (fun k => fI s.heap iq k) (6) := FB.congr (fun j => Wr.neI wH16898 (Or.inl (G_ne giq gq4 (by decide)))) b16893
        have b16906 : EQ (fun k => fI H16898 q4 k) (fun k => fI H16898 iq k) (6) (6) (x16861.toNatClampNeg + 1) := EQ.st b16894 (i := x16861.toNatClampNeg) (t := x16862.toNatClampNeg) (by omega) m16877 (by omega) (Wr.I wH16898) (fun j hj => Wr.neI wH16898 (Or.inr hj)) (fun j => Wr.neI wH16898 (Or.inl (G_ne giq gq4 (by decide))))
        have b16907 : EQ (fun k => fI H16898 q10 k) (fun k => fI H16898 iq k) (7) (6) (x16861.toNatClampNeg) := EQ.congr (fun j => Wr.neI wH16898 (Or.inl (G_ne gq10 gq4 (by decide)))) (fun j => Wr.neI wH16898 (Or.inl (G_ne giq gq4 (by decide)))) b16895
        have b16908 : EQ (fun k => fI H16898 q50 k) (fun k => fI H16898 iq k) (11) (6) (x16861.toNatClampNeg) := EQ.congr (fun j => Wr.neI wH16898 (Or.inl (G_ne gq50 gq4 (by decide)))) (fun j => Wr.neI wH16898 (Or.inl (G_ne giq gq4 (by decide)))) b16896
        have b16909 : EQ (fun k => fI H16898 q16 k) (fun k => fI H16898 iq k) (736) (3) (0) := EQ.congr (fun j => Wr.neI wH16898 (Or.inl (G_ne gq16 gq4 (by decide)))) (fun j => Wr.neI wH16898 (Or.inl (G_ne giq gq4 (by decide)))) b16897
        have m16911 := m16874.trans (Wr.neR wH16898 (Or.inl (G_ne ga0 gq4 (by decide)))).symm
        have m16912 := m16886.trans (Wr.neR wH16898 (Or.inl (G_ne ga0 gq4 (by decide)))).symm
        have m16913 := m16887.trans (Wr.neR wH16898 (Or.inl (G_ne ga0 gq4 (by decide)))).symm
        have m16914 := m16888.trans (Wr.neR wH16898 (Or.inl (G_ne ga0 gq4 (by decide)))).symm
        have m16915 := m16889.trans (Wr.neR wH16898 (Or.inl (G_ne ga0 gq4 (by decide)))).symm
        have m16916 := m16890.trans (Wr.neI wH16898 (Or.inl (G_ne ga0 gq4 (by decide)))).symm
        have m16917 := ex16873.trans (Wr.neI wH16898 (Or.inl (G_ne ga0 gq4 (by decide)))).symm
        have m16918 := Wr.I wH16898
        have m16918 := m16918.symm
        clear b16881 b16882 b16883 b16892 b16893 b16894 b16895 b16896 b16897 ex16873 g16875 hTH16871 m16874 m16884 m16886 m16887 m16888 m16889 m16890 mf16891
        refine lv_aload_n hx hb dX10_keepsBars_24 rfl (lv_at hl16860 0 rfl) ?_
        refine x_gr C hTH16898 (ci := 10) (k := 10) rfl inX10 (by decide) wF_X10_32 ga0 rg_112 rfl dX10_keepsBars_25 (fun q16919 eq16919 gq16919 => ?_)
        have uq16919 : q10 = q16919 := (m16913).trans eq16919.symm
        subst uq16919
        clear eq16919
        refine lv_iload_n hx hb dX10_keepsBars_28 rfl (lv_at hl16860 1 rfl) ?_
        refine lv_aload_n hx hb dX10_keepsBars_29 rfl (lv_at hl16860 0 rfl) ?_
        refine lv_aload_n hx hb dX10_keepsBars_30 rfl (lv_at hl16860 0 rfl) ?_
        refine x_gr C hTH16898 (ci := 10) (k := 10) rfl inX10 (by decide) wF_X10_32 ga0 rg_112 rfl dX10_keepsBars_31 (fun q16920 eq16920 gq16920 => ?_)
        have uq16920 : q10 = q16920 := (m16913).trans eq16920.symm
        subst uq16920
        clear eq16920
        refine lv_iload_n hx hb dX10_keepsBars_34 rfl (lv_at hl16860 1 rfl) ?_
        refine x_ai C hTH16898 gq10 rg_119 ⟨by omega, by show _ < ((10 : Nat) : Int); omega⟩ dX10_keepsBars_35 (fun x16921 ex16921 bx16921 => ?_)
        refine x_V (As := [.int x16921]) (rest := [.int x16861, .ref q10]) C (a_X10_kept l K G H16898 (x16921) (x16873) (tk) hTH16898 ga0 giq m16911 m16917 m16916 g16900 (by and_intros <;> first | assumption | omega)) yo_X10_kept wM_X10_473 ⟨⟨by decide, by decide⟩, by decide, by decide⟩ (x_rv C hTH16898 (ci := 10) rfl ga0 rg_112) rfl hl16860.1 rfl (Nat.le_of_ble_eq_true rfl) dX10_keepsBars_36 hSH16898 (AE_sub (fun _ _ => rfl) (by decide) hSH16898.1) (fun vH16922 H16922 locsH16922 pH16922 zH16922 kH16922 hSH16922 => ?_)
        obtain ⟨x16923, x16924, hvH16922, ex16924, hrH16922, m16925, g16926, mf16927, m16928, m16929, m16930, m16931, hTH16922⟩ := pH16922
        subst hvH16922
        clear zH16922
        replace m16925 := EQN.mk m16925
        have b16932 : UN (tk.toInt ≠ 0) (fun k => fI H16922 q4 k) (fun k => fI s.heap q4 k) := UN.congr (fun j => fI_kept (x_lt hTH16898 kH16922 gq4 (by decide))) b16901
        have b16933 : UN (tk.toInt ≠ 0) (fun k => fI H16922 q16 k) (fun k => fI s.heap q16 k) := UN.congr (fun j => fI_kept (x_lt hTH16898 kH16922 gq16 (by decide))) b16902
        have b16934 : UN (tk.toInt ≠ 0) (fun k => fI H16922 q50 k) (fun k => fI s.heap q50 k) := UN.congr (fun j => fI_kept (x_lt hTH16898 kH16922 gq50 (by decide))) b16903
        have m16935 := (m16918).trans (fI_kept (x_lt hTH16898 kH16922 gq4 (by decide))).symm
        have m16936 := (ex16921).trans (fI_kept (x_lt hTH16898 kH16922 gq10 (by decide))).symm
        have m16937 := (m16911).trans (MF.r mf16927 (k := 73) (by decide) (by decide)).symm
        have m16938 := (m16912).trans (MF.r mf16927 (k := 4) (by decide) (by decide)).symm
        have m16939 := (m16913).trans (MF.r mf16927 (k := 10) (by decide) (by decide)).symm
        have m16940 := (m16914).trans (MF.r mf16927 (k := 16) (by decide) (by decide)).symm
        have m16941 := (m16915).trans (MF.r mf16927 (k := 50) (by decide) (by decide)).symm
        have m16942 := (m16916).trans (MF.i mf16927 (k := 71) (by decide) (by decide)).symm
        have mf16943 : MF K s.heap H16922 a0 [72] := MF.trans mf16899 mf16927 (by decide)
        have bx16924 := ty_fi (x := x16924) (k := 72) ex16924 hTH16922 ga0 rg_112 rfl
        have ce_x16873 := i_cl (x := x16873) (by omega)
        have b16944 : UN (tk.toInt = 0) (fun k => fI H16922 iq k) (fun k => fI s.heap iq k) := UN.tr m16931 b16904
        have b16945 : FB (fun k => fI H16922 iq k) (fun k => fI s.heap iq k) (6) := FB.wr b16905 m16930 (fun j hj => by omega)
        have b16946 : EQ (fun k => fI H16922 q4 k) (fun k => fI H16922 iq k) (6) (6) (x16861.toNatClampNeg + 1) := EQ.wr (EQ.congr (w1 := fun k => fI H16898 iq k) (fun j => fI_kept (x_lt hTH16898 kH16922 gq4 (by decide))) (fun _ => rfl) b16906) m16930 (fun j hj => by omega)
        have b16947 : EQ (fun k => fI H16922 q10 k) (fun k => fI H16922 iq k) (7) (6) (x16861.toNatClampNeg) := EQ.wr (EQ.congr (w1 := fun k => fI H16898 iq k) (fun j => fI_kept (x_lt hTH16898 kH16922 gq10 (by decide))) (fun _ => rfl) b16907) m16930 (fun j hj => by omega)
        have b16948 : EQ (fun k => fI H16922 q50 k) (fun k => fI H16922 iq k) (11) (6) (x16861.toNatClampNeg) := EQ.wr (EQ.congr (w1 := fun k => fI H16898 iq k) (fun j => fI_kept (x_lt hTH16898 kH16922 gq50 (by decide))) (fun _ => rfl) b16908) m16930 (fun j hj => by omega)
        have b16949 : EQ (fun k => fI H16922 q16 k) (fun k => fI H16922 iq k) (736) (3) (0) := EQ.wr (EQ.congr (w1 := fun k => fI H16898 iq k) (fun j => fI_kept (x_lt hTH16898 kH16922 gq16 (by decide))) (fun _ => rfl) b16909) m16930 (fun j hj => by omega)
        clear b16901 b16902 b16903 b16904 b16905 b16906 b16907 b16908 b16909 ex16921 m16911 m16912 m16913 m16914 m16915 m16916 m16917 m16918
        clear m16930 m16931
        have bx16923 : 0 ≤ x16923.toInt ∧ x16923.toInt ≤ 200 := kr (fun h0 => by have hiw := (hy0 h0); exact kr0 (w := fun k => fI H16922 iq k) m16928 (p := 7 + 6 * x16861.toNatClampNeg) (by omega) (b16944 h0) ((hiw.2.1 x16861.toNatClampNeg (by omega)).2.1)) m16929 (by omega)
        refine W.eq (g2 := F0 m 39 ls16859 [.int x16923, .int x16861, .ref q10]) rfl ?_
        refine x_iast C hTH16922 hSH16922 gq10 rg_119 (by omega) (by show _ < ((10 : Nat) : Int); omega) ⟨by have := i_rng x16923; omega, by have := i_rng x16923; omega⟩ (AE_in gq10 (by decide)) dX10_keepsBars_39 (fun H16950 locsH16950 hTH16950 hSH16950 wH16950 => ?_)
        have mf16951 : MF K s.heap H16950 a0 [72] := MF.arr wH16950 (G_ne ga0 gq10 (by decide)) mf16943
        have g16952 : WD (avw K H16950 a0) := WD.congr (fun k hk j => av_arr hTH16922 ga0 wH16950 gq10 (by decide) (WD_ok 119 (by decide) k hk)) g16926
        have b16953 : UN (tk.toInt ≠ 0) (fun k => fI H16950 q4 k) (fun k => fI s.heap q4 k) := UN.congr (fun j => Wr.neI wH16950 (Or.inl (G_ne gq4 gq10 (by decide)))) b16932
        have b16954 : UN (tk.toInt ≠ 0) (fun k => fI H16950 q16 k) (fun k => fI s.heap q16 k) := UN.congr (fun j => Wr.neI wH16950 (Or.inl (G_ne gq16 gq10 (by decide)))) b16933
        have b16955 : UN (tk.toInt ≠ 0) (fun k => fI H16950 q50 k) (fun k => fI s.heap q50 k) := UN.congr (fun j => Wr.neI wH16950 (Or.inl (G_ne gq50 gq10 (by decide)))) b16934
        have b16956 : UN (tk.toInt = 0) (fun k => fI H16950 iq k) (fun k => fI s.heap iq k) := UN.congr (fun j => Wr.neI wH16950 (Or.inl (G_ne giq gq10 (by decide)))) b16944
        have b16957 : FB (fun k => fI H16950 iq k) (fun k => fI s.heap iq k) (6) := FB.congr (fun j => Wr.neI wH16950 (Or.inl (G_ne giq gq10 (by decide)))) b16945
        have b16958 : EQ (fun k => fI H16950 q4 k) (fun k => fI H16950 iq k) (6) (6) (x16861.toNatClampNeg + 1) := EQ.congr (fun j => Wr.neI wH16950 (Or.inl (G_ne gq4 gq10 (by decide)))) (fun j => Wr.neI wH16950 (Or.inl (G_ne giq gq10 (by decide)))) b16946
        have b16959 : EQ (fun k => fI H16950 q10 k) (fun k => fI H16950 iq k) (7) (6) (x16861.toNatClampNeg + 1) := EQ.st b16947 (i := x16861.toNatClampNeg) (t := x16873.toNatClampNeg) (by omega) m16928 (by omega) (Wr.I wH16950) (fun j hj => Wr.neI wH16950 (Or.inr hj)) (fun j => Wr.neI wH16950 (Or.inl (G_ne giq gq10 (by decide))))
        have b16960 : EQ (fun k => fI H16950 q50 k) (fun k => fI H16950 iq k) (11) (6) (x16861.toNatClampNeg) := EQ.congr (fun j => Wr.neI wH16950 (Or.inl (G_ne gq50 gq10 (by decide)))) (fun j => Wr.neI wH16950 (Or.inl (G_ne giq gq10 (by decide)))) b16948
        have b16961 : EQ (fun k => fI H16950 q16 k) (fun k => fI H16950 iq k) (736) (3) (0) := EQ.congr (fun j => Wr.neI wH16950 (Or.inl (G_ne gq16 gq10 (by decide)))) (fun j => Wr.neI wH16950 (Or.inl (G_ne giq gq10 (by decide)))) b16949
        have m16962 := m16935.trans (Wr.neI wH16950 (Or.inl (G_ne gq4 gq10 (by decide)))).symm
        have m16964 := m16925.trans (Wr.neR wH16950 (Or.inl (G_ne ga0 gq10 (by decide)))).symm
        have m16965 := m16938.trans (Wr.neR wH16950 (Or.inl (G_ne ga0 gq10 (by decide)))).symm
        have m16966 := m16939.trans (Wr.neR wH16950 (Or.inl (G_ne ga0 gq10 (by decide)))).symm
        have m16967 := m16940.trans (Wr.neR wH16950 (Or.inl (G_ne ga0 gq10 (by decide)))).symm
        have m16968 := m16941.trans (Wr.neR wH16950 (Or.inl (G_ne ga0 gq10 (by decide)))).symm
        have m16969 := m16942.trans (Wr.neI wH16950 (Or.inl (G_ne ga0 gq10 (by decide)))).symm
        have m16970 := ex16924.trans (Wr.neI wH16950 (Or.inl (G_ne ga0 gq10 (by decide)))).symm
        have m16971 := Wr.I wH16950
        have m16971 := m16971.symm
        clear b16932 b16933 b16934 b16944 b16945 b16946 b16947 b16948 b16949 ex16924 g16926 hTH16922 m16925 m16935 m16936 m16938 m16939 m16940 m16941 m16942 mf16943
        refine lv_aload_n hx hb dX10_keepsBars_40 rfl (lv_at hl16860 0 rfl) ?_
        refine x_gr C hTH16950 (ci := 10) (k := 13) rfl inX10 (by decide) wF_X10_41 ga0 rg_112 rfl dX10_keepsBars_41 (fun q16972 eq16972 gq16972 => ?_)
        replace eq16972 := EQN.mk eq16972
        refine lv_iload_n hx hb dX10_keepsBars_44 rfl (lv_at hl16860 1 rfl) ?_
        refine lv_aload_n hx hb dX10_keepsBars_45 rfl (lv_at hl16860 0 rfl) ?_
        refine lv_aload_n hx hb dX10_keepsBars_46 rfl (lv_at hl16860 0 rfl) ?_
        refine x_gr C hTH16950 (ci := 10) (k := 13) rfl inX10 (by decide) wF_X10_41 ga0 rg_112 rfl dX10_keepsBars_47 (fun q16973 eq16973 gq16973 => ?_)
        have uq16973 : q16972 = q16973 := (eq16972).trans eq16973.symm
        subst uq16973
        clear eq16973
        refine lv_iload_n hx hb dX10_keepsBars_50 rfl (lv_at hl16860 1 rfl) ?_
        refine x_ai C hTH16950 gq16972 rg_122 ⟨by omega, by show _ < ((10 : Nat) : Int); omega⟩ dX10_keepsBars_51 (fun x16974 ex16974 bx16974 => ?_)
        refine x_V (As := [.int x16974]) (rest := [.int x16861, .ref q16972]) C (a_X10_kept l K G H16950 (x16974) (x16924) (tk) hTH16950 ga0 giq m16964 m16970 m16969 g16952 (by and_intros <;> first | assumption | omega)) yo_X10_kept wM_X10_473 ⟨⟨by decide, by decide⟩, by decide, by decide⟩ (x_rv C hTH16950 (ci := 10) rfl ga0 rg_112) rfl hl16860.1 rfl (Nat.le_of_ble_eq_true rfl) dX10_keepsBars_52 hSH16950 (AE_sub (fun _ _ => rfl) (by decide) hSH16950.1) (fun vH16975 H16975 locsH16975 pH16975 zH16975 kH16975 hSH16975 => ?_)
        obtain ⟨x16976, x16977, hvH16975, ex16977, hrH16975, m16978, g16979, mf16980, m16981, m16982, m16983, m16984, hTH16975⟩ := pH16975
        subst hvH16975
        clear zH16975
        replace m16978 := EQN.mk m16978
        have b16985 : UN (tk.toInt ≠ 0) (fun k => fI H16975 q4 k) (fun k => fI s.heap q4 k) := UN.congr (fun j => fI_kept (x_lt hTH16950 kH16975 gq4 (by decide))) b16953
        have b16986 : UN (tk.toInt ≠ 0) (fun k => fI H16975 q16 k) (fun k => fI s.heap q16 k) := UN.congr (fun j => fI_kept (x_lt hTH16950 kH16975 gq16 (by decide))) b16954
        have b16987 : UN (tk.toInt ≠ 0) (fun k => fI H16975 q50 k) (fun k => fI s.heap q50 k) := UN.congr (fun j => fI_kept (x_lt hTH16950 kH16975 gq50 (by decide))) b16955
        have m16988 := (m16962).trans (fI_kept (x_lt hTH16950 kH16975 gq4 (by decide))).symm
        have m16989 := (m16971).trans (fI_kept (x_lt hTH16950 kH16975 gq10 (by decide))).symm
        have m16990 := (ex16974).trans (fI_kept (x_lt hTH16950 kH16975 gq16972 (by decide))).symm
        have m16991 := (m16964).trans (MF.r mf16980 (k := 73) (by decide) (by decide)).symm
        have m16992 := (m16965).trans (MF.r mf16980 (k := 4) (by decide) (by decide)).symm
        have m16993 := (m16966).trans (MF.r mf16980 (k := 10) (by decide) (by decide)).symm
        have m16994 := (m16967).trans (MF.r mf16980 (k := 16) (by decide) (by decide)).symm
        have m16995 := (m16968).trans (MF.r mf16980 (k := 50) (by decide) (by decide)).symm
        have m16996 := (m16969).trans (MF.i mf16980 (k := 71) (by decide) (by decide)).symm
        have m16997 := (eq16972).trans (MF.r mf16980 (k := 13) (by decide) (by decide)).symm
        have mf16998 : MF K s.heap H16975 a0 [72] := MF.trans mf16951 mf16980 (by decide)
        have bx16977 := ty_fi (x := x16977) (k := 72) ex16977 hTH16975 ga0 rg_112 rfl
        have ce_x16924 := i_cl (x := x16924) (by omega)
        have b16999 : UN (tk.toInt = 0) (fun k => fI H16975 iq k) (fun k => fI s.heap iq k) := UN.tr m16984 b16956
        have b17000 : FB (fun k => fI H16975 iq k) (fun k => fI s.heap iq k) (6) := FB.wr b16957 m16983 (fun j hj => by omega)
        have b17001 : EQ (fun k => fI H16975 q4 k) (fun k => fI H16975 iq k) (6) (6) (x16861.toNatClampNeg + 1) := EQ.wr (EQ.congr (w1 := fun k => fI H16950 iq k) (fun j => fI_kept (x_lt hTH16950 kH16975 gq4 (by decide))) (fun _ => rfl) b16958) m16983 (fun j hj => by omega)
        have b17002 : EQ (fun k => fI H16975 q10 k) (fun k => fI H16975 iq k) (7) (6) (x16861.toNatClampNeg + 1) := EQ.wr (EQ.congr (w1 := fun k => fI H16950 iq k) (fun j => fI_kept (x_lt hTH16950 kH16975 gq10 (by decide))) (fun _ => rfl) b16959) m16983 (fun j hj => by omega)
        have b17003 : EQ (fun k => fI H16975 q50 k) (fun k => fI H16975 iq k) (11) (6) (x16861.toNatClampNeg) := EQ.wr (EQ.congr (w1 := fun k => fI H16950 iq k) (fun j => fI_kept (x_lt hTH16950 kH16975 gq50 (by decide))) (fun _ => rfl) b16960) m16983 (fun j hj => by omega)
        have b17004 : EQ (fun k => fI H16975 q16 k) (fun k => fI H16975 iq k) (736) (3) (0) := EQ.wr (EQ.congr (w1 := fun k => fI H16950 iq k) (fun j => fI_kept (x_lt hTH16950 kH16975 gq16 (by decide))) (fun _ => rfl) b16961) m16983 (fun j hj => by omega)
        clear b16953 b16954 b16955 b16956 b16957 b16958 b16959 b16960 b16961 eq16972 ex16974 m16962 m16964 m16965 m16966 m16967 m16968 m16969 m16970 m16971
        clear m16983 m16984
        refine W.eq (g2 := F0 m 55 ls16859 [.int x16976, .int x16861, .ref q16972]) rfl ?_
        refine x_iast C hTH16975 hSH16975 gq16972 rg_122 (by omega) (by show _ < ((10 : Nat) : Int); omega) ⟨by have := i_rng x16976; omega, by have := i_rng x16976; omega⟩ (AE_in gq16972 (by decide)) dX10_keepsBars_55 (fun H17005 locsH17005 hTH17005 hSH17005 wH17005 => ?_)
        have mf17006 : MF K s.heap H17005 a0 [72] := MF.arr wH17005 (G_ne ga0 gq16972 (by decide)) mf16998
        have g17007 : WD (avw K H17005 a0) := WD.congr (fun k hk j => av_arr hTH16975 ga0 wH17005 gq16972 (by decide) (WD_ok 122 (by decide) k hk)) g16979
        have b17008 : UN (tk.toInt ≠ 0) (fun k => fI H17005 q4 k) (fun k => fI s.heap q4 k) := UN.congr (fun j => Wr.neI wH17005 (Or.inl (G_ne gq4 gq16972 (by decide)))) b16985
        have b17009 : UN (tk.toInt ≠ 0) (fun k => fI H17005 q16 k) (fun k => fI s.heap q16 k) := UN.congr (fun j => Wr.neI wH17005 (Or.inl (G_ne gq16 gq16972 (by decide)))) b16986
        have b17010 : UN (tk.toInt ≠ 0) (fun k => fI H17005 q50 k) (fun k => fI s.heap q50 k) := UN.congr (fun j => Wr.neI wH17005 (Or.inl (G_ne gq50 gq16972 (by decide)))) b16987
        have b17011 : UN (tk.toInt = 0) (fun k => fI H17005 iq k) (fun k => fI s.heap iq k) := UN.congr (fun j => Wr.neI wH17005 (Or.inl (G_ne giq gq16972 (by decide)))) b16999
        have b17012 : FB (fun k => fI H17005 iq k) (fun k => fI s.heap iq k) (6) := FB.congr (fun j => Wr.neI wH17005 (Or.inl (G_ne giq gq16972 (by decide)))) b17000
        have b17013 : EQ (fun k => fI H17005 q4 k) (fun k => fI H17005 iq k) (6) (6) (x16861.toNatClampNeg + 1) := EQ.congr (fun j => Wr.neI wH17005 (Or.inl (G_ne gq4 gq16972 (by decide)))) (fun j => Wr.neI wH17005 (Or.inl (G_ne giq gq16972 (by decide)))) b17001
        have b17014 : EQ (fun k => fI H17005 q10 k) (fun k => fI H17005 iq k) (7) (6) (x16861.toNatClampNeg + 1) := EQ.congr (fun j => Wr.neI wH17005 (Or.inl (G_ne gq10 gq16972 (by decide)))) (fun j => Wr.neI wH17005 (Or.inl (G_ne giq gq16972 (by decide)))) b17002
        have b17015 : EQ (fun k => fI H17005 q50 k) (fun k => fI H17005 iq k) (11) (6) (x16861.toNatClampNeg) := EQ.congr (fun j => Wr.neI wH17005 (Or.inl (G_ne gq50 gq16972 (by decide)))) (fun j => Wr.neI wH17005 (Or.inl (G_ne giq gq16972 (by decide)))) b17003
        have b17016 : EQ (fun k => fI H17005 q16 k) (fun k => fI H17005 iq k) (736) (3) (0) := EQ.congr (fun j => Wr.neI wH17005 (Or.inl (G_ne gq16 gq16972 (by decide)))) (fun j => Wr.neI wH17005 (Or.inl (G_ne giq gq16972 (by decide)))) b17004
        have m17017 := m16988.trans (Wr.neI wH17005 (Or.inl (G_ne gq4 gq16972 (by decide)))).symm
        have m17018 := m16989.trans (Wr.neI wH17005 (Or.inl (G_ne gq10 gq16972 (by decide)))).symm
        have m17020 := m16978.trans (Wr.neR wH17005 (Or.inl (G_ne ga0 gq16972 (by decide)))).symm
        have m17021 := m16992.trans (Wr.neR wH17005 (Or.inl (G_ne ga0 gq16972 (by decide)))).symm
        have m17022 := m16993.trans (Wr.neR wH17005 (Or.inl (G_ne ga0 gq16972 (by decide)))).symm
        have m17023 := m16994.trans (Wr.neR wH17005 (Or.inl (G_ne ga0 gq16972 (by decide)))).symm
        have m17024 := m16995.trans (Wr.neR wH17005 (Or.inl (G_ne ga0 gq16972 (by decide)))).symm
        have m17025 := m16996.trans (Wr.neI wH17005 (Or.inl (G_ne ga0 gq16972 (by decide)))).symm
        have m17026 := m16997.trans (Wr.neR wH17005 (Or.inl (G_ne ga0 gq16972 (by decide)))).symm
        have m17027 := ex16977.trans (Wr.neI wH17005 (Or.inl (G_ne ga0 gq16972 (by decide)))).symm
        have m17028 := Wr.I wH17005
        have m17028 := m17028.symm
        clear b16985 b16986 b16987 b16999 b17000 b17001 b17002 b17003 b17004 ex16977 g16979 hTH16975 m16978 m16988 m16989 m16990 m16992 m16993 m16994 m16995 m16996 m16997 mf16998
        refine lv_aload_n hx hb dX10_keepsBars_56 rfl (lv_at hl16860 0 rfl) ?_
        refine x_gr C hTH17005 (ci := 10) (k := 14) rfl inX10 (by decide) wF_X10_44 ga0 rg_112 rfl dX10_keepsBars_57 (fun q17029 eq17029 gq17029 => ?_)
        replace eq17029 := EQN.mk eq17029
        refine lv_iload_n hx hb dX10_keepsBars_60 rfl (lv_at hl16860 1 rfl) ?_
        refine lv_aload_n hx hb dX10_keepsBars_61 rfl (lv_at hl16860 0 rfl) ?_
        refine lv_aload_n hx hb dX10_keepsBars_62 rfl (lv_at hl16860 0 rfl) ?_
        refine x_gr C hTH17005 (ci := 10) (k := 14) rfl inX10 (by decide) wF_X10_44 ga0 rg_112 rfl dX10_keepsBars_63 (fun q17030 eq17030 gq17030 => ?_)
        have uq17030 : q17029 = q17030 := (eq17029).trans eq17030.symm
        subst uq17030
        clear eq17030
        refine lv_iload_n hx hb dX10_keepsBars_66 rfl (lv_at hl16860 1 rfl) ?_
        refine x_ai C hTH17005 gq17029 rg_123 ⟨by omega, by show _ < ((10 : Nat) : Int); omega⟩ dX10_keepsBars_67 (fun x17031 ex17031 bx17031 => ?_)
        refine x_V (As := [.int x17031]) (rest := [.int x16861, .ref q17029]) C (a_X10_kept l K G H17005 (x17031) (x16977) (tk) hTH17005 ga0 giq m17020 m17027 m17025 g17007 (by and_intros <;> first | assumption | omega)) yo_X10_kept wM_X10_473 ⟨⟨by decide, by decide⟩, by decide, by decide⟩ (x_rv C hTH17005 (ci := 10) rfl ga0 rg_112) rfl hl16860.1 rfl (Nat.le_of_ble_eq_true rfl) dX10_keepsBars_68 hSH17005 (AE_sub (fun _ _ => rfl) (by decide) hSH17005.1) (fun vH17032 H17032 locsH17032 pH17032 zH17032 kH17032 hSH17032 => ?_)
        obtain ⟨x17033, x17034, hvH17032, ex17034, hrH17032, m17035, g17036, mf17037, m17038, m17039, m17040, m17041, hTH17032⟩ := pH17032
        subst hvH17032
        clear zH17032
        replace m17035 := EQN.mk m17035
        have b17042 : UN (tk.toInt ≠ 0) (fun k => fI H17032 q4 k) (fun k => fI s.heap q4 k) := UN.congr (fun j => fI_kept (x_lt hTH17005 kH17032 gq4 (by decide))) b17008
        have b17043 : UN (tk.toInt ≠ 0) (fun k => fI H17032 q16 k) (fun k => fI s.heap q16 k) := UN.congr (fun j => fI_kept (x_lt hTH17005 kH17032 gq16 (by decide))) b17009
        have b17044 : UN (tk.toInt ≠ 0) (fun k => fI H17032 q50 k) (fun k => fI s.heap q50 k) := UN.congr (fun j => fI_kept (x_lt hTH17005 kH17032 gq50 (by decide))) b17010
        have m17045 := (m17017).trans (fI_kept (x_lt hTH17005 kH17032 gq4 (by decide))).symm
        have m17046 := (m17018).trans (fI_kept (x_lt hTH17005 kH17032 gq10 (by decide))).symm
        have m17047 := (m17028).trans (fI_kept (x_lt hTH17005 kH17032 gq16972 (by decide))).symm
        have m17048 := (ex17031).trans (fI_kept (x_lt hTH17005 kH17032 gq17029 (by decide))).symm
        have m17049 := (m17020).trans (MF.r mf17037 (k := 73) (by decide) (by decide)).symm
        have m17050 := (m17021).trans (MF.r mf17037 (k := 4) (by decide) (by decide)).symm
        have m17051 := (m17022).trans (MF.r mf17037 (k := 10) (by decide) (by decide)).symm
        have m17052 := (m17023).trans (MF.r mf17037 (k := 16) (by decide) (by decide)).symm
        have m17053 := (m17024).trans (MF.r mf17037 (k := 50) (by decide) (by decide)).symm
        have m17054 := (m17025).trans (MF.i mf17037 (k := 71) (by decide) (by decide)).symm
        have m17055 := (m17026).trans (MF.r mf17037 (k := 13) (by decide) (by decide)).symm
        have m17056 := (eq17029).trans (MF.r mf17037 (k := 14) (by decide) (by decide)).symm
        have mf17057 : MF K s.heap H17032 a0 [72] := MF.trans mf17006 mf17037 (by decide)
        have bx17034 := ty_fi (x := x17034) (k := 72) ex17034 hTH17032 ga0 rg_112 rfl
        have ce_x16977 := i_cl (x := x16977) (by omega)
        have b17058 : UN (tk.toInt = 0) (fun k => fI H17032 iq k) (fun k => fI s.heap iq k) := UN.tr m17041 b17011
        have b17059 : FB (fun k => fI H17032 iq k) (fun k => fI s.heap iq k) (6) := FB.wr b17012 m17040 (fun j hj => by omega)
        have b17060 : EQ (fun k => fI H17032 q4 k) (fun k => fI H17032 iq k) (6) (6) (x16861.toNatClampNeg + 1) := EQ.wr (EQ.congr (w1 := fun k => fI H17005 iq k) (fun j => fI_kept (x_lt hTH17005 kH17032 gq4 (by decide))) (fun _ => rfl) b17013) m17040 (fun j hj => by omega)
        have b17061 : EQ (fun k => fI H17032 q10 k) (fun k => fI H17032 iq k) (7) (6) (x16861.toNatClampNeg + 1) := EQ.wr (EQ.congr (w1 := fun k => fI H17005 iq k) (fun j => fI_kept (x_lt hTH17005 kH17032 gq10 (by decide))) (fun _ => rfl) b17014) m17040 (fun j hj => by omega)
        have b17062 : EQ (fun k => fI H17032 q50 k) (fun k => fI H17032 iq k) (11) (6) (x16861.toNatClampNeg) := EQ.wr (EQ.congr (w1 := fun k => fI H17005 iq k) (fun j => fI_kept (x_lt hTH17005 kH17032 gq50 (by decide))) (fun _ => rfl) b17015) m17040 (fun j hj => by omega)
        have b17063 : EQ (fun k => fI H17032 q16 k) (fun k => fI H17032 iq k) (736) (3) (0) := EQ.wr (EQ.congr (w1 := fun k => fI H17005 iq k) (fun j => fI_kept (x_lt hTH17005 kH17032 gq16 (by decide))) (fun _ => rfl) b17016) m17040 (fun j hj => by omega)
        clear b17008 b17009 b17010 b17011 b17012 b17013 b17014 b17015 b17016 eq17029 ex17031 m17017 m17018 m17020 m17021 m17022 m17023 m17024 m17025 m17026 m17027 m17028
        clear m17040 m17041
        refine W.eq (g2 := F0 m 71 ls16859 [.int x17033, .int x16861, .ref q17029]) rfl ?_
        refine x_iast C hTH17032 hSH17032 gq17029 rg_123 (by omega) (by show _ < ((10 : Nat) : Int); omega) ⟨by have := i_rng x17033; omega, by have := i_rng x17033; omega⟩ (AE_in gq17029 (by decide)) dX10_keepsBars_71 (fun H17064 locsH17064 hTH17064 hSH17064 wH17064 => ?_)
        have mf17065 : MF K s.heap H17064 a0 [72] := MF.arr wH17064 (G_ne ga0 gq17029 (by decide)) mf17057
        have g17066 : WD (avw K H17064 a0) := WD.congr (fun k hk j => av_arr hTH17032 ga0 wH17064 gq17029 (by decide) (WD_ok 123 (by decide) k hk)) g17036
        have b17067 : UN (tk.toInt ≠ 0) (fun k => fI H17064 q4 k) (fun k => fI s.heap q4 k) := UN.congr (fun j => Wr.neI wH17064 (Or.inl (G_ne gq4 gq17029 (by decide)))) b17042
        have b17068 : UN (tk.toInt ≠ 0) (fun k => fI H17064 q16 k) (fun k => fI s.heap q16 k) := UN.congr (fun j => Wr.neI wH17064 (Or.inl (G_ne gq16 gq17029 (by decide)))) b17043
        have b17069 : UN (tk.toInt ≠ 0) (fun k => fI H17064 q50 k) (fun k => fI s.heap q50 k) := UN.congr (fun j => Wr.neI wH17064 (Or.inl (G_ne gq50 gq17029 (by decide)))) b17044
        have b17070 : UN (tk.toInt = 0) (fun k => fI H17064 iq k) (fun k => fI s.heap iq k) := UN.congr (fun j => Wr.neI wH17064 (Or.inl (G_ne giq gq17029 (by decide)))) b17058
        have b17071 : FB (fun k => fI H17064 iq k) (fun k => fI s.heap iq k) (6) := FB.congr (fun j => Wr.neI wH17064 (Or.inl (G_ne giq gq17029 (by decide)))) b17059
        have b17072 : EQ (fun k => fI H17064 q4 k) (fun k => fI H17064 iq k) (6) (6) (x16861.toNatClampNeg + 1) := EQ.congr (fun j => Wr.neI wH17064 (Or.inl (G_ne gq4 gq17029 (by decide)))) (fun j => Wr.neI wH17064 (Or.inl (G_ne giq gq17029 (by decide)))) b17060
        have b17073 : EQ (fun k => fI H17064 q10 k) (fun k => fI H17064 iq k) (7) (6) (x16861.toNatClampNeg + 1) := EQ.congr (fun j => Wr.neI wH17064 (Or.inl (G_ne gq10 gq17029 (by decide)))) (fun j => Wr.neI wH17064 (Or.inl (G_ne giq gq17029 (by decide)))) b17061
        have b17074 : EQ (fun k => fI H17064 q50 k) (fun k => fI H17064 iq k) (11) (6) (x16861.toNatClampNeg) := EQ.congr (fun j => Wr.neI wH17064 (Or.inl (G_ne gq50 gq17029 (by decide)))) (fun j => Wr.neI wH17064 (Or.inl (G_ne giq gq17029 (by decide)))) b17062
        have b17075 : EQ (fun k => fI H17064 q16 k) (fun k => fI H17064 iq k) (736) (3) (0) := EQ.congr (fun j => Wr.neI wH17064 (Or.inl (G_ne gq16 gq17029 (by decide)))) (fun j => Wr.neI wH17064 (Or.inl (G_ne giq gq17029 (by decide)))) b17063
        have m17076 := m17045.trans (Wr.neI wH17064 (Or.inl (G_ne gq4 gq17029 (by decide)))).symm
        have m17077 := m17046.trans (Wr.neI wH17064 (Or.inl (G_ne gq10 gq17029 (by decide)))).symm
        have m17078 := m17047.trans (Wr.neI wH17064 (Or.inl (G_ne gq16972 gq17029 (by decide)))).symm
        have m17080 := m17035.trans (Wr.neR wH17064 (Or.inl (G_ne ga0 gq17029 (by decide)))).symm
        have m17081 := m17050.trans (Wr.neR wH17064 (Or.inl (G_ne ga0 gq17029 (by decide)))).symm
        have m17082 := m17051.trans (Wr.neR wH17064 (Or.inl (G_ne ga0 gq17029 (by decide)))).symm
        have m17083 := m17052.trans (Wr.neR wH17064 (Or.inl (G_ne ga0 gq17029 (by decide)))).symm
        have m17084 := m17053.trans (Wr.neR wH17064 (Or.inl (G_ne ga0 gq17029 (by decide)))).symm
        have m17085 := m17054.trans (Wr.neI wH17064 (Or.inl (G_ne ga0 gq17029 (by decide)))).symm
        have m17086 := m17055.trans (Wr.neR wH17064 (Or.inl (G_ne ga0 gq17029 (by decide)))).symm
        have m17087 := m17056.trans (Wr.neR wH17064 (Or.inl (G_ne ga0 gq17029 (by decide)))).symm
        have m17088 := ex17034.trans (Wr.neI wH17064 (Or.inl (G_ne ga0 gq17029 (by decide)))).symm
        have m17089 := Wr.I wH17064
        have m17089 := m17089.symm
        clear b17042 b17043 b17044 b17058 b17059 b17060 b17061 b17062 b17063 ex17034 g17036 hTH17032 m17035 m17045 m17046 m17047 m17048 m17050 m17051 m17052 m17053 m17054 m17055 m17056 mf17057
        refine lv_aload_n hx hb dX10_keepsBars_72 rfl (lv_at hl16860 0 rfl) ?_
        refine x_gr C hTH17064 (ci := 10) (k := 15) rfl inX10 (by decide) wF_X10_47 ga0 rg_112 rfl dX10_keepsBars_73 (fun q17090 eq17090 gq17090 => ?_)
        replace eq17090 := EQN.mk eq17090
        refine lv_iload_n hx hb dX10_keepsBars_76 rfl (lv_at hl16860 1 rfl) ?_
        refine lv_aload_n hx hb dX10_keepsBars_77 rfl (lv_at hl16860 0 rfl) ?_
        refine lv_aload_n hx hb dX10_keepsBars_78 rfl (lv_at hl16860 0 rfl) ?_
        refine x_gr C hTH17064 (ci := 10) (k := 15) rfl inX10 (by decide) wF_X10_47 ga0 rg_112 rfl dX10_keepsBars_79 (fun q17091 eq17091 gq17091 => ?_)
        have uq17091 : q17090 = q17091 := (eq17090).trans eq17091.symm
        subst uq17091
        clear eq17091
        refine lv_iload_n hx hb dX10_keepsBars_82 rfl (lv_at hl16860 1 rfl) ?_
        refine x_ai C hTH17064 gq17090 rg_124 ⟨by omega, by show _ < ((10 : Nat) : Int); omega⟩ dX10_keepsBars_83 (fun x17092 ex17092 bx17092 => ?_)
        refine x_V (As := [.int x17092]) (rest := [.int x16861, .ref q17090]) C (a_X10_kept l K G H17064 (x17092) (x17034) (tk) hTH17064 ga0 giq m17080 m17088 m17085 g17066 (by and_intros <;> first | assumption | omega)) yo_X10_kept wM_X10_473 ⟨⟨by decide, by decide⟩, by decide, by decide⟩ (x_rv C hTH17064 (ci := 10) rfl ga0 rg_112) rfl hl16860.1 rfl (Nat.le_of_ble_eq_true rfl) dX10_keepsBars_84 hSH17064 (AE_sub (fun _ _ => rfl) (by decide) hSH17064.1) (fun vH17093 H17093 locsH17093 pH17093 zH17093 kH17093 hSH17093 => ?_)
        obtain ⟨x17094, x17095, hvH17093, ex17095, hrH17093, m17096, g17097, mf17098, m17099, m17100, m17101, m17102, hTH17093⟩ := pH17093
        subst hvH17093
        clear zH17093
        replace m17096 := EQN.mk m17096
        have b17103 : UN (tk.toInt ≠ 0) (fun k => fI H17093 q4 k) (fun k => fI s.heap q4 k) := UN.congr (fun j => fI_kept (x_lt hTH17064 kH17093 gq4 (by decide))) b17067
        have b17104 : UN (tk.toInt ≠ 0) (fun k => fI H17093 q16 k) (fun k => fI s.heap q16 k) := UN.congr (fun j => fI_kept (x_lt hTH17064 kH17093 gq16 (by decide))) b17068
        have b17105 : UN (tk.toInt ≠ 0) (fun k => fI H17093 q50 k) (fun k => fI s.heap q50 k) := UN.congr (fun j => fI_kept (x_lt hTH17064 kH17093 gq50 (by decide))) b17069
        have m17106 := (m17076).trans (fI_kept (x_lt hTH17064 kH17093 gq4 (by decide))).symm
        have m17107 := (m17077).trans (fI_kept (x_lt hTH17064 kH17093 gq10 (by decide))).symm
        have m17108 := (m17078).trans (fI_kept (x_lt hTH17064 kH17093 gq16972 (by decide))).symm
        have m17109 := (m17089).trans (fI_kept (x_lt hTH17064 kH17093 gq17029 (by decide))).symm
        have m17110 := (ex17092).trans (fI_kept (x_lt hTH17064 kH17093 gq17090 (by decide))).symm
        have m17111 := (m17080).trans (MF.r mf17098 (k := 73) (by decide) (by decide)).symm
        have m17112 := (m17081).trans (MF.r mf17098 (k := 4) (by decide) (by decide)).symm
        have m17113 := (m17082).trans (MF.r mf17098 (k := 10) (by decide) (by decide)).symm
        have m17114 := (m17083).trans (MF.r mf17098 (k := 16) (by decide) (by decide)).symm
        have m17115 := (m17084).trans (MF.r mf17098 (k := 50) (by decide) (by decide)).symm
        have m17116 := (m17085).trans (MF.i mf17098 (k := 71) (by decide) (by decide)).symm
        have m17117 := (m17086).trans (MF.r mf17098 (k := 13) (by decide) (by decide)).symm
        have m17118 := (m17087).trans (MF.r mf17098 (k := 14) (by decide) (by decide)).symm
        have m17119 := (eq17090).trans (MF.r mf17098 (k := 15) (by decide) (by decide)).symm
        have mf17120 : MF K s.heap H17093 a0 [72] := MF.trans mf17065 mf17098 (by decide)
        have bx17095 := ty_fi (x := x17095) (k := 72) ex17095 hTH17093 ga0 rg_112 rfl
        have ce_x17034 := i_cl (x := x17034) (by omega)
        have b17121 : UN (tk.toInt = 0) (fun k => fI H17093 iq k) (fun k => fI s.heap iq k) := UN.tr m17102 b17070
        have b17122 : FB (fun k => fI H17093 iq k) (fun k => fI s.heap iq k) (6) := FB.wr b17071 m17101 (fun j hj => by omega)
        have b17123 : EQ (fun k => fI H17093 q4 k) (fun k => fI H17093 iq k) (6) (6) (x16861.toNatClampNeg + 1) := EQ.wr (EQ.congr (w1 := fun k => fI H17064 iq k) (fun j => fI_kept (x_lt hTH17064 kH17093 gq4 (by decide))) (fun _ => rfl) b17072) m17101 (fun j hj => by omega)
        have b17124 : EQ (fun k => fI H17093 q10 k) (fun k => fI H17093 iq k) (7) (6) (x16861.toNatClampNeg + 1) := EQ.wr (EQ.congr (w1 := fun k => fI H17064 iq k) (fun j => fI_kept (x_lt hTH17064 kH17093 gq10 (by decide))) (fun _ => rfl) b17073) m17101 (fun j hj => by omega)
        have b17125 : EQ (fun k => fI H17093 q50 k) (fun k => fI H17093 iq k) (11) (6) (x16861.toNatClampNeg) := EQ.wr (EQ.congr (w1 := fun k => fI H17064 iq k) (fun j => fI_kept (x_lt hTH17064 kH17093 gq50 (by decide))) (fun _ => rfl) b17074) m17101 (fun j hj => by omega)
        have b17126 : EQ (fun k => fI H17093 q16 k) (fun k => fI H17093 iq k) (736) (3) (0) := EQ.wr (EQ.congr (w1 := fun k => fI H17064 iq k) (fun j => fI_kept (x_lt hTH17064 kH17093 gq16 (by decide))) (fun _ => rfl) b17075) m17101 (fun j hj => by omega)
        clear b17067 b17068 b17069 b17070 b17071 b17072 b17073 b17074 b17075 eq17090 ex17092 m17076 m17077 m17078 m17080 m17081 m17082 m17083 m17084 m17085 m17086 m17087 m17088 m17089
        clear m17101 m17102
        refine W.eq (g2 := F0 m 87 ls16859 [.int x17094, .int x16861, .ref q17090]) rfl ?_
        refine x_iast C hTH17093 hSH17093 gq17090 rg_124 (by omega) (by show _ < ((10 : Nat) : Int); omega) ⟨by have := i_rng x17094; omega, by have := i_rng x17094; omega⟩ (AE_in gq17090 (by decide)) dX10_keepsBars_87 (fun H17127 locsH17127 hTH17127 hSH17127 wH17127 => ?_)
        have mf17128 : MF K s.heap H17127 a0 [72] := MF.arr wH17127 (G_ne ga0 gq17090 (by decide)) mf17120
        have g17129 : WD (avw K H17127 a0) := WD.congr (fun k hk j => av_arr hTH17093 ga0 wH17127 gq17090 (by decide) (WD_ok 124 (by decide) k hk)) g17097
        have b17130 : UN (tk.toInt ≠ 0) (fun k => fI H17127 q4 k) (fun k => fI s.heap q4 k) := UN.congr (fun j => Wr.neI wH17127 (Or.inl (G_ne gq4 gq17090 (by decide)))) b17103
        have b17131 : UN (tk.toInt ≠ 0) (fun k => fI H17127 q16 k) (fun k => fI s.heap q16 k) := UN.congr (fun j => Wr.neI wH17127 (Or.inl (G_ne gq16 gq17090 (by decide)))) b17104
        have b17132 : UN (tk.toInt ≠ 0) (fun k => fI H17127 q50 k) (fun k => fI s.heap q50 k) := UN.congr (fun j => Wr.neI wH17127 (Or.inl (G_ne gq50 gq17090 (by decide)))) b17105
        have b17133 : UN (tk.toInt = 0) (fun k => fI H17127 iq k) (fun k => fI s.heap iq k) := UN.congr (fun j => Wr.neI wH17127 (Or.inl (G_ne giq gq17090 (by decide)))) b17121
        have b17134 : FB (fun k => fI H17127 iq k) (fun k => fI s.heap iq k) (6) := FB.congr (fun j => Wr.neI wH17127 (Or.inl (G_ne giq gq17090 (by decide)))) b17122
        have b17135 : EQ (fun k => fI H17127 q4 k) (fun k => fI H17127 iq k) (6) (6) (x16861.toNatClampNeg + 1) := EQ.congr (fun j => Wr.neI wH17127 (Or.inl (G_ne gq4 gq17090 (by decide)))) (fun j => Wr.neI wH17127 (Or.inl (G_ne giq gq17090 (by decide)))) b17123
        have b17136 : EQ (fun k => fI H17127 q10 k) (fun k => fI H17127 iq k) (7) (6) (x16861.toNatClampNeg + 1) := EQ.congr (fun j => Wr.neI wH17127 (Or.inl (G_ne gq10 gq17090 (by decide)))) (fun j => Wr.neI wH17127 (Or.inl (G_ne giq gq17090 (by decide)))) b17124
        have b17137 : EQ (fun k => fI H17127 q50 k) (fun k => fI H17127 iq k) (11) (6) (x16861.toNatClampNeg) := EQ.congr (fun j => Wr.neI wH17127 (Or.inl (G_ne gq50 gq17090 (by decide)))) (fun j => Wr.neI wH17127 (Or.inl (G_ne giq gq17090 (by decide)))) b17125
        have b17138 : EQ (fun k => fI H17127 q16 k) (fun k => fI H17127 iq k) (736) (3) (0) := EQ.congr (fun j => Wr.neI wH17127 (Or.inl (G_ne gq16 gq17090 (by decide)))) (fun j => Wr.neI wH17127 (Or.inl (G_ne giq gq17090 (by decide)))) b17126
        have m17139 := m17106.trans (Wr.neI wH17127 (Or.inl (G_ne gq4 gq17090 (by decide)))).symm
        have m17140 := m17107.trans (Wr.neI wH17127 (Or.inl (G_ne gq10 gq17090 (by decide)))).symm
        have m17141 := m17108.trans (Wr.neI wH17127 (Or.inl (G_ne gq16972 gq17090 (by decide)))).symm
        have m17142 := m17109.trans (Wr.neI wH17127 (Or.inl (G_ne gq17029 gq17090 (by decide)))).symm
        have m17144 := m17096.trans (Wr.neR wH17127 (Or.inl (G_ne ga0 gq17090 (by decide)))).symm
        have m17145 := m17112.trans (Wr.neR wH17127 (Or.inl (G_ne ga0 gq17090 (by decide)))).symm
        have m17146 := m17113.trans (Wr.neR wH17127 (Or.inl (G_ne ga0 gq17090 (by decide)))).symm
        have m17147 := m17114.trans (Wr.neR wH17127 (Or.inl (G_ne ga0 gq17090 (by decide)))).symm
        have m17148 := m17115.trans (Wr.neR wH17127 (Or.inl (G_ne ga0 gq17090 (by decide)))).symm
        have m17149 := m17116.trans (Wr.neI wH17127 (Or.inl (G_ne ga0 gq17090 (by decide)))).symm
        have m17150 := m17117.trans (Wr.neR wH17127 (Or.inl (G_ne ga0 gq17090 (by decide)))).symm
        have m17151 := m17118.trans (Wr.neR wH17127 (Or.inl (G_ne ga0 gq17090 (by decide)))).symm
        have m17152 := m17119.trans (Wr.neR wH17127 (Or.inl (G_ne ga0 gq17090 (by decide)))).symm
        have m17153 := ex17095.trans (Wr.neI wH17127 (Or.inl (G_ne ga0 gq17090 (by decide)))).symm
        have m17154 := Wr.I wH17127
        have m17154 := m17154.symm
        clear b17103 b17104 b17105 b17121 b17122 b17123 b17124 b17125 b17126 ex17095 g17097 hTH17093 m17096 m17106 m17107 m17108 m17109 m17110 m17112 m17113 m17114 m17115 m17116 m17117 m17118 m17119 mf17120
        refine lv_aload_n hx hb dX10_keepsBars_88 rfl (lv_at hl16860 0 rfl) ?_
        refine x_gr C hTH17127 (ci := 10) (k := 50) rfl inX10 (by decide) wF_X10_116 ga0 rg_112 rfl dX10_keepsBars_89 (fun q17155 eq17155 gq17155 => ?_)
        have uq17155 : q50 = q17155 := (m17148).trans eq17155.symm
        subst uq17155
        clear eq17155
        refine lv_iload_n hx hb dX10_keepsBars_92 rfl (lv_at hl16860 1 rfl) ?_
        refine lv_aload_n hx hb dX10_keepsBars_93 rfl (lv_at hl16860 0 rfl) ?_
        refine lv_aload_n hx hb dX10_keepsBars_94 rfl (lv_at hl16860 0 rfl) ?_
        refine x_gr C hTH17127 (ci := 10) (k := 50) rfl inX10 (by decide) wF_X10_116 ga0 rg_112 rfl dX10_keepsBars_95 (fun q17156 eq17156 gq17156 => ?_)
        have uq17156 : q50 = q17156 := (m17148).trans eq17156.symm
        subst uq17156
        clear eq17156
        refine lv_iload_n hx hb dX10_keepsBars_98 rfl (lv_at hl16860 1 rfl) ?_
        refine x_ai C hTH17127 gq50 rg_146 ⟨by omega, by show _ < ((10 : Nat) : Int); omega⟩ dX10_keepsBars_99 (fun x17157 ex17157 bx17157 => ?_)
        refine x_V (As := [.int x17157]) (rest := [.int x16861, .ref q50]) C (a_X10_kept l K G H17127 (x17157) (x17095) (tk) hTH17127 ga0 giq m17144 m17153 m17149 g17129 (by and_intros <;> first | assumption | omega)) yo_X10_kept wM_X10_473 ⟨⟨by decide, by decide⟩, by decide, by decide⟩ (x_rv C hTH17127 (ci := 10) rfl ga0 rg_112) rfl hl16860.1 rfl (Nat.le_of_ble_eq_true rfl) dX10_keepsBars_100 hSH17127 (AE_sub (fun _ _ => rfl) (by decide) hSH17127.1) (fun vH17158 H17158 locsH17158 pH17158 zH17158 kH17158 hSH17158 => ?_)
        obtain ⟨x17159, x17160, hvH17158, ex17160, hrH17158, m17161, g17162, mf17163, m17164, m17165, m17166, m17167, hTH17158⟩ := pH17158
        subst hvH17158
        clear zH17158
        replace m17161 := EQN.mk m17161
        have b17168 : UN (tk.toInt ≠ 0) (fun k => fI H17158 q4 k) (fun k => fI s.heap q4 k) := UN.congr (fun j => fI_kept (x_lt hTH17127 kH17158 gq4 (by decide))) b17130
        have b17169 : UN (tk.toInt ≠ 0) (fun k => fI H17158 q16 k) (fun k => fI s.heap q16 k) := UN.congr (fun j => fI_kept (x_lt hTH17127 kH17158 gq16 (by decide))) b17131
        have b17170 : UN (tk.toInt ≠ 0) (fun k => fI H17158 q50 k) (fun k => fI s.heap q50 k) := UN.congr (fun j => fI_kept (x_lt hTH17127 kH17158 gq50 (by decide))) b17132
        have m17171 := (m17139).trans (fI_kept (x_lt hTH17127 kH17158 gq4 (by decide))).symm
        have m17172 := (m17140).trans (fI_kept (x_lt hTH17127 kH17158 gq10 (by decide))).symm
        have m17173 := (m17141).trans (fI_kept (x_lt hTH17127 kH17158 gq16972 (by decide))).symm
        have m17174 := (m17142).trans (fI_kept (x_lt hTH17127 kH17158 gq17029 (by decide))).symm
        have m17175 := (m17154).trans (fI_kept (x_lt hTH17127 kH17158 gq17090 (by decide))).symm
        have m17176 := (ex17157).trans (fI_kept (x_lt hTH17127 kH17158 gq50 (by decide))).symm
        have m17177 := (m17144).trans (MF.r mf17163 (k := 73) (by decide) (by decide)).symm
        have m17178 := (m17145).trans (MF.r mf17163 (k := 4) (by decide) (by decide)).symm
        have m17179 := (m17146).trans (MF.r mf17163 (k := 10) (by decide) (by decide)).symm
        have m17180 := (m17147).trans (MF.r mf17163 (k := 16) (by decide) (by decide)).symm
        have m17181 := (m17148).trans (MF.r mf17163 (k := 50) (by decide) (by decide)).symm
        have m17182 := (m17149).trans (MF.i mf17163 (k := 71) (by decide) (by decide)).symm
        have m17183 := (m17150).trans (MF.r mf17163 (k := 13) (by decide) (by decide)).symm
        have m17184 := (m17151).trans (MF.r mf17163 (k := 14) (by decide) (by decide)).symm
        have m17185 := (m17152).trans (MF.r mf17163 (k := 15) (by decide) (by decide)).symm
        have mf17186 : MF K s.heap H17158 a0 [72] := MF.trans mf17128 mf17163 (by decide)
        have bx17160 := ty_fi (x := x17160) (k := 72) ex17160 hTH17158 ga0 rg_112 rfl
        have ce_x17095 := i_cl (x := x17095) (by omega)
        have b17187 : UN (tk.toInt = 0) (fun k => fI H17158 iq k) (fun k => fI s.heap iq k) := UN.tr m17167 b17133
        have b17188 : FB (fun k => fI H17158 iq k) (fun k => fI s.heap iq k) (6) := FB.wr b17134 m17166 (fun j hj => by omega)
        have b17189 : EQ (fun k => fI H17158 q4 k) (fun k => fI H17158 iq k) (6) (6) (x16861.toNatClampNeg + 1) := EQ.wr (EQ.congr (w1 := fun k => fI H17127 iq k) (fun j => fI_kept (x_lt hTH17127 kH17158 gq4 (by decide))) (fun _ => rfl) b17135) m17166 (fun j hj => by omega)
        have b17190 : EQ (fun k => fI H17158 q10 k) (fun k => fI H17158 iq k) (7) (6) (x16861.toNatClampNeg + 1) := EQ.wr (EQ.congr (w1 := fun k => fI H17127 iq k) (fun j => fI_kept (x_lt hTH17127 kH17158 gq10 (by decide))) (fun _ => rfl) b17136) m17166 (fun j hj => by omega)
        have b17191 : EQ (fun k => fI H17158 q50 k) (fun k => fI H17158 iq k) (11) (6) (x16861.toNatClampNeg) := EQ.wr (EQ.congr (w1 := fun k => fI H17127 iq k) (fun j => fI_kept (x_lt hTH17127 kH17158 gq50 (by decide))) (fun _ => rfl) b17137) m17166 (fun j hj => by omega)
        have b17192 : EQ (fun k => fI H17158 q16 k) (fun k => fI H17158 iq k) (736) (3) (0) := EQ.wr (EQ.congr (w1 := fun k => fI H17127 iq k) (fun j => fI_kept (x_lt hTH17127 kH17158 gq16 (by decide))) (fun _ => rfl) b17138) m17166 (fun j hj => by omega)
        clear b17130 b17131 b17132 b17133 b17134 b17135 b17136 b17137 b17138 ex17157 m17139 m17140 m17141 m17142 m17144 m17145 m17146 m17147 m17148 m17149 m17150 m17151 m17152 m17153 m17154
        clear m17166 m17167
        have bx17159 : 0 ≤ x17159.toInt ∧ x17159.toInt ≤ 12 := kr (fun h0 => by have hiw := (hy0 h0); exact kr0 (w := fun k => fI H17158 iq k) m17164 (p := 11 + 6 * x16861.toNatClampNeg) (by omega) (b17187 h0) ((hiw.2.1 x16861.toNatClampNeg (by omega)).2.2)) m17165 (by omega)
        refine W.eq (g2 := F0 m 103 ls16859 [.int x17159, .int x16861, .ref q50]) rfl ?_
        refine x_iast C hTH17158 hSH17158 gq50 rg_146 (by omega) (by show _ < ((10 : Nat) : Int); omega) ⟨by have := i_rng x17159; omega, by have := i_rng x17159; omega⟩ (AE_in gq50 (by decide)) dX10_keepsBars_103 (fun H17193 locsH17193 hTH17193 hSH17193 wH17193 => ?_)
        have mf17194 : MF K s.heap H17193 a0 [72] := MF.arr wH17193 (G_ne ga0 gq50 (by decide)) mf17186
        have g17195 : WD (avw K H17193 a0) := WD.congr (fun k hk j => av_arr hTH17158 ga0 wH17193 gq50 (by decide) (WD_ok 146 (by decide) k hk)) g17162
        have b17196 : UN (tk.toInt ≠ 0) (fun k => fI H17193 q4 k) (fun k => fI s.heap q4 k) := UN.congr (fun j => Wr.neI wH17193 (Or.inl (G_ne gq4 gq50 (by decide)))) b17168
        have b17197 : UN (tk.toInt ≠ 0) (fun k => fI H17193 q16 k) (fun k => fI s.heap q16 k) := UN.congr (fun j => Wr.neI wH17193 (Or.inl (G_ne gq16 gq50 (by decide)))) b17169
        have b17198 : UN (tk.toInt ≠ 0) (fun k => fI H17193 q50 k) (fun k => fI s.heap q50 k) := UN.st b17170 (i := x16861.toNatClampNeg) (fun hc => (m17165 hc).trans m17176) (Wr.I wH17193) (fun j hj => Wr.neI wH17193 (Or.inr hj))
        have b17199 : UN (tk.toInt = 0) (fun k => fI H17193 iq k) (fun k => fI s.heap iq k) := UN.congr (fun j => Wr.neI wH17193 (Or.inl (G_ne giq gq50 (by decide)))) b17187
        have b17200 : FB (fun k => fI H17193 iq k) (fun k => fI s.heap iq k) (6) := FB.congr (fun j => Wr.neI wH17193 (Or.inl (G_ne giq gq50 (by decide)))) b17188
        have b17201 : EQ (fun k => fI H17193 q4 k) (fun k => fI H17193 iq k) (6) (6) (x16861.toNatClampNeg + 1) := EQ.congr (fun j => Wr.neI wH17193 (Or.inl (G_ne gq4 gq50 (by decide)))) (fun j => Wr.neI wH17193 (Or.inl (G_ne giq gq50 (by decide)))) b17189
        have b17202 : EQ (fun k => fI H17193 q10 k) (fun k => fI H17193 iq k) (7) (6) (x16861.toNatClampNeg + 1) := EQ.congr (fun j => Wr.neI wH17193 (Or.inl (G_ne gq10 gq50 (by decide)))) (fun j => Wr.neI wH17193 (Or.inl (G_ne giq gq50 (by decide)))) b17190
        have b17203 : EQ (fun k => fI H17193 q50 k) (fun k => fI H17193 iq k) (11) (6) (x16861.toNatClampNeg + 1) := EQ.st b17191 (i := x16861.toNatClampNeg) (t := x17095.toNatClampNeg) (by omega) m17164 (by omega) (Wr.I wH17193) (fun j hj => Wr.neI wH17193 (Or.inr hj)) (fun j => Wr.neI wH17193 (Or.inl (G_ne giq gq50 (by decide))))
        have b17204 : EQ (fun k => fI H17193 q16 k) (fun k => fI H17193 iq k) (736) (3) (0) := EQ.congr (fun j => Wr.neI wH17193 (Or.inl (G_ne gq16 gq50 (by decide)))) (fun j => Wr.neI wH17193 (Or.inl (G_ne giq gq50 (by decide)))) b17192
        have m17205 := m17171.trans (Wr.neI wH17193 (Or.inl (G_ne gq4 gq50 (by decide)))).symm
        have m17206 := m17172.trans (Wr.neI wH17193 (Or.inl (G_ne gq10 gq50 (by decide)))).symm
        have m17207 := m17173.trans (Wr.neI wH17193 (Or.inl (G_ne gq16972 gq50 (by decide)))).symm
        have m17208 := m17174.trans (Wr.neI wH17193 (Or.inl (G_ne gq17029 gq50 (by decide)))).symm
        have m17209 := m17175.trans (Wr.neI wH17193 (Or.inl (G_ne gq17090 gq50 (by decide)))).symm
        have m17211 := m17161.trans (Wr.neR wH17193 (Or.inl (G_ne ga0 gq50 (by decide)))).symm
        have m17212 := m17178.trans (Wr.neR wH17193 (Or.inl (G_ne ga0 gq50 (by decide)))).symm
        have m17213 := m17179.trans (Wr.neR wH17193 (Or.inl (G_ne ga0 gq50 (by decide)))).symm
        have m17214 := m17180.trans (Wr.neR wH17193 (Or.inl (G_ne ga0 gq50 (by decide)))).symm
        have m17215 := m17181.trans (Wr.neR wH17193 (Or.inl (G_ne ga0 gq50 (by decide)))).symm
        have m17216 := m17182.trans (Wr.neI wH17193 (Or.inl (G_ne ga0 gq50 (by decide)))).symm
        have m17217 := m17183.trans (Wr.neR wH17193 (Or.inl (G_ne ga0 gq50 (by decide)))).symm
        have m17218 := m17184.trans (Wr.neR wH17193 (Or.inl (G_ne ga0 gq50 (by decide)))).symm
        have m17219 := m17185.trans (Wr.neR wH17193 (Or.inl (G_ne ga0 gq50 (by decide)))).symm
        have m17220 := ex17160.trans (Wr.neI wH17193 (Or.inl (G_ne ga0 gq50 (by decide)))).symm
        have m17221 := Wr.I wH17193
        have m17221 := m17221.symm
        clear b17168 b17169 b17170 b17187 b17188 b17189 b17190 b17191 b17192 ex17160 g17162 hTH17158 m17161 m17171 m17172 m17173 m17174 m17175 m17176 m17178 m17179 m17180 m17181 m17182 m17183 m17184 m17185 mf17186
        obtain ⟨x17222, ex17222⟩ : ∃ y : Int32, y = x16861 + 1 := ⟨_, rfl⟩
        have tx17222 := i_add ex17222 (by omega)
        refine lv_iinc (v := x17222) (lv' := [(1, .int x17222), (0, .ref a0)]) hx hb dX10_keepsBars_104 hl16860 (k := 1) rfl (by rw [ex17222]; rfl) (by decide) rfl (fun ls17223 hl17224 => ?_)
        refine lv_goto (tgt := 2) hx hb dX10_keepsBars_107 (by decide) ?_
        have cl_x17222 := i_cl (x := x17222) (by omega)
        exact ih2 ls17223 H17193 locsH17193 (x17222) (x17160) (lv_sub hl17224 [1, 0] rfl) hTH17193 hSH17193 ⟨by have := i_rng x17222; omega, by have := i_rng x17222; omega⟩ ⟨by have := i_rng x17160; omega, by have := i_rng x17160; omega⟩ m17220 m17211 m17212 m17213 m17214 m17215 m17216 b17199 b17200 (EQ.cast b17201 (by omega)) (EQ.cast b17202 (by omega)) (EQ.cast b17203 (by omega)) (EQ.cast b17204 (by omega)) b17196 b17197 b17198 mf17194 g17195 (by omega) (by and_intros <;> first | assumption | omega)
  have ui00 : UN (tk.toInt = 0) (fun k => fI s.heap iq k) (fun k => fI s.heap iq k) := UN.rf
  have fb00 : FB (fun k => fI s.heap iq k) (fun k => fI s.heap iq k) (6) := FB.rf
  have e400 : EQ (fun k => fI s.heap q4 k) (fun k => fI s.heap iq k) (6) (6) (0) := EQ.nil rfl
  have e1000 : EQ (fun k => fI s.heap q10 k) (fun k => fI s.heap iq k) (7) (6) (0) := EQ.nil rfl
  have e5000 : EQ (fun k => fI s.heap q50 k) (fun k => fI s.heap iq k) (11) (6) (0) := EQ.nil rfl
  have e1600 : EQ (fun k => fI s.heap q16 k) (fun k => fI s.heap iq k) (736) (3) (0) := EQ.nil rfl
  have u400 : UN (tk.toInt ≠ 0) (fun k => fI s.heap q4 k) (fun k => fI s.heap q4 k) := UN.rf
  have u1600 : UN (tk.toInt ≠ 0) (fun k => fI s.heap q16 k) (fun k => fI s.heap q16 k) := UN.rf
  have u5000 : UN (tk.toInt ≠ 0) (fun k => fI s.heap q50 k) (fun k => fI s.heap q50 k) := UN.rf
  refine lv_iconst (v := 0) hx hb dX10_keepsBars_0 (by decide) ?_
  refine lv_istore_n (lv' := [(1, .int 0), (0, .ref a0)]) hx hb dX10_keepsBars_1 rfl hl (by decide) rfl (fun ls17225 hl17226 => ?_)
  have cl00 : (0 : Int32).toNatClampNeg = 0 := rfl
  exact J2 ((10 - (0 : Int32).toInt).toNat + 1) ls17225 s.heap [] (0) (ia) (lv_sub hl17226 [1, 0] rfl) hT hS (by decide) ⟨by have := i_rng ia; omega, by have := i_rng ia; omega⟩ eia eiq eq4 eq10 eq16 eq50 etk ui00 fb00 (EQ.cast e400 (by omega)) (EQ.cast e1000 (by omega)) (EQ.cast e5000 (by omega)) (EQ.cast e1600 (by omega)) u400 u1600 u5000 mf0 hg_WD (by omega) (by and_intros <;> first | assumption | omega)

set_option maxHeartbeats 4000000 in
set_option maxRecDepth 100000 in
theorem a_X10_keepsTaps (l : Launch) (K : KE) (G : Nat → Option Nat) (H : Heap) {a0 : Nat} {iq : Nat} (ia : Int32) (tk : Int32) (hT : TY K G H) (ga0 : G a0 = some 112) (giq : G iq = some 162) (eiq : iq = fR H a0 (K.1.2 10 73)) (eia : ia = fI H a0 (K.1.2 10 72)) (etk : tk = fI H a0 (K.1.2 10 71)) (hg_WD : WD (avw K H a0)) (hp0 : ia.toInt = 4796) (hy0 : tk.toInt = 0 → IMw (fun k => fI H iq k)) : MX l K yX10_keepsTaps cX10_keepsTaps 2 none 1 21 0 0 [.ref a0] H (AE G [112, 162, 147, 148, 149, 150, 156, 157, 158, 159] H.size) (fun v H1 => ∃ (t0 : Int32), v = none ∧ t0 = fI H1 a0 (K.1.2 10 72) ∧ (t0.toInt = 8908) ∧ iq = fR H1 a0 (K.1.2 10 73) ∧ (WD (avw K H1 a0)) ∧ MF K H H1 a0 [72] ∧ (UN (tk.toInt = 0) (fun k => fI H1 iq k) (fun k => fI H iq k)) ∧ (FB (fun k => fI H1 iq k) (fun k => fI H iq k) 4796) ∧ TY K G H1) := by
  refine MX.of (by decide +kernel) (Nat.le_of_ble_eq_true rfl) ?_
  intro p e s m below meth c ls Q C hH hl hQ
  subst hH
  have C : CX p K s m _ meth c RX10 cX10_keepsTaps 2 none "keepsTaps" := C
  obtain ⟨hx, hb, hml, hown, hts, hKT, hr, hlocks, hnm⟩ := id C
  have hl : lv_has ls 2 [(0, .ref a0)] := hl
  have hS : va_S (AE G [112, 162, 147, 148, 149, 150, 156, 157, 158, 159] s.heap.size) s.heap s.heap [] := va_S.rf
  have n_0 : (0 : Int32).toInt = 0 := rfl
  have n_1 : (1 : Int32).toInt = 1 := rfl
  have n_8 : (8 : Int32).toInt = 8 := rfl
  have n_120 : (120 : Int32).toInt = 120 := rfl
  have n_1920 : (1920 : Int32).toInt = 1920 := rfl
  have bia := ty_fi (x := ia) (k := 72) eia hT ga0 rg_112 rfl
  have btk := ty_fi (x := tk) (k := 71) etk hT ga0 rg_112 rfl
  have hap : ∀ x y, x < 74 → y < 74 → x ≠ y → K.1.2 10 x ≠ K.1.2 10 y := x_apart hKT hts inX10 tyX10 tyX10_ok nmX10 rfl
  have mf0 : MF K s.heap s.heap a0 [72] := fun _ _ _ => rfl
  replace eiq := EQN.mk eiq
  have J95 : ∀ (nf : Nat) (ls5026 : Array Slot) (H5025 : Heap) (locsH5025 : List Loc) (x5028 : Int32) (x5029 : Int32), lv_has ls5026 2 [(0, .ref a0), (1, .int x5028)] → TY K G H5025 → va_S (AE G [112, 162, 147, 148, 149, 150, 156, 157, 158, 159] s.heap.size) s.heap H5025 locsH5025 → (0 ≤ x5028.toInt ∧ x5028.toInt ≤ 8) → (0 ≤ x5029.toInt ∧ x5029.toInt ≤ 16400) → (x5029 = fI H5025 a0 (K.1.2 10 72)) → (EQN iq (fR H5025 a0 (K.1.2 10 73))) → (tk = fI H5025 a0 (K.1.2 10 71)) → (UN (tk.toInt = 0) (fun k => fI H5025 iq k) (fun k => fI s.heap iq k)) → (FB (fun k => fI H5025 iq k) (fun k => fI s.heap iq k) (4796)) → (MF K s.heap H5025 a0 [72]) → (WD (avw K H5025 a0)) → (8 - x5028.toInt < (nf : Int)) → (x5029.toInt = 8876 + 4 * x5028.toInt) → W p l e ({ frames := 1, cells := 0, slots := 0, locals := 21 } : Room) s m (([.ref a0] : List Value).toArray) below meth c H5025 locsH5025 0 0 Q (F0 m 95 ls5026 []) := by
    intro nf
    induction nf with
    | zero =>
      intro ls5026 H5025 locsH5025 x5028 x5029 hl5027 hTH5025 hSH5025 bx5028 bx5029 ex5029 cy5030_0 cy5030_1 by5030_ui by5030_fb mfy5030 gy5030_WD hm95 iv95
      exfalso
      omega
    | succ nf ih95 =>
      intro ls5026 H5025 locsH5025 x5028 x5029 hl5027 hTH5025 hSH5025 bx5028 bx5029 ex5029 cy5030_0 cy5030_1 by5030_ui by5030_fb mfy5030 gy5030_WD hm95 iv95
      refine lv_iload_n hx hb dX10_keepsTaps_95 rfl (lv_at hl5027 1 rfl) ?_
      refine lv_bipush (v := 8) hx hb dX10_keepsTaps_96 (by decide) ?_
      refine lv_icmp_ge (tgt := 171) hx hb dX10_keepsTaps_98 (by decide) (fun c5031 => ?_) (fun c5031 => ?_)
      · have k5032 := i_le c5031
        exact x_vret C hQ dX10_keepsTaps_171 hSH5025 (by decide) (by decide) (⟨x5029, rfl, ex5029, by omega, cy5030_0, gy5030_WD, mfy5030, by5030_ui, by5030_fb, hTH5025⟩)
      · have k5032 := i_nle c5031
        refine lv_aload_n hx hb dX10_keepsTaps_101 rfl (lv_at hl5027 0 rfl) ?_
        refine x_gr C hTH5025 (ci := 10) (k := 63) rfl inX10 (by decide) wF_X10_146 ga0 rg_112 rfl dX10_keepsTaps_102 (fun q5033 eq5033 gq5033 => ?_)
        replace eq5033 := EQN.mk eq5033
        refine lv_iload_n hx hb dX10_keepsTaps_105 rfl (lv_at hl5027 1 rfl) ?_
        refine lv_aload_n hx hb dX10_keepsTaps_106 rfl (lv_at hl5027 0 rfl) ?_
        refine lv_aload_n hx hb dX10_keepsTaps_107 rfl (lv_at hl5027 0 rfl) ?_
        refine x_gr C hTH5025 (ci := 10) (k := 63) rfl inX10 (by decide) wF_X10_146 ga0 rg_112 rfl dX10_keepsTaps_108 (fun q5034 eq5034 gq5034 => ?_)
        have uq5034 : q5033 = q5034 := (eq5033).trans eq5034.symm
        subst uq5034
        clear eq5034
        refine lv_iload_n hx hb dX10_keepsTaps_111 rfl (lv_at hl5027 1 rfl) ?_
        refine x_ai C hTH5025 gq5033 rg_156 ⟨by omega, by show _ < ((8 : Nat) : Int); omega⟩ dX10_keepsTaps_112 (fun x5035 ex5035 bx5035 => ?_)
        refine x_V (As := [.int x5035]) (rest := [.int x5028, .ref q5033]) C (a_X10_kept l K G H5025 (x5035) (x5029) (tk) hTH5025 ga0 giq cy5030_0 ex5029 cy5030_1 gy5030_WD (by and_intros <;> first | assumption | omega)) yo_X10_kept wM_X10_473 ⟨⟨by decide, by decide⟩, by decide, by decide⟩ (x_rv C hTH5025 (ci := 10) rfl ga0 rg_112) rfl hl5027.1 rfl (Nat.le_of_ble_eq_true rfl) dX10_keepsTaps_113 hSH5025 (AE_sub (fun _ _ => rfl) (by decide) hSH5025.1) (fun vH5036 H5036 locsH5036 pH5036 zH5036 kH5036 hSH5036 => ?_)
        obtain ⟨x5037, x5038, hvH5036, ex5038, hrH5036, m5039, g5040, mf5041, m5042, m5043, m5044, m5045, hTH5036⟩ := pH5036
        subst hvH5036
        clear zH5036
        replace m5039 := EQN.mk m5039
        have m5046 := (ex5035).trans (fI_kept (x_lt hTH5025 kH5036 gq5033 (by decide))).symm
        have m5047 := (cy5030_0).trans (MF.r mf5041 (k := 73) (by decide) (by decide)).symm
        have m5048 := (cy5030_1).trans (MF.i mf5041 (k := 71) (by decide) (by decide)).symm
        have m5049 := (eq5033).trans (MF.r mf5041 (k := 63) (by decide) (by decide)).symm
        have mf5050 : MF K s.heap H5036 a0 [72] := MF.trans mfy5030 mf5041 (by decide)
        have bx5038 := ty_fi (x := x5038) (k := 72) ex5038 hTH5036 ga0 rg_112 rfl
        have ce_x5029 := i_cl (x := x5029) (by omega)
        have b5051 : UN (tk.toInt = 0) (fun k => fI H5036 iq k) (fun k => fI s.heap iq k) := UN.tr m5045 by5030_ui
        have b5052 : FB (fun k => fI H5036 iq k) (fun k => fI s.heap iq k) (4796) := FB.wr by5030_fb m5044 (fun j hj => by omega)
        clear by5030_fb by5030_ui cy5030_0 cy5030_1 eq5033 ex5029 ex5035
        clear m5044 m5045
        refine W.eq (g2 := F0 m 116 ls5026 [.int x5037, .int x5028, .ref q5033]) rfl ?_
        refine x_iast C hTH5036 hSH5036 gq5033 rg_156 (by omega) (by show _ < ((8 : Nat) : Int); omega) ⟨by have := i_rng x5037; omega, by have := i_rng x5037; omega⟩ (AE_in gq5033 (by decide)) dX10_keepsTaps_116 (fun H5053 locsH5053 hTH5053 hSH5053 wH5053 => ?_)
        have mf5054 : MF K s.heap H5053 a0 [72] := MF.arr wH5053 (G_ne ga0 gq5033 (by decide)) mf5050
        have g5055 : WD (avw K H5053 a0) := WD.congr (fun k hk j => av_arr hTH5036 ga0 wH5053 gq5033 (by decide) (WD_ok 156 (by decide) k hk)) g5040
        have b5056 : UN (tk.toInt = 0) (fun k => fI H5053 iq k) (fun k => fI s.heap iq k) := UN.congr (fun j => Wr.neI wH5053 (Or.inl (G_ne giq gq5033 (by decide)))) b5051
        have b5057 : FB (fun k => fI H5053 iq k) (fun k => fI s.heap iq k) (4796) := FB.congr (fun j => Wr.neI wH5053 (Or.inl (G_ne giq gq5033 (by decide)))) b5052
        have m5059 := m5039.trans (Wr.neR wH5053 (Or.inl (G_ne ga0 gq5033 (by decide)))).symm
        have m5060 := m5048.trans (Wr.neI wH5053 (Or.inl (G_ne ga0 gq5033 (by decide)))).symm
        have m5061 := m5049.trans (Wr.neR wH5053 (Or.inl (G_ne ga0 gq5033 (by decide)))).symm
        have m5062 := ex5038.trans (Wr.neI wH5053 (Or.inl (G_ne ga0 gq5033 (by decide)))).symm
        have m5063 := Wr.I wH5053
        have m5063 := m5063.symm
        clear b5051 b5052 ex5038 g5040 hTH5036 m5039 m5046 m5048 m5049 mf5050
        refine lv_aload_n hx hb dX10_keepsTaps_117 rfl (lv_at hl5027 0 rfl) ?_
        refine x_gr C hTH5053 (ci := 10) (k := 64) rfl inX10 (by decide) wF_X10_149 ga0 rg_112 rfl dX10_keepsTaps_118 (fun q5064 eq5064 gq5064 => ?_)
        replace eq5064 := EQN.mk eq5064
        refine lv_iload_n hx hb dX10_keepsTaps_121 rfl (lv_at hl5027 1 rfl) ?_
        refine lv_aload_n hx hb dX10_keepsTaps_122 rfl (lv_at hl5027 0 rfl) ?_
        refine lv_aload_n hx hb dX10_keepsTaps_123 rfl (lv_at hl5027 0 rfl) ?_
        refine x_gr C hTH5053 (ci := 10) (k := 64) rfl inX10 (by decide) wF_X10_149 ga0 rg_112 rfl dX10_keepsTaps_124 (fun q5065 eq5065 gq5065 => ?_)
        have uq5065 : q5064 = q5065 := (eq5064).trans eq5065.symm
        subst uq5065
        clear eq5065
        refine lv_iload_n hx hb dX10_keepsTaps_127 rfl (lv_at hl5027 1 rfl) ?_
        refine x_ai C hTH5053 gq5064 rg_157 ⟨by omega, by show _ < ((8 : Nat) : Int); omega⟩ dX10_keepsTaps_128 (fun x5066 ex5066 bx5066 => ?_)
        refine x_V (As := [.int x5066]) (rest := [.int x5028, .ref q5064]) C (a_X10_kept l K G H5053 (x5066) (x5038) (tk) hTH5053 ga0 giq m5059 m5062 m5060 g5055 (by and_intros <;> first | assumption | omega)) yo_X10_kept wM_X10_473 ⟨⟨by decide, by decide⟩, by decide, by decide⟩ (x_rv C hTH5053 (ci := 10) rfl ga0 rg_112) rfl hl5027.1 rfl (Nat.le_of_ble_eq_true rfl) dX10_keepsTaps_129 hSH5053 (AE_sub (fun _ _ => rfl) (by decide) hSH5053.1) (fun vH5067 H5067 locsH5067 pH5067 zH5067 kH5067 hSH5067 => ?_)
        obtain ⟨x5068, x5069, hvH5067, ex5069, hrH5067, m5070, g5071, mf5072, m5073, m5074, m5075, m5076, hTH5067⟩ := pH5067
        subst hvH5067
        clear zH5067
        replace m5070 := EQN.mk m5070
        have m5077 := (m5063).trans (fI_kept (x_lt hTH5053 kH5067 gq5033 (by decide))).symm
        have m5078 := (ex5066).trans (fI_kept (x_lt hTH5053 kH5067 gq5064 (by decide))).symm
        have m5079 := (m5059).trans (MF.r mf5072 (k := 73) (by decide) (by decide)).symm
        have m5080 := (m5060).trans (MF.i mf5072 (k := 71) (by decide) (by decide)).symm
        have m5081 := (m5061).trans (MF.r mf5072 (k := 63) (by decide) (by decide)).symm
        have m5082 := (eq5064).trans (MF.r mf5072 (k := 64) (by decide) (by decide)).symm
        have mf5083 : MF K s.heap H5067 a0 [72] := MF.trans mf5054 mf5072 (by decide)
        have bx5069 := ty_fi (x := x5069) (k := 72) ex5069 hTH5067 ga0 rg_112 rfl
        have ce_x5038 := i_cl (x := x5038) (by omega)
        have b5084 : UN (tk.toInt = 0) (fun k => fI H5067 iq k) (fun k => fI s.heap iq k) := UN.tr m5076 b5056
        have b5085 : FB (fun k => fI H5067 iq k) (fun k => fI s.heap iq k) (4796) := FB.wr b5057 m5075 (fun j hj => by omega)
        clear b5056 b5057 eq5064 ex5066 m5059 m5060 m5061 m5062 m5063
        clear m5075 m5076
        refine W.eq (g2 := F0 m 132 ls5026 [.int x5068, .int x5028, .ref q5064]) rfl ?_
        refine x_iast C hTH5067 hSH5067 gq5064 rg_157 (by omega) (by show _ < ((8 : Nat) : Int); omega) ⟨by have := i_rng x5068; omega, by have := i_rng x5068; omega⟩ (AE_in gq5064 (by decide)) dX10_keepsTaps_132 (fun H5086 locsH5086 hTH5086 hSH5086 wH5086 => ?_)
        have mf5087 : MF K s.heap H5086 a0 [72] := MF.arr wH5086 (G_ne ga0 gq5064 (by decide)) mf5083
        have g5088 : WD (avw K H5086 a0) := WD.congr (fun k hk j => av_arr hTH5067 ga0 wH5086 gq5064 (by decide) (WD_ok 157 (by decide) k hk)) g5071
        have b5089 : UN (tk.toInt = 0) (fun k => fI H5086 iq k) (fun k => fI s.heap iq k) := UN.congr (fun j => Wr.neI wH5086 (Or.inl (G_ne giq gq5064 (by decide)))) b5084
        have b5090 : FB (fun k => fI H5086 iq k) (fun k => fI s.heap iq k) (4796) := FB.congr (fun j => Wr.neI wH5086 (Or.inl (G_ne giq gq5064 (by decide)))) b5085
        have m5091 := m5077.trans (Wr.neI wH5086 (Or.inl (G_ne gq5033 gq5064 (by decide)))).symm
        have m5093 := m5070.trans (Wr.neR wH5086 (Or.inl (G_ne ga0 gq5064 (by decide)))).symm
        have m5094 := m5080.trans (Wr.neI wH5086 (Or.inl (G_ne ga0 gq5064 (by decide)))).symm
        have m5095 := m5081.trans (Wr.neR wH5086 (Or.inl (G_ne ga0 gq5064 (by decide)))).symm
        have m5096 := m5082.trans (Wr.neR wH5086 (Or.inl (G_ne ga0 gq5064 (by decide)))).symm
        have m5097 := ex5069.trans (Wr.neI wH5086 (Or.inl (G_ne ga0 gq5064 (by decide)))).symm
        have m5098 := Wr.I wH5086
        have m5098 := m5098.symm
        clear b5084 b5085 ex5069 g5071 hTH5067 m5070 m5077 m5078 m5080 m5081 m5082 mf5083
        refine lv_aload_n hx hb dX10_keepsTaps_133 rfl (lv_at hl5027 0 rfl) ?_
        refine x_gr C hTH5086 (ci := 10) (k := 66) rfl inX10 (by decide) wF_X10_152 ga0 rg_112 rfl dX10_keepsTaps_134 (fun q5099 eq5099 gq5099 => ?_)
        replace eq5099 := EQN.mk eq5099
        refine lv_iload_n hx hb dX10_keepsTaps_137 rfl (lv_at hl5027 1 rfl) ?_
        refine lv_aload_n hx hb dX10_keepsTaps_138 rfl (lv_at hl5027 0 rfl) ?_
        refine lv_aload_n hx hb dX10_keepsTaps_139 rfl (lv_at hl5027 0 rfl) ?_
        refine x_gr C hTH5086 (ci := 10) (k := 66) rfl inX10 (by decide) wF_X10_152 ga0 rg_112 rfl dX10_keepsTaps_140 (fun q5100 eq5100 gq5100 => ?_)
        have uq5100 : q5099 = q5100 := (eq5099).trans eq5100.symm
        subst uq5100
        clear eq5100
        refine lv_iload_n hx hb dX10_keepsTaps_143 rfl (lv_at hl5027 1 rfl) ?_
        refine x_ai C hTH5086 gq5099 rg_158 ⟨by omega, by show _ < ((8 : Nat) : Int); omega⟩ dX10_keepsTaps_144 (fun x5101 ex5101 bx5101 => ?_)
        refine x_V (As := [.int x5101]) (rest := [.int x5028, .ref q5099]) C (a_X10_kept l K G H5086 (x5101) (x5069) (tk) hTH5086 ga0 giq m5093 m5097 m5094 g5088 (by and_intros <;> first | assumption | omega)) yo_X10_kept wM_X10_473 ⟨⟨by decide, by decide⟩, by decide, by decide⟩ (x_rv C hTH5086 (ci := 10) rfl ga0 rg_112) rfl hl5027.1 rfl (Nat.le_of_ble_eq_true rfl) dX10_keepsTaps_145 hSH5086 (AE_sub (fun _ _ => rfl) (by decide) hSH5086.1) (fun vH5102 H5102 locsH5102 pH5102 zH5102 kH5102 hSH5102 => ?_)
        obtain ⟨x5103, x5104, hvH5102, ex5104, hrH5102, m5105, g5106, mf5107, m5108, m5109, m5110, m5111, hTH5102⟩ := pH5102
        subst hvH5102
        clear zH5102
        replace m5105 := EQN.mk m5105
        have m5112 := (m5091).trans (fI_kept (x_lt hTH5086 kH5102 gq5033 (by decide))).symm
        have m5113 := (m5098).trans (fI_kept (x_lt hTH5086 kH5102 gq5064 (by decide))).symm
        have m5114 := (ex5101).trans (fI_kept (x_lt hTH5086 kH5102 gq5099 (by decide))).symm
        have m5115 := (m5093).trans (MF.r mf5107 (k := 73) (by decide) (by decide)).symm
        have m5116 := (m5094).trans (MF.i mf5107 (k := 71) (by decide) (by decide)).symm
        have m5117 := (m5095).trans (MF.r mf5107 (k := 63) (by decide) (by decide)).symm
        have m5118 := (m5096).trans (MF.r mf5107 (k := 64) (by decide) (by decide)).symm
        have m5119 := (eq5099).trans (MF.r mf5107 (k := 66) (by decide) (by decide)).symm
        have mf5120 : MF K s.heap H5102 a0 [72] := MF.trans mf5087 mf5107 (by decide)
        have bx5104 := ty_fi (x := x5104) (k := 72) ex5104 hTH5102 ga0 rg_112 rfl
        have ce_x5069 := i_cl (x := x5069) (by omega)
        have b5121 : UN (tk.toInt = 0) (fun k => fI H5102 iq k) (fun k => fI s.heap iq k) := UN.tr m5111 b5089
        have b5122 : FB (fun k => fI H5102 iq k) (fun k => fI s.heap iq k) (4796) := FB.wr b5090 m5110 (fun j hj => by omega)
        clear b5089 b5090 eq5099 ex5101 m5091 m5093 m5094 m5095 m5096 m5097 m5098
        clear m5110 m5111
        refine W.eq (g2 := F0 m 148 ls5026 [.int x5103, .int x5028, .ref q5099]) rfl ?_
        refine x_iast C hTH5102 hSH5102 gq5099 rg_158 (by omega) (by show _ < ((8 : Nat) : Int); omega) ⟨by have := i_rng x5103; omega, by have := i_rng x5103; omega⟩ (AE_in gq5099 (by decide)) dX10_keepsTaps_148 (fun H5123 locsH5123 hTH5123 hSH5123 wH5123 => ?_)
        have mf5124 : MF K s.heap H5123 a0 [72] := MF.arr wH5123 (G_ne ga0 gq5099 (by decide)) mf5120
        have g5125 : WD (avw K H5123 a0) := WD.congr (fun k hk j => av_arr hTH5102 ga0 wH5123 gq5099 (by decide) (WD_ok 158 (by decide) k hk)) g5106
        have b5126 : UN (tk.toInt = 0) (fun k => fI H5123 iq k) (fun k => fI s.heap iq k) := UN.congr (fun j => Wr.neI wH5123 (Or.inl (G_ne giq gq5099 (by decide)))) b5121
        have b5127 : FB (fun k => fI H5123 iq k) (fun k => fI s.heap iq k) (4796) := FB.congr (fun j => Wr.neI wH5123 (Or.inl (G_ne giq gq5099 (by decide)))) b5122
        have m5128 := m5112.trans (Wr.neI wH5123 (Or.inl (G_ne gq5033 gq5099 (by decide)))).symm
        have m5129 := m5113.trans (Wr.neI wH5123 (Or.inl (G_ne gq5064 gq5099 (by decide)))).symm
        have m5131 := m5105.trans (Wr.neR wH5123 (Or.inl (G_ne ga0 gq5099 (by decide)))).symm
        have m5132 := m5116.trans (Wr.neI wH5123 (Or.inl (G_ne ga0 gq5099 (by decide)))).symm
        have m5133 := m5117.trans (Wr.neR wH5123 (Or.inl (G_ne ga0 gq5099 (by decide)))).symm
        have m5134 := m5118.trans (Wr.neR wH5123 (Or.inl (G_ne ga0 gq5099 (by decide)))).symm
        have m5135 := m5119.trans (Wr.neR wH5123 (Or.inl (G_ne ga0 gq5099 (by decide)))).symm
        have m5136 := ex5104.trans (Wr.neI wH5123 (Or.inl (G_ne ga0 gq5099 (by decide)))).symm
        have m5137 := Wr.I wH5123
        have m5137 := m5137.symm
        clear b5121 b5122 ex5104 g5106 hTH5102 m5105 m5112 m5113 m5114 m5116 m5117 m5118 m5119 mf5120
        refine lv_aload_n hx hb dX10_keepsTaps_149 rfl (lv_at hl5027 0 rfl) ?_
        refine x_gr C hTH5123 (ci := 10) (k := 67) rfl inX10 (by decide) wF_X10_155 ga0 rg_112 rfl dX10_keepsTaps_150 (fun q5138 eq5138 gq5138 => ?_)
        replace eq5138 := EQN.mk eq5138
        refine lv_iload_n hx hb dX10_keepsTaps_153 rfl (lv_at hl5027 1 rfl) ?_
        refine lv_aload_n hx hb dX10_keepsTaps_154 rfl (lv_at hl5027 0 rfl) ?_
        refine lv_aload_n hx hb dX10_keepsTaps_155 rfl (lv_at hl5027 0 rfl) ?_
        refine x_gr C hTH5123 (ci := 10) (k := 67) rfl inX10 (by decide) wF_X10_155 ga0 rg_112 rfl dX10_keepsTaps_156 (fun q5139 eq5139 gq5139 => ?_)
        have uq5139 : q5138 = q5139 := (eq5138).trans eq5139.symm
        subst uq5139
        clear eq5139
        refine lv_iload_n hx hb dX10_keepsTaps_159 rfl (lv_at hl5027 1 rfl) ?_
        refine x_ai C hTH5123 gq5138 rg_159 ⟨by omega, by show _ < ((8 : Nat) : Int); omega⟩ dX10_keepsTaps_160 (fun x5140 ex5140 bx5140 => ?_)
        refine x_V (As := [.int x5140]) (rest := [.int x5028, .ref q5138]) C (a_X10_kept l K G H5123 (x5140) (x5104) (tk) hTH5123 ga0 giq m5131 m5136 m5132 g5125 (by and_intros <;> first | assumption | omega)) yo_X10_kept wM_X10_473 ⟨⟨by decide, by decide⟩, by decide, by decide⟩ (x_rv C hTH5123 (ci := 10) rfl ga0 rg_112) rfl hl5027.1 rfl (Nat.le_of_ble_eq_true rfl) dX10_keepsTaps_161 hSH5123 (AE_sub (fun _ _ => rfl) (by decide) hSH5123.1) (fun vH5141 H5141 locsH5141 pH5141 zH5141 kH5141 hSH5141 => ?_)
        obtain ⟨x5142, x5143, hvH5141, ex5143, hrH5141, m5144, g5145, mf5146, m5147, m5148, m5149, m5150, hTH5141⟩ := pH5141
        subst hvH5141
        clear zH5141
        replace m5144 := EQN.mk m5144
        have m5151 := (m5128).trans (fI_kept (x_lt hTH5123 kH5141 gq5033 (by decide))).symm
        have m5152 := (m5129).trans (fI_kept (x_lt hTH5123 kH5141 gq5064 (by decide))).symm
        have m5153 := (m5137).trans (fI_kept (x_lt hTH5123 kH5141 gq5099 (by decide))).symm
        have m5154 := (ex5140).trans (fI_kept (x_lt hTH5123 kH5141 gq5138 (by decide))).symm
        have m5155 := (m5131).trans (MF.r mf5146 (k := 73) (by decide) (by decide)).symm
        have m5156 := (m5132).trans (MF.i mf5146 (k := 71) (by decide) (by decide)).symm
        have m5157 := (m5133).trans (MF.r mf5146 (k := 63) (by decide) (by decide)).symm
        have m5158 := (m5134).trans (MF.r mf5146 (k := 64) (by decide) (by decide)).symm
        have m5159 := (m5135).trans (MF.r mf5146 (k := 66) (by decide) (by decide)).symm
        have m5160 := (eq5138).trans (MF.r mf5146 (k := 67) (by decide) (by decide)).symm
        have mf5161 : MF K s.heap H5141 a0 [72] := MF.trans mf5124 mf5146 (by decide)
        have bx5143 := ty_fi (x := x5143) (k := 72) ex5143 hTH5141 ga0 rg_112 rfl
        have ce_x5104 := i_cl (x := x5104) (by omega)
        have b5162 : UN (tk.toInt = 0) (fun k => fI H5141 iq k) (fun k => fI s.heap iq k) := UN.tr m5150 b5126
        have b5163 : FB (fun k => fI H5141 iq k) (fun k => fI s.heap iq k) (4796) := FB.wr b5127 m5149 (fun j hj => by omega)
        clear b5126 b5127 eq5138 ex5140 m5128 m5129 m5131 m5132 m5133 m5134 m5135 m5136 m5137
        clear m5149 m5150
        refine W.eq (g2 := F0 m 164 ls5026 [.int x5142, .int x5028, .ref q5138]) rfl ?_
        refine x_iast C hTH5141 hSH5141 gq5138 rg_159 (by omega) (by show _ < ((8 : Nat) : Int); omega) ⟨by have := i_rng x5142; omega, by have := i_rng x5142; omega⟩ (AE_in gq5138 (by decide)) dX10_keepsTaps_164 (fun H5164 locsH5164 hTH5164 hSH5164 wH5164 => ?_)
        have mf5165 : MF K s.heap H5164 a0 [72] := MF.arr wH5164 (G_ne ga0 gq5138 (by decide)) mf5161
        have g5166 : WD (avw K H5164 a0) := WD.congr (fun k hk j => av_arr hTH5141 ga0 wH5164 gq5138 (by decide) (WD_ok 159 (by decide) k hk)) g5145
        have b5167 : UN (tk.toInt = 0) (fun k => fI H5164 iq k) (fun k => fI s.heap iq k) := UN.congr (fun j => Wr.neI wH5164 (Or.inl (G_ne giq gq5138 (by decide)))) b5162
        have b5168 : FB (fun k => fI H5164 iq k) (fun k => fI s.heap iq k) (4796) := FB.congr (fun j => Wr.neI wH5164 (Or.inl (G_ne giq gq5138 (by decide)))) b5163
        have m5169 := m5151.trans (Wr.neI wH5164 (Or.inl (G_ne gq5033 gq5138 (by decide)))).symm
        have m5170 := m5152.trans (Wr.neI wH5164 (Or.inl (G_ne gq5064 gq5138 (by decide)))).symm
        have m5171 := m5153.trans (Wr.neI wH5164 (Or.inl (G_ne gq5099 gq5138 (by decide)))).symm
        have m5173 := m5144.trans (Wr.neR wH5164 (Or.inl (G_ne ga0 gq5138 (by decide)))).symm
        have m5174 := m5156.trans (Wr.neI wH5164 (Or.inl (G_ne ga0 gq5138 (by decide)))).symm
        have m5175 := m5157.trans (Wr.neR wH5164 (Or.inl (G_ne ga0 gq5138 (by decide)))).symm
        have m5176 := m5158.trans (Wr.neR wH5164 (Or.inl (G_ne ga0 gq5138 (by decide)))).symm
        have m5177 := m5159.trans (Wr.neR wH5164 (Or.inl (G_ne ga0 gq5138 (by decide)))).symm
        have m5178 := m5160.trans (Wr.neR wH5164 (Or.inl (G_ne ga0 gq5138 (by decide)))).symm
        have m5179 := ex5143.trans (Wr.neI wH5164 (Or.inl (G_ne ga0 gq5138 (by decide)))).symm
        have m5180 := Wr.I wH5164
        have m5180 := m5180.symm
        clear b5162 b5163 ex5143 g5145 hTH5141 m5144 m5151 m5152 m5153 m5154 m5156 m5157 m5158 m5159 m5160 mf5161
        obtain ⟨x5181, ex5181⟩ : ∃ y : Int32, y = x5028 + 1 := ⟨_, rfl⟩
        have tx5181 := i_add ex5181 (by omega)
        refine lv_iinc (v := x5181) (lv' := [(1, .int x5181), (0, .ref a0)]) hx hb dX10_keepsTaps_165 hl5027 (k := 1) rfl (by rw [ex5181]; rfl) (by decide) rfl (fun ls5182 hl5183 => ?_)
        refine lv_goto (tgt := 95) hx hb dX10_keepsTaps_168 (by decide) ?_
        exact ih95 ls5182 H5164 locsH5164 (x5181) (x5143) (lv_sub hl5183 [1, 0] rfl) hTH5164 hSH5164 ⟨by have := i_rng x5181; omega, by have := i_rng x5181; omega⟩ ⟨by have := i_rng x5143; omega, by have := i_rng x5143; omega⟩ m5179 m5173 m5174 b5167 b5168 mf5165 g5166 (by omega) (by and_intros <;> first | assumption | omega)
  have J48 : ∀ (nf : Nat) (ls5185 : Array Slot) (H5184 : Heap) (locsH5184 : List Loc) (x5187 : Int32) (x5188 : Int32), lv_has ls5185 2 [(0, .ref a0), (1, .int x5187)] → TY K G H5184 → va_S (AE G [112, 162, 147, 148, 149, 150, 156, 157, 158, 159] s.heap.size) s.heap H5184 locsH5184 → (0 ≤ x5187.toInt ∧ x5187.toInt ≤ 1920) → (0 ≤ x5188.toInt ∧ x5188.toInt ≤ 16400) → (x5188 = fI H5184 a0 (K.1.2 10 72)) → (EQN iq (fR H5184 a0 (K.1.2 10 73))) → (tk = fI H5184 a0 (K.1.2 10 71)) → (UN (tk.toInt = 0) (fun k => fI H5184 iq k) (fun k => fI s.heap iq k)) → (FB (fun k => fI H5184 iq k) (fun k => fI s.heap iq k) (4796)) → (MF K s.heap H5184 a0 [72]) → (WD (avw K H5184 a0)) → (1920 - x5187.toInt < (nf : Int)) → (x5188.toInt = 5036 + 2 * x5187.toInt) → W p l e ({ frames := 1, cells := 0, slots := 0, locals := 21 } : Room) s m (([.ref a0] : List Value).toArray) below meth c H5184 locsH5184 0 0 Q (F0 m 48 ls5185 []) := by
    intro nf
    induction nf with
    | zero =>
      intro ls5185 H5184 locsH5184 x5187 x5188 hl5186 hTH5184 hSH5184 bx5187 bx5188 ex5188 cy5189_0 cy5189_1 by5189_ui by5189_fb mfy5189 gy5189_WD hm48 iv48
      exfalso
      omega
    | succ nf ih48 =>
      intro ls5185 H5184 locsH5184 x5187 x5188 hl5186 hTH5184 hSH5184 bx5187 bx5188 ex5188 cy5189_0 cy5189_1 by5189_ui by5189_fb mfy5189 gy5189_WD hm48 iv48
      refine lv_iload_n hx hb dX10_keepsTaps_48 rfl (lv_at hl5186 1 rfl) ?_
      refine lv_sipush (v := 1920) hx hb dX10_keepsTaps_49 (by decide) ?_
      refine lv_icmp_ge (tgt := 93) hx hb dX10_keepsTaps_52 (by decide) (fun c5190 => ?_) (fun c5190 => ?_)
      · have k5191 := i_le c5190
        refine lv_iconst (v := 0) hx hb dX10_keepsTaps_93 (by decide) ?_
        refine lv_istore_n (lv' := [(1, .int 0), (0, .ref a0)]) hx hb dX10_keepsTaps_94 rfl hl5186 (by decide) rfl (fun ls5192 hl5193 => ?_)
        have cl00 : (0 : Int32).toNatClampNeg = 0 := rfl
        exact J95 ((8 - (0 : Int32).toInt).toNat + 1) ls5192 H5184 locsH5184 (0) (x5188) (lv_sub hl5193 [1, 0] rfl) hTH5184 hSH5184 (by decide) ⟨by have := i_rng x5188; omega, by have := i_rng x5188; omega⟩ ex5188 cy5189_0 cy5189_1 by5189_ui by5189_fb mfy5189 gy5189_WD (by omega) (by and_intros <;> first | assumption | omega)
      · have k5191 := i_nle c5190
        refine lv_aload_n hx hb dX10_keepsTaps_55 rfl (lv_at hl5186 0 rfl) ?_
        refine x_gr C hTH5184 (ci := 10) (k := 53) rfl inX10 (by decide) wF_X10_125 ga0 rg_112 rfl dX10_keepsTaps_56 (fun q5194 eq5194 gq5194 => ?_)
        replace eq5194 := EQN.mk eq5194
        refine lv_iload_n hx hb dX10_keepsTaps_59 rfl (lv_at hl5186 1 rfl) ?_
        refine lv_aload_n hx hb dX10_keepsTaps_60 rfl (lv_at hl5186 0 rfl) ?_
        refine lv_aload_n hx hb dX10_keepsTaps_61 rfl (lv_at hl5186 0 rfl) ?_
        refine x_gr C hTH5184 (ci := 10) (k := 53) rfl inX10 (by decide) wF_X10_125 ga0 rg_112 rfl dX10_keepsTaps_62 (fun q5195 eq5195 gq5195 => ?_)
        have uq5195 : q5194 = q5195 := (eq5194).trans eq5195.symm
        subst uq5195
        clear eq5195
        refine lv_iload_n hx hb dX10_keepsTaps_65 rfl (lv_at hl5186 1 rfl) ?_
        refine x_ai C hTH5184 gq5194 rg_149 ⟨by omega, by show _ < ((1920 : Nat) : Int); omega⟩ dX10_keepsTaps_66 (fun x5196 ex5196 bx5196 => ?_)
        refine x_V (As := [.int x5196]) (rest := [.int x5187, .ref q5194]) C (a_X10_kept l K G H5184 (x5196) (x5188) (tk) hTH5184 ga0 giq cy5189_0 ex5188 cy5189_1 gy5189_WD (by and_intros <;> first | assumption | omega)) yo_X10_kept wM_X10_473 ⟨⟨by decide, by decide⟩, by decide, by decide⟩ (x_rv C hTH5184 (ci := 10) rfl ga0 rg_112) rfl hl5186.1 rfl (Nat.le_of_ble_eq_true rfl) dX10_keepsTaps_67 hSH5184 (AE_sub (fun _ _ => rfl) (by decide) hSH5184.1) (fun vH5197 H5197 locsH5197 pH5197 zH5197 kH5197 hSH5197 => ?_)
        obtain ⟨x5198, x5199, hvH5197, ex5199, hrH5197, m5200, g5201, mf5202, m5203, m5204, m5205, m5206, hTH5197⟩ := pH5197
        subst hvH5197
        clear zH5197
        replace m5200 := EQN.mk m5200
        have m5207 := (ex5196).trans (fI_kept (x_lt hTH5184 kH5197 gq5194 (by decide))).symm
        have m5208 := (cy5189_0).trans (MF.r mf5202 (k := 73) (by decide) (by decide)).symm
        have m5209 := (cy5189_1).trans (MF.i mf5202 (k := 71) (by decide) (by decide)).symm
        have m5210 := (eq5194).trans (MF.r mf5202 (k := 53) (by decide) (by decide)).symm
        have mf5211 : MF K s.heap H5197 a0 [72] := MF.trans mfy5189 mf5202 (by decide)
        have bx5199 := ty_fi (x := x5199) (k := 72) ex5199 hTH5197 ga0 rg_112 rfl
        have ce_x5188 := i_cl (x := x5188) (by omega)
        have b5212 : UN (tk.toInt = 0) (fun k => fI H5197 iq k) (fun k => fI s.heap iq k) := UN.tr m5206 by5189_ui
        have b5213 : FB (fun k => fI H5197 iq k) (fun k => fI s.heap iq k) (4796) := FB.wr by5189_fb m5205 (fun j hj => by omega)
        clear by5189_fb by5189_ui cy5189_0 cy5189_1 eq5194 ex5188 ex5196
        clear m5205 m5206
        refine W.eq (g2 := F0 m 70 ls5185 [.int x5198, .int x5187, .ref q5194]) rfl ?_
        refine x_iast C hTH5197 hSH5197 gq5194 rg_149 (by omega) (by show _ < ((1920 : Nat) : Int); omega) ⟨by have := i_rng x5198; omega, by have := i_rng x5198; omega⟩ (AE_in gq5194 (by decide)) dX10_keepsTaps_70 (fun H5214 locsH5214 hTH5214 hSH5214 wH5214 => ?_)
        have mf5215 : MF K s.heap H5214 a0 [72] := MF.arr wH5214 (G_ne ga0 gq5194 (by decide)) mf5211
        have g5216 : WD (avw K H5214 a0) := WD.congr (fun k hk j => av_arr hTH5197 ga0 wH5214 gq5194 (by decide) (WD_ok 149 (by decide) k hk)) g5201
        have b5217 : UN (tk.toInt = 0) (fun k => fI H5214 iq k) (fun k => fI s.heap iq k) := UN.congr (fun j => Wr.neI wH5214 (Or.inl (G_ne giq gq5194 (by decide)))) b5212
        have b5218 : FB (fun k => fI H5214 iq k) (fun k => fI s.heap iq k) (4796) := FB.congr (fun j => Wr.neI wH5214 (Or.inl (G_ne giq gq5194 (by decide)))) b5213
        have m5220 := m5200.trans (Wr.neR wH5214 (Or.inl (G_ne ga0 gq5194 (by decide)))).symm
        have m5221 := m5209.trans (Wr.neI wH5214 (Or.inl (G_ne ga0 gq5194 (by decide)))).symm
        have m5222 := m5210.trans (Wr.neR wH5214 (Or.inl (G_ne ga0 gq5194 (by decide)))).symm
        have m5223 := ex5199.trans (Wr.neI wH5214 (Or.inl (G_ne ga0 gq5194 (by decide)))).symm
        have m5224 := Wr.I wH5214
        have m5224 := m5224.symm
        clear b5212 b5213 ex5199 g5201 hTH5197 m5200 m5207 m5209 m5210 mf5211
        refine lv_aload_n hx hb dX10_keepsTaps_71 rfl (lv_at hl5186 0 rfl) ?_
        refine x_gr C hTH5214 (ci := 10) (k := 54) rfl inX10 (by decide) wF_X10_128 ga0 rg_112 rfl dX10_keepsTaps_72 (fun q5225 eq5225 gq5225 => ?_)
        replace eq5225 := EQN.mk eq5225
        refine lv_iload_n hx hb dX10_keepsTaps_75 rfl (lv_at hl5186 1 rfl) ?_
        refine lv_aload_n hx hb dX10_keepsTaps_76 rfl (lv_at hl5186 0 rfl) ?_
        refine lv_aload_n hx hb dX10_keepsTaps_77 rfl (lv_at hl5186 0 rfl) ?_
        refine x_gr C hTH5214 (ci := 10) (k := 54) rfl inX10 (by decide) wF_X10_128 ga0 rg_112 rfl dX10_keepsTaps_78 (fun q5226 eq5226 gq5226 => ?_)
        have uq5226 : q5225 = q5226 := (eq5225).trans eq5226.symm
        subst uq5226
        clear eq5226
        refine lv_iload_n hx hb dX10_keepsTaps_81 rfl (lv_at hl5186 1 rfl) ?_
        refine x_ai C hTH5214 gq5225 rg_150 ⟨by omega, by show _ < ((1920 : Nat) : Int); omega⟩ dX10_keepsTaps_82 (fun x5227 ex5227 bx5227 => ?_)
        refine x_V (As := [.int x5227]) (rest := [.int x5187, .ref q5225]) C (a_X10_kept l K G H5214 (x5227) (x5199) (tk) hTH5214 ga0 giq m5220 m5223 m5221 g5216 (by and_intros <;> first | assumption | omega)) yo_X10_kept wM_X10_473 ⟨⟨by decide, by decide⟩, by decide, by decide⟩ (x_rv C hTH5214 (ci := 10) rfl ga0 rg_112) rfl hl5186.1 rfl (Nat.le_of_ble_eq_true rfl) dX10_keepsTaps_83 hSH5214 (AE_sub (fun _ _ => rfl) (by decide) hSH5214.1) (fun vH5228 H5228 locsH5228 pH5228 zH5228 kH5228 hSH5228 => ?_)
        obtain ⟨x5229, x5230, hvH5228, ex5230, hrH5228, m5231, g5232, mf5233, m5234, m5235, m5236, m5237, hTH5228⟩ := pH5228
        subst hvH5228
        clear zH5228
        replace m5231 := EQN.mk m5231
        have m5238 := (m5224).trans (fI_kept (x_lt hTH5214 kH5228 gq5194 (by decide))).symm
        have m5239 := (ex5227).trans (fI_kept (x_lt hTH5214 kH5228 gq5225 (by decide))).symm
        have m5240 := (m5220).trans (MF.r mf5233 (k := 73) (by decide) (by decide)).symm
        have m5241 := (m5221).trans (MF.i mf5233 (k := 71) (by decide) (by decide)).symm
        have m5242 := (m5222).trans (MF.r mf5233 (k := 53) (by decide) (by decide)).symm
        have m5243 := (eq5225).trans (MF.r mf5233 (k := 54) (by decide) (by decide)).symm
        have mf5244 : MF K s.heap H5228 a0 [72] := MF.trans mf5215 mf5233 (by decide)
        have bx5230 := ty_fi (x := x5230) (k := 72) ex5230 hTH5228 ga0 rg_112 rfl
        have ce_x5199 := i_cl (x := x5199) (by omega)
        have b5245 : UN (tk.toInt = 0) (fun k => fI H5228 iq k) (fun k => fI s.heap iq k) := UN.tr m5237 b5217
        have b5246 : FB (fun k => fI H5228 iq k) (fun k => fI s.heap iq k) (4796) := FB.wr b5218 m5236 (fun j hj => by omega)
        clear b5217 b5218 eq5225 ex5227 m5220 m5221 m5222 m5223 m5224
        clear m5236 m5237
        refine W.eq (g2 := F0 m 86 ls5185 [.int x5229, .int x5187, .ref q5225]) rfl ?_
        refine x_iast C hTH5228 hSH5228 gq5225 rg_150 (by omega) (by show _ < ((1920 : Nat) : Int); omega) ⟨by have := i_rng x5229; omega, by have := i_rng x5229; omega⟩ (AE_in gq5225 (by decide)) dX10_keepsTaps_86 (fun H5247 locsH5247 hTH5247 hSH5247 wH5247 => ?_)
        have mf5248 : MF K s.heap H5247 a0 [72] := MF.arr wH5247 (G_ne ga0 gq5225 (by decide)) mf5244
        have g5249 : WD (avw K H5247 a0) := WD.congr (fun k hk j => av_arr hTH5228 ga0 wH5247 gq5225 (by decide) (WD_ok 150 (by decide) k hk)) g5232
        have b5250 : UN (tk.toInt = 0) (fun k => fI H5247 iq k) (fun k => fI s.heap iq k) := UN.congr (fun j => Wr.neI wH5247 (Or.inl (G_ne giq gq5225 (by decide)))) b5245
        have b5251 : FB (fun k => fI H5247 iq k) (fun k => fI s.heap iq k) (4796) := FB.congr (fun j => Wr.neI wH5247 (Or.inl (G_ne giq gq5225 (by decide)))) b5246
        have m5252 := m5238.trans (Wr.neI wH5247 (Or.inl (G_ne gq5194 gq5225 (by decide)))).symm
        have m5254 := m5231.trans (Wr.neR wH5247 (Or.inl (G_ne ga0 gq5225 (by decide)))).symm
        have m5255 := m5241.trans (Wr.neI wH5247 (Or.inl (G_ne ga0 gq5225 (by decide)))).symm
        have m5256 := m5242.trans (Wr.neR wH5247 (Or.inl (G_ne ga0 gq5225 (by decide)))).symm
        have m5257 := m5243.trans (Wr.neR wH5247 (Or.inl (G_ne ga0 gq5225 (by decide)))).symm
        have m5258 := ex5230.trans (Wr.neI wH5247 (Or.inl (G_ne ga0 gq5225 (by decide)))).symm
        have m5259 := Wr.I wH5247
        have m5259 := m5259.symm
        clear b5245 b5246 ex5230 g5232 hTH5228 m5231 m5238 m5239 m5241 m5242 m5243 mf5244
        obtain ⟨x5260, ex5260⟩ : ∃ y : Int32, y = x5187 + 1 := ⟨_, rfl⟩
        have tx5260 := i_add ex5260 (by omega)
        refine lv_iinc (v := x5260) (lv' := [(1, .int x5260), (0, .ref a0)]) hx hb dX10_keepsTaps_87 hl5186 (k := 1) rfl (by rw [ex5260]; rfl) (by decide) rfl (fun ls5261 hl5262 => ?_)
        refine lv_goto (tgt := 48) hx hb dX10_keepsTaps_90 (by decide) ?_
        exact ih48 ls5261 H5247 locsH5247 (x5260) (x5230) (lv_sub hl5262 [1, 0] rfl) hTH5247 hSH5247 ⟨by have := i_rng x5260; omega, by have := i_rng x5260; omega⟩ ⟨by have := i_rng x5230; omega, by have := i_rng x5230; omega⟩ m5258 m5254 m5255 b5250 b5251 mf5248 g5249 (by omega) (by and_intros <;> first | assumption | omega)
  have J2 : ∀ (nf : Nat) (ls5264 : Array Slot) (H5263 : Heap) (locsH5263 : List Loc) (x5266 : Int32) (x5267 : Int32), lv_has ls5264 2 [(0, .ref a0), (1, .int x5266)] → TY K G H5263 → va_S (AE G [112, 162, 147, 148, 149, 150, 156, 157, 158, 159] s.heap.size) s.heap H5263 locsH5263 → (0 ≤ x5266.toInt ∧ x5266.toInt ≤ 120) → (0 ≤ x5267.toInt ∧ x5267.toInt ≤ 16400) → (x5267 = fI H5263 a0 (K.1.2 10 72)) → (EQN iq (fR H5263 a0 (K.1.2 10 73))) → (tk = fI H5263 a0 (K.1.2 10 71)) → (UN (tk.toInt = 0) (fun k => fI H5263 iq k) (fun k => fI s.heap iq k)) → (FB (fun k => fI H5263 iq k) (fun k => fI s.heap iq k) (4796)) → (MF K s.heap H5263 a0 [72]) → (WD (avw K H5263 a0)) → (120 - x5266.toInt < (nf : Int)) → (x5267.toInt = 4796 + 2 * x5266.toInt) → W p l e ({ frames := 1, cells := 0, slots := 0, locals := 21 } : Room) s m (([.ref a0] : List Value).toArray) below meth c H5263 locsH5263 0 0 Q (F0 m 2 ls5264 []) := by
    intro nf
    induction nf with
    | zero =>
      intro ls5264 H5263 locsH5263 x5266 x5267 hl5265 hTH5263 hSH5263 bx5266 bx5267 ex5267 cy5268_0 cy5268_1 by5268_ui by5268_fb mfy5268 gy5268_WD hm2 iv2
      exfalso
      omega
    | succ nf ih2 =>
      intro ls5264 H5263 locsH5263 x5266 x5267 hl5265 hTH5263 hSH5263 bx5266 bx5267 ex5267 cy5268_0 cy5268_1 by5268_ui by5268_fb mfy5268 gy5268_WD hm2 iv2
      refine lv_iload_n hx hb dX10_keepsTaps_2 rfl (lv_at hl5265 1 rfl) ?_
      refine lv_bipush (v := 120) hx hb dX10_keepsTaps_3 (by decide) ?_
      refine lv_icmp_ge (tgt := 46) hx hb dX10_keepsTaps_5 (by decide) (fun c5269 => ?_) (fun c5269 => ?_)
      · have k5270 := i_le c5269
        refine lv_iconst (v := 0) hx hb dX10_keepsTaps_46 (by decide) ?_
        refine lv_istore_n (lv' := [(1, .int 0), (0, .ref a0)]) hx hb dX10_keepsTaps_47 rfl hl5265 (by decide) rfl (fun ls5271 hl5272 => ?_)
        have cl00 : (0 : Int32).toNatClampNeg = 0 := rfl
        exact J48 ((1920 - (0 : Int32).toInt).toNat + 1) ls5271 H5263 locsH5263 (0) (x5267) (lv_sub hl5272 [1, 0] rfl) hTH5263 hSH5263 (by decide) ⟨by have := i_rng x5267; omega, by have := i_rng x5267; omega⟩ ex5267 cy5268_0 cy5268_1 by5268_ui by5268_fb mfy5268 gy5268_WD (by omega) (by and_intros <;> first | assumption | omega)
      · have k5270 := i_nle c5269
        refine lv_aload_n hx hb dX10_keepsTaps_8 rfl (lv_at hl5265 0 rfl) ?_
        refine x_gr C hTH5263 (ci := 10) (k := 51) rfl inX10 (by decide) wF_X10_119 ga0 rg_112 rfl dX10_keepsTaps_9 (fun q5273 eq5273 gq5273 => ?_)
        replace eq5273 := EQN.mk eq5273
        refine lv_iload_n hx hb dX10_keepsTaps_12 rfl (lv_at hl5265 1 rfl) ?_
        refine lv_aload_n hx hb dX10_keepsTaps_13 rfl (lv_at hl5265 0 rfl) ?_
        refine lv_aload_n hx hb dX10_keepsTaps_14 rfl (lv_at hl5265 0 rfl) ?_
        refine x_gr C hTH5263 (ci := 10) (k := 51) rfl inX10 (by decide) wF_X10_119 ga0 rg_112 rfl dX10_keepsTaps_15 (fun q5274 eq5274 gq5274 => ?_)
        have uq5274 : q5273 = q5274 := (eq5273).trans eq5274.symm
        subst uq5274
        clear eq5274
        refine lv_iload_n hx hb dX10_keepsTaps_18 rfl (lv_at hl5265 1 rfl) ?_
        refine x_ai C hTH5263 gq5273 rg_147 ⟨by omega, by show _ < ((120 : Nat) : Int); omega⟩ dX10_keepsTaps_19 (fun x5275 ex5275 bx5275 => ?_)
        refine x_V (As := [.int x5275]) (rest := [.int x5266, .ref q5273]) C (a_X10_kept l K G H5263 (x5275) (x5267) (tk) hTH5263 ga0 giq cy5268_0 ex5267 cy5268_1 gy5268_WD (by and_intros <;> first | assumption | omega)) yo_X10_kept wM_X10_473 ⟨⟨by decide, by decide⟩, by decide, by decide⟩ (x_rv C hTH5263 (ci := 10) rfl ga0 rg_112) rfl hl5265.1 rfl (Nat.le_of_ble_eq_true rfl) dX10_keepsTaps_20 hSH5263 (AE_sub (fun _ _ => rfl) (by decide) hSH5263.1) (fun vH5276 H5276 locsH5276 pH5276 zH5276 kH5276 hSH5276 => ?_)
        obtain ⟨x5277, x5278, hvH5276, ex5278, hrH5276, m5279, g5280, mf5281, m5282, m5283, m5284, m5285, hTH5276⟩ := pH5276
        subst hvH5276
        clear zH5276
        replace m5279 := EQN.mk m5279
        have m5286 := (ex5275).trans (fI_kept (x_lt hTH5263 kH5276 gq5273 (by decide))).symm
        have m5287 := (cy5268_0).trans (MF.r mf5281 (k := 73) (by decide) (by decide)).symm
        have m5288 := (cy5268_1).trans (MF.i mf5281 (k := 71) (by decide) (by decide)).symm
        have m5289 := (eq5273).trans (MF.r mf5281 (k := 51) (by decide) (by decide)).symm
        have mf5290 : MF K s.heap H5276 a0 [72] := MF.trans mfy5268 mf5281 (by decide)
        have bx5278 := ty_fi (x := x5278) (k := 72) ex5278 hTH5276 ga0 rg_112 rfl
        have ce_x5267 := i_cl (x := x5267) (by omega)
        have b5291 : UN (tk.toInt = 0) (fun k => fI H5276 iq k) (fun k => fI s.heap iq k) := UN.tr m5285 by5268_ui
        have b5292 : FB (fun k => fI H5276 iq k) (fun k => fI s.heap iq k) (4796) := FB.wr by5268_fb m5284 (fun j hj => by omega)
        clear by5268_fb by5268_ui cy5268_0 cy5268_1 eq5273 ex5267 ex5275
        clear m5284 m5285
        refine W.eq (g2 := F0 m 23 ls5264 [.int x5277, .int x5266, .ref q5273]) rfl ?_
        refine x_iast C hTH5276 hSH5276 gq5273 rg_147 (by omega) (by show _ < ((120 : Nat) : Int); omega) ⟨by have := i_rng x5277; omega, by have := i_rng x5277; omega⟩ (AE_in gq5273 (by decide)) dX10_keepsTaps_23 (fun H5293 locsH5293 hTH5293 hSH5293 wH5293 => ?_)
        have mf5294 : MF K s.heap H5293 a0 [72] := MF.arr wH5293 (G_ne ga0 gq5273 (by decide)) mf5290
        have g5295 : WD (avw K H5293 a0) := WD.congr (fun k hk j => av_arr hTH5276 ga0 wH5293 gq5273 (by decide) (WD_ok 147 (by decide) k hk)) g5280
        have b5296 : UN (tk.toInt = 0) (fun k => fI H5293 iq k) (fun k => fI s.heap iq k) := UN.congr (fun j => Wr.neI wH5293 (Or.inl (G_ne giq gq5273 (by decide)))) b5291
        have b5297 : FB (fun k => fI H5293 iq k) (fun k => fI s.heap iq k) (4796) := FB.congr (fun j => Wr.neI wH5293 (Or.inl (G_ne giq gq5273 (by decide)))) b5292
        have m5299 := m5279.trans (Wr.neR wH5293 (Or.inl (G_ne ga0 gq5273 (by decide)))).symm
        have m5300 := m5288.trans (Wr.neI wH5293 (Or.inl (G_ne ga0 gq5273 (by decide)))).symm
        have m5301 := m5289.trans (Wr.neR wH5293 (Or.inl (G_ne ga0 gq5273 (by decide)))).symm
        have m5302 := ex5278.trans (Wr.neI wH5293 (Or.inl (G_ne ga0 gq5273 (by decide)))).symm
        have m5303 := Wr.I wH5293
        have m5303 := m5303.symm
        clear b5291 b5292 ex5278 g5280 hTH5276 m5279 m5286 m5288 m5289 mf5290
        refine lv_aload_n hx hb dX10_keepsTaps_24 rfl (lv_at hl5265 0 rfl) ?_
        refine x_gr C hTH5293 (ci := 10) (k := 52) rfl inX10 (by decide) wF_X10_122 ga0 rg_112 rfl dX10_keepsTaps_25 (fun q5304 eq5304 gq5304 => ?_)
        replace eq5304 := EQN.mk eq5304
        refine lv_iload_n hx hb dX10_keepsTaps_28 rfl (lv_at hl5265 1 rfl) ?_
        refine lv_aload_n hx hb dX10_keepsTaps_29 rfl (lv_at hl5265 0 rfl) ?_
        refine lv_aload_n hx hb dX10_keepsTaps_30 rfl (lv_at hl5265 0 rfl) ?_
        refine x_gr C hTH5293 (ci := 10) (k := 52) rfl inX10 (by decide) wF_X10_122 ga0 rg_112 rfl dX10_keepsTaps_31 (fun q5305 eq5305 gq5305 => ?_)
        have uq5305 : q5304 = q5305 := (eq5304).trans eq5305.symm
        subst uq5305
        clear eq5305
        refine lv_iload_n hx hb dX10_keepsTaps_34 rfl (lv_at hl5265 1 rfl) ?_
        refine x_ai C hTH5293 gq5304 rg_148 ⟨by omega, by show _ < ((120 : Nat) : Int); omega⟩ dX10_keepsTaps_35 (fun x5306 ex5306 bx5306 => ?_)
        refine x_V (As := [.int x5306]) (rest := [.int x5266, .ref q5304]) C (a_X10_kept l K G H5293 (x5306) (x5278) (tk) hTH5293 ga0 giq m5299 m5302 m5300 g5295 (by and_intros <;> first | assumption | omega)) yo_X10_kept wM_X10_473 ⟨⟨by decide, by decide⟩, by decide, by decide⟩ (x_rv C hTH5293 (ci := 10) rfl ga0 rg_112) rfl hl5265.1 rfl (Nat.le_of_ble_eq_true rfl) dX10_keepsTaps_36 hSH5293 (AE_sub (fun _ _ => rfl) (by decide) hSH5293.1) (fun vH5307 H5307 locsH5307 pH5307 zH5307 kH5307 hSH5307 => ?_)
        obtain ⟨x5308, x5309, hvH5307, ex5309, hrH5307, m5310, g5311, mf5312, m5313, m5314, m5315, m5316, hTH5307⟩ := pH5307
        subst hvH5307
        clear zH5307
        replace m5310 := EQN.mk m5310
        have m5317 := (m5303).trans (fI_kept (x_lt hTH5293 kH5307 gq5273 (by decide))).symm
        have m5318 := (ex5306).trans (fI_kept (x_lt hTH5293 kH5307 gq5304 (by decide))).symm
        have m5319 := (m5299).trans (MF.r mf5312 (k := 73) (by decide) (by decide)).symm
        have m5320 := (m5300).trans (MF.i mf5312 (k := 71) (by decide) (by decide)).symm
        have m5321 := (m5301).trans (MF.r mf5312 (k := 51) (by decide) (by decide)).symm
        have m5322 := (eq5304).trans (MF.r mf5312 (k := 52) (by decide) (by decide)).symm
        have mf5323 : MF K s.heap H5307 a0 [72] := MF.trans mf5294 mf5312 (by decide)
        have bx5309 := ty_fi (x := x5309) (k := 72) ex5309 hTH5307 ga0 rg_112 rfl
        have ce_x5278 := i_cl (x := x5278) (by omega)
        have b5324 : UN (tk.toInt = 0) (fun k => fI H5307 iq k) (fun k => fI s.heap iq k) := UN.tr m5316 b5296
        have b5325 : FB (fun k => fI H5307 iq k) (fun k => fI s.heap iq k) (4796) := FB.wr b5297 m5315 (fun j hj => by omega)
        clear b5296 b5297 eq5304 ex5306 m5299 m5300 m5301 m5302 m5303
        clear m5315 m5316
        refine W.eq (g2 := F0 m 39 ls5264 [.int x5308, .int x5266, .ref q5304]) rfl ?_
        refine x_iast C hTH5307 hSH5307 gq5304 rg_148 (by omega) (by show _ < ((120 : Nat) : Int); omega) ⟨by have := i_rng x5308; omega, by have := i_rng x5308; omega⟩ (AE_in gq5304 (by decide)) dX10_keepsTaps_39 (fun H5326 locsH5326 hTH5326 hSH5326 wH5326 => ?_)
        have mf5327 : MF K s.heap H5326 a0 [72] := MF.arr wH5326 (G_ne ga0 gq5304 (by decide)) mf5323
        have g5328 : WD (avw K H5326 a0) := WD.congr (fun k hk j => av_arr hTH5307 ga0 wH5326 gq5304 (by decide) (WD_ok 148 (by decide) k hk)) g5311
        have b5329 : UN (tk.toInt = 0) (fun k => fI H5326 iq k) (fun k => fI s.heap iq k) := UN.congr (fun j => Wr.neI wH5326 (Or.inl (G_ne giq gq5304 (by decide)))) b5324
        have b5330 : FB (fun k => fI H5326 iq k) (fun k => fI s.heap iq k) (4796) := FB.congr (fun j => Wr.neI wH5326 (Or.inl (G_ne giq gq5304 (by decide)))) b5325
        have m5331 := m5317.trans (Wr.neI wH5326 (Or.inl (G_ne gq5273 gq5304 (by decide)))).symm
        have m5333 := m5310.trans (Wr.neR wH5326 (Or.inl (G_ne ga0 gq5304 (by decide)))).symm
        have m5334 := m5320.trans (Wr.neI wH5326 (Or.inl (G_ne ga0 gq5304 (by decide)))).symm
        have m5335 := m5321.trans (Wr.neR wH5326 (Or.inl (G_ne ga0 gq5304 (by decide)))).symm
        have m5336 := m5322.trans (Wr.neR wH5326 (Or.inl (G_ne ga0 gq5304 (by decide)))).symm
        have m5337 := ex5309.trans (Wr.neI wH5326 (Or.inl (G_ne ga0 gq5304 (by decide)))).symm
        have m5338 := Wr.I wH5326
        have m5338 := m5338.symm
        clear b5324 b5325 ex5309 g5311 hTH5307 m5310 m5317 m5318 m5320 m5321 m5322 mf5323
        obtain ⟨x5339, ex5339⟩ : ∃ y : Int32, y = x5266 + 1 := ⟨_, rfl⟩
        have tx5339 := i_add ex5339 (by omega)
        refine lv_iinc (v := x5339) (lv' := [(1, .int x5339), (0, .ref a0)]) hx hb dX10_keepsTaps_40 hl5265 (k := 1) rfl (by rw [ex5339]; rfl) (by decide) rfl (fun ls5340 hl5341 => ?_)
        refine lv_goto (tgt := 2) hx hb dX10_keepsTaps_43 (by decide) ?_
        exact ih2 ls5340 H5326 locsH5326 (x5339) (x5309) (lv_sub hl5341 [1, 0] rfl) hTH5326 hSH5326 ⟨by have := i_rng x5339; omega, by have := i_rng x5339; omega⟩ ⟨by have := i_rng x5309; omega, by have := i_rng x5309; omega⟩ m5337 m5333 m5334 b5329 b5330 mf5327 g5328 (by omega) (by and_intros <;> first | assumption | omega)
  have ui00 : UN (tk.toInt = 0) (fun k => fI s.heap iq k) (fun k => fI s.heap iq k) := UN.rf
  have fb00 : FB (fun k => fI s.heap iq k) (fun k => fI s.heap iq k) (4796) := FB.rf
  refine lv_iconst (v := 0) hx hb dX10_keepsTaps_0 (by decide) ?_
  refine lv_istore_n (lv' := [(1, .int 0), (0, .ref a0)]) hx hb dX10_keepsTaps_1 rfl hl (by decide) rfl (fun ls5342 hl5343 => ?_)
  have cl00 : (0 : Int32).toNatClampNeg = 0 := rfl
  exact J2 ((120 - (0 : Int32).toInt).toNat + 1) ls5342 s.heap [] (0) (ia) (lv_sub hl5343 [1, 0] rfl) hT hS (by decide) ⟨by have := i_rng ia; omega, by have := i_rng ia; omega⟩ eia eiq etk ui00 fb00 mf0 hg_WD (by omega) (by and_intros <;> first | assumption | omega)

set_option maxHeartbeats 4000000 in
set_option maxRecDepth 100000 in
theorem a_X10_keepsTexts (l : Launch) (K : KE) (G : Nat → Option Nat) (H : Heap) {a0 : Nat} {iq : Nat} {q24 : Nat} {q27 : Nat} {q29 : Nat} {q30 : Nat} {q31 : Nat} {q32 : Nat} {q33 : Nat} (ia : Int32) (tk : Int32) (hT : TY K G H) (ga0 : G a0 = some 112) (giq : G iq = some 162) (eiq : iq = fR H a0 (K.1.2 10 73)) (gq24 : G q24 = some 128) (eq24 : q24 = fR H a0 (K.1.2 10 24)) (gq27 : G q27 = some 131) (eq27 : q27 = fR H a0 (K.1.2 10 27)) (gq29 : G q29 = some 133) (eq29 : q29 = fR H a0 (K.1.2 10 29)) (gq30 : G q30 = some 134) (eq30 : q30 = fR H a0 (K.1.2 10 30)) (gq31 : G q31 = some 135) (eq31 : q31 = fR H a0 (K.1.2 10 31)) (gq32 : G q32 = some 136) (eq32 : q32 = fR H a0 (K.1.2 10 32)) (gq33 : G q33 = some 137) (eq33 : q33 = fR H a0 (K.1.2 10 33)) (eia : ia = fI H a0 (K.1.2 10 72)) (etk : tk = fI H a0 (K.1.2 10 71)) (hg_WD : WD (avw K H a0)) (hp0 : ia.toInt = 8908) (hy0 : tk.toInt = 0 → IMw (fun k => fI H iq k)) : MX l K yX10_keepsTexts cX10_keepsTexts 2 none 1 21 0 0 [.ref a0] H (AE G [112, 162, 128, 129, 130, 131, 132, 133, 134, 135, 136, 137] H.size) (fun v H1 => ∃ (t0 : Int32), v = none ∧ t0 = fI H1 a0 (K.1.2 10 72) ∧ (t0.toInt = 15586) ∧ iq = fR H1 a0 (K.1.2 10 73) ∧ q24 = fR H1 a0 (K.1.2 10 24) ∧ q27 = fR H1 a0 (K.1.2 10 27) ∧ q29 = fR H1 a0 (K.1.2 10 29) ∧ q30 = fR H1 a0 (K.1.2 10 30) ∧ q31 = fR H1 a0 (K.1.2 10 31) ∧ q32 = fR H1 a0 (K.1.2 10 32) ∧ q33 = fR H1 a0 (K.1.2 10 33) ∧ (WD (avw K H1 a0)) ∧ MF K H H1 a0 [72] ∧ (UN (tk.toInt = 0) (fun k => fI H1 iq k) (fun k => fI H iq k)) ∧ (FB (fun k => fI H1 iq k) (fun k => fI H iq k) 8908) ∧ (EQ (fun k => fI H1 q24 k) (fun k => fI H1 iq k) 8908 1 6) ∧ (EQ (fun k => fI H1 q27 k) (fun k => fI H1 iq k) 8916 7 96) ∧ (EQ (fun k => fI H1 q29 k) (fun k => fI H1 iq k) 8918 7 96) ∧ (EQ (fun k => fI H1 q30 k) (fun k => fI H1 iq k) 8919 7 96) ∧ (EQ (fun k => fI H1 q31 k) (fun k => fI H1 iq k) 8920 7 96) ∧ (EQ (fun k => fI H1 q32 k) (fun k => fI H1 iq k) 9586 2 3000) ∧ (EQ (fun k => fI H1 q33 k) (fun k => fI H1 iq k) 9587 2 3000) ∧ (UN (tk.toInt ≠ 0) (fun k => fI H1 q24 k) (fun k => fI H q24 k)) ∧ (UN (tk.toInt ≠ 0) (fun k => fI H1 q29 k) (fun k => fI H q29 k)) ∧ (UN (tk.toInt ≠ 0) (fun k => fI H1 q30 k) (fun k => fI H q30 k)) ∧ (UN (tk.toInt ≠ 0) (fun k => fI H1 q31 k) (fun k => fI H q31 k)) ∧ (UN (tk.toInt ≠ 0) (fun k => fI H1 q32 k) (fun k => fI H q32 k)) ∧ (UN (tk.toInt ≠ 0) (fun k => fI H1 q33 k) (fun k => fI H q33 k)) ∧ TY K G H1) := by
  refine MX.of (by decide +kernel) (Nat.le_of_ble_eq_true rfl) ?_
  intro p e s m below meth c ls Q C hH hl hQ
  subst hH
  have C : CX p K s m _ meth c RX10 cX10_keepsTexts 2 none "keepsTexts" := C
  obtain ⟨hx, hb, hml, hown, hts, hKT, hr, hlocks, hnm⟩ := id C
  have hl : lv_has ls 2 [(0, .ref a0)] := hl
  have hS : va_S (AE G [112, 162, 128, 129, 130, 131, 132, 133, 134, 135, 136, 137] s.heap.size) s.heap s.heap [] := va_S.rf
  have n_0 : (0 : Int32).toInt = 0 := rfl
  have n_1 : (1 : Int32).toInt = 1 := rfl
  have n_6 : (6 : Int32).toInt = 6 := rfl
  have n_96 : (96 : Int32).toInt = 96 := rfl
  have n_3000 : (3000 : Int32).toInt = 3000 := rfl
  have bia := ty_fi (x := ia) (k := 72) eia hT ga0 rg_112 rfl
  have btk := ty_fi (x := tk) (k := 71) etk hT ga0 rg_112 rfl
  have hap : ∀ x y, x < 74 → y < 74 → x ≠ y → K.1.2 10 x ≠ K.1.2 10 y := x_apart hKT hts inX10 tyX10 tyX10_ok nmX10 rfl
  have mf0 : MF K s.heap s.heap a0 [72] := fun _ _ _ => rfl
  replace eiq := EQN.mk eiq
  replace eq24 := EQN.mk eq24
  replace eq27 := EQN.mk eq27
  replace eq29 := EQN.mk eq29
  replace eq30 := EQN.mk eq30
  replace eq31 := EQN.mk eq31
  replace eq32 := EQN.mk eq32
  replace eq33 := EQN.mk eq33
  have J158 : ∀ (nf : Nat) (ls15040 : Array Slot) (H15039 : Heap) (locsH15039 : List Loc) (x15042 : Int32) (x15043 : Int32), lv_has ls15040 2 [(0, .ref a0), (1, .int x15042)] → TY K G H15039 → va_S (AE G [112, 162, 128, 129, 130, 131, 132, 133, 134, 135, 136, 137] s.heap.size) s.heap H15039 locsH15039 → (0 ≤ x15042.toInt ∧ x15042.toInt ≤ 3000) → (0 ≤ x15043.toInt ∧ x15043.toInt ≤ 16400) → (x15043 = fI H15039 a0 (K.1.2 10 72)) → (EQN iq (fR H15039 a0 (K.1.2 10 73))) → (EQN q24 (fR H15039 a0 (K.1.2 10 24))) → (EQN q27 (fR H15039 a0 (K.1.2 10 27))) → (EQN q29 (fR H15039 a0 (K.1.2 10 29))) → (EQN q30 (fR H15039 a0 (K.1.2 10 30))) → (EQN q31 (fR H15039 a0 (K.1.2 10 31))) → (EQN q32 (fR H15039 a0 (K.1.2 10 32))) → (EQN q33 (fR H15039 a0 (K.1.2 10 33))) → (tk = fI H15039 a0 (K.1.2 10 71)) → (UN (tk.toInt = 0) (fun k => fI H15039 iq k) (fun k => fI s.heap iq k)) → (FB (fun k => fI H15039 iq k) (fun k => fI s.heap iq k) (8908)) → (EQ (fun k => fI H15039 q24 k) (fun k => fI H15039 iq k) (8908) (1) (6)) → (EQ (fun k => fI H15039 q27 k) (fun k => fI H15039 iq k) (8916) (7) (96)) → (EQ (fun k => fI H15039 q29 k) (fun k => fI H15039 iq k) (8918) (7) (96)) → (EQ (fun k => fI H15039 q30 k) (fun k => fI H15039 iq k) (8919) (7) (96)) → (EQ (fun k => fI H15039 q31 k) (fun k => fI H15039 iq k) (8920) (7) (96)) → (EQ (fun k => fI H15039 q32 k) (fun k => fI H15039 iq k) (9586) (2) (x15042.toNatClampNeg)) → (EQ (fun k => fI H15039 q33 k) (fun k => fI H15039 iq k) (9587) (2) (x15042.toNatClampNeg)) → (UN (tk.toInt ≠ 0) (fun k => fI H15039 q24 k) (fun k => fI s.heap q24 k)) → (UN (tk.toInt ≠ 0) (fun k => fI H15039 q29 k) (fun k => fI s.heap q29 k)) → (UN (tk.toInt ≠ 0) (fun k => fI H15039 q30 k) (fun k => fI s.heap q30 k)) → (UN (tk.toInt ≠ 0) (fun k => fI H15039 q31 k) (fun k => fI s.heap q31 k)) → (UN (tk.toInt ≠ 0) (fun k => fI H15039 q32 k) (fun k => fI s.heap q32 k)) → (UN (tk.toInt ≠ 0) (fun k => fI H15039 q33 k) (fun k => fI s.heap q33 k)) → (MF K s.heap H15039 a0 [72]) → (WD (avw K H15039 a0)) → (3000 - x15042.toInt < (nf : Int)) → (x15043.toInt = 9586 + 2 * x15042.toInt) → W p l e ({ frames := 1, cells := 0, slots := 0, locals := 21 } : Room) s m (([.ref a0] : List Value).toArray) below meth c H15039 locsH15039 0 0 Q (F0 m 158 ls15040 []) := by
    intro nf
    induction nf with
    | zero =>
      intro ls15040 H15039 locsH15039 x15042 x15043 hl15041 hTH15039 hSH15039 bx15042 bx15043 ex15043 cy15044_0 cy15044_1 cy15044_2 cy15044_3 cy15044_4 cy15044_5 cy15044_6 cy15044_7 cy15044_8 by15044_ui by15044_fb by15044_e24 by15044_e27 by15044_e29 by15044_e30 by15044_e31 by15044_e32 by15044_e33 by15044_u24 by15044_u29 by15044_u30 by15044_u31 by15044_u32 by15044_u33 mfy15044 gy15044_WD hm158 iv158
      exfalso
      omega
    | succ nf ih158 =>
      intro ls15040 H15039 locsH15039 x15042 x15043 hl15041 hTH15039 hSH15039 bx15042 bx15043 ex15043 cy15044_0 cy15044_1 cy15044_2 cy15044_3 cy15044_4 cy15044_5 cy15044_6 cy15044_7 cy15044_8 by15044_ui by15044_fb by15044_e24 by15044_e27 by15044_e29 by15044_e30 by15044_e31 by15044_e32 by15044_e33 by15044_u24 by15044_u29 by15044_u30 by15044_u31 by15044_u32 by15044_u33 mfy15044 gy15044_WD hm158 iv158
      refine lv_iload_n hx hb dX10_keepsTexts_158 rfl (lv_at hl15041 1 rfl) ?_
      refine lv_sipush (v := 3000) hx hb dX10_keepsTexts_159 (by decide) ?_
      refine lv_icmp_ge (tgt := 203) hx hb dX10_keepsTexts_162 (by decide) (fun c15045 => ?_) (fun c15045 => ?_)
      · have k15046 := i_le c15045
        have ce_x15042 := i_cl (x := x15042) (by omega)
        exact x_vret C hQ dX10_keepsTexts_203 hSH15039 (by decide) (by decide) (⟨x15043, rfl, ex15043, by omega, cy15044_0, cy15044_1, cy15044_2, cy15044_3, cy15044_4, cy15044_5, cy15044_6, cy15044_7, gy15044_WD, mfy15044, by15044_ui, by15044_fb, (EQ.cast by15044_e24 (by omega)), (EQ.cast by15044_e27 (by omega)), (EQ.cast by15044_e29 (by omega)), (EQ.cast by15044_e30 (by omega)), (EQ.cast by15044_e31 (by omega)), (EQ.cast by15044_e32 (by omega)), (EQ.cast by15044_e33 (by omega)), by15044_u24, by15044_u29, by15044_u30, by15044_u31, by15044_u32, by15044_u33, hTH15039⟩)
      · have k15046 := i_nle c15045
        refine lv_aload_n hx hb dX10_keepsTexts_165 rfl (lv_at hl15041 0 rfl) ?_
        refine x_gr C hTH15039 (ci := 10) (k := 32) rfl inX10 (by decide) wF_X10_83 ga0 rg_112 rfl dX10_keepsTexts_166 (fun q15047 eq15047 gq15047 => ?_)
        have uq15047 : q32 = q15047 := (cy15044_6).trans eq15047.symm
        subst uq15047
        clear eq15047
        refine lv_iload_n hx hb dX10_keepsTexts_169 rfl (lv_at hl15041 1 rfl) ?_
        refine lv_aload_n hx hb dX10_keepsTexts_170 rfl (lv_at hl15041 0 rfl) ?_
        refine lv_aload_n hx hb dX10_keepsTexts_171 rfl (lv_at hl15041 0 rfl) ?_
        refine x_gr C hTH15039 (ci := 10) (k := 32) rfl inX10 (by decide) wF_X10_83 ga0 rg_112 rfl dX10_keepsTexts_172 (fun q15048 eq15048 gq15048 => ?_)
        have uq15048 : q32 = q15048 := (cy15044_6).trans eq15048.symm
        subst uq15048
        clear eq15048
        refine lv_iload_n hx hb dX10_keepsTexts_175 rfl (lv_at hl15041 1 rfl) ?_
        refine x_ai C hTH15039 gq32 rg_136 ⟨by omega, by show _ < ((3500 : Nat) : Int); omega⟩ dX10_keepsTexts_176 (fun x15049 ex15049 bx15049 => ?_)
        refine x_V (As := [.int x15049]) (rest := [.int x15042, .ref q32]) C (a_X10_kept l K G H15039 (x15049) (x15043) (tk) hTH15039 ga0 giq cy15044_0 ex15043 cy15044_8 gy15044_WD (by and_intros <;> first | assumption | omega)) yo_X10_kept wM_X10_473 ⟨⟨by decide, by decide⟩, by decide, by decide⟩ (x_rv C hTH15039 (ci := 10) rfl ga0 rg_112) rfl hl15041.1 rfl (Nat.le_of_ble_eq_true rfl) dX10_keepsTexts_177 hSH15039 (AE_sub (fun _ _ => rfl) (by decide) hSH15039.1) (fun vH15050 H15050 locsH15050 pH15050 zH15050 kH15050 hSH15050 => ?_)
        obtain ⟨x15051, x15052, hvH15050, ex15052, hrH15050, m15053, g15054, mf15055, m15056, m15057, m15058, m15059, hTH15050⟩ := pH15050
        subst hvH15050
        clear zH15050
        replace m15053 := EQN.mk m15053
        have b15060 : UN (tk.toInt ≠ 0) (fun k => fI H15050 q24 k) (fun k => fI s.heap q24 k) := UN.congr (fun j => fI_kept (x_lt hTH15039 kH15050 gq24 (by decide))) by15044_u24
        have b15061 : UN (tk.toInt ≠ 0) (fun k => fI H15050 q29 k) (fun k => fI s.heap q29 k) := UN.congr (fun j => fI_kept (x_lt hTH15039 kH15050 gq29 (by decide))) by15044_u29
        have b15062 : UN (tk.toInt ≠ 0) (fun k => fI H15050 q30 k) (fun k => fI s.heap q30 k) := UN.congr (fun j => fI_kept (x_lt hTH15039 kH15050 gq30 (by decide))) by15044_u30
        have b15063 : UN (tk.toInt ≠ 0) (fun k => fI H15050 q31 k) (fun k => fI s.heap q31 k) := UN.congr (fun j => fI_kept (x_lt hTH15039 kH15050 gq31 (by decide))) by15044_u31
        have b15064 : UN (tk.toInt ≠ 0) (fun k => fI H15050 q32 k) (fun k => fI s.heap q32 k) := UN.congr (fun j => fI_kept (x_lt hTH15039 kH15050 gq32 (by decide))) by15044_u32
        have b15065 : UN (tk.toInt ≠ 0) (fun k => fI H15050 q33 k) (fun k => fI s.heap q33 k) := UN.congr (fun j => fI_kept (x_lt hTH15039 kH15050 gq33 (by decide))) by15044_u33
        have m15066 := (ex15049).trans (fI_kept (x_lt hTH15039 kH15050 gq32 (by decide))).symm
        have m15067 := (cy15044_0).trans (MF.r mf15055 (k := 73) (by decide) (by decide)).symm
        have m15068 := (cy15044_1).trans (MF.r mf15055 (k := 24) (by decide) (by decide)).symm
        have m15069 := (cy15044_2).trans (MF.r mf15055 (k := 27) (by decide) (by decide)).symm
        have m15070 := (cy15044_3).trans (MF.r mf15055 (k := 29) (by decide) (by decide)).symm
        have m15071 := (cy15044_4).trans (MF.r mf15055 (k := 30) (by decide) (by decide)).symm
        have m15072 := (cy15044_5).trans (MF.r mf15055 (k := 31) (by decide) (by decide)).symm
        have m15073 := (cy15044_6).trans (MF.r mf15055 (k := 32) (by decide) (by decide)).symm
        have m15074 := (cy15044_7).trans (MF.r mf15055 (k := 33) (by decide) (by decide)).symm
        have m15075 := (cy15044_8).trans (MF.i mf15055 (k := 71) (by decide) (by decide)).symm
        have mf15076 : MF K s.heap H15050 a0 [72] := MF.trans mfy15044 mf15055 (by decide)
        have bx15052 := ty_fi (x := x15052) (k := 72) ex15052 hTH15050 ga0 rg_112 rfl
        have ce_x15042 := i_cl (x := x15042) (by omega)
        have ce_x15043 := i_cl (x := x15043) (by omega)
        have b15077 : UN (tk.toInt = 0) (fun k => fI H15050 iq k) (fun k => fI s.heap iq k) := UN.tr m15059 by15044_ui
        have b15078 : FB (fun k => fI H15050 iq k) (fun k => fI s.heap iq k) (8908) := FB.wr by15044_fb m15058 (fun j hj => by omega)
        have b15079 : EQ (fun k => fI H15050 q24 k) (fun k => fI H15050 iq k) (8908) (1) (6) := EQ.wr (EQ.congr (w1 := fun k => fI H15039 iq k) (fun j => fI_kept (x_lt hTH15039 kH15050 gq24 (by decide))) (fun _ => rfl) by15044_e24) m15058 (fun j hj => by omega)
        have b15080 : EQ (fun k => fI H15050 q27 k) (fun k => fI H15050 iq k) (8916) (7) (96) := EQ.wr (EQ.congr (w1 := fun k => fI H15039 iq k) (fun j => fI_kept (x_lt hTH15039 kH15050 gq27 (by decide))) (fun _ => rfl) by15044_e27) m15058 (fun j hj => by omega)
        have b15081 : EQ (fun k => fI H15050 q29 k) (fun k => fI H15050 iq k) (8918) (7) (96) := EQ.wr (EQ.congr (w1 := fun k => fI H15039 iq k) (fun j => fI_kept (x_lt hTH15039 kH15050 gq29 (by decide))) (fun _ => rfl) by15044_e29) m15058 (fun j hj => by omega)
        have b15082 : EQ (fun k => fI H15050 q30 k) (fun k => fI H15050 iq k) (8919) (7) (96) := EQ.wr (EQ.congr (w1 := fun k => fI H15039 iq k) (fun j => fI_kept (x_lt hTH15039 kH15050 gq30 (by decide))) (fun _ => rfl) by15044_e30) m15058 (fun j hj => by omega)
        have b15083 : EQ (fun k => fI H15050 q31 k) (fun k => fI H15050 iq k) (8920) (7) (96) := EQ.wr (EQ.congr (w1 := fun k => fI H15039 iq k) (fun j => fI_kept (x_lt hTH15039 kH15050 gq31 (by decide))) (fun _ => rfl) by15044_e31) m15058 (fun j hj => by omega)
        have b15084 : EQ (fun k => fI H15050 q32 k) (fun k => fI H15050 iq k) (9586) (2) (x15042.toNatClampNeg) := EQ.wr (EQ.congr (w1 := fun k => fI H15039 iq k) (fun j => fI_kept (x_lt hTH15039 kH15050 gq32 (by decide))) (fun _ => rfl) by15044_e32) m15058 (fun j hj => by omega)
        have b15085 : EQ (fun k => fI H15050 q33 k) (fun k => fI H15050 iq k) (9587) (2) (x15042.toNatClampNeg) := EQ.wr (EQ.congr (w1 := fun k => fI H15039 iq k) (fun j => fI_kept (x_lt hTH15039 kH15050 gq33 (by decide))) (fun _ => rfl) by15044_e33) m15058 (fun j hj => by omega)
        clear by15044_e24 by15044_e27 by15044_e29 by15044_e30 by15044_e31 by15044_e32 by15044_e33 by15044_fb by15044_u24 by15044_u29 by15044_u30 by15044_u31 by15044_u32 by15044_u33 by15044_ui cy15044_0 cy15044_1 cy15044_2 cy15044_3 cy15044_4 cy15044_5 cy15044_6 cy15044_7 cy15044_8 ex15043 ex15049
        clear m15058 m15059
        refine W.eq (g2 := F0 m 180 ls15040 [.int x15051, .int x15042, .ref q32]) rfl ?_
        refine x_iast C hTH15050 hSH15050 gq32 rg_136 (by omega) (by show _ < ((3500 : Nat) : Int); omega) ⟨by have := i_rng x15051; omega, by have := i_rng x15051; omega⟩ (AE_in gq32 (by decide)) dX10_keepsTexts_180 (fun H15086 locsH15086 hTH15086 hSH15086 wH15086 => ?_)
        have mf15087 : MF K s.heap H15086 a0 [72] := MF.arr wH15086 (G_ne ga0 gq32 (by decide)) mf15076
        have g15088 : WD (avw K H15086 a0) := WD.congr (fun k hk j => av_arr hTH15050 ga0 wH15086 gq32 (by decide) (WD_ok 136 (by decide) k hk)) g15054
        have b15089 : UN (tk.toInt ≠ 0) (fun k => fI H15086 q24 k) (fun k => fI s.heap q24 k) := UN.congr (fun j => Wr.neI wH15086 (Or.inl (G_ne gq24 gq32 (by decide)))) b15060
        have b15090 : UN (tk.toInt ≠ 0) (fun k => fI H15086 q29 k) (fun k => fI s.heap q29 k) := UN.congr (fun j => Wr.neI wH15086 (Or.inl (G_ne gq29 gq32 (by decide)))) b15061
        have b15091 : UN (tk.toInt ≠ 0) (fun k => fI H15086 q30 k) (fun k => fI s.heap q30 k) := UN.congr (fun j => Wr.neI wH15086 (Or.inl (G_ne gq30 gq32 (by decide)))) b15062
        have b15092 : UN (tk.toInt ≠ 0) (fun k => fI H15086 q31 k) (fun k => fI s.heap q31 k) := UN.congr (fun j => Wr.neI wH15086 (Or.inl (G_ne gq31 gq32 (by decide)))) b15063
        have b15093 : UN (tk.toInt ≠ 0) (fun k => fI H15086 q32 k) (fun k => fI s.heap q32 k) := UN.st b15064 (i := x15042.toNatClampNeg) (fun hc => (m15057 hc).trans m15066) (Wr.I wH15086) (fun j hj => Wr.neI wH15086 (Or.inr hj))
        have b15094 : UN (tk.toInt ≠ 0) (fun k => fI H15086 q33 k) (fun k => fI s.heap q33 k) := UN.congr (fun j => Wr.neI wH15086 (Or.inl (G_ne gq33 gq32 (by decide)))) b15065
        have b15095 : UN (tk.toInt = 0) (fun k => fI H15086 iq k) (fun k => fI s.heap iq k) := UN.congr (fun j => Wr.neI wH15086 (Or.inl (G_ne giq gq32 (by decide)))) b15077
        have b15096 : FB (fun k => fI H15086 iq k) (fun k => fI s.heap iq k) (8908) := FB.congr (fun j => Wr.neI wH15086 (Or.inl (G_ne giq gq32 (by decide)))) b15078
        have b15097 : EQ (fun k => fI H15086 q24 k) (fun k => fI H15086 iq k) (8908) (1) (6) := EQ.congr (fun j => Wr.neI wH15086 (Or.inl (G_ne gq24 gq32 (by decide)))) (fun j => Wr.neI wH15086 (Or.inl (G_ne giq gq32 (by decide)))) b15079
        have b15098 : EQ (fun k => fI H15086 q27 k) (fun k => fI H15086 iq k) (8916) (7) (96) := EQ.congr (fun j => Wr.neI wH15086 (Or.inl (G_ne gq27 gq32 (by decide)))) (fun j => Wr.neI wH15086 (Or.inl (G_ne giq gq32 (by decide)))) b15080
        have b15099 : EQ (fun k => fI H15086 q29 k) (fun k => fI H15086 iq k) (8918) (7) (96) := EQ.congr (fun j => Wr.neI wH15086 (Or.inl (G_ne gq29 gq32 (by decide)))) (fun j => Wr.neI wH15086 (Or.inl (G_ne giq gq32 (by decide)))) b15081
        have b15100 : EQ (fun k => fI H15086 q30 k) (fun k => fI H15086 iq k) (8919) (7) (96) := EQ.congr (fun j => Wr.neI wH15086 (Or.inl (G_ne gq30 gq32 (by decide)))) (fun j => Wr.neI wH15086 (Or.inl (G_ne giq gq32 (by decide)))) b15082
        have b15101 : EQ (fun k => fI H15086 q31 k) (fun k => fI H15086 iq k) (8920) (7) (96) := EQ.congr (fun j => Wr.neI wH15086 (Or.inl (G_ne gq31 gq32 (by decide)))) (fun j => Wr.neI wH15086 (Or.inl (G_ne giq gq32 (by decide)))) b15083
        have b15102 : EQ (fun k => fI H15086 q32 k) (fun k => fI H15086 iq k) (9586) (2) (x15042.toNatClampNeg + 1) := EQ.st b15084 (i := x15042.toNatClampNeg) (t := x15043.toNatClampNeg) (by omega) m15056 (by omega) (Wr.I wH15086) (fun j hj => Wr.neI wH15086 (Or.inr hj)) (fun j => Wr.neI wH15086 (Or.inl (G_ne giq gq32 (by decide))))
        have b15103 : EQ (fun k => fI H15086 q33 k) (fun k => fI H15086 iq k) (9587) (2) (x15042.toNatClampNeg) := EQ.congr (fun j => Wr.neI wH15086 (Or.inl (G_ne gq33 gq32 (by decide)))) (fun j => Wr.neI wH15086 (Or.inl (G_ne giq gq32 (by decide)))) b15085
        have m15105 := m15053.trans (Wr.neR wH15086 (Or.inl (G_ne ga0 gq32 (by decide)))).symm
        have m15106 := m15068.trans (Wr.neR wH15086 (Or.inl (G_ne ga0 gq32 (by decide)))).symm
        have m15107 := m15069.trans (Wr.neR wH15086 (Or.inl (G_ne ga0 gq32 (by decide)))).symm
        have m15108 := m15070.trans (Wr.neR wH15086 (Or.inl (G_ne ga0 gq32 (by decide)))).symm
        have m15109 := m15071.trans (Wr.neR wH15086 (Or.inl (G_ne ga0 gq32 (by decide)))).symm
        have m15110 := m15072.trans (Wr.neR wH15086 (Or.inl (G_ne ga0 gq32 (by decide)))).symm
        have m15111 := m15073.trans (Wr.neR wH15086 (Or.inl (G_ne ga0 gq32 (by decide)))).symm
        have m15112 := m15074.trans (Wr.neR wH15086 (Or.inl (G_ne ga0 gq32 (by decide)))).symm
        have m15113 := m15075.trans (Wr.neI wH15086 (Or.inl (G_ne ga0 gq32 (by decide)))).symm
        have m15114 := ex15052.trans (Wr.neI wH15086 (Or.inl (G_ne ga0 gq32 (by decide)))).symm
        have m15115 := Wr.I wH15086
        have m15115 := m15115.symm
        clear b15060 b15061 b15062 b15063 b15064 b15065 b15077 b15078 b15079 b15080 b15081 b15082 b15083 b15084 b15085 ex15052 g15054 hTH15050 m15053 m15066 m15068 m15069 m15070 m15071 m15072 m15073 m15074 m15075 mf15076
        refine lv_aload_n hx hb dX10_keepsTexts_181 rfl (lv_at hl15041 0 rfl) ?_
        refine x_gr C hTH15086 (ci := 10) (k := 33) rfl inX10 (by decide) wF_X10_86 ga0 rg_112 rfl dX10_keepsTexts_182 (fun q15116 eq15116 gq15116 => ?_)
        have uq15116 : q33 = q15116 := (m15112).trans eq15116.symm
        subst uq15116
        clear eq15116
        refine lv_iload_n hx hb dX10_keepsTexts_185 rfl (lv_at hl15041 1 rfl) ?_
        refine lv_aload_n hx hb dX10_keepsTexts_186 rfl (lv_at hl15041 0 rfl) ?_
        refine lv_aload_n hx hb dX10_keepsTexts_187 rfl (lv_at hl15041 0 rfl) ?_
        refine x_gr C hTH15086 (ci := 10) (k := 33) rfl inX10 (by decide) wF_X10_86 ga0 rg_112 rfl dX10_keepsTexts_188 (fun q15117 eq15117 gq15117 => ?_)
        have uq15117 : q33 = q15117 := (m15112).trans eq15117.symm
        subst uq15117
        clear eq15117
        refine lv_iload_n hx hb dX10_keepsTexts_191 rfl (lv_at hl15041 1 rfl) ?_
        refine x_ai C hTH15086 gq33 rg_137 ⟨by omega, by show _ < ((3500 : Nat) : Int); omega⟩ dX10_keepsTexts_192 (fun x15118 ex15118 bx15118 => ?_)
        refine x_V (As := [.int x15118]) (rest := [.int x15042, .ref q33]) C (a_X10_kept l K G H15086 (x15118) (x15052) (tk) hTH15086 ga0 giq m15105 m15114 m15113 g15088 (by and_intros <;> first | assumption | omega)) yo_X10_kept wM_X10_473 ⟨⟨by decide, by decide⟩, by decide, by decide⟩ (x_rv C hTH15086 (ci := 10) rfl ga0 rg_112) rfl hl15041.1 rfl (Nat.le_of_ble_eq_true rfl) dX10_keepsTexts_193 hSH15086 (AE_sub (fun _ _ => rfl) (by decide) hSH15086.1) (fun vH15119 H15119 locsH15119 pH15119 zH15119 kH15119 hSH15119 => ?_)
        obtain ⟨x15120, x15121, hvH15119, ex15121, hrH15119, m15122, g15123, mf15124, m15125, m15126, m15127, m15128, hTH15119⟩ := pH15119
        subst hvH15119
        clear zH15119
        replace m15122 := EQN.mk m15122
        have b15129 : UN (tk.toInt ≠ 0) (fun k => fI H15119 q24 k) (fun k => fI s.heap q24 k) := UN.congr (fun j => fI_kept (x_lt hTH15086 kH15119 gq24 (by decide))) b15089
        have b15130 : UN (tk.toInt ≠ 0) (fun k => fI H15119 q29 k) (fun k => fI s.heap q29 k) := UN.congr (fun j => fI_kept (x_lt hTH15086 kH15119 gq29 (by decide))) b15090
        have b15131 : UN (tk.toInt ≠ 0) (fun k => fI H15119 q30 k) (fun k => fI s.heap q30 k) := UN.congr (fun j => fI_kept (x_lt hTH15086 kH15119 gq30 (by decide))) b15091
        have b15132 : UN (tk.toInt ≠ 0) (fun k => fI H15119 q31 k) (fun k => fI s.heap q31 k) := UN.congr (fun j => fI_kept (x_lt hTH15086 kH15119 gq31 (by decide))) b15092
        have b15133 : UN (tk.toInt ≠ 0) (fun k => fI H15119 q32 k) (fun k => fI s.heap q32 k) := UN.congr (fun j => fI_kept (x_lt hTH15086 kH15119 gq32 (by decide))) b15093
        have b15134 : UN (tk.toInt ≠ 0) (fun k => fI H15119 q33 k) (fun k => fI s.heap q33 k) := UN.congr (fun j => fI_kept (x_lt hTH15086 kH15119 gq33 (by decide))) b15094
        have m15135 := (m15115).trans (fI_kept (x_lt hTH15086 kH15119 gq32 (by decide))).symm
        have m15136 := (ex15118).trans (fI_kept (x_lt hTH15086 kH15119 gq33 (by decide))).symm
        have m15137 := (m15105).trans (MF.r mf15124 (k := 73) (by decide) (by decide)).symm
        have m15138 := (m15106).trans (MF.r mf15124 (k := 24) (by decide) (by decide)).symm
        have m15139 := (m15107).trans (MF.r mf15124 (k := 27) (by decide) (by decide)).symm
        have m15140 := (m15108).trans (MF.r mf15124 (k := 29) (by decide) (by decide)).symm
        have m15141 := (m15109).trans (MF.r mf15124 (k := 30) (by decide) (by decide)).symm
        have m15142 := (m15110).trans (MF.r mf15124 (k := 31) (by decide) (by decide)).symm
        have m15143 := (m15111).trans (MF.r mf15124 (k := 32) (by decide) (by decide)).symm
        have m15144 := (m15112).trans (MF.r mf15124 (k := 33) (by decide) (by decide)).symm
        have m15145 := (m15113).trans (MF.i mf15124 (k := 71) (by decide) (by decide)).symm
        have mf15146 : MF K s.heap H15119 a0 [72] := MF.trans mf15087 mf15124 (by decide)
        have bx15121 := ty_fi (x := x15121) (k := 72) ex15121 hTH15119 ga0 rg_112 rfl
        have ce_x15052 := i_cl (x := x15052) (by omega)
        have b15147 : UN (tk.toInt = 0) (fun k => fI H15119 iq k) (fun k => fI s.heap iq k) := UN.tr m15128 b15095
        have b15148 : FB (fun k => fI H15119 iq k) (fun k => fI s.heap iq k) (8908) := FB.wr b15096 m15127 (fun j hj => by omega)
        have b15149 : EQ (fun k => fI H15119 q24 k) (fun k => fI H15119 iq k) (8908) (1) (6) := EQ.wr (EQ.congr (w1 := fun k => fI H15086 iq k) (fun j => fI_kept (x_lt hTH15086 kH15119 gq24 (by decide))) (fun _ => rfl) b15097) m15127 (fun j hj => by omega)
        have b15150 : EQ (fun k => fI H15119 q27 k) (fun k => fI H15119 iq k) (8916) (7) (96) := EQ.wr (EQ.congr (w1 := fun k => fI H15086 iq k) (fun j => fI_kept (x_lt hTH15086 kH15119 gq27 (by decide))) (fun _ => rfl) b15098) m15127 (fun j hj => by omega)
        have b15151 : EQ (fun k => fI H15119 q29 k) (fun k => fI H15119 iq k) (8918) (7) (96) := EQ.wr (EQ.congr (w1 := fun k => fI H15086 iq k) (fun j => fI_kept (x_lt hTH15086 kH15119 gq29 (by decide))) (fun _ => rfl) b15099) m15127 (fun j hj => by omega)
        have b15152 : EQ (fun k => fI H15119 q30 k) (fun k => fI H15119 iq k) (8919) (7) (96) := EQ.wr (EQ.congr (w1 := fun k => fI H15086 iq k) (fun j => fI_kept (x_lt hTH15086 kH15119 gq30 (by decide))) (fun _ => rfl) b15100) m15127 (fun j hj => by omega)
        have b15153 : EQ (fun k => fI H15119 q31 k) (fun k => fI H15119 iq k) (8920) (7) (96) := EQ.wr (EQ.congr (w1 := fun k => fI H15086 iq k) (fun j => fI_kept (x_lt hTH15086 kH15119 gq31 (by decide))) (fun _ => rfl) b15101) m15127 (fun j hj => by omega)
        have b15154 : EQ (fun k => fI H15119 q32 k) (fun k => fI H15119 iq k) (9586) (2) (x15042.toNatClampNeg + 1) := EQ.wr (EQ.congr (w1 := fun k => fI H15086 iq k) (fun j => fI_kept (x_lt hTH15086 kH15119 gq32 (by decide))) (fun _ => rfl) b15102) m15127 (fun j hj => by omega)
        have b15155 : EQ (fun k => fI H15119 q33 k) (fun k => fI H15119 iq k) (9587) (2) (x15042.toNatClampNeg) := EQ.wr (EQ.congr (w1 := fun k => fI H15086 iq k) (fun j => fI_kept (x_lt hTH15086 kH15119 gq33 (by decide))) (fun _ => rfl) b15103) m15127 (fun j hj => by omega)
        clear b15089 b15090 b15091 b15092 b15093 b15094 b15095 b15096 b15097 b15098 b15099 b15100 b15101 b15102 b15103 ex15118 m15105 m15106 m15107 m15108 m15109 m15110 m15111 m15112 m15113 m15114 m15115
        clear m15127 m15128
        refine W.eq (g2 := F0 m 196 ls15040 [.int x15120, .int x15042, .ref q33]) rfl ?_
        refine x_iast C hTH15119 hSH15119 gq33 rg_137 (by omega) (by show _ < ((3500 : Nat) : Int); omega) ⟨by have := i_rng x15120; omega, by have := i_rng x15120; omega⟩ (AE_in gq33 (by decide)) dX10_keepsTexts_196 (fun H15156 locsH15156 hTH15156 hSH15156 wH15156 => ?_)
        have mf15157 : MF K s.heap H15156 a0 [72] := MF.arr wH15156 (G_ne ga0 gq33 (by decide)) mf15146
        have g15158 : WD (avw K H15156 a0) := WD.congr (fun k hk j => av_arr hTH15119 ga0 wH15156 gq33 (by decide) (WD_ok 137 (by decide) k hk)) g15123
        have b15159 : UN (tk.toInt ≠ 0) (fun k => fI H15156 q24 k) (fun k => fI s.heap q24 k) := UN.congr (fun j => Wr.neI wH15156 (Or.inl (G_ne gq24 gq33 (by decide)))) b15129
        have b15160 : UN (tk.toInt ≠ 0) (fun k => fI H15156 q29 k) (fun k => fI s.heap q29 k) := UN.congr (fun j => Wr.neI wH15156 (Or.inl (G_ne gq29 gq33 (by decide)))) b15130
        have b15161 : UN (tk.toInt ≠ 0) (fun k => fI H15156 q30 k) (fun k => fI s.heap q30 k) := UN.congr (fun j => Wr.neI wH15156 (Or.inl (G_ne gq30 gq33 (by decide)))) b15131
        have b15162 : UN (tk.toInt ≠ 0) (fun k => fI H15156 q31 k) (fun k => fI s.heap q31 k) := UN.congr (fun j => Wr.neI wH15156 (Or.inl (G_ne gq31 gq33 (by decide)))) b15132
        have b15163 : UN (tk.toInt ≠ 0) (fun k => fI H15156 q32 k) (fun k => fI s.heap q32 k) := UN.congr (fun j => Wr.neI wH15156 (Or.inl (G_ne gq32 gq33 (by decide)))) b15133
        have b15164 : UN (tk.toInt ≠ 0) (fun k => fI H15156 q33 k) (fun k => fI s.heap q33 k) := UN.st b15134 (i := x15042.toNatClampNeg) (fun hc => (m15126 hc).trans m15136) (Wr.I wH15156) (fun j hj => Wr.neI wH15156 (Or.inr hj))
        have b15165 : UN (tk.toInt = 0) (fun k => fI H15156 iq k) (fun k => fI s.heap iq k) := UN.congr (fun j => Wr.neI wH15156 (Or.inl (G_ne giq gq33 (by decide)))) b15147
        have b15166 : FB (fun k => fI H15156 iq k) (fun k => fI s.heap iq k) (8908) := FB.congr (fun j => Wr.neI wH15156 (Or.inl (G_ne giq gq33 (by decide)))) b15148
        have b15167 : EQ (fun k => fI H15156 q24 k) (fun k => fI H15156 iq k) (8908) (1) (6) := EQ.congr (fun j => Wr.neI wH15156 (Or.inl (G_ne gq24 gq33 (by decide)))) (fun j => Wr.neI wH15156 (Or.inl (G_ne giq gq33 (by decide)))) b15149
        have b15168 : EQ (fun k => fI H15156 q27 k) (fun k => fI H15156 iq k) (8916) (7) (96) := EQ.congr (fun j => Wr.neI wH15156 (Or.inl (G_ne gq27 gq33 (by decide)))) (fun j => Wr.neI wH15156 (Or.inl (G_ne giq gq33 (by decide)))) b15150
        have b15169 : EQ (fun k => fI H15156 q29 k) (fun k => fI H15156 iq k) (8918) (7) (96) := EQ.congr (fun j => Wr.neI wH15156 (Or.inl (G_ne gq29 gq33 (by decide)))) (fun j => Wr.neI wH15156 (Or.inl (G_ne giq gq33 (by decide)))) b15151
        have b15170 : EQ (fun k => fI H15156 q30 k) (fun k => fI H15156 iq k) (8919) (7) (96) := EQ.congr (fun j => Wr.neI wH15156 (Or.inl (G_ne gq30 gq33 (by decide)))) (fun j => Wr.neI wH15156 (Or.inl (G_ne giq gq33 (by decide)))) b15152
        have b15171 : EQ (fun k => fI H15156 q31 k) (fun k => fI H15156 iq k) (8920) (7) (96) := EQ.congr (fun j => Wr.neI wH15156 (Or.inl (G_ne gq31 gq33 (by decide)))) (fun j => Wr.neI wH15156 (Or.inl (G_ne giq gq33 (by decide)))) b15153
        have b15172 : EQ (fun k => fI H15156 q32 k) (fun k => fI H15156 iq k) (9586) (2) (x15042.toNatClampNeg + 1) := EQ.congr (fun j => Wr.neI wH15156 (Or.inl (G_ne gq32 gq33 (by decide)))) (fun j => Wr.neI wH15156 (Or.inl (G_ne giq gq33 (by decide)))) b15154
        have b15173 : EQ (fun k => fI H15156 q33 k) (fun k => fI H15156 iq k) (9587) (2) (x15042.toNatClampNeg + 1) := EQ.st b15155 (i := x15042.toNatClampNeg) (t := x15052.toNatClampNeg) (by omega) m15125 (by omega) (Wr.I wH15156) (fun j hj => Wr.neI wH15156 (Or.inr hj)) (fun j => Wr.neI wH15156 (Or.inl (G_ne giq gq33 (by decide))))
        have m15174 := m15135.trans (Wr.neI wH15156 (Or.inl (G_ne gq32 gq33 (by decide)))).symm
        have m15176 := m15122.trans (Wr.neR wH15156 (Or.inl (G_ne ga0 gq33 (by decide)))).symm
        have m15177 := m15138.trans (Wr.neR wH15156 (Or.inl (G_ne ga0 gq33 (by decide)))).symm
        have m15178 := m15139.trans (Wr.neR wH15156 (Or.inl (G_ne ga0 gq33 (by decide)))).symm
        have m15179 := m15140.trans (Wr.neR wH15156 (Or.inl (G_ne ga0 gq33 (by decide)))).symm
        have m15180 := m15141.trans (Wr.neR wH15156 (Or.inl (G_ne ga0 gq33 (by decide)))).symm
        have m15181 := m15142.trans (Wr.neR wH15156 (Or.inl (G_ne ga0 gq33 (by decide)))).symm
        have m15182 := m15143.trans (Wr.neR wH15156 (Or.inl (G_ne ga0 gq33 (by decide)))).symm
        have m15183 := m15144.trans (Wr.neR wH15156 (Or.inl (G_ne ga0 gq33 (by decide)))).symm
        have m15184 := m15145.trans (Wr.neI wH15156 (Or.inl (G_ne ga0 gq33 (by decide)))).symm
        have m15185 := ex15121.trans (Wr.neI wH15156 (Or.inl (G_ne ga0 gq33 (by decide)))).symm
        have m15186 := Wr.I wH15156
        have m15186 := m15186.symm
        clear b15129 b15130 b15131 b15132 b15133 b15134 b15147 b15148 b15149 b15150 b15151 b15152 b15153 b15154 b15155 ex15121 g15123 hTH15119 m15122 m15135 m15136 m15138 m15139 m15140 m15141 m15142 m15143 m15144 m15145 mf15146
        obtain ⟨x15187, ex15187⟩ : ∃ y : Int32, y = x15042 + 1 := ⟨_, rfl⟩
        have tx15187 := i_add ex15187 (by omega)
        refine lv_iinc (v := x15187) (lv' := [(1, .int x15187), (0, .ref a0)]) hx hb dX10_keepsTexts_197 hl15041 (k := 1) rfl (by rw [ex15187]; rfl) (by decide) rfl (fun ls15188 hl15189 => ?_)
        refine lv_goto (tgt := 158) hx hb dX10_keepsTexts_200 (by decide) ?_
        have cl_x15187 := i_cl (x := x15187) (by omega)
        exact ih158 ls15188 H15156 locsH15156 (x15187) (x15121) (lv_sub hl15189 [1, 0] rfl) hTH15156 hSH15156 ⟨by have := i_rng x15187; omega, by have := i_rng x15187; omega⟩ ⟨by have := i_rng x15121; omega, by have := i_rng x15121; omega⟩ m15185 m15176 m15177 m15178 m15179 m15180 m15181 m15182 m15183 m15184 b15165 b15166 (EQ.cast b15167 (by omega)) (EQ.cast b15168 (by omega)) (EQ.cast b15169 (by omega)) (EQ.cast b15170 (by omega)) (EQ.cast b15171 (by omega)) (EQ.cast b15172 (by omega)) (EQ.cast b15173 (by omega)) b15159 b15160 b15161 b15162 b15163 b15164 mf15157 g15158 (by omega) (by and_intros <;> first | assumption | omega)
  have J32 : ∀ (nf : Nat) (ls15191 : Array Slot) (H15190 : Heap) (locsH15190 : List Loc) (x15193 : Int32) (x15194 : Int32), lv_has ls15191 2 [(0, .ref a0), (1, .int x15193)] → TY K G H15190 → va_S (AE G [112, 162, 128, 129, 130, 131, 132, 133, 134, 135, 136, 137] s.heap.size) s.heap H15190 locsH15190 → (0 ≤ x15193.toInt ∧ x15193.toInt ≤ 96) → (0 ≤ x15194.toInt ∧ x15194.toInt ≤ 16400) → (x15194 = fI H15190 a0 (K.1.2 10 72)) → (EQN iq (fR H15190 a0 (K.1.2 10 73))) → (EQN q24 (fR H15190 a0 (K.1.2 10 24))) → (EQN q27 (fR H15190 a0 (K.1.2 10 27))) → (EQN q29 (fR H15190 a0 (K.1.2 10 29))) → (EQN q30 (fR H15190 a0 (K.1.2 10 30))) → (EQN q31 (fR H15190 a0 (K.1.2 10 31))) → (EQN q32 (fR H15190 a0 (K.1.2 10 32))) → (EQN q33 (fR H15190 a0 (K.1.2 10 33))) → (tk = fI H15190 a0 (K.1.2 10 71)) → (UN (tk.toInt = 0) (fun k => fI H15190 iq k) (fun k => fI s.heap iq k)) → (FB (fun k => fI H15190 iq k) (fun k => fI s.heap iq k) (8908)) → (EQ (fun k => fI H15190 q24 k) (fun k => fI H15190 iq k) (8908) (1) (6)) → (EQ (fun k => fI H15190 q27 k) (fun k => fI H15190 iq k) (8916) (7) (x15193.toNatClampNeg)) → (EQ (fun k => fI H15190 q29 k) (fun k => fI H15190 iq k) (8918) (7) (x15193.toNatClampNeg)) → (EQ (fun k => fI H15190 q30 k) (fun k => fI H15190 iq k) (8919) (7) (x15193.toNatClampNeg)) → (EQ (fun k => fI H15190 q31 k) (fun k => fI H15190 iq k) (8920) (7) (x15193.toNatClampNeg)) → (EQ (fun k => fI H15190 q32 k) (fun k => fI H15190 iq k) (9586) (2) (0)) → (EQ (fun k => fI H15190 q33 k) (fun k => fI H15190 iq k) (9587) (2) (0)) → (UN (tk.toInt ≠ 0) (fun k => fI H15190 q24 k) (fun k => fI s.heap q24 k)) → (UN (tk.toInt ≠ 0) (fun k => fI H15190 q29 k) (fun k => fI s.heap q29 k)) → (UN (tk.toInt ≠ 0) (fun k => fI H15190 q30 k) (fun k => fI s.heap q30 k)) → (UN (tk.toInt ≠ 0) (fun k => fI H15190 q31 k) (fun k => fI s.heap q31 k)) → (UN (tk.toInt ≠ 0) (fun k => fI H15190 q32 k) (fun k => fI s.heap q32 k)) → (UN (tk.toInt ≠ 0) (fun k => fI H15190 q33 k) (fun k => fI s.heap q33 k)) → (MF K s.heap H15190 a0 [72]) → (WD (avw K H15190 a0)) → (96 - x15193.toInt < (nf : Int)) → (x15194.toInt = 8914 + 7 * x15193.toInt) → W p l e ({ frames := 1, cells := 0, slots := 0, locals := 21 } : Room) s m (([.ref a0] : List Value).toArray) below meth c H15190 locsH15190 0 0 Q (F0 m 32 ls15191 []) := by
    intro nf
    induction nf with
    | zero =>
      intro ls15191 H15190 locsH15190 x15193 x15194 hl15192 hTH15190 hSH15190 bx15193 bx15194 ex15194 cy15195_0 cy15195_1 cy15195_2 cy15195_3 cy15195_4 cy15195_5 cy15195_6 cy15195_7 cy15195_8 by15195_ui by15195_fb by15195_e24 by15195_e27 by15195_e29 by15195_e30 by15195_e31 by15195_e32 by15195_e33 by15195_u24 by15195_u29 by15195_u30 by15195_u31 by15195_u32 by15195_u33 mfy15195 gy15195_WD hm32 iv32
      exfalso
      omega
    | succ nf ih32 =>
      intro ls15191 H15190 locsH15190 x15193 x15194 hl15192 hTH15190 hSH15190 bx15193 bx15194 ex15194 cy15195_0 cy15195_1 cy15195_2 cy15195_3 cy15195_4 cy15195_5 cy15195_6 cy15195_7 cy15195_8 by15195_ui by15195_fb by15195_e24 by15195_e27 by15195_e29 by15195_e30 by15195_e31 by15195_e32 by15195_e33 by15195_u24 by15195_u29 by15195_u30 by15195_u31 by15195_u32 by15195_u33 mfy15195 gy15195_WD hm32 iv32
      refine lv_iload_n hx hb dX10_keepsTexts_32 rfl (lv_at hl15192 1 rfl) ?_
      refine lv_bipush (v := 96) hx hb dX10_keepsTexts_33 (by decide) ?_
      refine lv_icmp_ge (tgt := 156) hx hb dX10_keepsTexts_35 (by decide) (fun c15196 => ?_) (fun c15196 => ?_)
      · have k15197 := i_le c15196
        refine lv_iconst (v := 0) hx hb dX10_keepsTexts_156 (by decide) ?_
        refine lv_istore_n (lv' := [(1, .int 0), (0, .ref a0)]) hx hb dX10_keepsTexts_157 rfl hl15192 (by decide) rfl (fun ls15198 hl15199 => ?_)
        have cl00 : (0 : Int32).toNatClampNeg = 0 := rfl
        have cl_x15193 := i_cl (x := x15193) (by omega)
        exact J158 ((3000 - (0 : Int32).toInt).toNat + 1) ls15198 H15190 locsH15190 (0) (x15194) (lv_sub hl15199 [1, 0] rfl) hTH15190 hSH15190 (by decide) ⟨by have := i_rng x15194; omega, by have := i_rng x15194; omega⟩ ex15194 cy15195_0 cy15195_1 cy15195_2 cy15195_3 cy15195_4 cy15195_5 cy15195_6 cy15195_7 cy15195_8 by15195_ui by15195_fb (EQ.cast by15195_e24 (by omega)) (EQ.cast by15195_e27 (by omega)) (EQ.cast by15195_e29 (by omega)) (EQ.cast by15195_e30 (by omega)) (EQ.cast by15195_e31 (by omega)) (EQ.cast by15195_e32 (by omega)) (EQ.cast by15195_e33 (by omega)) by15195_u24 by15195_u29 by15195_u30 by15195_u31 by15195_u32 by15195_u33 mfy15195 gy15195_WD (by omega) (by and_intros <;> first | assumption | omega)
      · have k15197 := i_nle c15196
        refine lv_aload_n hx hb dX10_keepsTexts_38 rfl (lv_at hl15192 0 rfl) ?_
        refine x_gr C hTH15190 (ci := 10) (k := 25) rfl inX10 (by decide) wF_X10_62 ga0 rg_112 rfl dX10_keepsTexts_39 (fun q15200 eq15200 gq15200 => ?_)
        replace eq15200 := EQN.mk eq15200
        refine lv_iload_n hx hb dX10_keepsTexts_42 rfl (lv_at hl15192 1 rfl) ?_
        refine lv_aload_n hx hb dX10_keepsTexts_43 rfl (lv_at hl15192 0 rfl) ?_
        refine lv_aload_n hx hb dX10_keepsTexts_44 rfl (lv_at hl15192 0 rfl) ?_
        refine x_gr C hTH15190 (ci := 10) (k := 25) rfl inX10 (by decide) wF_X10_62 ga0 rg_112 rfl dX10_keepsTexts_45 (fun q15201 eq15201 gq15201 => ?_)
        have uq15201 : q15200 = q15201 := (eq15200).trans eq15201.symm
        subst uq15201
        clear eq15201
        refine lv_iload_n hx hb dX10_keepsTexts_48 rfl (lv_at hl15192 1 rfl) ?_
        refine x_ai C hTH15190 gq15200 rg_129 ⟨by omega, by show _ < ((112 : Nat) : Int); omega⟩ dX10_keepsTexts_49 (fun x15202 ex15202 bx15202 => ?_)
        refine x_V (As := [.int x15202]) (rest := [.int x15193, .ref q15200]) C (a_X10_kept l K G H15190 (x15202) (x15194) (tk) hTH15190 ga0 giq cy15195_0 ex15194 cy15195_8 gy15195_WD (by and_intros <;> first | assumption | omega)) yo_X10_kept wM_X10_473 ⟨⟨by decide, by decide⟩, by decide, by decide⟩ (x_rv C hTH15190 (ci := 10) rfl ga0 rg_112) rfl hl15192.1 rfl (Nat.le_of_ble_eq_true rfl) dX10_keepsTexts_50 hSH15190 (AE_sub (fun _ _ => rfl) (by decide) hSH15190.1) (fun vH15203 H15203 locsH15203 pH15203 zH15203 kH15203 hSH15203 => ?_)
        obtain ⟨x15204, x15205, hvH15203, ex15205, hrH15203, m15206, g15207, mf15208, m15209, m15210, m15211, m15212, hTH15203⟩ := pH15203
        subst hvH15203
        clear zH15203
        replace m15206 := EQN.mk m15206
        have b15213 : UN (tk.toInt ≠ 0) (fun k => fI H15203 q24 k) (fun k => fI s.heap q24 k) := UN.congr (fun j => fI_kept (x_lt hTH15190 kH15203 gq24 (by decide))) by15195_u24
        have b15214 : UN (tk.toInt ≠ 0) (fun k => fI H15203 q29 k) (fun k => fI s.heap q29 k) := UN.congr (fun j => fI_kept (x_lt hTH15190 kH15203 gq29 (by decide))) by15195_u29
        have b15215 : UN (tk.toInt ≠ 0) (fun k => fI H15203 q30 k) (fun k => fI s.heap q30 k) := UN.congr (fun j => fI_kept (x_lt hTH15190 kH15203 gq30 (by decide))) by15195_u30
        have b15216 : UN (tk.toInt ≠ 0) (fun k => fI H15203 q31 k) (fun k => fI s.heap q31 k) := UN.congr (fun j => fI_kept (x_lt hTH15190 kH15203 gq31 (by decide))) by15195_u31
        have b15217 : UN (tk.toInt ≠ 0) (fun k => fI H15203 q32 k) (fun k => fI s.heap q32 k) := UN.congr (fun j => fI_kept (x_lt hTH15190 kH15203 gq32 (by decide))) by15195_u32
        have b15218 : UN (tk.toInt ≠ 0) (fun k => fI H15203 q33 k) (fun k => fI s.heap q33 k) := UN.congr (fun j => fI_kept (x_lt hTH15190 kH15203 gq33 (by decide))) by15195_u33
        have m15219 := (ex15202).trans (fI_kept (x_lt hTH15190 kH15203 gq15200 (by decide))).symm
        have m15220 := (cy15195_0).trans (MF.r mf15208 (k := 73) (by decide) (by decide)).symm
        have m15221 := (cy15195_1).trans (MF.r mf15208 (k := 24) (by decide) (by decide)).symm
        have m15222 := (cy15195_2).trans (MF.r mf15208 (k := 27) (by decide) (by decide)).symm
        have m15223 := (cy15195_3).trans (MF.r mf15208 (k := 29) (by decide) (by decide)).symm
        have m15224 := (cy15195_4).trans (MF.r mf15208 (k := 30) (by decide) (by decide)).symm
        have m15225 := (cy15195_5).trans (MF.r mf15208 (k := 31) (by decide) (by decide)).symm
        have m15226 := (cy15195_6).trans (MF.r mf15208 (k := 32) (by decide) (by decide)).symm
        have m15227 := (cy15195_7).trans (MF.r mf15208 (k := 33) (by decide) (by decide)).symm
        have m15228 := (cy15195_8).trans (MF.i mf15208 (k := 71) (by decide) (by decide)).symm
        have m15229 := (eq15200).trans (MF.r mf15208 (k := 25) (by decide) (by decide)).symm
        have mf15230 : MF K s.heap H15203 a0 [72] := MF.trans mfy15195 mf15208 (by decide)
        have bx15205 := ty_fi (x := x15205) (k := 72) ex15205 hTH15203 ga0 rg_112 rfl
        have ce_x15193 := i_cl (x := x15193) (by omega)
        have ce_x15194 := i_cl (x := x15194) (by omega)
        have b15231 : UN (tk.toInt = 0) (fun k => fI H15203 iq k) (fun k => fI s.heap iq k) := UN.tr m15212 by15195_ui
        have b15232 : FB (fun k => fI H15203 iq k) (fun k => fI s.heap iq k) (8908) := FB.wr by15195_fb m15211 (fun j hj => by omega)
        have b15233 : EQ (fun k => fI H15203 q24 k) (fun k => fI H15203 iq k) (8908) (1) (6) := EQ.wr (EQ.congr (w1 := fun k => fI H15190 iq k) (fun j => fI_kept (x_lt hTH15190 kH15203 gq24 (by decide))) (fun _ => rfl) by15195_e24) m15211 (fun j hj => by omega)
        have b15234 : EQ (fun k => fI H15203 q27 k) (fun k => fI H15203 iq k) (8916) (7) (x15193.toNatClampNeg) := EQ.wr (EQ.congr (w1 := fun k => fI H15190 iq k) (fun j => fI_kept (x_lt hTH15190 kH15203 gq27 (by decide))) (fun _ => rfl) by15195_e27) m15211 (fun j hj => by omega)
        have b15235 : EQ (fun k => fI H15203 q29 k) (fun k => fI H15203 iq k) (8918) (7) (x15193.toNatClampNeg) := EQ.wr (EQ.congr (w1 := fun k => fI H15190 iq k) (fun j => fI_kept (x_lt hTH15190 kH15203 gq29 (by decide))) (fun _ => rfl) by15195_e29) m15211 (fun j hj => by omega)
        have b15236 : EQ (fun k => fI H15203 q30 k) (fun k => fI H15203 iq k) (8919) (7) (x15193.toNatClampNeg) := EQ.wr (EQ.congr (w1 := fun k => fI H15190 iq k) (fun j => fI_kept (x_lt hTH15190 kH15203 gq30 (by decide))) (fun _ => rfl) by15195_e30) m15211 (fun j hj => by omega)
        have b15237 : EQ (fun k => fI H15203 q31 k) (fun k => fI H15203 iq k) (8920) (7) (x15193.toNatClampNeg) := EQ.wr (EQ.congr (w1 := fun k => fI H15190 iq k) (fun j => fI_kept (x_lt hTH15190 kH15203 gq31 (by decide))) (fun _ => rfl) by15195_e31) m15211 (fun j hj => by omega)
        have b15238 : EQ (fun k => fI H15203 q32 k) (fun k => fI H15203 iq k) (9586) (2) (0) := EQ.wr (EQ.congr (w1 := fun k => fI H15190 iq k) (fun j => fI_kept (x_lt hTH15190 kH15203 gq32 (by decide))) (fun _ => rfl) by15195_e32) m15211 (fun j hj => by omega)
        have b15239 : EQ (fun k => fI H15203 q33 k) (fun k => fI H15203 iq k) (9587) (2) (0) := EQ.wr (EQ.congr (w1 := fun k => fI H15190 iq k) (fun j => fI_kept (x_lt hTH15190 kH15203 gq33 (by decide))) (fun _ => rfl) by15195_e33) m15211 (fun j hj => by omega)
        clear by15195_e24 by15195_e27 by15195_e29 by15195_e30 by15195_e31 by15195_e32 by15195_e33 by15195_fb by15195_u24 by15195_u29 by15195_u30 by15195_u31 by15195_u32 by15195_u33 by15195_ui cy15195_0 cy15195_1 cy15195_2 cy15195_3 cy15195_4 cy15195_5 cy15195_6 cy15195_7 cy15195_8 eq15200 ex15194 ex15202
        clear m15211 m15212
        refine W.eq (g2 := F0 m 53 ls15191 [.int x15204, .int x15193, .ref q15200]) rfl ?_
        refine x_iast C hTH15203 hSH15203 gq15200 rg_129 (by omega) (by show _ < ((112 : Nat) : Int); omega) ⟨by have := i_rng x15204; omega, by have := i_rng x15204; omega⟩ (AE_in gq15200 (by decide)) dX10_keepsTexts_53 (fun H15240 locsH15240 hTH15240 hSH15240 wH15240 => ?_)
        have mf15241 : MF K s.heap H15240 a0 [72] := MF.arr wH15240 (G_ne ga0 gq15200 (by decide)) mf15230
        have g15242 : WD (avw K H15240 a0) := WD.congr (fun k hk j => av_arr hTH15203 ga0 wH15240 gq15200 (by decide) (WD_ok 129 (by decide) k hk)) g15207
        have b15243 : UN (tk.toInt ≠ 0) (fun k => fI H15240 q24 k) (fun k => fI s.heap q24 k) := UN.congr (fun j => Wr.neI wH15240 (Or.inl (G_ne gq24 gq15200 (by decide)))) b15213
        have b15244 : UN (tk.toInt ≠ 0) (fun k => fI H15240 q29 k) (fun k => fI s.heap q29 k) := UN.congr (fun j => Wr.neI wH15240 (Or.inl (G_ne gq29 gq15200 (by decide)))) b15214
        have b15245 : UN (tk.toInt ≠ 0) (fun k => fI H15240 q30 k) (fun k => fI s.heap q30 k) := UN.congr (fun j => Wr.neI wH15240 (Or.inl (G_ne gq30 gq15200 (by decide)))) b15215
        have b15246 : UN (tk.toInt ≠ 0) (fun k => fI H15240 q31 k) (fun k => fI s.heap q31 k) := UN.congr (fun j => Wr.neI wH15240 (Or.inl (G_ne gq31 gq15200 (by decide)))) b15216
        have b15247 : UN (tk.toInt ≠ 0) (fun k => fI H15240 q32 k) (fun k => fI s.heap q32 k) := UN.congr (fun j => Wr.neI wH15240 (Or.inl (G_ne gq32 gq15200 (by decide)))) b15217
        have b15248 : UN (tk.toInt ≠ 0) (fun k => fI H15240 q33 k) (fun k => fI s.heap q33 k) := UN.congr (fun j => Wr.neI wH15240 (Or.inl (G_ne gq33 gq15200 (by decide)))) b15218
        have b15249 : UN (tk.toInt = 0) (fun k => fI H15240 iq k) (fun k => fI s.heap iq k) := UN.congr (fun j => Wr.neI wH15240 (Or.inl (G_ne giq gq15200 (by decide)))) b15231
        have b15250 : FB (fun k => fI H15240 iq k) (fun k => fI s.heap iq k) (8908) := FB.congr (fun j => Wr.neI wH15240 (Or.inl (G_ne giq gq15200 (by decide)))) b15232
        have b15251 : EQ (fun k => fI H15240 q24 k) (fun k => fI H15240 iq k) (8908) (1) (6) := EQ.congr (fun j => Wr.neI wH15240 (Or.inl (G_ne gq24 gq15200 (by decide)))) (fun j => Wr.neI wH15240 (Or.inl (G_ne giq gq15200 (by decide)))) b15233
        have b15252 : EQ (fun k => fI H15240 q27 k) (fun k => fI H15240 iq k) (8916) (7) (x15193.toNatClampNeg) := EQ.congr (fun j => Wr.neI wH15240 (Or.inl (G_ne gq27 gq15200 (by decide)))) (fun j => Wr.neI wH15240 (Or.inl (G_ne giq gq15200 (by decide)))) b15234
        have b15253 : EQ (fun k => fI H15240 q29 k) (fun k => fI H15240 iq k) (8918) (7) (x15193.toNatClampNeg) := EQ.congr (fun j => Wr.neI wH15240 (Or.inl (G_ne gq29 gq15200 (by decide)))) (fun j => Wr.neI wH15240 (Or.inl (G_ne giq gq15200 (by decide)))) b15235
        have b15254 : EQ (fun k => fI H15240 q30 k) (fun k => fI H15240 iq k) (8919) (7) (x15193.toNatClampNeg) := EQ.congr (fun j => Wr.neI wH15240 (Or.inl (G_ne gq30 gq15200 (by decide)))) (fun j => Wr.neI wH15240 (Or.inl (G_ne giq gq15200 (by decide)))) b15236
        have b15255 : EQ (fun k => fI H15240 q31 k) (fun k => fI H15240 iq k) (8920) (7) (x15193.toNatClampNeg) := EQ.congr (fun j => Wr.neI wH15240 (Or.inl (G_ne gq31 gq15200 (by decide)))) (fun j => Wr.neI wH15240 (Or.inl (G_ne giq gq15200 (by decide)))) b15237
        have b15256 : EQ (fun k => fI H15240 q32 k) (fun k => fI H15240 iq k) (9586) (2) (0) := EQ.congr (fun j => Wr.neI wH15240 (Or.inl (G_ne gq32 gq15200 (by decide)))) (fun j => Wr.neI wH15240 (Or.inl (G_ne giq gq15200 (by decide)))) b15238
        have b15257 : EQ (fun k => fI H15240 q33 k) (fun k => fI H15240 iq k) (9587) (2) (0) := EQ.congr (fun j => Wr.neI wH15240 (Or.inl (G_ne gq33 gq15200 (by decide)))) (fun j => Wr.neI wH15240 (Or.inl (G_ne giq gq15200 (by decide)))) b15239
        have m15259 := m15206.trans (Wr.neR wH15240 (Or.inl (G_ne ga0 gq15200 (by decide)))).symm
        have m15260 := m15221.trans (Wr.neR wH15240 (Or.inl (G_ne ga0 gq15200 (by decide)))).symm
        have m15261 := m15222.trans (Wr.neR wH15240 (Or.inl (G_ne ga0 gq15200 (by decide)))).symm
        have m15262 := m15223.trans (Wr.neR wH15240 (Or.inl (G_ne ga0 gq15200 (by decide)))).symm
        have m15263 := m15224.trans (Wr.neR wH15240 (Or.inl (G_ne ga0 gq15200 (by decide)))).symm
        have m15264 := m15225.trans (Wr.neR wH15240 (Or.inl (G_ne ga0 gq15200 (by decide)))).symm
        have m15265 := m15226.trans (Wr.neR wH15240 (Or.inl (G_ne ga0 gq15200 (by decide)))).symm
        have m15266 := m15227.trans (Wr.neR wH15240 (Or.inl (G_ne ga0 gq15200 (by decide)))).symm
        have m15267 := m15228.trans (Wr.neI wH15240 (Or.inl (G_ne ga0 gq15200 (by decide)))).symm
        have m15268 := m15229.trans (Wr.neR wH15240 (Or.inl (G_ne ga0 gq15200 (by decide)))).symm
        have m15269 := ex15205.trans (Wr.neI wH15240 (Or.inl (G_ne ga0 gq15200 (by decide)))).symm
        have m15270 := Wr.I wH15240
        have m15270 := m15270.symm
        clear b15213 b15214 b15215 b15216 b15217 b15218 b15231 b15232 b15233 b15234 b15235 b15236 b15237 b15238 b15239 ex15205 g15207 hTH15203 m15206 m15219 m15221 m15222 m15223 m15224 m15225 m15226 m15227 m15228 m15229 mf15230
        refine lv_aload_n hx hb dX10_keepsTexts_54 rfl (lv_at hl15192 0 rfl) ?_
        refine x_gr C hTH15240 (ci := 10) (k := 26) rfl inX10 (by decide) wF_X10_65 ga0 rg_112 rfl dX10_keepsTexts_55 (fun q15271 eq15271 gq15271 => ?_)
        replace eq15271 := EQN.mk eq15271
        refine lv_iload_n hx hb dX10_keepsTexts_58 rfl (lv_at hl15192 1 rfl) ?_
        refine lv_aload_n hx hb dX10_keepsTexts_59 rfl (lv_at hl15192 0 rfl) ?_
        refine lv_aload_n hx hb dX10_keepsTexts_60 rfl (lv_at hl15192 0 rfl) ?_
        refine x_gr C hTH15240 (ci := 10) (k := 26) rfl inX10 (by decide) wF_X10_65 ga0 rg_112 rfl dX10_keepsTexts_61 (fun q15272 eq15272 gq15272 => ?_)
        have uq15272 : q15271 = q15272 := (eq15271).trans eq15272.symm
        subst uq15272
        clear eq15272
        refine lv_iload_n hx hb dX10_keepsTexts_64 rfl (lv_at hl15192 1 rfl) ?_
        refine x_ai C hTH15240 gq15271 rg_130 ⟨by omega, by show _ < ((112 : Nat) : Int); omega⟩ dX10_keepsTexts_65 (fun x15273 ex15273 bx15273 => ?_)
        refine x_V (As := [.int x15273]) (rest := [.int x15193, .ref q15271]) C (a_X10_kept l K G H15240 (x15273) (x15205) (tk) hTH15240 ga0 giq m15259 m15269 m15267 g15242 (by and_intros <;> first | assumption | omega)) yo_X10_kept wM_X10_473 ⟨⟨by decide, by decide⟩, by decide, by decide⟩ (x_rv C hTH15240 (ci := 10) rfl ga0 rg_112) rfl hl15192.1 rfl (Nat.le_of_ble_eq_true rfl) dX10_keepsTexts_66 hSH15240 (AE_sub (fun _ _ => rfl) (by decide) hSH15240.1) (fun vH15274 H15274 locsH15274 pH15274 zH15274 kH15274 hSH15274 => ?_)
        obtain ⟨x15275, x15276, hvH15274, ex15276, hrH15274, m15277, g15278, mf15279, m15280, m15281, m15282, m15283, hTH15274⟩ := pH15274
        subst hvH15274
        clear zH15274
        replace m15277 := EQN.mk m15277
        have b15284 : UN (tk.toInt ≠ 0) (fun k => fI H15274 q24 k) (fun k => fI s.heap q24 k) := UN.congr (fun j => fI_kept (x_lt hTH15240 kH15274 gq24 (by decide))) b15243
        have b15285 : UN (tk.toInt ≠ 0) (fun k => fI H15274 q29 k) (fun k => fI s.heap q29 k) := UN.congr (fun j => fI_kept (x_lt hTH15240 kH15274 gq29 (by decide))) b15244
        have b15286 : UN (tk.toInt ≠ 0) (fun k => fI H15274 q30 k) (fun k => fI s.heap q30 k) := UN.congr (fun j => fI_kept (x_lt hTH15240 kH15274 gq30 (by decide))) b15245
        have b15287 : UN (tk.toInt ≠ 0) (fun k => fI H15274 q31 k) (fun k => fI s.heap q31 k) := UN.congr (fun j => fI_kept (x_lt hTH15240 kH15274 gq31 (by decide))) b15246
        have b15288 : UN (tk.toInt ≠ 0) (fun k => fI H15274 q32 k) (fun k => fI s.heap q32 k) := UN.congr (fun j => fI_kept (x_lt hTH15240 kH15274 gq32 (by decide))) b15247
        have b15289 : UN (tk.toInt ≠ 0) (fun k => fI H15274 q33 k) (fun k => fI s.heap q33 k) := UN.congr (fun j => fI_kept (x_lt hTH15240 kH15274 gq33 (by decide))) b15248
        have m15290 := (m15270).trans (fI_kept (x_lt hTH15240 kH15274 gq15200 (by decide))).symm
        have m15291 := (ex15273).trans (fI_kept (x_lt hTH15240 kH15274 gq15271 (by decide))).symm
        have m15292 := (m15259).trans (MF.r mf15279 (k := 73) (by decide) (by decide)).symm
        have m15293 := (m15260).trans (MF.r mf15279 (k := 24) (by decide) (by decide)).symm
        have m15294 := (m15261).trans (MF.r mf15279 (k := 27) (by decide) (by decide)).symm
        have m15295 := (m15262).trans (MF.r mf15279 (k := 29) (by decide) (by decide)).symm
        have m15296 := (m15263).trans (MF.r mf15279 (k := 30) (by decide) (by decide)).symm
        have m15297 := (m15264).trans (MF.r mf15279 (k := 31) (by decide) (by decide)).symm
        have m15298 := (m15265).trans (MF.r mf15279 (k := 32) (by decide) (by decide)).symm
        have m15299 := (m15266).trans (MF.r mf15279 (k := 33) (by decide) (by decide)).symm
        have m15300 := (m15267).trans (MF.i mf15279 (k := 71) (by decide) (by decide)).symm
        have m15301 := (m15268).trans (MF.r mf15279 (k := 25) (by decide) (by decide)).symm
        have m15302 := (eq15271).trans (MF.r mf15279 (k := 26) (by decide) (by decide)).symm
        have mf15303 : MF K s.heap H15274 a0 [72] := MF.trans mf15241 mf15279 (by decide)
        have bx15276 := ty_fi (x := x15276) (k := 72) ex15276 hTH15274 ga0 rg_112 rfl
        have ce_x15205 := i_cl (x := x15205) (by omega)
        have b15304 : UN (tk.toInt = 0) (fun k => fI H15274 iq k) (fun k => fI s.heap iq k) := UN.tr m15283 b15249
        have b15305 : FB (fun k => fI H15274 iq k) (fun k => fI s.heap iq k) (8908) := FB.wr b15250 m15282 (fun j hj => by omega)
        have b15306 : EQ (fun k => fI H15274 q24 k) (fun k => fI H15274 iq k) (8908) (1) (6) := EQ.wr (EQ.congr (w1 := fun k => fI H15240 iq k) (fun j => fI_kept (x_lt hTH15240 kH15274 gq24 (by decide))) (fun _ => rfl) b15251) m15282 (fun j hj => by omega)
        have b15307 : EQ (fun k => fI H15274 q27 k) (fun k => fI H15274 iq k) (8916) (7) (x15193.toNatClampNeg) := EQ.wr (EQ.congr (w1 := fun k => fI H15240 iq k) (fun j => fI_kept (x_lt hTH15240 kH15274 gq27 (by decide))) (fun _ => rfl) b15252) m15282 (fun j hj => by omega)
        have b15308 : EQ (fun k => fI H15274 q29 k) (fun k => fI H15274 iq k) (8918) (7) (x15193.toNatClampNeg) := EQ.wr (EQ.congr (w1 := fun k => fI H15240 iq k) (fun j => fI_kept (x_lt hTH15240 kH15274 gq29 (by decide))) (fun _ => rfl) b15253) m15282 (fun j hj => by omega)
        have b15309 : EQ (fun k => fI H15274 q30 k) (fun k => fI H15274 iq k) (8919) (7) (x15193.toNatClampNeg) := EQ.wr (EQ.congr (w1 := fun k => fI H15240 iq k) (fun j => fI_kept (x_lt hTH15240 kH15274 gq30 (by decide))) (fun _ => rfl) b15254) m15282 (fun j hj => by omega)
        have b15310 : EQ (fun k => fI H15274 q31 k) (fun k => fI H15274 iq k) (8920) (7) (x15193.toNatClampNeg) := EQ.wr (EQ.congr (w1 := fun k => fI H15240 iq k) (fun j => fI_kept (x_lt hTH15240 kH15274 gq31 (by decide))) (fun _ => rfl) b15255) m15282 (fun j hj => by omega)
        have b15311 : EQ (fun k => fI H15274 q32 k) (fun k => fI H15274 iq k) (9586) (2) (0) := EQ.wr (EQ.congr (w1 := fun k => fI H15240 iq k) (fun j => fI_kept (x_lt hTH15240 kH15274 gq32 (by decide))) (fun _ => rfl) b15256) m15282 (fun j hj => by omega)
        have b15312 : EQ (fun k => fI H15274 q33 k) (fun k => fI H15274 iq k) (9587) (2) (0) := EQ.wr (EQ.congr (w1 := fun k => fI H15240 iq k) (fun j => fI_kept (x_lt hTH15240 kH15274 gq33 (by decide))) (fun _ => rfl) b15257) m15282 (fun j hj => by omega)
        clear b15243 b15244 b15245 b15246 b15247 b15248 b15249 b15250 b15251 b15252 b15253 b15254 b15255 b15256 b15257 eq15271 ex15273 m15259 m15260 m15261 m15262 m15263 m15264 m15265 m15266 m15267 m15268 m15269 m15270
        clear m15282 m15283
        refine W.eq (g2 := F0 m 69 ls15191 [.int x15275, .int x15193, .ref q15271]) rfl ?_
        refine x_iast C hTH15274 hSH15274 gq15271 rg_130 (by omega) (by show _ < ((112 : Nat) : Int); omega) ⟨by have := i_rng x15275; omega, by have := i_rng x15275; omega⟩ (AE_in gq15271 (by decide)) dX10_keepsTexts_69 (fun H15313 locsH15313 hTH15313 hSH15313 wH15313 => ?_)
        have mf15314 : MF K s.heap H15313 a0 [72] := MF.arr wH15313 (G_ne ga0 gq15271 (by decide)) mf15303
        have g15315 : WD (avw K H15313 a0) := WD.congr (fun k hk j => av_arr hTH15274 ga0 wH15313 gq15271 (by decide) (WD_ok 130 (by decide) k hk)) g15278
        have b15316 : UN (tk.toInt ≠ 0) (fun k => fI H15313 q24 k) (fun k => fI s.heap q24 k) := UN.congr (fun j => Wr.neI wH15313 (Or.inl (G_ne gq24 gq15271 (by decide)))) b15284
        have b15317 : UN (tk.toInt ≠ 0) (fun k => fI H15313 q29 k) (fun k => fI s.heap q29 k) := UN.congr (fun j => Wr.neI wH15313 (Or.inl (G_ne gq29 gq15271 (by decide)))) b15285
        have b15318 : UN (tk.toInt ≠ 0) (fun k => fI H15313 q30 k) (fun k => fI s.heap q30 k) := UN.congr (fun j => Wr.neI wH15313 (Or.inl (G_ne gq30 gq15271 (by decide)))) b15286
        have b15319 : UN (tk.toInt ≠ 0) (fun k => fI H15313 q31 k) (fun k => fI s.heap q31 k) := UN.congr (fun j => Wr.neI wH15313 (Or.inl (G_ne gq31 gq15271 (by decide)))) b15287
        have b15320 : UN (tk.toInt ≠ 0) (fun k => fI H15313 q32 k) (fun k => fI s.heap q32 k) := UN.congr (fun j => Wr.neI wH15313 (Or.inl (G_ne gq32 gq15271 (by decide)))) b15288
        have b15321 : UN (tk.toInt ≠ 0) (fun k => fI H15313 q33 k) (fun k => fI s.heap q33 k) := UN.congr (fun j => Wr.neI wH15313 (Or.inl (G_ne gq33 gq15271 (by decide)))) b15289
        have b15322 : UN (tk.toInt = 0) (fun k => fI H15313 iq k) (fun k => fI s.heap iq k) := UN.congr (fun j => Wr.neI wH15313 (Or.inl (G_ne giq gq15271 (by decide)))) b15304
        have b15323 : FB (fun k => fI H15313 iq k) (fun k => fI s.heap iq k) (8908) := FB.congr (fun j => Wr.neI wH15313 (Or.inl (G_ne giq gq15271 (by decide)))) b15305
        have b15324 : EQ (fun k => fI H15313 q24 k) (fun k => fI H15313 iq k) (8908) (1) (6) := EQ.congr (fun j => Wr.neI wH15313 (Or.inl (G_ne gq24 gq15271 (by decide)))) (fun j => Wr.neI wH15313 (Or.inl (G_ne giq gq15271 (by decide)))) b15306
        have b15325 : EQ (fun k => fI H15313 q27 k) (fun k => fI H15313 iq k) (8916) (7) (x15193.toNatClampNeg) := EQ.congr (fun j => Wr.neI wH15313 (Or.inl (G_ne gq27 gq15271 (by decide)))) (fun j => Wr.neI wH15313 (Or.inl (G_ne giq gq15271 (by decide)))) b15307
        have b15326 : EQ (fun k => fI H15313 q29 k) (fun k => fI H15313 iq k) (8918) (7) (x15193.toNatClampNeg) := EQ.congr (fun j => Wr.neI wH15313 (Or.inl (G_ne gq29 gq15271 (by decide)))) (fun j => Wr.neI wH15313 (Or.inl (G_ne giq gq15271 (by decide)))) b15308
        have b15327 : EQ (fun k => fI H15313 q30 k) (fun k => fI H15313 iq k) (8919) (7) (x15193.toNatClampNeg) := EQ.congr (fun j => Wr.neI wH15313 (Or.inl (G_ne gq30 gq15271 (by decide)))) (fun j => Wr.neI wH15313 (Or.inl (G_ne giq gq15271 (by decide)))) b15309
        have b15328 : EQ (fun k => fI H15313 q31 k) (fun k => fI H15313 iq k) (8920) (7) (x15193.toNatClampNeg) := EQ.congr (fun j => Wr.neI wH15313 (Or.inl (G_ne gq31 gq15271 (by decide)))) (fun j => Wr.neI wH15313 (Or.inl (G_ne giq gq15271 (by decide)))) b15310
        have b15329 : EQ (fun k => fI H15313 q32 k) (fun k => fI H15313 iq k) (9586) (2) (0) := EQ.congr (fun j => Wr.neI wH15313 (Or.inl (G_ne gq32 gq15271 (by decide)))) (fun j => Wr.neI wH15313 (Or.inl (G_ne giq gq15271 (by decide)))) b15311
        have b15330 : EQ (fun k => fI H15313 q33 k) (fun k => fI H15313 iq k) (9587) (2) (0) := EQ.congr (fun j => Wr.neI wH15313 (Or.inl (G_ne gq33 gq15271 (by decide)))) (fun j => Wr.neI wH15313 (Or.inl (G_ne giq gq15271 (by decide)))) b15312
        have m15331 := m15290.trans (Wr.neI wH15313 (Or.inl (G_ne gq15200 gq15271 (by decide)))).symm
        have m15333 := m15277.trans (Wr.neR wH15313 (Or.inl (G_ne ga0 gq15271 (by decide)))).symm
        have m15334 := m15293.trans (Wr.neR wH15313 (Or.inl (G_ne ga0 gq15271 (by decide)))).symm
        have m15335 := m15294.trans (Wr.neR wH15313 (Or.inl (G_ne ga0 gq15271 (by decide)))).symm
        have m15336 := m15295.trans (Wr.neR wH15313 (Or.inl (G_ne ga0 gq15271 (by decide)))).symm
        have m15337 := m15296.trans (Wr.neR wH15313 (Or.inl (G_ne ga0 gq15271 (by decide)))).symm
        have m15338 := m15297.trans (Wr.neR wH15313 (Or.inl (G_ne ga0 gq15271 (by decide)))).symm
        have m15339 := m15298.trans (Wr.neR wH15313 (Or.inl (G_ne ga0 gq15271 (by decide)))).symm
        have m15340 := m15299.trans (Wr.neR wH15313 (Or.inl (G_ne ga0 gq15271 (by decide)))).symm
        have m15341 := m15300.trans (Wr.neI wH15313 (Or.inl (G_ne ga0 gq15271 (by decide)))).symm
        have m15342 := m15301.trans (Wr.neR wH15313 (Or.inl (G_ne ga0 gq15271 (by decide)))).symm
        have m15343 := m15302.trans (Wr.neR wH15313 (Or.inl (G_ne ga0 gq15271 (by decide)))).symm
        have m15344 := ex15276.trans (Wr.neI wH15313 (Or.inl (G_ne ga0 gq15271 (by decide)))).symm
        have m15345 := Wr.I wH15313
        have m15345 := m15345.symm
        clear b15284 b15285 b15286 b15287 b15288 b15289 b15304 b15305 b15306 b15307 b15308 b15309 b15310 b15311 b15312 ex15276 g15278 hTH15274 m15277 m15290 m15291 m15293 m15294 m15295 m15296 m15297 m15298 m15299 m15300 m15301 m15302 mf15303
        refine lv_aload_n hx hb dX10_keepsTexts_70 rfl (lv_at hl15192 0 rfl) ?_
        refine x_gr C hTH15313 (ci := 10) (k := 27) rfl inX10 (by decide) wF_X10_68 ga0 rg_112 rfl dX10_keepsTexts_71 (fun q15346 eq15346 gq15346 => ?_)
        have uq15346 : q27 = q15346 := (m15335).trans eq15346.symm
        subst uq15346
        clear eq15346
        refine lv_iload_n hx hb dX10_keepsTexts_74 rfl (lv_at hl15192 1 rfl) ?_
        refine lv_aload_n hx hb dX10_keepsTexts_75 rfl (lv_at hl15192 0 rfl) ?_
        refine lv_aload_n hx hb dX10_keepsTexts_76 rfl (lv_at hl15192 0 rfl) ?_
        refine x_gr C hTH15313 (ci := 10) (k := 27) rfl inX10 (by decide) wF_X10_68 ga0 rg_112 rfl dX10_keepsTexts_77 (fun q15347 eq15347 gq15347 => ?_)
        have uq15347 : q27 = q15347 := (m15335).trans eq15347.symm
        subst uq15347
        clear eq15347
        refine lv_iload_n hx hb dX10_keepsTexts_80 rfl (lv_at hl15192 1 rfl) ?_
        refine x_ai C hTH15313 gq27 rg_131 ⟨by omega, by show _ < ((112 : Nat) : Int); omega⟩ dX10_keepsTexts_81 (fun x15348 ex15348 bx15348 => ?_)
        refine x_V (As := [.int x15348]) (rest := [.int x15193, .ref q27]) C (a_X10_kept l K G H15313 (x15348) (x15276) (tk) hTH15313 ga0 giq m15333 m15344 m15341 g15315 (by and_intros <;> first | assumption | omega)) yo_X10_kept wM_X10_473 ⟨⟨by decide, by decide⟩, by decide, by decide⟩ (x_rv C hTH15313 (ci := 10) rfl ga0 rg_112) rfl hl15192.1 rfl (Nat.le_of_ble_eq_true rfl) dX10_keepsTexts_82 hSH15313 (AE_sub (fun _ _ => rfl) (by decide) hSH15313.1) (fun vH15349 H15349 locsH15349 pH15349 zH15349 kH15349 hSH15349 => ?_)
        obtain ⟨x15350, x15351, hvH15349, ex15351, hrH15349, m15352, g15353, mf15354, m15355, m15356, m15357, m15358, hTH15349⟩ := pH15349
        subst hvH15349
        clear zH15349
        replace m15352 := EQN.mk m15352
        have b15359 : UN (tk.toInt ≠ 0) (fun k => fI H15349 q24 k) (fun k => fI s.heap q24 k) := UN.congr (fun j => fI_kept (x_lt hTH15313 kH15349 gq24 (by decide))) b15316
        have b15360 : UN (tk.toInt ≠ 0) (fun k => fI H15349 q29 k) (fun k => fI s.heap q29 k) := UN.congr (fun j => fI_kept (x_lt hTH15313 kH15349 gq29 (by decide))) b15317
        have b15361 : UN (tk.toInt ≠ 0) (fun k => fI H15349 q30 k) (fun k => fI s.heap q30 k) := UN.congr (fun j => fI_kept (x_lt hTH15313 kH15349 gq30 (by decide))) b15318
        have b15362 : UN (tk.toInt ≠ 0) (fun k => fI H15349 q31 k) (fun k => fI s.heap q31 k) := UN.congr (fun j => fI_kept (x_lt hTH15313 kH15349 gq31 (by decide))) b15319
        have b15363 : UN (tk.toInt ≠ 0) (fun k => fI H15349 q32 k) (fun k => fI s.heap q32 k) := UN.congr (fun j => fI_kept (x_lt hTH15313 kH15349 gq32 (by decide))) b15320
        have b15364 : UN (tk.toInt ≠ 0) (fun k => fI H15349 q33 k) (fun k => fI s.heap q33 k) := UN.congr (fun j => fI_kept (x_lt hTH15313 kH15349 gq33 (by decide))) b15321
        have m15365 := (m15331).trans (fI_kept (x_lt hTH15313 kH15349 gq15200 (by decide))).symm
        have m15366 := (m15345).trans (fI_kept (x_lt hTH15313 kH15349 gq15271 (by decide))).symm
        have m15367 := (ex15348).trans (fI_kept (x_lt hTH15313 kH15349 gq27 (by decide))).symm
        have m15368 := (m15333).trans (MF.r mf15354 (k := 73) (by decide) (by decide)).symm
        have m15369 := (m15334).trans (MF.r mf15354 (k := 24) (by decide) (by decide)).symm
        have m15370 := (m15335).trans (MF.r mf15354 (k := 27) (by decide) (by decide)).symm
        have m15371 := (m15336).trans (MF.r mf15354 (k := 29) (by decide) (by decide)).symm
        have m15372 := (m15337).trans (MF.r mf15354 (k := 30) (by decide) (by decide)).symm
        have m15373 := (m15338).trans (MF.r mf15354 (k := 31) (by decide) (by decide)).symm
        have m15374 := (m15339).trans (MF.r mf15354 (k := 32) (by decide) (by decide)).symm
        have m15375 := (m15340).trans (MF.r mf15354 (k := 33) (by decide) (by decide)).symm
        have m15376 := (m15341).trans (MF.i mf15354 (k := 71) (by decide) (by decide)).symm
        have m15377 := (m15342).trans (MF.r mf15354 (k := 25) (by decide) (by decide)).symm
        have m15378 := (m15343).trans (MF.r mf15354 (k := 26) (by decide) (by decide)).symm
        have mf15379 : MF K s.heap H15349 a0 [72] := MF.trans mf15314 mf15354 (by decide)
        have bx15351 := ty_fi (x := x15351) (k := 72) ex15351 hTH15349 ga0 rg_112 rfl
        have ce_x15276 := i_cl (x := x15276) (by omega)
        have b15380 : UN (tk.toInt = 0) (fun k => fI H15349 iq k) (fun k => fI s.heap iq k) := UN.tr m15358 b15322
        have b15381 : FB (fun k => fI H15349 iq k) (fun k => fI s.heap iq k) (8908) := FB.wr b15323 m15357 (fun j hj => by omega)
        have b15382 : EQ (fun k => fI H15349 q24 k) (fun k => fI H15349 iq k) (8908) (1) (6) := EQ.wr (EQ.congr (w1 := fun k => fI H15313 iq k) (fun j => fI_kept (x_lt hTH15313 kH15349 gq24 (by decide))) (fun _ => rfl) b15324) m15357 (fun j hj => by omega)
        have b15383 : EQ (fun k => fI H15349 q27 k) (fun k => fI H15349 iq k) (8916) (7) (x15193.toNatClampNeg) := EQ.wr (EQ.congr (w1 := fun k => fI H15313 iq k) (fun j => fI_kept (x_lt hTH15313 kH15349 gq27 (by decide))) (fun _ => rfl) b15325) m15357 (fun j hj => by omega)
        have b15384 : EQ (fun k => fI H15349 q29 k) (fun k => fI H15349 iq k) (8918) (7) (x15193.toNatClampNeg) := EQ.wr (EQ.congr (w1 := fun k => fI H15313 iq k) (fun j => fI_kept (x_lt hTH15313 kH15349 gq29 (by decide))) (fun _ => rfl) b15326) m15357 (fun j hj => by omega)
        have b15385 : EQ (fun k => fI H15349 q30 k) (fun k => fI H15349 iq k) (8919) (7) (x15193.toNatClampNeg) := EQ.wr (EQ.congr (w1 := fun k => fI H15313 iq k) (fun j => fI_kept (x_lt hTH15313 kH15349 gq30 (by decide))) (fun _ => rfl) b15327) m15357 (fun j hj => by omega)
        have b15386 : EQ (fun k => fI H15349 q31 k) (fun k => fI H15349 iq k) (8920) (7) (x15193.toNatClampNeg) := EQ.wr (EQ.congr (w1 := fun k => fI H15313 iq k) (fun j => fI_kept (x_lt hTH15313 kH15349 gq31 (by decide))) (fun _ => rfl) b15328) m15357 (fun j hj => by omega)
        have b15387 : EQ (fun k => fI H15349 q32 k) (fun k => fI H15349 iq k) (9586) (2) (0) := EQ.wr (EQ.congr (w1 := fun k => fI H15313 iq k) (fun j => fI_kept (x_lt hTH15313 kH15349 gq32 (by decide))) (fun _ => rfl) b15329) m15357 (fun j hj => by omega)
        have b15388 : EQ (fun k => fI H15349 q33 k) (fun k => fI H15349 iq k) (9587) (2) (0) := EQ.wr (EQ.congr (w1 := fun k => fI H15313 iq k) (fun j => fI_kept (x_lt hTH15313 kH15349 gq33 (by decide))) (fun _ => rfl) b15330) m15357 (fun j hj => by omega)
        clear b15316 b15317 b15318 b15319 b15320 b15321 b15322 b15323 b15324 b15325 b15326 b15327 b15328 b15329 b15330 ex15348 m15331 m15333 m15334 m15335 m15336 m15337 m15338 m15339 m15340 m15341 m15342 m15343 m15344 m15345
        clear m15357 m15358
        have bx15350 : (-1) ≤ x15350.toInt ∧ x15350.toInt ≤ 15 := kr (fun h0 => by have hiw := (hy0 h0); exact kr0 (w := fun k => fI H15349 iq k) m15355 (p := 8916 + 7 * x15193.toNatClampNeg) (by omega) (b15380 h0) ((hiw.2.2.2.2.1 x15193.toNatClampNeg (by omega)).1)) m15356 (by omega)
        refine W.eq (g2 := F0 m 85 ls15191 [.int x15350, .int x15193, .ref q27]) rfl ?_
        refine x_iast C hTH15349 hSH15349 gq27 rg_131 (by omega) (by show _ < ((112 : Nat) : Int); omega) ⟨by have := i_rng x15350; omega, by have := i_rng x15350; omega⟩ (AE_in gq27 (by decide)) dX10_keepsTexts_85 (fun H15389 locsH15389 hTH15389 hSH15389 wH15389 => ?_)
        have mf15390 : MF K s.heap H15389 a0 [72] := MF.arr wH15389 (G_ne ga0 gq27 (by decide)) mf15379
        have g15391 : WD (avw K H15389 a0) := WD.congr (fun k hk j => av_arr hTH15349 ga0 wH15389 gq27 (by decide) (WD_ok 131 (by decide) k hk)) g15353
        have b15392 : UN (tk.toInt ≠ 0) (fun k => fI H15389 q24 k) (fun k => fI s.heap q24 k) := UN.congr (fun j => Wr.neI wH15389 (Or.inl (G_ne gq24 gq27 (by decide)))) b15359
        have b15393 : UN (tk.toInt ≠ 0) (fun k => fI H15389 q29 k) (fun k => fI s.heap q29 k) := UN.congr (fun j => Wr.neI wH15389 (Or.inl (G_ne gq29 gq27 (by decide)))) b15360
        have b15394 : UN (tk.toInt ≠ 0) (fun k => fI H15389 q30 k) (fun k => fI s.heap q30 k) := UN.congr (fun j => Wr.neI wH15389 (Or.inl (G_ne gq30 gq27 (by decide)))) b15361
        have b15395 : UN (tk.toInt ≠ 0) (fun k => fI H15389 q31 k) (fun k => fI s.heap q31 k) := UN.congr (fun j => Wr.neI wH15389 (Or.inl (G_ne gq31 gq27 (by decide)))) b15362
        have b15396 : UN (tk.toInt ≠ 0) (fun k => fI H15389 q32 k) (fun k => fI s.heap q32 k) := UN.congr (fun j => Wr.neI wH15389 (Or.inl (G_ne gq32 gq27 (by decide)))) b15363
        have b15397 : UN (tk.toInt ≠ 0) (fun k => fI H15389 q33 k) (fun k => fI s.heap q33 k) := UN.congr (fun j => Wr.neI wH15389 (Or.inl (G_ne gq33 gq27 (by decide)))) b15364
        have b15398 : UN (tk.toInt = 0) (fun k => fI H15389 iq k) (fun k => fI s.heap iq k) := UN.congr (fun j => Wr.neI wH15389 (Or.inl (G_ne giq gq27 (by decide)))) b15380
        have b15399 : FB (fun k => fI H15389 iq k) (fun k => fI s.heap iq k) (8908) := FB.congr (fun j => Wr.neI wH15389 (Or.inl (G_ne giq gq27 (by decide)))) b15381
        have b15400 : EQ (fun k => fI H15389 q24 k) (fun k => fI H15389 iq k) (8908) (1) (6) := EQ.congr (fun j => Wr.neI wH15389 (Or.inl (G_ne gq24 gq27 (by decide)))) (fun j => Wr.neI wH15389 (Or.inl (G_ne giq gq27 (by decide)))) b15382
        have b15401 : EQ (fun k => fI H15389 q27 k) (fun k => fI H15389 iq k) (8916) (7) (x15193.toNatClampNeg + 1) := EQ.st b15383 (i := x15193.toNatClampNeg) (t := x15276.toNatClampNeg) (by omega) m15355 (by omega) (Wr.I wH15389) (fun j hj => Wr.neI wH15389 (Or.inr hj)) (fun j => Wr.neI wH15389 (Or.inl (G_ne giq gq27 (by decide))))
        have b15402 : EQ (fun k => fI H15389 q29 k) (fun k => fI H15389 iq k) (8918) (7) (x15193.toNatClampNeg) := EQ.congr (fun j => Wr.neI wH15389 (Or.inl (G_ne gq29 gq27 (by decide)))) (fun j => Wr.neI wH15389 (Or.inl (G_ne giq gq27 (by decide)))) b15384
        have b15403 : EQ (fun k => fI H15389 q30 k) (fun k => fI H15389 iq k) (8919) (7) (x15193.toNatClampNeg) := EQ.congr (fun j => Wr.neI wH15389 (Or.inl (G_ne gq30 gq27 (by decide)))) (fun j => Wr.neI wH15389 (Or.inl (G_ne giq gq27 (by decide)))) b15385
        have b15404 : EQ (fun k => fI H15389 q31 k) (fun k => fI H15389 iq k) (8920) (7) (x15193.toNatClampNeg) := EQ.congr (fun j => Wr.neI wH15389 (Or.inl (G_ne gq31 gq27 (by decide)))) (fun j => Wr.neI wH15389 (Or.inl (G_ne giq gq27 (by decide)))) b15386
        have b15405 : EQ (fun k => fI H15389 q32 k) (fun k => fI H15389 iq k) (9586) (2) (0) := EQ.congr (fun j => Wr.neI wH15389 (Or.inl (G_ne gq32 gq27 (by decide)))) (fun j => Wr.neI wH15389 (Or.inl (G_ne giq gq27 (by decide)))) b15387
        have b15406 : EQ (fun k => fI H15389 q33 k) (fun k => fI H15389 iq k) (9587) (2) (0) := EQ.congr (fun j => Wr.neI wH15389 (Or.inl (G_ne gq33 gq27 (by decide)))) (fun j => Wr.neI wH15389 (Or.inl (G_ne giq gq27 (by decide)))) b15388
        have m15407 := m15365.trans (Wr.neI wH15389 (Or.inl (G_ne gq15200 gq27 (by decide)))).symm
        have m15408 := m15366.trans (Wr.neI wH15389 (Or.inl (G_ne gq15271 gq27 (by decide)))).symm
        have m15410 := m15352.trans (Wr.neR wH15389 (Or.inl (G_ne ga0 gq27 (by decide)))).symm
        have m15411 := m15369.trans (Wr.neR wH15389 (Or.inl (G_ne ga0 gq27 (by decide)))).symm
        have m15412 := m15370.trans (Wr.neR wH15389 (Or.inl (G_ne ga0 gq27 (by decide)))).symm
        have m15413 := m15371.trans (Wr.neR wH15389 (Or.inl (G_ne ga0 gq27 (by decide)))).symm
        have m15414 := m15372.trans (Wr.neR wH15389 (Or.inl (G_ne ga0 gq27 (by decide)))).symm
        have m15415 := m15373.trans (Wr.neR wH15389 (Or.inl (G_ne ga0 gq27 (by decide)))).symm
        have m15416 := m15374.trans (Wr.neR wH15389 (Or.inl (G_ne ga0 gq27 (by decide)))).symm
        have m15417 := m15375.trans (Wr.neR wH15389 (Or.inl (G_ne ga0 gq27 (by decide)))).symm
        have m15418 := m15376.trans (Wr.neI wH15389 (Or.inl (G_ne ga0 gq27 (by decide)))).symm
        have m15419 := m15377.trans (Wr.neR wH15389 (Or.inl (G_ne ga0 gq27 (by decide)))).symm
        have m15420 := m15378.trans (Wr.neR wH15389 (Or.inl (G_ne ga0 gq27 (by decide)))).symm
        have m15421 := ex15351.trans (Wr.neI wH15389 (Or.inl (G_ne ga0 gq27 (by decide)))).symm
        have m15422 := Wr.I wH15389
        have m15422 := m15422.symm
        clear b15359 b15360 b15361 b15362 b15363 b15364 b15380 b15381 b15382 b15383 b15384 b15385 b15386 b15387 b15388 ex15351 g15353 hTH15349 m15352 m15365 m15366 m15367 m15369 m15370 m15371 m15372 m15373 m15374 m15375 m15376 m15377 m15378 mf15379
        refine lv_aload_n hx hb dX10_keepsTexts_86 rfl (lv_at hl15192 0 rfl) ?_
        refine x_gr C hTH15389 (ci := 10) (k := 28) rfl inX10 (by decide) wF_X10_71 ga0 rg_112 rfl dX10_keepsTexts_87 (fun q15423 eq15423 gq15423 => ?_)
        replace eq15423 := EQN.mk eq15423
        refine lv_iload_n hx hb dX10_keepsTexts_90 rfl (lv_at hl15192 1 rfl) ?_
        refine lv_aload_n hx hb dX10_keepsTexts_91 rfl (lv_at hl15192 0 rfl) ?_
        refine lv_aload_n hx hb dX10_keepsTexts_92 rfl (lv_at hl15192 0 rfl) ?_
        refine x_gr C hTH15389 (ci := 10) (k := 28) rfl inX10 (by decide) wF_X10_71 ga0 rg_112 rfl dX10_keepsTexts_93 (fun q15424 eq15424 gq15424 => ?_)
        have uq15424 : q15423 = q15424 := (eq15423).trans eq15424.symm
        subst uq15424
        clear eq15424
        refine lv_iload_n hx hb dX10_keepsTexts_96 rfl (lv_at hl15192 1 rfl) ?_
        refine x_ai C hTH15389 gq15423 rg_132 ⟨by omega, by show _ < ((112 : Nat) : Int); omega⟩ dX10_keepsTexts_97 (fun x15425 ex15425 bx15425 => ?_)
        refine x_V (As := [.int x15425]) (rest := [.int x15193, .ref q15423]) C (a_X10_kept l K G H15389 (x15425) (x15351) (tk) hTH15389 ga0 giq m15410 m15421 m15418 g15391 (by and_intros <;> first | assumption | omega)) yo_X10_kept wM_X10_473 ⟨⟨by decide, by decide⟩, by decide, by decide⟩ (x_rv C hTH15389 (ci := 10) rfl ga0 rg_112) rfl hl15192.1 rfl (Nat.le_of_ble_eq_true rfl) dX10_keepsTexts_98 hSH15389 (AE_sub (fun _ _ => rfl) (by decide) hSH15389.1) (fun vH15426 H15426 locsH15426 pH15426 zH15426 kH15426 hSH15426 => ?_)
        obtain ⟨x15427, x15428, hvH15426, ex15428, hrH15426, m15429, g15430, mf15431, m15432, m15433, m15434, m15435, hTH15426⟩ := pH15426
        subst hvH15426
        clear zH15426
        replace m15429 := EQN.mk m15429
        have b15436 : UN (tk.toInt ≠ 0) (fun k => fI H15426 q24 k) (fun k => fI s.heap q24 k) := UN.congr (fun j => fI_kept (x_lt hTH15389 kH15426 gq24 (by decide))) b15392
        have b15437 : UN (tk.toInt ≠ 0) (fun k => fI H15426 q29 k) (fun k => fI s.heap q29 k) := UN.congr (fun j => fI_kept (x_lt hTH15389 kH15426 gq29 (by decide))) b15393
        have b15438 : UN (tk.toInt ≠ 0) (fun k => fI H15426 q30 k) (fun k => fI s.heap q30 k) := UN.congr (fun j => fI_kept (x_lt hTH15389 kH15426 gq30 (by decide))) b15394
        have b15439 : UN (tk.toInt ≠ 0) (fun k => fI H15426 q31 k) (fun k => fI s.heap q31 k) := UN.congr (fun j => fI_kept (x_lt hTH15389 kH15426 gq31 (by decide))) b15395
        have b15440 : UN (tk.toInt ≠ 0) (fun k => fI H15426 q32 k) (fun k => fI s.heap q32 k) := UN.congr (fun j => fI_kept (x_lt hTH15389 kH15426 gq32 (by decide))) b15396
        have b15441 : UN (tk.toInt ≠ 0) (fun k => fI H15426 q33 k) (fun k => fI s.heap q33 k) := UN.congr (fun j => fI_kept (x_lt hTH15389 kH15426 gq33 (by decide))) b15397
        have m15442 := (m15407).trans (fI_kept (x_lt hTH15389 kH15426 gq15200 (by decide))).symm
        have m15443 := (m15408).trans (fI_kept (x_lt hTH15389 kH15426 gq15271 (by decide))).symm
        have m15444 := (m15422).trans (fI_kept (x_lt hTH15389 kH15426 gq27 (by decide))).symm
        have m15445 := (ex15425).trans (fI_kept (x_lt hTH15389 kH15426 gq15423 (by decide))).symm
        have m15446 := (m15410).trans (MF.r mf15431 (k := 73) (by decide) (by decide)).symm
        have m15447 := (m15411).trans (MF.r mf15431 (k := 24) (by decide) (by decide)).symm
        have m15448 := (m15412).trans (MF.r mf15431 (k := 27) (by decide) (by decide)).symm
        have m15449 := (m15413).trans (MF.r mf15431 (k := 29) (by decide) (by decide)).symm
        have m15450 := (m15414).trans (MF.r mf15431 (k := 30) (by decide) (by decide)).symm
        have m15451 := (m15415).trans (MF.r mf15431 (k := 31) (by decide) (by decide)).symm
        have m15452 := (m15416).trans (MF.r mf15431 (k := 32) (by decide) (by decide)).symm
        have m15453 := (m15417).trans (MF.r mf15431 (k := 33) (by decide) (by decide)).symm
        have m15454 := (m15418).trans (MF.i mf15431 (k := 71) (by decide) (by decide)).symm
        have m15455 := (m15419).trans (MF.r mf15431 (k := 25) (by decide) (by decide)).symm
        have m15456 := (m15420).trans (MF.r mf15431 (k := 26) (by decide) (by decide)).symm
        have m15457 := (eq15423).trans (MF.r mf15431 (k := 28) (by decide) (by decide)).symm
        have mf15458 : MF K s.heap H15426 a0 [72] := MF.trans mf15390 mf15431 (by decide)
        have bx15428 := ty_fi (x := x15428) (k := 72) ex15428 hTH15426 ga0 rg_112 rfl
        have ce_x15351 := i_cl (x := x15351) (by omega)
        have b15459 : UN (tk.toInt = 0) (fun k => fI H15426 iq k) (fun k => fI s.heap iq k) := UN.tr m15435 b15398
        have b15460 : FB (fun k => fI H15426 iq k) (fun k => fI s.heap iq k) (8908) := FB.wr b15399 m15434 (fun j hj => by omega)
        have b15461 : EQ (fun k => fI H15426 q24 k) (fun k => fI H15426 iq k) (8908) (1) (6) := EQ.wr (EQ.congr (w1 := fun k => fI H15389 iq k) (fun j => fI_kept (x_lt hTH15389 kH15426 gq24 (by decide))) (fun _ => rfl) b15400) m15434 (fun j hj => by omega)
        have b15462 : EQ (fun k => fI H15426 q27 k) (fun k => fI H15426 iq k) (8916) (7) (x15193.toNatClampNeg + 1) := EQ.wr (EQ.congr (w1 := fun k => fI H15389 iq k) (fun j => fI_kept (x_lt hTH15389 kH15426 gq27 (by decide))) (fun _ => rfl) b15401) m15434 (fun j hj => by omega)
        have b15463 : EQ (fun k => fI H15426 q29 k) (fun k => fI H15426 iq k) (8918) (7) (x15193.toNatClampNeg) := EQ.wr (EQ.congr (w1 := fun k => fI H15389 iq k) (fun j => fI_kept (x_lt hTH15389 kH15426 gq29 (by decide))) (fun _ => rfl) b15402) m15434 (fun j hj => by omega)
        have b15464 : EQ (fun k => fI H15426 q30 k) (fun k => fI H15426 iq k) (8919) (7) (x15193.toNatClampNeg) := EQ.wr (EQ.congr (w1 := fun k => fI H15389 iq k) (fun j => fI_kept (x_lt hTH15389 kH15426 gq30 (by decide))) (fun _ => rfl) b15403) m15434 (fun j hj => by omega)
        have b15465 : EQ (fun k => fI H15426 q31 k) (fun k => fI H15426 iq k) (8920) (7) (x15193.toNatClampNeg) := EQ.wr (EQ.congr (w1 := fun k => fI H15389 iq k) (fun j => fI_kept (x_lt hTH15389 kH15426 gq31 (by decide))) (fun _ => rfl) b15404) m15434 (fun j hj => by omega)
        have b15466 : EQ (fun k => fI H15426 q32 k) (fun k => fI H15426 iq k) (9586) (2) (0) := EQ.wr (EQ.congr (w1 := fun k => fI H15389 iq k) (fun j => fI_kept (x_lt hTH15389 kH15426 gq32 (by decide))) (fun _ => rfl) b15405) m15434 (fun j hj => by omega)
        have b15467 : EQ (fun k => fI H15426 q33 k) (fun k => fI H15426 iq k) (9587) (2) (0) := EQ.wr (EQ.congr (w1 := fun k => fI H15389 iq k) (fun j => fI_kept (x_lt hTH15389 kH15426 gq33 (by decide))) (fun _ => rfl) b15406) m15434 (fun j hj => by omega)
        clear b15392 b15393 b15394 b15395 b15396 b15397 b15398 b15399 b15400 b15401 b15402 b15403 b15404 b15405 b15406 eq15423 ex15425 m15407 m15408 m15410 m15411 m15412 m15413 m15414 m15415 m15416 m15417 m15418 m15419 m15420 m15421 m15422
        clear m15434 m15435
        refine W.eq (g2 := F0 m 101 ls15191 [.int x15427, .int x15193, .ref q15423]) rfl ?_
        refine x_iast C hTH15426 hSH15426 gq15423 rg_132 (by omega) (by show _ < ((112 : Nat) : Int); omega) ⟨by have := i_rng x15427; omega, by have := i_rng x15427; omega⟩ (AE_in gq15423 (by decide)) dX10_keepsTexts_101 (fun H15468 locsH15468 hTH15468 hSH15468 wH15468 => ?_)
        have mf15469 : MF K s.heap H15468 a0 [72] := MF.arr wH15468 (G_ne ga0 gq15423 (by decide)) mf15458
        have g15470 : WD (avw K H15468 a0) := WD.congr (fun k hk j => av_arr hTH15426 ga0 wH15468 gq15423 (by decide) (WD_ok 132 (by decide) k hk)) g15430
        have b15471 : UN (tk.toInt ≠ 0) (fun k => fI H15468 q24 k) (fun k => fI s.heap q24 k) := UN.congr (fun j => Wr.neI wH15468 (Or.inl (G_ne gq24 gq15423 (by decide)))) b15436
        have b15472 : UN (tk.toInt ≠ 0) (fun k => fI H15468 q29 k) (fun k => fI s.heap q29 k) := UN.congr (fun j => Wr.neI wH15468 (Or.inl (G_ne gq29 gq15423 (by decide)))) b15437
        have b15473 : UN (tk.toInt ≠ 0) (fun k => fI H15468 q30 k) (fun k => fI s.heap q30 k) := UN.congr (fun j => Wr.neI wH15468 (Or.inl (G_ne gq30 gq15423 (by decide)))) b15438
        have b15474 : UN (tk.toInt ≠ 0) (fun k => fI H15468 q31 k) (fun k => fI s.heap q31 k) := UN.congr (fun j => Wr.neI wH15468 (Or.inl (G_ne gq31 gq15423 (by decide)))) b15439
        have b15475 : UN (tk.toInt ≠ 0) (fun k => fI H15468 q32 k) (fun k => fI s.heap q32 k) := UN.congr (fun j => Wr.neI wH15468 (Or.inl (G_ne gq32 gq15423 (by decide)))) b15440
        have b15476 : UN (tk.toInt ≠ 0) (fun k => fI H15468 q33 k) (fun k => fI s.heap q33 k) := UN.congr (fun j => Wr.neI wH15468 (Or.inl (G_ne gq33 gq15423 (by decide)))) b15441
        have b15477 : UN (tk.toInt = 0) (fun k => fI H15468 iq k) (fun k => fI s.heap iq k) := UN.congr (fun j => Wr.neI wH15468 (Or.inl (G_ne giq gq15423 (by decide)))) b15459
        have b15478 : FB (fun k => fI H15468 iq k) (fun k => fI s.heap iq k) (8908) := FB.congr (fun j => Wr.neI wH15468 (Or.inl (G_ne giq gq15423 (by decide)))) b15460
        have b15479 : EQ (fun k => fI H15468 q24 k) (fun k => fI H15468 iq k) (8908) (1) (6) := EQ.congr (fun j => Wr.neI wH15468 (Or.inl (G_ne gq24 gq15423 (by decide)))) (fun j => Wr.neI wH15468 (Or.inl (G_ne giq gq15423 (by decide)))) b15461
        have b15480 : EQ (fun k => fI H15468 q27 k) (fun k => fI H15468 iq k) (8916) (7) (x15193.toNatClampNeg + 1) := EQ.congr (fun j => Wr.neI wH15468 (Or.inl (G_ne gq27 gq15423 (by decide)))) (fun j => Wr.neI wH15468 (Or.inl (G_ne giq gq15423 (by decide)))) b15462
        have b15481 : EQ (fun k => fI H15468 q29 k) (fun k => fI H15468 iq k) (8918) (7) (x15193.toNatClampNeg) := EQ.congr (fun j => Wr.neI wH15468 (Or.inl (G_ne gq29 gq15423 (by decide)))) (fun j => Wr.neI wH15468 (Or.inl (G_ne giq gq15423 (by decide)))) b15463
        have b15482 : EQ (fun k => fI H15468 q30 k) (fun k => fI H15468 iq k) (8919) (7) (x15193.toNatClampNeg) := EQ.congr (fun j => Wr.neI wH15468 (Or.inl (G_ne gq30 gq15423 (by decide)))) (fun j => Wr.neI wH15468 (Or.inl (G_ne giq gq15423 (by decide)))) b15464
        have b15483 : EQ (fun k => fI H15468 q31 k) (fun k => fI H15468 iq k) (8920) (7) (x15193.toNatClampNeg) := EQ.congr (fun j => Wr.neI wH15468 (Or.inl (G_ne gq31 gq15423 (by decide)))) (fun j => Wr.neI wH15468 (Or.inl (G_ne giq gq15423 (by decide)))) b15465
        have b15484 : EQ (fun k => fI H15468 q32 k) (fun k => fI H15468 iq k) (9586) (2) (0) := EQ.congr (fun j => Wr.neI wH15468 (Or.inl (G_ne gq32 gq15423 (by decide)))) (fun j => Wr.neI wH15468 (Or.inl (G_ne giq gq15423 (by decide)))) b15466
        have b15485 : EQ (fun k => fI H15468 q33 k) (fun k => fI H15468 iq k) (9587) (2) (0) := EQ.congr (fun j => Wr.neI wH15468 (Or.inl (G_ne gq33 gq15423 (by decide)))) (fun j => Wr.neI wH15468 (Or.inl (G_ne giq gq15423 (by decide)))) b15467
        have m15486 := m15442.trans (Wr.neI wH15468 (Or.inl (G_ne gq15200 gq15423 (by decide)))).symm
        have m15487 := m15443.trans (Wr.neI wH15468 (Or.inl (G_ne gq15271 gq15423 (by decide)))).symm
        have m15488 := m15444.trans (Wr.neI wH15468 (Or.inl (G_ne gq27 gq15423 (by decide)))).symm
        have m15490 := m15429.trans (Wr.neR wH15468 (Or.inl (G_ne ga0 gq15423 (by decide)))).symm
        have m15491 := m15447.trans (Wr.neR wH15468 (Or.inl (G_ne ga0 gq15423 (by decide)))).symm
        have m15492 := m15448.trans (Wr.neR wH15468 (Or.inl (G_ne ga0 gq15423 (by decide)))).symm
        have m15493 := m15449.trans (Wr.neR wH15468 (Or.inl (G_ne ga0 gq15423 (by decide)))).symm
        have m15494 := m15450.trans (Wr.neR wH15468 (Or.inl (G_ne ga0 gq15423 (by decide)))).symm
        have m15495 := m15451.trans (Wr.neR wH15468 (Or.inl (G_ne ga0 gq15423 (by decide)))).symm
        have m15496 := m15452.trans (Wr.neR wH15468 (Or.inl (G_ne ga0 gq15423 (by decide)))).symm
        have m15497 := m15453.trans (Wr.neR wH15468 (Or.inl (G_ne ga0 gq15423 (by decide)))).symm
        have m15498 := m15454.trans (Wr.neI wH15468 (Or.inl (G_ne ga0 gq15423 (by decide)))).symm
        have m15499 := m15455.trans (Wr.neR wH15468 (Or.inl (G_ne ga0 gq15423 (by decide)))).symm
        have m15500 := m15456.trans (Wr.neR wH15468 (Or.inl (G_ne ga0 gq15423 (by decide)))).symm
        have m15501 := m15457.trans (Wr.neR wH15468 (Or.inl (G_ne ga0 gq15423 (by decide)))).symm
        have m15502 := ex15428.trans (Wr.neI wH15468 (Or.inl (G_ne ga0 gq15423 (by decide)))).symm
        have m15503 := Wr.I wH15468
        have m15503 := m15503.symm
        clear b15436 b15437 b15438 b15439 b15440 b15441 b15459 b15460 b15461 b15462 b15463 b15464 b15465 b15466 b15467 ex15428 g15430 hTH15426 m15429 m15442 m15443 m15444 m15445 m15447 m15448 m15449 m15450 m15451 m15452 m15453 m15454 m15455 m15456 m15457 mf15458
        refine lv_aload_n hx hb dX10_keepsTexts_102 rfl (lv_at hl15192 0 rfl) ?_
        refine x_gr C hTH15468 (ci := 10) (k := 29) rfl inX10 (by decide) wF_X10_74 ga0 rg_112 rfl dX10_keepsTexts_103 (fun q15504 eq15504 gq15504 => ?_)
        have uq15504 : q29 = q15504 := (m15493).trans eq15504.symm
        subst uq15504
        clear eq15504
        refine lv_iload_n hx hb dX10_keepsTexts_106 rfl (lv_at hl15192 1 rfl) ?_
        refine lv_aload_n hx hb dX10_keepsTexts_107 rfl (lv_at hl15192 0 rfl) ?_
        refine lv_aload_n hx hb dX10_keepsTexts_108 rfl (lv_at hl15192 0 rfl) ?_
        refine x_gr C hTH15468 (ci := 10) (k := 29) rfl inX10 (by decide) wF_X10_74 ga0 rg_112 rfl dX10_keepsTexts_109 (fun q15505 eq15505 gq15505 => ?_)
        have uq15505 : q29 = q15505 := (m15493).trans eq15505.symm
        subst uq15505
        clear eq15505
        refine lv_iload_n hx hb dX10_keepsTexts_112 rfl (lv_at hl15192 1 rfl) ?_
        refine x_ai C hTH15468 gq29 rg_133 ⟨by omega, by show _ < ((112 : Nat) : Int); omega⟩ dX10_keepsTexts_113 (fun x15506 ex15506 bx15506 => ?_)
        refine x_V (As := [.int x15506]) (rest := [.int x15193, .ref q29]) C (a_X10_kept l K G H15468 (x15506) (x15428) (tk) hTH15468 ga0 giq m15490 m15502 m15498 g15470 (by and_intros <;> first | assumption | omega)) yo_X10_kept wM_X10_473 ⟨⟨by decide, by decide⟩, by decide, by decide⟩ (x_rv C hTH15468 (ci := 10) rfl ga0 rg_112) rfl hl15192.1 rfl (Nat.le_of_ble_eq_true rfl) dX10_keepsTexts_114 hSH15468 (AE_sub (fun _ _ => rfl) (by decide) hSH15468.1) (fun vH15507 H15507 locsH15507 pH15507 zH15507 kH15507 hSH15507 => ?_)
        obtain ⟨x15508, x15509, hvH15507, ex15509, hrH15507, m15510, g15511, mf15512, m15513, m15514, m15515, m15516, hTH15507⟩ := pH15507
        subst hvH15507
        clear zH15507
        replace m15510 := EQN.mk m15510
        have b15517 : UN (tk.toInt ≠ 0) (fun k => fI H15507 q24 k) (fun k => fI s.heap q24 k) := UN.congr (fun j => fI_kept (x_lt hTH15468 kH15507 gq24 (by decide))) b15471
        have b15518 : UN (tk.toInt ≠ 0) (fun k => fI H15507 q29 k) (fun k => fI s.heap q29 k) := UN.congr (fun j => fI_kept (x_lt hTH15468 kH15507 gq29 (by decide))) b15472
        have b15519 : UN (tk.toInt ≠ 0) (fun k => fI H15507 q30 k) (fun k => fI s.heap q30 k) := UN.congr (fun j => fI_kept (x_lt hTH15468 kH15507 gq30 (by decide))) b15473
        have b15520 : UN (tk.toInt ≠ 0) (fun k => fI H15507 q31 k) (fun k => fI s.heap q31 k) := UN.congr (fun j => fI_kept (x_lt hTH15468 kH15507 gq31 (by decide))) b15474
        have b15521 : UN (tk.toInt ≠ 0) (fun k => fI H15507 q32 k) (fun k => fI s.heap q32 k) := UN.congr (fun j => fI_kept (x_lt hTH15468 kH15507 gq32 (by decide))) b15475
        have b15522 : UN (tk.toInt ≠ 0) (fun k => fI H15507 q33 k) (fun k => fI s.heap q33 k) := UN.congr (fun j => fI_kept (x_lt hTH15468 kH15507 gq33 (by decide))) b15476
        have m15523 := (m15486).trans (fI_kept (x_lt hTH15468 kH15507 gq15200 (by decide))).symm
        have m15524 := (m15487).trans (fI_kept (x_lt hTH15468 kH15507 gq15271 (by decide))).symm
        have m15525 := (m15488).trans (fI_kept (x_lt hTH15468 kH15507 gq27 (by decide))).symm
        have m15526 := (m15503).trans (fI_kept (x_lt hTH15468 kH15507 gq15423 (by decide))).symm
        have m15527 := (ex15506).trans (fI_kept (x_lt hTH15468 kH15507 gq29 (by decide))).symm
        have m15528 := (m15490).trans (MF.r mf15512 (k := 73) (by decide) (by decide)).symm
        have m15529 := (m15491).trans (MF.r mf15512 (k := 24) (by decide) (by decide)).symm
        have m15530 := (m15492).trans (MF.r mf15512 (k := 27) (by decide) (by decide)).symm
        have m15531 := (m15493).trans (MF.r mf15512 (k := 29) (by decide) (by decide)).symm
        have m15532 := (m15494).trans (MF.r mf15512 (k := 30) (by decide) (by decide)).symm
        have m15533 := (m15495).trans (MF.r mf15512 (k := 31) (by decide) (by decide)).symm
        have m15534 := (m15496).trans (MF.r mf15512 (k := 32) (by decide) (by decide)).symm
        have m15535 := (m15497).trans (MF.r mf15512 (k := 33) (by decide) (by decide)).symm
        have m15536 := (m15498).trans (MF.i mf15512 (k := 71) (by decide) (by decide)).symm
        have m15537 := (m15499).trans (MF.r mf15512 (k := 25) (by decide) (by decide)).symm
        have m15538 := (m15500).trans (MF.r mf15512 (k := 26) (by decide) (by decide)).symm
        have m15539 := (m15501).trans (MF.r mf15512 (k := 28) (by decide) (by decide)).symm
        have mf15540 : MF K s.heap H15507 a0 [72] := MF.trans mf15469 mf15512 (by decide)
        have bx15509 := ty_fi (x := x15509) (k := 72) ex15509 hTH15507 ga0 rg_112 rfl
        have ce_x15428 := i_cl (x := x15428) (by omega)
        have b15541 : UN (tk.toInt = 0) (fun k => fI H15507 iq k) (fun k => fI s.heap iq k) := UN.tr m15516 b15477
        have b15542 : FB (fun k => fI H15507 iq k) (fun k => fI s.heap iq k) (8908) := FB.wr b15478 m15515 (fun j hj => by omega)
        have b15543 : EQ (fun k => fI H15507 q24 k) (fun k => fI H15507 iq k) (8908) (1) (6) := EQ.wr (EQ.congr (w1 := fun k => fI H15468 iq k) (fun j => fI_kept (x_lt hTH15468 kH15507 gq24 (by decide))) (fun _ => rfl) b15479) m15515 (fun j hj => by omega)
        have b15544 : EQ (fun k => fI H15507 q27 k) (fun k => fI H15507 iq k) (8916) (7) (x15193.toNatClampNeg + 1) := EQ.wr (EQ.congr (w1 := fun k => fI H15468 iq k) (fun j => fI_kept (x_lt hTH15468 kH15507 gq27 (by decide))) (fun _ => rfl) b15480) m15515 (fun j hj => by omega)
        have b15545 : EQ (fun k => fI H15507 q29 k) (fun k => fI H15507 iq k) (8918) (7) (x15193.toNatClampNeg) := EQ.wr (EQ.congr (w1 := fun k => fI H15468 iq k) (fun j => fI_kept (x_lt hTH15468 kH15507 gq29 (by decide))) (fun _ => rfl) b15481) m15515 (fun j hj => by omega)
        have b15546 : EQ (fun k => fI H15507 q30 k) (fun k => fI H15507 iq k) (8919) (7) (x15193.toNatClampNeg) := EQ.wr (EQ.congr (w1 := fun k => fI H15468 iq k) (fun j => fI_kept (x_lt hTH15468 kH15507 gq30 (by decide))) (fun _ => rfl) b15482) m15515 (fun j hj => by omega)
        have b15547 : EQ (fun k => fI H15507 q31 k) (fun k => fI H15507 iq k) (8920) (7) (x15193.toNatClampNeg) := EQ.wr (EQ.congr (w1 := fun k => fI H15468 iq k) (fun j => fI_kept (x_lt hTH15468 kH15507 gq31 (by decide))) (fun _ => rfl) b15483) m15515 (fun j hj => by omega)
        have b15548 : EQ (fun k => fI H15507 q32 k) (fun k => fI H15507 iq k) (9586) (2) (0) := EQ.wr (EQ.congr (w1 := fun k => fI H15468 iq k) (fun j => fI_kept (x_lt hTH15468 kH15507 gq32 (by decide))) (fun _ => rfl) b15484) m15515 (fun j hj => by omega)
        have b15549 : EQ (fun k => fI H15507 q33 k) (fun k => fI H15507 iq k) (9587) (2) (0) := EQ.wr (EQ.congr (w1 := fun k => fI H15468 iq k) (fun j => fI_kept (x_lt hTH15468 kH15507 gq33 (by decide))) (fun _ => rfl) b15485) m15515 (fun j hj => by omega)
        clear b15471 b15472 b15473 b15474 b15475 b15476 b15477 b15478 b15479 b15480 b15481 b15482 b15483 b15484 b15485 ex15506 m15486 m15487 m15488 m15490 m15491 m15492 m15493 m15494 m15495 m15496 m15497 m15498 m15499 m15500 m15501 m15502 m15503
        clear m15515 m15516
        have bx15508 : 0 ≤ x15508.toInt ∧ x15508.toInt ≤ 500 := kr (fun h0 => by have hiw := (hy0 h0); exact kr0 (w := fun k => fI H15507 iq k) m15513 (p := 8918 + 7 * x15193.toNatClampNeg) (by omega) (b15541 h0) ((hiw.2.2.2.2.1 x15193.toNatClampNeg (by omega)).2.1)) m15514 (by omega)
        refine W.eq (g2 := F0 m 117 ls15191 [.int x15508, .int x15193, .ref q29]) rfl ?_
        refine x_iast C hTH15507 hSH15507 gq29 rg_133 (by omega) (by show _ < ((112 : Nat) : Int); omega) ⟨by have := i_rng x15508; omega, by have := i_rng x15508; omega⟩ (AE_in gq29 (by decide)) dX10_keepsTexts_117 (fun H15550 locsH15550 hTH15550 hSH15550 wH15550 => ?_)
        have mf15551 : MF K s.heap H15550 a0 [72] := MF.arr wH15550 (G_ne ga0 gq29 (by decide)) mf15540
        have g15552 : WD (avw K H15550 a0) := WD.congr (fun k hk j => av_arr hTH15507 ga0 wH15550 gq29 (by decide) (WD_ok 133 (by decide) k hk)) g15511
        have b15553 : UN (tk.toInt ≠ 0) (fun k => fI H15550 q24 k) (fun k => fI s.heap q24 k) := UN.congr (fun j => Wr.neI wH15550 (Or.inl (G_ne gq24 gq29 (by decide)))) b15517
        have b15554 : UN (tk.toInt ≠ 0) (fun k => fI H15550 q29 k) (fun k => fI s.heap q29 k) := UN.st b15518 (i := x15193.toNatClampNeg) (fun hc => (m15514 hc).trans m15527) (Wr.I wH15550) (fun j hj => Wr.neI wH15550 (Or.inr hj))
        have b15555 : UN (tk.toInt ≠ 0) (fun k => fI H15550 q30 k) (fun k => fI s.heap q30 k) := UN.congr (fun j => Wr.neI wH15550 (Or.inl (G_ne gq30 gq29 (by decide)))) b15519
        have b15556 : UN (tk.toInt ≠ 0) (fun k => fI H15550 q31 k) (fun k => fI s.heap q31 k) := UN.congr (fun j => Wr.neI wH15550 (Or.inl (G_ne gq31 gq29 (by decide)))) b15520
        have b15557 : UN (tk.toInt ≠ 0) (fun k => fI H15550 q32 k) (fun k => fI s.heap q32 k) := UN.congr (fun j => Wr.neI wH15550 (Or.inl (G_ne gq32 gq29 (by decide)))) b15521
        have b15558 : UN (tk.toInt ≠ 0) (fun k => fI H15550 q33 k) (fun k => fI s.heap q33 k) := UN.congr (fun j => Wr.neI wH15550 (Or.inl (G_ne gq33 gq29 (by decide)))) b15522
        have b15559 : UN (tk.toInt = 0) (fun k => fI H15550 iq k) (fun k => fI s.heap iq k) := UN.congr (fun j => Wr.neI wH15550 (Or.inl (G_ne giq gq29 (by decide)))) b15541
        have b15560 : FB (fun k => fI H15550 iq k) (fun k => fI s.heap iq k) (8908) := FB.congr (fun j => Wr.neI wH15550 (Or.inl (G_ne giq gq29 (by decide)))) b15542
        have b15561 : EQ (fun k => fI H15550 q24 k) (fun k => fI H15550 iq k) (8908) (1) (6) := EQ.congr (fun j => Wr.neI wH15550 (Or.inl (G_ne gq24 gq29 (by decide)))) (fun j => Wr.neI wH15550 (Or.inl (G_ne giq gq29 (by decide)))) b15543
        have b15562 : EQ (fun k => fI H15550 q27 k) (fun k => fI H15550 iq k) (8916) (7) (x15193.toNatClampNeg + 1) := EQ.congr (fun j => Wr.neI wH15550 (Or.inl (G_ne gq27 gq29 (by decide)))) (fun j => Wr.neI wH15550 (Or.inl (G_ne giq gq29 (by decide)))) b15544
        have b15563 : EQ (fun k => fI H15550 q29 k) (fun k => fI H15550 iq k) (8918) (7) (x15193.toNatClampNeg + 1) := EQ.st b15545 (i := x15193.toNatClampNeg) (t := x15428.toNatClampNeg) (by omega) m15513 (by omega) (Wr.I wH15550) (fun j hj => Wr.neI wH15550 (Or.inr hj)) (fun j => Wr.neI wH15550 (Or.inl (G_ne giq gq29 (by decide))))
        have b15564 : EQ (fun k => fI H15550 q30 k) (fun k => fI H15550 iq k) (8919) (7) (x15193.toNatClampNeg) := EQ.congr (fun j => Wr.neI wH15550 (Or.inl (G_ne gq30 gq29 (by decide)))) (fun j => Wr.neI wH15550 (Or.inl (G_ne giq gq29 (by decide)))) b15546
        have b15565 : EQ (fun k => fI H15550 q31 k) (fun k => fI H15550 iq k) (8920) (7) (x15193.toNatClampNeg) := EQ.congr (fun j => Wr.neI wH15550 (Or.inl (G_ne gq31 gq29 (by decide)))) (fun j => Wr.neI wH15550 (Or.inl (G_ne giq gq29 (by decide)))) b15547
        have b15566 : EQ (fun k => fI H15550 q32 k) (fun k => fI H15550 iq k) (9586) (2) (0) := EQ.congr (fun j => Wr.neI wH15550 (Or.inl (G_ne gq32 gq29 (by decide)))) (fun j => Wr.neI wH15550 (Or.inl (G_ne giq gq29 (by decide)))) b15548
        have b15567 : EQ (fun k => fI H15550 q33 k) (fun k => fI H15550 iq k) (9587) (2) (0) := EQ.congr (fun j => Wr.neI wH15550 (Or.inl (G_ne gq33 gq29 (by decide)))) (fun j => Wr.neI wH15550 (Or.inl (G_ne giq gq29 (by decide)))) b15549
        have m15568 := m15523.trans (Wr.neI wH15550 (Or.inl (G_ne gq15200 gq29 (by decide)))).symm
        have m15569 := m15524.trans (Wr.neI wH15550 (Or.inl (G_ne gq15271 gq29 (by decide)))).symm
        have m15570 := m15525.trans (Wr.neI wH15550 (Or.inl (G_ne gq27 gq29 (by decide)))).symm
        have m15571 := m15526.trans (Wr.neI wH15550 (Or.inl (G_ne gq15423 gq29 (by decide)))).symm
        have m15573 := m15510.trans (Wr.neR wH15550 (Or.inl (G_ne ga0 gq29 (by decide)))).symm
        have m15574 := m15529.trans (Wr.neR wH15550 (Or.inl (G_ne ga0 gq29 (by decide)))).symm
        have m15575 := m15530.trans (Wr.neR wH15550 (Or.inl (G_ne ga0 gq29 (by decide)))).symm
        have m15576 := m15531.trans (Wr.neR wH15550 (Or.inl (G_ne ga0 gq29 (by decide)))).symm
        have m15577 := m15532.trans (Wr.neR wH15550 (Or.inl (G_ne ga0 gq29 (by decide)))).symm
        have m15578 := m15533.trans (Wr.neR wH15550 (Or.inl (G_ne ga0 gq29 (by decide)))).symm
        have m15579 := m15534.trans (Wr.neR wH15550 (Or.inl (G_ne ga0 gq29 (by decide)))).symm
        have m15580 := m15535.trans (Wr.neR wH15550 (Or.inl (G_ne ga0 gq29 (by decide)))).symm
        have m15581 := m15536.trans (Wr.neI wH15550 (Or.inl (G_ne ga0 gq29 (by decide)))).symm
        have m15582 := m15537.trans (Wr.neR wH15550 (Or.inl (G_ne ga0 gq29 (by decide)))).symm
        have m15583 := m15538.trans (Wr.neR wH15550 (Or.inl (G_ne ga0 gq29 (by decide)))).symm
        have m15584 := m15539.trans (Wr.neR wH15550 (Or.inl (G_ne ga0 gq29 (by decide)))).symm
        have m15585 := ex15509.trans (Wr.neI wH15550 (Or.inl (G_ne ga0 gq29 (by decide)))).symm
        have m15586 := Wr.I wH15550
        have m15586 := m15586.symm
        clear b15517 b15518 b15519 b15520 b15521 b15522 b15541 b15542 b15543 b15544 b15545 b15546 b15547 b15548 b15549 ex15509 g15511 hTH15507 m15510 m15523 m15524 m15525 m15526 m15527 m15529 m15530 m15531 m15532 m15533 m15534 m15535 m15536 m15537 m15538 m15539 mf15540
        refine lv_aload_n hx hb dX10_keepsTexts_118 rfl (lv_at hl15192 0 rfl) ?_
        refine x_gr C hTH15550 (ci := 10) (k := 30) rfl inX10 (by decide) wF_X10_77 ga0 rg_112 rfl dX10_keepsTexts_119 (fun q15587 eq15587 gq15587 => ?_)
        have uq15587 : q30 = q15587 := (m15577).trans eq15587.symm
        subst uq15587
        clear eq15587
        refine lv_iload_n hx hb dX10_keepsTexts_122 rfl (lv_at hl15192 1 rfl) ?_
        refine lv_aload_n hx hb dX10_keepsTexts_123 rfl (lv_at hl15192 0 rfl) ?_
        refine lv_aload_n hx hb dX10_keepsTexts_124 rfl (lv_at hl15192 0 rfl) ?_
        refine x_gr C hTH15550 (ci := 10) (k := 30) rfl inX10 (by decide) wF_X10_77 ga0 rg_112 rfl dX10_keepsTexts_125 (fun q15588 eq15588 gq15588 => ?_)
        have uq15588 : q30 = q15588 := (m15577).trans eq15588.symm
        subst uq15588
        clear eq15588
        refine lv_iload_n hx hb dX10_keepsTexts_128 rfl (lv_at hl15192 1 rfl) ?_
        refine x_ai C hTH15550 gq30 rg_134 ⟨by omega, by show _ < ((112 : Nat) : Int); omega⟩ dX10_keepsTexts_129 (fun x15589 ex15589 bx15589 => ?_)
        refine x_V (As := [.int x15589]) (rest := [.int x15193, .ref q30]) C (a_X10_kept l K G H15550 (x15589) (x15509) (tk) hTH15550 ga0 giq m15573 m15585 m15581 g15552 (by and_intros <;> first | assumption | omega)) yo_X10_kept wM_X10_473 ⟨⟨by decide, by decide⟩, by decide, by decide⟩ (x_rv C hTH15550 (ci := 10) rfl ga0 rg_112) rfl hl15192.1 rfl (Nat.le_of_ble_eq_true rfl) dX10_keepsTexts_130 hSH15550 (AE_sub (fun _ _ => rfl) (by decide) hSH15550.1) (fun vH15590 H15590 locsH15590 pH15590 zH15590 kH15590 hSH15590 => ?_)
        obtain ⟨x15591, x15592, hvH15590, ex15592, hrH15590, m15593, g15594, mf15595, m15596, m15597, m15598, m15599, hTH15590⟩ := pH15590
        subst hvH15590
        clear zH15590
        replace m15593 := EQN.mk m15593
        have b15600 : UN (tk.toInt ≠ 0) (fun k => fI H15590 q24 k) (fun k => fI s.heap q24 k) := UN.congr (fun j => fI_kept (x_lt hTH15550 kH15590 gq24 (by decide))) b15553
        have b15601 : UN (tk.toInt ≠ 0) (fun k => fI H15590 q29 k) (fun k => fI s.heap q29 k) := UN.congr (fun j => fI_kept (x_lt hTH15550 kH15590 gq29 (by decide))) b15554
        have b15602 : UN (tk.toInt ≠ 0) (fun k => fI H15590 q30 k) (fun k => fI s.heap q30 k) := UN.congr (fun j => fI_kept (x_lt hTH15550 kH15590 gq30 (by decide))) b15555
        have b15603 : UN (tk.toInt ≠ 0) (fun k => fI H15590 q31 k) (fun k => fI s.heap q31 k) := UN.congr (fun j => fI_kept (x_lt hTH15550 kH15590 gq31 (by decide))) b15556
        have b15604 : UN (tk.toInt ≠ 0) (fun k => fI H15590 q32 k) (fun k => fI s.heap q32 k) := UN.congr (fun j => fI_kept (x_lt hTH15550 kH15590 gq32 (by decide))) b15557
        have b15605 : UN (tk.toInt ≠ 0) (fun k => fI H15590 q33 k) (fun k => fI s.heap q33 k) := UN.congr (fun j => fI_kept (x_lt hTH15550 kH15590 gq33 (by decide))) b15558
        have m15606 := (m15568).trans (fI_kept (x_lt hTH15550 kH15590 gq15200 (by decide))).symm
        have m15607 := (m15569).trans (fI_kept (x_lt hTH15550 kH15590 gq15271 (by decide))).symm
        have m15608 := (m15570).trans (fI_kept (x_lt hTH15550 kH15590 gq27 (by decide))).symm
        have m15609 := (m15571).trans (fI_kept (x_lt hTH15550 kH15590 gq15423 (by decide))).symm
        have m15610 := (m15586).trans (fI_kept (x_lt hTH15550 kH15590 gq29 (by decide))).symm
        have m15611 := (ex15589).trans (fI_kept (x_lt hTH15550 kH15590 gq30 (by decide))).symm
        have m15612 := (m15573).trans (MF.r mf15595 (k := 73) (by decide) (by decide)).symm
        have m15613 := (m15574).trans (MF.r mf15595 (k := 24) (by decide) (by decide)).symm
        have m15614 := (m15575).trans (MF.r mf15595 (k := 27) (by decide) (by decide)).symm
        have m15615 := (m15576).trans (MF.r mf15595 (k := 29) (by decide) (by decide)).symm
        have m15616 := (m15577).trans (MF.r mf15595 (k := 30) (by decide) (by decide)).symm
        have m15617 := (m15578).trans (MF.r mf15595 (k := 31) (by decide) (by decide)).symm
        have m15618 := (m15579).trans (MF.r mf15595 (k := 32) (by decide) (by decide)).symm
        have m15619 := (m15580).trans (MF.r mf15595 (k := 33) (by decide) (by decide)).symm
        have m15620 := (m15581).trans (MF.i mf15595 (k := 71) (by decide) (by decide)).symm
        have m15621 := (m15582).trans (MF.r mf15595 (k := 25) (by decide) (by decide)).symm
        have m15622 := (m15583).trans (MF.r mf15595 (k := 26) (by decide) (by decide)).symm
        have m15623 := (m15584).trans (MF.r mf15595 (k := 28) (by decide) (by decide)).symm
        have mf15624 : MF K s.heap H15590 a0 [72] := MF.trans mf15551 mf15595 (by decide)
        have bx15592 := ty_fi (x := x15592) (k := 72) ex15592 hTH15590 ga0 rg_112 rfl
        have ce_x15509 := i_cl (x := x15509) (by omega)
        have b15625 : UN (tk.toInt = 0) (fun k => fI H15590 iq k) (fun k => fI s.heap iq k) := UN.tr m15599 b15559
        have b15626 : FB (fun k => fI H15590 iq k) (fun k => fI s.heap iq k) (8908) := FB.wr b15560 m15598 (fun j hj => by omega)
        have b15627 : EQ (fun k => fI H15590 q24 k) (fun k => fI H15590 iq k) (8908) (1) (6) := EQ.wr (EQ.congr (w1 := fun k => fI H15550 iq k) (fun j => fI_kept (x_lt hTH15550 kH15590 gq24 (by decide))) (fun _ => rfl) b15561) m15598 (fun j hj => by omega)
        have b15628 : EQ (fun k => fI H15590 q27 k) (fun k => fI H15590 iq k) (8916) (7) (x15193.toNatClampNeg + 1) := EQ.wr (EQ.congr (w1 := fun k => fI H15550 iq k) (fun j => fI_kept (x_lt hTH15550 kH15590 gq27 (by decide))) (fun _ => rfl) b15562) m15598 (fun j hj => by omega)
        have b15629 : EQ (fun k => fI H15590 q29 k) (fun k => fI H15590 iq k) (8918) (7) (x15193.toNatClampNeg + 1) := EQ.wr (EQ.congr (w1 := fun k => fI H15550 iq k) (fun j => fI_kept (x_lt hTH15550 kH15590 gq29 (by decide))) (fun _ => rfl) b15563) m15598 (fun j hj => by omega)
        have b15630 : EQ (fun k => fI H15590 q30 k) (fun k => fI H15590 iq k) (8919) (7) (x15193.toNatClampNeg) := EQ.wr (EQ.congr (w1 := fun k => fI H15550 iq k) (fun j => fI_kept (x_lt hTH15550 kH15590 gq30 (by decide))) (fun _ => rfl) b15564) m15598 (fun j hj => by omega)
        have b15631 : EQ (fun k => fI H15590 q31 k) (fun k => fI H15590 iq k) (8920) (7) (x15193.toNatClampNeg) := EQ.wr (EQ.congr (w1 := fun k => fI H15550 iq k) (fun j => fI_kept (x_lt hTH15550 kH15590 gq31 (by decide))) (fun _ => rfl) b15565) m15598 (fun j hj => by omega)
        have b15632 : EQ (fun k => fI H15590 q32 k) (fun k => fI H15590 iq k) (9586) (2) (0) := EQ.wr (EQ.congr (w1 := fun k => fI H15550 iq k) (fun j => fI_kept (x_lt hTH15550 kH15590 gq32 (by decide))) (fun _ => rfl) b15566) m15598 (fun j hj => by omega)
        have b15633 : EQ (fun k => fI H15590 q33 k) (fun k => fI H15590 iq k) (9587) (2) (0) := EQ.wr (EQ.congr (w1 := fun k => fI H15550 iq k) (fun j => fI_kept (x_lt hTH15550 kH15590 gq33 (by decide))) (fun _ => rfl) b15567) m15598 (fun j hj => by omega)
        clear b15553 b15554 b15555 b15556 b15557 b15558 b15559 b15560 b15561 b15562 b15563 b15564 b15565 b15566 b15567 ex15589 m15568 m15569 m15570 m15571 m15573 m15574 m15575 m15576 m15577 m15578 m15579 m15580 m15581 m15582 m15583 m15584 m15585 m15586
        clear m15598 m15599
        have bx15591 : 0 ≤ x15591.toInt ∧ x15591.toInt ≤ 500 := kr (fun h0 => by have hiw := (hy0 h0); exact kr0 (w := fun k => fI H15590 iq k) m15596 (p := 8919 + 7 * x15193.toNatClampNeg) (by omega) (b15625 h0) ((hiw.2.2.2.2.1 x15193.toNatClampNeg (by omega)).2.2.1)) m15597 (by omega)
        refine W.eq (g2 := F0 m 133 ls15191 [.int x15591, .int x15193, .ref q30]) rfl ?_
        refine x_iast C hTH15590 hSH15590 gq30 rg_134 (by omega) (by show _ < ((112 : Nat) : Int); omega) ⟨by have := i_rng x15591; omega, by have := i_rng x15591; omega⟩ (AE_in gq30 (by decide)) dX10_keepsTexts_133 (fun H15634 locsH15634 hTH15634 hSH15634 wH15634 => ?_)
        have mf15635 : MF K s.heap H15634 a0 [72] := MF.arr wH15634 (G_ne ga0 gq30 (by decide)) mf15624
        have g15636 : WD (avw K H15634 a0) := WD.congr (fun k hk j => av_arr hTH15590 ga0 wH15634 gq30 (by decide) (WD_ok 134 (by decide) k hk)) g15594
        have b15637 : UN (tk.toInt ≠ 0) (fun k => fI H15634 q24 k) (fun k => fI s.heap q24 k) := UN.congr (fun j => Wr.neI wH15634 (Or.inl (G_ne gq24 gq30 (by decide)))) b15600
        have b15638 : UN (tk.toInt ≠ 0) (fun k => fI H15634 q29 k) (fun k => fI s.heap q29 k) := UN.congr (fun j => Wr.neI wH15634 (Or.inl (G_ne gq29 gq30 (by decide)))) b15601
        have b15639 : UN (tk.toInt ≠ 0) (fun k => fI H15634 q30 k) (fun k => fI s.heap q30 k) := UN.st b15602 (i := x15193.toNatClampNeg) (fun hc => (m15597 hc).trans m15611) (Wr.I wH15634) (fun j hj => Wr.neI wH15634 (Or.inr hj))
        have b15640 : UN (tk.toInt ≠ 0) (fun k => fI H15634 q31 k) (fun k => fI s.heap q31 k) := UN.congr (fun j => Wr.neI wH15634 (Or.inl (G_ne gq31 gq30 (by decide)))) b15603
        have b15641 : UN (tk.toInt ≠ 0) (fun k => fI H15634 q32 k) (fun k => fI s.heap q32 k) := UN.congr (fun j => Wr.neI wH15634 (Or.inl (G_ne gq32 gq30 (by decide)))) b15604
        have b15642 : UN (tk.toInt ≠ 0) (fun k => fI H15634 q33 k) (fun k => fI s.heap q33 k) := UN.congr (fun j => Wr.neI wH15634 (Or.inl (G_ne gq33 gq30 (by decide)))) b15605
        have b15643 : UN (tk.toInt = 0) (fun k => fI H15634 iq k) (fun k => fI s.heap iq k) := UN.congr (fun j => Wr.neI wH15634 (Or.inl (G_ne giq gq30 (by decide)))) b15625
        have b15644 : FB (fun k => fI H15634 iq k) (fun k => fI s.heap iq k) (8908) := FB.congr (fun j => Wr.neI wH15634 (Or.inl (G_ne giq gq30 (by decide)))) b15626
        have b15645 : EQ (fun k => fI H15634 q24 k) (fun k => fI H15634 iq k) (8908) (1) (6) := EQ.congr (fun j => Wr.neI wH15634 (Or.inl (G_ne gq24 gq30 (by decide)))) (fun j => Wr.neI wH15634 (Or.inl (G_ne giq gq30 (by decide)))) b15627
        have b15646 : EQ (fun k => fI H15634 q27 k) (fun k => fI H15634 iq k) (8916) (7) (x15193.toNatClampNeg + 1) := EQ.congr (fun j => Wr.neI wH15634 (Or.inl (G_ne gq27 gq30 (by decide)))) (fun j => Wr.neI wH15634 (Or.inl (G_ne giq gq30 (by decide)))) b15628
        have b15647 : EQ (fun k => fI H15634 q29 k) (fun k => fI H15634 iq k) (8918) (7) (x15193.toNatClampNeg + 1) := EQ.congr (fun j => Wr.neI wH15634 (Or.inl (G_ne gq29 gq30 (by decide)))) (fun j => Wr.neI wH15634 (Or.inl (G_ne giq gq30 (by decide)))) b15629
        have b15648 : EQ (fun k => fI H15634 q30 k) (fun k => fI H15634 iq k) (8919) (7) (x15193.toNatClampNeg + 1) := EQ.st b15630 (i := x15193.toNatClampNeg) (t := x15509.toNatClampNeg) (by omega) m15596 (by omega) (Wr.I wH15634) (fun j hj => Wr.neI wH15634 (Or.inr hj)) (fun j => Wr.neI wH15634 (Or.inl (G_ne giq gq30 (by decide))))
        have b15649 : EQ (fun k => fI H15634 q31 k) (fun k => fI H15634 iq k) (8920) (7) (x15193.toNatClampNeg) := EQ.congr (fun j => Wr.neI wH15634 (Or.inl (G_ne gq31 gq30 (by decide)))) (fun j => Wr.neI wH15634 (Or.inl (G_ne giq gq30 (by decide)))) b15631
        have b15650 : EQ (fun k => fI H15634 q32 k) (fun k => fI H15634 iq k) (9586) (2) (0) := EQ.congr (fun j => Wr.neI wH15634 (Or.inl (G_ne gq32 gq30 (by decide)))) (fun j => Wr.neI wH15634 (Or.inl (G_ne giq gq30 (by decide)))) b15632
        have b15651 : EQ (fun k => fI H15634 q33 k) (fun k => fI H15634 iq k) (9587) (2) (0) := EQ.congr (fun j => Wr.neI wH15634 (Or.inl (G_ne gq33 gq30 (by decide)))) (fun j => Wr.neI wH15634 (Or.inl (G_ne giq gq30 (by decide)))) b15633
        have m15652 := m15606.trans (Wr.neI wH15634 (Or.inl (G_ne gq15200 gq30 (by decide)))).symm
        have m15653 := m15607.trans (Wr.neI wH15634 (Or.inl (G_ne gq15271 gq30 (by decide)))).symm
        have m15654 := m15608.trans (Wr.neI wH15634 (Or.inl (G_ne gq27 gq30 (by decide)))).symm
        have m15655 := m15609.trans (Wr.neI wH15634 (Or.inl (G_ne gq15423 gq30 (by decide)))).symm
        have m15656 := m15610.trans (Wr.neI wH15634 (Or.inl (G_ne gq29 gq30 (by decide)))).symm
        have m15658 := m15593.trans (Wr.neR wH15634 (Or.inl (G_ne ga0 gq30 (by decide)))).symm
        have m15659 := m15613.trans (Wr.neR wH15634 (Or.inl (G_ne ga0 gq30 (by decide)))).symm
        have m15660 := m15614.trans (Wr.neR wH15634 (Or.inl (G_ne ga0 gq30 (by decide)))).symm
        have m15661 := m15615.trans (Wr.neR wH15634 (Or.inl (G_ne ga0 gq30 (by decide)))).symm
        have m15662 := m15616.trans (Wr.neR wH15634 (Or.inl (G_ne ga0 gq30 (by decide)))).symm
        have m15663 := m15617.trans (Wr.neR wH15634 (Or.inl (G_ne ga0 gq30 (by decide)))).symm
        have m15664 := m15618.trans (Wr.neR wH15634 (Or.inl (G_ne ga0 gq30 (by decide)))).symm
        have m15665 := m15619.trans (Wr.neR wH15634 (Or.inl (G_ne ga0 gq30 (by decide)))).symm
        have m15666 := m15620.trans (Wr.neI wH15634 (Or.inl (G_ne ga0 gq30 (by decide)))).symm
        have m15667 := m15621.trans (Wr.neR wH15634 (Or.inl (G_ne ga0 gq30 (by decide)))).symm
        have m15668 := m15622.trans (Wr.neR wH15634 (Or.inl (G_ne ga0 gq30 (by decide)))).symm
        have m15669 := m15623.trans (Wr.neR wH15634 (Or.inl (G_ne ga0 gq30 (by decide)))).symm
        have m15670 := ex15592.trans (Wr.neI wH15634 (Or.inl (G_ne ga0 gq30 (by decide)))).symm
        have m15671 := Wr.I wH15634
        have m15671 := m15671.symm
        clear b15600 b15601 b15602 b15603 b15604 b15605 b15625 b15626 b15627 b15628 b15629 b15630 b15631 b15632 b15633 ex15592 g15594 hTH15590 m15593 m15606 m15607 m15608 m15609 m15610 m15611 m15613 m15614 m15615 m15616 m15617 m15618 m15619 m15620 m15621 m15622 m15623 mf15624
        refine lv_aload_n hx hb dX10_keepsTexts_134 rfl (lv_at hl15192 0 rfl) ?_
        refine x_gr C hTH15634 (ci := 10) (k := 31) rfl inX10 (by decide) wF_X10_80 ga0 rg_112 rfl dX10_keepsTexts_135 (fun q15672 eq15672 gq15672 => ?_)
        have uq15672 : q31 = q15672 := (m15663).trans eq15672.symm
        subst uq15672
        clear eq15672
        refine lv_iload_n hx hb dX10_keepsTexts_138 rfl (lv_at hl15192 1 rfl) ?_
        refine lv_aload_n hx hb dX10_keepsTexts_139 rfl (lv_at hl15192 0 rfl) ?_
        refine lv_aload_n hx hb dX10_keepsTexts_140 rfl (lv_at hl15192 0 rfl) ?_
        refine x_gr C hTH15634 (ci := 10) (k := 31) rfl inX10 (by decide) wF_X10_80 ga0 rg_112 rfl dX10_keepsTexts_141 (fun q15673 eq15673 gq15673 => ?_)
        have uq15673 : q31 = q15673 := (m15663).trans eq15673.symm
        subst uq15673
        clear eq15673
        refine lv_iload_n hx hb dX10_keepsTexts_144 rfl (lv_at hl15192 1 rfl) ?_
        refine x_ai C hTH15634 gq31 rg_135 ⟨by omega, by show _ < ((112 : Nat) : Int); omega⟩ dX10_keepsTexts_145 (fun x15674 ex15674 bx15674 => ?_)
        refine x_V (As := [.int x15674]) (rest := [.int x15193, .ref q31]) C (a_X10_kept l K G H15634 (x15674) (x15592) (tk) hTH15634 ga0 giq m15658 m15670 m15666 g15636 (by and_intros <;> first | assumption | omega)) yo_X10_kept wM_X10_473 ⟨⟨by decide, by decide⟩, by decide, by decide⟩ (x_rv C hTH15634 (ci := 10) rfl ga0 rg_112) rfl hl15192.1 rfl (Nat.le_of_ble_eq_true rfl) dX10_keepsTexts_146 hSH15634 (AE_sub (fun _ _ => rfl) (by decide) hSH15634.1) (fun vH15675 H15675 locsH15675 pH15675 zH15675 kH15675 hSH15675 => ?_)
        obtain ⟨x15676, x15677, hvH15675, ex15677, hrH15675, m15678, g15679, mf15680, m15681, m15682, m15683, m15684, hTH15675⟩ := pH15675
        subst hvH15675
        clear zH15675
        replace m15678 := EQN.mk m15678
        have b15685 : UN (tk.toInt ≠ 0) (fun k => fI H15675 q24 k) (fun k => fI s.heap q24 k) := UN.congr (fun j => fI_kept (x_lt hTH15634 kH15675 gq24 (by decide))) b15637
        have b15686 : UN (tk.toInt ≠ 0) (fun k => fI H15675 q29 k) (fun k => fI s.heap q29 k) := UN.congr (fun j => fI_kept (x_lt hTH15634 kH15675 gq29 (by decide))) b15638
        have b15687 : UN (tk.toInt ≠ 0) (fun k => fI H15675 q30 k) (fun k => fI s.heap q30 k) := UN.congr (fun j => fI_kept (x_lt hTH15634 kH15675 gq30 (by decide))) b15639
        have b15688 : UN (tk.toInt ≠ 0) (fun k => fI H15675 q31 k) (fun k => fI s.heap q31 k) := UN.congr (fun j => fI_kept (x_lt hTH15634 kH15675 gq31 (by decide))) b15640
        have b15689 : UN (tk.toInt ≠ 0) (fun k => fI H15675 q32 k) (fun k => fI s.heap q32 k) := UN.congr (fun j => fI_kept (x_lt hTH15634 kH15675 gq32 (by decide))) b15641
        have b15690 : UN (tk.toInt ≠ 0) (fun k => fI H15675 q33 k) (fun k => fI s.heap q33 k) := UN.congr (fun j => fI_kept (x_lt hTH15634 kH15675 gq33 (by decide))) b15642
        have m15691 := (m15652).trans (fI_kept (x_lt hTH15634 kH15675 gq15200 (by decide))).symm
        have m15692 := (m15653).trans (fI_kept (x_lt hTH15634 kH15675 gq15271 (by decide))).symm
        have m15693 := (m15654).trans (fI_kept (x_lt hTH15634 kH15675 gq27 (by decide))).symm
        have m15694 := (m15655).trans (fI_kept (x_lt hTH15634 kH15675 gq15423 (by decide))).symm
        have m15695 := (m15656).trans (fI_kept (x_lt hTH15634 kH15675 gq29 (by decide))).symm
        have m15696 := (m15671).trans (fI_kept (x_lt hTH15634 kH15675 gq30 (by decide))).symm
        have m15697 := (ex15674).trans (fI_kept (x_lt hTH15634 kH15675 gq31 (by decide))).symm
        have m15698 := (m15658).trans (MF.r mf15680 (k := 73) (by decide) (by decide)).symm
        have m15699 := (m15659).trans (MF.r mf15680 (k := 24) (by decide) (by decide)).symm
        have m15700 := (m15660).trans (MF.r mf15680 (k := 27) (by decide) (by decide)).symm
        have m15701 := (m15661).trans (MF.r mf15680 (k := 29) (by decide) (by decide)).symm
        have m15702 := (m15662).trans (MF.r mf15680 (k := 30) (by decide) (by decide)).symm
        have m15703 := (m15663).trans (MF.r mf15680 (k := 31) (by decide) (by decide)).symm
        have m15704 := (m15664).trans (MF.r mf15680 (k := 32) (by decide) (by decide)).symm
        have m15705 := (m15665).trans (MF.r mf15680 (k := 33) (by decide) (by decide)).symm
        have m15706 := (m15666).trans (MF.i mf15680 (k := 71) (by decide) (by decide)).symm
        have m15707 := (m15667).trans (MF.r mf15680 (k := 25) (by decide) (by decide)).symm
        have m15708 := (m15668).trans (MF.r mf15680 (k := 26) (by decide) (by decide)).symm
        have m15709 := (m15669).trans (MF.r mf15680 (k := 28) (by decide) (by decide)).symm
        have mf15710 : MF K s.heap H15675 a0 [72] := MF.trans mf15635 mf15680 (by decide)
        have bx15677 := ty_fi (x := x15677) (k := 72) ex15677 hTH15675 ga0 rg_112 rfl
        have ce_x15592 := i_cl (x := x15592) (by omega)
        have b15711 : UN (tk.toInt = 0) (fun k => fI H15675 iq k) (fun k => fI s.heap iq k) := UN.tr m15684 b15643
        have b15712 : FB (fun k => fI H15675 iq k) (fun k => fI s.heap iq k) (8908) := FB.wr b15644 m15683 (fun j hj => by omega)
        have b15713 : EQ (fun k => fI H15675 q24 k) (fun k => fI H15675 iq k) (8908) (1) (6) := EQ.wr (EQ.congr (w1 := fun k => fI H15634 iq k) (fun j => fI_kept (x_lt hTH15634 kH15675 gq24 (by decide))) (fun _ => rfl) b15645) m15683 (fun j hj => by omega)
        have b15714 : EQ (fun k => fI H15675 q27 k) (fun k => fI H15675 iq k) (8916) (7) (x15193.toNatClampNeg + 1) := EQ.wr (EQ.congr (w1 := fun k => fI H15634 iq k) (fun j => fI_kept (x_lt hTH15634 kH15675 gq27 (by decide))) (fun _ => rfl) b15646) m15683 (fun j hj => by omega)
        have b15715 : EQ (fun k => fI H15675 q29 k) (fun k => fI H15675 iq k) (8918) (7) (x15193.toNatClampNeg + 1) := EQ.wr (EQ.congr (w1 := fun k => fI H15634 iq k) (fun j => fI_kept (x_lt hTH15634 kH15675 gq29 (by decide))) (fun _ => rfl) b15647) m15683 (fun j hj => by omega)
        have b15716 : EQ (fun k => fI H15675 q30 k) (fun k => fI H15675 iq k) (8919) (7) (x15193.toNatClampNeg + 1) := EQ.wr (EQ.congr (w1 := fun k => fI H15634 iq k) (fun j => fI_kept (x_lt hTH15634 kH15675 gq30 (by decide))) (fun _ => rfl) b15648) m15683 (fun j hj => by omega)
        have b15717 : EQ (fun k => fI H15675 q31 k) (fun k => fI H15675 iq k) (8920) (7) (x15193.toNatClampNeg) := EQ.wr (EQ.congr (w1 := fun k => fI H15634 iq k) (fun j => fI_kept (x_lt hTH15634 kH15675 gq31 (by decide))) (fun _ => rfl) b15649) m15683 (fun j hj => by omega)
        have b15718 : EQ (fun k => fI H15675 q32 k) (fun k => fI H15675 iq k) (9586) (2) (0) := EQ.wr (EQ.congr (w1 := fun k => fI H15634 iq k) (fun j => fI_kept (x_lt hTH15634 kH15675 gq32 (by decide))) (fun _ => rfl) b15650) m15683 (fun j hj => by omega)
        have b15719 : EQ (fun k => fI H15675 q33 k) (fun k => fI H15675 iq k) (9587) (2) (0) := EQ.wr (EQ.congr (w1 := fun k => fI H15634 iq k) (fun j => fI_kept (x_lt hTH15634 kH15675 gq33 (by decide))) (fun _ => rfl) b15651) m15683 (fun j hj => by omega)
        clear b15637 b15638 b15639 b15640 b15641 b15642 b15643 b15644 b15645 b15646 b15647 b15648 b15649 b15650 b15651 ex15674 m15652 m15653 m15654 m15655 m15656 m15658 m15659 m15660 m15661 m15662 m15663 m15664 m15665 m15666 m15667 m15668 m15669 m15670 m15671
        clear m15683 m15684
        have bx15676 : 0 ≤ x15676.toInt ∧ x15676.toInt ≤ 500 := kr (fun h0 => by have hiw := (hy0 h0); exact kr0 (w := fun k => fI H15675 iq k) m15681 (p := 8920 + 7 * x15193.toNatClampNeg) (by omega) (b15711 h0) ((hiw.2.2.2.2.1 x15193.toNatClampNeg (by omega)).2.2.2)) m15682 (by omega)
        refine W.eq (g2 := F0 m 149 ls15191 [.int x15676, .int x15193, .ref q31]) rfl ?_
        refine x_iast C hTH15675 hSH15675 gq31 rg_135 (by omega) (by show _ < ((112 : Nat) : Int); omega) ⟨by have := i_rng x15676; omega, by have := i_rng x15676; omega⟩ (AE_in gq31 (by decide)) dX10_keepsTexts_149 (fun H15720 locsH15720 hTH15720 hSH15720 wH15720 => ?_)
        have mf15721 : MF K s.heap H15720 a0 [72] := MF.arr wH15720 (G_ne ga0 gq31 (by decide)) mf15710
        have g15722 : WD (avw K H15720 a0) := WD.congr (fun k hk j => av_arr hTH15675 ga0 wH15720 gq31 (by decide) (WD_ok 135 (by decide) k hk)) g15679
        have b15723 : UN (tk.toInt ≠ 0) (fun k => fI H15720 q24 k) (fun k => fI s.heap q24 k) := UN.congr (fun j => Wr.neI wH15720 (Or.inl (G_ne gq24 gq31 (by decide)))) b15685
        have b15724 : UN (tk.toInt ≠ 0) (fun k => fI H15720 q29 k) (fun k => fI s.heap q29 k) := UN.congr (fun j => Wr.neI wH15720 (Or.inl (G_ne gq29 gq31 (by decide)))) b15686
        have b15725 : UN (tk.toInt ≠ 0) (fun k => fI H15720 q30 k) (fun k => fI s.heap q30 k) := UN.congr (fun j => Wr.neI wH15720 (Or.inl (G_ne gq30 gq31 (by decide)))) b15687
        have b15726 : UN (tk.toInt ≠ 0) (fun k => fI H15720 q31 k) (fun k => fI s.heap q31 k) := UN.st b15688 (i := x15193.toNatClampNeg) (fun hc => (m15682 hc).trans m15697) (Wr.I wH15720) (fun j hj => Wr.neI wH15720 (Or.inr hj))
        have b15727 : UN (tk.toInt ≠ 0) (fun k => fI H15720 q32 k) (fun k => fI s.heap q32 k) := UN.congr (fun j => Wr.neI wH15720 (Or.inl (G_ne gq32 gq31 (by decide)))) b15689
        have b15728 : UN (tk.toInt ≠ 0) (fun k => fI H15720 q33 k) (fun k => fI s.heap q33 k) := UN.congr (fun j => Wr.neI wH15720 (Or.inl (G_ne gq33 gq31 (by decide)))) b15690
        have b15729 : UN (tk.toInt = 0) (fun k => fI H15720 iq k) (fun k => fI s.heap iq k) := UN.congr (fun j => Wr.neI wH15720 (Or.inl (G_ne giq gq31 (by decide)))) b15711
        have b15730 : FB (fun k => fI H15720 iq k) (fun k => fI s.heap iq k) (8908) := FB.congr (fun j => Wr.neI wH15720 (Or.inl (G_ne giq gq31 (by decide)))) b15712
        have b15731 : EQ (fun k => fI H15720 q24 k) (fun k => fI H15720 iq k) (8908) (1) (6) := EQ.congr (fun j => Wr.neI wH15720 (Or.inl (G_ne gq24 gq31 (by decide)))) (fun j => Wr.neI wH15720 (Or.inl (G_ne giq gq31 (by decide)))) b15713
        have b15732 : EQ (fun k => fI H15720 q27 k) (fun k => fI H15720 iq k) (8916) (7) (x15193.toNatClampNeg + 1) := EQ.congr (fun j => Wr.neI wH15720 (Or.inl (G_ne gq27 gq31 (by decide)))) (fun j => Wr.neI wH15720 (Or.inl (G_ne giq gq31 (by decide)))) b15714
        have b15733 : EQ (fun k => fI H15720 q29 k) (fun k => fI H15720 iq k) (8918) (7) (x15193.toNatClampNeg + 1) := EQ.congr (fun j => Wr.neI wH15720 (Or.inl (G_ne gq29 gq31 (by decide)))) (fun j => Wr.neI wH15720 (Or.inl (G_ne giq gq31 (by decide)))) b15715
        have b15734 : EQ (fun k => fI H15720 q30 k) (fun k => fI H15720 iq k) (8919) (7) (x15193.toNatClampNeg + 1) := EQ.congr (fun j => Wr.neI wH15720 (Or.inl (G_ne gq30 gq31 (by decide)))) (fun j => Wr.neI wH15720 (Or.inl (G_ne giq gq31 (by decide)))) b15716
        have b15735 : EQ (fun k => fI H15720 q31 k) (fun k => fI H15720 iq k) (8920) (7) (x15193.toNatClampNeg + 1) := EQ.st b15717 (i := x15193.toNatClampNeg) (t := x15592.toNatClampNeg) (by omega) m15681 (by omega) (Wr.I wH15720) (fun j hj => Wr.neI wH15720 (Or.inr hj)) (fun j => Wr.neI wH15720 (Or.inl (G_ne giq gq31 (by decide))))
        have b15736 : EQ (fun k => fI H15720 q32 k) (fun k => fI H15720 iq k) (9586) (2) (0) := EQ.congr (fun j => Wr.neI wH15720 (Or.inl (G_ne gq32 gq31 (by decide)))) (fun j => Wr.neI wH15720 (Or.inl (G_ne giq gq31 (by decide)))) b15718
        have b15737 : EQ (fun k => fI H15720 q33 k) (fun k => fI H15720 iq k) (9587) (2) (0) := EQ.congr (fun j => Wr.neI wH15720 (Or.inl (G_ne gq33 gq31 (by decide)))) (fun j => Wr.neI wH15720 (Or.inl (G_ne giq gq31 (by decide)))) b15719
        have m15738 := m15691.trans (Wr.neI wH15720 (Or.inl (G_ne gq15200 gq31 (by decide)))).symm
        have m15739 := m15692.trans (Wr.neI wH15720 (Or.inl (G_ne gq15271 gq31 (by decide)))).symm
        have m15740 := m15693.trans (Wr.neI wH15720 (Or.inl (G_ne gq27 gq31 (by decide)))).symm
        have m15741 := m15694.trans (Wr.neI wH15720 (Or.inl (G_ne gq15423 gq31 (by decide)))).symm
        have m15742 := m15695.trans (Wr.neI wH15720 (Or.inl (G_ne gq29 gq31 (by decide)))).symm
        have m15743 := m15696.trans (Wr.neI wH15720 (Or.inl (G_ne gq30 gq31 (by decide)))).symm
        have m15745 := m15678.trans (Wr.neR wH15720 (Or.inl (G_ne ga0 gq31 (by decide)))).symm
        have m15746 := m15699.trans (Wr.neR wH15720 (Or.inl (G_ne ga0 gq31 (by decide)))).symm
        have m15747 := m15700.trans (Wr.neR wH15720 (Or.inl (G_ne ga0 gq31 (by decide)))).symm
        have m15748 := m15701.trans (Wr.neR wH15720 (Or.inl (G_ne ga0 gq31 (by decide)))).symm
        have m15749 := m15702.trans (Wr.neR wH15720 (Or.inl (G_ne ga0 gq31 (by decide)))).symm
        have m15750 := m15703.trans (Wr.neR wH15720 (Or.inl (G_ne ga0 gq31 (by decide)))).symm
        have m15751 := m15704.trans (Wr.neR wH15720 (Or.inl (G_ne ga0 gq31 (by decide)))).symm
        have m15752 := m15705.trans (Wr.neR wH15720 (Or.inl (G_ne ga0 gq31 (by decide)))).symm
        have m15753 := m15706.trans (Wr.neI wH15720 (Or.inl (G_ne ga0 gq31 (by decide)))).symm
        have m15754 := m15707.trans (Wr.neR wH15720 (Or.inl (G_ne ga0 gq31 (by decide)))).symm
        have m15755 := m15708.trans (Wr.neR wH15720 (Or.inl (G_ne ga0 gq31 (by decide)))).symm
        have m15756 := m15709.trans (Wr.neR wH15720 (Or.inl (G_ne ga0 gq31 (by decide)))).symm
        have m15757 := ex15677.trans (Wr.neI wH15720 (Or.inl (G_ne ga0 gq31 (by decide)))).symm
        have m15758 := Wr.I wH15720
        have m15758 := m15758.symm
        clear b15685 b15686 b15687 b15688 b15689 b15690 b15711 b15712 b15713 b15714 b15715 b15716 b15717 b15718 b15719 ex15677 g15679 hTH15675 m15678 m15691 m15692 m15693 m15694 m15695 m15696 m15697 m15699 m15700 m15701 m15702 m15703 m15704 m15705 m15706 m15707 m15708 m15709 mf15710
        obtain ⟨x15759, ex15759⟩ : ∃ y : Int32, y = x15193 + 1 := ⟨_, rfl⟩
        have tx15759 := i_add ex15759 (by omega)
        refine lv_iinc (v := x15759) (lv' := [(1, .int x15759), (0, .ref a0)]) hx hb dX10_keepsTexts_150 hl15192 (k := 1) rfl (by rw [ex15759]; rfl) (by decide) rfl (fun ls15760 hl15761 => ?_)
        refine lv_goto (tgt := 32) hx hb dX10_keepsTexts_153 (by decide) ?_
        have cl_x15759 := i_cl (x := x15759) (by omega)
        exact ih32 ls15760 H15720 locsH15720 (x15759) (x15677) (lv_sub hl15761 [1, 0] rfl) hTH15720 hSH15720 ⟨by have := i_rng x15759; omega, by have := i_rng x15759; omega⟩ ⟨by have := i_rng x15677; omega, by have := i_rng x15677; omega⟩ m15757 m15745 m15746 m15747 m15748 m15749 m15750 m15751 m15752 m15753 b15729 b15730 (EQ.cast b15731 (by omega)) (EQ.cast b15732 (by omega)) (EQ.cast b15733 (by omega)) (EQ.cast b15734 (by omega)) (EQ.cast b15735 (by omega)) (EQ.cast b15736 (by omega)) (EQ.cast b15737 (by omega)) b15723 b15724 b15725 b15726 b15727 b15728 mf15721 g15722 (by omega) (by and_intros <;> first | assumption | omega)
  have J2 : ∀ (nf : Nat) (ls15763 : Array Slot) (H15762 : Heap) (locsH15762 : List Loc) (x15765 : Int32) (x15766 : Int32), lv_has ls15763 2 [(0, .ref a0), (1, .int x15765)] → TY K G H15762 → va_S (AE G [112, 162, 128, 129, 130, 131, 132, 133, 134, 135, 136, 137] s.heap.size) s.heap H15762 locsH15762 → (0 ≤ x15765.toInt ∧ x15765.toInt ≤ 6) → (0 ≤ x15766.toInt ∧ x15766.toInt ≤ 16400) → (x15766 = fI H15762 a0 (K.1.2 10 72)) → (EQN iq (fR H15762 a0 (K.1.2 10 73))) → (EQN q24 (fR H15762 a0 (K.1.2 10 24))) → (EQN q27 (fR H15762 a0 (K.1.2 10 27))) → (EQN q29 (fR H15762 a0 (K.1.2 10 29))) → (EQN q30 (fR H15762 a0 (K.1.2 10 30))) → (EQN q31 (fR H15762 a0 (K.1.2 10 31))) → (EQN q32 (fR H15762 a0 (K.1.2 10 32))) → (EQN q33 (fR H15762 a0 (K.1.2 10 33))) → (tk = fI H15762 a0 (K.1.2 10 71)) → (UN (tk.toInt = 0) (fun k => fI H15762 iq k) (fun k => fI s.heap iq k)) → (FB (fun k => fI H15762 iq k) (fun k => fI s.heap iq k) (8908)) → (EQ (fun k => fI H15762 q24 k) (fun k => fI H15762 iq k) (8908) (1) (x15765.toNatClampNeg)) → (EQ (fun k => fI H15762 q27 k) (fun k => fI H15762 iq k) (8916) (7) (0)) → (EQ (fun k => fI H15762 q29 k) (fun k => fI H15762 iq k) (8918) (7) (0)) → (EQ (fun k => fI H15762 q30 k) (fun k => fI H15762 iq k) (8919) (7) (0)) → (EQ (fun k => fI H15762 q31 k) (fun k => fI H15762 iq k) (8920) (7) (0)) → (EQ (fun k => fI H15762 q32 k) (fun k => fI H15762 iq k) (9586) (2) (0)) → (EQ (fun k => fI H15762 q33 k) (fun k => fI H15762 iq k) (9587) (2) (0)) → (UN (tk.toInt ≠ 0) (fun k => fI H15762 q24 k) (fun k => fI s.heap q24 k)) → (UN (tk.toInt ≠ 0) (fun k => fI H15762 q29 k) (fun k => fI s.heap q29 k)) → (UN (tk.toInt ≠ 0) (fun k => fI H15762 q30 k) (fun k => fI s.heap q30 k)) → (UN (tk.toInt ≠ 0) (fun k => fI H15762 q31 k) (fun k => fI s.heap q31 k)) → (UN (tk.toInt ≠ 0) (fun k => fI H15762 q32 k) (fun k => fI s.heap q32 k)) → (UN (tk.toInt ≠ 0) (fun k => fI H15762 q33 k) (fun k => fI s.heap q33 k)) → (MF K s.heap H15762 a0 [72]) → (WD (avw K H15762 a0)) → (6 - x15765.toInt < (nf : Int)) → (x15766.toInt = 8908 + 1 * x15765.toInt) → W p l e ({ frames := 1, cells := 0, slots := 0, locals := 21 } : Room) s m (([.ref a0] : List Value).toArray) below meth c H15762 locsH15762 0 0 Q (F0 m 2 ls15763 []) := by
    intro nf
    induction nf with
    | zero =>
      intro ls15763 H15762 locsH15762 x15765 x15766 hl15764 hTH15762 hSH15762 bx15765 bx15766 ex15766 cy15767_0 cy15767_1 cy15767_2 cy15767_3 cy15767_4 cy15767_5 cy15767_6 cy15767_7 cy15767_8 by15767_ui by15767_fb by15767_e24 by15767_e27 by15767_e29 by15767_e30 by15767_e31 by15767_e32 by15767_e33 by15767_u24 by15767_u29 by15767_u30 by15767_u31 by15767_u32 by15767_u33 mfy15767 gy15767_WD hm2 iv2
      exfalso
      omega
    | succ nf ih2 =>
      intro ls15763 H15762 locsH15762 x15765 x15766 hl15764 hTH15762 hSH15762 bx15765 bx15766 ex15766 cy15767_0 cy15767_1 cy15767_2 cy15767_3 cy15767_4 cy15767_5 cy15767_6 cy15767_7 cy15767_8 by15767_ui by15767_fb by15767_e24 by15767_e27 by15767_e29 by15767_e30 by15767_e31 by15767_e32 by15767_e33 by15767_u24 by15767_u29 by15767_u30 by15767_u31 by15767_u32 by15767_u33 mfy15767 gy15767_WD hm2 iv2
      refine lv_iload_n hx hb dX10_keepsTexts_2 rfl (lv_at hl15764 1 rfl) ?_
      refine lv_bipush (v := 6) hx hb dX10_keepsTexts_3 (by decide) ?_
      refine lv_icmp_ge (tgt := 30) hx hb dX10_keepsTexts_5 (by decide) (fun c15768 => ?_) (fun c15768 => ?_)
      · have k15769 := i_le c15768
        refine lv_iconst (v := 0) hx hb dX10_keepsTexts_30 (by decide) ?_
        refine lv_istore_n (lv' := [(1, .int 0), (0, .ref a0)]) hx hb dX10_keepsTexts_31 rfl hl15764 (by decide) rfl (fun ls15770 hl15771 => ?_)
        have cl00 : (0 : Int32).toNatClampNeg = 0 := rfl
        have cl_x15765 := i_cl (x := x15765) (by omega)
        exact J32 ((96 - (0 : Int32).toInt).toNat + 1) ls15770 H15762 locsH15762 (0) (x15766) (lv_sub hl15771 [1, 0] rfl) hTH15762 hSH15762 (by decide) ⟨by have := i_rng x15766; omega, by have := i_rng x15766; omega⟩ ex15766 cy15767_0 cy15767_1 cy15767_2 cy15767_3 cy15767_4 cy15767_5 cy15767_6 cy15767_7 cy15767_8 by15767_ui by15767_fb (EQ.cast by15767_e24 (by omega)) (EQ.cast by15767_e27 (by omega)) (EQ.cast by15767_e29 (by omega)) (EQ.cast by15767_e30 (by omega)) (EQ.cast by15767_e31 (by omega)) (EQ.cast by15767_e32 (by omega)) (EQ.cast by15767_e33 (by omega)) by15767_u24 by15767_u29 by15767_u30 by15767_u31 by15767_u32 by15767_u33 mfy15767 gy15767_WD (by omega) (by and_intros <;> first | assumption | omega)
      · have k15769 := i_nle c15768
        refine lv_aload_n hx hb dX10_keepsTexts_8 rfl (lv_at hl15764 0 rfl) ?_
        refine x_gr C hTH15762 (ci := 10) (k := 24) rfl inX10 (by decide) wF_X10_59 ga0 rg_112 rfl dX10_keepsTexts_9 (fun q15772 eq15772 gq15772 => ?_)
        have uq15772 : q24 = q15772 := (cy15767_1).trans eq15772.symm
        subst uq15772
        clear eq15772
        refine lv_iload_n hx hb dX10_keepsTexts_12 rfl (lv_at hl15764 1 rfl) ?_
        refine lv_aload_n hx hb dX10_keepsTexts_13 rfl (lv_at hl15764 0 rfl) ?_
        refine lv_aload_n hx hb dX10_keepsTexts_14 rfl (lv_at hl15764 0 rfl) ?_
        refine x_gr C hTH15762 (ci := 10) (k := 24) rfl inX10 (by decide) wF_X10_59 ga0 rg_112 rfl dX10_keepsTexts_15 (fun q15773 eq15773 gq15773 => ?_)
        have uq15773 : q24 = q15773 := (cy15767_1).trans eq15773.symm
        subst uq15773
        clear eq15773
        refine lv_iload_n hx hb dX10_keepsTexts_18 rfl (lv_at hl15764 1 rfl) ?_
        refine x_ai C hTH15762 gq24 rg_128 ⟨by omega, by show _ < ((7 : Nat) : Int); omega⟩ dX10_keepsTexts_19 (fun x15774 ex15774 bx15774 => ?_)
        refine x_V (As := [.int x15774]) (rest := [.int x15765, .ref q24]) C (a_X10_kept l K G H15762 (x15774) (x15766) (tk) hTH15762 ga0 giq cy15767_0 ex15766 cy15767_8 gy15767_WD (by and_intros <;> first | assumption | omega)) yo_X10_kept wM_X10_473 ⟨⟨by decide, by decide⟩, by decide, by decide⟩ (x_rv C hTH15762 (ci := 10) rfl ga0 rg_112) rfl hl15764.1 rfl (Nat.le_of_ble_eq_true rfl) dX10_keepsTexts_20 hSH15762 (AE_sub (fun _ _ => rfl) (by decide) hSH15762.1) (fun vH15775 H15775 locsH15775 pH15775 zH15775 kH15775 hSH15775 => ?_)
        obtain ⟨x15776, x15777, hvH15775, ex15777, hrH15775, m15778, g15779, mf15780, m15781, m15782, m15783, m15784, hTH15775⟩ := pH15775
        subst hvH15775
        clear zH15775
        replace m15778 := EQN.mk m15778
        have b15785 : UN (tk.toInt ≠ 0) (fun k => fI H15775 q24 k) (fun k => fI s.heap q24 k) := UN.congr (fun j => fI_kept (x_lt hTH15762 kH15775 gq24 (by decide))) by15767_u24
        have b15786 : UN (tk.toInt ≠ 0) (fun k => fI H15775 q29 k) (fun k => fI s.heap q29 k) := UN.congr (fun j => fI_kept (x_lt hTH15762 kH15775 gq29 (by decide))) by15767_u29
        have b15787 : UN (tk.toInt ≠ 0) (fun k => fI H15775 q30 k) (fun k => fI s.heap q30 k) := UN.congr (fun j => fI_kept (x_lt hTH15762 kH15775 gq30 (by decide))) by15767_u30
        have b15788 : UN (tk.toInt ≠ 0) (fun k => fI H15775 q31 k) (fun k => fI s.heap q31 k) := UN.congr (fun j => fI_kept (x_lt hTH15762 kH15775 gq31 (by decide))) by15767_u31
        have b15789 : UN (tk.toInt ≠ 0) (fun k => fI H15775 q32 k) (fun k => fI s.heap q32 k) := UN.congr (fun j => fI_kept (x_lt hTH15762 kH15775 gq32 (by decide))) by15767_u32
        have b15790 : UN (tk.toInt ≠ 0) (fun k => fI H15775 q33 k) (fun k => fI s.heap q33 k) := UN.congr (fun j => fI_kept (x_lt hTH15762 kH15775 gq33 (by decide))) by15767_u33
        have m15791 := (ex15774).trans (fI_kept (x_lt hTH15762 kH15775 gq24 (by decide))).symm
        have m15792 := (cy15767_0).trans (MF.r mf15780 (k := 73) (by decide) (by decide)).symm
        have m15793 := (cy15767_1).trans (MF.r mf15780 (k := 24) (by decide) (by decide)).symm
        have m15794 := (cy15767_2).trans (MF.r mf15780 (k := 27) (by decide) (by decide)).symm
        have m15795 := (cy15767_3).trans (MF.r mf15780 (k := 29) (by decide) (by decide)).symm
        have m15796 := (cy15767_4).trans (MF.r mf15780 (k := 30) (by decide) (by decide)).symm
        have m15797 := (cy15767_5).trans (MF.r mf15780 (k := 31) (by decide) (by decide)).symm
        have m15798 := (cy15767_6).trans (MF.r mf15780 (k := 32) (by decide) (by decide)).symm
        have m15799 := (cy15767_7).trans (MF.r mf15780 (k := 33) (by decide) (by decide)).symm
        have m15800 := (cy15767_8).trans (MF.i mf15780 (k := 71) (by decide) (by decide)).symm
        have mf15801 : MF K s.heap H15775 a0 [72] := MF.trans mfy15767 mf15780 (by decide)
        have bx15777 := ty_fi (x := x15777) (k := 72) ex15777 hTH15775 ga0 rg_112 rfl
        have ce_x15765 := i_cl (x := x15765) (by omega)
        have ce_x15766 := i_cl (x := x15766) (by omega)
        have b15802 : UN (tk.toInt = 0) (fun k => fI H15775 iq k) (fun k => fI s.heap iq k) := UN.tr m15784 by15767_ui
        have b15803 : FB (fun k => fI H15775 iq k) (fun k => fI s.heap iq k) (8908) := FB.wr by15767_fb m15783 (fun j hj => by omega)
        have b15804 : EQ (fun k => fI H15775 q24 k) (fun k => fI H15775 iq k) (8908) (1) (x15765.toNatClampNeg) := EQ.wr (EQ.congr (w1 := fun k => fI H15762 iq k) (fun j => fI_kept (x_lt hTH15762 kH15775 gq24 (by decide))) (fun _ => rfl) by15767_e24) m15783 (fun j hj => by omega)
        have b15805 : EQ (fun k => fI H15775 q27 k) (fun k => fI H15775 iq k) (8916) (7) (0) := EQ.wr (EQ.congr (w1 := fun k => fI H15762 iq k) (fun j => fI_kept (x_lt hTH15762 kH15775 gq27 (by decide))) (fun _ => rfl) by15767_e27) m15783 (fun j hj => by omega)
        have b15806 : EQ (fun k => fI H15775 q29 k) (fun k => fI H15775 iq k) (8918) (7) (0) := EQ.wr (EQ.congr (w1 := fun k => fI H15762 iq k) (fun j => fI_kept (x_lt hTH15762 kH15775 gq29 (by decide))) (fun _ => rfl) by15767_e29) m15783 (fun j hj => by omega)
        have b15807 : EQ (fun k => fI H15775 q30 k) (fun k => fI H15775 iq k) (8919) (7) (0) := EQ.wr (EQ.congr (w1 := fun k => fI H15762 iq k) (fun j => fI_kept (x_lt hTH15762 kH15775 gq30 (by decide))) (fun _ => rfl) by15767_e30) m15783 (fun j hj => by omega)
        have b15808 : EQ (fun k => fI H15775 q31 k) (fun k => fI H15775 iq k) (8920) (7) (0) := EQ.wr (EQ.congr (w1 := fun k => fI H15762 iq k) (fun j => fI_kept (x_lt hTH15762 kH15775 gq31 (by decide))) (fun _ => rfl) by15767_e31) m15783 (fun j hj => by omega)
        have b15809 : EQ (fun k => fI H15775 q32 k) (fun k => fI H15775 iq k) (9586) (2) (0) := EQ.wr (EQ.congr (w1 := fun k => fI H15762 iq k) (fun j => fI_kept (x_lt hTH15762 kH15775 gq32 (by decide))) (fun _ => rfl) by15767_e32) m15783 (fun j hj => by omega)
        have b15810 : EQ (fun k => fI H15775 q33 k) (fun k => fI H15775 iq k) (9587) (2) (0) := EQ.wr (EQ.congr (w1 := fun k => fI H15762 iq k) (fun j => fI_kept (x_lt hTH15762 kH15775 gq33 (by decide))) (fun _ => rfl) by15767_e33) m15783 (fun j hj => by omega)
        clear by15767_e24 by15767_e27 by15767_e29 by15767_e30 by15767_e31 by15767_e32 by15767_e33 by15767_fb by15767_u24 by15767_u29 by15767_u30 by15767_u31 by15767_u32 by15767_u33 by15767_ui cy15767_0 cy15767_1 cy15767_2 cy15767_3 cy15767_4 cy15767_5 cy15767_6 cy15767_7 cy15767_8 ex15766 ex15774
        clear m15783 m15784
        have bx15776 : 0 ≤ x15776.toInt ∧ x15776.toInt ≤ 16 := kr (fun h0 => by have hiw := (hy0 h0); exact kr0 (w := fun k => fI H15775 iq k) m15781 (p := 8908 + x15765.toNatClampNeg) (by omega) (b15802 h0) (hiw.2.2.2.1 x15765.toNatClampNeg (by omega))) m15782 (by omega)
        refine W.eq (g2 := F0 m 23 ls15763 [.int x15776, .int x15765, .ref q24]) rfl ?_
        refine x_iast C hTH15775 hSH15775 gq24 rg_128 (by omega) (by show _ < ((7 : Nat) : Int); omega) ⟨by have := i_rng x15776; omega, by have := i_rng x15776; omega⟩ (AE_in gq24 (by decide)) dX10_keepsTexts_23 (fun H15811 locsH15811 hTH15811 hSH15811 wH15811 => ?_)
        have mf15812 : MF K s.heap H15811 a0 [72] := MF.arr wH15811 (G_ne ga0 gq24 (by decide)) mf15801
        have g15813 : WD (avw K H15811 a0) := WD.congr (fun k hk j => av_arr hTH15775 ga0 wH15811 gq24 (by decide) (WD_ok 128 (by decide) k hk)) g15779
        have b15814 : UN (tk.toInt ≠ 0) (fun k => fI H15811 q24 k) (fun k => fI s.heap q24 k) := UN.st b15785 (i := x15765.toNatClampNeg) (fun hc => (m15782 hc).trans m15791) (Wr.I wH15811) (fun j hj => Wr.neI wH15811 (Or.inr hj))
        have b15815 : UN (tk.toInt ≠ 0) (fun k => fI H15811 q29 k) (fun k => fI s.heap q29 k) := UN.congr (fun j => Wr.neI wH15811 (Or.inl (G_ne gq29 gq24 (by decide)))) b15786
        have b15816 : UN (tk.toInt ≠ 0) (fun k => fI H15811 q30 k) (fun k => fI s.heap q30 k) := UN.congr (fun j => Wr.neI wH15811 (Or.inl (G_ne gq30 gq24 (by decide)))) b15787
        have b15817 : UN (tk.toInt ≠ 0) (fun k => fI H15811 q31 k) (fun k => fI s.heap q31 k) := UN.congr (fun j => Wr.neI wH15811 (Or.inl (G_ne gq31 gq24 (by decide)))) b15788
        have b15818 : UN (tk.toInt ≠ 0) (fun k => fI H15811 q32 k) (fun k => fI s.heap q32 k) := UN.congr (fun j => Wr.neI wH15811 (Or.inl (G_ne gq32 gq24 (by decide)))) b15789
        have b15819 : UN (tk.toInt ≠ 0) (fun k => fI H15811 q33 k) (fun k => fI s.heap q33 k) := UN.congr (fun j => Wr.neI wH15811 (Or.inl (G_ne gq33 gq24 (by decide)))) b15790
        have b15820 : UN (tk.toInt = 0) (fun k => fI H15811 iq k) (fun k => fI s.heap iq k) := UN.congr (fun j => Wr.neI wH15811 (Or.inl (G_ne giq gq24 (by decide)))) b15802
        have b15821 : FB (fun k => fI H15811 iq k) (fun k => fI s.heap iq k) (8908) := FB.congr (fun j => Wr.neI wH15811 (Or.inl (G_ne giq gq24 (by decide)))) b15803
        have b15822 : EQ (fun k => fI H15811 q24 k) (fun k => fI H15811 iq k) (8908) (1) (x15765.toNatClampNeg + 1) := EQ.st b15804 (i := x15765.toNatClampNeg) (t := x15766.toNatClampNeg) (by omega) m15781 (by omega) (Wr.I wH15811) (fun j hj => Wr.neI wH15811 (Or.inr hj)) (fun j => Wr.neI wH15811 (Or.inl (G_ne giq gq24 (by decide))))
        have b15823 : EQ (fun k => fI H15811 q27 k) (fun k => fI H15811 iq k) (8916) (7) (0) := EQ.congr (fun j => Wr.neI wH15811 (Or.inl (G_ne gq27 gq24 (by decide)))) (fun j => Wr.neI wH15811 (Or.inl (G_ne giq gq24 (by decide)))) b15805
        have b15824 : EQ (fun k => fI H15811 q29 k) (fun k => fI H15811 iq k) (8918) (7) (0) := EQ.congr (fun j => Wr.neI wH15811 (Or.inl (G_ne gq29 gq24 (by decide)))) (fun j => Wr.neI wH15811 (Or.inl (G_ne giq gq24 (by decide)))) b15806
        have b15825 : EQ (fun k => fI H15811 q30 k) (fun k => fI H15811 iq k) (8919) (7) (0) := EQ.congr (fun j => Wr.neI wH15811 (Or.inl (G_ne gq30 gq24 (by decide)))) (fun j => Wr.neI wH15811 (Or.inl (G_ne giq gq24 (by decide)))) b15807
        have b15826 : EQ (fun k => fI H15811 q31 k) (fun k => fI H15811 iq k) (8920) (7) (0) := EQ.congr (fun j => Wr.neI wH15811 (Or.inl (G_ne gq31 gq24 (by decide)))) (fun j => Wr.neI wH15811 (Or.inl (G_ne giq gq24 (by decide)))) b15808
        have b15827 : EQ (fun k => fI H15811 q32 k) (fun k => fI H15811 iq k) (9586) (2) (0) := EQ.congr (fun j => Wr.neI wH15811 (Or.inl (G_ne gq32 gq24 (by decide)))) (fun j => Wr.neI wH15811 (Or.inl (G_ne giq gq24 (by decide)))) b15809
        have b15828 : EQ (fun k => fI H15811 q33 k) (fun k => fI H15811 iq k) (9587) (2) (0) := EQ.congr (fun j => Wr.neI wH15811 (Or.inl (G_ne gq33 gq24 (by decide)))) (fun j => Wr.neI wH15811 (Or.inl (G_ne giq gq24 (by decide)))) b15810
        have m15830 := m15778.trans (Wr.neR wH15811 (Or.inl (G_ne ga0 gq24 (by decide)))).symm
        have m15831 := m15793.trans (Wr.neR wH15811 (Or.inl (G_ne ga0 gq24 (by decide)))).symm
        have m15832 := m15794.trans (Wr.neR wH15811 (Or.inl (G_ne ga0 gq24 (by decide)))).symm
        have m15833 := m15795.trans (Wr.neR wH15811 (Or.inl (G_ne ga0 gq24 (by decide)))).symm
        have m15834 := m15796.trans (Wr.neR wH15811 (Or.inl (G_ne ga0 gq24 (by decide)))).symm
        have m15835 := m15797.trans (Wr.neR wH15811 (Or.inl (G_ne ga0 gq24 (by decide)))).symm
        have m15836 := m15798.trans (Wr.neR wH15811 (Or.inl (G_ne ga0 gq24 (by decide)))).symm
        have m15837 := m15799.trans (Wr.neR wH15811 (Or.inl (G_ne ga0 gq24 (by decide)))).symm
        have m15838 := m15800.trans (Wr.neI wH15811 (Or.inl (G_ne ga0 gq24 (by decide)))).symm
        have m15839 := ex15777.trans (Wr.neI wH15811 (Or.inl (G_ne ga0 gq24 (by decide)))).symm
        have m15840 := Wr.I wH15811
        have m15840 := m15840.symm
        clear b15785 b15786 b15787 b15788 b15789 b15790 b15802 b15803 b15804 b15805 b15806 b15807 b15808 b15809 b15810 ex15777 g15779 hTH15775 m15778 m15791 m15793 m15794 m15795 m15796 m15797 m15798 m15799 m15800 mf15801
        obtain ⟨x15841, ex15841⟩ : ∃ y : Int32, y = x15765 + 1 := ⟨_, rfl⟩
        have tx15841 := i_add ex15841 (by omega)
        refine lv_iinc (v := x15841) (lv' := [(1, .int x15841), (0, .ref a0)]) hx hb dX10_keepsTexts_24 hl15764 (k := 1) rfl (by rw [ex15841]; rfl) (by decide) rfl (fun ls15842 hl15843 => ?_)
        refine lv_goto (tgt := 2) hx hb dX10_keepsTexts_27 (by decide) ?_
        have cl_x15841 := i_cl (x := x15841) (by omega)
        exact ih2 ls15842 H15811 locsH15811 (x15841) (x15777) (lv_sub hl15843 [1, 0] rfl) hTH15811 hSH15811 ⟨by have := i_rng x15841; omega, by have := i_rng x15841; omega⟩ ⟨by have := i_rng x15777; omega, by have := i_rng x15777; omega⟩ m15839 m15830 m15831 m15832 m15833 m15834 m15835 m15836 m15837 m15838 b15820 b15821 (EQ.cast b15822 (by omega)) (EQ.cast b15823 (by omega)) (EQ.cast b15824 (by omega)) (EQ.cast b15825 (by omega)) (EQ.cast b15826 (by omega)) (EQ.cast b15827 (by omega)) (EQ.cast b15828 (by omega)) b15814 b15815 b15816 b15817 b15818 b15819 mf15812 g15813 (by omega) (by and_intros <;> first | assumption | omega)
  have ui00 : UN (tk.toInt = 0) (fun k => fI s.heap iq k) (fun k => fI s.heap iq k) := UN.rf
  have fb00 : FB (fun k => fI s.heap iq k) (fun k => fI s.heap iq k) (8908) := FB.rf
  have e2400 : EQ (fun k => fI s.heap q24 k) (fun k => fI s.heap iq k) (8908) (1) (0) := EQ.nil rfl
  have e2700 : EQ (fun k => fI s.heap q27 k) (fun k => fI s.heap iq k) (8916) (7) (0) := EQ.nil rfl
  have e2900 : EQ (fun k => fI s.heap q29 k) (fun k => fI s.heap iq k) (8918) (7) (0) := EQ.nil rfl
  have e3000 : EQ (fun k => fI s.heap q30 k) (fun k => fI s.heap iq k) (8919) (7) (0) := EQ.nil rfl
  have e3100 : EQ (fun k => fI s.heap q31 k) (fun k => fI s.heap iq k) (8920) (7) (0) := EQ.nil rfl
  have e3200 : EQ (fun k => fI s.heap q32 k) (fun k => fI s.heap iq k) (9586) (2) (0) := EQ.nil rfl
  have e3300 : EQ (fun k => fI s.heap q33 k) (fun k => fI s.heap iq k) (9587) (2) (0) := EQ.nil rfl
  have u2400 : UN (tk.toInt ≠ 0) (fun k => fI s.heap q24 k) (fun k => fI s.heap q24 k) := UN.rf
  have u2900 : UN (tk.toInt ≠ 0) (fun k => fI s.heap q29 k) (fun k => fI s.heap q29 k) := UN.rf
  have u3000 : UN (tk.toInt ≠ 0) (fun k => fI s.heap q30 k) (fun k => fI s.heap q30 k) := UN.rf
  have u3100 : UN (tk.toInt ≠ 0) (fun k => fI s.heap q31 k) (fun k => fI s.heap q31 k) := UN.rf
  have u3200 : UN (tk.toInt ≠ 0) (fun k => fI s.heap q32 k) (fun k => fI s.heap q32 k) := UN.rf
  have u3300 : UN (tk.toInt ≠ 0) (fun k => fI s.heap q33 k) (fun k => fI s.heap q33 k) := UN.rf
  refine lv_iconst (v := 0) hx hb dX10_keepsTexts_0 (by decide) ?_
  refine lv_istore_n (lv' := [(1, .int 0), (0, .ref a0)]) hx hb dX10_keepsTexts_1 rfl hl (by decide) rfl (fun ls15844 hl15845 => ?_)
  have cl00 : (0 : Int32).toNatClampNeg = 0 := rfl
  exact J2 ((6 - (0 : Int32).toInt).toNat + 1) ls15844 s.heap [] (0) (ia) (lv_sub hl15845 [1, 0] rfl) hT hS (by decide) ⟨by have := i_rng ia; omega, by have := i_rng ia; omega⟩ eia eiq eq24 eq27 eq29 eq30 eq31 eq32 eq33 etk ui00 fb00 (EQ.cast e2400 (by omega)) (EQ.cast e2700 (by omega)) (EQ.cast e2900 (by omega)) (EQ.cast e3000 (by omega)) (EQ.cast e3100 (by omega)) (EQ.cast e3200 (by omega)) (EQ.cast e3300 (by omega)) u2400 u2900 u3000 u3100 u3200 u3300 mf0 hg_WD (by omega) (by and_intros <;> first | assumption | omega)
