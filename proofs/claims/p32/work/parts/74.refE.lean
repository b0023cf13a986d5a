/-! ===== the image ===== -/
def EQ (f w : Nat → Int32) (b s n : Nat) : Prop := ∀ j, j < n → f j = w (b + s * j)
theorem EQ.nil {f w : Nat → Int32} {b s n : Nat} (hn : n = 0) : EQ f w b s n := fun j hj => by omega
theorem EQ.congr {f w f1 w1 : Nat → Int32} {b s n : Nat} (e : ∀ j, f1 j = f j) (e2 : ∀ j, w1 j = w j) (h : EQ f w b s n) : EQ f1 w1 b s n := fun j hj => by rw [e, e2]; exact h j hj
theorem EQ.cast {f w : Nat → Int32} {b s n n' : Nat} (h : EQ f w b s n) (hn : n' = n) : EQ f w b s n' := by rw [hn]; exact h
theorem EQ.wr {f w w1 : Nat → Int32} {b s n t : Nat} (h : EQ f w b s n) (e : ∀ j, j ≠ t → w1 j = w j) (ht : ∀ j, j < n → b + s * j ≠ t) : EQ f w1 b s n := fun j hj => by rw [e _ (ht j hj)]; exact h j hj
theorem EQ.st {f f1 w w1 : Nat → Int32} {b s n i t : Nat} {x : Int32} (h : EQ f w b s n) (hi : i = n) (hx : x = w t) (ht : t = b + s * n) (h1 : f1 i = x) (h2 : ∀ j, j ≠ i → f1 j = f j) (e : ∀ j, w1 j = w j) : EQ f1 w1 b s (n + 1) := by
  subst hi
  intro j hj
  rw [e]
  by_cases c : j = i
  · subst c
    rw [h1, hx, ht]
  · rw [h2 j c]
    exact h j (by omega)
def UN (c : Prop) (f f0 : Nat → Int32) : Prop := c → ∀ j, f j = f0 j
theorem UN.rf {c : Prop} {f : Nat → Int32} : UN c f f := fun _ _ => rfl
theorem UN.congr {c : Prop} {f f0 f1 : Nat → Int32} (e : ∀ j, f1 j = f j) (h : UN c f f0) : UN c f1 f0 := fun hc j => (e j).trans (h hc j)
theorem UN.tr {c : Prop} {f f0 f1 : Nat → Int32} (e : c → ∀ j, f1 j = f j) (h : UN c f f0) : UN c f1 f0 := fun hc j => (e hc j).trans (h hc j)
theorem UN.st {c : Prop} {f f0 f1 : Nat → Int32} {i : Nat} {x : Int32} (h : UN c f f0) (hx : c → x = f i) (h1 : f1 i = x) (h2 : ∀ j, j ≠ i → f1 j = f j) : UN c f1 f0 := by
  intro hc j
  by_cases e : j = i
  · subst e
    rw [h1, hx hc]
    exact h hc j
  · rw [h2 j e]
    exact h hc j
def FB (w w0 : Nat → Int32) (n : Nat) : Prop := ∀ j, j < n → w j = w0 j
theorem FB.rf {w : Nat → Int32} {n : Nat} : FB w w n := fun _ _ => rfl
theorem FB.congr {w w0 w1 : Nat → Int32} {n : Nat} (e : ∀ j, w1 j = w j) (h : FB w w0 n) : FB w1 w0 n := fun j hj => (e j).trans (h j hj)
theorem FB.wr {w w0 w1 : Nat → Int32} {n t : Nat} (h : FB w w0 n) (e : ∀ j, j ≠ t → w1 j = w j) (ht : ∀ j, j < n → j ≠ t) : FB w1 w0 n := fun j hj => (e j (ht j hj)).trans (h j hj)
theorem kr {tk r x : Int32} {lo hi : Int} (h0 : tk.toInt = 0 → lo ≤ r.toInt ∧ r.toInt ≤ hi) (h1 : tk.toInt ≠ 0 → r = x) (hx : lo ≤ x.toInt ∧ x.toInt ≤ hi) : lo ≤ r.toInt ∧ r.toInt ≤ hi := by
  by_cases h : tk.toInt = 0
  · exact h0 h
  · rw [h1 h]; exact hx
theorem kr0 {w w0 : Nat → Int32} {r : Int32} {t p : Nat} {lo hi : Int} (hr : r = w t) (hp : t = p) (e : ∀ j, w j = w0 j) (h : iR w0 p lo hi) : lo ≤ r.toInt ∧ r.toInt ≤ hi := by
  rw [hr, hp, e]; exact h
theorem IMw.congr {w w1 : Nat → Int32} (e : ∀ j, w1 j = w j) (h : IMw w) : IMw w1 := by rw [show w1 = w from funext e]; exact h
theorem IM.w {K : KE} {H : Heap} {b q : Nat} (h : IM (avw K H b)) (e : q = fR H b (K.1.2 10 73)) : IMw (fun k => fI H q k) := by subst e; exact h
theorem EQ.av {K : KE} {H : Heap} {b k q i c s n : Nat} (e : q = fR H b (K.1.2 10 k)) (ei : i = fR H b (K.1.2 10 73)) (h : EQ (fun j => fI H q j) (fun j => fI H i j) c s n) : EQ (avw K H b k) (avw K H b 73) c s n := by subst e ei; exact h
theorem UN.av {K : KE} {H H0 : Heap} {b k q : Nat} {c : Prop} (e : q = fR H b (K.1.2 10 k)) (e0 : q = fR H0 b (K.1.2 10 k)) (h : UN c (fun j => fI H q j) (fun j => fI H0 q j)) : c → ∀ j, avw K H b k j = avw K H0 b k j := fun hc j => by
  unfold avw
  rw [← e, ← e0]
  exact h hc j
theorem tu_pic {v v' : Nat → Nat → Int32} {s s' : Nat → Int32} (h4 : ∀ j, j < 10 → v' 4 j = v 4 j) (h16 : ∀ j, j < 20 → v' 16 j = v 16 j) (hs : s' 1 = s 1) (hb : (s 1).toInt ≤ 10) (h : TU v s) : TU v' s' := by
  refine ⟨fun j hj => ?_, fun j hj => ?_⟩
  · rw [hs] at hj
    rw [h16 j (by omega)]
    exact h.1 j hj
  · rw [hs] at hj
    rw [h4 j (by omega)]
    exact h.2 j hj
theorem cg_pic {v v' : Nat → Nat → Int32} (h24 : ∀ j, j < 6 → v' 24 j = v 24 j) (h29 : ∀ j, j < 96 → v' 29 j = v 29 j ∧ v' 30 j = v 30 j ∧ v' 31 j = v 31 j) (h32 : ∀ j, j < 3000 → v' 32 j = v 32 j ∧ v' 33 j = v 33 j) (hb : ∀ j, j < 96 → (v 29 j).toInt ≤ 500 ∧ (v 30 j).toInt ≤ 500 ∧ (v 31 j).toInt ≤ 500) (h : CG v) : CG v' := by
  have cl : ∀ (y : Int32) (N : Nat), y.toInt ≤ (N : Int) → y.toNatClampNeg ≤ N := fun y N hy => by show y.toInt.toNat ≤ N; omega
  intro row l h1 h2 h3
  rw [h24 row h1] at h3
  obtain ⟨⟨E, q5⟩, F, q6⟩ := h row l h1 h2 h3
  have hl := h29 (16 * row + l) (by omega)
  have hb1 := hb (16 * row + l) (by omega)
  rw [hl.1, hl.2.1, hl.2.2]
  have y0 := cl (v 30 (16 * row + l)) 500 hb1.2.1
  have y1 := cl (v 31 (16 * row + l)) 500 hb1.2.2
  exact ⟨⟨E, q5.keep2 (fun j _ hz => (h32 j (by omega)).1) (fun j _ hz => (h32 j (by omega)).2)⟩, F, q6.keep2 (fun j _ hz => (h32 j (by omega)).1) (fun j _ hz => (h32 j (by omega)).2)⟩
theorem im_rng {K : KE} {G : Nat → Option Nat} {H : Heap} {b : Nat} (hT : TY K G H) (gb : G b = some 112) : (∀ j, j < 10 → (0 ≤ (avw K H b 4 j).toInt ∧ (avw K H b 4 j).toInt ≤ 16) ∧ (0 ≤ (avw K H b 10 j).toInt ∧ (avw K H b 10 j).toInt ≤ 200) ∧ 0 ≤ (avw K H b 50 j).toInt ∧ (avw K H b 50 j).toInt ≤ 12) ∧ (∀ j, j < 20 → 0 ≤ (avw K H b 16 j).toInt ∧ (avw K H b 16 j).toInt ≤ 9999) ∧ (∀ j, j < 6 → 0 ≤ (avw K H b 24 j).toInt ∧ (avw K H b 24 j).toInt ≤ 16) ∧
    ∀ j, j < 96 → (-1 ≤ (avw K H b 27 j).toInt ∧ (avw K H b 27 j).toInt ≤ 15) ∧ (0 ≤ (avw K H b 29 j).toInt ∧ (avw K H b 29 j).toInt ≤ 500) ∧ (0 ≤ (avw K H b 30 j).toInt ∧ (avw K H b 30 j).toInt ≤ 500) ∧ 0 ≤ (avw K H b 31 j).toInt ∧ (avw K H b 31 j).toInt ≤ 500 := by
  obtain ⟨-, -, -, -, -, g4⟩ := hT.fref (k := 4) gb rgM rfl
  obtain ⟨-, -, -, -, -, g10⟩ := hT.fref (k := 10) gb rgM rfl
  obtain ⟨-, -, -, -, -, g50⟩ := hT.fref (k := 50) gb rgM rfl
  obtain ⟨-, -, -, -, -, g16⟩ := hT.fref (k := 16) gb rgM rfl
  obtain ⟨-, -, -, -, -, g24⟩ := hT.fref (k := 24) gb rgM rfl
  obtain ⟨-, -, -, -, -, g27⟩ := hT.fref (k := 27) gb rgM rfl
  obtain ⟨-, -, -, -, -, g29⟩ := hT.fref (k := 29) gb rgM rfl
  obtain ⟨-, -, -, -, -, g30⟩ := hT.fref (k := 30) gb rgM rfl
  obtain ⟨-, -, -, -, -, g31⟩ := hT.fref (k := 31) gb rgM rfl
  refine ⟨fun j hj => ?_, fun j hj => ?_, fun j hj => ?_, fun j hj => ?_⟩
  · obtain ⟨-, -, -, -, -, -, a1⟩ := hT.aint g4 rg_113 hj
    obtain ⟨-, -, -, -, -, -, a2⟩ := hT.aint g10 rg_119 hj
    obtain ⟨-, -, -, -, -, -, a3⟩ := hT.aint g50 rg_146 hj
    exact ⟨a1, a2, a3⟩
  · obtain ⟨-, -, -, -, -, -, a1⟩ := hT.aint g16 rg_125 hj
    exact a1
  · obtain ⟨-, -, -, -, -, -, a1⟩ := hT.aint (j := j) g24 rg_128 (by omega)
    exact a1
  · obtain ⟨-, -, -, -, -, -, a1⟩ := hT.aint (j := j) g27 rg_131 (by omega)
    obtain ⟨-, -, -, -, -, -, a2⟩ := hT.aint (j := j) g29 rg_133 (by omega)
    obtain ⟨-, -, -, -, -, -, a3⟩ := hT.aint (j := j) g30 rg_134 (by omega)
    obtain ⟨-, -, -, -, -, -, a4⟩ := hT.aint (j := j) g31 rg_135 (by omega)
    exact ⟨a1, a2, a3, a4⟩
/-- what an image and the state have in common -/
def PIC (v : Nat → Nat → Int32) (w : Nat → Int32) : Prop := EQ (v 4) w 6 6 10 ∧ EQ (v 10) w 7 6 10 ∧ EQ (v 50) w 11 6 10 ∧ EQ (v 16) w 736 3 20 ∧ EQ (v 24) w 8908 1 6 ∧ EQ (v 27) w 8916 7 96 ∧ EQ (v 29) w 8918 7 96 ∧ EQ (v 30) w 8919 7 96 ∧ EQ (v 31) w 8920 7 96 ∧ EQ (v 32) w 9586 2 3000 ∧ EQ (v 33) w 9587 2 3000
theorem PIC.tu {v : Nat → Nat → Int32} {w : Nat → Int32} (h : PIC v w) : (∀ j, j < 10 → v 4 j = vI w 4 j) ∧ (∀ j, j < 20 → v 16 j = vI w 16 j) ∧ (∀ j, j < 6 → v 24 j = vI w 24 j) ∧ (∀ j, j < 96 → v 29 j = vI w 29 j ∧ v 30 j = vI w 30 j ∧ v 31 j = vI w 31 j) ∧ ∀ j, j < 3000 → v 32 j = vI w 32 j ∧ v 33 j = vI w 33 j := by
  obtain ⟨h4, -, -, h16, h24, -, h29, h30, h31, h32, h33⟩ := h
  exact ⟨fun j hj => h4 j hj, fun j hj => h16 j hj, fun j hj => (h24 j hj).trans (by show w (8908 + 1 * j) = w (8908 + j); rw [Nat.one_mul]), fun j hj => ⟨h29 j hj, h30 j hj, h31 j hj⟩, fun j hj => ⟨h32 j hj, h33 j hj⟩⟩
theorem im_fin {K : KE} {G : Nat → Option Nat} {H0 H : Heap} {b : Nat} {tk : Int32} (hT : TY K G H) (gb : G b = some 112) (cg : CG (avw K H0 b)) (tu : TU (avw K H0 b) (svw K H0 b)) (im : IM (avw K H0 b)) (pic : PIC (avw K H b) (avw K H b 73))
    (p0 : svw K H b 1 = avw K H b 73 0) (p1 : svw K H b 2 = avw K H b 73 1) (p3 : svw K H b 59 = avw K H b 73 3) (p4 : svw K H b 62 = avw K H b 73 4) (p5 : svw K H b 65 = avw K H b 73 5)
    (us : tk.toInt ≠ 0 → svw K H b 1 = svw K H0 b 1) (ua : ∀ k ∈ ([4, 16, 24, 29, 30, 31, 32, 33] : List Nat), tk.toInt ≠ 0 → ∀ j, avw K H b k j = avw K H0 b k j) (ui : tk.toInt = 0 → ∀ j, avw K H b 73 j = avw K H0 b 73 j) : CG (avw K H b) ∧ TU (avw K H b) (svw K H b) ∧ IM (avw K H b) := by
  have R := im_rng hT gb
  obtain ⟨-, -, -, -, -, b0⟩ := hT.fint (k := 1) gb rgM rfl
  obtain ⟨-, -, -, -, -, b1⟩ := hT.fint (k := 2) gb rgM rfl
  obtain ⟨-, -, -, -, -, b3⟩ := hT.fint (k := 59) gb rgM rfl
  obtain ⟨-, -, -, -, -, b4⟩ := hT.fint (k := 62) gb rgM rfl
  obtain ⟨-, -, -, -, -, b5⟩ := hT.fint (k := 65) gb rgM rfl
  obtain ⟨P4, P16, P24, P29, P32⟩ := pic.tu
  by_cases c : tk.toInt = 0
  · have eI : avw K H b 73 = avw K H0 b 73 := funext (ui c)
    have im1 : IMw (avw K H b 73) := by rw [eI]; exact im
    refine ⟨?_, ?_, im1⟩
    · refine cg_pic P24 P29 P32 (fun j hj => ?_) im1.2.2.2.2.2.2
      have r := (R.2.2.2 j hj).2
      rw [← (P29 j hj).1, ← (P29 j hj).2.1, ← (P29 j hj).2.2]
      exact ⟨r.1.2, r.2.1.2, r.2.2.2⟩
    · refine tu_pic P4 P16 p0 ?_ im1.2.2.2.2.2.1
      show (avw K H b 73 0).toInt ≤ 10
      rw [← p0]
      exact b0.2
  · have cg1 : CG (avw K H b) := CG.congr (fun k hk j => ua k (List.all_eq_true.mp (show ([24, 29, 30, 31, 32, 33] : List Nat).all (fun k => decide (k ∈ ([4, 16, 24, 29, 30, 31, 32, 33] : List Nat))) = true by decide) k hk |> of_decide_eq_true) c j) cg
    have tu1 : TU (avw K H b) (svw K H b) := TU.congr (fun k hk j => ua k (List.all_eq_true.mp (show ([16, 4] : List Nat).all (fun k => decide (k ∈ ([4, 16, 24, 29, 30, 31, 32, 33] : List Nat))) = true by decide) k hk |> of_decide_eq_true) c j) (fun k hk => by rw [List.mem_singleton.mp hk]; exact us c) tu
    refine ⟨cg1, tu1, ?_⟩
    obtain ⟨h4, h10, h50, h16, h24, h27, h29, h30, h31, h32, h33⟩ := pic
    refine ⟨⟨?_, ?_, ?_, ?_, ?_⟩, fun i hi => ⟨?_, ?_, ?_⟩, fun i hi => ?_, fun i hi => ?_, fun i hi => ⟨?_, ?_, ?_, ?_⟩, ?_, ?_⟩
    · show 0 ≤ (avw K H b 73 0).toInt ∧ (avw K H b 73 0).toInt ≤ 10; rw [← p0]; exact b0
    · show 0 ≤ (avw K H b 73 1).toInt ∧ (avw K H b 73 1).toInt ≤ 1; rw [← p1]; exact b1
    · show 0 ≤ (avw K H b 73 3).toInt ∧ (avw K H b 73 3).toInt ≤ 20; rw [← p3]; exact b3
    · show 0 ≤ (avw K H b 73 4).toInt ∧ (avw K H b 73 4).toInt ≤ 8; rw [← p4]; exact b4
    · show 0 ≤ (avw K H b 73 5).toInt ∧ (avw K H b 73 5).toInt ≤ 8; rw [← p5]; exact b5
    · show 0 ≤ (avw K H b 73 (6 + 6 * i)).toInt ∧ (avw K H b 73 (6 + 6 * i)).toInt ≤ 16; rw [← h4 i hi]; exact (R.1 i hi).1
    · show 0 ≤ (avw K H b 73 (7 + 6 * i)).toInt ∧ (avw K H b 73 (7 + 6 * i)).toInt ≤ 200; rw [← h10 i hi]; exact (R.1 i hi).2.1
    · show 0 ≤ (avw K H b 73 (11 + 6 * i)).toInt ∧ (avw K H b 73 (11 + 6 * i)).toInt ≤ 12; rw [← h50 i hi]; exact (R.1 i hi).2.2
    · show 0 ≤ (avw K H b 73 (736 + 3 * i)).toInt ∧ (avw K H b 73 (736 + 3 * i)).toInt ≤ 9999; rw [← h16 i hi]; exact R.2.1 i hi
    · have e := h24 i hi
      rw [Nat.one_mul] at e
      show 0 ≤ (avw K H b 73 (8908 + i)).toInt ∧ (avw K H b 73 (8908 + i)).toInt ≤ 16; rw [← e]; exact R.2.2.1 i hi
    · show (-1) ≤ (avw K H b 73 (8916 + 7 * i)).toInt ∧ (avw K H b 73 (8916 + 7 * i)).toInt ≤ 15; rw [← h27 i hi]; exact (R.2.2.2 i hi).1
    · show 0 ≤ (avw K H b 73 (8918 + 7 * i)).toInt ∧ (avw K H b 73 (8918 + 7 * i)).toInt ≤ 500; rw [← h29 i hi]; exact (R.2.2.2 i hi).2.1
    · show 0 ≤ (avw K H b 73 (8919 + 7 * i)).toInt ∧ (avw K H b 73 (8919 + 7 * i)).toInt ≤ 500; rw [← h30 i hi]; exact (R.2.2.2 i hi).2.2.1
    · show 0 ≤ (avw K H b 73 (8920 + 7 * i)).toInt ∧ (avw K H b 73 (8920 + 7 * i)).toInt ≤ 500; rw [← h31 i hi]; exact (R.2.2.2 i hi).2.2.2
    · exact tu_pic (fun j hj => (P4 j hj).symm) (fun j hj => (P16 j hj).symm) p0.symm b0.2 tu1
    · exact cg_pic (fun j hj => (P24 j hj).symm) (fun j hj => ⟨(P29 j hj).1.symm, (P29 j hj).2.1.symm, (P29 j hj).2.2.symm⟩) (fun j hj => ⟨(P32 j hj).1.symm, (P32 j hj).2.symm⟩) (fun j hj => ⟨(R.2.2.2 j hj).2.1.2, (R.2.2.2 j hj).2.2.1.2, (R.2.2.2 j hj).2.2.2.2⟩) cg1
set_option maxHeartbeats 4000000 in
set_option maxRecDepth 100000 in
theorem a_X10_kept (l : Launch) (K : KE) (G : Nat → Option Nat) (H : Heap) {a0 : Nat} (x1 : Int32) {iq : Nat} (ia : Int32) (tk : Int32) (hT : TY K G H) (ga0 : G a0 = some 112) (giq : G iq = some 162) (eiq : iq = fR H a0 (K.1.2 10 73)) (eia : ia = fI H a0 (K.1.2 10 72)) (etk : tk = fI H a0 (K.1.2 10 71)) (hg_WD : WD (avw K H a0)) (hp0 : ia.toInt ≤ 16399) : MX l K yX10_kept cX10_kept 2 (some .int) 0 0 0 0 [.ref a0, .int x1] H (AE G [112, 162] H.size) (fun v H1 => ∃ (r : Int32) (t0 : Int32), v = some (.int r) ∧ t0 = fI H1 a0 (K.1.2 10 72) ∧ (t0.toInt = ia.toInt + 1) ∧ iq = fR H1 a0 (K.1.2 10 73) ∧ (WD (avw K H1 a0)) ∧ MF K H H1 a0 [72] ∧ (r = fI H1 iq ia.toNatClampNeg) ∧ (tk.toInt ≠ 0 → r = x1) ∧ (∀ j : Nat, j ≠ ia.toNatClampNeg → fI H1 iq j = fI H iq j) ∧ (tk.toInt = 0 → ∀ j : Nat, fI H1 iq j = fI H iq j) ∧ TY K G H1) := by
  refine MX.of (by decide +kernel) (Nat.le_of_ble_eq_true rfl) ?_
  intro p e s m below meth c ls Q C hH hl hQ
  subst hH
  have C : CX p K s m _ meth c RX10 cX10_kept 2 (some .int) "kept" := C
  obtain ⟨hx, hb, hml, hown, hts, hKT, hr, hlocks, hnm⟩ := id C
  have hl : lv_has ls 2 [(0, .ref a0), (1, .int x1)] := hl
  have hS : va_S (AE G [112, 162] s.heap.size) s.heap s.heap [] := va_S.rf
  have n_0 : (0 : Int32).toInt = 0 := rfl
  have n_1 : (1 : Int32).toInt = 1 := rfl
  have bia := ty_fi (x := ia) (k := 72) eia hT ga0 rg_112 rfl
  have btk := ty_fi (x := tk) (k := 71) etk hT ga0 rg_112 rfl
  have hap : ∀ x y, x < 74 → y < 74 → x ≠ y → K.1.2 10 x ≠ K.1.2 10 y := x_apart hKT hts inX10 tyX10 tyX10_ok nmX10 rfl
  have mf0 : MF K s.heap s.heap a0 [72] := fun _ _ _ => rfl
  replace eiq := EQN.mk eiq
  refine lv_aload_n hx hb dX10_kept_0 rfl (lv_at hl 0 rfl) ?_
  refine lv_aload_n hx hb dX10_kept_1 rfl (lv_at hl 0 rfl) ?_
  refine x_gi C hT (ci := 10) (k := 72) rfl inX10 (by decide) wF_X10_467 ga0 rg_112 rfl dX10_kept_2 (fun x205 ex205 bx205 => ?_)
  have ux205 : ia = x205 := (eia).trans ex205.symm
  subst ux205
  refine lv_iconst (v := 1) hx hb dX10_kept_5 (by decide) ?_
  refine lv_iadd hx hb dX10_kept_6 ?_
  refine lv_topi (fun x206 ex206 => ?_)
  have tx206 := i_add ex206 (by omega)
  refine x_put C hT hS (ci := 10) (k := 72) (v := .int x206) (ty0 := tyX10) rfl inX10 tyX10_ok nmX10 (by decide) rfl wF_X10_467 ga0 rg_112 rfl rfl (okI (by have := i_rng x206; omega) (by have := i_rng x206; omega)) rfl rfl (AE_in ga0 (by decide)) dX10_kept_7 (fun H207 locsH207 hTH207 hSH207 wH207 => ?_)
  have mf208 : MF K s.heap H207 a0 [72] := MF.fld hap wH207 (by decide) (by decide) mf0
  have g209 : WD (avw K H207 a0) := WD.congr (fun k hk j => av_fld hT ga0 hap wH207 (by decide) (WD_ok 112 (by decide) k hk) (WD_ne 72 (by decide) k hk)) hg_WD
  have m210 := eiq.trans (Wr.neR wH207 (Or.inr (x_apart hKT hts inX10 tyX10 tyX10_ok nmX10 rfl 73 72 (by decide) (by decide) (by decide)))).symm
  have m212 := etk.trans (Wr.neI wH207 (Or.inr (x_apart hKT hts inX10 tyX10 tyX10_ok nmX10 rfl 71 72 (by decide) (by decide) (by decide)))).symm
  have m213 := Wr.I wH207
  have m213 := m213.symm
  refine lv_aload_n hx hb dX10_kept_10 rfl (lv_at hl 0 rfl) ?_
  refine x_gi C hTH207 (ci := 10) (k := 71) rfl inX10 (by decide) wF_X10_470 ga0 rg_112 rfl dX10_kept_11 (fun x214 ex214 bx214 => ?_)
  have ux214 : tk = x214 := (m212).trans ex214.symm
  subst ux214
  refine lv_if_ne (tgt := 29) hx hb dX10_kept_14 (by decide) (fun c215 => ?_) (fun c215 => ?_)
  · have k216 := i_ne c215
    refine lv_aload_n hx hb dX10_kept_29 rfl (lv_at hl 0 rfl) ?_
    refine x_gr C hTH207 (ci := 10) (k := 73) rfl inX10 (by decide) wF_X10_164 ga0 rg_112 rfl dX10_kept_30 (fun q217 eq217 gq217 => ?_)
    have uq217 : iq = q217 := (m210).trans eq217.symm
    subst uq217
    clear eq217
    refine lv_aload_n hx hb dX10_kept_33 rfl (lv_at hl 0 rfl) ?_
    refine x_gi C hTH207 (ci := 10) (k := 72) rfl inX10 (by decide) wF_X10_467 ga0 rg_112 rfl dX10_kept_34 (fun x218 ex218 bx218 => ?_)
    have ux218 : x206 = x218 := (m213).trans ex218.symm
    subst ux218
    refine lv_iconst (v := 1) hx hb dX10_kept_37 (by decide) ?_
    refine lv_isub hx hb dX10_kept_38 ?_
    refine lv_topi (fun x219 ex219 => ?_)
    have tx219 := i_sub ex219 (by omega)
    refine lv_iload_n hx hb dX10_kept_39 rfl (lv_at hl 1 rfl) ?_
    refine x_iast C hTH207 hSH207 giq rg_162 (by omega) (by show _ < ((16400 : Nat) : Int); omega) ⟨by have := i_rng x1; omega, by have := i_rng x1; omega⟩ (AE_in giq (by decide)) dX10_kept_40 (fun H220 locsH220 hTH220 hSH220 wH220 => ?_)
    have mf221 : MF K s.heap H220 a0 [72] := MF.arr wH220 (G_ne ga0 giq (by decide)) mf208
    have g222 : WD (avw K H220 a0) := WD.congr (fun k hk j => av_arr hTH207 ga0 wH220 giq (by decide) (WD_ok 162 (by decide) k hk)) g209
    have m223 := m210.trans (Wr.neR wH220 (Or.inl (G_ne ga0 giq (by decide)))).symm
    have m224 := m212.trans (Wr.neI wH220 (Or.inl (G_ne ga0 giq (by decide)))).symm
    have m225 := m213.trans (Wr.neI wH220 (Or.inl (G_ne ga0 giq (by decide)))).symm
    have m226 := Wr.I wH220
    have m226 := m226.symm
    refine lv_iload_n hx hb dX10_kept_41 rfl (lv_at hl 1 rfl) ?_
    have ck_x219 := i_cl (x := x219) (by omega)
    have ck_ia := i_cl (x := ia) (by omega)
    exact x_iret C hQ dX10_kept_42 hSH220 (by decide) (by decide) (⟨x1, x206, rfl, m225, by omega, m223, g222, mf221, (by rw [show ia.toNatClampNeg = x219.toNatClampNeg by omega]; exact m226), (fun _ => rfl), (fun j hj => (Wr.neI wH220 (Or.inr (by omega))).trans (Wr.neI wH207 (Or.inl (G_ne giq ga0 (by decide))))), (fun h => absurd h (by omega)), hTH220⟩)
  · have k216 := i_eq c215
    refine lv_aload_n hx hb dX10_kept_17 rfl (lv_at hl 0 rfl) ?_
    refine x_gr C hTH207 (ci := 10) (k := 73) rfl inX10 (by decide) wF_X10_164 ga0 rg_112 rfl dX10_kept_18 (fun q227 eq227 gq227 => ?_)
    have uq227 : iq = q227 := (m210).trans eq227.symm
    subst uq227
    clear eq227
    refine lv_aload_n hx hb dX10_kept_21 rfl (lv_at hl 0 rfl) ?_
    refine x_gi C hTH207 (ci := 10) (k := 72) rfl inX10 (by decide) wF_X10_467 ga0 rg_112 rfl dX10_kept_22 (fun x228 ex228 bx228 => ?_)
    have ux228 : x206 = x228 := (m213).trans ex228.symm
    subst ux228
    refine lv_iconst (v := 1) hx hb dX10_kept_25 (by decide) ?_
    refine lv_isub hx hb dX10_kept_26 ?_
    refine lv_topi (fun x229 ex229 => ?_)
    have tx229 := i_sub ex229 (by omega)
    refine x_ai C hTH207 giq rg_162 ⟨by omega, by show _ < ((16400 : Nat) : Int); omega⟩ dX10_kept_27 (fun x230 ex230 bx230 => ?_)
    have ck_x229 := i_cl (x := x229) (by omega)
    have ck_ia := i_cl (x := ia) (by omega)
    exact x_iret C hQ dX10_kept_28 hSH207 (by decide) (by decide) (⟨x230, x206, rfl, m213, by omega, m210, g209, mf208, (by rw [show ia.toNatClampNeg = x229.toNatClampNeg by omega]; exact ex230), (fun h => absurd (by omega) h), (fun j _ => (Wr.neI wH207 (Or.inl (G_ne giq ga0 (by decide))))), (fun _ j => (Wr.neI wH207 (Or.inl (G_ne giq ga0 (by decide))))), hTH207⟩)

set_option maxHeartbeats 4000000 in
set_option maxRecDepth 100000 in
theorem a_X10_keepsBars (l : Launch) (K : KE) (G : Nat → Option Nat) (H : Heap) {a0 : Nat} {iq : Nat} {q4 : Nat} {q10 : Nat} {q16 : Nat} {q50 : Nat} (ia : Int32) (tk : Int32) (hT : TY K G H) (ga0 : G a0 = some 112) (giq : G iq = some 162) (eiq : iq = fR H a0 (K.1.2 10 73)) (gq4 : G q4 = some 113) (eq4 : q4 = fR H a0 (K.1.2 10 4)) (gq10 : G q10 = some 119) (eq10 : q10 = fR H a0 (K.1.2 10 10)) (gq16 : G q16 = some 125) (eq16 : q16 = fR H a0 (K.1.2 10 16)) (gq50 : G q50 = some 146) (eq50 : q50 = fR H a0 (K.1.2 10 50)) (eia : ia = fI H a0 (K.1.2 10 72)) (etk : tk = fI H a0 (K.1.2 10 71)) (hg_WD : WD (avw K H a0)) (hp0 : ia.toInt = 6) (hy0 : tk.toInt = 0 → IMw (fun k => fI H iq k)) : MX l K yX10_keepsBars cX10_keepsBars 2 none 1 21 0 0 [.ref a0] H (AE G [112, 162, 113, 119, 122, 123, 124, 146, 114, 115, 116, 117, 118, 125, 154, 155, 120, 121] H.size) (fun v H1 => ∃ (t0 : Int32), v = none ∧ t0 = fI H1 a0 (K.1.2 10 72) ∧ (t0.toInt = 4796) ∧ iq = fR H1 a0 (K.1.2 10 73) ∧ q4 = fR H1 a0 (K.1.2 10 4) ∧ q10 = fR H1 a0 (K.1.2 10 10) ∧ q16 = fR H1 a0 (K.1.2 10 16) ∧ q50 = fR H1 a0 (K.1.2 10 50) ∧ (WD (avw K H1 a0)) ∧ MF K H H1 a0 [72] ∧ (UN (tk.toInt = 0) (fun k => fI H1 iq k) (fun k => fI H iq k)) ∧ (FB (fun k => fI H1 iq k) (fun k => fI H iq k) 6) ∧ (EQ (fun k => fI H1 q4 k) (fun k => fI H1 iq k) 6 6 10) ∧ (EQ (fun k => fI H1 q10 k) (fun k => fI H1 iq k) 7 6 10) ∧ (EQ (fun k => fI H1 q50 k) (fun k => fI H1 iq k) 11 6 10) ∧ (EQ (fun k => fI H1 q16 k) (fun k => fI H1 iq k) 736 3 20) ∧ (UN (tk.toInt ≠ 0) (fun k => fI H1 q4 k) (fun k => fI H q4 k)) ∧ (UN (tk.toInt ≠ 0) (fun k => fI H1 q16 k) (fun k => fI H q16 k)) ∧ TY K G H1) := by
  refine MX.of (by decide +kernel) (Nat.le_of_ble_eq_true rfl) ?_
  intro p e s m below meth c ls Q C hH hl hQ
  subst hH
  have C : CX p K s m _ meth c RX10 cX10_keepsBars 2 none "keepsBars" := C
  obtain ⟨hx, hb, hml, hown, hts, hKT, hr, hlocks, hnm⟩ := id C
  have hl : lv_has ls 2 [(0, .ref a0)] := hl
  have hS : va_S (AE G [112, 162, 113, 119, 122, 123, 124, 146, 114, 115, 116, 117, 118, 125, 154, 155, 120, 121] s.heap.size) s.heap s.heap [] := va_S.rf
  have n_0 : (0 : Int32).toInt = 0 := rfl
  have n_1 : (1 : Int32).toInt = 1 := rfl
  have n_10 : (10 : Int32).toInt = 10 := rfl
  have n_20 : (20 : Int32).toInt = 20 := rfl
  have n_30 : (30 : Int32).toInt = 30 := rfl
  have n_160 : (160 : Int32).toInt = 160 := rfl
  have n_2000 : (2000 : Int32).toInt = 2000 := rfl
  have bia := ty_fi (x := ia) (k := 72) eia hT ga0 rg_112 rfl
  have btk := ty_fi (x := tk) (k := 71) etk hT ga0 rg_112 rfl
  have hap : ∀ x y, x < 74 → y < 74 → x ≠ y → K.1.2 10 x ≠ K.1.2 10 y := x_apart hKT hts inX10 tyX10 tyX10_ok nmX10 rfl
  have mf0 : MF K s.heap s.heap a0 [72] := fun _ _ _ => rfl
  replace eiq := EQN.mk eiq
  replace eq4 := EQN.mk eq4
  replace eq10 := EQN.mk eq10
  replace eq16 := EQN.mk eq16
  replace eq50 := EQN.mk eq50
  have J283 : ∀ (nf : Nat) (ls15567 : Array Slot) (H15566 : Heap) (locsH15566 : List Loc) (x15569 : Int32) (x15570 : Int32), lv_has ls15567 2 [(0, .ref a0), (1, .int x15569)] → TY K G H15566 → va_S (AE G [112, 162, 113, 119, 122, 123, 124, 146, 114, 115, 116, 117, 118, 125, 154, 155, 120, 121] s.heap.size) s.heap H15566 locsH15566 → (0 ≤ x15569.toInt ∧ x15569.toInt ≤ 2000) → (0 ≤ x15570.toInt ∧ x15570.toInt ≤ 16400) → (x15570 = fI H15566 a0 (K.1.2 10 72)) → (EQN iq (fR H15566 a0 (K.1.2 10 73))) → (EQN q4 (fR H15566 a0 (K.1.2 10 4))) → (EQN q10 (fR H15566 a0 (K.1.2 10 10))) → (EQN q16 (fR H15566 a0 (K.1.2 10 16))) → (EQN q50 (fR H15566 a0 (K.1.2 10 50))) → (tk = fI H15566 a0 (K.1.2 10 71)) → (UN (tk.toInt = 0) (fun k => fI H15566 iq k) (fun k => fI s.heap iq k)) → (FB (fun k => fI H15566 iq k) (fun k => fI s.heap iq k) (6)) → (EQ (fun k => fI H15566 q4 k) (fun k => fI H15566 iq k) (6) (6) (10)) → (EQ (fun k => fI H15566 q10 k) (fun k => fI H15566 iq k) (7) (6) (10)) → (EQ (fun k => fI H15566 q50 k) (fun k => fI H15566 iq k) (11) (6) (10)) → (EQ (fun k => fI H15566 q16 k) (fun k => fI H15566 iq k) (736) (3) (20)) → (UN (tk.toInt ≠ 0) (fun k => fI H15566 q4 k) (fun k => fI s.heap q4 k)) → (UN (tk.toInt ≠ 0) (fun k => fI H15566 q16 k) (fun k => fI s.heap q16 k)) → (MF K s.heap H15566 a0 [72]) → (WD (avw K H15566 a0)) → (2000 - x15569.toInt < (nf : Int)) → (x15570.toInt = 796 + 2 * x15569.toInt) → W p l e ({ frames := 1, cells := 0, slots := 0, locals := 21 } : Room) s m (([.ref a0] : List Value).toArray) below meth c H15566 locsH15566 0 0 Q (F0 m 283 ls15567 []) := by
    intro nf
    induction nf with
    | zero =>
      intro ls15567 H15566 locsH15566 x15569 x15570 hl15568 hTH15566 hSH15566 bx15569 bx15570 ex15570 cy15571_0 cy15571_1 cy15571_2 cy15571_3 cy15571_4 cy15571_5 by15571_ui by15571_fb by15571_e4 by15571_e10 by15571_e50 by15571_e16 by15571_u4 by15571_u16 mfy15571 gy15571_WD hm283 iv283
      exfalso
      omega
    | succ nf ih283 =>
      intro ls15567 H15566 locsH15566 x15569 x15570 hl15568 hTH15566 hSH15566 bx15569 bx15570 ex15570 cy15571_0 cy15571_1 cy15571_2 cy15571_3 cy15571_4 cy15571_5 by15571_ui by15571_fb by15571_e4 by15571_e10 by15571_e50 by15571_e16 by15571_u4 by15571_u16 mfy15571 gy15571_WD hm283 iv283
      refine lv_iload_n hx hb dX10_keepsBars_283 rfl (lv_at hl15568 1 rfl) ?_
      refine lv_sipush (v := 2000) hx hb dX10_keepsBars_284 (by decide) ?_
      refine lv_icmp_ge (tgt := 328) hx hb dX10_keepsBars_287 (by decide) (fun c15572 => ?_) (fun c15572 => ?_)
      · have k15573 := i_le c15572
        exact x_vret C hQ dX10_keepsBars_328 hSH15566 (by decide) (by decide) (⟨x15570, rfl, ex15570, by omega, cy15571_0, cy15571_1, cy15571_2, cy15571_3, cy15571_4, gy15571_WD, mfy15571, by15571_ui, by15571_fb, (EQ.cast by15571_e4 (by omega)), (EQ.cast by15571_e10 (by omega)), (EQ.cast by15571_e50 (by omega)), (EQ.cast by15571_e16 (by omega)), by15571_u4, by15571_u16, hTH15566⟩)
      · have k15573 := i_nle c15572
        refine lv_aload_n hx hb dX10_keepsBars_290 rfl (lv_at hl15568 0 rfl) ?_
        refine x_gr C hTH15566 (ci := 10) (k := 11) rfl inX10 (by decide) wF_X10_35 ga0 rg_112 rfl dX10_keepsBars_291 (fun q15574 eq15574 gq15574 => ?_)
        replace eq15574 := EQN.mk eq15574
        refine lv_iload_n hx hb dX10_keepsBars_294 rfl (lv_at hl15568 1 rfl) ?_
        refine lv_aload_n hx hb dX10_keepsBars_295 rfl (lv_at hl15568 0 rfl) ?_
        refine lv_aload_n hx hb dX10_keepsBars_296 rfl (lv_at hl15568 0 rfl) ?_
        refine x_gr C hTH15566 (ci := 10) (k := 11) rfl inX10 (by decide) wF_X10_35 ga0 rg_112 rfl dX10_keepsBars_297 (fun q15575 eq15575 gq15575 => ?_)
        have uq15575 : q15574 = q15575 := (eq15574).trans eq15575.symm
        subst uq15575
        clear eq15575
        refine lv_iload_n hx hb dX10_keepsBars_300 rfl (lv_at hl15568 1 rfl) ?_
        refine x_ai C hTH15566 gq15574 rg_120 ⟨by omega, by show _ < ((2000 : Nat) : Int); omega⟩ dX10_keepsBars_301 (fun x15576 ex15576 bx15576 => ?_)
        refine x_V (As := [.int x15576]) (rest := [.int x15569, .ref q15574]) C (a_X10_kept l K G H15566 (x15576) (x15570) (tk) hTH15566 ga0 giq cy15571_0 ex15570 cy15571_5 gy15571_WD (by and_intros <;> first | assumption | omega)) yo_X10_kept wM_X10_473 ⟨⟨by decide, by decide⟩, by decide, by decide⟩ (x_rv C hTH15566 (ci := 10) rfl ga0 rg_112) rfl hl15568.1 rfl (Nat.le_of_ble_eq_true rfl) dX10_keepsBars_302 hSH15566 (AE_sub (fun _ _ => rfl) (by decide) hSH15566.1) (fun vH15577 H15577 locsH15577 pH15577 zH15577 kH15577 hSH15577 => ?_)
        obtain ⟨x15578, x15579, hvH15577, ex15579, hrH15577, m15580, g15581, mf15582, m15583, m15584, m15585, m15586, hTH15577⟩ := pH15577
        subst hvH15577
        clear zH15577
        replace m15580 := EQN.mk m15580
        have b15587 : UN (tk.toInt ≠ 0) (fun k => fI H15577 q4 k) (fun k => fI s.heap q4 k) := UN.congr (fun j => fI_kept (x_lt hTH15566 kH15577 gq4 (by decide))) by15571_u4
        have b15588 : UN (tk.toInt ≠ 0) (fun k => fI H15577 q16 k) (fun k => fI s.heap q16 k) := UN.congr (fun j => fI_kept (x_lt hTH15566 kH15577 gq16 (by decide))) by15571_u16
        have m15589 := (ex15576).trans (fI_kept (x_lt hTH15566 kH15577 gq15574 (by decide))).symm
        have m15590 := (cy15571_0).trans (MF.r mf15582 (k := 73) (by decide) (by decide)).symm
        have m15591 := (cy15571_1).trans (MF.r mf15582 (k := 4) (by decide) (by decide)).symm
        have m15592 := (cy15571_2).trans (MF.r mf15582 (k := 10) (by decide) (by decide)).symm
        have m15593 := (cy15571_3).trans (MF.r mf15582 (k := 16) (by decide) (by decide)).symm
        have m15594 := (cy15571_4).trans (MF.r mf15582 (k := 50) (by decide) (by decide)).symm
        have m15595 := (cy15571_5).trans (MF.i mf15582 (k := 71) (by decide) (by decide)).symm
        have m15596 := (eq15574).trans (MF.r mf15582 (k := 11) (by decide) (by decide)).symm
        have mf15597 : MF K s.heap H15577 a0 [72] := MF.trans mfy15571 mf15582 (by decide)
        have bx15579 := ty_fi (x := x15579) (k := 72) ex15579 hTH15577 ga0 rg_112 rfl
        have ce_x15570 := i_cl (x := x15570) (by omega)
        have b15598 : UN (tk.toInt = 0) (fun k => fI H15577 iq k) (fun k => fI s.heap iq k) := UN.tr m15586 by15571_ui
        have b15599 : FB (fun k => fI H15577 iq k) (fun k => fI s.heap iq k) (6) := FB.wr by15571_fb m15585 (fun j hj => by omega)
        have b15600 : EQ (fun k => fI H15577 q4 k) (fun k => fI H15577 iq k) (6) (6) (10) := EQ.wr (EQ.congr (w1 := fun k => fI H15566 iq k) (fun j => fI_kept (x_lt hTH15566 kH15577 gq4 (by decide))) (fun _ => rfl) by15571_e4) m15585 (fun j hj => by omega)
        have b15601 : EQ (fun k => fI H15577 q10 k) (fun k => fI H15577 iq k) (7) (6) (10) := EQ.wr (EQ.congr (w1 := fun k => fI H15566 iq k) (fun j => fI_kept (x_lt hTH15566 kH15577 gq10 (by decide))) (fun _ => rfl) by15571_e10) m15585 (fun j hj => by omega)
        have b15602 : EQ (fun k => fI H15577 q50 k) (fun k => fI H15577 iq k) (11) (6) (10) := EQ.wr (EQ.congr (w1 := fun k => fI H15566 iq k) (fun j => fI_kept (x_lt hTH15566 kH15577 gq50 (by decide))) (fun _ => rfl) by15571_e50) m15585 (fun j hj => by omega)
        have b15603 : EQ (fun k => fI H15577 q16 k) (fun k => fI H15577 iq k) (736) (3) (20) := EQ.wr (EQ.congr (w1 := fun k => fI H15566 iq k) (fun j => fI_kept (x_lt hTH15566 kH15577 gq16 (by decide))) (fun _ => rfl) by15571_e16) m15585 (fun j hj => by omega)
        clear by15571_e10 by15571_e16 by15571_e4 by15571_e50 by15571_fb by15571_u16 by15571_u4 by15571_ui cy15571_0 cy15571_1 cy15571_2 cy15571_3 cy15571_4 cy15571_5 eq15574 ex15570 ex15576
        clear m15585 m15586
        refine W.eq (g2 := F0 m 305 ls15567 [.int x15578, .int x15569, .ref q15574]) rfl ?_
        refine x_iast C hTH15577 hSH15577 gq15574 rg_120 (by omega) (by show _ < ((2000 : Nat) : Int); omega) ⟨by have := i_rng x15578; omega, by have := i_rng x15578; omega⟩ (AE_in gq15574 (by decide)) dX10_keepsBars_305 (fun H15604 locsH15604 hTH15604 hSH15604 wH15604 => ?_)
        have mf15605 : MF K s.heap H15604 a0 [72] := MF.arr wH15604 (G_ne ga0 gq15574 (by decide)) mf15597
        have g15606 : WD (avw K H15604 a0) := WD.congr (fun k hk j => av_arr hTH15577 ga0 wH15604 gq15574 (by decide) (WD_ok 120 (by decide) k hk)) g15581
        have b15607 : UN (tk.toInt ≠ 0) (fun k => fI H15604 q4 k) (fun k => fI s.heap q4 k) := UN.congr (fun j => Wr.neI wH15604 (Or.inl (G_ne gq4 gq15574 (by decide)))) b15587
        have b15608 : UN (tk.toInt ≠ 0) (fun k => fI H15604 q16 k) (fun k => fI s.heap q16 k) := UN.congr (fun j => Wr.neI wH15604 (Or.inl (G_ne gq16 gq15574 (by decide)))) b15588
        have b15609 : UN (tk.toInt = 0) (fun k => fI H15604 iq k) (fun k => fI s.heap iq k) := UN.congr (fun j => Wr.neI wH15604 (Or.inl (G_ne giq gq15574 (by decide)))) b15598
        have b15610 : FB (fun k => fI H15604 iq k) (fun k => fI s.heap iq k) (6) := FB.congr (fun j => Wr.neI wH15604 (Or.inl (G_ne giq gq15574 (by decide)))) b15599
        have b15611 : EQ (fun k => fI H15604 q4 k) (fun k => fI H15604 iq k) (6) (6) (10) := EQ.congr (fun j => Wr.neI wH15604 (Or.inl (G_ne gq4 gq15574 (by decide)))) (fun j => Wr.neI wH15604 (Or.inl (G_ne giq gq15574 (by decide)))) b15600
        have b15612 : EQ (fun k => fI H15604 q10 k) (fun k => fI H15604 iq k) (7) (6) (10) := EQ.congr (fun j => Wr.neI wH15604 (Or.inl (G_ne gq10 gq15574 (by decide)))) (fun j => Wr.neI wH15604 (Or.inl (G_ne giq gq15574 (by decide)))) b15601
        have b15613 : EQ (fun k => fI H15604 q50 k) (fun k => fI H15604 iq k) (11) (6) (10) := EQ.congr (fun j => Wr.neI wH15604 (Or.inl (G_ne gq50 gq15574 (by decide)))) (fun j => Wr.neI wH15604 (Or.inl (G_ne giq gq15574 (by decide)))) b15602
        have b15614 : EQ (fun k => fI H15604 q16 k) (fun k => fI H15604 iq k) (736) (3) (20) := EQ.congr (fun j => Wr.neI wH15604 (Or.inl (G_ne gq16 gq15574 (by decide)))) (fun j => Wr.neI wH15604 (Or.inl (G_ne giq gq15574 (by decide)))) b15603
        have m15616 := m15580.trans (Wr.neR wH15604 (Or.inl (G_ne ga0 gq15574 (by decide)))).symm
        have m15617 := m15591.trans (Wr.neR wH15604 (Or.inl (G_ne ga0 gq15574 (by decide)))).symm
        have m15618 := m15592.trans (Wr.neR wH15604 (Or.inl (G_ne ga0 gq15574 (by decide)))).symm
        have m15619 := m15593.trans (Wr.neR wH15604 (Or.inl (G_ne ga0 gq15574 (by decide)))).symm
        have m15620 := m15594.trans (Wr.neR wH15604 (Or.inl (G_ne ga0 gq15574 (by decide)))).symm
        have m15621 := m15595.trans (Wr.neI wH15604 (Or.inl (G_ne ga0 gq15574 (by decide)))).symm
        have m15622 := m15596.trans (Wr.neR wH15604 (Or.inl (G_ne ga0 gq15574 (by decide)))).symm
        have m15623 := ex15579.trans (Wr.neI wH15604 (Or.inl (G_ne ga0 gq15574 (by decide)))).symm
        have m15624 := Wr.I wH15604
        have m15624 := m15624.symm
        clear b15587 b15588 b15598 b15599 b15600 b15601 b15602 b15603 ex15579 g15581 hTH15577 m15580 m15589 m15591 m15592 m15593 m15594 m15595 m15596 mf15597
        refine lv_aload_n hx hb dX10_keepsBars_306 rfl (lv_at hl15568 0 rfl) ?_
        refine x_gr C hTH15604 (ci := 10) (k := 12) rfl inX10 (by decide) wF_X10_38 ga0 rg_112 rfl dX10_keepsBars_307 (fun q15625 eq15625 gq15625 => ?_)
        replace eq15625 := EQN.mk eq15625
        refine lv_iload_n hx hb dX10_keepsBars_310 rfl (lv_at hl15568 1 rfl) ?_
        refine lv_aload_n hx hb dX10_keepsBars_311 rfl (lv_at hl15568 0 rfl) ?_
        refine lv_aload_n hx hb dX10_keepsBars_312 rfl (lv_at hl15568 0 rfl) ?_
        refine x_gr C hTH15604 (ci := 10) (k := 12) rfl inX10 (by decide) wF_X10_38 ga0 rg_112 rfl dX10_keepsBars_313 (fun q15626 eq15626 gq15626 => ?_)
        have uq15626 : q15625 = q15626 := (eq15625).trans eq15626.symm
        subst uq15626
        clear eq15626
        refine lv_iload_n hx hb dX10_keepsBars_316 rfl (lv_at hl15568 1 rfl) ?_
        refine x_ai C hTH15604 gq15625 rg_121 ⟨by omega, by show _ < ((2000 : Nat) : Int); omega⟩ dX10_keepsBars_317 (fun x15627 ex15627 bx15627 => ?_)
        refine x_V (As := [.int x15627]) (rest := [.int x15569, .ref q15625]) C (a_X10_kept l K G H15604 (x15627) (x15579) (tk) hTH15604 ga0 giq m15616 m15623 m15621 g15606 (by and_intros <;> first | assumption | omega)) yo_X10_kept wM_X10_473 ⟨⟨by decide, by decide⟩, by decide, by decide⟩ (x_rv C hTH15604 (ci := 10) rfl ga0 rg_112) rfl hl15568.1 rfl (Nat.le_of_ble_eq_true rfl) dX10_keepsBars_318 hSH15604 (AE_sub (fun _ _ => rfl) (by decide) hSH15604.1) (fun vH15628 H15628 locsH15628 pH15628 zH15628 kH15628 hSH15628 => ?_)
        obtain ⟨x15629, x15630, hvH15628, ex15630, hrH15628, m15631, g15632, mf15633, m15634, m15635, m15636, m15637, hTH15628⟩ := pH15628
        subst hvH15628
        clear zH15628
        replace m15631 := EQN.mk m15631
        have b15638 : UN (tk.toInt ≠ 0) (fun k => fI H15628 q4 k) (fun k => fI s.heap q4 k) := UN.congr (fun j => fI_kept (x_lt hTH15604 kH15628 gq4 (by decide))) b15607
        have b15639 : UN (tk.toInt ≠ 0) (fun k => fI H15628 q16 k) (fun k => fI s.heap q16 k) := UN.congr (fun j => fI_kept (x_lt hTH15604 kH15628 gq16 (by decide))) b15608
        have m15640 := (m15624).trans (fI_kept (x_lt hTH15604 kH15628 gq15574 (by decide))).symm
        have m15641 := (ex15627).trans (fI_kept (x_lt hTH15604 kH15628 gq15625 (by decide))).symm
        have m15642 := (m15616).trans (MF.r mf15633 (k := 73) (by decide) (by decide)).symm
        have m15643 := (m15617).trans (MF.r mf15633 (k := 4) (by decide) (by decide)).symm
        have m15644 := (m15618).trans (MF.r mf15633 (k := 10) (by decide) (by decide)).symm
        have m15645 := (m15619).trans (MF.r mf15633 (k := 16) (by decide) (by decide)).symm
        have m15646 := (m15620).trans (MF.r mf15633 (k := 50) (by decide) (by decide)).symm
        have m15647 := (m15621).trans (MF.i mf15633 (k := 71) (by decide) (by decide)).symm
        have m15648 := (m15622).trans (MF.r mf15633 (k := 11) (by decide) (by decide)).symm
        have m15649 := (eq15625).trans (MF.r mf15633 (k := 12) (by decide) (by decide)).symm
        have mf15650 : MF K s.heap H15628 a0 [72] := MF.trans mf15605 mf15633 (by decide)
        have bx15630 := ty_fi (x := x15630) (k := 72) ex15630 hTH15628 ga0 rg_112 rfl
        have ce_x15579 := i_cl (x := x15579) (by omega)
        have b15651 : UN (tk.toInt = 0) (fun k => fI H15628 iq k) (fun k => fI s.heap iq k) := UN.tr m15637 b15609
        have b15652 : FB (fun k => fI H15628 iq k) (fun k => fI s.heap iq k) (6) := FB.wr b15610 m15636 (fun j hj => by omega)
        have b15653 : EQ (fun k => fI H15628 q4 k) (fun k => fI H15628 iq k) (6) (6) (10) := EQ.wr (EQ.congr (w1 := fun k => fI H15604 iq k) (fun j => fI_kept (x_lt hTH15604 kH15628 gq4 (by decide))) (fun _ => rfl) b15611) m15636 (fun j hj => by omega)
        have b15654 : EQ (fun k => fI H15628 q10 k) (fun k => fI H15628 iq k) (7) (6) (10) := EQ.wr (EQ.congr (w1 := fun k => fI H15604 iq k) (fun j => fI_kept (x_lt hTH15604 kH15628 gq10 (by decide))) (fun _ => rfl) b15612) m15636 (fun j hj => by omega)
        have b15655 : EQ (fun k => fI H15628 q50 k) (fun k => fI H15628 iq k) (11) (6) (10) := EQ.wr (EQ.congr (w1 := fun k => fI H15604 iq k) (fun j => fI_kept (x_lt hTH15604 kH15628 gq50 (by decide))) (fun _ => rfl) b15613) m15636 (fun j hj => by omega)
        have b15656 : EQ (fun k => fI H15628 q16 k) (fun k => fI H15628 iq k) (736) (3) (20) := EQ.wr (EQ.congr (w1 := fun k => fI H15604 iq k) (fun j => fI_kept (x_lt hTH15604 kH15628 gq16 (by decide))) (fun _ => rfl) b15614) m15636 (fun j hj => by omega)
        clear b15607 b15608 b15609 b15610 b15611 b15612 b15613 b15614 eq15625 ex15627 m15616 m15617 m15618 m15619 m15620 m15621 m15622 m15623 m15624
        clear m15636 m15637
        refine W.eq (g2 := F0 m 321 ls15567 [.int x15629, .int x15569, .ref q15625]) rfl ?_
        refine x_iast C hTH15628 hSH15628 gq15625 rg_121 (by omega) (by show _ < ((2000 : Nat) : Int); omega) ⟨by have := i_rng x15629; omega, by have := i_rng x15629; omega⟩ (AE_in gq15625 (by decide)) dX10_keepsBars_321 (fun H15657 locsH15657 hTH15657 hSH15657 wH15657 => ?_)
        have mf15658 : MF K s.heap H15657 a0 [72] := MF.arr wH15657 (G_ne ga0 gq15625 (by decide)) mf15650
        have g15659 : WD (avw K H15657 a0) := WD.congr (fun k hk j => av_arr hTH15628 ga0 wH15657 gq15625 (by decide) (WD_ok 121 (by decide) k hk)) g15632
        have b15660 : UN (tk.toInt ≠ 0) (fun k => fI H15657 q4 k) (fun k => fI s.heap q4 k) := UN.congr (fun j => Wr.neI wH15657 (Or.inl (G_ne gq4 gq15625 (by decide)))) b15638
        have b15661 : UN (tk.toInt ≠ 0) (fun k => fI H15657 q16 k) (fun k => fI s.heap q16 k) := UN.congr (fun j => Wr.neI wH15657 (Or.inl (G_ne gq16 gq15625 (by decide)))) b15639
        have b15662 : UN (tk.toInt = 0) (fun k => fI H15657 iq k) (fun k => fI s.heap iq k) := UN.congr (fun j => Wr.neI wH15657 (Or.inl (G_ne giq gq15625 (by decide)))) b15651
        have b15663 : FB (fun k => fI H15657 iq k) (fun k => fI s.heap iq k) (6) := FB.congr (fun j => Wr.neI wH15657 (Or.inl (G_ne giq gq15625 (by decide)))) b15652
        have b15664 : EQ (fun k => fI H15657 q4 k) (fun k => fI H15657 iq k) (6) (6) (10) := EQ.congr (fun j => Wr.neI wH15657 (Or.inl (G_ne gq4 gq15625 (by decide)))) (fun j => Wr.neI wH15657 (Or.inl (G_ne giq gq15625 (by decide)))) b15653
        have b15665 : EQ (fun k => fI H15657 q10 k) (fun k => fI H15657 iq k) (7) (6) (10) := EQ.congr (fun j => Wr.neI wH15657 (Or.inl (G_ne gq10 gq15625 (by decide)))) (fun j => Wr.neI wH15657 (Or.inl (G_ne giq gq15625 (by decide)))) b15654
        have b15666 : EQ (fun k => fI H15657 q50 k) (fun k => fI H15657 iq k) (11) (6) (10) := EQ.congr (fun j => Wr.neI wH15657 (Or.inl (G_ne gq50 gq15625 (by decide)))) (fun j => Wr.neI wH15657 (Or.inl (G_ne giq gq15625 (by decide)))) b15655
        have b15667 : EQ (fun k => fI H15657 q16 k) (fun k => fI H15657 iq k) (736) (3) (20) := EQ.congr (fun j => Wr.neI wH15657 (Or.inl (G_ne gq16 gq15625 (by decide)))) (fun j => Wr.neI wH15657 (Or.inl (G_ne giq gq15625 (by decide)))) b15656
        have m15668 := m15640.trans (Wr.neI wH15657 (Or.inl (G_ne gq15574 gq15625 (by decide)))).symm
        have m15670 := m15631.trans (Wr.neR wH15657 (Or.inl (G_ne ga0 gq15625 (by decide)))).symm
        have m15671 := m15643.trans (Wr.neR wH15657 (Or.inl (G_ne ga0 gq15625 (by decide)))).symm
        have m15672 := m15644.trans (Wr.neR wH15657 (Or.inl (G_ne ga0 gq15625 (by decide)))).symm
        have m15673 := m15645.trans (Wr.neR wH15657 (Or.inl (G_ne ga0 gq15625 (by decide)))).symm
        have m15674 := m15646.trans (Wr.neR wH15657 (Or.inl (G_ne ga0 gq15625 (by decide)))).symm
        have m15675 := m15647.trans (Wr.neI wH15657 (Or.inl (G_ne ga0 gq15625 (by decide)))).symm
        have m15676 := m15648.trans (Wr.neR wH15657 (Or.inl (G_ne ga0 gq15625 (by decide)))).symm
        have m15677 := m15649.trans (Wr.neR wH15657 (Or.inl (G_ne ga0 gq15625 (by decide)))).symm
        have m15678 := ex15630.trans (Wr.neI wH15657 (Or.inl (G_ne ga0 gq15625 (by decide)))).symm
        have m15679 := Wr.I wH15657
        have m15679 := m15679.symm
        clear b15638 b15639 b15651 b15652 b15653 b15654 b15655 b15656 ex15630 g15632 hTH15628 m15631 m15640 m15641 m15643 m15644 m15645 m15646 m15647 m15648 m15649 mf15650
        obtain ⟨x15680, ex15680⟩ : ∃ y : Int32, y = x15569 + 1 := ⟨_, rfl⟩
        have tx15680 := i_add ex15680 (by omega)
        refine lv_iinc (v := x15680) (lv' := [(1, .int x15680), (0, .ref a0)]) hx hb dX10_keepsBars_322 hl15568 (k := 1) rfl (by rw [ex15680]; rfl) (by decide) rfl (fun ls15681 hl15682 => ?_)
        refine lv_goto (tgt := 283) hx hb dX10_keepsBars_325 (by decide) ?_
        exact ih283 ls15681 H15657 locsH15657 (x15680) (x15630) (lv_sub hl15682 [1, 0] rfl) hTH15657 hSH15657 ⟨by have := i_rng x15680; omega, by have := i_rng x15680; omega⟩ ⟨by have := i_rng x15630; omega, by have := i_rng x15630; omega⟩ m15678 m15670 m15671 m15672 m15673 m15674 m15675 b15662 b15663 (EQ.cast b15664 (by omega)) (EQ.cast b15665 (by omega)) (EQ.cast b15666 (by omega)) (EQ.cast b15667 (by omega)) b15660 b15661 mf15658 g15659 (by omega) (by and_intros <;> first | assumption | omega)
  have J221 : ∀ (nf : Nat) (ls15684 : Array Slot) (H15683 : Heap) (locsH15683 : List Loc) (x15686 : Int32) (x15687 : Int32), lv_has ls15684 2 [(0, .ref a0), (1, .int x15686)] → TY K G H15683 → va_S (AE G [112, 162, 113, 119, 122, 123, 124, 146, 114, 115, 116, 117, 118, 125, 154, 155, 120, 121] s.heap.size) s.heap H15683 locsH15683 → (0 ≤ x15686.toInt ∧ x15686.toInt ≤ 20) → (0 ≤ x15687.toInt ∧ x15687.toInt ≤ 16400) → (x15687 = fI H15683 a0 (K.1.2 10 72)) → (EQN iq (fR H15683 a0 (K.1.2 10 73))) → (EQN q4 (fR H15683 a0 (K.1.2 10 4))) → (EQN q10 (fR H15683 a0 (K.1.2 10 10))) → (EQN q16 (fR H15683 a0 (K.1.2 10 16))) → (EQN q50 (fR H15683 a0 (K.1.2 10 50))) → (tk = fI H15683 a0 (K.1.2 10 71)) → (UN (tk.toInt = 0) (fun k => fI H15683 iq k) (fun k => fI s.heap iq k)) → (FB (fun k => fI H15683 iq k) (fun k => fI s.heap iq k) (6)) → (EQ (fun k => fI H15683 q4 k) (fun k => fI H15683 iq k) (6) (6) (10)) → (EQ (fun k => fI H15683 q10 k) (fun k => fI H15683 iq k) (7) (6) (10)) → (EQ (fun k => fI H15683 q50 k) (fun k => fI H15683 iq k) (11) (6) (10)) → (EQ (fun k => fI H15683 q16 k) (fun k => fI H15683 iq k) (736) (3) (x15686.toNatClampNeg)) → (UN (tk.toInt ≠ 0) (fun k => fI H15683 q4 k) (fun k => fI s.heap q4 k)) → (UN (tk.toInt ≠ 0) (fun k => fI H15683 q16 k) (fun k => fI s.heap q16 k)) → (MF K s.heap H15683 a0 [72]) → (WD (avw K H15683 a0)) → (20 - x15686.toInt < (nf : Int)) → (x15687.toInt = 736 + 3 * x15686.toInt) → W p l e ({ frames := 1, cells := 0, slots := 0, locals := 21 } : Room) s m (([.ref a0] : List Value).toArray) below meth c H15683 locsH15683 0 0 Q (F0 m 221 ls15684 []) := by
    intro nf
    induction nf with
    | zero =>
      intro ls15684 H15683 locsH15683 x15686 x15687 hl15685 hTH15683 hSH15683 bx15686 bx15687 ex15687 cy15688_0 cy15688_1 cy15688_2 cy15688_3 cy15688_4 cy15688_5 by15688_ui by15688_fb by15688_e4 by15688_e10 by15688_e50 by15688_e16 by15688_u4 by15688_u16 mfy15688 gy15688_WD hm221 iv221
      exfalso
      omega
    | succ nf ih221 =>
      intro ls15684 H15683 locsH15683 x15686 x15687 hl15685 hTH15683 hSH15683 bx15686 bx15687 ex15687 cy15688_0 cy15688_1 cy15688_2 cy15688_3 cy15688_4 cy15688_5 by15688_ui by15688_fb by15688_e4 by15688_e10 by15688_e50 by15688_e16 by15688_u4 by15688_u16 mfy15688 gy15688_WD hm221 iv221
      refine lv_iload_n hx hb dX10_keepsBars_221 rfl (lv_at hl15685 1 rfl) ?_
      refine lv_bipush (v := 20) hx hb dX10_keepsBars_222 (by decide) ?_
      refine lv_icmp_ge (tgt := 281) hx hb dX10_keepsBars_224 (by decide) (fun c15689 => ?_) (fun c15689 => ?_)
      · have k15690 := i_le c15689
        refine lv_iconst (v := 0) hx hb dX10_keepsBars_281 (by decide) ?_
        refine lv_istore_n (lv' := [(1, .int 0), (0, .ref a0)]) hx hb dX10_keepsBars_282 rfl hl15685 (by decide) rfl (fun ls15691 hl15692 => ?_)
        have cl00 : (0 : Int32).toNatClampNeg = 0 := rfl
        have cl_x15686 := i_cl (x := x15686) (by omega)
        exact J283 ((2000 - (0 : Int32).toInt).toNat + 1) ls15691 H15683 locsH15683 (0) (x15687) (lv_sub hl15692 [1, 0] rfl) hTH15683 hSH15683 (by decide) ⟨by have := i_rng x15687; omega, by have := i_rng x15687; omega⟩ ex15687 cy15688_0 cy15688_1 cy15688_2 cy15688_3 cy15688_4 cy15688_5 by15688_ui by15688_fb (EQ.cast by15688_e4 (by omega)) (EQ.cast by15688_e10 (by omega)) (EQ.cast by15688_e50 (by omega)) (EQ.cast by15688_e16 (by omega)) by15688_u4 by15688_u16 mfy15688 gy15688_WD (by omega) (by and_intros <;> first | assumption | omega)
      · have k15690 := i_nle c15689
        refine lv_aload_n hx hb dX10_keepsBars_227 rfl (lv_at hl15685 0 rfl) ?_
        refine x_gr C hTH15683 (ci := 10) (k := 16) rfl inX10 (by decide) wF_X10_50 ga0 rg_112 rfl dX10_keepsBars_228 (fun q15693 eq15693 gq15693 => ?_)
        have uq15693 : q16 = q15693 := (cy15688_3).trans eq15693.symm
        subst uq15693
        clear eq15693
        refine lv_iload_n hx hb dX10_keepsBars_231 rfl (lv_at hl15685 1 rfl) ?_
        refine lv_aload_n hx hb dX10_keepsBars_232 rfl (lv_at hl15685 0 rfl) ?_
        refine lv_aload_n hx hb dX10_keepsBars_233 rfl (lv_at hl15685 0 rfl) ?_
        refine x_gr C hTH15683 (ci := 10) (k := 16) rfl inX10 (by decide) wF_X10_50 ga0 rg_112 rfl dX10_keepsBars_234 (fun q15694 eq15694 gq15694 => ?_)
        have uq15694 : q16 = q15694 := (cy15688_3).trans eq15694.symm
        subst uq15694
        clear eq15694
        refine lv_iload_n hx hb dX10_keepsBars_237 rfl (lv_at hl15685 1 rfl) ?_
        refine x_ai C hTH15683 gq16 rg_125 ⟨by omega, by show _ < ((20 : Nat) : Int); omega⟩ dX10_keepsBars_238 (fun x15695 ex15695 bx15695 => ?_)
        refine x_V (As := [.int x15695]) (rest := [.int x15686, .ref q16]) C (a_X10_kept l K G H15683 (x15695) (x15687) (tk) hTH15683 ga0 giq cy15688_0 ex15687 cy15688_5 gy15688_WD (by and_intros <;> first | assumption | omega)) yo_X10_kept wM_X10_473 ⟨⟨by decide, by decide⟩, by decide, by decide⟩ (x_rv C hTH15683 (ci := 10) rfl ga0 rg_112) rfl hl15685.1 rfl (Nat.le_of_ble_eq_true rfl) dX10_keepsBars_239 hSH15683 (AE_sub (fun _ _ => rfl) (by decide) hSH15683.1) (fun vH15696 H15696 locsH15696 pH15696 zH15696 kH15696 hSH15696 => ?_)
        obtain ⟨x15697, x15698, hvH15696, ex15698, hrH15696, m15699, g15700, mf15701, m15702, m15703, m15704, m15705, hTH15696⟩ := pH15696
        subst hvH15696
        clear zH15696
        replace m15699 := EQN.mk m15699
        have b15706 : UN (tk.toInt ≠ 0) (fun k => fI H15696 q4 k) (fun k => fI s.heap q4 k) := UN.congr (fun j => fI_kept (x_lt hTH15683 kH15696 gq4 (by decide))) by15688_u4
        have b15707 : UN (tk.toInt ≠ 0) (fun k => fI H15696 q16 k) (fun k => fI s.heap q16 k) := UN.congr (fun j => fI_kept (x_lt hTH15683 kH15696 gq16 (by decide))) by15688_u16
        have m15708 := (ex15695).trans (fI_kept (x_lt hTH15683 kH15696 gq16 (by decide))).symm
        have m15709 := (cy15688_0).trans (MF.r mf15701 (k := 73) (by decide) (by decide)).symm
        have m15710 := (cy15688_1).trans (MF.r mf15701 (k := 4) (by decide) (by decide)).symm
        have m15711 := (cy15688_2).trans (MF.r mf15701 (k := 10) (by decide) (by decide)).symm
        have m15712 := (cy15688_3).trans (MF.r mf15701 (k := 16) (by decide) (by decide)).symm
        have m15713 := (cy15688_4).trans (MF.r mf15701 (k := 50) (by decide) (by decide)).symm
        have m15714 := (cy15688_5).trans (MF.i mf15701 (k := 71) (by decide) (by decide)).symm
        have mf15715 : MF K s.heap H15696 a0 [72] := MF.trans mfy15688 mf15701 (by decide)
        have bx15698 := ty_fi (x := x15698) (k := 72) ex15698 hTH15696 ga0 rg_112 rfl
        have ce_x15686 := i_cl (x := x15686) (by omega)
        have ce_x15687 := i_cl (x := x15687) (by omega)
        have b15716 : UN (tk.toInt = 0) (fun k => fI H15696 iq k) (fun k => fI s.heap iq k) := UN.tr m15705 by15688_ui
        have b15717 : FB (fun k => fI H15696 iq k) (fun k => fI s.heap iq k) (6) := FB.wr by15688_fb m15704 (fun j hj => by omega)
        have b15718 : EQ (fun k => fI H15696 q4 k) (fun k => fI H15696 iq k) (6) (6) (10) := EQ.wr (EQ.congr (w1 := fun k => fI H15683 iq k) (fun j => fI_kept (x_lt hTH15683 kH15696 gq4 (by decide))) (fun _ => rfl) by15688_e4) m15704 (fun j hj => by omega)
        have b15719 : EQ (fun k => fI H15696 q10 k) (fun k => fI H15696 iq k) (7) (6) (10) := EQ.wr (EQ.congr (w1 := fun k => fI H15683 iq k) (fun j => fI_kept (x_lt hTH15683 kH15696 gq10 (by decide))) (fun _ => rfl) by15688_e10) m15704 (fun j hj => by omega)
        have b15720 : EQ (fun k => fI H15696 q50 k) (fun k => fI H15696 iq k) (11) (6) (10) := EQ.wr (EQ.congr (w1 := fun k => fI H15683 iq k) (fun j => fI_kept (x_lt hTH15683 kH15696 gq50 (by decide))) (fun _ => rfl) by15688_e50) m15704 (fun j hj => by omega)
        have b15721 : EQ (fun k => fI H15696 q16 k) (fun k => fI H15696 iq k) (736) (3) (x15686.toNatClampNeg) := EQ.wr (EQ.congr (w1 := fun k => fI H15683 iq k) (fun j => fI_kept (x_lt hTH15683 kH15696 gq16 (by decide))) (fun _ => rfl) by15688_e16) m15704 (fun j hj => by omega)
        clear by15688_e10 by15688_e16 by15688_e4 by15688_e50 by15688_fb by15688_u16 by15688_u4 by15688_ui cy15688_0 cy15688_1 cy15688_2 cy15688_3 cy15688_4 cy15688_5 ex15687 ex15695
        clear m15704 m15705
        have bx15697 : 0 ≤ x15697.toInt ∧ x15697.toInt ≤ 9999 := kr (fun h0 => by have hiw := (hy0 h0); exact kr0 (w := fun k => fI H15696 iq k) m15702 (p := 736 + 3 * x15686.toNatClampNeg) (by omega) (b15716 h0) (hiw.2.2.1 x15686.toNatClampNeg (by omega))) m15703 (by omega)
        refine W.eq (g2 := F0 m 242 ls15684 [.int x15697, .int x15686, .ref q16]) rfl ?_
        refine x_iast C hTH15696 hSH15696 gq16 rg_125 (by omega) (by show _ < ((20 : Nat) : Int); omega) ⟨by have := i_rng x15697; omega, by have := i_rng x15697; omega⟩ (AE_in gq16 (by decide)) dX10_keepsBars_242 (fun H15722 locsH15722 hTH15722 hSH15722 wH15722 => ?_)
        have mf15723 : MF K s.heap H15722 a0 [72] := MF.arr wH15722 (G_ne ga0 gq16 (by decide)) mf15715
        have g15724 : WD (avw K H15722 a0) := WD.congr (fun k hk j => av_arr hTH15696 ga0 wH15722 gq16 (by decide) (WD_ok 125 (by decide) k hk)) g15700
        have b15725 : UN (tk.toInt ≠ 0) (fun k => fI H15722 q4 k) (fun k => fI s.heap q4 k) := UN.congr (fun j => Wr.neI wH15722 (Or.inl (G_ne gq4 gq16 (by decide)))) b15706
        have b15726 : UN (tk.toInt ≠ 0) (fun k => fI H15722 q16 k) (fun k => fI s.heap q16 k) := UN.st b15707 (i := x15686.toNatClampNeg) (fun hc => (m15703 hc).trans m15708) (Wr.I wH15722) (fun j hj => Wr.neI wH15722 (Or.inr hj))
        have b15727 : UN (tk.toInt = 0) (fun k => fI H15722 iq k) (fun k => fI s.heap iq k) := UN.congr (fun j => Wr.neI wH15722 (Or.inl (G_ne giq gq16 (by decide)))) b15716
        have b15728 : FB (fun k => fI H15722 iq k) (fun k => fI s.heap iq k) (6) := FB.congr (fun j => Wr.neI wH15722 (Or.inl (G_ne giq gq16 (by decide)))) b15717
        have b15729 : EQ (fun k => fI H15722 q4 k) (fun k => fI H15722 iq k) (6) (6) (10) := EQ.congr (fun j => Wr.neI wH15722 (Or.inl (G_ne gq4 gq16 (by decide)))) (fun j => Wr.neI wH15722 (Or.inl (G_ne giq gq16 (by decide)))) b15718
        have b15730 : EQ (fun k => fI H15722 q10 k) (fun k => fI H15722 iq k) (7) (6) (10) := EQ.congr (fun j => Wr.neI wH15722 (Or.inl (G_ne gq10 gq16 (by decide)))) (fun j => Wr.neI wH15722 (Or.inl (G_ne giq gq16 (by decide)))) b15719
        have b15731 : EQ (fun k => fI H15722 q50 k) (fun k => fI H15722 iq k) (11) (6) (10) := EQ.congr (fun j => Wr.neI wH15722 (Or.inl (G_ne gq50 gq16 (by decide)))) (fun j => Wr.neI wH15722 (Or.inl (G_ne giq gq16 (by decide)))) b15720
        have b15732 : EQ (fun k => fI H15722 q16 k) (fun k => fI H15722 iq k) (736) (3) (x15686.toNatClampNeg + 1) := EQ.st b15721 (i := x15686.toNatClampNeg) (t := x15687.toNatClampNeg) (by omega) m15702 (by omega) (Wr.I wH15722) (fun j hj => Wr.neI wH15722 (Or.inr hj)) (fun j => Wr.neI wH15722 (Or.inl (G_ne giq gq16 (by decide))))
        have m15734 := m15699.trans (Wr.neR wH15722 (Or.inl (G_ne ga0 gq16 (by decide)))).symm
        have m15735 := m15710.trans (Wr.neR wH15722 (Or.inl (G_ne ga0 gq16 (by decide)))).symm
        have m15736 := m15711.trans (Wr.neR wH15722 (Or.inl (G_ne ga0 gq16 (by decide)))).symm
        have m15737 := m15712.trans (Wr.neR wH15722 (Or.inl (G_ne ga0 gq16 (by decide)))).symm
        have m15738 := m15713.trans (Wr.neR wH15722 (Or.inl (G_ne ga0 gq16 (by decide)))).symm
        have m15739 := m15714.trans (Wr.neI wH15722 (Or.inl (G_ne ga0 gq16 (by decide)))).symm
        have m15740 := ex15698.trans (Wr.neI wH15722 (Or.inl (G_ne ga0 gq16 (by decide)))).symm
        have m15741 := Wr.I wH15722
        have m15741 := m15741.symm
        clear b15706 b15707 b15716 b15717 b15718 b15719 b15720 b15721 ex15698 g15700 hTH15696 m15699 m15708 m15710 m15711 m15712 m15713 m15714 mf15715
        refine lv_aload_n hx hb dX10_keepsBars_243 rfl (lv_at hl15685 0 rfl) ?_
        refine x_gr C hTH15722 (ci := 10) (k := 60) rfl inX10 (by decide) wF_X10_140 ga0 rg_112 rfl dX10_keepsBars_244 (fun q15742 eq15742 gq15742 => ?_)
        replace eq15742 := EQN.mk eq15742
        refine lv_iload_n hx hb dX10_keepsBars_247 rfl (lv_at hl15685 1 rfl) ?_
        refine lv_aload_n hx hb dX10_keepsBars_248 rfl (lv_at hl15685 0 rfl) ?_
        refine lv_aload_n hx hb dX10_keepsBars_249 rfl (lv_at hl15685 0 rfl) ?_
        refine x_gr C hTH15722 (ci := 10) (k := 60) rfl inX10 (by decide) wF_X10_140 ga0 rg_112 rfl dX10_keepsBars_250 (fun q15743 eq15743 gq15743 => ?_)
        have uq15743 : q15742 = q15743 := (eq15742).trans eq15743.symm
        subst uq15743
        clear eq15743
        refine lv_iload_n hx hb dX10_keepsBars_253 rfl (lv_at hl15685 1 rfl) ?_
        refine x_ai C hTH15722 gq15742 rg_154 ⟨by omega, by show _ < ((20 : Nat) : Int); omega⟩ dX10_keepsBars_254 (fun x15744 ex15744 bx15744 => ?_)
        refine x_V (As := [.int x15744]) (rest := [.int x15686, .ref q15742]) C (a_X10_kept l K G H15722 (x15744) (x15698) (tk) hTH15722 ga0 giq m15734 m15740 m15739 g15724 (by and_intros <;> first | assumption | omega)) yo_X10_kept wM_X10_473 ⟨⟨by decide, by decide⟩, by decide, by decide⟩ (x_rv C hTH15722 (ci := 10) rfl ga0 rg_112) rfl hl15685.1 rfl (Nat.le_of_ble_eq_true rfl) dX10_keepsBars_255 hSH15722 (AE_sub (fun _ _ => rfl) (by decide) hSH15722.1) (fun vH15745 H15745 locsH15745 pH15745 zH15745 kH15745 hSH15745 => ?_)
        obtain ⟨x15746, x15747, hvH15745, ex15747, hrH15745, m15748, g15749, mf15750, m15751, m15752, m15753, m15754, hTH15745⟩ := pH15745
        subst hvH15745
        clear zH15745
        replace m15748 := EQN.mk m15748
        have b15755 : UN (tk.toInt ≠ 0) (fun k => fI H15745 q4 k) (fun k => fI s.heap q4 k) := UN.congr (fun j => fI_kept (x_lt hTH15722 kH15745 gq4 (by decide))) b15725
        have b15756 : UN (tk.toInt ≠ 0) (fun k => fI H15745 q16 k) (fun k => fI s.heap q16 k) := UN.congr (fun j => fI_kept (x_lt hTH15722 kH15745 gq16 (by decide))) b15726
        have m15757 := (m15741).trans (fI_kept (x_lt hTH15722 kH15745 gq16 (by decide))).symm
        have m15758 := (ex15744).trans (fI_kept (x_lt hTH15722 kH15745 gq15742 (by decide))).symm
        have m15759 := (m15734).trans (MF.r mf15750 (k := 73) (by decide) (by decide)).symm
        have m15760 := (m15735).trans (MF.r mf15750 (k := 4) (by decide) (by decide)).symm
        have m15761 := (m15736).trans (MF.r mf15750 (k := 10) (by decide) (by decide)).symm
        have m15762 := (m15737).trans (MF.r mf15750 (k := 16) (by decide) (by decide)).symm
        have m15763 := (m15738).trans (MF.r mf15750 (k := 50) (by decide) (by decide)).symm
        have m15764 := (m15739).trans (MF.i mf15750 (k := 71) (by decide) (by decide)).symm
        have m15765 := (eq15742).trans (MF.r mf15750 (k := 60) (by decide) (by decide)).symm
        have mf15766 : MF K s.heap H15745 a0 [72] := MF.trans mf15723 mf15750 (by decide)
        have bx15747 := ty_fi (x := x15747) (k := 72) ex15747 hTH15745 ga0 rg_112 rfl
        have ce_x15698 := i_cl (x := x15698) (by omega)
        have b15767 : UN (tk.toInt = 0) (fun k => fI H15745 iq k) (fun k => fI s.heap iq k) := UN.tr m15754 b15727
        have b15768 : FB (fun k => fI H15745 iq k) (fun k => fI s.heap iq k) (6) := FB.wr b15728 m15753 (fun j hj => by omega)
        have b15769 : EQ (fun k => fI H15745 q4 k) (fun k => fI H15745 iq k) (6) (6) (10) := EQ.wr (EQ.congr (w1 := fun k => fI H15722 iq k) (fun j => fI_kept (x_lt hTH15722 kH15745 gq4 (by decide))) (fun _ => rfl) b15729) m15753 (fun j hj => by omega)
        have b15770 : EQ (fun k => fI H15745 q10 k) (fun k => fI H15745 iq k) (7) (6) (10) := EQ.wr (EQ.congr (w1 := fun k => fI H15722 iq k) (fun j => fI_kept (x_lt hTH15722 kH15745 gq10 (by decide))) (fun _ => rfl) b15730) m15753 (fun j hj => by omega)
        have b15771 : EQ (fun k => fI H15745 q50 k) (fun k => fI H15745 iq k) (11) (6) (10) := EQ.wr (EQ.congr (w1 := fun k => fI H15722 iq k) (fun j => fI_kept (x_lt hTH15722 kH15745 gq50 (by decide))) (fun _ => rfl) b15731) m15753 (fun j hj => by omega)
        have b15772 : EQ (fun k => fI H15745 q16 k) (fun k => fI H15745 iq k) (736) (3) (x15686.toNatClampNeg + 1) := EQ.wr (EQ.congr (w1 := fun k => fI H15722 iq k) (fun j => fI_kept (x_lt hTH15722 kH15745 gq16 (by decide))) (fun _ => rfl) b15732) m15753 (fun j hj => by omega)
        clear b15725 b15726 b15727 b15728 b15729 b15730 b15731 b15732 eq15742 ex15744 m15734 m15735 m15736 m15737 m15738 m15739 m15740 m15741
        clear m15753 m15754
        refine W.eq (g2 := F0 m 258 ls15684 [.int x15746, .int x15686, .ref q15742]) rfl ?_
        refine x_iast C hTH15745 hSH15745 gq15742 rg_154 (by omega) (by show _ < ((20 : Nat) : Int); omega) ⟨by have := i_rng x15746; omega, by have := i_rng x15746; omega⟩ (AE_in gq15742 (by decide)) dX10_keepsBars_258 (fun H15773 locsH15773 hTH15773 hSH15773 wH15773 => ?_)
        have mf15774 : MF K s.heap H15773 a0 [72] := MF.arr wH15773 (G_ne ga0 gq15742 (by decide)) mf15766
        have g15775 : WD (avw K H15773 a0) := WD.congr (fun k hk j => av_arr hTH15745 ga0 wH15773 gq15742 (by decide) (WD_ok 154 (by decide) k hk)) g15749
        have b15776 : UN (tk.toInt ≠ 0) (fun k => fI H15773 q4 k) (fun k => fI s.heap q4 k) := UN.congr (fun j => Wr.neI wH15773 (Or.inl (G_ne gq4 gq15742 (by decide)))) b15755
        have b15777 : UN (tk.toInt ≠ 0) (fun k => fI H15773 q16 k) (fun k => fI s.heap q16 k) := UN.congr (fun j => Wr.neI wH15773 (Or.inl (G_ne gq16 gq15742 (by decide)))) b15756
        have b15778 : UN (tk.toInt = 0) (fun k => fI H15773 iq k) (fun k => fI s.heap iq k) := UN.congr (fun j => Wr.neI wH15773 (Or.inl (G_ne giq gq15742 (by decide)))) b15767
        have b15779 : FB (fun k => fI H15773 iq k) (fun k => fI s.heap iq k) (6) := FB.congr (fun j => Wr.neI wH15773 (Or.inl (G_ne giq gq15742 (by decide)))) b15768
        have b15780 : EQ (fun k => fI H15773 q4 k) (fun k => fI H15773 iq k) (6) (6) (10) := EQ.congr (fun j => Wr.neI wH15773 (Or.inl (G_ne gq4 gq15742 (by decide)))) (fun j => Wr.neI wH15773 (Or.inl (G_ne giq gq15742 (by decide)))) b15769
        have b15781 : EQ (fun k => fI H15773 q10 k) (fun k => fI H15773 iq k) (7) (6) (10) := EQ.congr (fun j => Wr.neI wH15773 (Or.inl (G_ne gq10 gq15742 (by decide)))) (fun j => Wr.neI wH15773 (Or.inl (G_ne giq gq15742 (by decide)))) b15770
        have b15782 : EQ (fun k => fI H15773 q50 k) (fun k => fI H15773 iq k) (11) (6) (10) := EQ.congr (fun j => Wr.neI wH15773 (Or.inl (G_ne gq50 gq15742 (by decide)))) (fun j => Wr.neI wH15773 (Or.inl (G_ne giq gq15742 (by decide)))) b15771
        have b15783 : EQ (fun k => fI H15773 q16 k) (fun k => fI H15773 iq k) (736) (3) (x15686.toNatClampNeg + 1) := EQ.congr (fun j => Wr.neI wH15773 (Or.inl (G_ne gq16 gq15742 (by decide)))) (fun j => Wr.neI wH15773 (Or.inl (G_ne giq gq15742 (by decide)))) b15772
        have m15784 := m15757.trans (Wr.neI wH15773 (Or.inl (G_ne gq16 gq15742 (by decide)))).symm
        have m15786 := m15748.trans (Wr.neR wH15773 (Or.inl (G_ne ga0 gq15742 (by decide)))).symm
        have m15787 := m15760.trans (Wr.neR wH15773 (Or.inl (G_ne ga0 gq15742 (by decide)))).symm
        have m15788 := m15761.trans (Wr.neR wH15773 (Or.inl (G_ne ga0 gq15742 (by decide)))).symm
        have m15789 := m15762.trans (Wr.neR wH15773 (Or.inl (G_ne ga0 gq15742 (by decide)))).symm
        have m15790 := m15763.trans (Wr.neR wH15773 (Or.inl (G_ne ga0 gq15742 (by decide)))).symm
        have m15791 := m15764.trans (Wr.neI wH15773 (Or.inl (G_ne ga0 gq15742 (by decide)))).symm
        have m15792 := m15765.trans (Wr.neR wH15773 (Or.inl (G_ne ga0 gq15742 (by decide)))).symm
        have m15793 := ex15747.trans (Wr.neI wH15773 (Or.inl (G_ne ga0 gq15742 (by decide)))).symm
        have m15794 := Wr.I wH15773
        have m15794 := m15794.symm
        clear b15755 b15756 b15767 b15768 b15769 b15770 b15771 b15772 ex15747 g15749 hTH15745 m15748 m15757 m15758 m15760 m15761 m15762 m15763 m15764 m15765 mf15766
        refine lv_aload_n hx hb dX10_keepsBars_259 rfl (lv_at hl15685 0 rfl) ?_
        refine x_gr C hTH15773 (ci := 10) (k := 61) rfl inX10 (by decide) wF_X10_143 ga0 rg_112 rfl dX10_keepsBars_260 (fun q15795 eq15795 gq15795 => ?_)
        replace eq15795 := EQN.mk eq15795
        refine lv_iload_n hx hb dX10_keepsBars_263 rfl (lv_at hl15685 1 rfl) ?_
        refine lv_aload_n hx hb dX10_keepsBars_264 rfl (lv_at hl15685 0 rfl) ?_
        refine lv_aload_n hx hb dX10_keepsBars_265 rfl (lv_at hl15685 0 rfl) ?_
        refine x_gr C hTH15773 (ci := 10) (k := 61) rfl inX10 (by decide) wF_X10_143 ga0 rg_112 rfl dX10_keepsBars_266 (fun q15796 eq15796 gq15796 => ?_)
        have uq15796 : q15795 = q15796 := (eq15795).trans eq15796.symm
        subst uq15796
        clear eq15796
        refine lv_iload_n hx hb dX10_keepsBars_269 rfl (lv_at hl15685 1 rfl) ?_
        refine x_ai C hTH15773 gq15795 rg_155 ⟨by omega, by show _ < ((20 : Nat) : Int); omega⟩ dX10_keepsBars_270 (fun x15797 ex15797 bx15797 => ?_)
        refine x_V (As := [.int x15797]) (rest := [.int x15686, .ref q15795]) C (a_X10_kept l K G H15773 (x15797) (x15747) (tk) hTH15773 ga0 giq m15786 m15793 m15791 g15775 (by and_intros <;> first | assumption | omega)) yo_X10_kept wM_X10_473 ⟨⟨by decide, by decide⟩, by decide, by decide⟩ (x_rv C hTH15773 (ci := 10) rfl ga0 rg_112) rfl hl15685.1 rfl (Nat.le_of_ble_eq_true rfl) dX10_keepsBars_271 hSH15773 (AE_sub (fun _ _ => rfl) (by decide) hSH15773.1) (fun vH15798 H15798 locsH15798 pH15798 zH15798 kH15798 hSH15798 => ?_)
        obtain ⟨x15799, x15800, hvH15798, ex15800, hrH15798, m15801, g15802, mf15803, m15804, m15805, m15806, m15807, hTH15798⟩ := pH15798
        subst hvH15798
        clear zH15798
        replace m15801 := EQN.mk m15801
        have b15808 : UN (tk.toInt ≠ 0) (fun k => fI H15798 q4 k) (fun k => fI s.heap q4 k) := UN.congr (fun j => fI_kept (x_lt hTH15773 kH15798 gq4 (by decide))) b15776
        have b15809 : UN (tk.toInt ≠ 0) (fun k => fI H15798 q16 k) (fun k => fI s.heap q16 k) := UN.congr (fun j => fI_kept (x_lt hTH15773 kH15798 gq16 (by decide))) b15777
        have m15810 := (m15784).trans (fI_kept (x_lt hTH15773 kH15798 gq16 (by decide))).symm
        have m15811 := (m15794).trans (fI_kept (x_lt hTH15773 kH15798 gq15742 (by decide))).symm
        have m15812 := (ex15797).trans (fI_kept (x_lt hTH15773 kH15798 gq15795 (by decide))).symm
        have m15813 := (m15786).trans (MF.r mf15803 (k := 73) (by decide) (by decide)).symm
        have m15814 := (m15787).trans (MF.r mf15803 (k := 4) (by decide) (by decide)).symm
        have m15815 := (m15788).trans (MF.r mf15803 (k := 10) (by decide) (by decide)).symm
        have m15816 := (m15789).trans (MF.r mf15803 (k := 16) (by decide) (by decide)).symm
        have m15817 := (m15790).trans (MF.r mf15803 (k := 50) (by decide) (by decide)).symm
        have m15818 := (m15791).trans (MF.i mf15803 (k := 71) (by decide) (by decide)).symm
        have m15819 := (m15792).trans (MF.r mf15803 (k := 60) (by decide) (by decide)).symm
        have m15820 := (eq15795).trans (MF.r mf15803 (k := 61) (by decide) (by decide)).symm
        have mf15821 : MF K s.heap H15798 a0 [72] := MF.trans mf15774 mf15803 (by decide)
        have bx15800 := ty_fi (x := x15800) (k := 72) ex15800 hTH15798 ga0 rg_112 rfl
        have ce_x15747 := i_cl (x := x15747) (by omega)
        have b15822 : UN (tk.toInt = 0) (fun k => fI H15798 iq k) (fun k => fI s.heap iq k) := UN.tr m15807 b15778
        have b15823 : FB (fun k => fI H15798 iq k) (fun k => fI s.heap iq k) (6) := FB.wr b15779 m15806 (fun j hj => by omega)
        have b15824 : EQ (fun k => fI H15798 q4 k) (fun k => fI H15798 iq k) (6) (6) (10) := EQ.wr (EQ.congr (w1 := fun k => fI H15773 iq k) (fun j => fI_kept (x_lt hTH15773 kH15798 gq4 (by decide))) (fun _ => rfl) b15780) m15806 (fun j hj => by omega)
        have b15825 : EQ (fun k => fI H15798 q10 k) (fun k => fI H15798 iq k) (7) (6) (10) := EQ.wr (EQ.congr (w1 := fun k => fI H15773 iq k) (fun j => fI_kept (x_lt hTH15773 kH15798 gq10 (by decide))) (fun _ => rfl) b15781) m15806 (fun j hj => by omega)
        have b15826 : EQ (fun k => fI H15798 q50 k) (fun k => fI H15798 iq k) (11) (6) (10) := EQ.wr (EQ.congr (w1 := fun k => fI H15773 iq k) (fun j => fI_kept (x_lt hTH15773 kH15798 gq50 (by decide))) (fun _ => rfl) b15782) m15806 (fun j hj => by omega)
        have b15827 : EQ (fun k => fI H15798 q16 k) (fun k => fI H15798 iq k) (736) (3) (x15686.toNatClampNeg + 1) := EQ.wr (EQ.congr (w1 := fun k => fI H15773 iq k) (fun j => fI_kept (x_lt hTH15773 kH15798 gq16 (by decide))) (fun _ => rfl) b15783) m15806 (fun j hj => by omega)
        clear b15776 b15777 b15778 b15779 b15780 b15781 b15782 b15783 eq15795 ex15797 m15784 m15786 m15787 m15788 m15789 m15790 m15791 m15792 m15793 m15794
        clear m15806 m15807
        refine W.eq (g2 := F0 m 274 ls15684 [.int x15799, .int x15686, .ref q15795]) rfl ?_
        refine x_iast C hTH15798 hSH15798 gq15795 rg_155 (by omega) (by show _ < ((20 : Nat) : Int); omega) ⟨by have := i_rng x15799; omega, by have := i_rng x15799; omega⟩ (AE_in gq15795 (by decide)) dX10_keepsBars_274 (fun H15828 locsH15828 hTH15828 hSH15828 wH15828 => ?_)
        have mf15829 : MF K s.heap H15828 a0 [72] := MF.arr wH15828 (G_ne ga0 gq15795 (by decide)) mf15821
        have g15830 : WD (avw K H15828 a0) := WD.congr (fun k hk j => av_arr hTH15798 ga0 wH15828 gq15795 (by decide) (WD_ok 155 (by decide) k hk)) g15802
        have b15831 : UN (tk.toInt ≠ 0) (fun k => fI H15828 q4 k) (fun k => fI s.heap q4 k) := UN.congr (fun j => Wr.neI wH15828 (Or.inl (G_ne gq4 gq15795 (by decide)))) b15808
        have b15832 : UN (tk.toInt ≠ 0) (fun k => fI H15828 q16 k) (fun k => fI s.heap q16 k) := UN.congr (fun j => Wr.neI wH15828 (Or.inl (G_ne gq16 gq15795 (by decide)))) b15809
        have b15833 : UN (tk.toInt = 0) (fun k => fI H15828 iq k) (fun k => fI s.heap iq k) := UN.congr (fun j => Wr.neI wH15828 (Or.inl (G_ne giq gq15795 (by decide)))) b15822
        have b15834 : FB (fun k => fI H15828 iq k) (fun k => fI s.heap iq k) (6) := FB.congr (fun j => Wr.neI wH15828 (Or.inl (G_ne giq gq15795 (by decide)))) b15823
        have b15835 : EQ (fun k => fI H15828 q4 k) (fun k => fI H15828 iq k) (6) (6) (10) := EQ.congr (fun j => Wr.neI wH15828 (Or.inl (G_ne gq4 gq15795 (by decide)))) (fun j => Wr.neI wH15828 (Or.inl (G_ne giq gq15795 (by decide)))) b15824
        have b15836 : EQ (fun k => fI H15828 q10 k) (fun k => fI H15828 iq k) (7) (6) (10) := EQ.congr (fun j => Wr.neI wH15828 (Or.inl (G_ne gq10 gq15795 (by decide)))) (fun j => Wr.neI wH15828 (Or.inl (G_ne giq gq15795 (by decide)))) b15825
        have b15837 : EQ (fun k => fI H15828 q50 k) (fun k => fI H15828 iq k) (11) (6) (10) := EQ.congr (fun j => Wr.neI wH15828 (Or.inl (G_ne gq50 gq15795 (by decide)))) (fun j => Wr.neI wH15828 (Or.inl (G_ne giq gq15795 (by decide)))) b15826
        have b15838 : EQ (fun k => fI H15828 q16 k) (fun k => fI H15828 iq k) (736) (3) (x15686.toNatClampNeg + 1) := EQ.congr (fun j => Wr.neI wH15828 (Or.inl (G_ne gq16 gq15795 (by decide)))) (fun j => Wr.neI wH15828 (Or.inl (G_ne giq gq15795 (by decide)))) b15827
        have m15839 := m15810.trans (Wr.neI wH15828 (Or.inl (G_ne gq16 gq15795 (by decide)))).symm
        have m15840 := m15811.trans (Wr.neI wH15828 (Or.inl (G_ne gq15742 gq15795 (by decide)))).symm
        have m15842 := m15801.trans (Wr.neR wH15828 (Or.inl (G_ne ga0 gq15795 (by decide)))).symm
        have m15843 := m15814.trans (Wr.neR wH15828 (Or.inl (G_ne ga0 gq15795 (by decide)))).symm
        have m15844 := m15815.trans (Wr.neR wH15828 (Or.inl (G_ne ga0 gq15795 (by decide)))).symm
        have m15845 := m15816.trans (Wr.neR wH15828 (Or.inl (G_ne ga0 gq15795 (by decide)))).symm
        have m15846 := m15817.trans (Wr.neR wH15828 (Or.inl (G_ne ga0 gq15795 (by decide)))).symm
        have m15847 := m15818.trans (Wr.neI wH15828 (Or.inl (G_ne ga0 gq15795 (by decide)))).symm
        have m15848 := m15819.trans (Wr.neR wH15828 (Or.inl (G_ne ga0 gq15795 (by decide)))).symm
        have m15849 := m15820.trans (Wr.neR wH15828 (Or.inl (G_ne ga0 gq15795 (by decide)))).symm
        have m15850 := ex15800.trans (Wr.neI wH15828 (Or.inl (G_ne ga0 gq15795 (by decide)))).symm
        have m15851 := Wr.I wH15828
        have m15851 := m15851.symm
        clear b15808 b15809 b15822 b15823 b15824 b15825 b15826 b15827 ex15800 g15802 hTH15798 m15801 m15810 m15811 m15812 m15814 m15815 m15816 m15817 m15818 m15819 m15820 mf15821
        obtain ⟨x15852, ex15852⟩ : ∃ y : Int32, y = x15686 + 1 := ⟨_, rfl⟩
        have tx15852 := i_add ex15852 (by omega)
        refine lv_iinc (v := x15852) (lv' := [(1, .int x15852), (0, .ref a0)]) hx hb dX10_keepsBars_275 hl15685 (k := 1) rfl (by rw [ex15852]; rfl) (by decide) rfl (fun ls15853 hl15854 => ?_)
        refine lv_goto (tgt := 221) hx hb dX10_keepsBars_278 (by decide) ?_
        have cl_x15852 := i_cl (x := x15852) (by omega)
        exact ih221 ls15853 H15828 locsH15828 (x15852) (x15800) (lv_sub hl15854 [1, 0] rfl) hTH15828 hSH15828 ⟨by have := i_rng x15852; omega, by have := i_rng x15852; omega⟩ ⟨by have := i_rng x15800; omega, by have := i_rng x15800; omega⟩ m15850 m15842 m15843 m15844 m15845 m15846 m15847 b15833 b15834 (EQ.cast b15835 (by omega)) (EQ.cast b15836 (by omega)) (EQ.cast b15837 (by omega)) (EQ.cast b15838 (by omega)) b15831 b15832 mf15829 g15830 (by omega) (by and_intros <;> first | assumption | omega)
  have J191 : ∀ (nf : Nat) (ls15856 : Array Slot) (H15855 : Heap) (locsH15855 : List Loc) (x15858 : Int32) (x15859 : Int32), lv_has ls15856 2 [(0, .ref a0), (1, .int x15858)] → TY K G H15855 → va_S (AE G [112, 162, 113, 119, 122, 123, 124, 146, 114, 115, 116, 117, 118, 125, 154, 155, 120, 121] s.heap.size) s.heap H15855 locsH15855 → (0 ≤ x15858.toInt ∧ x15858.toInt ≤ 30) → (0 ≤ x15859.toInt ∧ x15859.toInt ≤ 16400) → (x15859 = fI H15855 a0 (K.1.2 10 72)) → (EQN iq (fR H15855 a0 (K.1.2 10 73))) → (EQN q4 (fR H15855 a0 (K.1.2 10 4))) → (EQN q10 (fR H15855 a0 (K.1.2 10 10))) → (EQN q16 (fR H15855 a0 (K.1.2 10 16))) → (EQN q50 (fR H15855 a0 (K.1.2 10 50))) → (tk = fI H15855 a0 (K.1.2 10 71)) → (UN (tk.toInt = 0) (fun k => fI H15855 iq k) (fun k => fI s.heap iq k)) → (FB (fun k => fI H15855 iq k) (fun k => fI s.heap iq k) (6)) → (EQ (fun k => fI H15855 q4 k) (fun k => fI H15855 iq k) (6) (6) (10)) → (EQ (fun k => fI H15855 q10 k) (fun k => fI H15855 iq k) (7) (6) (10)) → (EQ (fun k => fI H15855 q50 k) (fun k => fI H15855 iq k) (11) (6) (10)) → (EQ (fun k => fI H15855 q16 k) (fun k => fI H15855 iq k) (736) (3) (0)) → (UN (tk.toInt ≠ 0) (fun k => fI H15855 q4 k) (fun k => fI s.heap q4 k)) → (UN (tk.toInt ≠ 0) (fun k => fI H15855 q16 k) (fun k => fI s.heap q16 k)) → (MF K s.heap H15855 a0 [72]) → (WD (avw K H15855 a0)) → (30 - x15858.toInt < (nf : Int)) → (x15859.toInt = 706 + 1 * x15858.toInt) → W p l e ({ frames := 1, cells := 0, slots := 0, locals := 21 } : Room) s m (([.ref a0] : List Value).toArray) below meth c H15855 locsH15855 0 0 Q (F0 m 191 ls15856 []) := by
    intro nf
    induction nf with
    | zero =>
      intro ls15856 H15855 locsH15855 x15858 x15859 hl15857 hTH15855 hSH15855 bx15858 bx15859 ex15859 cy15860_0 cy15860_1 cy15860_2 cy15860_3 cy15860_4 cy15860_5 by15860_ui by15860_fb by15860_e4 by15860_e10 by15860_e50 by15860_e16 by15860_u4 by15860_u16 mfy15860 gy15860_WD hm191 iv191
      exfalso
      omega
    | succ nf ih191 =>
      intro ls15856 H15855 locsH15855 x15858 x15859 hl15857 hTH15855 hSH15855 bx15858 bx15859 ex15859 cy15860_0 cy15860_1 cy15860_2 cy15860_3 cy15860_4 cy15860_5 by15860_ui by15860_fb by15860_e4 by15860_e10 by15860_e50 by15860_e16 by15860_u4 by15860_u16 mfy15860 gy15860_WD hm191 iv191
      refine lv_iload_n hx hb dX10_keepsBars_191 rfl (lv_at hl15857 1 rfl) ?_
      refine lv_bipush (v := 30) hx hb dX10_keepsBars_192 (by decide) ?_
      refine lv_icmp_ge (tgt := 219) hx hb dX10_keepsBars_194 (by decide) (fun c15861 => ?_) (fun c15861 => ?_)
      · have k15862 := i_le c15861
        refine lv_iconst (v := 0) hx hb dX10_keepsBars_219 (by decide) ?_
        refine lv_istore_n (lv' := [(1, .int 0), (0, .ref a0)]) hx hb dX10_keepsBars_220 rfl hl15857 (by decide) rfl (fun ls15863 hl15864 => ?_)
        have cl00 : (0 : Int32).toNatClampNeg = 0 := rfl
        exact J221 ((20 - (0 : Int32).toInt).toNat + 1) ls15863 H15855 locsH15855 (0) (x15859) (lv_sub hl15864 [1, 0] rfl) hTH15855 hSH15855 (by decide) ⟨by have := i_rng x15859; omega, by have := i_rng x15859; omega⟩ ex15859 cy15860_0 cy15860_1 cy15860_2 cy15860_3 cy15860_4 cy15860_5 by15860_ui by15860_fb (EQ.cast by15860_e4 (by omega)) (EQ.cast by15860_e10 (by omega)) (EQ.cast by15860_e50 (by omega)) (EQ.cast by15860_e16 (by omega)) by15860_u4 by15860_u16 mfy15860 gy15860_WD (by omega) (by and_intros <;> first | assumption | omega)
      · have k15862 := i_nle c15861
        refine lv_aload_n hx hb dX10_keepsBars_197 rfl (lv_at hl15857 0 rfl) ?_
        refine x_gr C hTH15855 (ci := 10) (k := 9) rfl inX10 (by decide) wF_X10_29 ga0 rg_112 rfl dX10_keepsBars_198 (fun q15865 eq15865 gq15865 => ?_)
        replace eq15865 := EQN.mk eq15865
        refine lv_iload_n hx hb dX10_keepsBars_201 rfl (lv_at hl15857 1 rfl) ?_
        refine lv_aload_n hx hb dX10_keepsBars_202 rfl (lv_at hl15857 0 rfl) ?_
        refine lv_aload_n hx hb dX10_keepsBars_203 rfl (lv_at hl15857 0 rfl) ?_
        refine x_gr C hTH15855 (ci := 10) (k := 9) rfl inX10 (by decide) wF_X10_29 ga0 rg_112 rfl dX10_keepsBars_204 (fun q15866 eq15866 gq15866 => ?_)
        have uq15866 : q15865 = q15866 := (eq15865).trans eq15866.symm
        subst uq15866
        clear eq15866
        refine lv_iload_n hx hb dX10_keepsBars_207 rfl (lv_at hl15857 1 rfl) ?_
        refine x_ai C hTH15855 gq15865 rg_118 ⟨by omega, by show _ < ((30 : Nat) : Int); omega⟩ dX10_keepsBars_208 (fun x15867 ex15867 bx15867 => ?_)
        refine x_V (As := [.int x15867]) (rest := [.int x15858, .ref q15865]) C (a_X10_kept l K G H15855 (x15867) (x15859) (tk) hTH15855 ga0 giq cy15860_0 ex15859 cy15860_5 gy15860_WD (by and_intros <;> first | assumption | omega)) yo_X10_kept wM_X10_473 ⟨⟨by decide, by decide⟩, by decide, by decide⟩ (x_rv C hTH15855 (ci := 10) rfl ga0 rg_112) rfl hl15857.1 rfl (Nat.le_of_ble_eq_true rfl) dX10_keepsBars_209 hSH15855 (AE_sub (fun _ _ => rfl) (by decide) hSH15855.1) (fun vH15868 H15868 locsH15868 pH15868 zH15868 kH15868 hSH15868 => ?_)
        obtain ⟨x15869, x15870, hvH15868, ex15870, hrH15868, m15871, g15872, mf15873, m15874, m15875, m15876, m15877, hTH15868⟩ := pH15868
        subst hvH15868
        clear zH15868
        replace m15871 := EQN.mk m15871
        have b15878 : UN (tk.toInt ≠ 0) (fun k => fI H15868 q4 k) (fun k => fI s.heap q4 k) := UN.congr (fun j => fI_kept (x_lt hTH15855 kH15868 gq4 (by decide))) by15860_u4
        have b15879 : UN (tk.toInt ≠ 0) (fun k => fI H15868 q16 k) (fun k => fI s.heap q16 k) := UN.congr (fun j => fI_kept (x_lt hTH15855 kH15868 gq16 (by decide))) by15860_u16
        have m15880 := (ex15867).trans (fI_kept (x_lt hTH15855 kH15868 gq15865 (by decide))).symm
        have m15881 := (cy15860_0).trans (MF.r mf15873 (k := 73) (by decide) (by decide)).symm
        have m15882 := (cy15860_1).trans (MF.r mf15873 (k := 4) (by decide) (by decide)).symm
        have m15883 := (cy15860_2).trans (MF.r mf15873 (k := 10) (by decide) (by decide)).symm
        have m15884 := (cy15860_3).trans (MF.r mf15873 (k := 16) (by decide) (by decide)).symm
        have m15885 := (cy15860_4).trans (MF.r mf15873 (k := 50) (by decide) (by decide)).symm
        have m15886 := (cy15860_5).trans (MF.i mf15873 (k := 71) (by decide) (by decide)).symm
        have m15887 := (eq15865).trans (MF.r mf15873 (k := 9) (by decide) (by decide)).symm
        have mf15888 : MF K s.heap H15868 a0 [72] := MF.trans mfy15860 mf15873 (by decide)
        have bx15870 := ty_fi (x := x15870) (k := 72) ex15870 hTH15868 ga0 rg_112 rfl
        have ce_x15859 := i_cl (x := x15859) (by omega)
        have b15889 : UN (tk.toInt = 0) (fun k => fI H15868 iq k) (fun k => fI s.heap iq k) := UN.tr m15877 by15860_ui
        have b15890 : FB (fun k => fI H15868 iq k) (fun k => fI s.heap iq k) (6) := FB.wr by15860_fb m15876 (fun j hj => by omega)
        have b15891 : EQ (fun k => fI H15868 q4 k) (fun k => fI H15868 iq k) (6) (6) (10) := EQ.wr (EQ.congr (w1 := fun k => fI H15855 iq k) (fun j => fI_kept (x_lt hTH15855 kH15868 gq4 (by decide))) (fun _ => rfl) by15860_e4) m15876 (fun j hj => by omega)
        have b15892 : EQ (fun k => fI H15868 q10 k) (fun k => fI H15868 iq k) (7) (6) (10) := EQ.wr (EQ.congr (w1 := fun k => fI H15855 iq k) (fun j => fI_kept (x_lt hTH15855 kH15868 gq10 (by decide))) (fun _ => rfl) by15860_e10) m15876 (fun j hj => by omega)
        have b15893 : EQ (fun k => fI H15868 q50 k) (fun k => fI H15868 iq k) (11) (6) (10) := EQ.wr (EQ.congr (w1 := fun k => fI H15855 iq k) (fun j => fI_kept (x_lt hTH15855 kH15868 gq50 (by decide))) (fun _ => rfl) by15860_e50) m15876 (fun j hj => by omega)
        have b15894 : EQ (fun k => fI H15868 q16 k) (fun k => fI H15868 iq k) (736) (3) (0) := EQ.wr (EQ.congr (w1 := fun k => fI H15855 iq k) (fun j => fI_kept (x_lt hTH15855 kH15868 gq16 (by decide))) (fun _ => rfl) by15860_e16) m15876 (fun j hj => by omega)
        clear by15860_e10 by15860_e16 by15860_e4 by15860_e50 by15860_fb by15860_u16 by15860_u4 by15860_ui cy15860_0 cy15860_1 cy15860_2 cy15860_3 cy15860_4 cy15860_5 eq15865 ex15859 ex15867
        clear m15876 m15877
        refine W.eq (g2 := F0 m 212 ls15856 [.int x15869, .int x15858, .ref q15865]) rfl ?_
        refine x_iast C hTH15868 hSH15868 gq15865 rg_118 (by omega) (by show _ < ((30 : Nat) : Int); omega) ⟨by have := i_rng x15869; omega, by have := i_rng x15869; omega⟩ (AE_in gq15865 (by decide)) dX10_keepsBars_212 (fun H15895 locsH15895 hTH15895 hSH15895 wH15895 => ?_)
        have mf15896 : MF K s.heap H15895 a0 [72] := MF.arr wH15895 (G_ne ga0 gq15865 (by decide)) mf15888
        have g15897 : WD (avw K H15895 a0) := WD.congr (fun k hk j => av_arr hTH15868 ga0 wH15895 gq15865 (by decide) (WD_ok 118 (by decide) k hk)) g15872
        have b15898 : UN (tk.toInt ≠ 0) (fun k => fI H15895 q4 k) (fun k => fI s.heap q4 k) := UN.congr (fun j => Wr.neI wH15895 (Or.inl (G_ne gq4 gq15865 (by decide)))) b15878
        have b15899 : UN (tk.toInt ≠ 0) (fun k => fI H15895 q16 k) (fun k => fI s.heap q16 k) := UN.congr (fun j => Wr.neI wH15895 (Or.inl (G_ne gq16 gq15865 (by decide)))) b15879
        have b15900 : UN (tk.toInt = 0) (fun k => fI H15895 iq k) (fun k => fI s.heap iq k) := UN.congr (fun j => Wr.neI wH15895 (Or.inl (G_ne giq gq15865 (by decide)))) b15889
        have b15901 : FB (fun k => fI H15895 iq k) (fun k => fI s.heap iq k) (6) := FB.congr (fun j => Wr.neI wH15895 (Or.inl (G_ne giq gq15865 (by decide)))) b15890
        have b15902 : EQ (fun k => fI H15895 q4 k) (fun k => fI H15895 iq k) (6) (6) (10) := EQ.congr (fun j => Wr.neI wH15895 (Or.inl (G_ne gq4 gq15865 (by decide)))) (fun j => Wr.neI wH15895 (Or.inl (G_ne giq gq15865 (by decide)))) b15891
        have b15903 : EQ (fun k => fI H15895 q10 k) (fun k => fI H15895 iq k) (7) (6) (10) := EQ.congr (fun j => Wr.neI wH15895 (Or.inl (G_ne gq10 gq15865 (by decide)))) (fun j => Wr.neI wH15895 (Or.inl (G_ne giq gq15865 (by decide)))) b15892
        have b15904 : EQ (fun k => fI H15895 q50 k) (fun k => fI H15895 iq k) (11) (6) (10) := EQ.congr (fun j => Wr.neI wH15895 (Or.inl (G_ne gq50 gq15865 (by decide)))) (fun j => Wr.neI wH15895 (Or.inl (G_ne giq gq15865 (by decide)))) b15893
        have b15905 : EQ (fun k => fI H15895 q16 k) (fun k => fI H15895 iq k) (736) (3) (0) := EQ.congr (fun j => Wr.neI wH15895 (Or.inl (G_ne gq16 gq15865 (by decide)))) (fun j => Wr.neI wH15895 (Or.inl (G_ne giq gq15865 (by decide)))) b15894
        have m15907 := m15871.trans (Wr.neR wH15895 (Or.inl (G_ne ga0 gq15865 (by decide)))).symm
        have m15908 := m15882.trans (Wr.neR wH15895 (Or.inl (G_ne ga0 gq15865 (by decide)))).symm
        have m15909 := m15883.trans (Wr.neR wH15895 (Or.inl (G_ne ga0 gq15865 (by decide)))).symm
        have m15910 := m15884.trans (Wr.neR wH15895 (Or.inl (G_ne ga0 gq15865 (by decide)))).symm
        have m15911 := m15885.trans (Wr.neR wH15895 (Or.inl (G_ne ga0 gq15865 (by decide)))).symm
        have m15912 := m15886.trans (Wr.neI wH15895 (Or.inl (G_ne ga0 gq15865 (by decide)))).symm
        have m15913 := m15887.trans (Wr.neR wH15895 (Or.inl (G_ne ga0 gq15865 (by decide)))).symm
        have m15914 := ex15870.trans (Wr.neI wH15895 (Or.inl (G_ne ga0 gq15865 (by decide)))).symm
        have m15915 := Wr.I wH15895
        have m15915 := m15915.symm
        clear b15878 b15879 b15889 b15890 b15891 b15892 b15893 b15894 ex15870 g15872 hTH15868 m15871 m15880 m15882 m15883 m15884 m15885 m15886 m15887 mf15888
        obtain ⟨x15916, ex15916⟩ : ∃ y : Int32, y = x15858 + 1 := ⟨_, rfl⟩
        have tx15916 := i_add ex15916 (by omega)
        refine lv_iinc (v := x15916) (lv' := [(1, .int x15916), (0, .ref a0)]) hx hb dX10_keepsBars_213 hl15857 (k := 1) rfl (by rw [ex15916]; rfl) (by decide) rfl (fun ls15917 hl15918 => ?_)
        refine lv_goto (tgt := 191) hx hb dX10_keepsBars_216 (by decide) ?_
        exact ih191 ls15917 H15895 locsH15895 (x15916) (x15870) (lv_sub hl15918 [1, 0] rfl) hTH15895 hSH15895 ⟨by have := i_rng x15916; omega, by have := i_rng x15916; omega⟩ ⟨by have := i_rng x15870; omega, by have := i_rng x15870; omega⟩ m15914 m15907 m15908 m15909 m15910 m15911 m15912 b15900 b15901 (EQ.cast b15902 (by omega)) (EQ.cast b15903 (by omega)) (EQ.cast b15904 (by omega)) (EQ.cast b15905 (by omega)) b15898 b15899 mf15896 g15897 (by omega) (by and_intros <;> first | assumption | omega)
  have J112 : ∀ (nf : Nat) (ls15920 : Array Slot) (H15919 : Heap) (locsH15919 : List Loc) (x15922 : Int32) (x15923 : Int32), lv_has ls15920 2 [(0, .ref a0), (1, .int x15922)] → TY K G H15919 → va_S (AE G [112, 162, 113, 119, 122, 123, 124, 146, 114, 115, 116, 117, 118, 125, 154, 155, 120, 121] s.heap.size) s.heap H15919 locsH15919 → (0 ≤ x15922.toInt ∧ x15922.toInt ≤ 160) → (0 ≤ x15923.toInt ∧ x15923.toInt ≤ 16400) → (x15923 = fI H15919 a0 (K.1.2 10 72)) → (EQN iq (fR H15919 a0 (K.1.2 10 73))) → (EQN q4 (fR H15919 a0 (K.1.2 10 4))) → (EQN q10 (fR H15919 a0 (K.1.2 10 10))) → (EQN q16 (fR H15919 a0 (K.1.2 10 16))) → (EQN q50 (fR H15919 a0 (K.1.2 10 50))) → (tk = fI H15919 a0 (K.1.2 10 71)) → (UN (tk.toInt = 0) (fun k => fI H15919 iq k) (fun k => fI s.heap iq k)) → (FB (fun k => fI H15919 iq k) (fun k => fI s.heap iq k) (6)) → (EQ (fun k => fI H15919 q4 k) (fun k => fI H15919 iq k) (6) (6) (10)) → (EQ (fun k => fI H15919 q10 k) (fun k => fI H15919 iq k) (7) (6) (10)) → (EQ (fun k => fI H15919 q50 k) (fun k => fI H15919 iq k) (11) (6) (10)) → (EQ (fun k => fI H15919 q16 k) (fun k => fI H15919 iq k) (736) (3) (0)) → (UN (tk.toInt ≠ 0) (fun k => fI H15919 q4 k) (fun k => fI s.heap q4 k)) → (UN (tk.toInt ≠ 0) (fun k => fI H15919 q16 k) (fun k => fI s.heap q16 k)) → (MF K s.heap H15919 a0 [72]) → (WD (avw K H15919 a0)) → (160 - x15922.toInt < (nf : Int)) → (x15923.toInt = 66 + 4 * x15922.toInt) → W p l e ({ frames := 1, cells := 0, slots := 0, locals := 21 } : Room) s m (([.ref a0] : List Value).toArray) below meth c H15919 locsH15919 0 0 Q (F0 m 112 ls15920 []) := by
    intro nf
    induction nf with
    | zero =>
      intro ls15920 H15919 locsH15919 x15922 x15923 hl15921 hTH15919 hSH15919 bx15922 bx15923 ex15923 cy15924_0 cy15924_1 cy15924_2 cy15924_3 cy15924_4 cy15924_5 by15924_ui by15924_fb by15924_e4 by15924_e10 by15924_e50 by15924_e16 by15924_u4 by15924_u16 mfy15924 gy15924_WD hm112 iv112
      exfalso
      omega
    | succ nf ih112 =>
      intro ls15920 H15919 locsH15919 x15922 x15923 hl15921 hTH15919 hSH15919 bx15922 bx15923 ex15923 cy15924_0 cy15924_1 cy15924_2 cy15924_3 cy15924_4 cy15924_5 by15924_ui by15924_fb by15924_e4 by15924_e10 by15924_e50 by15924_e16 by15924_u4 by15924_u16 mfy15924 gy15924_WD hm112 iv112
      refine lv_iload_n hx hb dX10_keepsBars_112 rfl (lv_at hl15921 1 rfl) ?_
      refine lv_sipush (v := 160) hx hb dX10_keepsBars_113 (by decide) ?_
      refine lv_icmp_ge (tgt := 189) hx hb dX10_keepsBars_116 (by decide) (fun c15925 => ?_) (fun c15925 => ?_)
      · have k15926 := i_le c15925
        refine lv_iconst (v := 0) hx hb dX10_keepsBars_189 (by decide) ?_
        refine lv_istore_n (lv' := [(1, .int 0), (0, .ref a0)]) hx hb dX10_keepsBars_190 rfl hl15921 (by decide) rfl (fun ls15927 hl15928 => ?_)
        have cl00 : (0 : Int32).toNatClampNeg = 0 := rfl
        exact J191 ((30 - (0 : Int32).toInt).toNat + 1) ls15927 H15919 locsH15919 (0) (x15923) (lv_sub hl15928 [1, 0] rfl) hTH15919 hSH15919 (by decide) ⟨by have := i_rng x15923; omega, by have := i_rng x15923; omega⟩ ex15923 cy15924_0 cy15924_1 cy15924_2 cy15924_3 cy15924_4 cy15924_5 by15924_ui by15924_fb (EQ.cast by15924_e4 (by omega)) (EQ.cast by15924_e10 (by omega)) (EQ.cast by15924_e50 (by omega)) (EQ.cast by15924_e16 (by omega)) by15924_u4 by15924_u16 mfy15924 gy15924_WD (by omega) (by and_intros <;> first | assumption | omega)
      · have k15926 := i_nle c15925
        refine lv_aload_n hx hb dX10_keepsBars_119 rfl (lv_at hl15921 0 rfl) ?_
        refine x_gr C hTH15919 (ci := 10) (k := 5) rfl inX10 (by decide) wF_X10_17 ga0 rg_112 rfl dX10_keepsBars_120 (fun q15929 eq15929 gq15929 => ?_)
        replace eq15929 := EQN.mk eq15929
        refine lv_iload_n hx hb dX10_keepsBars_123 rfl (lv_at hl15921 1 rfl) ?_
        refine lv_aload_n hx hb dX10_keepsBars_124 rfl (lv_at hl15921 0 rfl) ?_
        refine lv_aload_n hx hb dX10_keepsBars_125 rfl (lv_at hl15921 0 rfl) ?_
        refine x_gr C hTH15919 (ci := 10) (k := 5) rfl inX10 (by decide) wF_X10_17 ga0 rg_112 rfl dX10_keepsBars_126 (fun q15930 eq15930 gq15930 => ?_)
        have uq15930 : q15929 = q15930 := (eq15929).trans eq15930.symm
        subst uq15930
        clear eq15930
        refine lv_iload_n hx hb dX10_keepsBars_129 rfl (lv_at hl15921 1 rfl) ?_
        refine x_ai C hTH15919 gq15929 rg_114 ⟨by omega, by show _ < ((160 : Nat) : Int); omega⟩ dX10_keepsBars_130 (fun x15931 ex15931 bx15931 => ?_)
        refine x_V (As := [.int x15931]) (rest := [.int x15922, .ref q15929]) C (a_X10_kept l K G H15919 (x15931) (x15923) (tk) hTH15919 ga0 giq cy15924_0 ex15923 cy15924_5 gy15924_WD (by and_intros <;> first | assumption | omega)) yo_X10_kept wM_X10_473 ⟨⟨by decide, by decide⟩, by decide, by decide⟩ (x_rv C hTH15919 (ci := 10) rfl ga0 rg_112) rfl hl15921.1 rfl (Nat.le_of_ble_eq_true rfl) dX10_keepsBars_131 hSH15919 (AE_sub (fun _ _ => rfl) (by decide) hSH15919.1) (fun vH15932 H15932 locsH15932 pH15932 zH15932 kH15932 hSH15932 => ?_)
        obtain ⟨x15933, x15934, hvH15932, ex15934, hrH15932, m15935, g15936, mf15937, m15938, m15939, m15940, m15941, hTH15932⟩ := pH15932
        subst hvH15932
        clear zH15932
        replace m15935 := EQN.mk m15935
        have b15942 : UN (tk.toInt ≠ 0) (fun k => fI H15932 q4 k) (fun k => fI s.heap q4 k) := UN.congr (fun j => fI_kept (x_lt hTH15919 kH15932 gq4 (by decide))) by15924_u4
        have b15943 : UN (tk.toInt ≠ 0) (fun k => fI H15932 q16 k) (fun k => fI s.heap q16 k) := UN.congr (fun j => fI_kept (x_lt hTH15919 kH15932 gq16 (by decide))) by15924_u16
        have m15944 := (ex15931).trans (fI_kept (x_lt hTH15919 kH15932 gq15929 (by decide))).symm
        have m15945 := (cy15924_0).trans (MF.r mf15937 (k := 73) (by decide) (by decide)).symm
        have m15946 := (cy15924_1).trans (MF.r mf15937 (k := 4) (by decide) (by decide)).symm
        have m15947 := (cy15924_2).trans (MF.r mf15937 (k := 10) (by decide) (by decide)).symm
        have m15948 := (cy15924_3).trans (MF.r mf15937 (k := 16) (by decide) (by decide)).symm
        have m15949 := (cy15924_4).trans (MF.r mf15937 (k := 50) (by decide) (by decide)).symm
        have m15950 := (cy15924_5).trans (MF.i mf15937 (k := 71) (by decide) (by decide)).symm
        have m15951 := (eq15929).trans (MF.r mf15937 (k := 5) (by decide) (by decide)).symm
        have mf15952 : MF K s.heap H15932 a0 [72] := MF.trans mfy15924 mf15937 (by decide)
        have bx15934 := ty_fi (x := x15934) (k := 72) ex15934 hTH15932 ga0 rg_112 rfl
        have ce_x15923 := i_cl (x := x15923) (by omega)
        have b15953 : UN (tk.toInt = 0) (fun k => fI H15932 iq k) (fun k => fI s.heap iq k) := UN.tr m15941 by15924_ui
        have b15954 : FB (fun k => fI H15932 iq k) (fun k => fI s.heap iq k) (6) := FB.wr by15924_fb m15940 (fun j hj => by omega)
        have b15955 : EQ (fun k => fI H15932 q4 k) (fun k => fI H15932 iq k) (6) (6) (10) := EQ.wr (EQ.congr (w1 := fun k => fI H15919 iq k) (fun j => fI_kept (x_lt hTH15919 kH15932 gq4 (by decide))) (fun _ => rfl) by15924_e4) m15940 (fun j hj => by omega)
        have b15956 : EQ (fun k => fI H15932 q10 k) (fun k => fI H15932 iq k) (7) (6) (10) := EQ.wr (EQ.congr (w1 := fun k => fI H15919 iq k) (fun j => fI_kept (x_lt hTH15919 kH15932 gq10 (by decide))) (fun _ => rfl) by15924_e10) m15940 (fun j hj => by omega)
        have b15957 : EQ (fun k => fI H15932 q50 k) (fun k => fI H15932 iq k) (11) (6) (10) := EQ.wr (EQ.congr (w1 := fun k => fI H15919 iq k) (fun j => fI_kept (x_lt hTH15919 kH15932 gq50 (by decide))) (fun _ => rfl) by15924_e50) m15940 (fun j hj => by omega)
        have b15958 : EQ (fun k => fI H15932 q16 k) (fun k => fI H15932 iq k) (736) (3) (0) := EQ.wr (EQ.congr (w1 := fun k => fI H15919 iq k) (fun j => fI_kept (x_lt hTH15919 kH15932 gq16 (by decide))) (fun _ => rfl) by15924_e16) m15940 (fun j hj => by omega)
        clear by15924_e10 by15924_e16 by15924_e4 by15924_e50 by15924_fb by15924_u16 by15924_u4 by15924_ui cy15924_0 cy15924_1 cy15924_2 cy15924_3 cy15924_4 cy15924_5 eq15929 ex15923 ex15931
        clear m15940 m15941
        refine W.eq (g2 := F0 m 134 ls15920 [.int x15933, .int x15922, .ref q15929]) rfl ?_
        refine x_iast C hTH15932 hSH15932 gq15929 rg_114 (by omega) (by show _ < ((160 : Nat) : Int); omega) ⟨by have := i_rng x15933; omega, by have := i_rng x15933; omega⟩ (AE_in gq15929 (by decide)) dX10_keepsBars_134 (fun H15959 locsH15959 hTH15959 hSH15959 wH15959 => ?_)
        have mf15960 : MF K s.heap H15959 a0 [72] := MF.arr wH15959 (G_ne ga0 gq15929 (by decide)) mf15952
        have g15961 : WD (avw K H15959 a0) := WD.congr (fun k hk j => av_arr hTH15932 ga0 wH15959 gq15929 (by decide) (WD_ok 114 (by decide) k hk)) g15936
        have b15962 : UN (tk.toInt ≠ 0) (fun k => fI H15959 q4 k) (fun k => fI s.heap q4 k) := UN.congr (fun j => Wr.neI wH15959 (Or.inl (G_ne gq4 gq15929 (by decide)))) b15942
        have b15963 : UN (tk.toInt ≠ 0) (fun k => fI H15959 q16 k) (fun k => fI s.heap q16 k) := UN.congr (fun j => Wr.neI wH15959 (Or.inl (G_ne gq16 gq15929 (by decide)))) b15943
        have b15964 : UN (tk.toInt = 0) (fun k => fI H15959 iq k) (fun k => fI s.heap iq k) := UN.congr (fun j => Wr.neI wH15959 (Or.inl (G_ne giq gq15929 (by decide)))) b15953
        have b15965 : FB (fun k => fI H15959 iq k) (fun k => fI s.heap iq k) (6) := FB.congr (fun j => Wr.neI wH15959 (Or.inl (G_ne giq gq15929 (by decide)))) b15954
        have b15966 : EQ (fun k => fI H15959 q4 k) (fun k => fI H15959 iq k) (6) (6) (10) := EQ.congr (fun j => Wr.neI wH15959 (Or.inl (G_ne gq4 gq15929 (by decide)))) (fun j => Wr.neI wH15959 (Or.inl (G_ne giq gq15929 (by decide)))) b15955
        have b15967 : EQ (fun k => fI H15959 q10 k) (fun k => fI H15959 iq k) (7) (6) (10) := EQ.congr (fun j => Wr.neI wH15959 (Or.inl (G_ne gq10 gq15929 (by decide)))) (fun j => Wr.neI wH15959 (Or.inl (G_ne giq gq15929 (by decide)))) b15956
        have b15968 : EQ (fun k => fI H15959 q50 k) (fun k => fI H15959 iq k) (11) (6) (10) := EQ.congr (fun j => Wr.neI wH15959 (Or.inl (G_ne gq50 gq15929 (by decide)))) (fun j => Wr.neI wH15959 (Or.inl (G_ne giq gq15929 (by decide)))) b15957
        have b15969 : EQ (fun k => fI H15959 q16 k) (fun k => fI H15959 iq k) (736) (3) (0) := EQ.congr (fun j => Wr.neI wH15959 (Or.inl (G_ne gq16 gq15929 (by decide)))) (fun j => Wr.neI wH15959 (Or.inl (G_ne giq gq15929 (by decide)))) b15958
        have m15971 := m15935.trans (Wr.neR wH15959 (Or.inl (G_ne ga0 gq15929 (by decide)))).symm
        have m15972 := m15946.trans (Wr.neR wH15959 (Or.inl (G_ne ga0 gq15929 (by decide)))).symm
        have m15973 := m15947.trans (Wr.neR wH15959 (Or.inl (G_ne ga0 gq15929 (by decide)))).symm
        have m15974 := m15948.trans (Wr.neR wH15959 (Or.inl (G_ne ga0 gq15929 (by decide)))).symm
        have m15975 := m15949.trans (Wr.neR wH15959 (Or.inl (G_ne ga0 gq15929 (by decide)))).symm
        have m15976 := m15950.trans (Wr.neI wH15959 (Or.inl (G_ne ga0 gq15929 (by decide)))).symm
        have m15977 := m15951.trans (Wr.neR wH15959 (Or.inl (G_ne ga0 gq15929 (by decide)))).symm
        have m15978 := ex15934.trans (Wr.neI wH15959 (Or.inl (G_ne ga0 gq15929 (by decide)))).symm
        have m15979 := Wr.I wH15959
        have m15979 := m15979.symm
        clear b15942 b15943 b15953 b15954 b15955 b15956 b15957 b15958 ex15934 g15936 hTH15932 m15935 m15944 m15946 m15947 m15948 m15949 m15950 m15951 mf15952
        refine lv_aload_n hx hb dX10_keepsBars_135 rfl (lv_at hl15921 0 rfl) ?_
        refine x_gr C hTH15959 (ci := 10) (k := 6) rfl inX10 (by decide) wF_X10_20 ga0 rg_112 rfl dX10_keepsBars_136 (fun q15980 eq15980 gq15980 => ?_)
        replace eq15980 := EQN.mk eq15980
        refine lv_iload_n hx hb dX10_keepsBars_139 rfl (lv_at hl15921 1 rfl) ?_
        refine lv_aload_n hx hb dX10_keepsBars_140 rfl (lv_at hl15921 0 rfl) ?_
        refine lv_aload_n hx hb dX10_keepsBars_141 rfl (lv_at hl15921 0 rfl) ?_
        refine x_gr C hTH15959 (ci := 10) (k := 6) rfl inX10 (by decide) wF_X10_20 ga0 rg_112 rfl dX10_keepsBars_142 (fun q15981 eq15981 gq15981 => ?_)
        have uq15981 : q15980 = q15981 := (eq15980).trans eq15981.symm
        subst uq15981
        clear eq15981
        refine lv_iload_n hx hb dX10_keepsBars_145 rfl (lv_at hl15921 1 rfl) ?_
        refine x_ai C hTH15959 gq15980 rg_115 ⟨by omega, by show _ < ((160 : Nat) : Int); omega⟩ dX10_keepsBars_146 (fun x15982 ex15982 bx15982 => ?_)
        refine x_V (As := [.int x15982]) (rest := [.int x15922, .ref q15980]) C (a_X10_kept l K G H15959 (x15982) (x15934) (tk) hTH15959 ga0 giq m15971 m15978 m15976 g15961 (by and_intros <;> first | assumption | omega)) yo_X10_kept wM_X10_473 ⟨⟨by decide, by decide⟩, by decide, by decide⟩ (x_rv C hTH15959 (ci := 10) rfl ga0 rg_112) rfl hl15921.1 rfl (Nat.le_of_ble_eq_true rfl) dX10_keepsBars_147 hSH15959 (AE_sub (fun _ _ => rfl) (by decide) hSH15959.1) (fun vH15983 H15983 locsH15983 pH15983 zH15983 kH15983 hSH15983 => ?_)
        obtain ⟨x15984, x15985, hvH15983, ex15985, hrH15983, m15986, g15987, mf15988, m15989, m15990, m15991, m15992, hTH15983⟩ := pH15983
        subst hvH15983
        clear zH15983
        replace m15986 := EQN.mk m15986
        have b15993 : UN (tk.toInt ≠ 0) (fun k => fI H15983 q4 k) (fun k => fI s.heap q4 k) := UN.congr (fun j => fI_kept (x_lt hTH15959 kH15983 gq4 (by decide))) b15962
        have b15994 : UN (tk.toInt ≠ 0) (fun k => fI H15983 q16 k) (fun k => fI s.heap q16 k) := UN.congr (fun j => fI_kept (x_lt hTH15959 kH15983 gq16 (by decide))) b15963
        have m15995 := (m15979).trans (fI_kept (x_lt hTH15959 kH15983 gq15929 (by decide))).symm
        have m15996 := (ex15982).trans (fI_kept (x_lt hTH15959 kH15983 gq15980 (by decide))).symm
        have m15997 := (m15971).trans (MF.r mf15988 (k := 73) (by decide) (by decide)).symm
        have m15998 := (m15972).trans (MF.r mf15988 (k := 4) (by decide) (by decide)).symm
        have m15999 := (m15973).trans (MF.r mf15988 (k := 10) (by decide) (by decide)).symm
        have m16000 := (m15974).trans (MF.r mf15988 (k := 16) (by decide) (by decide)).symm
        have m16001 := (m15975).trans (MF.r mf15988 (k := 50) (by decide) (by decide)).symm
        have m16002 := (m15976).trans (MF.i mf15988 (k := 71) (by decide) (by decide)).symm
        have m16003 := (m15977).trans (MF.r mf15988 (k := 5) (by decide) (by decide)).symm
        have m16004 := (eq15980).trans (MF.r mf15988 (k := 6) (by decide) (by decide)).symm
        have mf16005 : MF K s.heap H15983 a0 [72] := MF.trans mf15960 mf15988 (by decide)
        have bx15985 := ty_fi (x := x15985) (k := 72) ex15985 hTH15983 ga0 rg_112 rfl
        have ce_x15934 := i_cl (x := x15934) (by omega)
        have b16006 : UN (tk.toInt = 0) (fun k => fI H15983 iq k) (fun k => fI s.heap iq k) := UN.tr m15992 b15964
        have b16007 : FB (fun k => fI H15983 iq k) (fun k => fI s.heap iq k) (6) := FB.wr b15965 m15991 (fun j hj => by omega)
        have b16008 : EQ (fun k => fI H15983 q4 k) (fun k => fI H15983 iq k) (6) (6) (10) := EQ.wr (EQ.congr (w1 := fun k => fI H15959 iq k) (fun j => fI_kept (x_lt hTH15959 kH15983 gq4 (by decide))) (fun _ => rfl) b15966) m15991 (fun j hj => by omega)
        have b16009 : EQ (fun k => fI H15983 q10 k) (fun k => fI H15983 iq k) (7) (6) (10) := EQ.wr (EQ.congr (w1 := fun k => fI H15959 iq k) (fun j => fI_kept (x_lt hTH15959 kH15983 gq10 (by decide))) (fun _ => rfl) b15967) m15991 (fun j hj => by omega)
        have b16010 : EQ (fun k => fI H15983 q50 k) (fun k => fI H15983 iq k) (11) (6) (10) := EQ.wr (EQ.congr (w1 := fun k => fI H15959 iq k) (fun j => fI_kept (x_lt hTH15959 kH15983 gq50 (by decide))) (fun _ => rfl) b15968) m15991 (fun j hj => by omega)
        have b16011 : EQ (fun k => fI H15983 q16 k) (fun k => fI H15983 iq k) (736) (3) (0) := EQ.wr (EQ.congr (w1 := fun k => fI H15959 iq k) (fun j => fI_kept (x_lt hTH15959 kH15983 gq16 (by decide))) (fun _ => rfl) b15969) m15991 (fun j hj => by omega)
        clear b15962 b15963 b15964 b15965 b15966 b15967 b15968 b15969 eq15980 ex15982 m15971 m15972 m15973 m15974 m15975 m15976 m15977 m15978 m15979
        clear m15991 m15992
        refine W.eq (g2 := F0 m 150 ls15920 [.int x15984, .int x15922, .ref q15980]) rfl ?_
        refine x_iast C hTH15983 hSH15983 gq15980 rg_115 (by omega) (by show _ < ((160 : Nat) : Int); omega) ⟨by have := i_rng x15984; omega, by have := i_rng x15984; omega⟩ (AE_in gq15980 (by decide)) dX10_keepsBars_150 (fun H16012 locsH16012 hTH16012 hSH16012 wH16012 => ?_)
        have mf16013 : MF K s.heap H16012 a0 [72] := MF.arr wH16012 (G_ne ga0 gq15980 (by decide)) mf16005
        have g16014 : WD (avw K H16012 a0) := WD.congr (fun k hk j => av_arr hTH15983 ga0 wH16012 gq15980 (by decide) (WD_ok 115 (by decide) k hk)) g15987
        have b16015 : UN (tk.toInt ≠ 0) (fun k => fI H16012 q4 k) (fun k => fI s.heap q4 k) := UN.congr (fun j => Wr.neI wH16012 (Or.inl (G_ne gq4 gq15980 (by decide)))) b15993
        have b16016 : UN (tk.toInt ≠ 0) (fun k => fI H16012 q16 k) (fun k => fI s.heap q16 k) := UN.congr (fun j => Wr.neI wH16012 (Or.inl (G_ne gq16 gq15980 (by decide)))) b15994
        have b16017 : UN (tk.toInt = 0) (fun k => fI H16012 iq k) (fun k => fI s.heap iq k) := UN.congr (fun j => Wr.neI wH16012 (Or.inl (G_ne giq gq15980 (by decide)))) b16006
        have b16018 : FB (fun k => fI H16012 iq k) (fun k => fI s.heap iq k) (6) := FB.congr (fun j => Wr.neI wH16012 (Or.inl (G_ne giq gq15980 (by decide)))) b16007
        have b16019 : EQ (fun k => fI H16012 q4 k) (fun k => fI H16012 iq k) (6) (6) (10) := EQ.congr (fun j => Wr.neI wH16012 (Or.inl (G_ne gq4 gq15980 (by decide)))) (fun j => Wr.neI wH16012 (Or.inl (G_ne giq gq15980 (by decide)))) b16008
        have b16020 : EQ (fun k => fI H16012 q10 k) (fun k => fI H16012 iq k) (7) (6) (10) := EQ.congr (fun j => Wr.neI wH16012 (Or.inl (G_ne gq10 gq15980 (by decide)))) (fun j => Wr.neI wH16012 (Or.inl (G_ne giq gq15980 (by decide)))) b16009
        have b16021 : EQ (fun k => fI H16012 q50 k) (fun k => fI H16012 iq k) (11) (6) (10) := EQ.congr (fun j => Wr.neI wH16012 (Or.inl (G_ne gq50 gq15980 (by decide)))) (fun j => Wr.neI wH16012 (Or.inl (G_ne giq gq15980 (by decide)))) b16010
        have b16022 : EQ (fun k => fI H16012 q16 k) (fun k => fI H16012 iq k) (736) (3) (0) := EQ.congr (fun j => Wr.neI wH16012 (Or.inl (G_ne gq16 gq15980 (by decide)))) (fun j => Wr.neI wH16012 (Or.inl (G_ne giq gq15980 (by decide)))) b16011
        have m16023 := m15995.trans (Wr.neI wH16012 (Or.inl (G_ne gq15929 gq15980 (by decide)))).symm
        have m16025 := m15986.trans (Wr.neR wH16012 (Or.inl (G_ne ga0 gq15980 (by decide)))).symm
        have m16026 := m15998.trans (Wr.neR wH16012 (Or.inl (G_ne ga0 gq15980 (by decide)))).symm
        have m16027 := m15999.trans (Wr.neR wH16012 (Or.inl (G_ne ga0 gq15980 (by decide)))).symm
        have m16028 := m16000.trans (Wr.neR wH16012 (Or.inl (G_ne ga0 gq15980 (by decide)))).symm
        have m16029 := m16001.trans (Wr.neR wH16012 (Or.inl (G_ne ga0 gq15980 (by decide)))).symm
        have m16030 := m16002.trans (Wr.neI wH16012 (Or.inl (G_ne ga0 gq15980 (by decide)))).symm
        have m16031 := m16003.trans (Wr.neR wH16012 (Or.inl (G_ne ga0 gq15980 (by decide)))).symm
        have m16032 := m16004.trans (Wr.neR wH16012 (Or.inl (G_ne ga0 gq15980 (by decide)))).symm
        have m16033 := ex15985.trans (Wr.neI wH16012 (Or.inl (G_ne ga0 gq15980 (by decide)))).symm
        have m16034 := Wr.I wH16012
        have m16034 := m16034.symm
        clear b15993 b15994 b16006 b16007 b16008 b16009 b16010 b16011 ex15985 g15987 hTH15983 m15986 m15995 m15996 m15998 m15999 m16000 m16001 m16002 m16003 m16004 mf16005
        refine lv_aload_n hx hb dX10_keepsBars_151 rfl (lv_at hl15921 0 rfl) ?_
        refine x_gr C hTH16012 (ci := 10) (k := 7) rfl inX10 (by decide) wF_X10_23 ga0 rg_112 rfl dX10_keepsBars_152 (fun q16035 eq16035 gq16035 => ?_)
        replace eq16035 := EQN.mk eq16035
        refine lv_iload_n hx hb dX10_keepsBars_155 rfl (lv_at hl15921 1 rfl) ?_
        refine lv_aload_n hx hb dX10_keepsBars_156 rfl (lv_at hl15921 0 rfl) ?_
        refine lv_aload_n hx hb dX10_keepsBars_157 rfl (lv_at hl15921 0 rfl) ?_
        refine x_gr C hTH16012 (ci := 10) (k := 7) rfl inX10 (by decide) wF_X10_23 ga0 rg_112 rfl dX10_keepsBars_158 (fun q16036 eq16036 gq16036 => ?_)
        have uq16036 : q16035 = q16036 := (eq16035).trans eq16036.symm
        subst uq16036
        clear eq16036
        refine lv_iload_n hx hb dX10_keepsBars_161 rfl (lv_at hl15921 1 rfl) ?_
        refine x_ai C hTH16012 gq16035 rg_116 ⟨by omega, by show _ < ((160 : Nat) : Int); omega⟩ dX10_keepsBars_162 (fun x16037 ex16037 bx16037 => ?_)
        refine x_V (As := [.int x16037]) (rest := [.int x15922, .ref q16035]) C (a_X10_kept l K G H16012 (x16037) (x15985) (tk) hTH16012 ga0 giq m16025 m16033 m16030 g16014 (by and_intros <;> first | assumption | omega)) yo_X10_kept wM_X10_473 ⟨⟨by decide, by decide⟩, by decide, by decide⟩ (x_rv C hTH16012 (ci := 10) rfl ga0 rg_112) rfl hl15921.1 rfl (Nat.le_of_ble_eq_true rfl) dX10_keepsBars_163 hSH16012 (AE_sub (fun _ _ => rfl) (by decide) hSH16012.1) (fun vH16038 H16038 locsH16038 pH16038 zH16038 kH16038 hSH16038 => ?_)
        obtain ⟨x16039, x16040, hvH16038, ex16040, hrH16038, m16041, g16042, mf16043, m16044, m16045, m16046, m16047, hTH16038⟩ := pH16038
        subst hvH16038
        clear zH16038
        replace m16041 := EQN.mk m16041
        have b16048 : UN (tk.toInt ≠ 0) (fun k => fI H16038 q4 k) (fun k => fI s.heap q4 k) := UN.congr (fun j => fI_kept (x_lt hTH16012 kH16038 gq4 (by decide))) b16015
        have b16049 : UN (tk.toInt ≠ 0) (fun k => fI H16038 q16 k) (fun k => fI s.heap q16 k) := UN.congr (fun j => fI_kept (x_lt hTH16012 kH16038 gq16 (by decide))) b16016
        have m16050 := (m16023).trans (fI_kept (x_lt hTH16012 kH16038 gq15929 (by decide))).symm
        have m16051 := (m16034).trans (fI_kept (x_lt hTH16012 kH16038 gq15980 (by decide))).symm
        have m16052 := (ex16037).trans (fI_kept (x_lt hTH16012 kH16038 gq16035 (by decide))).symm
        have m16053 := (m16025).trans (MF.r mf16043 (k := 73) (by decide) (by decide)).symm
        have m16054 := (m16026).trans (MF.r mf16043 (k := 4) (by decide) (by decide)).symm
        have m16055 := (m16027).trans (MF.r mf16043 (k := 10) (by decide) (by decide)).symm
        have m16056 := (m16028).trans (MF.r mf16043 (k := 16) (by decide) (by decide)).symm
        have m16057 := (m16029).trans (MF.r mf16043 (k := 50) (by decide) (by decide)).symm
        have m16058 := (m16030).trans (MF.i mf16043 (k := 71) (by decide) (by decide)).symm
        have m16059 := (m16031).trans (MF.r mf16043 (k := 5) (by decide) (by decide)).symm
        have m16060 := (m16032).trans (MF.r mf16043 (k := 6) (by decide) (by decide)).symm
        have m16061 := (eq16035).trans (MF.r mf16043 (k := 7) (by decide) (by decide)).symm
        have mf16062 : MF K s.heap H16038 a0 [72] := MF.trans mf16013 mf16043 (by decide)
        have bx16040 := ty_fi (x := x16040) (k := 72) ex16040 hTH16038 ga0 rg_112 rfl
        have ce_x15985 := i_cl (x := x15985) (by omega)
        have b16063 : UN (tk.toInt = 0) (fun k => fI H16038 iq k) (fun k => fI s.heap iq k) := UN.tr m16047 b16017
        have b16064 : FB (fun k => fI H16038 iq k) (fun k => fI s.heap iq k) (6) := FB.wr b16018 m16046 (fun j hj => by omega)
        have b16065 : EQ (fun k => fI H16038 q4 k) (fun k => fI H16038 iq k) (6) (6) (10) := EQ.wr (EQ.congr (w1 := fun k => fI H16012 iq k) (fun j => fI_kept (x_lt hTH16012 kH16038 gq4 (by decide))) (fun _ => rfl) b16019) m16046 (fun j hj => by omega)
        have b16066 : EQ (fun k => fI H16038 q10 k) (fun k => fI H16038 iq k) (7) (6) (10) := EQ.wr (EQ.congr (w1 := fun k => fI H16012 iq k) (fun j => fI_kept (x_lt hTH16012 kH16038 gq10 (by decide))) (fun _ => rfl) b16020) m16046 (fun j hj => by omega)
        have b16067 : EQ (fun k => fI H16038 q50 k) (fun k => fI H16038 iq k) (11) (6) (10) := EQ.wr (EQ.congr (w1 := fun k => fI H16012 iq k) (fun j => fI_kept (x_lt hTH16012 kH16038 gq50 (by decide))) (fun _ => rfl) b16021) m16046 (fun j hj => by omega)
        have b16068 : EQ (fun k => fI H16038 q16 k) (fun k => fI H16038 iq k) (736) (3) (0) := EQ.wr (EQ.congr (w1 := fun k => fI H16012 iq k) (fun j => fI_kept (x_lt hTH16012 kH16038 gq16 (by decide))) (fun _ => rfl) b16022) m16046 (fun j hj => by omega)
        clear b16015 b16016 b16017 b16018 b16019 b16020 b16021 b16022 eq16035 ex16037 m16023 m16025 m16026 m16027 m16028 m16029 m16030 m16031 m16032 m16033 m16034
        clear m16046 m16047
        refine W.eq (g2 := F0 m 166 ls15920 [.int x16039, .int x15922, .ref q16035]) rfl ?_
        refine x_iast C hTH16038 hSH16038 gq16035 rg_116 (by omega) (by show _ < ((160 : Nat) : Int); omega) ⟨by have := i_rng x16039; omega, by have := i_rng x16039; omega⟩ (AE_in gq16035 (by decide)) dX10_keepsBars_166 (fun H16069 locsH16069 hTH16069 hSH16069 wH16069 => ?_)
        have mf16070 : MF K s.heap H16069 a0 [72] := MF.arr wH16069 (G_ne ga0 gq16035 (by decide)) mf16062
        have g16071 : WD (avw K H16069 a0) := WD.congr (fun k hk j => av_arr hTH16038 ga0 wH16069 gq16035 (by decide) (WD_ok 116 (by decide) k hk)) g16042
        have b16072 : UN (tk.toInt ≠ 0) (fun k => fI H16069 q4 k) (fun k => fI s.heap q4 k) := UN.congr (fun j => Wr.neI wH16069 (Or.inl (G_ne gq4 gq16035 (by decide)))) b16048
        have b16073 : UN (tk.toInt ≠ 0) (fun k => fI H16069 q16 k) (fun k => fI s.heap q16 k) := UN.congr (fun j => Wr.neI wH16069 (Or.inl (G_ne gq16 gq16035 (by decide)))) b16049
        have b16074 : UN (tk.toInt = 0) (fun k => fI H16069 iq k) (fun k => fI s.heap iq k) := UN.congr (fun j => Wr.neI wH16069 (Or.inl (G_ne giq gq16035 (by decide)))) b16063
        have b16075 : FB (fun k => fI H16069 iq k) (fun k => fI s.heap iq k) (6) := FB.congr (fun j => Wr.neI wH16069 (Or.inl (G_ne giq gq16035 (by decide)))) b16064
        have b16076 : EQ (fun k => fI H16069 q4 k) (fun k => fI H16069 iq k) (6) (6) (10) := EQ.congr (fun j => Wr.neI wH16069 (Or.inl (G_ne gq4 gq16035 (by decide)))) (fun j => Wr.neI wH16069 (Or.inl (G_ne giq gq16035 (by decide)))) b16065
        have b16077 : EQ (fun k => fI H16069 q10 k) (fun k => fI H16069 iq k) (7) (6) (10) := EQ.congr (fun j => Wr.neI wH16069 (Or.inl (G_ne gq10 gq16035 (by decide)))) (fun j => Wr.neI wH16069 (Or.inl (G_ne giq gq16035 (by decide)))) b16066
        have b16078 : EQ (fun k => fI H16069 q50 k) (fun k => fI H16069 iq k) (11) (6) (10) := EQ.congr (fun j => Wr.neI wH16069 (Or.inl (G_ne gq50 gq16035 (by decide)))) (fun j => Wr.neI wH16069 (Or.inl (G_ne giq gq16035 (by decide)))) b16067
        have b16079 : EQ (fun k => fI H16069 q16 k) (fun k => fI H16069 iq k) (736) (3) (0) := EQ.congr (fun j => Wr.neI wH16069 (Or.inl (G_ne gq16 gq16035 (by decide)))) (fun j => Wr.neI wH16069 (Or.inl (G_ne giq gq16035 (by decide)))) b16068
        have m16080 := m16050.trans (Wr.neI wH16069 (Or.inl (G_ne gq15929 gq16035 (by decide)))).symm
        have m16081 := m16051.trans (Wr.neI wH16069 (Or.inl (G_ne gq15980 gq16035 (by decide)))).symm
        have m16083 := m16041.trans (Wr.neR wH16069 (Or.inl (G_ne ga0 gq16035 (by decide)))).symm
        have m16084 := m16054.trans (Wr.neR wH16069 (Or.inl (G_ne ga0 gq16035 (by decide)))).symm
        have m16085 := m16055.trans (Wr.neR wH16069 (Or.inl (G_ne ga0 gq16035 (by decide)))).symm
        have m16086 := m16056.trans (Wr.neR wH16069 (Or.inl (G_ne ga0 gq16035 (by decide)))).symm
        have m16087 := m16057.trans (Wr.neR wH16069 (Or.inl (G_ne ga0 gq16035 (by decide)))).symm
        have m16088 := m16058.trans (Wr.neI wH16069 (Or.inl (G_ne ga0 gq16035 (by decide)))).symm
        have m16089 := m16059.trans (Wr.neR wH16069 (Or.inl (G_ne ga0 gq16035 (by decide)))).symm
        have m16090 := m16060.trans (Wr.neR wH16069 (Or.inl (G_ne ga0 gq16035 (by decide)))).symm
        have m16091 := m16061.trans (Wr.neR wH16069 (Or.inl (G_ne ga0 gq16035 (by decide)))).symm
        have m16092 := ex16040.trans (Wr.neI wH16069 (Or.inl (G_ne ga0 gq16035 (by decide)))).symm
        have m16093 := Wr.I wH16069
        have m16093 := m16093.symm
        clear b16048 b16049 b16063 b16064 b16065 b16066 b16067 b16068 ex16040 g16042 hTH16038 m16041 m16050 m16051 m16052 m16054 m16055 m16056 m16057 m16058 m16059 m16060 m16061 mf16062
        refine lv_aload_n hx hb dX10_keepsBars_167 rfl (lv_at hl15921 0 rfl) ?_
        refine x_gr C hTH16069 (ci := 10) (k := 8) rfl inX10 (by decide) wF_X10_26 ga0 rg_112 rfl dX10_keepsBars_168 (fun q16094 eq16094 gq16094 => ?_)
        replace eq16094 := EQN.mk eq16094
        refine lv_iload_n hx hb dX10_keepsBars_171 rfl (lv_at hl15921 1 rfl) ?_
        refine lv_aload_n hx hb dX10_keepsBars_172 rfl (lv_at hl15921 0 rfl) ?_
        refine lv_aload_n hx hb dX10_keepsBars_173 rfl (lv_at hl15921 0 rfl) ?_
        refine x_gr C hTH16069 (ci := 10) (k := 8) rfl inX10 (by decide) wF_X10_26 ga0 rg_112 rfl dX10_keepsBars_174 (fun q16095 eq16095 gq16095 => ?_)
        have uq16095 : q16094 = q16095 := (eq16094).trans eq16095.symm
        subst uq16095
        clear eq16095
        refine lv_iload_n hx hb dX10_keepsBars_177 rfl (lv_at hl15921 1 rfl) ?_
        refine x_ai C hTH16069 gq16094 rg_117 ⟨by omega, by show _ < ((160 : Nat) : Int); omega⟩ dX10_keepsBars_178 (fun x16096 ex16096 bx16096 => ?_)
        refine x_V (As := [.int x16096]) (rest := [.int x15922, .ref q16094]) C (a_X10_kept l K G H16069 (x16096) (x16040) (tk) hTH16069 ga0 giq m16083 m16092 m16088 g16071 (by and_intros <;> first | assumption | omega)) yo_X10_kept wM_X10_473 ⟨⟨by decide, by decide⟩, by decide, by decide⟩ (x_rv C hTH16069 (ci := 10) rfl ga0 rg_112) rfl hl15921.1 rfl (Nat.le_of_ble_eq_true rfl) dX10_keepsBars_179 hSH16069 (AE_sub (fun _ _ => rfl) (by decide) hSH16069.1) (fun vH16097 H16097 locsH16097 pH16097 zH16097 kH16097 hSH16097 => ?_)
        obtain ⟨x16098, x16099, hvH16097, ex16099, hrH16097, m16100, g16101, mf16102, m16103, m16104, m16105, m16106, hTH16097⟩ := pH16097
        subst hvH16097
        clear zH16097
        replace m16100 := EQN.mk m16100
        have b16107 : UN (tk.toInt ≠ 0) (fun k => fI H16097 q4 k) (fun k => fI s.heap q4 k) := UN.congr (fun j => fI_kept (x_lt hTH16069 kH16097 gq4 (by decide))) b16072
        have b16108 : UN (tk.toInt ≠ 0) (fun k => fI H16097 q16 k) (fun k => fI s.heap q16 k) := UN.congr (fun j => fI_kept (x_lt hTH16069 kH16097 gq16 (by decide))) b16073
        have m16109 := (m16080).trans (fI_kept (x_lt hTH16069 kH16097 gq15929 (by decide))).symm
        have m16110 := (m16081).trans (fI_kept (x_lt hTH16069 kH16097 gq15980 (by decide))).symm
        have m16111 := (m16093).trans (fI_kept (x_lt hTH16069 kH16097 gq16035 (by decide))).symm
        have m16112 := (ex16096).trans (fI_kept (x_lt hTH16069 kH16097 gq16094 (by decide))).symm
        have m16113 := (m16083).trans (MF.r mf16102 (k := 73) (by decide) (by decide)).symm
        have m16114 := (m16084).trans (MF.r mf16102 (k := 4) (by decide) (by decide)).symm
        have m16115 := (m16085).trans (MF.r mf16102 (k := 10) (by decide) (by decide)).symm
        have m16116 := (m16086).trans (MF.r mf16102 (k := 16) (by decide) (by decide)).symm
        have m16117 := (m16087).trans (MF.r mf16102 (k := 50) (by decide) (by decide)).symm
        have m16118 := (m16088).trans (MF.i mf16102 (k := 71) (by decide) (by decide)).symm
        have m16119 := (m16089).trans (MF.r mf16102 (k := 5) (by decide) (by decide)).symm
        have m16120 := (m16090).trans (MF.r mf16102 (k := 6) (by decide) (by decide)).symm
        have m16121 := (m16091).trans (MF.r mf16102 (k := 7) (by decide) (by decide)).symm
        have m16122 := (eq16094).trans (MF.r mf16102 (k := 8) (by decide) (by decide)).symm
        have mf16123 : MF K s.heap H16097 a0 [72] := MF.trans mf16070 mf16102 (by decide)
        have bx16099 := ty_fi (x := x16099) (k := 72) ex16099 hTH16097 ga0 rg_112 rfl
        have ce_x16040 := i_cl (x := x16040) (by omega)
        have b16124 : UN (tk.toInt = 0) (fun k => fI H16097 iq k) (fun k => fI s.heap iq k) := UN.tr m16106 b16074
        have b16125 : FB (fun k => fI H16097 iq k) (fun k => fI s.heap iq k) (6) := FB.wr b16075 m16105 (fun j hj => by omega)
        have b16126 : EQ (fun k => fI H16097 q4 k) (fun k => fI H16097 iq k) (6) (6) (10) := EQ.wr (EQ.congr (w1 := fun k => fI H16069 iq k) (fun j => fI_kept (x_lt hTH16069 kH16097 gq4 (by decide))) (fun _ => rfl) b16076) m16105 (fun j hj => by omega)
        have b16127 : EQ (fun k => fI H16097 q10 k) (fun k => fI H16097 iq k) (7) (6) (10) := EQ.wr (EQ.congr (w1 := fun k => fI H16069 iq k) (fun j => fI_kept (x_lt hTH16069 kH16097 gq10 (by decide))) (fun _ => rfl) b16077) m16105 (fun j hj => by omega)
        have b16128 : EQ (fun k => fI H16097 q50 k) (fun k => fI H16097 iq k) (11) (6) (10) := EQ.wr (EQ.congr (w1 := fun k => fI H16069 iq k) (fun j => fI_kept (x_lt hTH16069 kH16097 gq50 (by decide))) (fun _ => rfl) b16078) m16105 (fun j hj => by omega)
        have b16129 : EQ (fun k => fI H16097 q16 k) (fun k => fI H16097 iq k) (736) (3) (0) := EQ.wr (EQ.congr (w1 := fun k => fI H16069 iq k) (fun j => fI_kept (x_lt hTH16069 kH16097 gq16 (by decide))) (fun _ => rfl) b16079) m16105 (fun j hj => by omega)
        clear b16072 b16073 b16074 b16075 b16076 b16077 b16078 b16079 eq16094 ex16096 m16080 m16081 m16083 m16084 m16085 m16086 m16087 m16088 m16089 m16090 m16091 m16092 m16093
        clear m16105 m16106
        refine W.eq (g2 := F0 m 182 ls15920 [.int x16098, .int x15922, .ref q16094]) rfl ?_
        refine x_iast C hTH16097 hSH16097 gq16094 rg_117 (by omega) (by show _ < ((160 : Nat) : Int); omega) ⟨by have := i_rng x16098; omega, by have := i_rng x16098; omega⟩ (AE_in gq16094 (by decide)) dX10_keepsBars_182 (fun H16130 locsH16130 hTH16130 hSH16130 wH16130 => ?_)
        have mf16131 : MF K s.heap H16130 a0 [72] := MF.arr wH16130 (G_ne ga0 gq16094 (by decide)) mf16123
        have g16132 : WD (avw K H16130 a0) := WD.congr (fun k hk j => av_arr hTH16097 ga0 wH16130 gq16094 (by decide) (WD_ok 117 (by decide) k hk)) g16101
        have b16133 : UN (tk.toInt ≠ 0) (fun k => fI H16130 q4 k) (fun k => fI s.heap q4 k) := UN.congr (fun j => Wr.neI wH16130 (Or.inl (G_ne gq4 gq16094 (by decide)))) b16107
        have b16134 : UN (tk.toInt ≠ 0) (fun k => fI H16130 q16 k) (fun k => fI s.heap q16 k) := UN.congr (fun j => Wr.neI wH16130 (Or.inl (G_ne gq16 gq16094 (by decide)))) b16108
        have b16135 : UN (tk.toInt = 0) (fun k => fI H16130 iq k) (fun k => fI s.heap iq k) := UN.congr (fun j => Wr.neI wH16130 (Or.inl (G_ne giq gq16094 (by decide)))) b16124
        have b16136 : FB (fun k => fI H16130 iq k) (fun k => fI s.heap iq k) (6) := FB.congr (fun j => Wr.neI wH16130 (Or.inl (G_ne giq gq16094 (by decide)))) b16125
        have b16137 : EQ (fun k => fI H16130 q4 k) (fun k => fI H16130 iq k) (6) (6) (10) := EQ.congr (fun j => Wr.neI wH16130 (Or.inl (G_ne gq4 gq16094 (by decide)))) (fun j => Wr.neI wH16130 (Or.inl (G_ne giq gq16094 (by decide)))) b16126
        have b16138 : EQ (fun k => fI H16130 q10 k) (fun k => fI H16130 iq k) (7) (6) (10) := EQ.congr (fun j => Wr.neI wH16130 (Or.inl (G_ne gq10 gq16094 (by decide)))) (fun j => Wr.neI wH16130 (Or.inl (G_ne giq gq16094 (by decide)))) b16127
        have b16139 : EQ (fun k => fI H16130 q50 k) (fun k => fI H16130 iq k) (11) (6) (10) := EQ.congr (fun j => Wr.neI wH16130 (Or.inl (G_ne gq50 gq16094 (by decide)))) (fun j => Wr.neI wH16130 (Or.inl (G_ne giq gq16094 (by decide)))) b16128
        have b16140 : EQ (fun k => fI H16130 q16 k) (fun k => fI H16130 iq k) (736) (3) (0) := EQ.congr (fun j => Wr.neI wH16130 (Or.inl (G_ne gq16 gq16094 (by decide)))) (fun j => Wr.neI wH16130 (Or.inl (G_ne giq gq16094 (by decide)))) b16129
        have m16141 := m16109.trans (Wr.neI wH16130 (Or.inl (G_ne gq15929 gq16094 (by decide)))).symm
        have m16142 := m16110.trans (Wr.neI wH16130 (Or.inl (G_ne gq15980 gq16094 (by decide)))).symm
        have m16143 := m16111.trans (Wr.neI wH16130 (Or.inl (G_ne gq16035 gq16094 (by decide)))).symm
        have m16145 := m16100.trans (Wr.neR wH16130 (Or.inl (G_ne ga0 gq16094 (by decide)))).symm
        have m16146 := m16114.trans (Wr.neR wH16130 (Or.inl (G_ne ga0 gq16094 (by decide)))).symm
        have m16147 := m16115.trans (Wr.neR wH16130 (Or.inl (G_ne ga0 gq16094 (by decide)))).symm
        have m16148 := m16116.trans (Wr.neR wH16130 (Or.inl (G_ne ga0 gq16094 (by decide)))).symm
        have m16149 := m16117.trans (Wr.neR wH16130 (Or.inl (G_ne ga0 gq16094 (by decide)))).symm
        have m16150 := m16118.trans (Wr.neI wH16130 (Or.inl (G_ne ga0 gq16094 (by decide)))).symm
        have m16151 := m16119.trans (Wr.neR wH16130 (Or.inl (G_ne ga0 gq16094 (by decide)))).symm
        have m16152 := m16120.trans (Wr.neR wH16130 (Or.inl (G_ne ga0 gq16094 (by decide)))).symm
        have m16153 := m16121.trans (Wr.neR wH16130 (Or.inl (G_ne ga0 gq16094 (by decide)))).symm
        have m16154 := m16122.trans (Wr.neR wH16130 (Or.inl (G_ne ga0 gq16094 (by decide)))).symm
        have m16155 := ex16099.trans (Wr.neI wH16130 (Or.inl (G_ne ga0 gq16094 (by decide)))).symm
        have m16156 := Wr.I wH16130
        have m16156 := m16156.symm
        clear b16107 b16108 b16124 b16125 b16126 b16127 b16128 b16129 ex16099 g16101 hTH16097 m16100 m16109 m16110 m16111 m16112 m16114 m16115 m16116 m16117 m16118 m16119 m16120 m16121 m16122 mf16123
        obtain ⟨x16157, ex16157⟩ : ∃ y : Int32, y = x15922 + 1 := ⟨_, rfl⟩
        have tx16157 := i_add ex16157 (by omega)
        refine lv_iinc (v := x16157) (lv' := [(1, .int x16157), (0, .ref a0)]) hx hb dX10_keepsBars_183 hl15921 (k := 1) rfl (by rw [ex16157]; rfl) (by decide) rfl (fun ls16158 hl16159 => ?_)
        refine lv_goto (tgt := 112) hx hb dX10_keepsBars_186 (by decide) ?_
        exact ih112 ls16158 H16130 locsH16130 (x16157) (x16099) (lv_sub hl16159 [1, 0] rfl) hTH16130 hSH16130 ⟨by have := i_rng x16157; omega, by have := i_rng x16157; omega⟩ ⟨by have := i_rng x16099; omega, by have := i_rng x16099; omega⟩ m16155 m16145 m16146 m16147 m16148 m16149 m16150 b16135 b16136 (EQ.cast b16137 (by omega)) (EQ.cast b16138 (by omega)) (EQ.cast b16139 (by omega)) (EQ.cast b16140 (by omega)) b16133 b16134 mf16131 g16132 (by omega) (by and_intros <;> first | assumption | omega)
  have J2 : ∀ (nf : Nat) (ls16161 : Array Slot) (H16160 : Heap) (locsH16160 : List Loc) (x16163 : Int32) (x16164 : Int32), lv_has ls16161 2 [(0, .ref a0), (1, .int x16163)] → TY K G H16160 → va_S (AE G [112, 162, 113, 119, 122, 123, 124, 146, 114, 115, 116, 117, 118, 125, 154, 155, 120, 121] s.heap.size) s.heap H16160 locsH16160 → (0 ≤ x16163.toInt ∧ x16163.toInt ≤ 10) → (0 ≤ x16164.toInt ∧ x16164.toInt ≤ 16400) → (x16164 = fI H16160 a0 (K.1.2 10 72)) → (EQN iq (fR H16160 a0 (K.1.2 10 73))) → (EQN q4 (fR H16160 a0 (K.1.2 10 4))) → (EQN q10 (fR H16160 a0 (K.1.2 10 10))) → (EQN q16 (fR H16160 a0 (K.1.2 10 16))) → (EQN q50 (fR H16160 a0 (K.1.2 10 50))) → (tk = fI H16160 a0 (K.1.2 10 71)) → (UN (tk.toInt = 0) (fun k => fI H16160 iq k) (fun k => fI s.heap iq k)) → (FB (fun k => fI H16160 iq k) (fun k => fI s.heap iq k) (6)) → (EQ (fun k => fI H16160 q4 k) (fun k => fI H16160 iq k) (6) (6) (x16163.toNatClampNeg)) → (EQ (fun k => fI H16160 q10 k) (fun k => fI H16160 iq k) (7) (6) (x16163.toNatClampNeg)) → (EQ (fun k => fI H16160 q50 k) (fun k => fI H16160 iq k) (11) (6) (x16163.toNatClampNeg)) → (EQ (fun k => fI H16160 q16 k) (fun k => fI H16160 iq k) (736) (3) (0)) → (UN (tk.toInt ≠ 0) (fun k => fI H16160 q4 k) (fun k => fI s.heap q4 k)) → (UN (tk.toInt ≠ 0) (fun k => fI H16160 q16 k) (fun k => fI s.heap q16 k)) → (MF K s.heap H16160 a0 [72]) → (WD (avw K H16160 a0)) → (10 - x16163.toInt < (nf : Int)) → (x16164.toInt = 6 + 6 * x16163.toInt) → W p l e ({ frames := 1, cells := 0, slots := 0, locals := 21 } : Room) s m (([.ref a0] : List Value).toArray) below meth c H16160 locsH16160 0 0 Q (F0 m 2 ls16161 []) := by
    intro nf
    induction nf with
    | zero =>
      intro ls16161 H16160 locsH16160 x16163 x16164 hl16162 hTH16160 hSH16160 bx16163 bx16164 ex16164 cy16165_0 cy16165_1 cy16165_2 cy16165_3 cy16165_4 cy16165_5 by16165_ui by16165_fb by16165_e4 by16165_e10 by16165_e50 by16165_e16 by16165_u4 by16165_u16 mfy16165 gy16165_WD hm2 iv2
      exfalso
      omega
    | succ nf ih2 =>
      intro ls16161 H16160 locsH16160 x16163 x16164 hl16162 hTH16160 hSH16160 bx16163 bx16164 ex16164 cy16165_0 cy16165_1 cy16165_2 cy16165_3 cy16165_4 cy16165_5 by16165_ui by16165_fb by16165_e4 by16165_e10 by16165_e50 by16165_e16 by16165_u4 by16165_u16 mfy16165 gy16165_WD hm2 iv2
      refine lv_iload_n hx hb dX10_keepsBars_2 rfl (lv_at hl16162 1 rfl) ?_
      refine lv_bipush (v := 10) hx hb dX10_keepsBars_3 (by decide) ?_
      refine lv_icmp_ge (tgt := 110) hx hb dX10_keepsBars_5 (by decide) (fun c16166 => ?_) (fun c16166 => ?_)
      · have k16167 := i_le c16166
        refine lv_iconst (v := 0) hx hb dX10_keepsBars_110 (by decide) ?_
        refine lv_istore_n (lv' := [(1, .int 0), (0, .ref a0)]) hx hb dX10_keepsBars_111 rfl hl16162 (by decide) rfl (fun ls16168 hl16169 => ?_)
        have cl00 : (0 : Int32).toNatClampNeg = 0 := rfl
        have cl_x16163 := i_cl (x := x16163) (by omega)
        exact J112 ((160 - (0 : Int32).toInt).toNat + 1) ls16168 H16160 locsH16160 (0) (x16164) (lv_sub hl16169 [1, 0] rfl) hTH16160 hSH16160 (by decide) ⟨by have := i_rng x16164; omega, by have := i_rng x16164; omega⟩ ex16164 cy16165_0 cy16165_1 cy16165_2 cy16165_3 cy16165_4 cy16165_5 by16165_ui by16165_fb (EQ.cast by16165_e4 (by omega)) (EQ.cast by16165_e10 (by omega)) (EQ.cast by16165_e50 (by omega)) (EQ.cast by16165_e16 (by omega)) by16165_u4 by16165_u16 mfy16165 gy16165_WD (by omega) (by and_intros <;> first | assumption | omega)
      · have k16167 := i_nle c16166
        refine lv_aload_n hx hb dX10_keepsBars_8 rfl (lv_at hl16162 0 rfl) ?_
        refine x_gr C hTH16160 (ci := 10) (k := 4) rfl inX10 (by decide) wF_X10_13 ga0 rg_112 rfl dX10_keepsBars_9 (fun q16170 eq16170 gq16170 => ?_)
        have uq16170 : q4 = q16170 := (cy16165_1).trans eq16170.symm
        subst uq16170
        clear eq16170
        refine lv_iload_n hx hb dX10_keepsBars_12 rfl (lv_at hl16162 1 rfl) ?_
        refine lv_aload_n hx hb dX10_keepsBars_13 rfl (lv_at hl16162 0 rfl) ?_
        refine lv_aload_n hx hb dX10_keepsBars_14 rfl (lv_at hl16162 0 rfl) ?_
        refine x_gr C hTH16160 (ci := 10) (k := 4) rfl inX10 (by decide) wF_X10_13 ga0 rg_112 rfl dX10_keepsBars_15 (fun q16171 eq16171 gq16171 => ?_)
        have uq16171 : q4 = q16171 := (cy16165_1).trans eq16171.symm
        subst uq16171
        clear eq16171
        refine lv_iload_n hx hb dX10_keepsBars_18 rfl (lv_at hl16162 1 rfl) ?_
        refine x_ai C hTH16160 gq4 rg_113 ⟨by omega, by show _ < ((10 : Nat) : Int); omega⟩ dX10_keepsBars_19 (fun x16172 ex16172 bx16172 => ?_)
        refine x_V (As := [.int x16172]) (rest := [.int x16163, .ref q4]) C (a_X10_kept l K G H16160 (x16172) (x16164) (tk) hTH16160 ga0 giq cy16165_0 ex16164 cy16165_5 gy16165_WD (by and_intros <;> first | assumption | omega)) yo_X10_kept wM_X10_473 ⟨⟨by decide, by decide⟩, by decide, by decide⟩ (x_rv C hTH16160 (ci := 10) rfl ga0 rg_112) rfl hl16162.1 rfl (Nat.le_of_ble_eq_true rfl) dX10_keepsBars_20 hSH16160 (AE_sub (fun _ _ => rfl) (by decide) hSH16160.1) (fun vH16173 H16173 locsH16173 pH16173 zH16173 kH16173 hSH16173 => ?_)
        obtain ⟨x16174, x16175, hvH16173, ex16175, hrH16173, m16176, g16177, mf16178, m16179, m16180, m16181, m16182, hTH16173⟩ := pH16173
        subst hvH16173
        clear zH16173
        replace m16176 := EQN.mk m16176
        have b16183 : UN (tk.toInt ≠ 0) (fun k => fI H16173 q4 k) (fun k => fI s.heap q4 k) := UN.congr (fun j => fI_kept (x_lt hTH16160 kH16173 gq4 (by decide))) by16165_u4
        have b16184 : UN (tk.toInt ≠ 0) (fun k => fI H16173 q16 k) (fun k => fI s.heap q16 k) := UN.congr (fun j => fI_kept (x_lt hTH16160 kH16173 gq16 (by decide))) by16165_u16
        have m16185 := (ex16172).trans (fI_kept (x_lt hTH16160 kH16173 gq4 (by decide))).symm
        have m16186 := (cy16165_0).trans (MF.r mf16178 (k := 73) (by decide) (by decide)).symm
        have m16187 := (cy16165_1).trans (MF.r mf16178 (k := 4) (by decide) (by decide)).symm
        have m16188 := (cy16165_2).trans (MF.r mf16178 (k := 10) (by decide) (by decide)).symm
        have m16189 := (cy16165_3).trans (MF.r mf16178 (k := 16) (by decide) (by decide)).symm
        have m16190 := (cy16165_4).trans (MF.r mf16178 (k := 50) (by decide) (by decide)).symm
        have m16191 := (cy16165_5).trans (MF.i mf16178 (k := 71) (by decide) (by decide)).symm
        have mf16192 : MF K s.heap H16173 a0 [72] := MF.trans mfy16165 mf16178 (by decide)
        have bx16175 := ty_fi (x := x16175) (k := 72) ex16175 hTH16173 ga0 rg_112 rfl
        have ce_x16163 := i_cl (x := x16163) (by omega)
        have ce_x16164 := i_cl (x := x16164) (by omega)
        have b16193 : UN (tk.toInt = 0) (fun k => fI H16173 iq k) (fun k => fI s.heap iq k) := UN.tr m16182 by16165_ui
        have b16194 : FB (fun k => fI H16173 iq k) (fun k => fI s.heap iq k) (6) := FB.wr by16165_fb m16181 (fun j hj => by omega)
        have b16195 : EQ (fun k => fI H16173 q4 k) (fun k => fI H16173 iq k) (6) (6) (x16163.toNatClampNeg) := EQ.wr (EQ.congr (w1 := fun k => fI H16160 iq k) (fun j => fI_kept (x_lt hTH16160 kH16173 gq4 (by decide))) (fun _ => rfl) by16165_e4) m16181 (fun j hj => by omega)
        have b16196 : EQ (fun k => fI H16173 q10 k) (fun k => fI H16173 iq k) (7) (6) (x16163.toNatClampNeg) := EQ.wr (EQ.congr (w1 := fun k => fI H16160 iq k) (fun j => fI_kept (x_lt hTH16160 kH16173 gq10 (by decide))) (fun _ => rfl) by16165_e10) m16181 (fun j hj => by omega)
        have b16197 : EQ (fun k => fI H16173 q50 k) (fun k => fI H16173 iq k) (11) (6) (x16163.toNatClampNeg) := EQ.wr (EQ.congr (w1 := fun k => fI H16160 iq k) (fun j => fI_kept (x_lt hTH16160 kH16173 gq50 (by decide))) (fun _ => rfl) by16165_e50) m16181 (fun j hj => by omega)
        have b16198 : EQ (fun k => fI H16173 q16 k) (fun k => fI H16173 iq k) (736) (3) (0) := EQ.wr (EQ.congr (w1 := fun k => fI H16160 iq k) (fun j => fI_kept (x_lt hTH16160 kH16173 gq16 (by decide))) (fun _ => rfl) by16165_e16) m16181 (fun j hj => by omega)
        clear by16165_e10 by16165_e16 by16165_e4 by16165_e50 by16165_fb by16165_u16 by16165_u4 by16165_ui cy16165_0 cy16165_1 cy16165_2 cy16165_3 cy16165_4 cy16165_5 ex16164 ex16172
        clear m16181 m16182
        have bx16174 : 0 ≤ x16174.toInt ∧ x16174.toInt ≤ 16 := kr (fun h0 => by have hiw := (hy0 h0); exact kr0 (w := fun k => fI H16173 iq k) m16179 (p := 6 + 6 * x16163.toNatClampNeg) (by omega) (b16193 h0) ((hiw.2.1 x16163.toNatClampNeg (by omega)).1)) m16180 (by omega)
        refine W.eq (g2 := F0 m 23 ls16161 [.int x16174, .int x16163, .ref q4]) rfl ?_
        refine x_iast C hTH16173 hSH16173 gq4 rg_113 (by omega) (by show _ < ((10 : Nat) : Int); omega) ⟨by have := i_rng x16174; omega, by have := i_rng x16174; omega⟩ (AE_in gq4 (by decide)) dX10_keepsBars_23 (fun H16199 locsH16199 hTH16199 hSH16199 wH16199 => ?_)
        have mf16200 : MF K s.heap H16199 a0 [72] := MF.arr wH16199 (G_ne ga0 gq4 (by decide)) mf16192
        have g16201 : WD (avw K H16199 a0) := WD.congr (fun k hk j => av_arr hTH16173 ga0 wH16199 gq4 (by decide) (WD_ok 113 (by decide) k hk)) g16177
        have b16202 : UN (tk.toInt ≠ 0) (fun k => fI H16199 q4 k) (fun k => fI s.heap q4 k) := UN.st b16183 (i := x16163.toNatClampNeg) (fun hc => (m16180 hc).trans m16185) (Wr.I wH16199) (fun j hj => Wr.neI wH16199 (Or.inr hj))
        have b16203 : UN (tk.toInt ≠ 0) (fun k => fI H16199 q16 k) (fun k => fI s.heap q16 k) := UN.congr (fun j => Wr.neI wH16199 (Or.inl (G_ne gq16 gq4 (by decide)))) b16184
        have b16204 : UN (tk.toInt = 0) (fun k => fI H16199 iq k) (fun k => fI s.heap iq k) := UN.congr (fun j => Wr.neI wH16199 (Or.inl (G_ne giq gq4 (by decide)))) b16193
        have b16205 : FB (fun k => fI H16199 iq k) (fun k => fI s.heap iq k) (6) := FB.congr (fun j => Wr.neI wH16199 (Or.inl (G_ne giq gq4 (by decide)))) b16194
        have b16206 : EQ (fun k => fI H16199 q4 k) (fun k => fI H16199 iq k) (6) (6) (x16163.toNatClampNeg + 1) := EQ.st b16195 (i := x16163.toNatClampNeg) (t := x16164.toNatClampNeg) (by omega) m16179 (by omega) (Wr.I wH16199) (fun j hj => Wr.neI wH16199 (Or.inr hj)) (fun j => Wr.neI wH16199 (Or.inl (G_ne giq gq4 (by decide))))
        have b16207 : EQ (fun k => fI H16199 q10 k) (fun k => fI H16199 iq k) (7) (6) (x16163.toNatClampNeg) := EQ.congr (fun j => Wr.neI wH16199 (Or.inl (G_ne gq10 gq4 (by decide)))) (fun j => Wr.neI wH16199 (Or.inl (G_ne giq gq4 (by decide)))) b16196
        have b16208 : EQ (fun k => fI H16199 q50 k) (fun k => fI H16199 iq k) (11) (6) (x16163.toNatClampNeg) := EQ.congr (fun j => Wr.neI wH16199 (Or.inl (G_ne gq50 gq4 (by decide)))) (fun j => Wr.neI wH16199 (Or.inl (G_ne giq gq4 (by decide)))) b16197
        have b16209 : EQ (fun k => fI H16199 q16 k) (fun k => fI H16199 iq k) (736) (3) (0) := EQ.congr (fun j => Wr.neI wH16199 (Or.inl (G_ne gq16 gq4 (by decide)))) (fun j => Wr.neI wH16199 (Or.inl (G_ne giq gq4 (by decide)))) b16198
        have m16211 := m16176.trans (Wr.neR wH16199 (Or.inl (G_ne ga0 gq4 (by decide)))).symm
        have m16212 := m16187.trans (Wr.neR wH16199 (Or.inl (G_ne ga0 gq4 (by decide)))).symm
        have m16213 := m16188.trans (Wr.neR wH16199 (Or.inl (G_ne ga0 gq4 (by decide)))).symm
        have m16214 := m16189.trans (Wr.neR wH16199 (Or.inl (G_ne ga0 gq4 (by decide)))).symm
        have m16215 := m16190.trans (Wr.neR wH16199 (Or.inl (G_ne ga0 gq4 (by decide)))).symm
        have m16216 := m16191.trans (Wr.neI wH16199 (Or.inl (G_ne ga0 gq4 (by decide)))).symm
        have m16217 := ex16175.trans (Wr.neI wH16199 (Or.inl (G_ne ga0 gq4 (by decide)))).symm
        have m16218 := Wr.I wH16199
        have m16218 := m16218.symm
        clear b16183 b16184 b16193 b16194 b16195 b16196 b16197 b16198 ex16175 g16177 hTH16173 m16176 m16185 m16187 m16188 m16189 m16190 m16191 mf16192
        refine lv_aload_n hx hb dX10_keepsBars_24 rfl (lv_at hl16162 0 rfl) ?_
        refine x_gr C hTH16199 (ci := 10) (k := 10) rfl inX10 (by decide) wF_X10_32 ga0 rg_112 rfl dX10_keepsBars_25 (fun q16219 eq16219 gq16219 => ?_)
        have uq16219 : q10 = q16219 := (m16213).trans eq16219.symm
        subst uq16219
        clear eq16219
        refine lv_iload_n hx hb dX10_keepsBars_28 rfl (lv_at hl16162 1 rfl) ?_
        refine lv_aload_n hx hb dX10_keepsBars_29 rfl (lv_at hl16162 0 rfl) ?_
        refine lv_aload_n hx hb dX10_keepsBars_30 rfl (lv_at hl16162 0 rfl) ?_
        refine x_gr C hTH16199 (ci := 10) (k := 10) rfl inX10 (by decide) wF_X10_32 ga0 rg_112 rfl dX10_keepsBars_31 (fun q16220 eq16220 gq16220 => ?_)
        have uq16220 : q10 = q16220 := (m16213).trans eq16220.symm
        subst uq16220
        clear eq16220
        refine lv_iload_n hx hb dX10_keepsBars_34 rfl (lv_at hl16162 1 rfl) ?_
        refine x_ai C hTH16199 gq10 rg_119 ⟨by omega, by show _ < ((10 : Nat) : Int); omega⟩ dX10_keepsBars_35 (fun x16221 ex16221 bx16221 => ?_)
        refine x_V (As := [.int x16221]) (rest := [.int x16163, .ref q10]) C (a_X10_kept l K G H16199 (x16221) (x16175) (tk) hTH16199 ga0 giq m16211 m16217 m16216 g16201 (by and_intros <;> first | assumption | omega)) yo_X10_kept wM_X10_473 ⟨⟨by decide, by decide⟩, by decide, by decide⟩ (x_rv C hTH16199 (ci := 10) rfl ga0 rg_112) rfl hl16162.1 rfl (Nat.le_of_ble_eq_true rfl) dX10_keepsBars_36 hSH16199 (AE_sub (fun _ _ => rfl) (by decide) hSH16199.1) (fun vH16222 H16222 locsH16222 pH16222 zH16222 kH16222 hSH16222 => ?_)
        obtain ⟨x16223, x16224, hvH16222, ex16224, hrH16222, m16225, g16226, mf16227, m16228, m16229, m16230, m16231, hTH16222⟩ := pH16222
        subst hvH16222
        clear zH16222
        replace m16225 := EQN.mk m16225
        have b16232 : UN (tk.toInt ≠ 0) (fun k => fI H16222 q4 k) (fun k => fI s.heap q4 k) := UN.congr (fun j => fI_kept (x_lt hTH16199 kH16222 gq4 (by decide))) b16202
        have b16233 : UN (tk.toInt ≠ 0) (fun k => fI H16222 q16 k) (fun k => fI s.heap q16 k) := UN.congr (fun j => fI_kept (x_lt hTH16199 kH16222 gq16 (by decide))) b16203
        have m16234 := (m16218).trans (fI_kept (x_lt hTH16199 kH16222 gq4 (by decide))).symm
        have m16235 := (ex16221).trans (fI_kept (x_lt hTH16199 kH16222 gq10 (by decide))).symm
        have m16236 := (m16211).trans (MF.r mf16227 (k := 73) (by decide) (by decide)).symm
        have m16237 := (m16212).trans (MF.r mf16227 (k := 4) (by decide) (by decide)).symm
        have m16238 := (m16213).trans (MF.r mf16227 (k := 10) (by decide) (by decide)).symm
        have m16239 := (m16214).trans (MF.r mf16227 (k := 16) (by decide) (by decide)).symm
        have m16240 := (m16215).trans (MF.r mf16227 (k := 50) (by decide) (by decide)).symm
        have m16241 := (m16216).trans (MF.i mf16227 (k := 71) (by decide) (by decide)).symm
        have mf16242 : MF K s.heap H16222 a0 [72] := MF.trans mf16200 mf16227 (by decide)
        have bx16224 := ty_fi (x := x16224) (k := 72) ex16224 hTH16222 ga0 rg_112 rfl
        have ce_x16175 := i_cl (x := x16175) (by omega)
        have b16243 : UN (tk.toInt = 0) (fun k => fI H16222 iq k) (fun k => fI s.heap iq k) := UN.tr m16231 b16204
        have b16244 : FB (fun k => fI H16222 iq k) (fun k => fI s.heap iq k) (6) := FB.wr b16205 m16230 (fun j hj => by omega)
        have b16245 : EQ (fun k => fI H16222 q4 k) (fun k => fI H16222 iq k) (6) (6) (x16163.toNatClampNeg + 1) := EQ.wr (EQ.congr (w1 := fun k => fI H16199 iq k) (fun j => fI_kept (x_lt hTH16199 kH16222 gq4 (by decide))) (fun _ => rfl) b16206) m16230 (fun j hj => by omega)
        have b16246 : EQ (fun k => fI H16222 q10 k) (fun k => fI H16222 iq k) (7) (6) (x16163.toNatClampNeg) := EQ.wr (EQ.congr (w1 := fun k => fI H16199 iq k) (fun j => fI_kept (x_lt hTH16199 kH16222 gq10 (by decide))) (fun _ => rfl) b16207) m16230 (fun j hj => by omega)
        have b16247 : EQ (fun k => fI H16222 q50 k) (fun k => fI H16222 iq k) (11) (6) (x16163.toNatClampNeg) := EQ.wr (EQ.congr (w1 := fun k => fI H16199 iq k) (fun j => fI_kept (x_lt hTH16199 kH16222 gq50 (by decide))) (fun _ => rfl) b16208) m16230 (fun j hj => by omega)
        have b16248 : EQ (fun k => fI H16222 q16 k) (fun k => fI H16222 iq k) (736) (3) (0) := EQ.wr (EQ.congr (w1 := fun k => fI H16199 iq k) (fun j => fI_kept (x_lt hTH16199 kH16222 gq16 (by decide))) (fun _ => rfl) b16209) m16230 (fun j hj => by omega)
        clear b16202 b16203 b16204 b16205 b16206 b16207 b16208 b16209 ex16221 m16211 m16212 m16213 m16214 m16215 m16216 m16217 m16218
        clear m16230 m16231
        have bx16223 : 0 ≤ x16223.toInt ∧ x16223.toInt ≤ 200 := kr (fun h0 => by have hiw := (hy0 h0); exact kr0 (w := fun k => fI H16222 iq k) m16228 (p := 7 + 6 * x16163.toNatClampNeg) (by omega) (b16243 h0) ((hiw.2.1 x16163.toNatClampNeg (by omega)).2.1)) m16229 (by omega)
        refine W.eq (g2 := F0 m 39 ls16161 [.int x16223, .int x16163, .ref q10]) rfl ?_
        refine x_iast C hTH16222 hSH16222 gq10 rg_119 (by omega) (by show _ < ((10 : Nat) : Int); omega) ⟨by have := i_rng x16223; omega, by have := i_rng x16223; omega⟩ (AE_in gq10 (by decide)) dX10_keepsBars_39 (fun H16249 locsH16249 hTH16249 hSH16249 wH16249 => ?_)
        have mf16250 : MF K s.heap H16249 a0 [72] := MF.arr wH16249 (G_ne ga0 gq10 (by decide)) mf16242
        have g16251 : WD (avw K H16249 a0) := WD.congr (fun k hk j => av_arr hTH16222 ga0 wH16249 gq10 (by decide) (WD_ok 119 (by decide) k hk)) g16226
        have b16252 : UN (tk.toInt ≠ 0) (fun k => fI H16249 q4 k) (fun k => fI s.heap q4 k) := UN.congr (fun j => Wr.neI wH16249 (Or.inl (G_ne gq4 gq10 (by decide)))) b16232
        have b16253 : UN (tk.toInt ≠ 0) (fun k => fI H16249 q16 k) (fun k => fI s.heap q16 k) := UN.congr (fun j => Wr.neI wH16249 (Or.inl (G_ne gq16 gq10 (by decide)))) b16233
        have b16254 : UN (tk.toInt = 0) (fun k => fI H16249 iq k) (fun k => fI s.heap iq k) := UN.congr (fun j => Wr.neI wH16249 (Or.inl (G_ne giq gq10 (by decide)))) b16243
        have b16255 : FB (fun k => fI H16249 iq k) (fun k => fI s.heap iq k) (6) := FB.congr (fun j => Wr.neI wH16249 (Or.inl (G_ne giq gq10 (by decide)))) b16244
        have b16256 : EQ (fun k => fI H16249 q4 k) (fun k => fI H16249 iq k) (6) (6) (x16163.toNatClampNeg + 1) := EQ.congr (fun j => Wr.neI wH16249 (Or.inl (G_ne gq4 gq10 (by decide)))) (fun j => Wr.neI wH16249 (Or.inl (G_ne giq gq10 (by decide)))) b16245
        have b16257 : EQ (fun k => fI H16249 q10 k) (fun k => fI H16249 iq k) (7) (6) (x16163.toNatClampNeg + 1) := EQ.st b16246 (i := x16163.toNatClampNeg) (t := x16175.toNatClampNeg) (by omega) m16228 (by omega) (Wr.I wH16249) (fun j hj => Wr.neI wH16249 (Or.inr hj)) (fun j => Wr.neI wH16249 (Or.inl (G_ne giq gq10 (by decide))))
        have b16258 : EQ (fun k => fI H16249 q50 k) (fun k => fI H16249 iq k) (11) (6) (x16163.toNatClampNeg) := EQ.congr (fun j => Wr.neI wH16249 (Or.inl (G_ne gq50 gq10 (by decide)))) (fun j => Wr.neI wH16249 (Or.inl (G_ne giq gq10 (by decide)))) b16247
        have b16259 : EQ (fun k => fI H16249 q16 k) (fun k => fI H16249 iq k) (736) (3) (0) := EQ.congr (fun j => Wr.neI wH16249 (Or.inl (G_ne gq16 gq10 (by decide)))) (fun j => Wr.neI wH16249 (Or.inl (G_ne giq gq10 (by decide)))) b16248
        have m16260 := m16234.trans (Wr.neI wH16249 (Or.inl (G_ne gq4 gq10 (by decide)))).symm
        have m16262 := m16225.trans (Wr.neR wH16249 (Or.inl (G_ne ga0 gq10 (by decide)))).symm
        have m16263 := m16237.trans (Wr.neR wH16249 (Or.inl (G_ne ga0 gq10 (by decide)))).symm
        have m16264 := m16238.trans (Wr.neR wH16249 (Or.inl (G_ne ga0 gq10 (by decide)))).symm
        have m16265 := m16239.trans (Wr.neR wH16249 (Or.inl (G_ne ga0 gq10 (by decide)))).symm
        have m16266 := m16240.trans (Wr.neR wH16249 (Or.inl (G_ne ga0 gq10 (by decide)))).symm
        have m16267 := m16241.trans (Wr.neI wH16249 (Or.inl (G_ne ga0 gq10 (by decide)))).symm
        have m16268 := ex16224.trans (Wr.neI wH16249 (Or.inl (G_ne ga0 gq10 (by decide)))).symm
        have m16269 := Wr.I wH16249
        have m16269 := m16269.symm
        clear b16232 b16233 b16243 b16244 b16245 b16246 b16247 b16248 ex16224 g16226 hTH16222 m16225 m16234 m16235 m16237 m16238 m16239 m16240 m16241 mf16242
        refine lv_aload_n hx hb dX10_keepsBars_40 rfl (lv_at hl16162 0 rfl) ?_
        refine x_gr C hTH16249 (ci := 10) (k := 13) rfl inX10 (by decide) wF_X10_41 ga0 rg_112 rfl dX10_keepsBars_41 (fun q16270 eq16270 gq16270 => ?_)
        replace eq16270 := EQN.mk eq16270
        refine lv_iload_n hx hb dX10_keepsBars_44 rfl (lv_at hl16162 1 rfl) ?_
        refine lv_aload_n hx hb dX10_keepsBars_45 rfl (lv_at hl16162 0 rfl) ?_
        refine lv_aload_n hx hb dX10_keepsBars_46 rfl (lv_at hl16162 0 rfl) ?_
        refine x_gr C hTH16249 (ci := 10) (k := 13) rfl inX10 (by decide) wF_X10_41 ga0 rg_112 rfl dX10_keepsBars_47 (fun q16271 eq16271 gq16271 => ?_)
        have uq16271 : q16270 = q16271 := (eq16270).trans eq16271.symm
        subst uq16271
        clear eq16271
        refine lv_iload_n hx hb dX10_keepsBars_50 rfl (lv_at hl16162 1 rfl) ?_
        refine x_ai C hTH16249 gq16270 rg_122 ⟨by omega, by show _ < ((10 : Nat) : Int); omega⟩ dX10_keepsBars_51 (fun x16272 ex16272 bx16272 => ?_)
        refine x_V (As := [.int x16272]) (rest := [.int x16163, .ref q16270]) C (a_X10_kept l K G H16249 (x16272) (x16224) (tk) hTH16249 ga0 giq m16262 m16268 m16267 g16251 (by and_intros <;> first | assumption | omega)) yo_X10_kept wM_X10_473 ⟨⟨by decide, by decide⟩, by decide, by decide⟩ (x_rv C hTH16249 (ci := 10) rfl ga0 rg_112) rfl hl16162.1 rfl (Nat.le_of_ble_eq_true rfl) dX10_keepsBars_52 hSH16249 (AE_sub (fun _ _ => rfl) (by decide) hSH16249.1) (fun vH16273 H16273 locsH16273 pH16273 zH16273 kH16273 hSH16273 => ?_)
        obtain ⟨x16274, x16275, hvH16273, ex16275, hrH16273, m16276, g16277, mf16278, m16279, m16280, m16281, m16282, hTH16273⟩ := pH16273
        subst hvH16273
        clear zH16273
        replace m16276 := EQN.mk m16276
        have b16283 : UN (tk.toInt ≠ 0) (fun k => fI H16273 q4 k) (fun k => fI s.heap q4 k) := UN.congr (fun j => fI_kept (x_lt hTH16249 kH16273 gq4 (by decide))) b16252
        have b16284 : UN (tk.toInt ≠ 0) (fun k => fI H16273 q16 k) (fun k => fI s.heap q16 k) := UN.congr (fun j => fI_kept (x_lt hTH16249 kH16273 gq16 (by decide))) b16253
        have m16285 := (m16260).trans (fI_kept (x_lt hTH16249 kH16273 gq4 (by decide))).symm
        have m16286 := (m16269).trans (fI_kept (x_lt hTH16249 kH16273 gq10 (by decide))).symm
        have m16287 := (ex16272).trans (fI_kept (x_lt hTH16249 kH16273 gq16270 (by decide))).symm
        have m16288 := (m16262).trans (MF.r mf16278 (k := 73) (by decide) (by decide)).symm
        have m16289 := (m16263).trans (MF.r mf16278 (k := 4) (by decide) (by decide)).symm
        have m16290 := (m16264).trans (MF.r mf16278 (k := 10) (by decide) (by decide)).symm
        have m16291 := (m16265).trans (MF.r mf16278 (k := 16) (by decide) (by decide)).symm
        have m16292 := (m16266).trans (MF.r mf16278 (k := 50) (by decide) (by decide)).symm
        have m16293 := (m16267).trans (MF.i mf16278 (k := 71) (by decide) (by decide)).symm
        have m16294 := (eq16270).trans (MF.r mf16278 (k := 13) (by decide) (by decide)).symm
        have mf16295 : MF K s.heap H16273 a0 [72] := MF.trans mf16250 mf16278 (by decide)
        have bx16275 := ty_fi (x := x16275) (k := 72) ex16275 hTH16273 ga0 rg_112 rfl
        have ce_x16224 := i_cl (x := x16224) (by omega)
        have b16296 : UN (tk.toInt = 0) (fun k => fI H16273 iq k) (fun k => fI s.heap iq k) := UN.tr m16282 b16254
        have b16297 : FB (fun k => fI H16273 iq k) (fun k => fI s.heap iq k) (6) := FB.wr b16255 m16281 (fun j hj => by omega)
        have b16298 : EQ (fun k => fI H16273 q4 k) (fun k => fI H16273 iq k) (6) (6) (x16163.toNatClampNeg + 1) := EQ.wr (EQ.congr (w1 := fun k => fI H16249 iq k) (fun j => fI_kept (x_lt hTH16249 kH16273 gq4 (by decide))) (fun _ => rfl) b16256) m16281 (fun j hj => by omega)
        have b16299 : EQ (fun k => fI H16273 q10 k) (fun k => fI H16273 iq k) (7) (6) (x16163.toNatClampNeg + 1) := EQ.wr (EQ.congr (w1 := fun k => fI H16249 iq k) (fun j => fI_kept (x_lt hTH16249 kH16273 gq10 (by decide))) (fun _ => rfl) b16257) m16281 (fun j hj => by omega)
        have b16300 : EQ (fun k => fI H16273 q50 k) (fun k => fI H16273 iq k) (11) (6) (x16163.toNatClampNeg) := EQ.wr (EQ.congr (w1 := fun k => fI H16249 iq k) (fun j => fI_kept (x_lt hTH16249 kH16273 gq50 (by decide))) (fun _ => rfl) b16258) m16281 (fun j hj => by omega)
        have b16301 : EQ (fun k => fI H16273 q16 k) (fun k => fI H16273 iq k) (736) (3) (0) := EQ.wr (EQ.congr (w1 := fun k => fI H16249 iq k) (fun j => fI_kept (x_lt hTH16249 kH16273 gq16 (by decide))) (fun _ => rfl) b16259) m16281 (fun j hj => by omega)
        clear b16252 b16253 b16254 b16255 b16256 b16257 b16258 b16259 eq16270 ex16272 m16260 m16262 m16263 m16264 m16265 m16266 m16267 m16268 m16269
        clear m16281 m16282
        refine W.eq (g2 := F0 m 55 ls16161 [.int x16274, .int x16163, .ref q16270]) rfl ?_
        refine x_iast C hTH16273 hSH16273 gq16270 rg_122 (by omega) (by show _ < ((10 : Nat) : Int); omega) ⟨by have := i_rng x16274; omega, by have := i_rng x16274; omega⟩ (AE_in gq16270 (by decide)) dX10_keepsBars_55 (fun H16302 locsH16302 hTH16302 hSH16302 wH16302 => ?_)
        have mf16303 : MF K s.heap H16302 a0 [72] := MF.arr wH16302 (G_ne ga0 gq16270 (by decide)) mf16295
        have g16304 : WD (avw K H16302 a0) := WD.congr (fun k hk j => av_arr hTH16273 ga0 wH16302 gq16270 (by decide) (WD_ok 122 (by decide) k hk)) g16277
        have b16305 : UN (tk.toInt ≠ 0) (fun k => fI H16302 q4 k) (fun k => fI s.heap q4 k) := UN.congr (fun j => Wr.neI wH16302 (Or.inl (G_ne gq4 gq16270 (by decide)))) b16283
        have b16306 : UN (tk.toInt ≠ 0) (fun k => fI H16302 q16 k) (fun k => fI s.heap q16 k) := UN.congr (fun j => Wr.neI wH16302 (Or.inl (G_ne gq16 gq16270 (by decide)))) b16284
        have b16307 : UN (tk.toInt = 0) (fun k => fI H16302 iq k) (fun k => fI s.heap iq k) := UN.congr (fun j => Wr.neI wH16302 (Or.inl (G_ne giq gq16270 (by decide)))) b16296
        have b16308 : FB (fun k => fI H16302 iq k) (fun k => fI s.heap iq k) (6) := FB.congr (fun j => Wr.neI wH16302 (Or.inl (G_ne giq gq16270 (by decide)))) b16297
        have b16309 : EQ (fun k => fI H16302 q4 k) (fun k => fI H16302 iq k) (6) (6) (x16163.toNatClampNeg + 1) := EQ.congr (fun j => Wr.neI wH16302 (Or.inl (G_ne gq4 gq16270 (by decide)))) (fun j => Wr.neI wH16302 (Or.inl (G_ne giq gq16270 (by decide)))) b16298
        have b16310 : EQ (fun k => fI H16302 q10 k) (fun k => fI H16302 iq k) (7) (6) (x16163.toNatClampNeg + 1) := EQ.congr (fun j => Wr.neI wH16302 (Or.inl (G_ne gq10 gq16270 (by decide)))) (fun j => Wr.neI wH16302 (Or.inl (G_ne giq gq16270 (by decide)))) b16299
        have b16311 : EQ (fun k => fI H16302 q50 k) (fun k => fI H16302 iq k) (11) (6) (x16163.toNatClampNeg) := EQ.congr (fun j => Wr.neI wH16302 (Or.inl (G_ne gq50 gq16270 (by decide)))) (fun j => Wr.neI wH16302 (Or.inl (G_ne giq gq16270 (by decide)))) b16300
        have b16312 : EQ (fun k => fI H16302 q16 k) (fun k => fI H16302 iq k) (736) (3) (0) := EQ.congr (fun j => Wr.neI wH16302 (Or.inl (G_ne gq16 gq16270 (by decide)))) (fun j => Wr.neI wH16302 (Or.inl (G_ne giq gq16270 (by decide)))) b16301
        have m16313 := m16285.trans (Wr.neI wH16302 (Or.inl (G_ne gq4 gq16270 (by decide)))).symm
        have m16314 := m16286.trans (Wr.neI wH16302 (Or.inl (G_ne gq10 gq16270 (by decide)))).symm
        have m16316 := m16276.trans (Wr.neR wH16302 (Or.inl (G_ne ga0 gq16270 (by decide)))).symm
        have m16317 := m16289.trans (Wr.neR wH16302 (Or.inl (G_ne ga0 gq16270 (by decide)))).symm
        have m16318 := m16290.trans (Wr.neR wH16302 (Or.inl (G_ne ga0 gq16270 (by decide)))).symm
        have m16319 := m16291.trans (Wr.neR wH16302 (Or.inl (G_ne ga0 gq16270 (by decide)))).symm
        have m16320 := m16292.trans (Wr.neR wH16302 (Or.inl (G_ne ga0 gq16270 (by decide)))).symm
        have m16321 := m16293.trans (Wr.neI wH16302 (Or.inl (G_ne ga0 gq16270 (by decide)))).symm
        have m16322 := m16294.trans (Wr.neR wH16302 (Or.inl (G_ne ga0 gq16270 (by decide)))).symm
        have m16323 := ex16275.trans (Wr.neI wH16302 (Or.inl (G_ne ga0 gq16270 (by decide)))).symm
        have m16324 := Wr.I wH16302
        have m16324 := m16324.symm
        clear b16283 b16284 b16296 b16297 b16298 b16299 b16300 b16301 ex16275 g16277 hTH16273 m16276 m16285 m16286 m16287 m16289 m16290 m16291 m16292 m16293 m16294 mf16295
        refine lv_aload_n hx hb dX10_keepsBars_56 rfl (lv_at hl16162 0 rfl) ?_
        refine x_gr C hTH16302 (ci := 10) (k := 14) rfl inX10 (by decide) wF_X10_44 ga0 rg_112 rfl dX10_keepsBars_57 (fun q16325 eq16325 gq16325 => ?_)
        replace eq16325 := EQN.mk eq16325
        refine lv_iload_n hx hb dX10_keepsBars_60 rfl (lv_at hl16162 1 rfl) ?_
        refine lv_aload_n hx hb dX10_keepsBars_61 rfl (lv_at hl16162 0 rfl) ?_
        refine lv_aload_n hx hb dX10_keepsBars_62 rfl (lv_at hl16162 0 rfl) ?_
        refine x_gr C hTH16302 (ci := 10) (k := 14) rfl inX10 (by decide) wF_X10_44 ga0 rg_112 rfl dX10_keepsBars_63 (fun q16326 eq16326 gq16326 => ?_)
        have uq16326 : q16325 = q16326 := (eq16325).trans eq16326.symm
        subst uq16326
        clear eq16326
        refine lv_iload_n hx hb dX10_keepsBars_66 rfl (lv_at hl16162 1 rfl) ?_
        refine x_ai C hTH16302 gq16325 rg_123 ⟨by omega, by show _ < ((10 : Nat) : Int); omega⟩ dX10_keepsBars_67 (fun x16327 ex16327 bx16327 => ?_)
        refine x_V (As := [.int x16327]) (rest := [.int x16163, .ref q16325]) C (a_X10_kept l K G H16302 (x16327) (x16275) (tk) hTH16302 ga0 giq m16316 m16323 m16321 g16304 (by and_intros <;> first | assumption | omega)) yo_X10_kept wM_X10_473 ⟨⟨by decide, by decide⟩, by decide, by decide⟩ (x_rv C hTH16302 (ci := 10) rfl ga0 rg_112) rfl hl16162.1 rfl (Nat.le_of_ble_eq_true rfl) dX10_keepsBars_68 hSH16302 (AE_sub (fun _ _ => rfl) (by decide) hSH16302.1) (fun vH16328 H16328 locsH16328 pH16328 zH16328 kH16328 hSH16328 => ?_)
        obtain ⟨x16329, x16330, hvH16328, ex16330, hrH16328, m16331, g16332, mf16333, m16334, m16335, m16336, m16337, hTH16328⟩ := pH16328
        subst hvH16328
        clear zH16328
        replace m16331 := EQN.mk m16331
        have b16338 : UN (tk.toInt ≠ 0) (fun k => fI H16328 q4 k) (fun k => fI s.heap q4 k) := UN.congr (fun j => fI_kept (x_lt hTH16302 kH16328 gq4 (by decide))) b16305
        have b16339 : UN (tk.toInt ≠ 0) (fun k => fI H16328 q16 k) (fun k => fI s.heap q16 k) := UN.congr (fun j => fI_kept (x_lt hTH16302 kH16328 gq16 (by decide))) b16306
        have m16340 := (m16313).trans (fI_kept (x_lt hTH16302 kH16328 gq4 (by decide))).symm
        have m16341 := (m16314).trans (fI_kept (x_lt hTH16302 kH16328 gq10 (by decide))).symm
        have m16342 := (m16324).trans (fI_kept (x_lt hTH16302 kH16328 gq16270 (by decide))).symm
        have m16343 := (ex16327).trans (fI_kept (x_lt hTH16302 kH16328 gq16325 (by decide))).symm
        have m16344 := (m16316).trans (MF.r mf16333 (k := 73) (by decide) (by decide)).symm
        have m16345 := (m16317).trans (MF.r mf16333 (k := 4) (by decide) (by decide)).symm
        have m16346 := (m16318).trans (MF.r mf16333 (k := 10) (by decide) (by decide)).symm
        have m16347 := (m16319).trans (MF.r mf16333 (k := 16) (by decide) (by decide)).symm
        have m16348 := (m16320).trans (MF.r mf16333 (k := 50) (by decide) (by decide)).symm
        have m16349 := (m16321).trans (MF.i mf16333 (k := 71) (by decide) (by decide)).symm
        have m16350 := (m16322).trans (MF.r mf16333 (k := 13) (by decide) (by decide)).symm
        have m16351 := (eq16325).trans (MF.r mf16333 (k := 14) (by decide) (by decide)).symm
        have mf16352 : MF K s.heap H16328 a0 [72] := MF.trans mf16303 mf16333 (by decide)
        have bx16330 := ty_fi (x := x16330) (k := 72) ex16330 hTH16328 ga0 rg_112 rfl
        have ce_x16275 := i_cl (x := x16275) (by omega)
        have b16353 : UN (tk.toInt = 0) (fun k => fI H16328 iq k) (fun k => fI s.heap iq k) := UN.tr m16337 b16307
        have b16354 : FB (fun k => fI H16328 iq k) (fun k => fI s.heap iq k) (6) := FB.wr b16308 m16336 (fun j hj => by omega)
        have b16355 : EQ (fun k => fI H16328 q4 k) (fun k => fI H16328 iq k) (6) (6) (x16163.toNatClampNeg + 1) := EQ.wr (EQ.congr (w1 := fun k => fI H16302 iq k) (fun j => fI_kept (x_lt hTH16302 kH16328 gq4 (by decide))) (fun _ => rfl) b16309) m16336 (fun j hj => by omega)
        have b16356 : EQ (fun k => fI H16328 q10 k) (fun k => fI H16328 iq k) (7) (6) (x16163.toNatClampNeg + 1) := EQ.wr (EQ.congr (w1 := fun k => fI H16302 iq k) (fun j => fI_kept (x_lt hTH16302 kH16328 gq10 (by decide))) (fun _ => rfl) b16310) m16336 (fun j hj => by omega)
        have b16357 : EQ (fun k => fI H16328 q50 k) (fun k => fI H16328 iq k) (11) (6) (x16163.toNatClampNeg) := EQ.wr (EQ.congr (w1 := fun k => fI H16302 iq k) (fun j => fI_kept (x_lt hTH16302 kH16328 gq50 (by decide))) (fun _ => rfl) b16311) m16336 (fun j hj => by omega)
        have b16358 : EQ (fun k => fI H16328 q16 k) (fun k => fI H16328 iq k) (736) (3) (0) := EQ.wr (EQ.congr (w1 := fun k => fI H16302 iq k) (fun j => fI_kept (x_lt hTH16302 kH16328 gq16 (by decide))) (fun _ => rfl) b16312) m16336 (fun j hj => by omega)
        clear b16305 b16306 b16307 b16308 b16309 b16310 b16311 b16312 eq16325 ex16327 m16313 m16314 m16316 m16317 m16318 m16319 m16320 m16321 m16322 m16323 m16324
        clear m16336 m16337
        refine W.eq (g2 := F0 m 71 ls16161 [.int x16329, .int x16163, .ref q16325]) rfl ?_
        refine x_iast C hTH16328 hSH16328 gq16325 rg_123 (by omega) (by show _ < ((10 : Nat) : Int); omega) ⟨by have := i_rng x16329; omega, by have := i_rng x16329; omega⟩ (AE_in gq16325 (by decide)) dX10_keepsBars_71 (fun H16359 locsH16359 hTH16359 hSH16359 wH16359 => ?_)
        have mf16360 : MF K s.heap H16359 a0 [72] := MF.arr wH16359 (G_ne ga0 gq16325 (by decide)) mf16352
        have g16361 : WD (avw K H16359 a0) := WD.congr (fun k hk j => av_arr hTH16328 ga0 wH16359 gq16325 (by decide) (WD_ok 123 (by decide) k hk)) g16332
        have b16362 : UN (tk.toInt ≠ 0) (fun k => fI H16359 q4 k) (fun k => fI s.heap q4 k) := UN.congr (fun j => Wr.neI wH16359 (Or.inl (G_ne gq4 gq16325 (by decide)))) b16338
        have b16363 : UN (tk.toInt ≠ 0) (fun k => fI H16359 q16 k) (fun k => fI s.heap q16 k) := UN.congr (fun j => Wr.neI wH16359 (Or.inl (G_ne gq16 gq16325 (by decide)))) b16339
        have b16364 : UN (tk.toInt = 0) (fun k => fI H16359 iq k) (fun k => fI s.heap iq k) := UN.congr (fun j => Wr.neI wH16359 (Or.inl (G_ne giq gq16325 (by decide)))) b16353
        have b16365 : FB (fun k => fI H16359 iq k) (fun k => fI s.heap iq k) (6) := FB.congr (fun j => Wr.neI wH16359 (Or.inl (G_ne giq gq16325 (by decide)))) b16354
        have b16366 : EQ (fun k => fI H16359 q4 k) (fun k => fI H16359 iq k) (6) (6) (x16163.toNatClampNeg + 1) := EQ.congr (fun j => Wr.neI wH16359 (Or.inl (G_ne gq4 gq16325 (by decide)))) (fun j => Wr.neI wH16359 (Or.inl (G_ne giq gq16325 (by decide)))) b16355
        have b16367 : EQ (fun k => fI H16359 q10 k) (fun k => fI H16359 iq k) (7) (6) (x16163.toNatClampNeg + 1) := EQ.congr (fun j => Wr.neI wH16359 (Or.inl (G_ne gq10 gq16325 (by decide)))) (fun j => Wr.neI wH16359 (Or.inl (G_ne giq gq16325 (by decide)))) b16356
        have b16368 : EQ (fun k => fI H16359 q50 k) (fun k => fI H16359 iq k) (11) (6) (x16163.toNatClampNeg) := EQ.congr (fun j => Wr.neI wH16359 (Or.inl (G_ne gq50 gq16325 (by decide)))) (fun j => Wr.neI wH16359 (Or.inl (G_ne giq gq16325 (by decide)))) b16357
        have b16369 : EQ (fun k => fI H16359 q16 k) (fun k => fI H16359 iq k) (736) (3) (0) := EQ.congr (fun j => Wr.neI wH16359 (Or.inl (G_ne gq16 gq16325 (by decide)))) (fun j => Wr.neI wH16359 (Or.inl (G_ne giq gq16325 (by decide)))) b16358
        have m16370 := m16340.trans (Wr.neI wH16359 (Or.inl (G_ne gq4 gq16325 (by decide)))).symm
        have m16371 := m16341.trans (Wr.neI wH16359 (Or.inl (G_ne gq10 gq16325 (by decide)))).symm
        have m16372 := m16342.trans (Wr.neI wH16359 (Or.inl (G_ne gq16270 gq16325 (by decide)))).symm
        have m16374 := m16331.trans (Wr.neR wH16359 (Or.inl (G_ne ga0 gq16325 (by decide)))).symm
        have m16375 := m16345.trans (Wr.neR wH16359 (Or.inl (G_ne ga0 gq16325 (by decide)))).symm
        have m16376 := m16346.trans (Wr.neR wH16359 (Or.inl (G_ne ga0 gq16325 (by decide)))).symm
        have m16377 := m16347.trans (Wr.neR wH16359 (Or.inl (G_ne ga0 gq16325 (by decide)))).symm
        have m16378 := m16348.trans (Wr.neR wH16359 (Or.inl (G_ne ga0 gq16325 (by decide)))).symm
        have m16379 := m16349.trans (Wr.neI wH16359 (Or.inl (G_ne ga0 gq16325 (by decide)))).symm
        have m16380 := m16350.trans (Wr.neR wH16359 (Or.inl (G_ne ga0 gq16325 (by decide)))).symm
        have m16381 := m16351.trans (Wr.neR wH16359 (Or.inl (G_ne ga0 gq16325 (by decide)))).symm
        have m16382 := ex16330.trans (Wr.neI wH16359 (Or.inl (G_ne ga0 gq16325 (by decide)))).symm
        have m16383 := Wr.I wH16359
        have m16383 := m16383.symm
        clear b16338 b16339 b16353 b16354 b16355 b16356 b16357 b16358 ex16330 g16332 hTH16328 m16331 m16340 m16341 m16342 m16343 m16345 m16346 m16347 m16348 m16349 m16350 m16351 mf16352
        refine lv_aload_n hx hb dX10_keepsBars_72 rfl (lv_at hl16162 0 rfl) ?_
        refine x_gr C hTH16359 (ci := 10) (k := 15) rfl inX10 (by decide) wF_X10_47 ga0 rg_112 rfl dX10_keepsBars_73 (fun q16384 eq16384 gq16384 => ?_)
        replace eq16384 := EQN.mk eq16384
        refine lv_iload_n hx hb dX10_keepsBars_76 rfl (lv_at hl16162 1 rfl) ?_
        refine lv_aload_n hx hb dX10_keepsBars_77 rfl (lv_at hl16162 0 rfl) ?_
        refine lv_aload_n hx hb dX10_keepsBars_78 rfl (lv_at hl16162 0 rfl) ?_
        refine x_gr C hTH16359 (ci := 10) (k := 15) rfl inX10 (by decide) wF_X10_47 ga0 rg_112 rfl dX10_keepsBars_79 (fun q16385 eq16385 gq16385 => ?_)
        have uq16385 : q16384 = q16385 := (eq16384).trans eq16385.symm
        subst uq16385
        clear eq16385
        refine lv_iload_n hx hb dX10_keepsBars_82 rfl (lv_at hl16162 1 rfl) ?_
        refine x_ai C hTH16359 gq16384 rg_124 ⟨by omega, by show _ < ((10 : Nat) : Int); omega⟩ dX10_keepsBars_83 (fun x16386 ex16386 bx16386 => ?_)
        refine x_V (As := [.int x16386]) (rest := [.int x16163, .ref q16384]) C (a_X10_kept l K G H16359 (x16386) (x16330) (tk) hTH16359 ga0 giq m16374 m16382 m16379 g16361 (by and_intros <;> first | assumption | omega)) yo_X10_kept wM_X10_473 ⟨⟨by decide, by decide⟩, by decide, by decide⟩ (x_rv C hTH16359 (ci := 10) rfl ga0 rg_112) rfl hl16162.1 rfl (Nat.le_of_ble_eq_true rfl) dX10_keepsBars_84 hSH16359 (AE_sub (fun _ _ => rfl) (by decide) hSH16359.1) (fun vH16387 H16387 locsH16387 pH16387 zH16387 kH16387 hSH16387 => ?_)
        obtain ⟨x16388, x16389, hvH16387, ex16389, hrH16387, m16390, g16391, mf16392, m16393, m16394, m16395, m16396, hTH16387⟩ := pH16387
        subst hvH16387
        clear zH16387
        replace m16390 := EQN.mk m16390
        have b16397 : UN (tk.toInt ≠ 0) (fun k => fI H16387 q4 k) (fun k => fI s.heap q4 k) := UN.congr (fun j => fI_kept (x_lt hTH16359 kH16387 gq4 (by decide))) b16362
        have b16398 : UN (tk.toInt ≠ 0) (fun k => fI H16387 q16 k) (fun k => fI s.heap q16 k) := UN.congr (fun j => fI_kept (x_lt hTH16359 kH16387 gq16 (by decide))) b16363
        have m16399 := (m16370).trans (fI_kept (x_lt hTH16359 kH16387 gq4 (by decide))).symm
        have m16400 := (m16371).trans (fI_kept (x_lt hTH16359 kH16387 gq10 (by decide))).symm
        have m16401 := (m16372).trans (fI_kept (x_lt hTH16359 kH16387 gq16270 (by decide))).symm
        have m16402 := (m16383).trans (fI_kept (x_lt hTH16359 kH16387 gq16325 (by decide))).symm
        have m16403 := (ex16386).trans (fI_kept (x_lt hTH16359 kH16387 gq16384 (by decide))).symm
        have m16404 := (m16374).trans (MF.r mf16392 (k := 73) (by decide) (by decide)).symm
        have m16405 := (m16375).trans (MF.r mf16392 (k := 4) (by decide) (by decide)).symm
        have m16406 := (m16376).trans (MF.r mf16392 (k := 10) (by decide) (by decide)).symm
        have m16407 := (m16377).trans (MF.r mf16392 (k := 16) (by decide) (by decide)).symm
        have m16408 := (m16378).trans (MF.r mf16392 (k := 50) (by decide) (by decide)).symm
        have m16409 := (m16379).trans (MF.i mf16392 (k := 71) (by decide) (by decide)).symm
        have m16410 := (m16380).trans (MF.r mf16392 (k := 13) (by decide) (by decide)).symm
        have m16411 := (m16381).trans (MF.r mf16392 (k := 14) (by decide) (by decide)).symm
        have m16412 := (eq16384).trans (MF.r mf16392 (k := 15) (by decide) (by decide)).symm
        have mf16413 : MF K s.heap H16387 a0 [72] := MF.trans mf16360 mf16392 (by decide)
        have bx16389 := ty_fi (x := x16389) (k := 72) ex16389 hTH16387 ga0 rg_112 rfl
        have ce_x16330 := i_cl (x := x16330) (by omega)
        have b16414 : UN (tk.toInt = 0) (fun k => fI H16387 iq k) (fun k => fI s.heap iq k) := UN.tr m16396 b16364
        have b16415 : FB (fun k => fI H16387 iq k) (fun k => fI s.heap iq k) (6) := FB.wr b16365 m16395 (fun j hj => by omega)
        have b16416 : EQ (fun k => fI H16387 q4 k) (fun k => fI H16387 iq k) (6) (6) (x16163.toNatClampNeg + 1) := EQ.wr (EQ.congr (w1 := fun k => fI H16359 iq k) (fun j => fI_kept (x_lt hTH16359 kH16387 gq4 (by decide))) (fun _ => rfl) b16366) m16395 (fun j hj => by omega)
        have b16417 : EQ (fun k => fI H16387 q10 k) (fun k => fI H16387 iq k) (7) (6) (x16163.toNatClampNeg + 1) := EQ.wr (EQ.congr (w1 := fun k => fI H16359 iq k) (fun j => fI_kept (x_lt hTH16359 kH16387 gq10 (by decide))) (fun _ => rfl) b16367) m16395 (fun j hj => by omega)
        have b16418 : EQ (fun k => fI H16387 q50 k) (fun k => fI H16387 iq k) (11) (6) (x16163.toNatClampNeg) := EQ.wr (EQ.congr (w1 := fun k => fI H16359 iq k) (fun j => fI_kept (x_lt hTH16359 kH16387 gq50 (by decide))) (fun _ => rfl) b16368) m16395 (fun j hj => by omega)
        have b16419 : EQ (fun k => fI H16387 q16 k) (fun k => fI H16387 iq k) (736) (3) (0) := EQ.wr (EQ.congr (w1 := fun k => fI H16359 iq k) (fun j => fI_kept (x_lt hTH16359 kH16387 gq16 (by decide))) (fun _ => rfl) b16369) m16395 (fun j hj => by omega)
        clear b16362 b16363 b16364 b16365 b16366 b16367 b16368 b16369 eq16384 ex16386 m16370 m16371 m16372 m16374 m16375 m16376 m16377 m16378 m16379 m16380 m16381 m16382 m16383
        clear m16395 m16396
        refine W.eq (g2 := F0 m 87 ls16161 [.int x16388, .int x16163, .ref q16384]) rfl ?_
        refine x_iast C hTH16387 hSH16387 gq16384 rg_124 (by omega) (by show _ < ((10 : Nat) : Int); omega) ⟨by have := i_rng x16388; omega, by have := i_rng x16388; omega⟩ (AE_in gq16384 (by decide)) dX10_keepsBars_87 (fun H16420 locsH16420 hTH16420 hSH16420 wH16420 => ?_)
        have mf16421 : MF K s.heap H16420 a0 [72] := MF.arr wH16420 (G_ne ga0 gq16384 (by decide)) mf16413
        have g16422 : WD (avw K H16420 a0) := WD.congr (fun k hk j => av_arr hTH16387 ga0 wH16420 gq16384 (by decide) (WD_ok 124 (by decide) k hk)) g16391
        have b16423 : UN (tk.toInt ≠ 0) (fun k => fI H16420 q4 k) (fun k => fI s.heap q4 k) := UN.congr (fun j => Wr.neI wH16420 (Or.inl (G_ne gq4 gq16384 (by decide)))) b16397
        have b16424 : UN (tk.toInt ≠ 0) (fun k => fI H16420 q16 k) (fun k => fI s.heap q16 k) := UN.congr (fun j => Wr.neI wH16420 (Or.inl (G_ne gq16 gq16384 (by decide)))) b16398
        have b16425 : UN (tk.toInt = 0) (fun k => fI H16420 iq k) (fun k => fI s.heap iq k) := UN.congr (fun j => Wr.neI wH16420 (Or.inl (G_ne giq gq16384 (by decide)))) b16414
        have b16426 : FB (fun k => fI H16420 iq k) (fun k => fI s.heap iq k) (6) := FB.congr (fun j => Wr.neI wH16420 (Or.inl (G_ne giq gq16384 (by decide)))) b16415
        have b16427 : EQ (fun k => fI H16420 q4 k) (fun k => fI H16420 iq k) (6) (6) (x16163.toNatClampNeg + 1) := EQ.congr (fun j => Wr.neI wH16420 (Or.inl (G_ne gq4 gq16384 (by decide)))) (fun j => Wr.neI wH16420 (Or.inl (G_ne giq gq16384 (by decide)))) b16416
        have b16428 : EQ (fun k => fI H16420 q10 k) (fun k => fI H16420 iq k) (7) (6) (x16163.toNatClampNeg + 1) := EQ.congr (fun j => Wr.neI wH16420 (Or.inl (G_ne gq10 gq16384 (by decide)))) (fun j => Wr.neI wH16420 (Or.inl (G_ne giq gq16384 (by decide)))) b16417
        have b16429 : EQ (fun k => fI H16420 q50 k) (fun k => fI H16420 iq k) (11) (6) (x16163.toNatClampNeg) := EQ.congr (fun j => Wr.neI wH16420 (Or.inl (G_ne gq50 gq16384 (by decide)))) (fun j => Wr.neI wH16420 (Or.inl (G_ne giq gq16384 (by decide)))) b16418
        have b16430 : EQ (fun k => fI H16420 q16 k) (fun k => fI H16420 iq k) (736) (3) (0) := EQ.congr (fun j => Wr.neI wH16420 (Or.inl (G_ne gq16 gq16384 (by decide)))) (fun j => Wr.neI wH16420 (Or.inl (G_ne giq gq16384 (by decide)))) b16419
        have m16431 := m16399.trans (Wr.neI wH16420 (Or.inl (G_ne gq4 gq16384 (by decide)))).symm
        have m16432 := m16400.trans (Wr.neI wH16420 (Or.inl (G_ne gq10 gq16384 (by decide)))).symm
        have m16433 := m16401.trans (Wr.neI wH16420 (Or.inl (G_ne gq16270 gq16384 (by decide)))).symm
        have m16434 := m16402.trans (Wr.neI wH16420 (Or.inl (G_ne gq16325 gq16384 (by decide)))).symm
        have m16436 := m16390.trans (Wr.neR wH16420 (Or.inl (G_ne ga0 gq16384 (by decide)))).symm
        have m16437 := m16405.trans (Wr.neR wH16420 (Or.inl (G_ne ga0 gq16384 (by decide)))).symm
        have m16438 := m16406.trans (Wr.neR wH16420 (Or.inl (G_ne ga0 gq16384 (by decide)))).symm
        have m16439 := m16407.trans (Wr.neR wH16420 (Or.inl (G_ne ga0 gq16384 (by decide)))).symm
        have m16440 := m16408.trans (Wr.neR wH16420 (Or.inl (G_ne ga0 gq16384 (by decide)))).symm
        have m16441 := m16409.trans (Wr.neI wH16420 (Or.inl (G_ne ga0 gq16384 (by decide)))).symm
        have m16442 := m16410.trans (Wr.neR wH16420 (Or.inl (G_ne ga0 gq16384 (by decide)))).symm
        have m16443 := m16411.trans (Wr.neR wH16420 (Or.inl (G_ne ga0 gq16384 (by decide)))).symm
        have m16444 := m16412.trans (Wr.neR wH16420 (Or.inl (G_ne ga0 gq16384 (by decide)))).symm
        have m16445 := ex16389.trans (Wr.neI wH16420 (Or.inl (G_ne ga0 gq16384 (by decide)))).symm
        have m16446 := Wr.I wH16420
        have m16446 := m16446.symm
        clear b16397 b16398 b16414 b16415 b16416 b16417 b16418 b16419 ex16389 g16391 hTH16387 m16390 m16399 m16400 m16401 m16402 m16403 m16405 m16406 m16407 m16408 m16409 m16410 m16411 m16412 mf16413
        refine lv_aload_n hx hb dX10_keepsBars_88 rfl (lv_at hl16162 0 rfl) ?_
        refine x_gr C hTH16420 (ci := 10) (k := 50) rfl inX10 (by decide) wF_X10_116 ga0 rg_112 rfl dX10_keepsBars_89 (fun q16447 eq16447 gq16447 => ?_)
        have uq16447 : q50 = q16447 := (m16440).trans eq16447.symm
        subst uq16447
        clear eq16447
        refine lv_iload_n hx hb dX10_keepsBars_92 rfl (lv_at hl16162 1 rfl) ?_
        refine lv_aload_n hx hb dX10_keepsBars_93 rfl (lv_at hl16162 0 rfl) ?_
        refine lv_aload_n hx hb dX10_keepsBars_94 rfl (lv_at hl16162 0 rfl) ?_
        refine x_gr C hTH16420 (ci := 10) (k := 50) rfl inX10 (by decide) wF_X10_116 ga0 rg_112 rfl dX10_keepsBars_95 (fun q16448 eq16448 gq16448 => ?_)
        have uq16448 : q50 = q16448 := (m16440).trans eq16448.symm
        subst uq16448
        clear eq16448
        refine lv_iload_n hx hb dX10_keepsBars_98 rfl (lv_at hl16162 1 rfl) ?_
        refine x_ai C hTH16420 gq50 rg_146 ⟨by omega, by show _ < ((10 : Nat) : Int); omega⟩ dX10_keepsBars_99 (fun x16449 ex16449 bx16449 => ?_)
        refine x_V (As := [.int x16449]) (rest := [.int x16163, .ref q50]) C (a_X10_kept l K G H16420 (x16449) (x16389) (tk) hTH16420 ga0 giq m16436 m16445 m16441 g16422 (by and_intros <;> first | assumption | omega)) yo_X10_kept wM_X10_473 ⟨⟨by decide, by decide⟩, by decide, by decide⟩ (x_rv C hTH16420 (ci := 10) rfl ga0 rg_112) rfl hl16162.1 rfl (Nat.le_of_ble_eq_true rfl) dX10_keepsBars_100 hSH16420 (AE_sub (fun _ _ => rfl) (by decide) hSH16420.1) (fun vH16450 H16450 locsH16450 pH16450 zH16450 kH16450 hSH16450 => ?_)
        obtain ⟨x16451, x16452, hvH16450, ex16452, hrH16450, m16453, g16454, mf16455, m16456, m16457, m16458, m16459, hTH16450⟩ := pH16450
        subst hvH16450
        clear zH16450
        replace m16453 := EQN.mk m16453
        have b16460 : UN (tk.toInt ≠ 0) (fun k => fI H16450 q4 k) (fun k => fI s.heap q4 k) := UN.congr (fun j => fI_kept (x_lt hTH16420 kH16450 gq4 (by decide))) b16423
        have b16461 : UN (tk.toInt ≠ 0) (fun k => fI H16450 q16 k) (fun k => fI s.heap q16 k) := UN.congr (fun j => fI_kept (x_lt hTH16420 kH16450 gq16 (by decide))) b16424
        have m16462 := (m16431).trans (fI_kept (x_lt hTH16420 kH16450 gq4 (by decide))).symm
        have m16463 := (m16432).trans (fI_kept (x_lt hTH16420 kH16450 gq10 (by decide))).symm
        have m16464 := (m16433).trans (fI_kept (x_lt hTH16420 kH16450 gq16270 (by decide))).symm
        have m16465 := (m16434).trans (fI_kept (x_lt hTH16420 kH16450 gq16325 (by decide))).symm
        have m16466 := (m16446).trans (fI_kept (x_lt hTH16420 kH16450 gq16384 (by decide))).symm
        have m16467 := (ex16449).trans (fI_kept (x_lt hTH16420 kH16450 gq50 (by decide))).symm
        have m16468 := (m16436).trans (MF.r mf16455 (k := 73) (by decide) (by decide)).symm
        have m16469 := (m16437).trans (MF.r mf16455 (k := 4) (by decide) (by decide)).symm
        have m16470 := (m16438).trans (MF.r mf16455 (k := 10) (by decide) (by decide)).symm
        have m16471 := (m16439).trans (MF.r mf16455 (k := 16) (by decide) (by decide)).symm
        have m16472 := (m16440).trans (MF.r mf16455 (k := 50) (by decide) (by decide)).symm
        have m16473 := (m16441).trans (MF.i mf16455 (k := 71) (by decide) (by decide)).symm
        have m16474 := (m16442).trans (MF.r mf16455 (k := 13) (by decide) (by decide)).symm
        have m16475 := (m16443).trans (MF.r mf16455 (k := 14) (by decide) (by decide)).symm
        have m16476 := (m16444).trans (MF.r mf16455 (k := 15) (by decide) (by decide)).symm
        have mf16477 : MF K s.heap H16450 a0 [72] := MF.trans mf16421 mf16455 (by decide)
        have bx16452 := ty_fi (x := x16452) (k := 72) ex16452 hTH16450 ga0 rg_112 rfl
        have ce_x16389 := i_cl (x := x16389) (by omega)
        have b16478 : UN (tk.toInt = 0) (fun k => fI H16450 iq k) (fun k => fI s.heap iq k) := UN.tr m16459 b16425
        have b16479 : FB (fun k => fI H16450 iq k) (fun k => fI s.heap iq k) (6) := FB.wr b16426 m16458 (fun j hj => by omega)
        have b16480 : EQ (fun k => fI H16450 q4 k) (fun k => fI H16450 iq k) (6) (6) (x16163.toNatClampNeg + 1) := EQ.wr (EQ.congr (w1 := fun k => fI H16420 iq k) (fun j => fI_kept (x_lt hTH16420 kH16450 gq4 (by decide))) (fun _ => rfl) b16427) m16458 (fun j hj => by omega)
        have b16481 : EQ (fun k => fI H16450 q10 k) (fun k => fI H16450 iq k) (7) (6) (x16163.toNatClampNeg + 1) := EQ.wr (EQ.congr (w1 := fun k => fI H16420 iq k) (fun j => fI_kept (x_lt hTH16420 kH16450 gq10 (by decide))) (fun _ => rfl) b16428) m16458 (fun j hj => by omega)
        have b16482 : EQ (fun k => fI H16450 q50 k) (fun k => fI H16450 iq k) (11) (6) (x16163.toNatClampNeg) := EQ.wr (EQ.congr (w1 := fun k => fI H16420 iq k) (fun j => fI_kept (x_lt hTH16420 kH16450 gq50 (by decide))) (fun _ => rfl) b16429) m16458 (fun j hj => by omega)
        have b16483 : EQ (fun k => fI H16450 q16 k) (fun k => fI H16450 iq k) (736) (3) (0) := EQ.wr (EQ.congr (w1 := fun k => fI H16420 iq k) (fun j => fI_kept (x_lt hTH16420 kH16450 gq16 (by decide))) (fun _ => rfl) b16430) m16458 (fun j hj => by omega)
        clear b16423 b16424 b16425 b16426 b16427 b16428 b16429 b16430 ex16449 m16431 m16432 m16433 m16434 m16436 m16437 m16438 m16439 m16440 m16441 m16442 m16443 m16444 m16445 m16446
        clear m16458 m16459
        have bx16451 : 0 ≤ x16451.toInt ∧ x16451.toInt ≤ 12 := kr (fun h0 => by have hiw := (hy0 h0); exact kr0 (w := fun k => fI H16450 iq k) m16456 (p := 11 + 6 * x16163.toNatClampNeg) (by omega) (b16478 h0) ((hiw.2.1 x16163.toNatClampNeg (by omega)).2.2)) m16457 (by omega)
        refine W.eq (g2 := F0 m 103 ls16161 [.int x16451, .int x16163, .ref q50]) rfl ?_
        refine x_iast C hTH16450 hSH16450 gq50 rg_146 (by omega) (by show _ < ((10 : Nat) : Int); omega) ⟨by have := i_rng x16451; omega, by have := i_rng x16451; omega⟩ (AE_in gq50 (by decide)) dX10_keepsBars_103 (fun H16484 locsH16484 hTH16484 hSH16484 wH16484 => ?_)
        have mf16485 : MF K s.heap H16484 a0 [72] := MF.arr wH16484 (G_ne ga0 gq50 (by decide)) mf16477
        have g16486 : WD (avw K H16484 a0) := WD.congr (fun k hk j => av_arr hTH16450 ga0 wH16484 gq50 (by decide) (WD_ok 146 (by decide) k hk)) g16454
        have b16487 : UN (tk.toInt ≠ 0) (fun k => fI H16484 q4 k) (fun k => fI s.heap q4 k) := UN.congr (fun j => Wr.neI wH16484 (Or.inl (G_ne gq4 gq50 (by decide)))) b16460
        have b16488 : UN (tk.toInt ≠ 0) (fun k => fI H16484 q16 k) (fun k => fI s.heap q16 k) := UN.congr (fun j => Wr.neI wH16484 (Or.inl (G_ne gq16 gq50 (by decide)))) b16461
        have b16489 : UN (tk.toInt = 0) (fun k => fI H16484 iq k) (fun k => fI s.heap iq k) := UN.congr (fun j => Wr.neI wH16484 (Or.inl (G_ne giq gq50 (by decide)))) b16478
        have b16490 : FB (fun k => fI H16484 iq k) (fun k => fI s.heap iq k) (6) := FB.congr (fun j => Wr.neI wH16484 (Or.inl (G_ne giq gq50 (by decide)))) b16479
        have b16491 : EQ (fun k => fI H16484 q4 k) (fun k => fI H16484 iq k) (6) (6) (x16163.toNatClampNeg + 1) := EQ.congr (fun j => Wr.neI wH16484 (Or.inl (G_ne gq4 gq50 (by decide)))) (fun j => Wr.neI wH16484 (Or.inl (G_ne giq gq50 (by decide)))) b16480
        have b16492 : EQ (fun k => fI H16484 q10 k) (fun k => fI H16484 iq k) (7) (6) (x16163.toNatClampNeg + 1) := EQ.congr (fun j => Wr.neI wH16484 (Or.inl (G_ne gq10 gq50 (by decide)))) (fun j => Wr.neI wH16484 (Or.inl (G_ne giq gq50 (by decide)))) b16481
        have b16493 : EQ (fun k => fI H16484 q50 k) (fun k => fI H16484 iq k) (11) (6) (x16163.toNatClampNeg + 1) := EQ.st b16482 (i := x16163.toNatClampNeg) (t := x16389.toNatClampNeg) (by omega) m16456 (by omega) (Wr.I wH16484) (fun j hj => Wr.neI wH16484 (Or.inr hj)) (fun j => Wr.neI wH16484 (Or.inl (G_ne giq gq50 (by decide))))
        have b16494 : EQ (fun k => fI H16484 q16 k) (fun k => fI H16484 iq k) (736) (3) (0) := EQ.congr (fun j => Wr.neI wH16484 (Or.inl (G_ne gq16 gq50 (by decide)))) (fun j => Wr.neI wH16484 (Or.inl (G_ne giq gq50 (by decide)))) b16483
        have m16495 := m16462.trans (Wr.neI wH16484 (Or.inl (G_ne gq4 gq50 (by decide)))).symm
        have m16496 := m16463.trans (Wr.neI wH16484 (Or.inl (G_ne gq10 gq50 (by decide)))).symm
        have m16497 := m16464.trans (Wr.neI wH16484 (Or.inl (G_ne gq16270 gq50 (by decide)))).symm
        have m16498 := m16465.trans (Wr.neI wH16484 (Or.inl (G_ne gq16325 gq50 (by decide)))).symm
        have m16499 := m16466.trans (Wr.neI wH16484 (Or.inl (G_ne gq16384 gq50 (by decide)))).symm
        have m16501 := m16453.trans (Wr.neR wH16484 (Or.inl (G_ne ga0 gq50 (by decide)))).symm
        have m16502 := m16469.trans (Wr.neR wH16484 (Or.inl (G_ne ga0 gq50 (by decide)))).symm
        have m16503 := m16470.trans (Wr.neR wH16484 (Or.inl (G_ne ga0 gq50 (by decide)))).symm
        have m16504 := m16471.trans (Wr.neR wH16484 (Or.inl (G_ne ga0 gq50 (by decide)))).symm
        have m16505 := m16472.trans (Wr.neR wH16484 (Or.inl (G_ne ga0 gq50 (by decide)))).symm
        have m16506 := m16473.trans (Wr.neI wH16484 (Or.inl (G_ne ga0 gq50 (by decide)))).symm
        have m16507 := m16474.trans (Wr.neR wH16484 (Or.inl (G_ne ga0 gq50 (by decide)))).symm
        have m16508 := m16475.trans (Wr.neR wH16484 (Or.inl (G_ne ga0 gq50 (by decide)))).symm
        have m16509 := m16476.trans (Wr.neR wH16484 (Or.inl (G_ne ga0 gq50 (by decide)))).symm
        have m16510 := ex16452.trans (Wr.neI wH16484 (Or.inl (G_ne ga0 gq50 (by decide)))).symm
        have m16511 := Wr.I wH16484
        have m16511 := m16511.symm
        clear b16460 b16461 b16478 b16479 b16480 b16481 b16482 b16483 ex16452 g16454 hTH16450 m16453 m16462 m16463 m16464 m16465 m16466 m16467 m16469 m16470 m16471 m16472 m16473 m16474 m16475 m16476 mf16477
        obtain ⟨x16512, ex16512⟩ : ∃ y : Int32, y = x16163 + 1 := ⟨_, rfl⟩
        have tx16512 := i_add ex16512 (by omega)
        refine lv_iinc (v := x16512) (lv' := [(1, .int x16512), (0, .ref a0)]) hx hb dX10_keepsBars_104 hl16162 (k := 1) rfl (by rw [ex16512]; rfl) (by decide) rfl (fun ls16513 hl16514 => ?_)
        refine lv_goto (tgt := 2) hx hb dX10_keepsBars_107 (by decide) ?_
        have cl_x16512 := i_cl (x := x16512) (by omega)
        exact ih2 ls16513 H16484 locsH16484 (x16512) (x16452) (lv_sub hl16514 [1, 0] rfl) hTH16484 hSH16484 ⟨by have := i_rng x16512; omega, by have := i_rng x16512; omega⟩ ⟨by have := i_rng x16452; omega, by have := i_rng x16452; omega⟩ m16510 m16501 m16502 m16503 m16504 m16505 m16506 b16489 b16490 (EQ.cast b16491 (by omega)) (EQ.cast b16492 (by omega)) (EQ.cast b16493 (by omega)) (EQ.cast b16494 (by omega)) b16487 b16488 mf16485 g16486 (by omega) (by and_intros <;> first | assumption | omega)
  have ui00 : UN (tk.toInt = 0) (fun k => fI s.heap iq k) (fun k => fI s.heap iq k) := UN.rf
  have fb00 : FB (fun k => fI s.heap iq k) (fun k => fI s.heap iq k) (6) := FB.rf
  have e400 : EQ (fun k => fI s.heap q4 k) (fun k => fI s.heap iq k) (6) (6) (0) := EQ.nil rfl
  have e1000 : EQ (fun k => fI s.heap q10 k) (fun k => fI s.heap iq k) (7) (6) (0) := EQ.nil rfl
  have e5000 : EQ (fun k => fI s.heap q50 k) (fun k => fI s.heap iq k) (11) (6) (0) := EQ.nil rfl
  have e1600 : EQ (fun k => fI s.heap q16 k) (fun k => fI s.heap iq k) (736) (3) (0) := EQ.nil rfl
  have u400 : UN (tk.toInt ≠ 0) (fun k => fI s.heap q4 k) (fun k => fI s.heap q4 k) := UN.rf
  have u1600 : UN (tk.toInt ≠ 0) (fun k => fI s.heap q16 k) (fun k => fI s.heap q16 k) := UN.rf
  refine lv_iconst (v := 0) hx hb dX10_keepsBars_0 (by decide) ?_
  refine lv_istore_n (lv' := [(1, .int 0), (0, .ref a0)]) hx hb dX10_keepsBars_1 rfl hl (by decide) rfl (fun ls16515 hl16516 => ?_)
  have cl00 : (0 : Int32).toNatClampNeg = 0 := rfl
  exact J2 ((10 - (0 : Int32).toInt).toNat + 1) ls16515 s.heap [] (0) (ia) (lv_sub hl16516 [1, 0] rfl) hT hS (by decide) ⟨by have := i_rng ia; omega, by have := i_rng ia; omega⟩ eia eiq eq4 eq10 eq16 eq50 etk ui00 fb00 (EQ.cast e400 (by omega)) (EQ.cast e1000 (by omega)) (EQ.cast e5000 (by omega)) (EQ.cast e1600 (by omega)) u400 u1600 mf0 hg_WD (by omega) (by and_intros <;> first | assumption | omega)

set_option maxHeartbeats 4000000 in
set_option maxRecDepth 100000 in
theorem a_X10_keepsTaps (l : Launch) (K : KE) (G : Nat → Option Nat) (H : Heap) {a0 : Nat} {iq : Nat} {q64 : Nat} {q66 : Nat} {q67 : Nat} (ia : Int32) (tk : Int32) (hT : TY K G H) (ga0 : G a0 = some 112) (giq : G iq = some 162) (eiq : iq = fR H a0 (K.1.2 10 73)) (gq64 : G q64 = some 157) (eq64 : q64 = fR H a0 (K.1.2 10 64)) (gq66 : G q66 = some 158) (eq66 : q66 = fR H a0 (K.1.2 10 66)) (gq67 : G q67 = some 159) (eq67 : q67 = fR H a0 (K.1.2 10 67)) (eia : ia = fI H a0 (K.1.2 10 72)) (etk : tk = fI H a0 (K.1.2 10 71)) (hg_WD : WD (avw K H a0)) (hp0 : ia.toInt = 4796) (hy0 : tk.toInt = 0 → IMw (fun k => fI H iq k)) : MX l K yX10_keepsTaps cX10_keepsTaps 2 none 1 21 0 0 [.ref a0] H (AE G [112, 162, 147, 148, 149, 150, 156, 157, 158, 159] H.size) (fun v H1 => ∃ (t0 : Int32), v = none ∧ t0 = fI H1 a0 (K.1.2 10 72) ∧ (t0.toInt = 8908) ∧ iq = fR H1 a0 (K.1.2 10 73) ∧ q64 = fR H1 a0 (K.1.2 10 64) ∧ q66 = fR H1 a0 (K.1.2 10 66) ∧ q67 = fR H1 a0 (K.1.2 10 67) ∧ (WD (avw K H1 a0)) ∧ MF K H H1 a0 [72] ∧ (UN (tk.toInt = 0) (fun k => fI H1 iq k) (fun k => fI H iq k)) ∧ (FB (fun k => fI H1 iq k) (fun k => fI H iq k) 4796) ∧ (EQ (fun k => fI H1 q64 k) (fun k => fI H1 iq k) 8877 4 8) ∧ (EQ (fun k => fI H1 q66 k) (fun k => fI H1 iq k) 8878 4 8) ∧ (EQ (fun k => fI H1 q67 k) (fun k => fI H1 iq k) 8879 4 8) ∧ (UN (tk.toInt ≠ 0) (fun k => fI H1 q64 k) (fun k => fI H q64 k)) ∧ (UN (tk.toInt ≠ 0) (fun k => fI H1 q66 k) (fun k => fI H q66 k)) ∧ (UN (tk.toInt ≠ 0) (fun k => fI H1 q67 k) (fun k => fI H q67 k)) ∧ TY K G H1) := by
  refine MX.of (by decide +kernel) (Nat.le_of_ble_eq_true rfl) ?_
  intro p e s m below meth c ls Q C hH hl hQ
  subst hH
  have C : CX p K s m _ meth c RX10 cX10_keepsTaps 2 none "keepsTaps" := C
  obtain ⟨hx, hb, hml, hown, hts, hKT, hr, hlocks, hnm⟩ := id C
  have hl : lv_has ls 2 [(0, .ref a0)] := hl
  have hS : va_S (AE G [112, 162, 147, 148, 149, 150, 156, 157, 158, 159] s.heap.size) s.heap s.heap [] := va_S.rf
  have n_0 : (0 : Int32).toInt = 0 := rfl
  have n_1 : (1 : Int32).toInt = 1 := rfl
  have n_8 : (8 : Int32).toInt = 8 := rfl
  have n_120 : (120 : Int32).toInt = 120 := rfl
  have n_1920 : (1920 : Int32).toInt = 1920 := rfl
  have bia := ty_fi (x := ia) (k := 72) eia hT ga0 rg_112 rfl
  have btk := ty_fi (x := tk) (k := 71) etk hT ga0 rg_112 rfl
  have hap : ∀ x y, x < 74 → y < 74 → x ≠ y → K.1.2 10 x ≠ K.1.2 10 y := x_apart hKT hts inX10 tyX10 tyX10_ok nmX10 rfl
  have mf0 : MF K s.heap s.heap a0 [72] := fun _ _ _ => rfl
  replace eiq := EQN.mk eiq
  replace eq64 := EQN.mk eq64
  replace eq66 := EQN.mk eq66
  replace eq67 := EQN.mk eq67
  have J95 : ∀ (nf : Nat) (ls6682 : Array Slot) (H6681 : Heap) (locsH6681 : List Loc) (x6684 : Int32) (x6685 : Int32), lv_has ls6682 2 [(0, .ref a0), (1, .int x6684)] → TY K G H6681 → va_S (AE G [112, 162, 147, 148, 149, 150, 156, 157, 158, 159] s.heap.size) s.heap H6681 locsH6681 → (0 ≤ x6684.toInt ∧ x6684.toInt ≤ 8) → (0 ≤ x6685.toInt ∧ x6685.toInt ≤ 16400) → (x6685 = fI H6681 a0 (K.1.2 10 72)) → (EQN iq (fR H6681 a0 (K.1.2 10 73))) → (EQN q64 (fR H6681 a0 (K.1.2 10 64))) → (EQN q66 (fR H6681 a0 (K.1.2 10 66))) → (EQN q67 (fR H6681 a0 (K.1.2 10 67))) → (tk = fI H6681 a0 (K.1.2 10 71)) → (UN (tk.toInt = 0) (fun k => fI H6681 iq k) (fun k => fI s.heap iq k)) → (FB (fun k => fI H6681 iq k) (fun k => fI s.heap iq k) (4796)) → (EQ (fun k => fI H6681 q64 k) (fun k => fI H6681 iq k) (8877) (4) (x6684.toNatClampNeg)) → (EQ (fun k => fI H6681 q66 k) (fun k => fI H6681 iq k) (8878) (4) (x6684.toNatClampNeg)) → (EQ (fun k => fI H6681 q67 k) (fun k => fI H6681 iq k) (8879) (4) (x6684.toNatClampNeg)) → (UN (tk.toInt ≠ 0) (fun k => fI H6681 q64 k) (fun k => fI s.heap q64 k)) → (UN (tk.toInt ≠ 0) (fun k => fI H6681 q66 k) (fun k => fI s.heap q66 k)) → (UN (tk.toInt ≠ 0) (fun k => fI H6681 q67 k) (fun k => fI s.heap q67 k)) → (MF K s.heap H6681 a0 [72]) → (WD (avw K H6681 a0)) → (8 - x6684.toInt < (nf : Int)) → (x6685.toInt = 8876 + 4 * x6684.toInt) → W p l e ({ frames := 1, cells := 0, slots := 0, locals := 21 } : Room) s m (([.ref a0] : List Value).toArray) below meth c H6681 locsH6681 0 0 Q (F0 m 95 ls6682 []) := by
    intro nf
    induction nf with
    | zero =>
      intro ls6682 H6681 locsH6681 x6684 x6685 hl6683 hTH6681 hSH6681 bx6684 bx6685 ex6685 cy6686_0 cy6686_1 cy6686_2 cy6686_3 cy6686_4 by6686_ui by6686_fb by6686_e64 by6686_e66 by6686_e67 by6686_u64 by6686_u66 by6686_u67 mfy6686 gy6686_WD hm95 iv95
      exfalso
      omega
    | succ nf ih95 =>
      intro ls6682 H6681 locsH6681 x6684 x6685 hl6683 hTH6681 hSH6681 bx6684 bx6685 ex6685 cy6686_0 cy6686_1 cy6686_2 cy6686_3 cy6686_4 by6686_ui by6686_fb by6686_e64 by6686_e66 by6686_e67 by6686_u64 by6686_u66 by6686_u67 mfy6686 gy6686_WD hm95 iv95
      refine lv_iload_n hx hb dX10_keepsTaps_95 rfl (lv_at hl6683 1 rfl) ?_
      refine lv_bipush (v := 8) hx hb dX10_keepsTaps_96 (by decide) ?_
      refine lv_icmp_ge (tgt := 171) hx hb dX10_keepsTaps_98 (by decide) (fun c6687 => ?_) (fun c6687 => ?_)
      · have k6688 := i_le c6687
        have ce_x6684 := i_cl (x := x6684) (by omega)
        exact x_vret C hQ dX10_keepsTaps_171 hSH6681 (by decide) (by decide) (⟨x6685, rfl, ex6685, by omega, cy6686_0, cy6686_1, cy6686_2, cy6686_3, gy6686_WD, mfy6686, by6686_ui, by6686_fb, (EQ.cast by6686_e64 (by omega)), (EQ.cast by6686_e66 (by omega)), (EQ.cast by6686_e67 (by omega)), by6686_u64, by6686_u66, by6686_u67, hTH6681⟩)
      · have k6688 := i_nle c6687
        refine lv_aload_n hx hb dX10_keepsTaps_101 rfl (lv_at hl6683 0 rfl) ?_
        refine x_gr C hTH6681 (ci := 10) (k := 63) rfl inX10 (by decide) wF_X10_146 ga0 rg_112 rfl dX10_keepsTaps_102 (fun q6689 eq6689 gq6689 => ?_)
        replace eq6689 := EQN.mk eq6689
        refine lv_iload_n hx hb dX10_keepsTaps_105 rfl (lv_at hl6683 1 rfl) ?_
        refine lv_aload_n hx hb dX10_keepsTaps_106 rfl (lv_at hl6683 0 rfl) ?_
        refine lv_aload_n hx hb dX10_keepsTaps_107 rfl (lv_at hl6683 0 rfl) ?_
        refine x_gr C hTH6681 (ci := 10) (k := 63) rfl inX10 (by decide) wF_X10_146 ga0 rg_112 rfl dX10_keepsTaps_108 (fun q6690 eq6690 gq6690 => ?_)
        have uq6690 : q6689 = q6690 := (eq6689).trans eq6690.symm
        subst uq6690
        clear eq6690
        refine lv_iload_n hx hb dX10_keepsTaps_111 rfl (lv_at hl6683 1 rfl) ?_
        refine x_ai C hTH6681 gq6689 rg_156 ⟨by omega, by show _ < ((8 : Nat) : Int); omega⟩ dX10_keepsTaps_112 (fun x6691 ex6691 bx6691 => ?_)
        refine x_V (As := [.int x6691]) (rest := [.int x6684, .ref q6689]) C (a_X10_kept l K G H6681 (x6691) (x6685) (tk) hTH6681 ga0 giq cy6686_0 ex6685 cy6686_4 gy6686_WD (by and_intros <;> first | assumption | omega)) yo_X10_kept wM_X10_473 ⟨⟨by decide, by decide⟩, by decide, by decide⟩ (x_rv C hTH6681 (ci := 10) rfl ga0 rg_112) rfl hl6683.1 rfl (Nat.le_of_ble_eq_true rfl) dX10_keepsTaps_113 hSH6681 (AE_sub (fun _ _ => rfl) (by decide) hSH6681.1) (fun vH6692 H6692 locsH6692 pH6692 zH6692 kH6692 hSH6692 => ?_)
        obtain ⟨x6693, x6694, hvH6692, ex6694, hrH6692, m6695, g6696, mf6697, m6698, m6699, m6700, m6701, hTH6692⟩ := pH6692
        subst hvH6692
        clear zH6692
        replace m6695 := EQN.mk m6695
        have b6702 : UN (tk.toInt ≠ 0) (fun k => fI H6692 q64 k) (fun k => fI s.heap q64 k) := UN.congr (fun j => fI_kept (x_lt hTH6681 kH6692 gq64 (by decide))) by6686_u64
        have b6703 : UN (tk.toInt ≠ 0) (fun k => fI H6692 q66 k) (fun k => fI s.heap q66 k) := UN.congr (fun j => fI_kept (x_lt hTH6681 kH6692 gq66 (by decide))) by6686_u66
        have b6704 : UN (tk.toInt ≠ 0) (fun k => fI H6692 q67 k) (fun k => fI s.heap q67 k) := UN.congr (fun j => fI_kept (x_lt hTH6681 kH6692 gq67 (by decide))) by6686_u67
        have m6705 := (ex6691).trans (fI_kept (x_lt hTH6681 kH6692 gq6689 (by decide))).symm
        have m6706 := (cy6686_0).trans (MF.r mf6697 (k := 73) (by decide) (by decide)).symm
        have m6707 := (cy6686_1).trans (MF.r mf6697 (k := 64) (by decide) (by decide)).symm
        have m6708 := (cy6686_2).trans (MF.r mf6697 (k := 66) (by decide) (by decide)).symm
        have m6709 := (cy6686_3).trans (MF.r mf6697 (k := 67) (by decide) (by decide)).symm
        have m6710 := (cy6686_4).trans (MF.i mf6697 (k := 71) (by decide) (by decide)).symm
        have m6711 := (eq6689).trans (MF.r mf6697 (k := 63) (by decide) (by decide)).symm
        have mf6712 : MF K s.heap H6692 a0 [72] := MF.trans mfy6686 mf6697 (by decide)
        have bx6694 := ty_fi (x := x6694) (k := 72) ex6694 hTH6692 ga0 rg_112 rfl
        have ce_x6684 := i_cl (x := x6684) (by omega)
        have ce_x6685 := i_cl (x := x6685) (by omega)
        have b6713 : UN (tk.toInt = 0) (fun k => fI H6692 iq k) (fun k => fI s.heap iq k) := UN.tr m6701 by6686_ui
        have b6714 : FB (fun k => fI H6692 iq k) (fun k => fI s.heap iq k) (4796) := FB.wr by6686_fb m6700 (fun j hj => by omega)
        have b6715 : EQ (fun k => fI H6692 q64 k) (fun k => fI H6692 iq k) (8877) (4) (x6684.toNatClampNeg) := EQ.wr (EQ.congr (w1 := fun k => fI H6681 iq k) (fun j => fI_kept (x_lt hTH6681 kH6692 gq64 (by decide))) (fun _ => rfl) by6686_e64) m6700 (fun j hj => by omega)
        have b6716 : EQ (fun k => fI H6692 q66 k) (fun k => fI H6692 iq k) (8878) (4) (x6684.toNatClampNeg) := EQ.wr (EQ.congr (w1 := fun k => fI H6681 iq k) (fun j => fI_kept (x_lt hTH6681 kH6692 gq66 (by decide))) (fun _ => rfl) by6686_e66) m6700 (fun j hj => by omega)
        have b6717 : EQ (fun k => fI H6692 q67 k) (fun k => fI H6692 iq k) (8879) (4) (x6684.toNatClampNeg) := EQ.wr (EQ.congr (w1 := fun k => fI H6681 iq k) (fun j => fI_kept (x_lt hTH6681 kH6692 gq67 (by decide))) (fun _ => rfl) by6686_e67) m6700 (fun j hj => by omega)
        clear by6686_e64 by6686_e66 by6686_e67 by6686_fb by6686_u64 by6686_u66 by6686_u67 by6686_ui cy6686_0 cy6686_1 cy6686_2 cy6686_3 cy6686_4 eq6689 ex6685 ex6691
        clear m6700 m6701
        refine W.eq (g2 := F0 m 116 ls6682 [.int x6693, .int x6684, .ref q6689]) rfl ?_
        refine x_iast C hTH6692 hSH6692 gq6689 rg_156 (by omega) (by show _ < ((8 : Nat) : Int); omega) ⟨by have := i_rng x6693; omega, by have := i_rng x6693; omega⟩ (AE_in gq6689 (by decide)) dX10_keepsTaps_116 (fun H6718 locsH6718 hTH6718 hSH6718 wH6718 => ?_)
        have mf6719 : MF K s.heap H6718 a0 [72] := MF.arr wH6718 (G_ne ga0 gq6689 (by decide)) mf6712
        have g6720 : WD (avw K H6718 a0) := WD.congr (fun k hk j => av_arr hTH6692 ga0 wH6718 gq6689 (by decide) (WD_ok 156 (by decide) k hk)) g6696
        have b6721 : UN (tk.toInt ≠ 0) (fun k => fI H6718 q64 k) (fun k => fI s.heap q64 k) := UN.congr (fun j => Wr.neI wH6718 (Or.inl (G_ne gq64 gq6689 (by decide)))) b6702
        have b6722 : UN (tk.toInt ≠ 0) (fun k => fI H6718 q66 k) (fun k => fI s.heap q66 k) := UN.congr (fun j => Wr.neI wH6718 (Or.inl (G_ne gq66 gq6689 (by decide)))) b6703
        have b6723 : UN (tk.toInt ≠ 0) (fun k => fI H6718 q67 k) (fun k => fI s.heap q67 k) := UN.congr (fun j => Wr.neI wH6718 (Or.inl (G_ne gq67 gq6689 (by decide)))) b6704
        have b6724 : UN (tk.toInt = 0) (fun k => fI H6718 iq k) (fun k => fI s.heap iq k) := UN.congr (fun j => Wr.neI wH6718 (Or.inl (G_ne giq gq6689 (by decide)))) b6713
        have b6725 : FB (fun k => fI H6718 iq k) (fun k => fI s.heap iq k) (4796) := FB.congr (fun j => Wr.neI wH6718 (Or.inl (G_ne giq gq6689 (by decide)))) b6714
        have b6726 : EQ (fun k => fI H6718 q64 k) (fun k => fI H6718 iq k) (8877) (4) (x6684.toNatClampNeg) := EQ.congr (fun j => Wr.neI wH6718 (Or.inl (G_ne gq64 gq6689 (by decide)))) (fun j => Wr.neI wH6718 (Or.inl (G_ne giq gq6689 (by decide)))) b6715
        have b6727 : EQ (fun k => fI H6718 q66 k) (fun k => fI H6718 iq k) (8878) (4) (x6684.toNatClampNeg) := EQ.congr (fun j => Wr.neI wH6718 (Or.inl (G_ne gq66 gq6689 (by decide)))) (fun j => Wr.neI wH6718 (Or.inl (G_ne giq gq6689 (by decide)))) b6716
        have b6728 : EQ (fun k => fI H6718 q67 k) (fun k => fI H6718 iq k) (8879) (4) (x6684.toNatClampNeg) := EQ.congr (fun j => Wr.neI wH6718 (Or.inl (G_ne gq67 gq6689 (by decide)))) (fun j => Wr.neI wH6718 (Or.inl (G_ne giq gq6689 (by decide)))) b6717
        have m6730 := m6695.trans (Wr.neR wH6718 (Or.inl (G_ne ga0 gq6689 (by decide)))).symm
        have m6731 := m6707.trans (Wr.neR wH6718 (Or.inl (G_ne ga0 gq6689 (by decide)))).symm
        have m6732 := m6708.trans (Wr.neR wH6718 (Or.inl (G_ne ga0 gq6689 (by decide)))).symm
        have m6733 := m6709.trans (Wr.neR wH6718 (Or.inl (G_ne ga0 gq6689 (by decide)))).symm
        have m6734 := m6710.trans (Wr.neI wH6718 (Or.inl (G_ne ga0 gq6689 (by decide)))).symm
        have m6735 := m6711.trans (Wr.neR wH6718 (Or.inl (G_ne ga0 gq6689 (by decide)))).symm
        have m6736 := ex6694.trans (Wr.neI wH6718 (Or.inl (G_ne ga0 gq6689 (by decide)))).symm
        have m6737 := Wr.I wH6718
        have m6737 := m6737.symm
        clear b6702 b6703 b6704 b6713 b6714 b6715 b6716 b6717 ex6694 g6696 hTH6692 m6695 m6705 m6707 m6708 m6709 m6710 m6711 mf6712
        refine lv_aload_n hx hb dX10_keepsTaps_117 rfl (lv_at hl6683 0 rfl) ?_
        refine x_gr C hTH6718 (ci := 10) (k := 64) rfl inX10 (by decide) wF_X10_149 ga0 rg_112 rfl dX10_keepsTaps_118 (fun q6738 eq6738 gq6738 => ?_)
        have uq6738 : q64 = q6738 := (m6731).trans eq6738.symm
        subst uq6738
        clear eq6738
        refine lv_iload_n hx hb dX10_keepsTaps_121 rfl (lv_at hl6683 1 rfl) ?_
        refine lv_aload_n hx hb dX10_keepsTaps_122 rfl (lv_at hl6683 0 rfl) ?_
        refine lv_aload_n hx hb dX10_keepsTaps_123 rfl (lv_at hl6683 0 rfl) ?_
        refine x_gr C hTH6718 (ci := 10) (k := 64) rfl inX10 (by decide) wF_X10_149 ga0 rg_112 rfl dX10_keepsTaps_124 (fun q6739 eq6739 gq6739 => ?_)
        have uq6739 : q64 = q6739 := (m6731).trans eq6739.symm
        subst uq6739
        clear eq6739
        refine lv_iload_n hx hb dX10_keepsTaps_127 rfl (lv_at hl6683 1 rfl) ?_
        refine x_ai C hTH6718 gq64 rg_157 ⟨by omega, by show _ < ((8 : Nat) : Int); omega⟩ dX10_keepsTaps_128 (fun x6740 ex6740 bx6740 => ?_)
        refine x_V (As := [.int x6740]) (rest := [.int x6684, .ref q64]) C (a_X10_kept l K G H6718 (x6740) (x6694) (tk) hTH6718 ga0 giq m6730 m6736 m6734 g6720 (by and_intros <;> first | assumption | omega)) yo_X10_kept wM_X10_473 ⟨⟨by decide, by decide⟩, by decide, by decide⟩ (x_rv C hTH6718 (ci := 10) rfl ga0 rg_112) rfl hl6683.1 rfl (Nat.le_of_ble_eq_true rfl) dX10_keepsTaps_129 hSH6718 (AE_sub (fun _ _ => rfl) (by decide) hSH6718.1) (fun vH6741 H6741 locsH6741 pH6741 zH6741 kH6741 hSH6741 => ?_)
        obtain ⟨x6742, x6743, hvH6741, ex6743, hrH6741, m6744, g6745, mf6746, m6747, m6748, m6749, m6750, hTH6741⟩ := pH6741
        subst hvH6741
        clear zH6741
        replace m6744 := EQN.mk m6744
        have b6751 : UN (tk.toInt ≠ 0) (fun k => fI H6741 q64 k) (fun k => fI s.heap q64 k) := UN.congr (fun j => fI_kept (x_lt hTH6718 kH6741 gq64 (by decide))) b6721
        have b6752 : UN (tk.toInt ≠ 0) (fun k => fI H6741 q66 k) (fun k => fI s.heap q66 k) := UN.congr (fun j => fI_kept (x_lt hTH6718 kH6741 gq66 (by decide))) b6722
        have b6753 : UN (tk.toInt ≠ 0) (fun k => fI H6741 q67 k) (fun k => fI s.heap q67 k) := UN.congr (fun j => fI_kept (x_lt hTH6718 kH6741 gq67 (by decide))) b6723
        have m6754 := (m6737).trans (fI_kept (x_lt hTH6718 kH6741 gq6689 (by decide))).symm
        have m6755 := (ex6740).trans (fI_kept (x_lt hTH6718 kH6741 gq64 (by decide))).symm
        have m6756 := (m6730).trans (MF.r mf6746 (k := 73) (by decide) (by decide)).symm
        have m6757 := (m6731).trans (MF.r mf6746 (k := 64) (by decide) (by decide)).symm
        have m6758 := (m6732).trans (MF.r mf6746 (k := 66) (by decide) (by decide)).symm
        have m6759 := (m6733).trans (MF.r mf6746 (k := 67) (by decide) (by decide)).symm
        have m6760 := (m6734).trans (MF.i mf6746 (k := 71) (by decide) (by decide)).symm
        have m6761 := (m6735).trans (MF.r mf6746 (k := 63) (by decide) (by decide)).symm
        have mf6762 : MF K s.heap H6741 a0 [72] := MF.trans mf6719 mf6746 (by decide)
        have bx6743 := ty_fi (x := x6743) (k := 72) ex6743 hTH6741 ga0 rg_112 rfl
        have ce_x6694 := i_cl (x := x6694) (by omega)
        have b6763 : UN (tk.toInt = 0) (fun k => fI H6741 iq k) (fun k => fI s.heap iq k) := UN.tr m6750 b6724
        have b6764 : FB (fun k => fI H6741 iq k) (fun k => fI s.heap iq k) (4796) := FB.wr b6725 m6749 (fun j hj => by omega)
        have b6765 : EQ (fun k => fI H6741 q64 k) (fun k => fI H6741 iq k) (8877) (4) (x6684.toNatClampNeg) := EQ.wr (EQ.congr (w1 := fun k => fI H6718 iq k) (fun j => fI_kept (x_lt hTH6718 kH6741 gq64 (by decide))) (fun _ => rfl) b6726) m6749 (fun j hj => by omega)
        have b6766 : EQ (fun k => fI H6741 q66 k) (fun k => fI H6741 iq k) (8878) (4) (x6684.toNatClampNeg) := EQ.wr (EQ.congr (w1 := fun k => fI H6718 iq k) (fun j => fI_kept (x_lt hTH6718 kH6741 gq66 (by decide))) (fun _ => rfl) b6727) m6749 (fun j hj => by omega)
        have b6767 : EQ (fun k => fI H6741 q67 k) (fun k => fI H6741 iq k) (8879) (4) (x6684.toNatClampNeg) := EQ.wr (EQ.congr (w1 := fun k => fI H6718 iq k) (fun j => fI_kept (x_lt hTH6718 kH6741 gq67 (by decide))) (fun _ => rfl) b6728) m6749 (fun j hj => by omega)
        clear b6721 b6722 b6723 b6724 b6725 b6726 b6727 b6728 ex6740 m6730 m6731 m6732 m6733 m6734 m6735 m6736 m6737
        clear m6749 m6750
        refine W.eq (g2 := F0 m 132 ls6682 [.int x6742, .int x6684, .ref q64]) rfl ?_
        refine x_iast C hTH6741 hSH6741 gq64 rg_157 (by omega) (by show _ < ((8 : Nat) : Int); omega) ⟨by have := i_rng x6742; omega, by have := i_rng x6742; omega⟩ (AE_in gq64 (by decide)) dX10_keepsTaps_132 (fun H6768 locsH6768 hTH6768 hSH6768 wH6768 => ?_)
        have mf6769 : MF K s.heap H6768 a0 [72] := MF.arr wH6768 (G_ne ga0 gq64 (by decide)) mf6762
        have g6770 : WD (avw K H6768 a0) := WD.congr (fun k hk j => av_arr hTH6741 ga0 wH6768 gq64 (by decide) (WD_ok 157 (by decide) k hk)) g6745
        have b6771 : UN (tk.toInt ≠ 0) (fun k => fI H6768 q64 k) (fun k => fI s.heap q64 k) := UN.st b6751 (i := x6684.toNatClampNeg) (fun hc => (m6748 hc).trans m6755) (Wr.I wH6768) (fun j hj => Wr.neI wH6768 (Or.inr hj))
        have b6772 : UN (tk.toInt ≠ 0) (fun k => fI H6768 q66 k) (fun k => fI s.heap q66 k) := UN.congr (fun j => Wr.neI wH6768 (Or.inl (G_ne gq66 gq64 (by decide)))) b6752
        have b6773 : UN (tk.toInt ≠ 0) (fun k => fI H6768 q67 k) (fun k => fI s.heap q67 k) := UN.congr (fun j => Wr.neI wH6768 (Or.inl (G_ne gq67 gq64 (by decide)))) b6753
        have b6774 : UN (tk.toInt = 0) (fun k => fI H6768 iq k) (fun k => fI s.heap iq k) := UN.congr (fun j => Wr.neI wH6768 (Or.inl (G_ne giq gq64 (by decide)))) b6763
        have b6775 : FB (fun k => fI H6768 iq k) (fun k => fI s.heap iq k) (4796) := FB.congr (fun j => Wr.neI wH6768 (Or.inl (G_ne giq gq64 (by decide)))) b6764
        have b6776 : EQ (fun k => fI H6768 q64 k) (fun k => fI H6768 iq k) (8877) (4) (x6684.toNatClampNeg + 1) := EQ.st b6765 (i := x6684.toNatClampNeg) (t := x6694.toNatClampNeg) (by omega) m6747 (by omega) (Wr.I wH6768) (fun j hj => Wr.neI wH6768 (Or.inr hj)) (fun j => Wr.neI wH6768 (Or.inl (G_ne giq gq64 (by decide))))
        have b6777 : EQ (fun k => fI H6768 q66 k) (fun k => fI H6768 iq k) (8878) (4) (x6684.toNatClampNeg) := EQ.congr (fun j => Wr.neI wH6768 (Or.inl (G_ne gq66 gq64 (by decide)))) (fun j => Wr.neI wH6768 (Or.inl (G_ne giq gq64 (by decide)))) b6766
        have b6778 : EQ (fun k => fI H6768 q67 k) (fun k => fI H6768 iq k) (8879) (4) (x6684.toNatClampNeg) := EQ.congr (fun j => Wr.neI wH6768 (Or.inl (G_ne gq67 gq64 (by decide)))) (fun j => Wr.neI wH6768 (Or.inl (G_ne giq gq64 (by decide)))) b6767
        have m6779 := m6754.trans (Wr.neI wH6768 (Or.inl (G_ne gq6689 gq64 (by decide)))).symm
        have m6781 := m6744.trans (Wr.neR wH6768 (Or.inl (G_ne ga0 gq64 (by decide)))).symm
        have m6782 := m6757.trans (Wr.neR wH6768 (Or.inl (G_ne ga0 gq64 (by decide)))).symm
        have m6783 := m6758.trans (Wr.neR wH6768 (Or.inl (G_ne ga0 gq64 (by decide)))).symm
        have m6784 := m6759.trans (Wr.neR wH6768 (Or.inl (G_ne ga0 gq64 (by decide)))).symm
        have m6785 := m6760.trans (Wr.neI wH6768 (Or.inl (G_ne ga0 gq64 (by decide)))).symm
        have m6786 := m6761.trans (Wr.neR wH6768 (Or.inl (G_ne ga0 gq64 (by decide)))).symm
        have m6787 := ex6743.trans (Wr.neI wH6768 (Or.inl (G_ne ga0 gq64 (by decide)))).symm
        have m6788 := Wr.I wH6768
        have m6788 := m6788.symm
        clear b6751 b6752 b6753 b6763 b6764 b6765 b6766 b6767 ex6743 g6745 hTH6741 m6744 m6754 m6755 m6757 m6758 m6759 m6760 m6761 mf6762
        refine lv_aload_n hx hb dX10_keepsTaps_133 rfl (lv_at hl6683 0 rfl) ?_
        refine x_gr C hTH6768 (ci := 10) (k := 66) rfl inX10 (by decide) wF_X10_152 ga0 rg_112 rfl dX10_keepsTaps_134 (fun q6789 eq6789 gq6789 => ?_)
        have uq6789 : q66 = q6789 := (m6783).trans eq6789.symm
        subst uq6789
        clear eq6789
        refine lv_iload_n hx hb dX10_keepsTaps_137 rfl (lv_at hl6683 1 rfl) ?_
        refine lv_aload_n hx hb dX10_keepsTaps_138 rfl (lv_at hl6683 0 rfl) ?_
        refine lv_aload_n hx hb dX10_keepsTaps_139 rfl (lv_at hl6683 0 rfl) ?_
        refine x_gr C hTH6768 (ci := 10) (k := 66) rfl inX10 (by decide) wF_X10_152 ga0 rg_112 rfl dX10_keepsTaps_140 (fun q6790 eq6790 gq6790 => ?_)
        have uq6790 : q66 = q6790 := (m6783).trans eq6790.symm
        subst uq6790
        clear eq6790
        refine lv_iload_n hx hb dX10_keepsTaps_143 rfl (lv_at hl6683 1 rfl) ?_
        refine x_ai C hTH6768 gq66 rg_158 ⟨by omega, by show _ < ((8 : Nat) : Int); omega⟩ dX10_keepsTaps_144 (fun x6791 ex6791 bx6791 => ?_)
        refine x_V (As := [.int x6791]) (rest := [.int x6684, .ref q66]) C (a_X10_kept l K G H6768 (x6791) (x6743) (tk) hTH6768 ga0 giq m6781 m6787 m6785 g6770 (by and_intros <;> first | assumption | omega)) yo_X10_kept wM_X10_473 ⟨⟨by decide, by decide⟩, by decide, by decide⟩ (x_rv C hTH6768 (ci := 10) rfl ga0 rg_112) rfl hl6683.1 rfl (Nat.le_of_ble_eq_true rfl) dX10_keepsTaps_145 hSH6768 (AE_sub (fun _ _ => rfl) (by decide) hSH6768.1) (fun vH6792 H6792 locsH6792 pH6792 zH6792 kH6792 hSH6792 => ?_)
        obtain ⟨x6793, x6794, hvH6792, ex6794, hrH6792, m6795, g6796, mf6797, m6798, m6799, m6800, m6801, hTH6792⟩ := pH6792
        subst hvH6792
        clear zH6792
        replace m6795 := EQN.mk m6795
        have b6802 : UN (tk.toInt ≠ 0) (fun k => fI H6792 q64 k) (fun k => fI s.heap q64 k) := UN.congr (fun j => fI_kept (x_lt hTH6768 kH6792 gq64 (by decide))) b6771
        have b6803 : UN (tk.toInt ≠ 0) (fun k => fI H6792 q66 k) (fun k => fI s.heap q66 k) := UN.congr (fun j => fI_kept (x_lt hTH6768 kH6792 gq66 (by decide))) b6772
        have b6804 : UN (tk.toInt ≠ 0) (fun k => fI H6792 q67 k) (fun k => fI s.heap q67 k) := UN.congr (fun j => fI_kept (x_lt hTH6768 kH6792 gq67 (by decide))) b6773
        have m6805 := (m6779).trans (fI_kept (x_lt hTH6768 kH6792 gq6689 (by decide))).symm
        have m6806 := (m6788).trans (fI_kept (x_lt hTH6768 kH6792 gq64 (by decide))).symm
        have m6807 := (ex6791).trans (fI_kept (x_lt hTH6768 kH6792 gq66 (by decide))).symm
        have m6808 := (m6781).trans (MF.r mf6797 (k := 73) (by decide) (by decide)).symm
        have m6809 := (m6782).trans (MF.r mf6797 (k := 64) (by decide) (by decide)).symm
        have m6810 := (m6783).trans (MF.r mf6797 (k := 66) (by decide) (by decide)).symm
        have m6811 := (m6784).trans (MF.r mf6797 (k := 67) (by decide) (by decide)).symm
        have m6812 := (m6785).trans (MF.i mf6797 (k := 71) (by decide) (by decide)).symm
        have m6813 := (m6786).trans (MF.r mf6797 (k := 63) (by decide) (by decide)).symm
        have mf6814 : MF K s.heap H6792 a0 [72] := MF.trans mf6769 mf6797 (by decide)
        have bx6794 := ty_fi (x := x6794) (k := 72) ex6794 hTH6792 ga0 rg_112 rfl
        have ce_x6743 := i_cl (x := x6743) (by omega)
        have b6815 : UN (tk.toInt = 0) (fun k => fI H6792 iq k) (fun k => fI s.heap iq k) := UN.tr m6801 b6774
        have b6816 : FB (fun k => fI H6792 iq k) (fun k => fI s.heap iq k) (4796) := FB.wr b6775 m6800 (fun j hj => by omega)
        have b6817 : EQ (fun k => fI H6792 q64 k) (fun k => fI H6792 iq k) (8877) (4) (x6684.toNatClampNeg + 1) := EQ.wr (EQ.congr (w1 := fun k => fI H6768 iq k) (fun j => fI_kept (x_lt hTH6768 kH6792 gq64 (by decide))) (fun _ => rfl) b6776) m6800 (fun j hj => by omega)
        have b6818 : EQ (fun k => fI H6792 q66 k) (fun k => fI H6792 iq k) (8878) (4) (x6684.toNatClampNeg) := EQ.wr (EQ.congr (w1 := fun k => fI H6768 iq k) (fun j => fI_kept (x_lt hTH6768 kH6792 gq66 (by decide))) (fun _ => rfl) b6777) m6800 (fun j hj => by omega)
        have b6819 : EQ (fun k => fI H6792 q67 k) (fun k => fI H6792 iq k) (8879) (4) (x6684.toNatClampNeg) := EQ.wr (EQ.congr (w1 := fun k => fI H6768 iq k) (fun j => fI_kept (x_lt hTH6768 kH6792 gq67 (by decide))) (fun _ => rfl) b6778) m6800 (fun j hj => by omega)
        clear b6771 b6772 b6773 b6774 b6775 b6776 b6777 b6778 ex6791 m6779 m6781 m6782 m6783 m6784 m6785 m6786 m6787 m6788
        clear m6800 m6801
        refine W.eq (g2 := F0 m 148 ls6682 [.int x6793, .int x6684, .ref q66]) rfl ?_
        refine x_iast C hTH6792 hSH6792 gq66 rg_158 (by omega) (by show _ < ((8 : Nat) : Int); omega) ⟨by have := i_rng x6793; omega, by have := i_rng x6793; omega⟩ (AE_in gq66 (by decide)) dX10_keepsTaps_148 (fun H6820 locsH6820 hTH6820 hSH6820 wH6820 => ?_)
        have mf6821 : MF K s.heap H6820 a0 [72] := MF.arr wH6820 (G_ne ga0 gq66 (by decide)) mf6814
        have g6822 : WD (avw K H6820 a0) := WD.congr (fun k hk j => av_arr hTH6792 ga0 wH6820 gq66 (by decide) (WD_ok 158 (by decide) k hk)) g6796
        have b6823 : UN (tk.toInt ≠ 0) (fun k => fI H6820 q64 k) (fun k => fI s.heap q64 k) := UN.congr (fun j => Wr.neI wH6820 (Or.inl (G_ne gq64 gq66 (by decide)))) b6802
        have b6824 : UN (tk.toInt ≠ 0) (fun k => fI H6820 q66 k) (fun k => fI s.heap q66 k) := UN.st b6803 (i := x6684.toNatClampNeg) (fun hc => (m6799 hc).trans m6807) (Wr.I wH6820) (fun j hj => Wr.neI wH6820 (Or.inr hj))
        have b6825 : UN (tk.toInt ≠ 0) (fun k => fI H6820 q67 k) (fun k => fI s.heap q67 k) := UN.congr (fun j => Wr.neI wH6820 (Or.inl (G_ne gq67 gq66 (by decide)))) b6804
        have b6826 : UN (tk.toInt = 0) (fun k => fI H6820 iq k) (fun k => fI s.heap iq k) := UN.congr (fun j => Wr.neI wH6820 (Or.inl (G_ne giq gq66 (by decide)))) b6815
        have b6827 : FB (fun k => fI H6820 iq k) (fun k => fI s.heap iq k) (4796) := FB.congr (fun j => Wr.neI wH6820 (Or.inl (G_ne giq gq66 (by decide)))) b6816
        have b6828 : EQ (fun k => fI H6820 q64 k) (fun k => fI H6820 iq k) (8877) (4) (x6684.toNatClampNeg + 1) := EQ.congr (fun j => Wr.neI wH6820 (Or.inl (G_ne gq64 gq66 (by decide)))) (fun j => Wr.neI wH6820 (Or.inl (G_ne giq gq66 (by decide)))) b6817
        have b6829 : EQ (fun k => fI H6820 q66 k) (fun k => fI H6820 iq k) (8878) (4) (x6684.toNatClampNeg + 1) := EQ.st b6818 (i := x6684.toNatClampNeg) (t := x6743.toNatClampNeg) (by omega) m6798 (by omega) (Wr.I wH6820) (fun j hj => Wr.neI wH6820 (Or.inr hj)) (fun j => Wr.neI wH6820 (Or.inl (G_ne giq gq66 (by decide))))
        have b6830 : EQ (fun k => fI H6820 q67 k) (fun k => fI H6820 iq k) (8879) (4) (x6684.toNatClampNeg) := EQ.congr (fun j => Wr.neI wH6820 (Or.inl (G_ne gq67 gq66 (by decide)))) (fun j => Wr.neI wH6820 (Or.inl (G_ne giq gq66 (by decide)))) b6819
        have m6831 := m6805.trans (Wr.neI wH6820 (Or.inl (G_ne gq6689 gq66 (by decide)))).symm
        have m6832 := m6806.trans (Wr.neI wH6820 (Or.inl (G_ne gq64 gq66 (by decide)))).symm
        have m6834 := m6795.trans (Wr.neR wH6820 (Or.inl (G_ne ga0 gq66 (by decide)))).symm
        have m6835 := m6809.trans (Wr.neR wH6820 (Or.inl (G_ne ga0 gq66 (by decide)))).symm
        have m6836 := m6810.trans (Wr.neR wH6820 (Or.inl (G_ne ga0 gq66 (by decide)))).symm
        have m6837 := m6811.trans (Wr.neR wH6820 (Or.inl (G_ne ga0 gq66 (by decide)))).symm
        have m6838 := m6812.trans (Wr.neI wH6820 (Or.inl (G_ne ga0 gq66 (by decide)))).symm
        have m6839 := m6813.trans (Wr.neR wH6820 (Or.inl (G_ne ga0 gq66 (by decide)))).symm
        have m6840 := ex6794.trans (Wr.neI wH6820 (Or.inl (G_ne ga0 gq66 (by decide)))).symm
        have m6841 := Wr.I wH6820
        have m6841 := m6841.symm
        clear b6802 b6803 b6804 b6815 b6816 b6817 b6818 b6819 ex6794 g6796 hTH6792 m6795 m6805 m6806 m6807 m6809 m6810 m6811 m6812 m6813 mf6814
        refine lv_aload_n hx hb dX10_keepsTaps_149 rfl (lv_at hl6683 0 rfl) ?_
        refine x_gr C hTH6820 (ci := 10) (k := 67) rfl inX10 (by decide) wF_X10_155 ga0 rg_112 rfl dX10_keepsTaps_150 (fun q6842 eq6842 gq6842 => ?_)
        have uq6842 : q67 = q6842 := (m6837).trans eq6842.symm
        subst uq6842
        clear eq6842
        refine lv_iload_n hx hb dX10_keepsTaps_153 rfl (lv_at hl6683 1 rfl) ?_
        refine lv_aload_n hx hb dX10_keepsTaps_154 rfl (lv_at hl6683 0 rfl) ?_
        refine lv_aload_n hx hb dX10_keepsTaps_155 rfl (lv_at hl6683 0 rfl) ?_
        refine x_gr C hTH6820 (ci := 10) (k := 67) rfl inX10 (by decide) wF_X10_155 ga0 rg_112 rfl dX10_keepsTaps_156 (fun q6843 eq6843 gq6843 => ?_)
        have uq6843 : q67 = q6843 := (m6837).trans eq6843.symm
        subst uq6843
        clear eq6843
        refine lv_iload_n hx hb dX10_keepsTaps_159 rfl (lv_at hl6683 1 rfl) ?_
        refine x_ai C hTH6820 gq67 rg_159 ⟨by omega, by show _ < ((8 : Nat) : Int); omega⟩ dX10_keepsTaps_160 (fun x6844 ex6844 bx6844 => ?_)
        refine x_V (As := [.int x6844]) (rest := [.int x6684, .ref q67]) C (a_X10_kept l K G H6820 (x6844) (x6794) (tk) hTH6820 ga0 giq m6834 m6840 m6838 g6822 (by and_intros <;> first | assumption | omega)) yo_X10_kept wM_X10_473 ⟨⟨by decide, by decide⟩, by decide, by decide⟩ (x_rv C hTH6820 (ci := 10) rfl ga0 rg_112) rfl hl6683.1 rfl (Nat.le_of_ble_eq_true rfl) dX10_keepsTaps_161 hSH6820 (AE_sub (fun _ _ => rfl) (by decide) hSH6820.1) (fun vH6845 H6845 locsH6845 pH6845 zH6845 kH6845 hSH6845 => ?_)
        obtain ⟨x6846, x6847, hvH6845, ex6847, hrH6845, m6848, g6849, mf6850, m6851, m6852, m6853, m6854, hTH6845⟩ := pH6845
        subst hvH6845
        clear zH6845
        replace m6848 := EQN.mk m6848
        have b6855 : UN (tk.toInt ≠ 0) (fun k => fI H6845 q64 k) (fun k => fI s.heap q64 k) := UN.congr (fun j => fI_kept (x_lt hTH6820 kH6845 gq64 (by decide))) b6823
        have b6856 : UN (tk.toInt ≠ 0) (fun k => fI H6845 q66 k) (fun k => fI s.heap q66 k) := UN.congr (fun j => fI_kept (x_lt hTH6820 kH6845 gq66 (by decide))) b6824
        have b6857 : UN (tk.toInt ≠ 0) (fun k => fI H6845 q67 k) (fun k => fI s.heap q67 k) := UN.congr (fun j => fI_kept (x_lt hTH6820 kH6845 gq67 (by decide))) b6825
        have m6858 := (m6831).trans (fI_kept (x_lt hTH6820 kH6845 gq6689 (by decide))).symm
        have m6859 := (m6832).trans (fI_kept (x_lt hTH6820 kH6845 gq64 (by decide))).symm
        have m6860 := (m6841).trans (fI_kept (x_lt hTH6820 kH6845 gq66 (by decide))).symm
        have m6861 := (ex6844).trans (fI_kept (x_lt hTH6820 kH6845 gq67 (by decide))).symm
        have m6862 := (m6834).trans (MF.r mf6850 (k := 73) (by decide) (by decide)).symm
        have m6863 := (m6835).trans (MF.r mf6850 (k := 64) (by decide) (by decide)).symm
        have m6864 := (m6836).trans (MF.r mf6850 (k := 66) (by decide) (by decide)).symm
        have m6865 := (m6837).trans (MF.r mf6850 (k := 67) (by decide) (by decide)).symm
        have m6866 := (m6838).trans (MF.i mf6850 (k := 71) (by decide) (by decide)).symm
        have m6867 := (m6839).trans (MF.r mf6850 (k := 63) (by decide) (by decide)).symm
        have mf6868 : MF K s.heap H6845 a0 [72] := MF.trans mf6821 mf6850 (by decide)
        have bx6847 := ty_fi (x := x6847) (k := 72) ex6847 hTH6845 ga0 rg_112 rfl
        have ce_x6794 := i_cl (x := x6794) (by omega)
        have b6869 : UN (tk.toInt = 0) (fun k => fI H6845 iq k) (fun k => fI s.heap iq k) := UN.tr m6854 b6826
        have b6870 : FB (fun k => fI H6845 iq k) (fun k => fI s.heap iq k) (4796) := FB.wr b6827 m6853 (fun j hj => by omega)
        have b6871 : EQ (fun k => fI H6845 q64 k) (fun k => fI H6845 iq k) (8877) (4) (x6684.toNatClampNeg + 1) := EQ.wr (EQ.congr (w1 := fun k => fI H6820 iq k) (fun j => fI_kept (x_lt hTH6820 kH6845 gq64 (by decide))) (fun _ => rfl) b6828) m6853 (fun j hj => by omega)
        have b6872 : EQ (fun k => fI H6845 q66 k) (fun k => fI H6845 iq k) (8878) (4) (x6684.toNatClampNeg + 1) := EQ.wr (EQ.congr (w1 := fun k => fI H6820 iq k) (fun j => fI_kept (x_lt hTH6820 kH6845 gq66 (by decide))) (fun _ => rfl) b6829) m6853 (fun j hj => by omega)
        have b6873 : EQ (fun k => fI H6845 q67 k) (fun k => fI H6845 iq k) (8879) (4) (x6684.toNatClampNeg) := EQ.wr (EQ.congr (w1 := fun k => fI H6820 iq k) (fun j => fI_kept (x_lt hTH6820 kH6845 gq67 (by decide))) (fun _ => rfl) b6830) m6853 (fun j hj => by omega)
        clear b6823 b6824 b6825 b6826 b6827 b6828 b6829 b6830 ex6844 m6831 m6832 m6834 m6835 m6836 m6837 m6838 m6839 m6840 m6841
        clear m6853 m6854
        refine W.eq (g2 := F0 m 164 ls6682 [.int x6846, .int x6684, .ref q67]) rfl ?_
        refine x_iast C hTH6845 hSH6845 gq67 rg_159 (by omega) (by show _ < ((8 : Nat) : Int); omega) ⟨by have := i_rng x6846; omega, by have := i_rng x6846; omega⟩ (AE_in gq67 (by decide)) dX10_keepsTaps_164 (fun H6874 locsH6874 hTH6874 hSH6874 wH6874 => ?_)
        have mf6875 : MF K s.heap H6874 a0 [72] := MF.arr wH6874 (G_ne ga0 gq67 (by decide)) mf6868
        have g6876 : WD (avw K H6874 a0) := WD.congr (fun k hk j => av_arr hTH6845 ga0 wH6874 gq67 (by decide) (WD_ok 159 (by decide) k hk)) g6849
        have b6877 : UN (tk.toInt ≠ 0) (fun k => fI H6874 q64 k) (fun k => fI s.heap q64 k) := UN.congr (fun j => Wr.neI wH6874 (Or.inl (G_ne gq64 gq67 (by decide)))) b6855
        have b6878 : UN (tk.toInt ≠ 0) (fun k => fI H6874 q66 k) (fun k => fI s.heap q66 k) := UN.congr (fun j => Wr.neI wH6874 (Or.inl (G_ne gq66 gq67 (by decide)))) b6856
        have b6879 : UN (tk.toInt ≠ 0) (fun k => fI H6874 q67 k) (fun k => fI s.heap q67 k) := UN.st b6857 (i := x6684.toNatClampNeg) (fun hc => (m6852 hc).trans m6861) (Wr.I wH6874) (fun j hj => Wr.neI wH6874 (Or.inr hj))
        have b6880 : UN (tk.toInt = 0) (fun k => fI H6874 iq k) (fun k => fI s.heap iq k) := UN.congr (fun j => Wr.neI wH6874 (Or.inl (G_ne giq gq67 (by decide)))) b6869
        have b6881 : FB (fun k => fI H6874 iq k) (fun k => fI s.heap iq k) (4796) := FB.congr (fun j => Wr.neI wH6874 (Or.inl (G_ne giq gq67 (by decide)))) b6870
        have b6882 : EQ (fun k => fI H6874 q64 k) (fun k => fI H6874 iq k) (8877) (4) (x6684.toNatClampNeg + 1) := EQ.congr (fun j => Wr.neI wH6874 (Or.inl (G_ne gq64 gq67 (by decide)))) (fun j => Wr.neI wH6874 (Or.inl (G_ne giq gq67 (by decide)))) b6871
        have b6883 : EQ (fun k => fI H6874 q66 k) (fun k => fI H6874 iq k) (8878) (4) (x6684.toNatClampNeg + 1) := EQ.congr (fun j => Wr.neI wH6874 (Or.inl (G_ne gq66 gq67 (by decide)))) (fun j => Wr.neI wH6874 (Or.inl (G_ne giq gq67 (by decide)))) b6872
        have b6884 : EQ (fun k => fI H6874 q67 k) (fun k => fI H6874 iq k) (8879) (4) (x6684.toNatClampNeg + 1) := EQ.st b6873 (i := x6684.toNatClampNeg) (t := x6794.toNatClampNeg) (by omega) m6851 (by omega) (Wr.I wH6874) (fun j hj => Wr.neI wH6874 (Or.inr hj)) (fun j => Wr.neI wH6874 (Or.inl (G_ne giq gq67 (by decide))))
        have m6885 := m6858.trans (Wr.neI wH6874 (Or.inl (G_ne gq6689 gq67 (by decide)))).symm
        have m6886 := m6859.trans (Wr.neI wH6874 (Or.inl (G_ne gq64 gq67 (by decide)))).symm
        have m6887 := m6860.trans (Wr.neI wH6874 (Or.inl (G_ne gq66 gq67 (by decide)))).symm
        have m6889 := m6848.trans (Wr.neR wH6874 (Or.inl (G_ne ga0 gq67 (by decide)))).symm
        have m6890 := m6863.trans (Wr.neR wH6874 (Or.inl (G_ne ga0 gq67 (by decide)))).symm
        have m6891 := m6864.trans (Wr.neR wH6874 (Or.inl (G_ne ga0 gq67 (by decide)))).symm
        have m6892 := m6865.trans (Wr.neR wH6874 (Or.inl (G_ne ga0 gq67 (by decide)))).symm
        have m6893 := m6866.trans (Wr.neI wH6874 (Or.inl (G_ne ga0 gq67 (by decide)))).symm
        have m6894 := m6867.trans (Wr.neR wH6874 (Or.inl (G_ne ga0 gq67 (by decide)))).symm
        have m6895 := ex6847.trans (Wr.neI wH6874 (Or.inl (G_ne ga0 gq67 (by decide)))).symm
        have m6896 := Wr.I wH6874
        have m6896 := m6896.symm
        clear b6855 b6856 b6857 b6869 b6870 b6871 b6872 b6873 ex6847 g6849 hTH6845 m6848 m6858 m6859 m6860 m6861 m6863 m6864 m6865 m6866 m6867 mf6868
        obtain ⟨x6897, ex6897⟩ : ∃ y : Int32, y = x6684 + 1 := ⟨_, rfl⟩
        have tx6897 := i_add ex6897 (by omega)
        refine lv_iinc (v := x6897) (lv' := [(1, .int x6897), (0, .ref a0)]) hx hb dX10_keepsTaps_165 hl6683 (k := 1) rfl (by rw [ex6897]; rfl) (by decide) rfl (fun ls6898 hl6899 => ?_)
        refine lv_goto (tgt := 95) hx hb dX10_keepsTaps_168 (by decide) ?_
        have cl_x6897 := i_cl (x := x6897) (by omega)
        exact ih95 ls6898 H6874 locsH6874 (x6897) (x6847) (lv_sub hl6899 [1, 0] rfl) hTH6874 hSH6874 ⟨by have := i_rng x6897; omega, by have := i_rng x6897; omega⟩ ⟨by have := i_rng x6847; omega, by have := i_rng x6847; omega⟩ m6895 m6889 m6890 m6891 m6892 m6893 b6880 b6881 (EQ.cast b6882 (by omega)) (EQ.cast b6883 (by omega)) (EQ.cast b6884 (by omega)) b6877 b6878 b6879 mf6875 g6876 (by omega) (by and_intros <;> first | assumption | omega)
  have J48 : ∀ (nf : Nat) (ls6901 : Array Slot) (H6900 : Heap) (locsH6900 : List Loc) (x6903 : Int32) (x6904 : Int32), lv_has ls6901 2 [(0, .ref a0), (1, .int x6903)] → TY K G H6900 → va_S (AE G [112, 162, 147, 148, 149, 150, 156, 157, 158, 159] s.heap.size) s.heap H6900 locsH6900 → (0 ≤ x6903.toInt ∧ x6903.toInt ≤ 1920) → (0 ≤ x6904.toInt ∧ x6904.toInt ≤ 16400) → (x6904 = fI H6900 a0 (K.1.2 10 72)) → (EQN iq (fR H6900 a0 (K.1.2 10 73))) → (EQN q64 (fR H6900 a0 (K.1.2 10 64))) → (EQN q66 (fR H6900 a0 (K.1.2 10 66))) → (EQN q67 (fR H6900 a0 (K.1.2 10 67))) → (tk = fI H6900 a0 (K.1.2 10 71)) → (UN (tk.toInt = 0) (fun k => fI H6900 iq k) (fun k => fI s.heap iq k)) → (FB (fun k => fI H6900 iq k) (fun k => fI s.heap iq k) (4796)) → (EQ (fun k => fI H6900 q64 k) (fun k => fI H6900 iq k) (8877) (4) (0)) → (EQ (fun k => fI H6900 q66 k) (fun k => fI H6900 iq k) (8878) (4) (0)) → (EQ (fun k => fI H6900 q67 k) (fun k => fI H6900 iq k) (8879) (4) (0)) → (UN (tk.toInt ≠ 0) (fun k => fI H6900 q64 k) (fun k => fI s.heap q64 k)) → (UN (tk.toInt ≠ 0) (fun k => fI H6900 q66 k) (fun k => fI s.heap q66 k)) → (UN (tk.toInt ≠ 0) (fun k => fI H6900 q67 k) (fun k => fI s.heap q67 k)) → (MF K s.heap H6900 a0 [72]) → (WD (avw K H6900 a0)) → (1920 - x6903.toInt < (nf : Int)) → (x6904.toInt = 5036 + 2 * x6903.toInt) → W p l e ({ frames := 1, cells := 0, slots := 0, locals := 21 } : Room) s m (([.ref a0] : List Value).toArray) below meth c H6900 locsH6900 0 0 Q (F0 m 48 ls6901 []) := by
    intro nf
    induction nf with
    | zero =>
      intro ls6901 H6900 locsH6900 x6903 x6904 hl6902 hTH6900 hSH6900 bx6903 bx6904 ex6904 cy6905_0 cy6905_1 cy6905_2 cy6905_3 cy6905_4 by6905_ui by6905_fb by6905_e64 by6905_e66 by6905_e67 by6905_u64 by6905_u66 by6905_u67 mfy6905 gy6905_WD hm48 iv48
      exfalso
      omega
    | succ nf ih48 =>
      intro ls6901 H6900 locsH6900 x6903 x6904 hl6902 hTH6900 hSH6900 bx6903 bx6904 ex6904 cy6905_0 cy6905_1 cy6905_2 cy6905_3 cy6905_4 by6905_ui by6905_fb by6905_e64 by6905_e66 by6905_e67 by6905_u64 by6905_u66 by6905_u67 mfy6905 gy6905_WD hm48 iv48
      refine lv_iload_n hx hb dX10_keepsTaps_48 rfl (lv_at hl6902 1 rfl) ?_
      refine lv_sipush (v := 1920) hx hb dX10_keepsTaps_49 (by decide) ?_
      refine lv_icmp_ge (tgt := 93) hx hb dX10_keepsTaps_52 (by decide) (fun c6906 => ?_) (fun c6906 => ?_)
      · have k6907 := i_le c6906
        refine lv_iconst (v := 0) hx hb dX10_keepsTaps_93 (by decide) ?_
        refine lv_istore_n (lv' := [(1, .int 0), (0, .ref a0)]) hx hb dX10_keepsTaps_94 rfl hl6902 (by decide) rfl (fun ls6908 hl6909 => ?_)
        have cl00 : (0 : Int32).toNatClampNeg = 0 := rfl
        exact J95 ((8 - (0 : Int32).toInt).toNat + 1) ls6908 H6900 locsH6900 (0) (x6904) (lv_sub hl6909 [1, 0] rfl) hTH6900 hSH6900 (by decide) ⟨by have := i_rng x6904; omega, by have := i_rng x6904; omega⟩ ex6904 cy6905_0 cy6905_1 cy6905_2 cy6905_3 cy6905_4 by6905_ui by6905_fb (EQ.cast by6905_e64 (by omega)) (EQ.cast by6905_e66 (by omega)) (EQ.cast by6905_e67 (by omega)) by6905_u64 by6905_u66 by6905_u67 mfy6905 gy6905_WD (by omega) (by and_intros <;> first | assumption | omega)
      · have k6907 := i_nle c6906
        refine lv_aload_n hx hb dX10_keepsTaps_55 rfl (lv_at hl6902 0 rfl) ?_
        refine x_gr C hTH6900 (ci := 10) (k := 53) rfl inX10 (by decide) wF_X10_125 ga0 rg_112 rfl dX10_keepsTaps_56 (fun q6910 eq6910 gq6910 => ?_)
        replace eq6910 := EQN.mk eq6910
        refine lv_iload_n hx hb dX10_keepsTaps_59 rfl (lv_at hl6902 1 rfl) ?_
        refine lv_aload_n hx hb dX10_keepsTaps_60 rfl (lv_at hl6902 0 rfl) ?_
        refine lv_aload_n hx hb dX10_keepsTaps_61 rfl (lv_at hl6902 0 rfl) ?_
        refine x_gr C hTH6900 (ci := 10) (k := 53) rfl inX10 (by decide) wF_X10_125 ga0 rg_112 rfl dX10_keepsTaps_62 (fun q6911 eq6911 gq6911 => ?_)
        have uq6911 : q6910 = q6911 := (eq6910).trans eq6911.symm
        subst uq6911
        clear eq6911
        refine lv_iload_n hx hb dX10_keepsTaps_65 rfl (lv_at hl6902 1 rfl) ?_
        refine x_ai C hTH6900 gq6910 rg_149 ⟨by omega, by show _ < ((1920 : Nat) : Int); omega⟩ dX10_keepsTaps_66 (fun x6912 ex6912 bx6912 => ?_)
        refine x_V (As := [.int x6912]) (rest := [.int x6903, .ref q6910]) C (a_X10_kept l K G H6900 (x6912) (x6904) (tk) hTH6900 ga0 giq cy6905_0 ex6904 cy6905_4 gy6905_WD (by and_intros <;> first | assumption | omega)) yo_X10_kept wM_X10_473 ⟨⟨by decide, by decide⟩, by decide, by decide⟩ (x_rv C hTH6900 (ci := 10) rfl ga0 rg_112) rfl hl6902.1 rfl (Nat.le_of_ble_eq_true rfl) dX10_keepsTaps_67 hSH6900 (AE_sub (fun _ _ => rfl) (by decide) hSH6900.1) (fun vH6913 H6913 locsH6913 pH6913 zH6913 kH6913 hSH6913 => ?_)
        obtain ⟨x6914, x6915, hvH6913, ex6915, hrH6913, m6916, g6917, mf6918, m6919, m6920, m6921, m6922, hTH6913⟩ := pH6913
        subst hvH6913
        clear zH6913
        replace m6916 := EQN.mk m6916
        have b6923 : UN (tk.toInt ≠ 0) (fun k => fI H6913 q64 k) (fun k => fI s.heap q64 k) := UN.congr (fun j => fI_kept (x_lt hTH6900 kH6913 gq64 (by decide))) by6905_u64
        have b6924 : UN (tk.toInt ≠ 0) (fun k => fI H6913 q66 k) (fun k => fI s.heap q66 k) := UN.congr (fun j => fI_kept (x_lt hTH6900 kH6913 gq66 (by decide))) by6905_u66
        have b6925 : UN (tk.toInt ≠ 0) (fun k => fI H6913 q67 k) (fun k => fI s.heap q67 k) := UN.congr (fun j => fI_kept (x_lt hTH6900 kH6913 gq67 (by decide))) by6905_u67
        have m6926 := (ex6912).trans (fI_kept (x_lt hTH6900 kH6913 gq6910 (by decide))).symm
        have m6927 := (cy6905_0).trans (MF.r mf6918 (k := 73) (by decide) (by decide)).symm
        have m6928 := (cy6905_1).trans (MF.r mf6918 (k := 64) (by decide) (by decide)).symm
        have m6929 := (cy6905_2).trans (MF.r mf6918 (k := 66) (by decide) (by decide)).symm
        have m6930 := (cy6905_3).trans (MF.r mf6918 (k := 67) (by decide) (by decide)).symm
        have m6931 := (cy6905_4).trans (MF.i mf6918 (k := 71) (by decide) (by decide)).symm
        have m6932 := (eq6910).trans (MF.r mf6918 (k := 53) (by decide) (by decide)).symm
        have mf6933 : MF K s.heap H6913 a0 [72] := MF.trans mfy6905 mf6918 (by decide)
        have bx6915 := ty_fi (x := x6915) (k := 72) ex6915 hTH6913 ga0 rg_112 rfl
        have ce_x6904 := i_cl (x := x6904) (by omega)
        have b6934 : UN (tk.toInt = 0) (fun k => fI H6913 iq k) (fun k => fI s.heap iq k) := UN.tr m6922 by6905_ui
        have b6935 : FB (fun k => fI H6913 iq k) (fun k => fI s.heap iq k) (4796) := FB.wr by6905_fb m6921 (fun j hj => by omega)
        have b6936 : EQ (fun k => fI H6913 q64 k) (fun k => fI H6913 iq k) (8877) (4) (0) := EQ.wr (EQ.congr (w1 := fun k => fI H6900 iq k) (fun j => fI_kept (x_lt hTH6900 kH6913 gq64 (by decide))) (fun _ => rfl) by6905_e64) m6921 (fun j hj => by omega)
        have b6937 : EQ (fun k => fI H6913 q66 k) (fun k => fI H6913 iq k) (8878) (4) (0) := EQ.wr (EQ.congr (w1 := fun k => fI H6900 iq k) (fun j => fI_kept (x_lt hTH6900 kH6913 gq66 (by decide))) (fun _ => rfl) by6905_e66) m6921 (fun j hj => by omega)
        have b6938 : EQ (fun k => fI H6913 q67 k) (fun k => fI H6913 iq k) (8879) (4) (0) := EQ.wr (EQ.congr (w1 := fun k => fI H6900 iq k) (fun j => fI_kept (x_lt hTH6900 kH6913 gq67 (by decide))) (fun _ => rfl) by6905_e67) m6921 (fun j hj => by omega)
        clear by6905_e64 by6905_e66 by6905_e67 by6905_fb by6905_u64 by6905_u66 by6905_u67 by6905_ui cy6905_0 cy6905_1 cy6905_2 cy6905_3 cy6905_4 eq6910 ex6904 ex6912
        clear m6921 m6922
        refine W.eq (g2 := F0 m 70 ls6901 [.int x6914, .int x6903, .ref q6910]) rfl ?_
        refine x_iast C hTH6913 hSH6913 gq6910 rg_149 (by omega) (by show _ < ((1920 : Nat) : Int); omega) ⟨by have := i_rng x6914; omega, by have := i_rng x6914; omega⟩ (AE_in gq6910 (by decide)) dX10_keepsTaps_70 (fun H6939 locsH6939 hTH6939 hSH6939 wH6939 => ?_)
        have mf6940 : MF K s.heap H6939 a0 [72] := MF.arr wH6939 (G_ne ga0 gq6910 (by decide)) mf6933
        have g6941 : WD (avw K H6939 a0) := WD.congr (fun k hk j => av_arr hTH6913 ga0 wH6939 gq6910 (by decide) (WD_ok 149 (by decide) k hk)) g6917
        have b6942 : UN (tk.toInt ≠ 0) (fun k => fI H6939 q64 k) (fun k => fI s.heap q64 k) := UN.congr (fun j => Wr.neI wH6939 (Or.inl (G_ne gq64 gq6910 (by decide)))) b6923
        have b6943 : UN (tk.toInt ≠ 0) (fun k => fI H6939 q66 k) (fun k => fI s.heap q66 k) := UN.congr (fun j => Wr.neI wH6939 (Or.inl (G_ne gq66 gq6910 (by decide)))) b6924
        have b6944 : UN (tk.toInt ≠ 0) (fun k => fI H6939 q67 k) (fun k => fI s.heap q67 k) := UN.congr (fun j => Wr.neI wH6939 (Or.inl (G_ne gq67 gq6910 (by decide)))) b6925
        have b6945 : UN (tk.toInt = 0) (fun k => fI H6939 iq k) (fun k => fI s.heap iq k) := UN.congr (fun j => Wr.neI wH6939 (Or.inl (G_ne giq gq6910 (by decide)))) b6934
        have b6946 : FB (fun k => fI H6939 iq k) (fun k => fI s.heap iq k) (4796) := FB.congr (fun j => Wr.neI wH6939 (Or.inl (G_ne giq gq6910 (by decide)))) b6935
        have b6947 : EQ (fun k => fI H6939 q64 k) (fun k => fI H6939 iq k) (8877) (4) (0) := EQ.congr (fun j => Wr.neI wH6939 (Or.inl (G_ne gq64 gq6910 (by decide)))) (fun j => Wr.neI wH6939 (Or.inl (G_ne giq gq6910 (by decide)))) b6936
        have b6948 : EQ (fun k => fI H6939 q66 k) (fun k => fI H6939 iq k) (8878) (4) (0) := EQ.congr (fun j => Wr.neI wH6939 (Or.inl (G_ne gq66 gq6910 (by decide)))) (fun j => Wr.neI wH6939 (Or.inl (G_ne giq gq6910 (by decide)))) b6937
        have b6949 : EQ (fun k => fI H6939 q67 k) (fun k => fI H6939 iq k) (8879) (4) (0) := EQ.congr (fun j => Wr.neI wH6939 (Or.inl (G_ne gq67 gq6910 (by decide)))) (fun j => Wr.neI wH6939 (Or.inl (G_ne giq gq6910 (by decide)))) b6938
        have m6951 := m6916.trans (Wr.neR wH6939 (Or.inl (G_ne ga0 gq6910 (by decide)))).symm
        have m6952 := m6928.trans (Wr.neR wH6939 (Or.inl (G_ne ga0 gq6910 (by decide)))).symm
        have m6953 := m6929.trans (Wr.neR wH6939 (Or.inl (G_ne ga0 gq6910 (by decide)))).symm
        have m6954 := m6930.trans (Wr.neR wH6939 (Or.inl (G_ne ga0 gq6910 (by decide)))).symm
        have m6955 := m6931.trans (Wr.neI wH6939 (Or.inl (G_ne ga0 gq6910 (by decide)))).symm
        have m6956 := m6932.trans (Wr.neR wH6939 (Or.inl (G_ne ga0 gq6910 (by decide)))).symm
        have m6957 := ex6915.trans (Wr.neI wH6939 (Or.inl (G_ne ga0 gq6910 (by decide)))).symm
        have m6958 := Wr.I wH6939
        have m6958 := m6958.symm
        clear b6923 b6924 b6925 b6934 b6935 b6936 b6937 b6938 ex6915 g6917 hTH6913 m6916 m6926 m6928 m6929 m6930 m6931 m6932 mf6933
        refine lv_aload_n hx hb dX10_keepsTaps_71 rfl (lv_at hl6902 0 rfl) ?_
        refine x_gr C hTH6939 (ci := 10) (k := 54) rfl inX10 (by decide) wF_X10_128 ga0 rg_112 rfl dX10_keepsTaps_72 (fun q6959 eq6959 gq6959 => ?_)
        replace eq6959 := EQN.mk eq6959
        refine lv_iload_n hx hb dX10_keepsTaps_75 rfl (lv_at hl6902 1 rfl) ?_
        refine lv_aload_n hx hb dX10_keepsTaps_76 rfl (lv_at hl6902 0 rfl) ?_
        refine lv_aload_n hx hb dX10_keepsTaps_77 rfl (lv_at hl6902 0 rfl) ?_
        refine x_gr C hTH6939 (ci := 10) (k := 54) rfl inX10 (by decide) wF_X10_128 ga0 rg_112 rfl dX10_keepsTaps_78 (fun q6960 eq6960 gq6960 => ?_)
        have uq6960 : q6959 = q6960 := (eq6959).trans eq6960.symm
        subst uq6960
        clear eq6960
        refine lv_iload_n hx hb dX10_keepsTaps_81 rfl (lv_at hl6902 1 rfl) ?_
        refine x_ai C hTH6939 gq6959 rg_150 ⟨by omega, by show _ < ((1920 : Nat) : Int); omega⟩ dX10_keepsTaps_82 (fun x6961 ex6961 bx6961 => ?_)
        refine x_V (As := [.int x6961]) (rest := [.int x6903, .ref q6959]) C (a_X10_kept l K G H6939 (x6961) (x6915) (tk) hTH6939 ga0 giq m6951 m6957 m6955 g6941 (by and_intros <;> first | assumption | omega)) yo_X10_kept wM_X10_473 ⟨⟨by decide, by decide⟩, by decide, by decide⟩ (x_rv C hTH6939 (ci := 10) rfl ga0 rg_112) rfl hl6902.1 rfl (Nat.le_of_ble_eq_true rfl) dX10_keepsTaps_83 hSH6939 (AE_sub (fun _ _ => rfl) (by decide) hSH6939.1) (fun vH6962 H6962 locsH6962 pH6962 zH6962 kH6962 hSH6962 => ?_)
        obtain ⟨x6963, x6964, hvH6962, ex6964, hrH6962, m6965, g6966, mf6967, m6968, m6969, m6970, m6971, hTH6962⟩ := pH6962
        subst hvH6962
        clear zH6962
        replace m6965 := EQN.mk m6965
        have b6972 : UN (tk.toInt ≠ 0) (fun k => fI H6962 q64 k) (fun k => fI s.heap q64 k) := UN.congr (fun j => fI_kept (x_lt hTH6939 kH6962 gq64 (by decide))) b6942
        have b6973 : UN (tk.toInt ≠ 0) (fun k => fI H6962 q66 k) (fun k => fI s.heap q66 k) := UN.congr (fun j => fI_kept (x_lt hTH6939 kH6962 gq66 (by decide))) b6943
        have b6974 : UN (tk.toInt ≠ 0) (fun k => fI H6962 q67 k) (fun k => fI s.heap q67 k) := UN.congr (fun j => fI_kept (x_lt hTH6939 kH6962 gq67 (by decide))) b6944
        have m6975 := (m6958).trans (fI_kept (x_lt hTH6939 kH6962 gq6910 (by decide))).symm
        have m6976 := (ex6961).trans (fI_kept (x_lt hTH6939 kH6962 gq6959 (by decide))).symm
        have m6977 := (m6951).trans (MF.r mf6967 (k := 73) (by decide) (by decide)).symm
        have m6978 := (m6952).trans (MF.r mf6967 (k := 64) (by decide) (by decide)).symm
        have m6979 := (m6953).trans (MF.r mf6967 (k := 66) (by decide) (by decide)).symm
        have m6980 := (m6954).trans (MF.r mf6967 (k := 67) (by decide) (by decide)).symm
        have m6981 := (m6955).trans (MF.i mf6967 (k := 71) (by decide) (by decide)).symm
        have m6982 := (m6956).trans (MF.r mf6967 (k := 53) (by decide) (by decide)).symm
        have m6983 := (eq6959).trans (MF.r mf6967 (k := 54) (by decide) (by decide)).symm
        have mf6984 : MF K s.heap H6962 a0 [72] := MF.trans mf6940 mf6967 (by decide)
        have bx6964 := ty_fi (x := x6964) (k := 72) ex6964 hTH6962 ga0 rg_112 rfl
        have ce_x6915 := i_cl (x := x6915) (by omega)
        have b6985 : UN (tk.toInt = 0) (fun k => fI H6962 iq k) (fun k => fI s.heap iq k) := UN.tr m6971 b6945
        have b6986 : FB (fun k => fI H6962 iq k) (fun k => fI s.heap iq k) (4796) := FB.wr b6946 m6970 (fun j hj => by omega)
        have b6987 : EQ (fun k => fI H6962 q64 k) (fun k => fI H6962 iq k) (8877) (4) (0) := EQ.wr (EQ.congr (w1 := fun k => fI H6939 iq k) (fun j => fI_kept (x_lt hTH6939 kH6962 gq64 (by decide))) (fun _ => rfl) b6947) m6970 (fun j hj => by omega)
        have b6988 : EQ (fun k => fI H6962 q66 k) (fun k => fI H6962 iq k) (8878) (4) (0) := EQ.wr (EQ.congr (w1 := fun k => fI H6939 iq k) (fun j => fI_kept (x_lt hTH6939 kH6962 gq66 (by decide))) (fun _ => rfl) b6948) m6970 (fun j hj => by omega)
        have b6989 : EQ (fun k => fI H6962 q67 k) (fun k => fI H6962 iq k) (8879) (4) (0) := EQ.wr (EQ.congr (w1 := fun k => fI H6939 iq k) (fun j => fI_kept (x_lt hTH6939 kH6962 gq67 (by decide))) (fun _ => rfl) b6949) m6970 (fun j hj => by omega)
        clear b6942 b6943 b6944 b6945 b6946 b6947 b6948 b6949 eq6959 ex6961 m6951 m6952 m6953 m6954 m6955 m6956 m6957 m6958
        clear m6970 m6971
        refine W.eq (g2 := F0 m 86 ls6901 [.int x6963, .int x6903, .ref q6959]) rfl ?_
        refine x_iast C hTH6962 hSH6962 gq6959 rg_150 (by omega) (by show _ < ((1920 : Nat) : Int); omega) ⟨by have := i_rng x6963; omega, by have := i_rng x6963; omega⟩ (AE_in gq6959 (by decide)) dX10_keepsTaps_86 (fun H6990 locsH6990 hTH6990 hSH6990 wH6990 => ?_)
        have mf6991 : MF K s.heap H6990 a0 [72] := MF.arr wH6990 (G_ne ga0 gq6959 (by decide)) mf6984
        have g6992 : WD (avw K H6990 a0) := WD.congr (fun k hk j => av_arr hTH6962 ga0 wH6990 gq6959 (by decide) (WD_ok 150 (by decide) k hk)) g6966
        have b6993 : UN (tk.toInt ≠ 0) (fun k => fI H6990 q64 k) (fun k => fI s.heap q64 k) := UN.congr (fun j => Wr.neI wH6990 (Or.inl (G_ne gq64 gq6959 (by decide)))) b6972
        have b6994 : UN (tk.toInt ≠ 0) (fun k => fI H6990 q66 k) (fun k => fI s.heap q66 k) := UN.congr (fun j => Wr.neI wH6990 (Or.inl (G_ne gq66 gq6959 (by decide)))) b6973
        have b6995 : UN (tk.toInt ≠ 0) (fun k => fI H6990 q67 k) (fun k => fI s.heap q67 k) := UN.congr (fun j => Wr.neI wH6990 (Or.inl (G_ne gq67 gq6959 (by decide)))) b6974
        have b6996 : UN (tk.toInt = 0) (fun k => fI H6990 iq k) (fun k => fI s.heap iq k) := UN.congr (fun j => Wr.neI wH6990 (Or.inl (G_ne giq gq6959 (by decide)))) b6985
        have b6997 : FB (fun k => fI H6990 iq k) (fun k => fI s.heap iq k) (4796) := FB.congr (fun j => Wr.neI wH6990 (Or.inl (G_ne giq gq6959 (by decide)))) b6986
        have b6998 : EQ (fun k => fI H6990 q64 k) (fun k => fI H6990 iq k) (8877) (4) (0) := EQ.congr (fun j => Wr.neI wH6990 (Or.inl (G_ne gq64 gq6959 (by decide)))) (fun j => Wr.neI wH6990 (Or.inl (G_ne giq gq6959 (by decide)))) b6987
        have b6999 : EQ (fun k => fI H6990 q66 k) (fun k => fI H6990 iq k) (8878) (4) (0) := EQ.congr (fun j => Wr.neI wH6990 (Or.inl (G_ne gq66 gq6959 (by decide)))) (fun j => Wr.neI wH6990 (Or.inl (G_ne giq gq6959 (by decide)))) b6988
        have b7000 : EQ (fun k => fI H6990 q67 k) (fun k => fI H6990 iq k) (8879) (4) (0) := EQ.congr (fun j => Wr.neI wH6990 (Or.inl (G_ne gq67 gq6959 (by decide)))) (fun j => Wr.neI wH6990 (Or.inl (G_ne giq gq6959 (by decide)))) b6989
        have m7001 := m6975.trans (Wr.neI wH6990 (Or.inl (G_ne gq6910 gq6959 (by decide)))).symm
        have m7003 := m6965.trans (Wr.neR wH6990 (Or.inl (G_ne ga0 gq6959 (by decide)))).symm
        have m7004 := m6978.trans (Wr.neR wH6990 (Or.inl (G_ne ga0 gq6959 (by decide)))).symm
        have m7005 := m6979.trans (Wr.neR wH6990 (Or.inl (G_ne ga0 gq6959 (by decide)))).symm
        have m7006 := m6980.trans (Wr.neR wH6990 (Or.inl (G_ne ga0 gq6959 (by decide)))).symm
        have m7007 := m6981.trans (Wr.neI wH6990 (Or.inl (G_ne ga0 gq6959 (by decide)))).symm
        have m7008 := m6982.trans (Wr.neR wH6990 (Or.inl (G_ne ga0 gq6959 (by decide)))).symm
        have m7009 := m6983.trans (Wr.neR wH6990 (Or.inl (G_ne ga0 gq6959 (by decide)))).symm
        have m7010 := ex6964.trans (Wr.neI wH6990 (Or.inl (G_ne ga0 gq6959 (by decide)))).symm
        have m7011 := Wr.I wH6990
        have m7011 := m7011.symm
        clear b6972 b6973 b6974 b6985 b6986 b6987 b6988 b6989 ex6964 g6966 hTH6962 m6965 m6975 m6976 m6978 m6979 m6980 m6981 m6982 m6983 mf6984
        obtain ⟨x7012, ex7012⟩ : ∃ y : Int32, y = x6903 + 1 := ⟨_, rfl⟩
        have tx7012 := i_add ex7012 (by omega)
        refine lv_iinc (v := x7012) (lv' := [(1, .int x7012), (0, .ref a0)]) hx hb dX10_keepsTaps_87 hl6902 (k := 1) rfl (by rw [ex7012]; rfl) (by decide) rfl (fun ls7013 hl7014 => ?_)
        refine lv_goto (tgt := 48) hx hb dX10_keepsTaps_90 (by decide) ?_
        exact ih48 ls7013 H6990 locsH6990 (x7012) (x6964) (lv_sub hl7014 [1, 0] rfl) hTH6990 hSH6990 ⟨by have := i_rng x7012; omega, by have := i_rng x7012; omega⟩ ⟨by have := i_rng x6964; omega, by have := i_rng x6964; omega⟩ m7010 m7003 m7004 m7005 m7006 m7007 b6996 b6997 (EQ.cast b6998 (by omega)) (EQ.cast b6999 (by omega)) (EQ.cast b7000 (by omega)) b6993 b6994 b6995 mf6991 g6992 (by omega) (by and_intros <;> first | assumption | omega)
  have J2 : ∀ (nf : Nat) (ls7016 : Array Slot) (H7015 : Heap) (locsH7015 : List Loc) (x7018 : Int32) (x7019 : Int32), lv_has ls7016 2 [(0, .ref a0), (1, .int x7018)] → TY K G H7015 → va_S (AE G [112, 162, 147, 148, 149, 150, 156, 157, 158, 159] s.heap.size) s.heap H7015 locsH7015 → (0 ≤ x7018.toInt ∧ x7018.toInt ≤ 120) → (0 ≤ x7019.toInt ∧ x7019.toInt ≤ 16400) → (x7019 = fI H7015 a0 (K.1.2 10 72)) → (EQN iq (fR H7015 a0 (K.1.2 10 73))) → (EQN q64 (fR H7015 a0 (K.1.2 10 64))) → (EQN q66 (fR H7015 a0 (K.1.2 10 66))) → (EQN q67 (fR H7015 a0 (K.1.2 10 67))) → (tk = fI H7015 a0 (K.1.2 10 71)) → (UN (tk.toInt = 0) (fun k => fI H7015 iq k) (fun k => fI s.heap iq k)) → (FB (fun k => fI H7015 iq k) (fun k => fI s.heap iq k) (4796)) → (EQ (fun k => fI H7015 q64 k) (fun k => fI H7015 iq k) (8877) (4) (0)) → (EQ (fun k => fI H7015 q66 k) (fun k => fI H7015 iq k) (8878) (4) (0)) → (EQ (fun k => fI H7015 q67 k) (fun k => fI H7015 iq k) (8879) (4) (0)) → (UN (tk.toInt ≠ 0) (fun k => fI H7015 q64 k) (fun k => fI s.heap q64 k)) → (UN (tk.toInt ≠ 0) (fun k => fI H7015 q66 k) (fun k => fI s.heap q66 k)) → (UN (tk.toInt ≠ 0) (fun k => fI H7015 q67 k) (fun k => fI s.heap q67 k)) → (MF K s.heap H7015 a0 [72]) → (WD (avw K H7015 a0)) → (120 - x7018.toInt < (nf : Int)) → (x7019.toInt = 4796 + 2 * x7018.toInt) → W p l e ({ frames := 1, cells := 0, slots := 0, locals := 21 } : Room) s m (([.ref a0] : List Value).toArray) below meth c H7015 locsH7015 0 0 Q (F0 m 2 ls7016 []) := by
    intro nf
    induction nf with
    | zero =>
      intro ls7016 H7015 locsH7015 x7018 x7019 hl7017 hTH7015 hSH7015 bx7018 bx7019 ex7019 cy7020_0 cy7020_1 cy7020_2 cy7020_3 cy7020_4 by7020_ui by7020_fb by7020_e64 by7020_e66 by7020_e67 by7020_u64 by7020_u66 by7020_u67 mfy7020 gy7020_WD hm2 iv2
      exfalso
      omega
    | succ nf ih2 =>
      intro ls7016 H7015 locsH7015 x7018 x7019 hl7017 hTH7015 hSH7015 bx7018 bx7019 ex7019 cy7020_0 cy7020_1 cy7020_2 cy7020_3 cy7020_4 by7020_ui by7020_fb by7020_e64 by7020_e66 by7020_e67 by7020_u64 by7020_u66 by7020_u67 mfy7020 gy7020_WD hm2 iv2
      refine lv_iload_n hx hb dX10_keepsTaps_2 rfl (lv_at hl7017 1 rfl) ?_
      refine lv_bipush (v := 120) hx hb dX10_keepsTaps_3 (by decide) ?_
      refine lv_icmp_ge (tgt := 46) hx hb dX10_keepsTaps_5 (by decide) (fun c7021 => ?_) (fun c7021 => ?_)
      · have k7022 := i_le c7021
        refine lv_iconst (v := 0) hx hb dX10_keepsTaps_46 (by decide) ?_
        refine lv_istore_n (lv' := [(1, .int 0), (0, .ref a0)]) hx hb dX10_keepsTaps_47 rfl hl7017 (by decide) rfl (fun ls7023 hl7024 => ?_)
        have cl00 : (0 : Int32).toNatClampNeg = 0 := rfl
        exact J48 ((1920 - (0 : Int32).toInt).toNat + 1) ls7023 H7015 locsH7015 (0) (x7019) (lv_sub hl7024 [1, 0] rfl) hTH7015 hSH7015 (by decide) ⟨by have := i_rng x7019; omega, by have := i_rng x7019; omega⟩ ex7019 cy7020_0 cy7020_1 cy7020_2 cy7020_3 cy7020_4 by7020_ui by7020_fb (EQ.cast by7020_e64 (by omega)) (EQ.cast by7020_e66 (by omega)) (EQ.cast by7020_e67 (by omega)) by7020_u64 by7020_u66 by7020_u67 mfy7020 gy7020_WD (by omega) (by and_intros <;> first | assumption | omega)
      · have k7022 := i_nle c7021
        refine lv_aload_n hx hb dX10_keepsTaps_8 rfl (lv_at hl7017 0 rfl) ?_
        refine x_gr C hTH7015 (ci := 10) (k := 51) rfl inX10 (by decide) wF_X10_119 ga0 rg_112 rfl dX10_keepsTaps_9 (fun q7025 eq7025 gq7025 => ?_)
        replace eq7025 := EQN.mk eq7025
        refine lv_iload_n hx hb dX10_keepsTaps_12 rfl (lv_at hl7017 1 rfl) ?_
        refine lv_aload_n hx hb dX10_keepsTaps_13 rfl (lv_at hl7017 0 rfl) ?_
        refine lv_aload_n hx hb dX10_keepsTaps_14 rfl (lv_at hl7017 0 rfl) ?_
        refine x_gr C hTH7015 (ci := 10) (k := 51) rfl inX10 (by decide) wF_X10_119 ga0 rg_112 rfl dX10_keepsTaps_15 (fun q7026 eq7026 gq7026 => ?_)
        have uq7026 : q7025 = q7026 := (eq7025).trans eq7026.symm
        subst uq7026
        clear eq7026
        refine lv_iload_n hx hb dX10_keepsTaps_18 rfl (lv_at hl7017 1 rfl) ?_
        refine x_ai C hTH7015 gq7025 rg_147 ⟨by omega, by show _ < ((120 : Nat) : Int); omega⟩ dX10_keepsTaps_19 (fun x7027 ex7027 bx7027 => ?_)
        refine x_V (As := [.int x7027]) (rest := [.int x7018, .ref q7025]) C (a_X10_kept l K G H7015 (x7027) (x7019) (tk) hTH7015 ga0 giq cy7020_0 ex7019 cy7020_4 gy7020_WD (by and_intros <;> first | assumption | omega)) yo_X10_kept wM_X10_473 ⟨⟨by decide, by decide⟩, by decide, by decide⟩ (x_rv C hTH7015 (ci := 10) rfl ga0 rg_112) rfl hl7017.1 rfl (Nat.le_of_ble_eq_true rfl) dX10_keepsTaps_20 hSH7015 (AE_sub (fun _ _ => rfl) (by decide) hSH7015.1) (fun vH7028 H7028 locsH7028 pH7028 zH7028 kH7028 hSH7028 => ?_)
        obtain ⟨x7029, x7030, hvH7028, ex7030, hrH7028, m7031, g7032, mf7033, m7034, m7035, m7036, m7037, hTH7028⟩ := pH7028
        subst hvH7028
        clear zH7028
        replace m7031 := EQN.mk m7031
        have b7038 : UN (tk.toInt ≠ 0) (fun k => fI H7028 q64 k) (fun k => fI s.heap q64 k) := UN.congr (fun j => fI_kept (x_lt hTH7015 kH7028 gq64 (by decide))) by7020_u64
        have b7039 : UN (tk.toInt ≠ 0) (fun k => fI H7028 q66 k) (fun k => fI s.heap q66 k) := UN.congr (fun j => fI_kept (x_lt hTH7015 kH7028 gq66 (by decide))) by7020_u66
        have b7040 : UN (tk.toInt ≠ 0) (fun k => fI H7028 q67 k) (fun k => fI s.heap q67 k) := UN.congr (fun j => fI_kept (x_lt hTH7015 kH7028 gq67 (by decide))) by7020_u67
        have m7041 := (ex7027).trans (fI_kept (x_lt hTH7015 kH7028 gq7025 (by decide))).symm
        have m7042 := (cy7020_0).trans (MF.r mf7033 (k := 73) (by decide) (by decide)).symm
        have m7043 := (cy7020_1).trans (MF.r mf7033 (k := 64) (by decide) (by decide)).symm
        have m7044 := (cy7020_2).trans (MF.r mf7033 (k := 66) (by decide) (by decide)).symm
        have m7045 := (cy7020_3).trans (MF.r mf7033 (k := 67) (by decide) (by decide)).symm
        have m7046 := (cy7020_4).trans (MF.i mf7033 (k := 71) (by decide) (by decide)).symm
        have m7047 := (eq7025).trans (MF.r mf7033 (k := 51) (by decide) (by decide)).symm
        have mf7048 : MF K s.heap H7028 a0 [72] := MF.trans mfy7020 mf7033 (by decide)
        have bx7030 := ty_fi (x := x7030) (k := 72) ex7030 hTH7028 ga0 rg_112 rfl
        have ce_x7019 := i_cl (x := x7019) (by omega)
        have b7049 : UN (tk.toInt = 0) (fun k => fI H7028 iq k) (fun k => fI s.heap iq k) := UN.tr m7037 by7020_ui
        have b7050 : FB (fun k => fI H7028 iq k) (fun k => fI s.heap iq k) (4796) := FB.wr by7020_fb m7036 (fun j hj => by omega)
        have b7051 : EQ (fun k => fI H7028 q64 k) (fun k => fI H7028 iq k) (8877) (4) (0) := EQ.wr (EQ.congr (w1 := fun k => fI H7015 iq k) (fun j => fI_kept (x_lt hTH7015 kH7028 gq64 (by decide))) (fun _ => rfl) by7020_e64) m7036 (fun j hj => by omega)
        have b7052 : EQ (fun k => fI H7028 q66 k) (fun k => fI H7028 iq k) (8878) (4) (0) := EQ.wr (EQ.congr (w1 := fun k => fI H7015 iq k) (fun j => fI_kept (x_lt hTH7015 kH7028 gq66 (by decide))) (fun _ => rfl) by7020_e66) m7036 (fun j hj => by omega)
        have b7053 : EQ (fun k => fI H7028 q67 k) (fun k => fI H7028 iq k) (8879) (4) (0) := EQ.wr (EQ.congr (w1 := fun k => fI H7015 iq k) (fun j => fI_kept (x_lt hTH7015 kH7028 gq67 (by decide))) (fun _ => rfl) by7020_e67) m7036 (fun j hj => by omega)
        clear by7020_e64 by7020_e66 by7020_e67 by7020_fb by7020_u64 by7020_u66 by7020_u67 by7020_ui cy7020_0 cy7020_1 cy7020_2 cy7020_3 cy7020_4 eq7025 ex7019 ex7027
        clear m7036 m7037
        refine W.eq (g2 := F0 m 23 ls7016 [.int x7029, .int x7018, .ref q7025]) rfl ?_
        refine x_iast C hTH7028 hSH7028 gq7025 rg_147 (by omega) (by show _ < ((120 : Nat) : Int); omega) ⟨by have := i_rng x7029; omega, by have := i_rng x7029; omega⟩ (AE_in gq7025 (by decide)) dX10_keepsTaps_23 (fun H7054 locsH7054 hTH7054 hSH7054 wH7054 => ?_)
        have mf7055 : MF K s.heap H7054 a0 [72] := MF.arr wH7054 (G_ne ga0 gq7025 (by decide)) mf7048
        have g7056 : WD (avw K H7054 a0) := WD.congr (fun k hk j => av_arr hTH7028 ga0 wH7054 gq7025 (by decide) (WD_ok 147 (by decide) k hk)) g7032
        have b7057 : UN (tk.toInt ≠ 0) (fun k => fI H7054 q64 k) (fun k => fI s.heap q64 k) := UN.congr (fun j => Wr.neI wH7054 (Or.inl (G_ne gq64 gq7025 (by decide)))) b7038
        have b7058 : UN (tk.toInt ≠ 0) (fun k => fI H7054 q66 k) (fun k => fI s.heap q66 k) := UN.congr (fun j => Wr.neI wH7054 (Or.inl (G_ne gq66 gq7025 (by decide)))) b7039
        have b7059 : UN (tk.toInt ≠ 0) (fun k => fI H7054 q67 k) (fun k => fI s.heap q67 k) := UN.congr (fun j => Wr.neI wH7054 (Or.inl (G_ne gq67 gq7025 (by decide)))) b7040
        have b7060 : UN (tk.toInt = 0) (fun k => fI H7054 iq k) (fun k => fI s.heap iq k) := UN.congr (fun j => Wr.neI wH7054 (Or.inl (G_ne giq gq7025 (by decide)))) b7049
        have b7061 : FB (fun k => fI H7054 iq k) (fun k => fI s.heap iq k) (4796) := FB.congr (fun j => Wr.neI wH7054 (Or.inl (G_ne giq gq7025 (by decide)))) b7050
        have b7062 : EQ (fun k => fI H7054 q64 k) (fun k => fI H7054 iq k) (8877) (4) (0) := EQ.congr (fun j => Wr.neI wH7054 (Or.inl (G_ne gq64 gq7025 (by decide)))) (fun j => Wr.neI wH7054 (Or.inl (G_ne giq gq7025 (by decide)))) b7051
        have b7063 : EQ (fun k => fI H7054 q66 k) (fun k => fI H7054 iq k) (8878) (4) (0) := EQ.congr (fun j => Wr.neI wH7054 (Or.inl (G_ne gq66 gq7025 (by decide)))) (fun j => Wr.neI wH7054 (Or.inl (G_ne giq gq7025 (by decide)))) b7052
        have b7064 : EQ (fun k => fI H7054 q67 k) (fun k => fI H7054 iq k) (8879) (4) (0) := EQ.congr (fun j => Wr.neI wH7054 (Or.inl (G_ne gq67 gq7025 (by decide)))) (fun j => Wr.neI wH7054 (Or.inl (G_ne giq gq7025 (by decide)))) b7053
        have m7066 := m7031.trans (Wr.neR wH7054 (Or.inl (G_ne ga0 gq7025 (by decide)))).symm
        have m7067 := m7043.trans (Wr.neR wH7054 (Or.inl (G_ne ga0 gq7025 (by decide)))).symm
        have m7068 := m7044.trans (Wr.neR wH7054 (Or.inl (G_ne ga0 gq7025 (by decide)))).symm
        have m7069 := m7045.trans (Wr.neR wH7054 (Or.inl (G_ne ga0 gq7025 (by decide)))).symm
        have m7070 := m7046.trans (Wr.neI wH7054 (Or.inl (G_ne ga0 gq7025 (by decide)))).symm
        have m7071 := m7047.trans (Wr.neR wH7054 (Or.inl (G_ne ga0 gq7025 (by decide)))).symm
        have m7072 := ex7030.trans (Wr.neI wH7054 (Or.inl (G_ne ga0 gq7025 (by decide)))).symm
        have m7073 := Wr.I wH7054
        have m7073 := m7073.symm
        clear b7038 b7039 b7040 b7049 b7050 b7051 b7052 b7053 ex7030 g7032 hTH7028 m7031 m7041 m7043 m7044 m7045 m7046 m7047 mf7048
        refine lv_aload_n hx hb dX10_keepsTaps_24 rfl (lv_at hl7017 0 rfl) ?_
        refine x_gr C hTH7054 (ci := 10) (k := 52) rfl inX10 (by decide) wF_X10_122 ga0 rg_112 rfl dX10_keepsTaps_25 (fun q7074 eq7074 gq7074 => ?_)
        replace eq7074 := EQN.mk eq7074
        refine lv_iload_n hx hb dX10_keepsTaps_28 rfl (lv_at hl7017 1 rfl) ?_
        refine lv_aload_n hx hb dX10_keepsTaps_29 rfl (lv_at hl7017 0 rfl) ?_
        refine lv_aload_n hx hb dX10_keepsTaps_30 rfl (lv_at hl7017 0 rfl) ?_
        refine x_gr C hTH7054 (ci := 10) (k := 52) rfl inX10 (by decide) wF_X10_122 ga0 rg_112 rfl dX10_keepsTaps_31 (fun q7075 eq7075 gq7075 => ?_)
        have uq7075 : q7074 = q7075 := (eq7074).trans eq7075.symm
        subst uq7075
        clear eq7075
        refine lv_iload_n hx hb dX10_keepsTaps_34 rfl (lv_at hl7017 1 rfl) ?_
        refine x_ai C hTH7054 gq7074 rg_148 ⟨by omega, by show _ < ((120 : Nat) : Int); omega⟩ dX10_keepsTaps_35 (fun x7076 ex7076 bx7076 => ?_)
        refine x_V (As := [.int x7076]) (rest := [.int x7018, .ref q7074]) C (a_X10_kept l K G H7054 (x7076) (x7030) (tk) hTH7054 ga0 giq m7066 m7072 m7070 g7056 (by and_intros <;> first | assumption | omega)) yo_X10_kept wM_X10_473 ⟨⟨by decide, by decide⟩, by decide, by decide⟩ (x_rv C hTH7054 (ci := 10) rfl ga0 rg_112) rfl hl7017.1 rfl (Nat.le_of_ble_eq_true rfl) dX10_keepsTaps_36 hSH7054 (AE_sub (fun _ _ => rfl) (by decide) hSH7054.1) (fun vH7077 H7077 locsH7077 pH7077 zH7077 kH7077 hSH7077 => ?_)
        obtain ⟨x7078, x7079, hvH7077, ex7079, hrH7077, m7080, g7081, mf7082, m7083, m7084, m7085, m7086, hTH7077⟩ := pH7077
        subst hvH7077
        clear zH7077
        replace m7080 := EQN.mk m7080
        have b7087 : UN (tk.toInt ≠ 0) (fun k => fI H7077 q64 k) (fun k => fI s.heap q64 k) := UN.congr (fun j => fI_kept (x_lt hTH7054 kH7077 gq64 (by decide))) b7057
        have b7088 : UN (tk.toInt ≠ 0) (fun k => fI H7077 q66 k) (fun k => fI s.heap q66 k) := UN.congr (fun j => fI_kept (x_lt hTH7054 kH7077 gq66 (by decide))) b7058
        have b7089 : UN (tk.toInt ≠ 0) (fun k => fI H7077 q67 k) (fun k => fI s.heap q67 k) := UN.congr (fun j => fI_kept (x_lt hTH7054 kH7077 gq67 (by decide))) b7059
        have m7090 := (m7073).trans (fI_kept (x_lt hTH7054 kH7077 gq7025 (by decide))).symm
        have m7091 := (ex7076).trans (fI_kept (x_lt hTH7054 kH7077 gq7074 (by decide))).symm
        have m7092 := (m7066).trans (MF.r mf7082 (k := 73) (by decide) (by decide)).symm
        have m7093 := (m7067).trans (MF.r mf7082 (k := 64) (by decide) (by decide)).symm
        have m7094 := (m7068).trans (MF.r mf7082 (k := 66) (by decide) (by decide)).symm
        have m7095 := (m7069).trans (MF.r mf7082 (k := 67) (by decide) (by decide)).symm
        have m7096 := (m7070).trans (MF.i mf7082 (k := 71) (by decide) (by decide)).symm
        have m7097 := (m7071).trans (MF.r mf7082 (k := 51) (by decide) (by decide)).symm
        have m7098 := (eq7074).trans (MF.r mf7082 (k := 52) (by decide) (by decide)).symm
        have mf7099 : MF K s.heap H7077 a0 [72] := MF.trans mf7055 mf7082 (by decide)
        have bx7079 := ty_fi (x := x7079) (k := 72) ex7079 hTH7077 ga0 rg_112 rfl
        have ce_x7030 := i_cl (x := x7030) (by omega)
        have b7100 : UN (tk.toInt = 0) (fun k => fI H7077 iq k) (fun k => fI s.heap iq k) := UN.tr m7086 b7060
        have b7101 : FB (fun k => fI H7077 iq k) (fun k => fI s.heap iq k) (4796) := FB.wr b7061 m7085 (fun j hj => by omega)
        have b7102 : EQ (fun k => fI H7077 q64 k) (fun k => fI H7077 iq k) (8877) (4) (0) := EQ.wr (EQ.congr (w1 := fun k => fI H7054 iq k) (fun j => fI_kept (x_lt hTH7054 kH7077 gq64 (by decide))) (fun _ => rfl) b7062) m7085 (fun j hj => by omega)
        have b7103 : EQ (fun k => fI H7077 q66 k) (fun k => fI H7077 iq k) (8878) (4) (0) := EQ.wr (EQ.congr (w1 := fun k => fI H7054 iq k) (fun j => fI_kept (x_lt hTH7054 kH7077 gq66 (by decide))) (fun _ => rfl) b7063) m7085 (fun j hj => by omega)
        have b7104 : EQ (fun k => fI H7077 q67 k) (fun k => fI H7077 iq k) (8879) (4) (0) := EQ.wr (EQ.congr (w1 := fun k => fI H7054 iq k) (fun j => fI_kept (x_lt hTH7054 kH7077 gq67 (by decide))) (fun _ => rfl) b7064) m7085 (fun j hj => by omega)
        clear b7057 b7058 b7059 b7060 b7061 b7062 b7063 b7064 eq7074 ex7076 m7066 m7067 m7068 m7069 m7070 m7071 m7072 m7073
        clear m7085 m7086
        refine W.eq (g2 := F0 m 39 ls7016 [.int x7078, .int x7018, .ref q7074]) rfl ?_
        refine x_iast C hTH7077 hSH7077 gq7074 rg_148 (by omega) (by show _ < ((120 : Nat) : Int); omega) ⟨by have := i_rng x7078; omega, by have := i_rng x7078; omega⟩ (AE_in gq7074 (by decide)) dX10_keepsTaps_39 (fun H7105 locsH7105 hTH7105 hSH7105 wH7105 => ?_)
        have mf7106 : MF K s.heap H7105 a0 [72] := MF.arr wH7105 (G_ne ga0 gq7074 (by decide)) mf7099
        have g7107 : WD (avw K H7105 a0) := WD.congr (fun k hk j => av_arr hTH7077 ga0 wH7105 gq7074 (by decide) (WD_ok 148 (by decide) k hk)) g7081
        have b7108 : UN (tk.toInt ≠ 0) (fun k => fI H7105 q64 k) (fun k => fI s.heap q64 k) := UN.congr (fun j => Wr.neI wH7105 (Or.inl (G_ne gq64 gq7074 (by decide)))) b7087
        have b7109 : UN (tk.toInt ≠ 0) (fun k => fI H7105 q66 k) (fun k => fI s.heap q66 k) := UN.congr (fun j => Wr.neI wH7105 (Or.inl (G_ne gq66 gq7074 (by decide)))) b7088
        have b7110 : UN (tk.toInt ≠ 0) (fun k => fI H7105 q67 k) (fun k => fI s.heap q67 k) := UN.congr (fun j => Wr.neI wH7105 (Or.inl (G_ne gq67 gq7074 (by decide)))) b7089
        have b7111 : UN (tk.toInt = 0) (fun k => fI H7105 iq k) (fun k => fI s.heap iq k) := UN.congr (fun j => Wr.neI wH7105 (Or.inl (G_ne giq gq7074 (by decide)))) b7100
        have b7112 : FB (fun k => fI H7105 iq k) (fun k => fI s.heap iq k) (4796) := FB.congr (fun j => Wr.neI wH7105 (Or.inl (G_ne giq gq7074 (by decide)))) b7101
        have b7113 : EQ (fun k => fI H7105 q64 k) (fun k => fI H7105 iq k) (8877) (4) (0) := EQ.congr (fun j => Wr.neI wH7105 (Or.inl (G_ne gq64 gq7074 (by decide)))) (fun j => Wr.neI wH7105 (Or.inl (G_ne giq gq7074 (by decide)))) b7102
        have b7114 : EQ (fun k => fI H7105 q66 k) (fun k => fI H7105 iq k) (8878) (4) (0) := EQ.congr (fun j => Wr.neI wH7105 (Or.inl (G_ne gq66 gq7074 (by decide)))) (fun j => Wr.neI wH7105 (Or.inl (G_ne giq gq7074 (by decide)))) b7103
        have b7115 : EQ (fun k => fI H7105 q67 k) (fun k => fI H7105 iq k) (8879) (4) (0) := EQ.congr (fun j => Wr.neI wH7105 (Or.inl (G_ne gq67 gq7074 (by decide)))) (fun j => Wr.neI wH7105 (Or.inl (G_ne giq gq7074 (by decide)))) b7104
        have m7116 := m7090.trans (Wr.neI wH7105 (Or.inl (G_ne gq7025 gq7074 (by decide)))).symm
        have m7118 := m7080.trans (Wr.neR wH7105 (Or.inl (G_ne ga0 gq7074 (by decide)))).symm
        have m7119 := m7093.trans (Wr.neR wH7105 (Or.inl (G_ne ga0 gq7074 (by decide)))).symm
        have m7120 := m7094.trans (Wr.neR wH7105 (Or.inl (G_ne ga0 gq7074 (by decide)))).symm
        have m7121 := m7095.trans (Wr.neR wH7105 (Or.inl (G_ne ga0 gq7074 (by decide)))).symm
        have m7122 := m7096.trans (Wr.neI wH7105 (Or.inl (G_ne ga0 gq7074 (by decide)))).symm
        have m7123 := m7097.trans (Wr.neR wH7105 (Or.inl (G_ne ga0 gq7074 (by decide)))).symm
        have m7124 := m7098.trans (Wr.neR wH7105 (Or.inl (G_ne ga0 gq7074 (by decide)))).symm
        have m7125 := ex7079.trans (Wr.neI wH7105 (Or.inl (G_ne ga0 gq7074 (by decide)))).symm
        have m7126 := Wr.I wH7105
        have m7126 := m7126.symm
        clear b7087 b7088 b7089 b7100 b7101 b7102 b7103 b7104 ex7079 g7081 hTH7077 m7080 m7090 m7091 m7093 m7094 m7095 m7096 m7097 m7098 mf7099
        obtain ⟨x7127, ex7127⟩ : ∃ y : Int32, y = x7018 + 1 := ⟨_, rfl⟩
        have tx7127 := i_add ex7127 (by omega)
        refine lv_iinc (v := x7127) (lv' := [(1, .int x7127), (0, .ref a0)]) hx hb dX10_keepsTaps_40 hl7017 (k := 1) rfl (by rw [ex7127]; rfl) (by decide) rfl (fun ls7128 hl7129 => ?_)
        refine lv_goto (tgt := 2) hx hb dX10_keepsTaps_43 (by decide) ?_
        exact ih2 ls7128 H7105 locsH7105 (x7127) (x7079) (lv_sub hl7129 [1, 0] rfl) hTH7105 hSH7105 ⟨by have := i_rng x7127; omega, by have := i_rng x7127; omega⟩ ⟨by have := i_rng x7079; omega, by have := i_rng x7079; omega⟩ m7125 m7118 m7119 m7120 m7121 m7122 b7111 b7112 (EQ.cast b7113 (by omega)) (EQ.cast b7114 (by omega)) (EQ.cast b7115 (by omega)) b7108 b7109 b7110 mf7106 g7107 (by omega) (by and_intros <;> first | assumption | omega)
  have ui00 : UN (tk.toInt = 0) (fun k => fI s.heap iq k) (fun k => fI s.heap iq k) := UN.rf
  have fb00 : FB (fun k => fI s.heap iq k) (fun k => fI s.heap iq k) (4796) := FB.rf
  have e6400 : EQ (fun k => fI s.heap q64 k) (fun k => fI s.heap iq k) (8877) (4) (0) := EQ.nil rfl
  have e6600 : EQ (fun k => fI s.heap q66 k) (fun k => fI s.heap iq k) (8878) (4) (0) := EQ.nil rfl
  have e6700 : EQ (fun k => fI s.heap q67 k) (fun k => fI s.heap iq k) (8879) (4) (0) := EQ.nil rfl
  have u6400 : UN (tk.toInt ≠ 0) (fun k => fI s.heap q64 k) (fun k => fI s.heap q64 k) := UN.rf
  have u6600 : UN (tk.toInt ≠ 0) (fun k => fI s.heap q66 k) (fun k => fI s.heap q66 k) := UN.rf
  have u6700 : UN (tk.toInt ≠ 0) (fun k => fI s.heap q67 k) (fun k => fI s.heap q67 k) := UN.rf
  refine lv_iconst (v := 0) hx hb dX10_keepsTaps_0 (by decide) ?_
  refine lv_istore_n (lv' := [(1, .int 0), (0, .ref a0)]) hx hb dX10_keepsTaps_1 rfl hl (by decide) rfl (fun ls7130 hl7131 => ?_)
  have cl00 : (0 : Int32).toNatClampNeg = 0 := rfl
  exact J2 ((120 - (0 : Int32).toInt).toNat + 1) ls7130 s.heap [] (0) (ia) (lv_sub hl7131 [1, 0] rfl) hT hS (by decide) ⟨by have := i_rng ia; omega, by have := i_rng ia; omega⟩ eia eiq eq64 eq66 eq67 etk ui00 fb00 (EQ.cast e6400 (by omega)) (EQ.cast e6600 (by omega)) (EQ.cast e6700 (by omega)) u6400 u6600 u6700 mf0 hg_WD (by omega) (by and_intros <;> first | assumption | omega)

set_option maxHeartbeats 4000000 in
set_option maxRecDepth 100000 in
theorem a_X10_keepsTexts (l : Launch) (K : KE) (G : Nat → Option Nat) (H : Heap) {a0 : Nat} {iq : Nat} {q24 : Nat} {q27 : Nat} {q29 : Nat} {q30 : Nat} {q31 : Nat} {q32 : Nat} {q33 : Nat} (ia : Int32) (tk : Int32) (hT : TY K G H) (ga0 : G a0 = some 112) (giq : G iq = some 162) (eiq : iq = fR H a0 (K.1.2 10 73)) (gq24 : G q24 = some 128) (eq24 : q24 = fR H a0 (K.1.2 10 24)) (gq27 : G q27 = some 131) (eq27 : q27 = fR H a0 (K.1.2 10 27)) (gq29 : G q29 = some 133) (eq29 : q29 = fR H a0 (K.1.2 10 29)) (gq30 : G q30 = some 134) (eq30 : q30 = fR H a0 (K.1.2 10 30)) (gq31 : G q31 = some 135) (eq31 : q31 = fR H a0 (K.1.2 10 31)) (gq32 : G q32 = some 136) (eq32 : q32 = fR H a0 (K.1.2 10 32)) (gq33 : G q33 = some 137) (eq33 : q33 = fR H a0 (K.1.2 10 33)) (eia : ia = fI H a0 (K.1.2 10 72)) (etk : tk = fI H a0 (K.1.2 10 71)) (hg_WD : WD (avw K H a0)) (hp0 : ia.toInt = 8908) (hy0 : tk.toInt = 0 → IMw (fun k => fI H iq k)) : MX l K yX10_keepsTexts cX10_keepsTexts 2 none 1 21 0 0 [.ref a0] H (AE G [112, 162, 128, 129, 130, 131, 132, 133, 134, 135, 136, 137] H.size) (fun v H1 => ∃ (t0 : Int32), v = none ∧ t0 = fI H1 a0 (K.1.2 10 72) ∧ (t0.toInt = 15586) ∧ iq = fR H1 a0 (K.1.2 10 73) ∧ q24 = fR H1 a0 (K.1.2 10 24) ∧ q27 = fR H1 a0 (K.1.2 10 27) ∧ q29 = fR H1 a0 (K.1.2 10 29) ∧ q30 = fR H1 a0 (K.1.2 10 30) ∧ q31 = fR H1 a0 (K.1.2 10 31) ∧ q32 = fR H1 a0 (K.1.2 10 32) ∧ q33 = fR H1 a0 (K.1.2 10 33) ∧ (WD (avw K H1 a0)) ∧ MF K H H1 a0 [72] ∧ (UN (tk.toInt = 0) (fun k => fI H1 iq k) (fun k => fI H iq k)) ∧ (FB (fun k => fI H1 iq k) (fun k => fI H iq k) 8908) ∧ (EQ (fun k => fI H1 q24 k) (fun k => fI H1 iq k) 8908 1 6) ∧ (EQ (fun k => fI H1 q27 k) (fun k => fI H1 iq k) 8916 7 96) ∧ (EQ (fun k => fI H1 q29 k) (fun k => fI H1 iq k) 8918 7 96) ∧ (EQ (fun k => fI H1 q30 k) (fun k => fI H1 iq k) 8919 7 96) ∧ (EQ (fun k => fI H1 q31 k) (fun k => fI H1 iq k) 8920 7 96) ∧ (EQ (fun k => fI H1 q32 k) (fun k => fI H1 iq k) 9586 2 3000) ∧ (EQ (fun k => fI H1 q33 k) (fun k => fI H1 iq k) 9587 2 3000) ∧ (UN (tk.toInt ≠ 0) (fun k => fI H1 q24 k) (fun k => fI H q24 k)) ∧ (UN (tk.toInt ≠ 0) (fun k => fI H1 q29 k) (fun k => fI H q29 k)) ∧ (UN (tk.toInt ≠ 0) (fun k => fI H1 q30 k) (fun k => fI H q30 k)) ∧ (UN (tk.toInt ≠ 0) (fun k => fI H1 q31 k) (fun k => fI H q31 k)) ∧ (UN (tk.toInt ≠ 0) (fun k => fI H1 q32 k) (fun k => fI H q32 k)) ∧ (UN (tk.toInt ≠ 0) (fun k => fI H1 q33 k) (fun k => fI H q33 k)) ∧ TY K G H1) := by
  refine MX.of (by decide +kernel) (Nat.le_of_ble_eq_true rfl) ?_
  intro p e s m below meth c ls Q C hH hl hQ
  subst hH
  have C : CX p K s m _ meth c RX10 cX10_keepsTexts 2 none "keepsTexts" := C
  obtain ⟨hx, hb, hml, hown, hts, hKT, hr, hlocks, hnm⟩ := id C
  have hl : lv_has ls 2 [(0, .ref a0)] := hl
  have hS : va_S (AE G [112, 162, 128, 129, 130, 131, 132, 133, 134, 135, 136, 137] s.heap.size) s.heap s.heap [] := va_S.rf
  have n_0 : (0 : Int32).toInt = 0 := rfl
  have n_1 : (1 : Int32).toInt = 1 := rfl
  have n_6 : (6 : Int32).toInt = 6 := rfl
  have n_96 : (96 : Int32).toInt = 96 := rfl
  have n_3000 : (3000 : Int32).toInt = 3000 := rfl
  have bia := ty_fi (x := ia) (k := 72) eia hT ga0 rg_112 rfl
  have btk := ty_fi (x := tk) (k := 71) etk hT ga0 rg_112 rfl
  have hap : ∀ x y, x < 74 → y < 74 → x ≠ y → K.1.2 10 x ≠ K.1.2 10 y := x_apart hKT hts inX10 tyX10 tyX10_ok nmX10 rfl
  have mf0 : MF K s.heap s.heap a0 [72] := fun _ _ _ => rfl
  replace eiq := EQN.mk eiq
  replace eq24 := EQN.mk eq24
  replace eq27 := EQN.mk eq27
  replace eq29 := EQN.mk eq29
  replace eq30 := EQN.mk eq30
  replace eq31 := EQN.mk eq31
  replace eq32 := EQN.mk eq32
  replace eq33 := EQN.mk eq33
  have J158 : ∀ (nf : Nat) (ls15040 : Array Slot) (H15039 : Heap) (locsH15039 : List Loc) (x15042 : Int32) (x15043 : Int32), lv_has ls15040 2 [(0, .ref a0), (1, .int x15042)] → TY K G H15039 → va_S (AE G [112, 162, 128, 129, 130, 131, 132, 133, 134, 135, 136, 137] s.heap.size) s.heap H15039 locsH15039 → (0 ≤ x15042.toInt ∧ x15042.toInt ≤ 3000) → (0 ≤ x15043.toInt ∧ x15043.toInt ≤ 16400) → (x15043 = fI H15039 a0 (K.1.2 10 72)) → (EQN iq (fR H15039 a0 (K.1.2 10 73))) → (EQN q24 (fR H15039 a0 (K.1.2 10 24))) → (EQN q27 (fR H15039 a0 (K.1.2 10 27))) → (EQN q29 (fR H15039 a0 (K.1.2 10 29))) → (EQN q30 (fR H15039 a0 (K.1.2 10 30))) → (EQN q31 (fR H15039 a0 (K.1.2 10 31))) → (EQN q32 (fR H15039 a0 (K.1.2 10 32))) → (EQN q33 (fR H15039 a0 (K.1.2 10 33))) → (tk = fI H15039 a0 (K.1.2 10 71)) → (UN (tk.toInt = 0) (fun k => fI H15039 iq k) (fun k => fI s.heap iq k)) → (FB (fun k => fI H15039 iq k) (fun k => fI s.heap iq k) (8908)) → (EQ (fun k => fI H15039 q24 k) (fun k => fI H15039 iq k) (8908) (1) (6)) → (EQ (fun k => fI H15039 q27 k) (fun k => fI H15039 iq k) (8916) (7) (96)) → (EQ (fun k => fI H15039 q29 k) (fun k => fI H15039 iq k) (8918) (7) (96)) → (EQ (fun k => fI H15039 q30 k) (fun k => fI H15039 iq k) (8919) (7) (96)) → (EQ (fun k => fI H15039 q31 k) (fun k => fI H15039 iq k) (8920) (7) (96)) → (EQ (fun k => fI H15039 q32 k) (fun k => fI H15039 iq k) (9586) (2) (x15042.toNatClampNeg)) → (EQ (fun k => fI H15039 q33 k) (fun k => fI H15039 iq k) (9587) (2) (x15042.toNatClampNeg)) → (UN (tk.toInt ≠ 0) (fun k => fI H15039 q24 k) (fun k => fI s.heap q24 k)) → (UN (tk.toInt ≠ 0) (fun k => fI H15039 q29 k) (fun k => fI s.heap q29 k)) → (UN (tk.toInt ≠ 0) (fun k => fI H15039 q30 k) (fun k => fI s.heap q30 k)) → (UN (tk.toInt ≠ 0) (fun k => fI H15039 q31 k) (fun k => fI s.heap q31 k)) → (UN (tk.toInt ≠ 0) (fun k => fI H15039 q32 k) (fun k => fI s.heap q32 k)) → (UN (tk.toInt ≠ 0) (fun k => fI H15039 q33 k) (fun k => fI s.heap q33 k)) → (MF K s.heap H15039 a0 [72]) → (WD (avw K H15039 a0)) → (3000 - x15042.toInt < (nf : Int)) → (x15043.toInt = 9586 + 2 * x15042.toInt) → W p l e ({ frames := 1, cells := 0, slots := 0, locals := 21 } : Room) s m (([.ref a0] : List Value).toArray) below meth c H15039 locsH15039 0 0 Q (F0 m 158 ls15040 []) := by
    intro nf
    induction nf with
    | zero =>
      intro ls15040 H15039 locsH15039 x15042 x15043 hl15041 hTH15039 hSH15039 bx15042 bx15043 ex15043 cy15044_0 cy15044_1 cy15044_2 cy15044_3 cy15044_4 cy15044_5 cy15044_6 cy15044_7 cy15044_8 by15044_ui by15044_fb by15044_e24 by15044_e27 by15044_e29 by15044_e30 by15044_e31 by15044_e32 by15044_e33 by15044_u24 by15044_u29 by15044_u30 by15044_u31 by15044_u32 by15044_u33 mfy15044 gy15044_WD hm158 iv158
      exfalso
      omega
    | succ nf ih158 =>
      intro ls15040 H15039 locsH15039 x15042 x15043 hl15041 hTH15039 hSH15039 bx15042 bx15043 ex15043 cy15044_0 cy15044_1 cy15044_2 cy15044_3 cy15044_4 cy15044_5 cy15044_6 cy15044_7 cy15044_8 by15044_ui by15044_fb by15044_e24 by15044_e27 by15044_e29 by15044_e30 by15044_e31 by15044_e32 by15044_e33 by15044_u24 by15044_u29 by15044_u30 by15044_u31 by15044_u32 by15044_u33 mfy15044 gy15044_WD hm158 iv158
      refine lv_iload_n hx hb dX10_keepsTexts_158 rfl (lv_at hl15041 1 rfl) ?_
      refine lv_sipush (v := 3000) hx hb dX10_keepsTexts_159 (by decide) ?_
      refine lv_icmp_ge (tgt := 203) hx hb dX10_keepsTexts_162 (by decide) (fun c15045 => ?_) (fun c15045 => ?_)
      · have k15046 := i_le c15045
        have ce_x15042 := i_cl (x := x15042) (by omega)
        exact x_vret C hQ dX10_keepsTexts_203 hSH15039 (by decide) (by decide) (⟨x15043, rfl, ex15043, by omega, cy15044_0, cy15044_1, cy15044_2, cy15044_3, cy15044_4, cy15044_5, cy15044_6, cy15044_7, gy15044_WD, mfy15044, by15044_ui, by15044_fb, (EQ.cast by15044_e24 (by omega)), (EQ.cast by15044_e27 (by omega)), (EQ.cast by15044_e29 (by omega)), (EQ.cast by15044_e30 (by omega)), (EQ.cast by15044_e31 (by omega)), (EQ.cast by15044_e32 (by omega)), (EQ.cast by15044_e33 (by omega)), by15044_u24, by15044_u29, by15044_u30, by15044_u31, by15044_u32, by15044_u33, hTH15039⟩)
      · have k15046 := i_nle c15045
        refine lv_aload_n hx hb dX10_keepsTexts_165 rfl (lv_at hl15041 0 rfl) ?_
        refine x_gr C hTH15039 (ci := 10) (k := 32) rfl inX10 (by decide) wF_X10_83 ga0 rg_112 rfl dX10_keepsTexts_166 (fun q15047 eq15047 gq15047 => ?_)
        have uq15047 : q32 = q15047 := (cy15044_6).trans eq15047.symm
        subst uq15047
        clear eq15047
        refine lv_iload_n hx hb dX10_keepsTexts_169 rfl (lv_at hl15041 1 rfl) ?_
        refine lv_aload_n hx hb dX10_keepsTexts_170 rfl (lv_at hl15041 0 rfl) ?_
        refine lv_aload_n hx hb dX10_keepsTexts_171 rfl (lv_at hl15041 0 rfl) ?_
        refine x_gr C hTH15039 (ci := 10) (k := 32) rfl inX10 (by decide) wF_X10_83 ga0 rg_112 rfl dX10_keepsTexts_172 (fun q15048 eq15048 gq15048 => ?_)
        have uq15048 : q32 = q15048 := (cy15044_6).trans eq15048.symm
        subst uq15048
        clear eq15048
        refine lv_iload_n hx hb dX10_keepsTexts_175 rfl (lv_at hl15041 1 rfl) ?_
        refine x_ai C hTH15039 gq32 rg_136 ⟨by omega, by show _ < ((3500 : Nat) : Int); omega⟩ dX10_keepsTexts_176 (fun x15049 ex15049 bx15049 => ?_)
        refine x_V (As := [.int x15049]) (rest := [.int x15042, .ref q32]) C (a_X10_kept l K G H15039 (x15049) (x15043) (tk) hTH15039 ga0 giq cy15044_0 ex15043 cy15044_8 gy15044_WD (by and_intros <;> first | assumption | omega)) yo_X10_kept wM_X10_473 ⟨⟨by decide, by decide⟩, by decide, by decide⟩ (x_rv C hTH15039 (ci := 10) rfl ga0 rg_112) rfl hl15041.1 rfl (Nat.le_of_ble_eq_true rfl) dX10_keepsTexts_177 hSH15039 (AE_sub (fun _ _ => rfl) (by decide) hSH15039.1) (fun vH15050 H15050 locsH15050 pH15050 zH15050 kH15050 hSH15050 => ?_)
        obtain ⟨x15051, x15052, hvH15050, ex15052, hrH15050, m15053, g15054, mf15055, m15056, m15057, m15058, m15059, hTH15050⟩ := pH15050
        subst hvH15050
        clear zH15050
        replace m15053 := EQN.mk m15053
        have b15060 : UN (tk.toInt ≠ 0) (fun k => fI H15050 q24 k) (fun k => fI s.heap q24 k) := UN.congr (fun j => fI_kept (x_lt hTH15039 kH15050 gq24 (by decide))) by15044_u24
        have b15061 : UN (tk.toInt ≠ 0) (fun k => fI H15050 q29 k) (fun k => fI s.heap q29 k) := UN.congr (fun j => fI_kept (x_lt hTH15039 kH15050 gq29 (by decide))) by15044_u29
        have b15062 : UN (tk.toInt ≠ 0) (fun k => fI H15050 q30 k) (fun k => fI s.heap q30 k) := UN.congr (fun j => fI_kept (x_lt hTH15039 kH15050 gq30 (by decide))) by15044_u30
        have b15063 : UN (tk.toInt ≠ 0) (fun k => fI H15050 q31 k) (fun k => fI s.heap q31 k) := UN.congr (fun j => fI_kept (x_lt hTH15039 kH15050 gq31 (by decide))) by15044_u31
        have b15064 : UN (tk.toInt ≠ 0) (fun k => fI H15050 q32 k) (fun k => fI s.heap q32 k) := UN.congr (fun j => fI_kept (x_lt hTH15039 kH15050 gq32 (by decide))) by15044_u32
        have b15065 : UN (tk.toInt ≠ 0) (fun k => fI H15050 q33 k) (fun k => fI s.heap q33 k) := UN.congr (fun j => fI_kept (x_lt hTH15039 kH15050 gq33 (by decide))) by15044_u33
        have m15066 := (ex15049).trans (fI_kept (x_lt hTH15039 kH15050 gq32 (by decide))).symm
        have m15067 := (cy15044_0).trans (MF.r mf15055 (k := 73) (by decide) (by decide)).symm
        have m15068 := (cy15044_1).trans (MF.r mf15055 (k := 24) (by decide) (by decide)).symm
        have m15069 := (cy15044_2).trans (MF.r mf15055 (k := 27) (by decide) (by decide)).symm
        have m15070 := (cy15044_3).trans (MF.r mf15055 (k := 29) (by decide) (by decide)).symm
        have m15071 := (cy15044_4).trans (MF.r mf15055 (k := 30) (by decide) (by decide)).symm
        have m15072 := (cy15044_5).trans (MF.r mf15055 (k := 31) (by decide) (by decide)).symm
        have m15073 := (cy15044_6).trans (MF.r mf15055 (k := 32) (by decide) (by decide)).symm
        have m15074 := (cy15044_7).trans (MF.r mf15055 (k := 33) (by decide) (by decide)).symm
        have m15075 := (cy15044_8).trans (MF.i mf15055 (k := 71) (by decide) (by decide)).symm
        have mf15076 : MF K s.heap H15050 a0 [72] := MF.trans mfy15044 mf15055 (by decide)
        have bx15052 := ty_fi (x := x15052) (k := 72) ex15052 hTH15050 ga0 rg_112 rfl
        have ce_x15042 := i_cl (x := x15042) (by omega)
        have ce_x15043 := i_cl (x := x15043) (by omega)
        have b15077 : UN (tk.toInt = 0) (fun k => fI H15050 iq k) (fun k => fI s.heap iq k) := UN.tr m15059 by15044_ui
        have b15078 : FB (fun k => fI H15050 iq k) (fun k => fI s.heap iq k) (8908) := FB.wr by15044_fb m15058 (fun j hj => by omega)
        have b15079 : EQ (fun k => fI H15050 q24 k) (fun k => fI H15050 iq k) (8908) (1) (6) := EQ.wr (EQ.congr (w1 := fun k => fI H15039 iq k) (fun j => fI_kept (x_lt hTH15039 kH15050 gq24 (by decide))) (fun _ => rfl) by15044_e24) m15058 (fun j hj => by omega)
        have b15080 : EQ (fun k => fI H15050 q27 k) (fun k => fI H15050 iq k) (8916) (7) (96) := EQ.wr (EQ.congr (w1 := fun k => fI H15039 iq k) (fun j => fI_kept (x_lt hTH15039 kH15050 gq27 (by decide))) (fun _ => rfl) by15044_e27) m15058 (fun j hj => by omega)
        have b15081 : EQ (fun k => fI H15050 q29 k) (fun k => fI H15050 iq k) (8918) (7) (96) := EQ.wr (EQ.congr (w1 := fun k => fI H15039 iq k) (fun j => fI_kept (x_lt hTH15039 kH15050 gq29 (by decide))) (fun _ => rfl) by15044_e29) m15058 (fun j hj => by omega)
        have b15082 : EQ (fun k => fI H15050 q30 k) (fun k => fI H15050 iq k) (8919) (7) (96) := EQ.wr (EQ.congr (w1 := fun k => fI H15039 iq k) (fun j => fI_kept (x_lt hTH15039 kH15050 gq30 (by decide))) (fun _ => rfl) by15044_e30) m15058 (fun j hj => by omega)
        have b15083 : EQ (fun k => fI H15050 q31 k) (fun k => fI H15050 iq k) (8920) (7) (96) := EQ.wr (EQ.congr (w1 := fun k => fI H15039 iq k) (fun j => fI_kept (x_lt hTH15039 kH15050 gq31 (by decide))) (fun _ => rfl) by15044_e31) m15058 (fun j hj => by omega)
        have b15084 : EQ (fun k => fI H15050 q32 k) (fun k => fI H15050 iq k) (9586) (2) (x15042.toNatClampNeg) := EQ.wr (EQ.congr (w1 := fun k => fI H15039 iq k) (fun j => fI_kept (x_lt hTH15039 kH15050 gq32 (by decide))) (fun _ => rfl) by15044_e32) m15058 (fun j hj => by omega)
        have b15085 : EQ (fun k => fI H15050 q33 k) (fun k => fI H15050 iq k) (9587) (2) (x15042.toNatClampNeg) := EQ.wr (EQ.congr (w1 := fun k => fI H15039 iq k) (fun j => fI_kept (x_lt hTH15039 kH15050 gq33 (by decide))) (fun _ => rfl) by15044_e33) m15058 (fun j hj => by omega)
        clear by15044_e24 by15044_e27 by15044_e29 by15044_e30 by15044_e31 by15044_e32 by15044_e33 by15044_fb by15044_u24 by15044_u29 by15044_u30 by15044_u31 by15044_u32 by15044_u33 by15044_ui cy15044_0 cy15044_1 cy15044_2 cy15044_3 cy15044_4 cy15044_5 cy15044_6 cy15044_7 cy15044_8 ex15043 ex15049
        clear m15058 m15059
        refine W.eq (g2 := F0 m 180 ls15040 [.int x15051, .int x15042, .ref q32]) rfl ?_
        refine x_iast C hTH15050 hSH15050 gq32 rg_136 (by omega) (by show _ < ((3500 : Nat) : Int); omega) ⟨by have := i_rng x15051; omega, by have := i_rng x15051; omega⟩ (AE_in gq32 (by decide)) dX10_keepsTexts_180 (fun H15086 locsH15086 hTH15086 hSH15086 wH15086 => ?_)
        have mf15087 : MF K s.heap H15086 a0 [72] := MF.arr wH15086 (G_ne ga0 gq32 (by decide)) mf15076
        have g15088 : WD (avw K H15086 a0) := WD.congr (fun k hk j => av_arr hTH15050 ga0 wH15086 gq32 (by decide) (WD_ok 136 (by decide) k hk)) g15054
        have b15089 : UN (tk.toInt ≠ 0) (fun k => fI H15086 q24 k) (fun k => fI s.heap q24 k) := UN.congr (fun j => Wr.neI wH15086 (Or.inl (G_ne gq24 gq32 (by decide)))) b15060
        have b15090 : UN (tk.toInt ≠ 0) (fun k => fI H15086 q29 k) (fun k => fI s.heap q29 k) := UN.congr (fun j => Wr.neI wH15086 (Or.inl (G_ne gq29 gq32 (by decide)))) b15061
        have b15091 : UN (tk.toInt ≠ 0) (fun k => fI H15086 q30 k) (fun k => fI s.heap q30 k) := UN.congr (fun j => Wr.neI wH15086 (Or.inl (G_ne gq30 gq32 (by decide)))) b15062
        have b15092 : UN (tk.toInt ≠ 0) (fun k => fI H15086 q31 k) (fun k => fI s.heap q31 k) := UN.congr (fun j => Wr.neI wH15086 (Or.inl (G_ne gq31 gq32 (by decide)))) b15063
        have b15093 : UN (tk.toInt ≠ 0) (fun k => fI H15086 q32 k) (fun k => fI s.heap q32 k) := UN.st b15064 (i := x15042.toNatClampNeg) (fun hc => (m15057 hc).trans m15066) (Wr.I wH15086) (fun j hj => Wr.neI wH15086 (Or.inr hj))
        have b15094 : UN (tk.toInt ≠ 0) (fun k => fI H15086 q33 k) (fun k => fI s.heap q33 k) := UN.congr (fun j => Wr.neI wH15086 (Or.inl (G_ne gq33 gq32 (by decide)))) b15065
        have b15095 : UN (tk.toInt = 0) (fun k => fI H15086 iq k) (fun k => fI s.heap iq k) := UN.congr (fun j => Wr.neI wH15086 (Or.inl (G_ne giq gq32 (by decide)))) b15077
        have b15096 : FB (fun k => fI H15086 iq k) (fun k => fI s.heap iq k) (8908) := FB.congr (fun j => Wr.neI wH15086 (Or.inl (G_ne giq gq32 (by decide)))) b15078
        have b15097 : EQ (fun k => fI H15086 q24 k) (fun k => fI H15086 iq k) (8908) (1) (6) := EQ.congr (fun j => Wr.neI wH15086 (Or.inl (G_ne gq24 gq32 (by decide)))) (fun j => Wr.neI wH15086 (Or.inl (G_ne giq gq32 (by decide)))) b15079
        have b15098 : EQ (fun k => fI H15086 q27 k) (fun k => fI H15086 iq k) (8916) (7) (96) := EQ.congr (fun j => Wr.neI wH15086 (Or.inl (G_ne gq27 gq32 (by decide)))) (fun j => Wr.neI wH15086 (Or.inl (G_ne giq gq32 (by decide)))) b15080
        have b15099 : EQ (fun k => fI H15086 q29 k) (fun k => fI H15086 iq k) (8918) (7) (96) := EQ.congr (fun j => Wr.neI wH15086 (Or.inl (G_ne gq29 gq32 (by decide)))) (fun j => Wr.neI wH15086 (Or.inl (G_ne giq gq32 (by decide)))) b15081
        have b15100 : EQ (fun k => fI H15086 q30 k) (fun k => fI H15086 iq k) (8919) (7) (96) := EQ.congr (fun j => Wr.neI wH15086 (Or.inl (G_ne gq30 gq32 (by decide)))) (fun j => Wr.neI wH15086 (Or.inl (G_ne giq gq32 (by decide)))) b15082
        have b15101 : EQ (fun k => fI H15086 q31 k) (fun k => fI H15086 iq k) (8920) (7) (96) := EQ.congr (fun j => Wr.neI wH15086 (Or.inl (G_ne gq31 gq32 (by decide)))) (fun j => Wr.neI wH15086 (Or.inl (G_ne giq gq32 (by decide)))) b15083
        have b15102 : EQ (fun k => fI H15086 q32 k) (fun k => fI H15086 iq k) (9586) (2) (x15042.toNatClampNeg + 1) := EQ.st b15084 (i := x15042.toNatClampNeg) (t := x15043.toNatClampNeg) (by omega) m15056 (by omega) (Wr.I wH15086) (fun j hj => Wr.neI wH15086 (Or.inr hj)) (fun j => Wr.neI wH15086 (Or.inl (G_ne giq gq32 (by decide))))
        have b15103 : EQ (fun k => fI H15086 q33 k) (fun k => fI H15086 iq k) (9587) (2) (x15042.toNatClampNeg) := EQ.congr (fun j => Wr.neI wH15086 (Or.inl (G_ne gq33 gq32 (by decide)))) (fun j => Wr.neI wH15086 (Or.inl (G_ne giq gq32 (by decide)))) b15085
        have m15105 := m15053.trans (Wr.neR wH15086 (Or.inl (G_ne ga0 gq32 (by decide)))).symm
        have m15106 := m15068.trans (Wr.neR wH15086 (Or.inl (G_ne ga0 gq32 (by decide)))).symm
        have m15107 := m15069.trans (Wr.neR wH15086 (Or.inl (G_ne ga0 gq32 (by decide)))).symm
        have m15108 := m15070.trans (Wr.neR wH15086 (Or.inl (G_ne ga0 gq32 (by decide)))).symm
        have m15109 := m15071.trans (Wr.neR wH15086 (Or.inl (G_ne ga0 gq32 (by decide)))).symm
        have m15110 := m15072.trans (Wr.neR wH15086 (Or.inl (G_ne ga0 gq32 (by decide)))).symm
        have m15111 := m15073.trans (Wr.neR wH15086 (Or.inl (G_ne ga0 gq32 (by decide)))).symm
        have m15112 := m15074.trans (Wr.neR wH15086 (Or.inl (G_ne ga0 gq32 (by decide)))).symm
        have m15113 := m15075.trans (Wr.neI wH15086 (Or.inl (G_ne ga0 gq32 (by decide)))).symm
        have m15114 := ex15052.trans (Wr.neI wH15086 (Or.inl (G_ne ga0 gq32 (by decide)))).symm
        have m15115 := Wr.I wH15086
        have m15115 := m15115.symm
        clear b15060 b15061 b15062 b15063 b15064 b15065 b15077 b15078 b15079 b15080 b15081 b15082 b15083 b15084 b15085 ex15052 g15054 hTH15050 m15053 m15066 m15068 m15069 m15070 m15071 m15072 m15073 m15074 m15075 mf15076
        refine lv_aload_n hx hb dX10_keepsTexts_181 rfl (lv_at hl15041 0 rfl) ?_
        refine x_gr C hTH15086 (ci := 10) (k := 33) rfl inX10 (by decide) wF_X10_86 ga0 rg_112 rfl dX10_keepsTexts_182 (fun q15116 eq15116 gq15116 => ?_)
        have uq15116 : q33 = q15116 := (m15112).trans eq15116.symm
        subst uq15116
        clear eq15116
        refine lv_iload_n hx hb dX10_keepsTexts_185 rfl (lv_at hl15041 1 rfl) ?_
        refine lv_aload_n hx hb dX10_keepsTexts_186 rfl (lv_at hl15041 0 rfl) ?_
        refine lv_aload_n hx hb dX10_keepsTexts_187 rfl (lv_at hl15041 0 rfl) ?_
        refine x_gr C hTH15086 (ci := 10) (k := 33) rfl inX10 (by decide) wF_X10_86 ga0 rg_112 rfl dX10_keepsTexts_188 (fun q15117 eq15117 gq15117 => ?_)
        have uq15117 : q33 = q15117 := (m15112).trans eq15117.symm
        subst uq15117
        clear eq15117
        refine lv_iload_n hx hb dX10_keepsTexts_191 rfl (lv_at hl15041 1 rfl) ?_
        refine x_ai C hTH15086 gq33 rg_137 ⟨by omega, by show _ < ((3500 : Nat) : Int); omega⟩ dX10_keepsTexts_192 (fun x15118 ex15118 bx15118 => ?_)
        refine x_V (As := [.int x15118]) (rest := [.int x15042, .ref q33]) C (a_X10_kept l K G H15086 (x15118) (x15052) (tk) hTH15086 ga0 giq m15105 m15114 m15113 g15088 (by and_intros <;> first | assumption | omega)) yo_X10_kept wM_X10_473 ⟨⟨by decide, by decide⟩, by decide, by decide⟩ (x_rv C hTH15086 (ci := 10) rfl ga0 rg_112) rfl hl15041.1 rfl (Nat.le_of_ble_eq_true rfl) dX10_keepsTexts_193 hSH15086 (AE_sub (fun _ _ => rfl) (by decide) hSH15086.1) (fun vH15119 H15119 locsH15119 pH15119 zH15119 kH15119 hSH15119 => ?_)
        obtain ⟨x15120, x15121, hvH15119, ex15121, hrH15119, m15122, g15123, mf15124, m15125, m15126, m15127, m15128, hTH15119⟩ := pH15119
        subst hvH15119
        clear zH15119
        replace m15122 := EQN.mk m15122
        have b15129 : UN (tk.toInt ≠ 0) (fun k => fI H15119 q24 k) (fun k => fI s.heap q24 k) := UN.congr (fun j => fI_kept (x_lt hTH15086 kH15119 gq24 (by decide))) b15089
        have b15130 : UN (tk.toInt ≠ 0) (fun k => fI H15119 q29 k) (fun k => fI s.heap q29 k) := UN.congr (fun j => fI_kept (x_lt hTH15086 kH15119 gq29 (by decide))) b15090
        have b15131 : UN (tk.toInt ≠ 0) (fun k => fI H15119 q30 k) (fun k => fI s.heap q30 k) := UN.congr (fun j => fI_kept (x_lt hTH15086 kH15119 gq30 (by decide))) b15091
        have b15132 : UN (tk.toInt ≠ 0) (fun k => fI H15119 q31 k) (fun k => fI s.heap q31 k) := UN.congr (fun j => fI_kept (x_lt hTH15086 kH15119 gq31 (by decide))) b15092
        have b15133 : UN (tk.toInt ≠ 0) (fun k => fI H15119 q32 k) (fun k => fI s.heap q32 k) := UN.congr (fun j => fI_kept (x_lt hTH15086 kH15119 gq32 (by decide))) b15093
        have b15134 : UN (tk.toInt ≠ 0) (fun k => fI H15119 q33 k) (fun k => fI s.heap q33 k) := UN.congr (fun j => fI_kept (x_lt hTH15086 kH15119 gq33 (by decide))) b15094
        have m15135 := (m15115).trans (fI_kept (x_lt hTH15086 kH15119 gq32 (by decide))).symm
        have m15136 := (ex15118).trans (fI_kept (x_lt hTH15086 kH15119 gq33 (by decide))).symm
        have m15137 := (m15105).trans (MF.r mf15124 (k := 73) (by decide) (by decide)).symm
        have m15138 := (m15106).trans (MF.r mf15124 (k := 24) (by decide) (by decide)).symm
        have m15139 := (m15107).trans (MF.r mf15124 (k := 27) (by decide) (by decide)).symm
        have m15140 := (m15108).trans (MF.r mf15124 (k := 29) (by decide) (by decide)).symm
        have m15141 := (m15109).trans (MF.r mf15124 (k := 30) (by decide) (by decide)).symm
        have m15142 := (m15110).trans (MF.r mf15124 (k := 31) (by decide) (by decide)).symm
        have m15143 := (m15111).trans (MF.r mf15124 (k := 32) (by decide) (by decide)).symm
        have m15144 := (m15112).trans (MF.r mf15124 (k := 33) (by decide) (by decide)).symm
        have m15145 := (m15113).trans (MF.i mf15124 (k := 71) (by decide) (by decide)).symm
        have mf15146 : MF K s.heap H15119 a0 [72] := MF.trans mf15087 mf15124 (by decide)
        have bx15121 := ty_fi (x := x15121) (k := 72) ex15121 hTH15119 ga0 rg_112 rfl
        have ce_x15052 := i_cl (x := x15052) (by omega)
        have b15147 : UN (tk.toInt = 0) (fun k => fI H15119 iq k) (fun k => fI s.heap iq k) := UN.tr m15128 b15095
        have b15148 : FB (fun k => fI H15119 iq k) (fun k => fI s.heap iq k) (8908) := FB.wr b15096 m15127 (fun j hj => by omega)
        have b15149 : EQ (fun k => fI H15119 q24 k) (fun k => fI H15119 iq k) (8908) (1) (6) := EQ.wr (EQ.congr (w1 := fun k => fI H15086 iq k) (fun j => fI_kept (x_lt hTH15086 kH15119 gq24 (by decide))) (fun _ => rfl) b15097) m15127 (fun j hj => by omega)
        have b15150 : EQ (fun k => fI H15119 q27 k) (fun k => fI H15119 iq k) (8916) (7) (96) := EQ.wr (EQ.congr (w1 := fun k => fI H15086 iq k) (fun j => fI_kept (x_lt hTH15086 kH15119 gq27 (by decide))) (fun _ => rfl) b15098) m15127 (fun j hj => by omega)
        have b15151 : EQ (fun k => fI H15119 q29 k) (fun k => fI H15119 iq k) (8918) (7) (96) := EQ.wr (EQ.congr (w1 := fun k => fI H15086 iq k) (fun j => fI_kept (x_lt hTH15086 kH15119 gq29 (by decide))) (fun _ => rfl) b15099) m15127 (fun j hj => by omega)
        have b15152 : EQ (fun k => fI H15119 q30 k) (fun k => fI H15119 iq k) (8919) (7) (96) := EQ.wr (EQ.congr (w1 := fun k => fI H15086 iq k) (fun j => fI_kept (x_lt hTH15086 kH15119 gq30 (by decide))) (fun _ => rfl) b15100) m15127 (fun j hj => by omega)
        have b15153 : EQ (fun k => fI H15119 q31 k) (fun k => fI H15119 iq k) (8920) (7) (96) := EQ.wr (EQ.congr (w1 := fun k => fI H15086 iq k) (fun j => fI_kept (x_lt hTH15086 kH15119 gq31 (by decide))) (fun _ => rfl) b15101) m15127 (fun j hj => by omega)
        have b15154 : EQ (fun k => fI H15119 q32 k) (fun k => fI H15119 iq k) (9586) (2) (x15042.toNatClampNeg + 1) := EQ.wr (EQ.congr (w1 := fun k => fI H15086 iq k) (fun j => fI_kept (x_lt hTH15086 kH15119 gq32 (by decide))) (fun _ => rfl) b15102) m15127 (fun j hj => by omega)
        have b15155 : EQ (fun k => fI H15119 q33 k) (fun k => fI H15119 iq k) (9587) (2) (x15042.toNatClampNeg) := EQ.wr (EQ.congr (w1 := fun k => fI H15086 iq k) (fun j => fI_kept (x_lt hTH15086 kH15119 gq33 (by decide))) (fun _ => rfl) b15103) m15127 (fun j hj => by omega)
        clear b15089 b15090 b15091 b15092 b15093 b15094 b15095 b15096 b15097 b15098 b15099 b15100 b15101 b15102 b15103 ex15118 m15105 m15106 m15107 m15108 m15109 m15110 m15111 m15112 m15113 m15114 m15115
        clear m15127 m15128
        refine W.eq (g2 := F0 m 196 ls15040 [.int x15120, .int x15042, .ref q33]) rfl ?_
        refine x_iast C hTH15119 hSH15119 gq33 rg_137 (by omega) (by show _ < ((3500 : Nat) : Int); omega) ⟨by have := i_rng x15120; omega, by have := i_rng x15120; omega⟩ (AE_in gq33 (by decide)) dX10_keepsTexts_196 (fun H15156 locsH15156 hTH15156 hSH15156 wH15156 => ?_)
        have mf15157 : MF K s.heap H15156 a0 [72] := MF.arr wH15156 (G_ne ga0 gq33 (by decide)) mf15146
        have g15158 : WD (avw K H15156 a0) := WD.congr (fun k hk j => av_arr hTH15119 ga0 wH15156 gq33 (by decide) (WD_ok 137 (by decide) k hk)) g15123
        have b15159 : UN (tk.toInt ≠ 0) (fun k => fI H15156 q24 k) (fun k => fI s.heap q24 k) := UN.congr (fun j => Wr.neI wH15156 (Or.inl (G_ne gq24 gq33 (by decide)))) b15129
        have b15160 : UN (tk.toInt ≠ 0) (fun k => fI H15156 q29 k) (fun k => fI s.heap q29 k) := UN.congr (fun j => Wr.neI wH15156 (Or.inl (G_ne gq29 gq33 (by decide)))) b15130
        have b15161 : UN (tk.toInt ≠ 0) (fun k => fI H15156 q30 k) (fun k => fI s.heap q30 k) := UN.congr (fun j => Wr.neI wH15156 (Or.inl (G_ne gq30 gq33 (by decide)))) b15131
        have b15162 : UN (tk.toInt ≠ 0) (fun k => fI H15156 q31 k) (fun k => fI s.heap q31 k) := UN.congr (fun j => Wr.neI wH15156 (Or.inl (G_ne gq31 gq33 (by decide)))) b15132
        have b15163 : UN (tk.toInt ≠ 0) (fun k => fI H15156 q32 k) (fun k => fI s.heap q32 k) := UN.congr (fun j => Wr.neI wH15156 (Or.inl (G_ne gq32 gq33 (by decide)))) b15133
        have b15164 : UN (tk.toInt ≠ 0) (fun k => fI H15156 q33 k) (fun k => fI s.heap q33 k) := UN.st b15134 (i := x15042.toNatClampNeg) (fun hc => (m15126 hc).trans m15136) (Wr.I wH15156) (fun j hj => Wr.neI wH15156 (Or.inr hj))
        have b15165 : UN (tk.toInt = 0) (fun k => fI H15156 iq k) (fun k => fI s.heap iq k) := UN.congr (fun j => Wr.neI wH15156 (Or.inl (G_ne giq gq33 (by decide)))) b15147
        have b15166 : FB (fun k => fI H15156 iq k) (fun k => fI s.heap iq k) (8908) := FB.congr (fun j => Wr.neI wH15156 (Or.inl (G_ne giq gq33 (by decide)))) b15148
        have b15167 : EQ (fun k => fI H15156 q24 k) (fun k => fI H15156 iq k) (8908) (1) (6) := EQ.congr (fun j => Wr.neI wH15156 (Or.inl (G_ne gq24 gq33 (by decide)))) (fun j => Wr.neI wH15156 (Or.inl (G_ne giq gq33 (by decide)))) b15149
        have b15168 : EQ (fun k => fI H15156 q27 k) (fun k => fI H15156 iq k) (8916) (7) (96) := EQ.congr (fun j => Wr.neI wH15156 (Or.inl (G_ne gq27 gq33 (by decide)))) (fun j => Wr.neI wH15156 (Or.inl (G_ne giq gq33 (by decide)))) b15150
        have b15169 : EQ (fun k => fI H15156 q29 k) (fun k => fI H15156 iq k) (8918) (7) (96) := EQ.congr (fun j => Wr.neI wH15156 (Or.inl (G_ne gq29 gq33 (by decide)))) (fun j => Wr.neI wH15156 (Or.inl (G_ne giq gq33 (by decide)))) b15151
        have b15170 : EQ (fun k => fI H15156 q30 k) (fun k => fI H15156 iq k) (8919) (7) (96) := EQ.congr (fun j => Wr.neI wH15156 (Or.inl (G_ne gq30 gq33 (by decide)))) (fun j => Wr.neI wH15156 (Or.inl (G_ne giq gq33 (by decide)))) b15152
        have b15171 : EQ (fun k => fI H15156 q31 k) (fun k => fI H15156 iq k) (8920) (7) (96) := EQ.congr (fun j => Wr.neI wH15156 (Or.inl (G_ne gq31 gq33 (by decide)))) (fun j => Wr.neI wH15156 (Or.inl (G_ne giq gq33 (by decide)))) b15153
        have b15172 : EQ (fun k => fI H15156 q32 k) (fun k => fI H15156 iq k) (9586) (2) (x15042.toNatClampNeg + 1) := EQ.congr (fun j => Wr.neI wH15156 (Or.inl (G_ne gq32 gq33 (by decide)))) (fun j => Wr.neI wH15156 (Or.inl (G_ne giq gq33 (by decide)))) b15154
        have b15173 : EQ (fun k => fI H15156 q33 k) (fun k => fI H15156 iq k) (9587) (2) (x15042.toNatClampNeg + 1) := EQ.st b15155 (i := x15042.toNatClampNeg) (t := x15052.toNatClampNeg) (by omega) m15125 (by omega) (Wr.I wH15156) (fun j hj => Wr.neI wH15156 (Or.inr hj)) (fun j => Wr.neI wH15156 (Or.inl (G_ne giq gq33 (by decide))))
        have m15174 := m15135.trans (Wr.neI wH15156 (Or.inl (G_ne gq32 gq33 (by decide)))).symm
        have m15176 := m15122.trans (Wr.neR wH15156 (Or.inl (G_ne ga0 gq33 (by decide)))).symm
        have m15177 := m15138.trans (Wr.neR wH15156 (Or.inl (G_ne ga0 gq33 (by decide)))).symm
        have m15178 := m15139.trans (Wr.neR wH15156 (Or.inl (G_ne ga0 gq33 (by decide)))).symm
        have m15179 := m15140.trans (Wr.neR wH15156 (Or.inl (G_ne ga0 gq33 (by decide)))).symm
        have m15180 := m15141.trans (Wr.neR wH15156 (Or.inl (G_ne ga0 gq33 (by decide)))).symm
        have m15181 := m15142.trans (Wr.neR wH15156 (Or.inl (G_ne ga0 gq33 (by decide)))).symm
        have m15182 := m15143.trans (Wr.neR wH15156 (Or.inl (G_ne ga0 gq33 (by decide)))).symm
        have m15183 := m15144.trans (Wr.neR wH15156 (Or.inl (G_ne ga0 gq33 (by decide)))).symm
        have m15184 := m15145.trans (Wr.neI wH15156 (Or.inl (G_ne ga0 gq33 (by decide)))).symm
        have m15185 := ex15121.trans (Wr.neI wH15156 (Or.inl (G_ne ga0 gq33 (by decide)))).symm
        have m15186 := Wr.I wH15156
        have m15186 := m15186.symm
        clear b15129 b15130 b15131 b15132 b15133 b15134 b15147 b15148 b15149 b15150 b15151 b15152 b15153 b15154 b15155 ex15121 g15123 hTH15119 m15122 m15135 m15136 m15138 m15139 m15140 m15141 m15142 m15143 m15144 m15145 mf15146
        obtain ⟨x15187, ex15187⟩ : ∃ y : Int32, y = x15042 + 1 := ⟨_, rfl⟩
        have tx15187 := i_add ex15187 (by omega)
        refine lv_iinc (v := x15187) (lv' := [(1, .int x15187), (0, .ref a0)]) hx hb dX10_keepsTexts_197 hl15041 (k := 1) rfl (by rw [ex15187]; rfl) (by decide) rfl (fun ls15188 hl15189 => ?_)
        refine lv_goto (tgt := 158) hx hb dX10_keepsTexts_200 (by decide) ?_
        have cl_x15187 := i_cl (x := x15187) (by omega)
        exact ih158 ls15188 H15156 locsH15156 (x15187) (x15121) (lv_sub hl15189 [1, 0] rfl) hTH15156 hSH15156 ⟨by have := i_rng x15187; omega, by have := i_rng x15187; omega⟩ ⟨by have := i_rng x15121; omega, by have := i_rng x15121; omega⟩ m15185 m15176 m15177 m15178 m15179 m15180 m15181 m15182 m15183 m15184 b15165 b15166 (EQ.cast b15167 (by omega)) (EQ.cast b15168 (by omega)) (EQ.cast b15169 (by omega)) (EQ.cast b15170 (by omega)) (EQ.cast b15171 (by omega)) (EQ.cast b15172 (by omega)) (EQ.cast b15173 (by omega)) b15159 b15160 b15161 b15162 b15163 b15164 mf15157 g15158 (by omega) (by and_intros <;> first | assumption | omega)
  have J32 : ∀ (nf : Nat) (ls15191 : Array Slot) (H15190 : Heap) (locsH15190 : List Loc) (x15193 : Int32) (x15194 : Int32), lv_has ls15191 2 [(0, .ref a0), (1, .int x15193)] → TY K G H15190 → va_S (AE G [112, 162, 128, 129, 130, 131, 132, 133, 134, 135, 136, 137] s.heap.size) s.heap H15190 locsH15190 → (0 ≤ x15193.toInt ∧ x15193.toInt ≤ 96) → (0 ≤ x15194.toInt ∧ x15194.toInt ≤ 16400) → (x15194 = fI H15190 a0 (K.1.2 10 72)) → (EQN iq (fR H15190 a0 (K.1.2 10 73))) → (EQN q24 (fR H15190 a0 (K.1.2 10 24))) → (EQN q27 (fR H15190 a0 (K.1.2 10 27))) → (EQN q29 (fR H15190 a0 (K.1.2 10 29))) → (EQN q30 (fR H15190 a0 (K.1.2 10 30))) → (EQN q31 (fR H15190 a0 (K.1.2 10 31))) → (EQN q32 (fR H15190 a0 (K.1.2 10 32))) → (EQN q33 (fR H15190 a0 (K.1.2 10 33))) → (tk = fI H15190 a0 (K.1.2 10 71)) → (UN (tk.toInt = 0) (fun k => fI H15190 iq k) (fun k => fI s.heap iq k)) → (FB (fun k => fI H15190 iq k) (fun k => fI s.heap iq k) (8908)) → (EQ (fun k => fI H15190 q24 k) (fun k => fI H15190 iq k) (8908) (1) (6)) → (EQ (fun k => fI H15190 q27 k) (fun k => fI H15190 iq k) (8916) (7) (x15193.toNatClampNeg)) → (EQ (fun k => fI H15190 q29 k) (fun k => fI H15190 iq k) (8918) (7) (x15193.toNatClampNeg)) → (EQ (fun k => fI H15190 q30 k) (fun k => fI H15190 iq k) (8919) (7) (x15193.toNatClampNeg)) → (EQ (fun k => fI H15190 q31 k) (fun k => fI H15190 iq k) (8920) (7) (x15193.toNatClampNeg)) → (EQ (fun k => fI H15190 q32 k) (fun k => fI H15190 iq k) (9586) (2) (0)) → (EQ (fun k => fI H15190 q33 k) (fun k => fI H15190 iq k) (9587) (2) (0)) → (UN (tk.toInt ≠ 0) (fun k => fI H15190 q24 k) (fun k => fI s.heap q24 k)) → (UN (tk.toInt ≠ 0) (fun k => fI H15190 q29 k) (fun k => fI s.heap q29 k)) → (UN (tk.toInt ≠ 0) (fun k => fI H15190 q30 k) (fun k => fI s.heap q30 k)) → (UN (tk.toInt ≠ 0) (fun k => fI H15190 q31 k) (fun k => fI s.heap q31 k)) → (UN (tk.toInt ≠ 0) (fun k => fI H15190 q32 k) (fun k => fI s.heap q32 k)) → (UN (tk.toInt ≠ 0) (fun k => fI H15190 q33 k) (fun k => fI s.heap q33 k)) → (MF K s.heap H15190 a0 [72]) → (WD (avw K H15190 a0)) → (96 - x15193.toInt < (nf : Int)) → (x15194.toInt = 8914 + 7 * x15193.toInt) → W p l e ({ frames := 1, cells := 0, slots := 0, locals := 21 } : Room) s m (([.ref a0] : List Value).toArray) below meth c H15190 locsH15190 0 0 Q (F0 m 32 ls15191 []) := by
    intro nf
    induction nf with
    | zero =>
      intro ls15191 H15190 locsH15190 x15193 x15194 hl15192 hTH15190 hSH15190 bx15193 bx15194 ex15194 cy15195_0 cy15195_1 cy15195_2 cy15195_3 cy15195_4 cy15195_5 cy15195_6 cy15195_7 cy15195_8 by15195_ui by15195_fb by15195_e24 by15195_e27 by15195_e29 by15195_e30 by15195_e31 by15195_e32 by15195_e33 by15195_u24 by15195_u29 by15195_u30 by15195_u31 by15195_u32 by15195_u33 mfy15195 gy15195_WD hm32 iv32
      exfalso
      omega
    | succ nf ih32 =>
      intro ls15191 H15190 locsH15190 x15193 x15194 hl15192 hTH15190 hSH15190 bx15193 bx15194 ex15194 cy15195_0 cy15195_1 cy15195_2 cy15195_3 cy15195_4 cy15195_5 cy15195_6 cy15195_7 cy15195_8 by15195_ui by15195_fb by15195_e24 by15195_e27 by15195_e29 by15195_e30 by15195_e31 by15195_e32 by15195_e33 by15195_u24 by15195_u29 by15195_u30 by15195_u31 by15195_u32 by15195_u33 mfy15195 gy15195_WD hm32 iv32
      refine lv_iload_n hx hb dX10_keepsTexts_32 rfl (lv_at hl15192 1 rfl) ?_
      refine lv_bipush (v := 96) hx hb dX10_keepsTexts_33 (by decide) ?_
      refine lv_icmp_ge (tgt := 156) hx hb dX10_keepsTexts_35 (by decide) (fun c15196 => ?_) (fun c15196 => ?_)
      · have k15197 := i_le c15196
        refine lv_iconst (v := 0) hx hb dX10_keepsTexts_156 (by decide) ?_
        refine lv_istore_n (lv' := [(1, .int 0), (0, .ref a0)]) hx hb dX10_keepsTexts_157 rfl hl15192 (by decide) rfl (fun ls15198 hl15199 => ?_)
        have cl00 : (0 : Int32).toNatClampNeg = 0 := rfl
        have cl_x15193 := i_cl (x := x15193) (by omega)
        exact J158 ((3000 - (0 : Int32).toInt).toNat + 1) ls15198 H15190 locsH15190 (0) (x15194) (lv_sub hl15199 [1, 0] rfl) hTH15190 hSH15190 (by decide) ⟨by have := i_rng x15194; omega, by have := i_rng x15194; omega⟩ ex15194 cy15195_0 cy15195_1 cy15195_2 cy15195_3 cy15195_4 cy15195_5 cy15195_6 cy15195_7 cy15195_8 by15195_ui by15195_fb (EQ.cast by15195_e24 (by omega)) (EQ.cast by15195_e27 (by omega)) (EQ.cast by15195_e29 (by omega)) (EQ.cast by15195_e30 (by omega)) (EQ.cast by15195_e31 (by omega)) (EQ.cast by15195_e32 (by omega)) (EQ.cast by15195_e33 (by omega)) by15195_u24 by15195_u29 by15195_u30 by15195_u31 by15195_u32 by15195_u33 mfy15195 gy15195_WD (by omega) (by and_intros <;> first | assumption | omega)
      · have k15197 := i_nle c15196
        refine lv_aload_n hx hb dX10_keepsTexts_38 rfl (lv_at hl15192 0 rfl) ?_
        refine x_gr C hTH15190 (ci := 10) (k := 25) rfl inX10 (by decide) wF_X10_62 ga0 rg_112 rfl dX10_keepsTexts_39 (fun q15200 eq15200 gq15200 => ?_)
        replace eq15200 := EQN.mk eq15200
        refine lv_iload_n hx hb dX10_keepsTexts_42 rfl (lv_at hl15192 1 rfl) ?_
        refine lv_aload_n hx hb dX10_keepsTexts_43 rfl (lv_at hl15192 0 rfl) ?_
        refine lv_aload_n hx hb dX10_keepsTexts_44 rfl (lv_at hl15192 0 rfl) ?_
        refine x_gr C hTH15190 (ci := 10) (k := 25) rfl inX10 (by decide) wF_X10_62 ga0 rg_112 rfl dX10_keepsTexts_45 (fun q15201 eq15201 gq15201 => ?_)
        have uq15201 : q15200 = q15201 := (eq15200).trans eq15201.symm
        subst uq15201
        clear eq15201
        refine lv_iload_n hx hb dX10_keepsTexts_48 rfl (lv_at hl15192 1 rfl) ?_
        refine x_ai C hTH15190 gq15200 rg_129 ⟨by omega, by show _ < ((112 : Nat) : Int); omega⟩ dX10_keepsTexts_49 (fun x15202 ex15202 bx15202 => ?_)
        refine x_V (As := [.int x15202]) (rest := [.int x15193, .ref q15200]) C (a_X10_kept l K G H15190 (x15202) (x15194) (tk) hTH15190 ga0 giq cy15195_0 ex15194 cy15195_8 gy15195_WD (by and_intros <;> first | assumption | omega)) yo_X10_kept wM_X10_473 ⟨⟨by decide, by decide⟩, by decide, by decide⟩ (x_rv C hTH15190 (ci := 10) rfl ga0 rg_112) rfl hl15192.1 rfl (Nat.le_of_ble_eq_true rfl) dX10_keepsTexts_50 hSH15190 (AE_sub (fun _ _ => rfl) (by decide) hSH15190.1) (fun vH15203 H15203 locsH15203 pH15203 zH15203 kH15203 hSH15203 => ?_)
        obtain ⟨x15204, x15205, hvH15203, ex15205, hrH15203, m15206, g15207, mf15208, m15209, m15210, m15211, m15212, hTH15203⟩ := pH15203
        subst hvH15203
        clear zH15203
        replace m15206 := EQN.mk m15206
        have b15213 : UN (tk.toInt ≠ 0) (fun k => fI H15203 q24 k) (fun k => fI s.heap q24 k) := UN.congr (fun j => fI_kept (x_lt hTH15190 kH15203 gq24 (by decide))) by15195_u24
        have b15214 : UN (tk.toInt ≠ 0) (fun k => fI H15203 q29 k) (fun k => fI s.heap q29 k) := UN.congr (fun j => fI_kept (x_lt hTH15190 kH15203 gq29 (by decide))) by15195_u29
        have b15215 : UN (tk.toInt ≠ 0) (fun k => fI H15203 q30 k) (fun k => fI s.heap q30 k) := UN.congr (fun j => fI_kept (x_lt hTH15190 kH15203 gq30 (by decide))) by15195_u30
        have b15216 : UN (tk.toInt ≠ 0) (fun k => fI H15203 q31 k) (fun k => fI s.heap q31 k) := UN.congr (fun j => fI_kept (x_lt hTH15190 kH15203 gq31 (by decide))) by15195_u31
        have b15217 : UN (tk.toInt ≠ 0) (fun k => fI H15203 q32 k) (fun k => fI s.heap q32 k) := UN.congr (fun j => fI_kept (x_lt hTH15190 kH15203 gq32 (by decide))) by15195_u32
        have b15218 : UN (tk.toInt ≠ 0) (fun k => fI H15203 q33 k) (fun k => fI s.heap q33 k) := UN.congr (fun j => fI_kept (x_lt hTH15190 kH15203 gq33 (by decide))) by15195_u33
        have m15219 := (ex15202).trans (fI_kept (x_lt hTH15190 kH15203 gq15200 (by decide))).symm
        have m15220 := (cy15195_0).trans (MF.r mf15208 (k := 73) (by decide) (by decide)).symm
        have m15221 := (cy15195_1).trans (MF.r mf15208 (k := 24) (by decide) (by decide)).symm
        have m15222 := (cy15195_2).trans (MF.r mf15208 (k := 27) (by decide) (by decide)).symm
        have m15223 := (cy15195_3).trans (MF.r mf15208 (k := 29) (by decide) (by decide)).symm
        have m15224 := (cy15195_4).trans (MF.r mf15208 (k := 30) (by decide) (by decide)).symm
        have m15225 := (cy15195_5).trans (MF.r mf15208 (k := 31) (by decide) (by decide)).symm
        have m15226 := (cy15195_6).trans (MF.r mf15208 (k := 32) (by decide) (by decide)).symm
        have m15227 := (cy15195_7).trans (MF.r mf15208 (k := 33) (by decide) (by decide)).symm
        have m15228 := (cy15195_8).trans (MF.i mf15208 (k := 71) (by decide) (by decide)).symm
        have m15229 := (eq15200).trans (MF.r mf15208 (k := 25) (by decide) (by decide)).symm
        have mf15230 : MF K s.heap H15203 a0 [72] := MF.trans mfy15195 mf15208 (by decide)
        have bx15205 := ty_fi (x := x15205) (k := 72) ex15205 hTH15203 ga0 rg_112 rfl
        have ce_x15193 := i_cl (x := x15193) (by omega)
        have ce_x15194 := i_cl (x := x15194) (by omega)
        have b15231 : UN (tk.toInt = 0) (fun k => fI H15203 iq k) (fun k => fI s.heap iq k) := UN.tr m15212 by15195_ui
        have b15232 : FB (fun k => fI H15203 iq k) (fun k => fI s.heap iq k) (8908) := FB.wr by15195_fb m15211 (fun j hj => by omega)
        have b15233 : EQ (fun k => fI H15203 q24 k) (fun k => fI H15203 iq k) (8908) (1) (6) := EQ.wr (EQ.congr (w1 := fun k => fI H15190 iq k) (fun j => fI_kept (x_lt hTH15190 kH15203 gq24 (by decide))) (fun _ => rfl) by15195_e24) m15211 (fun j hj => by omega)
        have b15234 : EQ (fun k => fI H15203 q27 k) (fun k => fI H15203 iq k) (8916) (7) (x15193.toNatClampNeg) := EQ.wr (EQ.congr (w1 := fun k => fI H15190 iq k) (fun j => fI_kept (x_lt hTH15190 kH15203 gq27 (by decide))) (fun _ => rfl) by15195_e27) m15211 (fun j hj => by omega)
        have b15235 : EQ (fun k => fI H15203 q29 k) (fun k => fI H15203 iq k) (8918) (7) (x15193.toNatClampNeg) := EQ.wr (EQ.congr (w1 := fun k => fI H15190 iq k) (fun j => fI_kept (x_lt hTH15190 kH15203 gq29 (by decide))) (fun _ => rfl) by15195_e29) m15211 (fun j hj => by omega)
        have b15236 : EQ (fun k => fI H15203 q30 k) (fun k => fI H15203 iq k) (8919) (7) (x15193.toNatClampNeg) := EQ.wr (EQ.congr (w1 := fun k => fI H15190 iq k) (fun j => fI_kept (x_lt hTH15190 kH15203 gq30 (by decide))) (fun _ => rfl) by15195_e30) m15211 (fun j hj => by omega)
        have b15237 : EQ (fun k => fI H15203 q31 k) (fun k => fI H15203 iq k) (8920) (7) (x15193.toNatClampNeg) := EQ.wr (EQ.congr (w1 := fun k => fI H15190 iq k) (fun j => fI_kept (x_lt hTH15190 kH15203 gq31 (by decide))) (fun _ => rfl) by15195_e31) m15211 (fun j hj => by omega)
        have b15238 : EQ (fun k => fI H15203 q32 k) (fun k => fI H15203 iq k) (9586) (2) (0) := EQ.wr (EQ.congr (w1 := fun k => fI H15190 iq k) (fun j => fI_kept (x_lt hTH15190 kH15203 gq32 (by decide))) (fun _ => rfl) by15195_e32) m15211 (fun j hj => by omega)
        have b15239 : EQ (fun k => fI H15203 q33 k) (fun k => fI H15203 iq k) (9587) (2) (0) := EQ.wr (EQ.congr (w1 := fun k => fI H15190 iq k) (fun j => fI_kept (x_lt hTH15190 kH15203 gq33 (by decide))) (fun _ => rfl) by15195_e33) m15211 (fun j hj => by omega)
        clear by15195_e24 by15195_e27 by15195_e29 by15195_e30 by15195_e31 by15195_e32 by15195_e33 by15195_fb by15195_u24 by15195_u29 by15195_u30 by15195_u31 by15195_u32 by15195_u33 by15195_ui cy15195_0 cy15195_1 cy15195_2 cy15195_3 cy15195_4 cy15195_5 cy15195_6 cy15195_7 cy15195_8 eq15200 ex15194 ex15202
        clear m15211 m15212
        refine W.eq (g2 := F0 m 53 ls15191 [.int x15204, .int x15193, .ref q15200]) rfl ?_
        refine x_iast C hTH15203 hSH15203 gq15200 rg_129 (by omega) (by show _ < ((112 : Nat) : Int); omega) ⟨by have := i_rng x15204; omega, by have := i_rng x15204; omega⟩ (AE_in gq15200 (by decide)) dX10_keepsTexts_53 (fun H15240 locsH15240 hTH15240 hSH15240 wH15240 => ?_)
        have mf15241 : MF K s.heap H15240 a0 [72] := MF.arr wH15240 (G_ne ga0 gq15200 (by decide)) mf15230
        have g15242 : WD (avw K H15240 a0) := WD.congr (fun k hk j => av_arr hTH15203 ga0 wH15240 gq15200 (by decide) (WD_ok 129 (by decide) k hk)) g15207
        have b15243 : UN (tk.toInt ≠ 0) (fun k => fI H15240 q24 k) (fun k => fI s.heap q24 k) := UN.congr (fun j => Wr.neI wH15240 (Or.inl (G_ne gq24 gq15200 (by decide)))) b15213
        have b15244 : UN (tk.toInt ≠ 0) (fun k => fI H15240 q29 k) (fun k => fI s.heap q29 k) := UN.congr (fun j => Wr.neI wH15240 (Or.inl (G_ne gq29 gq15200 (by decide)))) b15214
        have b15245 : UN (tk.toInt ≠ 0) (fun k => fI H15240 q30 k) (fun k => fI s.heap q30 k) := UN.congr (fun j => Wr.neI wH15240 (Or.inl (G_ne gq30 gq15200 (by decide)))) b15215
        have b15246 : UN (tk.toInt ≠ 0) (fun k => fI H15240 q31 k) (fun k => fI s.heap q31 k) := UN.congr (fun j => Wr.neI wH15240 (Or.inl (G_ne gq31 gq15200 (by decide)))) b15216
        have b15247 : UN (tk.toInt ≠ 0) (fun k => fI H15240 q32 k) (fun k => fI s.heap q32 k) := UN.congr (fun j => Wr.neI wH15240 (Or.inl (G_ne gq32 gq15200 (by decide)))) b15217
        have b15248 : UN (tk.toInt ≠ 0) (fun k => fI H15240 q33 k) (fun k => fI s.heap q33 k) := UN.congr (fun j => Wr.neI wH15240 (Or.inl (G_ne gq33 gq15200 (by decide)))) b15218
        have b15249 : UN (tk.toInt = 0) (fun k => fI H15240 iq k) (fun k => fI s.heap iq k) := UN.congr (fun j => Wr.neI wH15240 (Or.inl (G_ne giq gq15200 (by decide)))) b15231
        have b15250 : FB (fun k => fI H15240 iq k) (fun k => fI s.heap iq k) (8908) := FB.congr (fun j => Wr.neI wH15240 (Or.inl (G_ne giq gq15200 (by decide)))) b15232
        have b15251 : EQ (fun k => fI H15240 q24 k) (fun k => fI H15240 iq k) (8908) (1) (6) := EQ.congr (fun j => Wr.neI wH15240 (Or.inl (G_ne gq24 gq15200 (by decide)))) (fun j => Wr.neI wH15240 (Or.inl (G_ne giq gq15200 (by decide)))) b15233
        have b15252 : EQ (fun k => fI H15240 q27 k) (fun k => fI H15240 iq k) (8916) (7) (x15193.toNatClampNeg) := EQ.congr (fun j => Wr.neI wH15240 (Or.inl (G_ne gq27 gq15200 (by decide)))) (fun j => Wr.neI wH15240 (Or.inl (G_ne giq gq15200 (by decide)))) b15234
        have b15253 : EQ (fun k => fI H15240 q29 k) (fun k => fI H15240 iq k) (8918) (7) (x15193.toNatClampNeg) := EQ.congr (fun j => Wr.neI wH15240 (Or.inl (G_ne gq29 gq15200 (by decide)))) (fun j => Wr.neI wH15240 (Or.inl (G_ne giq gq15200 (by decide)))) b15235
        have b15254 : EQ (fun k => fI H15240 q30 k) (fun k => fI H15240 iq k) (8919) (7) (x15193.toNatClampNeg) := EQ.congr (fun j => Wr.neI wH15240 (Or.inl (G_ne gq30 gq15200 (by decide)))) (fun j => Wr.neI wH15240 (Or.inl (G_ne giq gq15200 (by decide)))) b15236
        have b15255 : EQ (fun k => fI H15240 q31 k) (fun k => fI H15240 iq k) (8920) (7) (x15193.toNatClampNeg) := EQ.congr (fun j => Wr.neI wH15240 (Or.inl (G_ne gq31 gq15200 (by decide)))) (fun j => Wr.neI wH15240 (Or.inl (G_ne giq gq15200 (by decide)))) b15237
        have b15256 : EQ (fun k => fI H15240 q32 k) (fun k => fI H15240 iq k) (9586) (2) (0) := EQ.congr (fun j => Wr.neI wH15240 (Or.inl (G_ne gq32 gq15200 (by decide)))) (fun j => Wr.neI wH15240 (Or.inl (G_ne giq gq15200 (by decide)))) b15238
        have b15257 : EQ (fun k => fI H15240 q33 k) (fun k => fI H15240 iq k) (9587) (2) (0) := EQ.congr (fun j => Wr.neI wH15240 (Or.inl (G_ne gq33 gq15200 (by decide)))) (fun j => Wr.neI wH15240 (Or.inl (G_ne giq gq15200 (by decide)))) b15239
        have m15259 := m15206.trans (Wr.neR wH15240 (Or.inl (G_ne ga0 gq15200 (by decide)))).symm
        have m15260 := m15221.trans (Wr.neR wH15240 (Or.inl (G_ne ga0 gq15200 (by decide)))).symm
        have m15261 := m15222.trans (Wr.neR wH15240 (Or.inl (G_ne ga0 gq15200 (by decide)))).symm
        have m15262 := m15223.trans (Wr.neR wH15240 (Or.inl (G_ne ga0 gq15200 (by decide)))).symm
        have m15263 := m15224.trans (Wr.neR wH15240 (Or.inl (G_ne ga0 gq15200 (by decide)))).symm
        have m15264 := m15225.trans (Wr.neR wH15240 (Or.inl (G_ne ga0 gq15200 (by decide)))).symm
        have m15265 := m15226.trans (Wr.neR wH15240 (Or.inl (G_ne ga0 gq15200 (by decide)))).symm
        have m15266 := m15227.trans (Wr.neR wH15240 (Or.inl (G_ne ga0 gq15200 (by decide)))).symm
        have m15267 := m15228.trans (Wr.neI wH15240 (Or.inl (G_ne ga0 gq15200 (by decide)))).symm
        have m15268 := m15229.trans (Wr.neR wH15240 (Or.inl (G_ne ga0 gq15200 (by decide)))).symm
        have m15269 := ex15205.trans (Wr.neI wH15240 (Or.inl (G_ne ga0 gq15200 (by decide)))).symm
        have m15270 := Wr.I wH15240
        have m15270 := m15270.symm
        clear b15213 b15214 b15215 b15216 b15217 b15218 b15231 b15232 b15233 b15234 b15235 b15236 b15237 b15238 b15239 ex15205 g15207 hTH15203 m15206 m15219 m15221 m15222 m15223 m15224 m15225 m15226 m15227 m15228 m15229 mf15230
        refine lv_aload_n hx hb dX10_keepsTexts_54 rfl (lv_at hl15192 0 rfl) ?_
        refine x_gr C hTH15240 (ci := 10) (k := 26) rfl inX10 (by decide) wF_X10_65 ga0 rg_112 rfl dX10_keepsTexts_55 (fun q15271 eq15271 gq15271 => ?_)
        replace eq15271 := EQN.mk eq15271
        refine lv_iload_n hx hb dX10_keepsTexts_58 rfl (lv_at hl15192 1 rfl) ?_
        refine lv_aload_n hx hb dX10_keepsTexts_59 rfl (lv_at hl15192 0 rfl) ?_
        refine lv_aload_n hx hb dX10_keepsTexts_60 rfl (lv_at hl15192 0 rfl) ?_
        refine x_gr C hTH15240 (ci := 10) (k := 26) rfl inX10 (by decide) wF_X10_65 ga0 rg_112 rfl dX10_keepsTexts_61 (fun q15272 eq15272 gq15272 => ?_)
        have uq15272 : q15271 = q15272 := (eq15271).trans eq15272.symm
        subst uq15272
        clear eq15272
        refine lv_iload_n hx hb dX10_keepsTexts_64 rfl (lv_at hl15192 1 rfl) ?_
        refine x_ai C hTH15240 gq15271 rg_130 ⟨by omega, by show _ < ((112 : Nat) : Int); omega⟩ dX10_keepsTexts_65 (fun x15273 ex15273 bx15273 => ?_)
        refine x_V (As := [.int x15273]) (rest := [.int x15193, .ref q15271]) C (a_X10_kept l K G H15240 (x15273) (x15205) (tk) hTH15240 ga0 giq m15259 m15269 m15267 g15242 (by and_intros <;> first | assumption | omega)) yo_X10_kept wM_X10_473 ⟨⟨by decide, by decide⟩, by decide, by decide⟩ (x_rv C hTH15240 (ci := 10) rfl ga0 rg_112) rfl hl15192.1 rfl (Nat.le_of_ble_eq_true rfl) dX10_keepsTexts_66 hSH15240 (AE_sub (fun _ _ => rfl) (by decide) hSH15240.1) (fun vH15274 H15274 locsH15274 pH15274 zH15274 kH15274 hSH15274 => ?_)
        obtain ⟨x15275, x15276, hvH15274, ex15276, hrH15274, m15277, g15278, mf15279, m15280, m15281, m15282, m15283, hTH15274⟩ := pH15274
        subst hvH15274
        clear zH15274
        replace m15277 := EQN.mk m15277
        have b15284 : UN (tk.toInt ≠ 0) (fun k => fI H15274 q24 k) (fun k => fI s.heap q24 k) := UN.congr (fun j => fI_kept (x_lt hTH15240 kH15274 gq24 (by decide))) b15243
        have b15285 : UN (tk.toInt ≠ 0) (fun k => fI H15274 q29 k) (fun k => fI s.heap q29 k) := UN.congr (fun j => fI_kept (x_lt hTH15240 kH15274 gq29 (by decide))) b15244
        have b15286 : UN (tk.toInt ≠ 0) (fun k => fI H15274 q30 k) (fun k => fI s.heap q30 k) := UN.congr (fun j => fI_kept (x_lt hTH15240 kH15274 gq30 (by decide))) b15245
        have b15287 : UN (tk.toInt ≠ 0) (fun k => fI H15274 q31 k) (fun k => fI s.heap q31 k) := UN.congr (fun j => fI_kept (x_lt hTH15240 kH15274 gq31 (by decide))) b15246
        have b15288 : UN (tk.toInt ≠ 0) (fun k => fI H15274 q32 k) (fun k => fI s.heap q32 k) := UN.congr (fun j => fI_kept (x_lt hTH15240 kH15274 gq32 (by decide))) b15247
        have b15289 : UN (tk.toInt ≠ 0) (fun k => fI H15274 q33 k) (fun k => fI s.heap q33 k) := UN.congr (fun j => fI_kept (x_lt hTH15240 kH15274 gq33 (by decide))) b15248
        have m15290 := (m15270).trans (fI_kept (x_lt hTH15240 kH15274 gq15200 (by decide))).symm
        have m15291 := (ex15273).trans (fI_kept (x_lt hTH15240 kH15274 gq15271 (by decide))).symm
        have m15292 := (m15259).trans (MF.r mf15279 (k := 73) (by decide) (by decide)).symm
        have m15293 := (m15260).trans (MF.r mf15279 (k := 24) (by decide) (by decide)).symm
        have m15294 := (m15261).trans (MF.r mf15279 (k := 27) (by decide) (by decide)).symm
        have m15295 := (m15262).trans (MF.r mf15279 (k := 29) (by decide) (by decide)).symm
        have m15296 := (m15263).trans (MF.r mf15279 (k := 30) (by decide) (by decide)).symm
        have m15297 := (m15264).trans (MF.r mf15279 (k := 31) (by decide) (by decide)).symm
        have m15298 := (m15265).trans (MF.r mf15279 (k := 32) (by decide) (by decide)).symm
        have m15299 := (m15266).trans (MF.r mf15279 (k := 33) (by decide) (by decide)).symm
        have m15300 := (m15267).trans (MF.i mf15279 (k := 71) (by decide) (by decide)).symm
        have m15301 := (m15268).trans (MF.r mf15279 (k := 25) (by decide) (by decide)).symm
        have m15302 := (eq15271).trans (MF.r mf15279 (k := 26) (by decide) (by decide)).symm
        have mf15303 : MF K s.heap H15274 a0 [72] := MF.trans mf15241 mf15279 (by decide)
        have bx15276 := ty_fi (x := x15276) (k := 72) ex15276 hTH15274 ga0 rg_112 rfl
        have ce_x15205 := i_cl (x := x15205) (by omega)
        have b15304 : UN (tk.toInt = 0) (fun k => fI H15274 iq k) (fun k => fI s.heap iq k) := UN.tr m15283 b15249
        have b15305 : FB (fun k => fI H15274 iq k) (fun k => fI s.heap iq k) (8908) := FB.wr b15250 m15282 (fun j hj => by omega)
        have b15306 : EQ (fun k => fI H15274 q24 k) (fun k => fI H15274 iq k) (8908) (1) (6) := EQ.wr (EQ.congr (w1 := fun k => fI H15240 iq k) (fun j => fI_kept (x_lt hTH15240 kH15274 gq24 (by decide))) (fun _ => rfl) b15251) m15282 (fun j hj => by omega)
        have b15307 : EQ (fun k => fI H15274 q27 k) (fun k => fI H15274 iq k) (8916) (7) (x15193.toNatClampNeg) := EQ.wr (EQ.congr (w1 := fun k => fI H15240 iq k) (fun j => fI_kept (x_lt hTH15240 kH15274 gq27 (by decide))) (fun _ => rfl) b15252) m15282 (fun j hj => by omega)
        have b15308 : EQ (fun k => fI H15274 q29 k) (fun k => fI H15274 iq k) (8918) (7) (x15193.toNatClampNeg) := EQ.wr (EQ.congr (w1 := fun k => fI H15240 iq k) (fun j => fI_kept (x_lt hTH15240 kH15274 gq29 (by decide))) (fun _ => rfl) b15253) m15282 (fun j hj => by omega)
        have b15309 : EQ (fun k => fI H15274 q30 k) (fun k => fI H15274 iq k) (8919) (7) (x15193.toNatClampNeg) := EQ.wr (EQ.congr (w1 := fun k => fI H15240 iq k) (fun j => fI_kept (x_lt hTH15240 kH15274 gq30 (by decide))) (fun _ => rfl) b15254) m15282 (fun j hj => by omega)
        have b15310 : EQ (fun k => fI H15274 q31 k) (fun k => fI H15274 iq k) (8920) (7) (x15193.toNatClampNeg) := EQ.wr (EQ.congr (w1 := fun k => fI H15240 iq k) (fun j => fI_kept (x_lt hTH15240 kH15274 gq31 (by decide))) (fun _ => rfl) b15255) m15282 (fun j hj => by omega)
        have b15311 : EQ (fun k => fI H15274 q32 k) (fun k => fI H15274 iq k) (9586) (2) (0) := EQ.wr (EQ.congr (w1 := fun k => fI H15240 iq k) (fun j => fI_kept (x_lt hTH15240 kH15274 gq32 (by decide))) (fun _ => rfl) b15256) m15282 (fun j hj => by omega)
        have b15312 : EQ (fun k => fI H15274 q33 k) (fun k => fI H15274 iq k) (9587) (2) (0) := EQ.wr (EQ.congr (w1 := fun k => fI H15240 iq k) (fun j => fI_kept (x_lt hTH15240 kH15274 gq33 (by decide))) (fun _ => rfl) b15257) m15282 (fun j hj => by omega)
        clear b15243 b15244 b15245 b15246 b15247 b15248 b15249 b15250 b15251 b15252 b15253 b15254 b15255 b15256 b15257 eq15271 ex15273 m15259 m15260 m15261 m15262 m15263 m15264 m15265 m15266 m15267 m15268 m15269 m15270
        clear m15282 m15283
        refine W.eq (g2 := F0 m 69 ls15191 [.int x15275, .int x15193, .ref q15271]) rfl ?_
        refine x_iast C hTH15274 hSH15274 gq15271 rg_130 (by omega) (by show _ < ((112 : Nat) : Int); omega) ⟨by have := i_rng x15275; omega, by have := i_rng x15275; omega⟩ (AE_in gq15271 (by decide)) dX10_keepsTexts_69 (fun H15313 locsH15313 hTH15313 hSH15313 wH15313 => ?_)
        have mf15314 : MF K s.heap H15313 a0 [72] := MF.arr wH15313 (G_ne ga0 gq15271 (by decide)) mf15303
        have g15315 : WD (avw K H15313 a0) := WD.congr (fun k hk j => av_arr hTH15274 ga0 wH15313 gq15271 (by decide) (WD_ok 130 (by decide) k hk)) g15278
        have b15316 : UN (tk.toInt ≠ 0) (fun k => fI H15313 q24 k) (fun k => fI s.heap q24 k) := UN.congr (fun j => Wr.neI wH15313 (Or.inl (G_ne gq24 gq15271 (by decide)))) b15284
        have b15317 : UN (tk.toInt ≠ 0) (fun k => fI H15313 q29 k) (fun k => fI s.heap q29 k) := UN.congr (fun j => Wr.neI wH15313 (Or.inl (G_ne gq29 gq15271 (by decide)))) b15285
        have b15318 : UN (tk.toInt ≠ 0) (fun k => fI H15313 q30 k) (fun k => fI s.heap q30 k) := UN.congr (fun j => Wr.neI wH15313 (Or.inl (G_ne gq30 gq15271 (by decide)))) b15286
        have b15319 : UN (tk.toInt ≠ 0) (fun k => fI H15313 q31 k) (fun k => fI s.heap q31 k) := UN.congr (fun j => Wr.neI wH15313 (Or.inl (G_ne gq31 gq15271 (by decide)))) b15287
        have b15320 : UN (tk.toInt ≠ 0) (fun k => fI H15313 q32 k) (fun k => fI s.heap q32 k) := UN.congr (fun j => Wr.neI wH15313 (Or.inl (G_ne gq32 gq15271 (by decide)))) b15288
        have b15321 : UN (tk.toInt ≠ 0) (fun k => fI H15313 q33 k) (fun k => fI s.heap q33 k) := UN.congr (fun j => Wr.neI wH15313 (Or.inl (G_ne gq33 gq15271 (by decide)))) b15289
        have b15322 : UN (tk.toInt = 0) (fun k => fI H15313 iq k) (fun k => fI s.heap iq k) := UN.congr (fun j => Wr.neI wH15313 (Or.inl (G_ne giq gq15271 (by decide)))) b15304
        have b15323 : FB (fun k => fI H15313 iq k) (fun k => fI s.heap iq k) (8908) := FB.congr (fun j => Wr.neI wH15313 (Or.inl (G_ne giq gq15271 (by decide)))) b15305
        have b15324 : EQ (fun k => fI H15313 q24 k) (fun k => fI H15313 iq k) (8908) (1) (6) := EQ.congr (fun j => Wr.neI wH15313 (Or.inl (G_ne gq24 gq15271 (by decide)))) (fun j => Wr.neI wH15313 (Or.inl (G_ne giq gq15271 (by decide)))) b15306
        have b15325 : EQ (fun k => fI H15313 q27 k) (fun k => fI H15313 iq k) (8916) (7) (x15193.toNatClampNeg) := EQ.congr (fun j => Wr.neI wH15313 (Or.inl (G_ne gq27 gq15271 (by decide)))) (fun j => Wr.neI wH15313 (Or.inl (G_ne giq gq15271 (by decide)))) b15307
        have b15326 : EQ (fun k => fI H15313 q29 k) (fun k => fI H15313 iq k) (8918) (7) (x15193.toNatClampNeg) := EQ.congr (fun j => Wr.neI wH15313 (Or.inl (G_ne gq29 gq15271 (by decide)))) (fun j => Wr.neI wH15313 (Or.inl (G_ne giq gq15271 (by decide)))) b15308
        have b15327 : EQ (fun k => fI H15313 q30 k) (fun k => fI H15313 iq k) (8919) (7) (x15193.toNatClampNeg) := EQ.congr (fun j => Wr.neI wH15313 (Or.inl (G_ne gq30 gq15271 (by decide)))) (fun j => Wr.neI wH15313 (Or.inl (G_ne giq gq15271 (by decide)))) b15309
        have b15328 : EQ (fun k => fI H15313 q31 k) (fun k => fI H15313 iq k) (8920) (7) (x15193.toNatClampNeg) := EQ.congr (fun j => Wr.neI wH15313 (Or.inl (G_ne gq31 gq15271 (by decide)))) (fun j => Wr.neI wH15313 (Or.inl (G_ne giq gq15271 (by decide)))) b15310
        have b15329 : EQ (fun k => fI H15313 q32 k) (fun k => fI H15313 iq k) (9586) (2) (0) := EQ.congr (fun j => Wr.neI wH15313 (Or.inl (G_ne gq32 gq15271 (by decide)))) (fun j => Wr.neI wH15313 (Or.inl (G_ne giq gq15271 (by decide)))) b15311
        have b15330 : EQ (fun k => fI H15313 q33 k) (fun k => fI H15313 iq k) (9587) (2) (0) := EQ.congr (fun j => Wr.neI wH15313 (Or.inl (G_ne gq33 gq15271 (by decide)))) (fun j => Wr.neI wH15313 (Or.inl (G_ne giq gq15271 (by decide)))) b15312
        have m15331 := m15290.trans (Wr.neI wH15313 (Or.inl (G_ne gq15200 gq15271 (by decide)))).symm
        have m15333 := m15277.trans (Wr.neR wH15313 (Or.inl (G_ne ga0 gq15271 (by decide)))).symm
        have m15334 := m15293.trans (Wr.neR wH15313 (Or.inl (G_ne ga0 gq15271 (by decide)))).symm
        have m15335 := m15294.trans (Wr.neR wH15313 (Or.inl (G_ne ga0 gq15271 (by decide)))).symm
        have m15336 := m15295.trans (Wr.neR wH15313 (Or.inl (G_ne ga0 gq15271 (by decide)))).symm
        have m15337 := m15296.trans (Wr.neR wH15313 (Or.inl (G_ne ga0 gq15271 (by decide)))).symm
        have m15338 := m15297.trans (Wr.neR wH15313 (Or.inl (G_ne ga0 gq15271 (by decide)))).symm
        have m15339 := m15298.trans (Wr.neR wH15313 (Or.inl (G_ne ga0 gq15271 (by decide)))).symm
        have m15340 := m15299.trans (Wr.neR wH15313 (Or.inl (G_ne ga0 gq15271 (by decide)))).symm
        have m15341 := m15300.trans (Wr.neI wH15313 (Or.inl (G_ne ga0 gq15271 (by decide)))).symm
        have m15342 := m15301.trans (Wr.neR wH15313 (Or.inl (G_ne ga0 gq15271 (by decide)))).symm
        have m15343 := m15302.trans (Wr.neR wH15313 (Or.inl (G_ne ga0 gq15271 (by decide)))).symm
        have m15344 := ex15276.trans (Wr.neI wH15313 (Or.inl (G_ne ga0 gq15271 (by decide)))).symm
        have m15345 := Wr.I wH15313
        have m15345 := m15345.symm
        clear b15284 b15285 b15286 b15287 b15288 b15289 b15304 b15305 b15306 b15307 b15308 b15309 b15310 b15311 b15312 ex15276 g15278 hTH15274 m15277 m15290 m15291 m15293 m15294 m15295 m15296 m15297 m15298 m15299 m15300 m15301 m15302 mf15303
        refine lv_aload_n hx hb dX10_keepsTexts_70 rfl (lv_at hl15192 0 rfl) ?_
        refine x_gr C hTH15313 (ci := 10) (k := 27) rfl inX10 (by decide) wF_X10_68 ga0 rg_112 rfl dX10_keepsTexts_71 (fun q15346 eq15346 gq15346 => ?_)
        have uq15346 : q27 = q15346 := (m15335).trans eq15346.symm
        subst uq15346
        clear eq15346
        refine lv_iload_n hx hb dX10_keepsTexts_74 rfl (lv_at hl15192 1 rfl) ?_
        refine lv_aload_n hx hb dX10_keepsTexts_75 rfl (lv_at hl15192 0 rfl) ?_
        refine lv_aload_n hx hb dX10_keepsTexts_76 rfl (lv_at hl15192 0 rfl) ?_
        refine x_gr C hTH15313 (ci := 10) (k := 27) rfl inX10 (by decide) wF_X10_68 ga0 rg_112 rfl dX10_keepsTexts_77 (fun q15347 eq15347 gq15347 => ?_)
        have uq15347 : q27 = q15347 := (m15335).trans eq15347.symm
        subst uq15347
        clear eq15347
        refine lv_iload_n hx hb dX10_keepsTexts_80 rfl (lv_at hl15192 1 rfl) ?_
        refine x_ai C hTH15313 gq27 rg_131 ⟨by omega, by show _ < ((112 : Nat) : Int); omega⟩ dX10_keepsTexts_81 (fun x15348 ex15348 bx15348 => ?_)
        refine x_V (As := [.int x15348]) (rest := [.int x15193, .ref q27]) C (a_X10_kept l K G H15313 (x15348) (x15276) (tk) hTH15313 ga0 giq m15333 m15344 m15341 g15315 (by and_intros <;> first | assumption | omega)) yo_X10_kept wM_X10_473 ⟨⟨by decide, by decide⟩, by decide, by decide⟩ (x_rv C hTH15313 (ci := 10) rfl ga0 rg_112) rfl hl15192.1 rfl (Nat.le_of_ble_eq_true rfl) dX10_keepsTexts_82 hSH15313 (AE_sub (fun _ _ => rfl) (by decide) hSH15313.1) (fun vH15349 H15349 locsH15349 pH15349 zH15349 kH15349 hSH15349 => ?_)
        obtain ⟨x15350, x15351, hvH15349, ex15351, hrH15349, m15352, g15353, mf15354, m15355, m15356, m15357, m15358, hTH15349⟩ := pH15349
        subst hvH15349
        clear zH15349
        replace m15352 := EQN.mk m15352
        have b15359 : UN (tk.toInt ≠ 0) (fun k => fI H15349 q24 k) (fun k => fI s.heap q24 k) := UN.congr (fun j => fI_kept (x_lt hTH15313 kH15349 gq24 (by decide))) b15316
        have b15360 : UN (tk.toInt ≠ 0) (fun k => fI H15349 q29 k) (fun k => fI s.heap q29 k) := UN.congr (fun j => fI_kept (x_lt hTH15313 kH15349 gq29 (by decide))) b15317
        have b15361 : UN (tk.toInt ≠ 0) (fun k => fI H15349 q30 k) (fun k => fI s.heap q30 k) := UN.congr (fun j => fI_kept (x_lt hTH15313 kH15349 gq30 (by decide))) b15318
        have b15362 : UN (tk.toInt ≠ 0) (fun k => fI H15349 q31 k) (fun k => fI s.heap q31 k) := UN.congr (fun j => fI_kept (x_lt hTH15313 kH15349 gq31 (by decide))) b15319
        have b15363 : UN (tk.toInt ≠ 0) (fun k => fI H15349 q32 k) (fun k => fI s.heap q32 k) := UN.congr (fun j => fI_kept (x_lt hTH15313 kH15349 gq32 (by decide))) b15320
        have b15364 : UN (tk.toInt ≠ 0) (fun k => fI H15349 q33 k) (fun k => fI s.heap q33 k) := UN.congr (fun j => fI_kept (x_lt hTH15313 kH15349 gq33 (by decide))) b15321
        have m15365 := (m15331).trans (fI_kept (x_lt hTH15313 kH15349 gq15200 (by decide))).symm
        have m15366 := (m15345).trans (fI_kept (x_lt hTH15313 kH15349 gq15271 (by decide))).symm
        have m15367 := (ex15348).trans (fI_kept (x_lt hTH15313 kH15349 gq27 (by decide))).symm
        have m15368 := (m15333).trans (MF.r mf15354 (k := 73) (by decide) (by decide)).symm
        have m15369 := (m15334).trans (MF.r mf15354 (k := 24) (by decide) (by decide)).symm
        have m15370 := (m15335).trans (MF.r mf15354 (k := 27) (by decide) (by decide)).symm
        have m15371 := (m15336).trans (MF.r mf15354 (k := 29) (by decide) (by decide)).symm
        have m15372 := (m15337).trans (MF.r mf15354 (k := 30) (by decide) (by decide)).symm
        have m15373 := (m15338).trans (MF.r mf15354 (k := 31) (by decide) (by decide)).symm
        have m15374 := (m15339).trans (MF.r mf15354 (k := 32) (by decide) (by decide)).symm
        have m15375 := (m15340).trans (MF.r mf15354 (k := 33) (by decide) (by decide)).symm
        have m15376 := (m15341).trans (MF.i mf15354 (k := 71) (by decide) (by decide)).symm
        have m15377 := (m15342).trans (MF.r mf15354 (k := 25) (by decide) (by decide)).symm
        have m15378 := (m15343).trans (MF.r mf15354 (k := 26) (by decide) (by decide)).symm
        have mf15379 : MF K s.heap H15349 a0 [72] := MF.trans mf15314 mf15354 (by decide)
        have bx15351 := ty_fi (x := x15351) (k := 72) ex15351 hTH15349 ga0 rg_112 rfl
        have ce_x15276 := i_cl (x := x15276) (by omega)
        have b15380 : UN (tk.toInt = 0) (fun k => fI H15349 iq k) (fun k => fI s.heap iq k) := UN.tr m15358 b15322
        have b15381 : FB (fun k => fI H15349 iq k) (fun k => fI s.heap iq k) (8908) := FB.wr b15323 m15357 (fun j hj => by omega)
        have b15382 : EQ (fun k => fI H15349 q24 k) (fun k => fI H15349 iq k) (8908) (1) (6) := EQ.wr (EQ.congr (w1 := fun k => fI H15313 iq k) (fun j => fI_kept (x_lt hTH15313 kH15349 gq24 (by decide))) (fun _ => rfl) b15324) m15357 (fun j hj => by omega)
        have b15383 : EQ (fun k => fI H15349 q27 k) (fun k => fI H15349 iq k) (8916) (7) (x15193.toNatClampNeg) := EQ.wr (EQ.congr (w1 := fun k => fI H15313 iq k) (fun j => fI_kept (x_lt hTH15313 kH15349 gq27 (by decide))) (fun _ => rfl) b15325) m15357 (fun j hj => by omega)
        have b15384 : EQ (fun k => fI H15349 q29 k) (fun k => fI H15349 iq k) (8918) (7) (x15193.toNatClampNeg) := EQ.wr (EQ.congr (w1 := fun k => fI H15313 iq k) (fun j => fI_kept (x_lt hTH15313 kH15349 gq29 (by decide))) (fun _ => rfl) b15326) m15357 (fun j hj => by omega)
        have b15385 : EQ (fun k => fI H15349 q30 k) (fun k => fI H15349 iq k) (8919) (7) (x15193.toNatClampNeg) := EQ.wr (EQ.congr (w1 := fun k => fI H15313 iq k) (fun j => fI_kept (x_lt hTH15313 kH15349 gq30 (by decide))) (fun _ => rfl) b15327) m15357 (fun j hj => by omega)
        have b15386 : EQ (fun k => fI H15349 q31 k) (fun k => fI H15349 iq k) (8920) (7) (x15193.toNatClampNeg) := EQ.wr (EQ.congr (w1 := fun k => fI H15313 iq k) (fun j => fI_kept (x_lt hTH15313 kH15349 gq31 (by decide))) (fun _ => rfl) b15328) m15357 (fun j hj => by omega)
        have b15387 : EQ (fun k => fI H15349 q32 k) (fun k => fI H15349 iq k) (9586) (2) (0) := EQ.wr (EQ.congr (w1 := fun k => fI H15313 iq k) (fun j => fI_kept (x_lt hTH15313 kH15349 gq32 (by decide))) (fun _ => rfl) b15329) m15357 (fun j hj => by omega)
        have b15388 : EQ (fun k => fI H15349 q33 k) (fun k => fI H15349 iq k) (9587) (2) (0) := EQ.wr (EQ.congr (w1 := fun k => fI H15313 iq k) (fun j => fI_kept (x_lt hTH15313 kH15349 gq33 (by decide))) (fun _ => rfl) b15330) m15357 (fun j hj => by omega)
        clear b15316 b15317 b15318 b15319 b15320 b15321 b15322 b15323 b15324 b15325 b15326 b15327 b15328 b15329 b15330 ex15348 m15331 m15333 m15334 m15335 m15336 m15337 m15338 m15339 m15340 m15341 m15342 m15343 m15344 m15345
        clear m15357 m15358
        have bx15350 : (-1) ≤ x15350.toInt ∧ x15350.toInt ≤ 15 := kr (fun h0 => by have hiw := (hy0 h0); exact kr0 (w := fun k => fI H15349 iq k) m15355 (p := 8916 + 7 * x15193.toNatClampNeg) (by omega) (b15380 h0) ((hiw.2.2.2.2.1 x15193.toNatClampNeg (by omega)).1)) m15356 (by omega)
        refine W.eq (g2 := F0 m 85 ls15191 [.int x15350, .int x15193, .ref q27]) rfl ?_
        refine x_iast C hTH15349 hSH15349 gq27 rg_131 (by omega) (by show _ < ((112 : Nat) : Int); omega) ⟨by have := i_rng x15350; omega, by have := i_rng x15350; omega⟩ (AE_in gq27 (by decide)) dX10_keepsTexts_85 (fun H15389 locsH15389 hTH15389 hSH15389 wH15389 => ?_)
        have mf15390 : MF K s.heap H15389 a0 [72] := MF.arr wH15389 (G_ne ga0 gq27 (by decide)) mf15379
        have g15391 : WD (avw K H15389 a0) := WD.congr (fun k hk j => av_arr hTH15349 ga0 wH15389 gq27 (by decide) (WD_ok 131 (by decide) k hk)) g15353
        have b15392 : UN (tk.toInt ≠ 0) (fun k => fI H15389 q24 k) (fun k => fI s.heap q24 k) := UN.congr (fun j => Wr.neI wH15389 (Or.inl (G_ne gq24 gq27 (by decide)))) b15359
        have b15393 : UN (tk.toInt ≠ 0) (fun k => fI H15389 q29 k) (fun k => fI s.heap q29 k) := UN.congr (fun j => Wr.neI wH15389 (Or.inl (G_ne gq29 gq27 (by decide)))) b15360
        have b15394 : UN (tk.toInt ≠ 0) (fun k => fI H15389 q30 k) (fun k => fI s.heap q30 k) := UN.congr (fun j => Wr.neI wH15389 (Or.inl (G_ne gq30 gq27 (by decide)))) b15361
        have b15395 : UN (tk.toInt ≠ 0) (fun k => fI H15389 q31 k) (fun k => fI s.heap q31 k) := UN.congr (fun j => Wr.neI wH15389 (Or.inl (G_ne gq31 gq27 (by decide)))) b15362
        have b15396 : UN (tk.toInt ≠ 0) (fun k => fI H15389 q32 k) (fun k => fI s.heap q32 k) := UN.congr (fun j => Wr.neI wH15389 (Or.inl (G_ne gq32 gq27 (by decide)))) b15363
        have b15397 : UN (tk.toInt ≠ 0) (fun k => fI H15389 q33 k) (fun k => fI s.heap q33 k) := UN.congr (fun j => Wr.neI wH15389 (Or.inl (G_ne gq33 gq27 (by decide)))) b15364
        have b15398 : UN (tk.toInt = 0) (fun k => fI H15389 iq k) (fun k => fI s.heap iq k) := UN.congr (fun j => Wr.neI wH15389 (Or.inl (G_ne giq gq27 (by decide)))) b15380
        have b15399 : FB (fun k => fI H15389 iq k) (fun k => fI s.heap iq k) (8908) := FB.congr (fun j => Wr.neI wH15389 (Or.inl (G_ne giq gq27 (by decide)))) b15381
        have b15400 : EQ (fun k => fI H15389 q24 k) (fun k => fI H15389 iq k) (8908) (1) (6) := EQ.congr (fun j => Wr.neI wH15389 (Or.inl (G_ne gq24 gq27 (by decide)))) (fun j => Wr.neI wH15389 (Or.inl (G_ne giq gq27 (by decide)))) b15382
        have b15401 : EQ (fun k => fI H15389 q27 k) (fun k => fI H15389 iq k) (8916) (7) (x15193.toNatClampNeg + 1) := EQ.st b15383 (i := x15193.toNatClampNeg) (t := x15276.toNatClampNeg) (by omega) m15355 (by omega) (Wr.I wH15389) (fun j hj => Wr.neI wH15389 (Or.inr hj)) (fun j => Wr.neI wH15389 (Or.inl (G_ne giq gq27 (by decide))))
        have b15402 : EQ (fun k => fI H15389 q29 k) (fun k => fI H15389 iq k) (8918) (7) (x15193.toNatClampNeg) := EQ.congr (fun j => Wr.neI wH15389 (Or.inl (G_ne gq29 gq27 (by decide)))) (fun j => Wr.neI wH15389 (Or.inl (G_ne giq gq27 (by decide)))) b15384
        have b15403 : EQ (fun k => fI H15389 q30 k) (fun k => fI H15389 iq k) (8919) (7) (x15193.toNatClampNeg) := EQ.congr (fun j => Wr.neI wH15389 (Or.inl (G_ne gq30 gq27 (by decide)))) (fun j => Wr.neI wH15389 (Or.inl (G_ne giq gq27 (by decide)))) b15385
        have b15404 : EQ (fun k => fI H15389 q31 k) (fun k => fI H15389 iq k) (8920) (7) (x15193.toNatClampNeg) := EQ.congr (fun j => Wr.neI wH15389 (Or.inl (G_ne gq31 gq27 (by decide)))) (fun j => Wr.neI wH15389 (Or.inl (G_ne giq gq27 (by decide)))) b15386
        have b15405 : EQ (fun k => fI H15389 q32 k) (fun k => fI H15389 iq k) (9586) (2) (0) := EQ.congr (fun j => Wr.neI wH15389 (Or.inl (G_ne gq32 gq27 (by decide)))) (fun j => Wr.neI wH15389 (Or.inl (G_ne giq gq27 (by decide)))) b15387
        have b15406 : EQ (fun k => fI H15389 q33 k) (fun k => fI H15389 iq k) (9587) (2) (0) := EQ.congr (fun j => Wr.neI wH15389 (Or.inl (G_ne gq33 gq27 (by decide)))) (fun j => Wr.neI wH15389 (Or.inl (G_ne giq gq27 (by decide)))) b15388
        have m15407 := m15365.trans (Wr.neI wH15389 (Or.inl (G_ne gq15200 gq27 (by decide)))).symm
        have m15408 := m15366.trans (Wr.neI wH15389 (Or.inl (G_ne gq15271 gq27 (by decide)))).symm
        have m15410 := m15352.trans (Wr.neR wH15389 (Or.inl (G_ne ga0 gq27 (by decide)))).symm
        have m15411 := m15369.trans (Wr.neR wH15389 (Or.inl (G_ne ga0 gq27 (by decide)))).symm
        have m15412 := m15370.trans (Wr.neR wH15389 (Or.inl (G_ne ga0 gq27 (by decide)))).symm
        have m15413 := m15371.trans (Wr.neR wH15389 (Or.inl (G_ne ga0 gq27 (by decide)))).symm
        have m15414 := m15372.trans (Wr.neR wH15389 (Or.inl (G_ne ga0 gq27 (by decide)))).symm
        have m15415 := m15373.trans (Wr.neR wH15389 (Or.inl (G_ne ga0 gq27 (by decide)))).symm
        have m15416 := m15374.trans (Wr.neR wH15389 (Or.inl (G_ne ga0 gq27 (by decide)))).symm
        have m15417 := m15375.trans (Wr.neR wH15389 (Or.inl (G_ne ga0 gq27 (by decide)))).symm
        have m15418 := m15376.trans (Wr.neI wH15389 (Or.inl (G_ne ga0 gq27 (by decide)))).symm
        have m15419 := m15377.trans (Wr.neR wH15389 (Or.inl (G_ne ga0 gq27 (by decide)))).symm
        have m15420 := m15378.trans (Wr.neR wH15389 (Or.inl (G_ne ga0 gq27 (by decide)))).symm
        have m15421 := ex15351.trans (Wr.neI wH15389 (Or.inl (G_ne ga0 gq27 (by decide)))).symm
        have m15422 := Wr.I wH15389
        have m15422 := m15422.symm
        clear b15359 b15360 b15361 b15362 b15363 b15364 b15380 b15381 b15382 b15383 b15384 b15385 b15386 b15387 b15388 ex15351 g15353 hTH15349 m15352 m15365 m15366 m15367 m15369 m15370 m15371 m15372 m15373 m15374 m15375 m15376 m15377 m15378 mf15379
        refine lv_aload_n hx hb dX10_keepsTexts_86 rfl (lv_at hl15192 0 rfl) ?_
        refine x_gr C hTH15389 (ci := 10) (k := 28) rfl inX10 (by decide) wF_X10_71 ga0 rg_112 rfl dX10_keepsTexts_87 (fun q15423 eq15423 gq15423 => ?_)
        replace eq15423 := EQN.mk eq15423
        refine lv_iload_n hx hb dX10_keepsTexts_90 rfl (lv_at hl15192 1 rfl) ?_
        refine lv_aload_n hx hb dX10_keepsTexts_91 rfl (lv_at hl15192 0 rfl) ?_
        refine lv_aload_n hx hb dX10_keepsTexts_92 rfl (lv_at hl15192 0 rfl) ?_
        refine x_gr C hTH15389 (ci := 10) (k := 28) rfl inX10 (by decide) wF_X10_71 ga0 rg_112 rfl dX10_keepsTexts_93 (fun q15424 eq15424 gq15424 => ?_)
        have uq15424 : q15423 = q15424 := (eq15423).trans eq15424.symm
        subst uq15424
        clear eq15424
        refine lv_iload_n hx hb dX10_keepsTexts_96 rfl (lv_at hl15192 1 rfl) ?_
        refine x_ai C hTH15389 gq15423 rg_132 ⟨by omega, by show _ < ((112 : Nat) : Int); omega⟩ dX10_keepsTexts_97 (fun x15425 ex15425 bx15425 => ?_)
        refine x_V (As := [.int x15425]) (rest := [.int x15193, .ref q15423]) C (a_X10_kept l K G H15389 (x15425) (x15351) (tk) hTH15389 ga0 giq m15410 m15421 m15418 g15391 (by and_intros <;> first | assumption | omega)) yo_X10_kept wM_X10_473 ⟨⟨by decide, by decide⟩, by decide, by decide⟩ (x_rv C hTH15389 (ci := 10) rfl ga0 rg_112) rfl hl15192.1 rfl (Nat.le_of_ble_eq_true rfl) dX10_keepsTexts_98 hSH15389 (AE_sub (fun _ _ => rfl) (by decide) hSH15389.1) (fun vH15426 H15426 locsH15426 pH15426 zH15426 kH15426 hSH15426 => ?_)
        obtain ⟨x15427, x15428, hvH15426, ex15428, hrH15426, m15429, g15430, mf15431, m15432, m15433, m15434, m15435, hTH15426⟩ := pH15426
        subst hvH15426
        clear zH15426
        replace m15429 := EQN.mk m15429
        have b15436 : UN (tk.toInt ≠ 0) (fun k => fI H15426 q24 k) (fun k => fI s.heap q24 k) := UN.congr (fun j => fI_kept (x_lt hTH15389 kH15426 gq24 (by decide))) b15392
        have b15437 : UN (tk.toInt ≠ 0) (fun k => fI H15426 q29 k) (fun k => fI s.heap q29 k) := UN.congr (fun j => fI_kept (x_lt hTH15389 kH15426 gq29 (by decide))) b15393
        have b15438 : UN (tk.toInt ≠ 0) (fun k => fI H15426 q30 k) (fun k => fI s.heap q30 k) := UN.congr (fun j => fI_kept (x_lt hTH15389 kH15426 gq30 (by decide))) b15394
        have b15439 : UN (tk.toInt ≠ 0) (fun k => fI H15426 q31 k) (fun k => fI s.heap q31 k) := UN.congr (fun j => fI_kept (x_lt hTH15389 kH15426 gq31 (by decide))) b15395
        have b15440 : UN (tk.toInt ≠ 0) (fun k => fI H15426 q32 k) (fun k => fI s.heap q32 k) := UN.congr (fun j => fI_kept (x_lt hTH15389 kH15426 gq32 (by decide))) b15396
        have b15441 : UN (tk.toInt ≠ 0) (fun k => fI H15426 q33 k) (fun k => fI s.heap q33 k) := UN.congr (fun j => fI_kept (x_lt hTH15389 kH15426 gq33 (by decide))) b15397
        have m15442 := (m15407).trans (fI_kept (x_lt hTH15389 kH15426 gq15200 (by decide))).symm
        have m15443 := (m15408).trans (fI_kept (x_lt hTH15389 kH15426 gq15271 (by decide))).symm
        have m15444 := (m15422).trans (fI_kept (x_lt hTH15389 kH15426 gq27 (by decide))).symm
        have m15445 := (ex15425).trans (fI_kept (x_lt hTH15389 kH15426 gq15423 (by decide))).symm
        have m15446 := (m15410).trans (MF.r mf15431 (k := 73) (by decide) (by decide)).symm
        have m15447 := (m15411).trans (MF.r mf15431 (k := 24) (by decide) (by decide)).symm
        have m15448 := (m15412).trans (MF.r mf15431 (k := 27) (by decide) (by decide)).symm
        have m15449 := (m15413).trans (MF.r mf15431 (k := 29) (by decide) (by decide)).symm
        have m15450 := (m15414).trans (MF.r mf15431 (k := 30) (by decide) (by decide)).symm
        have m15451 := (m15415).trans (MF.r mf15431 (k := 31) (by decide) (by decide)).symm
        have m15452 := (m15416).trans (MF.r mf15431 (k := 32) (by decide) (by decide)).symm
        have m15453 := (m15417).trans (MF.r mf15431 (k := 33) (by decide) (by decide)).symm
        have m15454 := (m15418).trans (MF.i mf15431 (k := 71) (by decide) (by decide)).symm
        have m15455 := (m15419).trans (MF.r mf15431 (k := 25) (by decide) (by decide)).symm
        have m15456 := (m15420).trans (MF.r mf15431 (k := 26) (by decide) (by decide)).symm
        have m15457 := (eq15423).trans (MF.r mf15431 (k := 28) (by decide) (by decide)).symm
        have mf15458 : MF K s.heap H15426 a0 [72] := MF.trans mf15390 mf15431 (by decide)
        have bx15428 := ty_fi (x := x15428) (k := 72) ex15428 hTH15426 ga0 rg_112 rfl
        have ce_x15351 := i_cl (x := x15351) (by omega)
        have b15459 : UN (tk.toInt = 0) (fun k => fI H15426 iq k) (fun k => fI s.heap iq k) := UN.tr m15435 b15398
        have b15460 : FB (fun k => fI H15426 iq k) (fun k => fI s.heap iq k) (8908) := FB.wr b15399 m15434 (fun j hj => by omega)
        have b15461 : EQ (fun k => fI H15426 q24 k) (fun k => fI H15426 iq k) (8908) (1) (6) := EQ.wr (EQ.congr (w1 := fun k => fI H15389 iq k) (fun j => fI_kept (x_lt hTH15389 kH15426 gq24 (by decide))) (fun _ => rfl) b15400) m15434 (fun j hj => by omega)
        have b15462 : EQ (fun k => fI H15426 q27 k) (fun k => fI H15426 iq k) (8916) (7) (x15193.toNatClampNeg + 1) := EQ.wr (EQ.congr (w1 := fun k => fI H15389 iq k) (fun j => fI_kept (x_lt hTH15389 kH15426 gq27 (by decide))) (fun _ => rfl) b15401) m15434 (fun j hj => by omega)
        have b15463 : EQ (fun k => fI H15426 q29 k) (fun k => fI H15426 iq k) (8918) (7) (x15193.toNatClampNeg) := EQ.wr (EQ.congr (w1 := fun k => fI H15389 iq k) (fun j => fI_kept (x_lt hTH15389 kH15426 gq29 (by decide))) (fun _ => rfl) b15402) m15434 (fun j hj => by omega)
        have b15464 : EQ (fun k => fI H15426 q30 k) (fun k => fI H15426 iq k) (8919) (7) (x15193.toNatClampNeg) := EQ.wr (EQ.congr (w1 := fun k => fI H15389 iq k) (fun j => fI_kept (x_lt hTH15389 kH15426 gq30 (by decide))) (fun _ => rfl) b15403) m15434 (fun j hj => by omega)
        have b15465 : EQ (fun k => fI H15426 q31 k) (fun k => fI H15426 iq k) (8920) (7) (x15193.toNatClampNeg) := EQ.wr (EQ.congr (w1 := fun k => fI H15389 iq k) (fun j => fI_kept (x_lt hTH15389 kH15426 gq31 (by decide))) (fun _ => rfl) b15404) m15434 (fun j hj => by omega)
        have b15466 : EQ (fun k => fI H15426 q32 k) (fun k => fI H15426 iq k) (9586) (2) (0) := EQ.wr (EQ.congr (w1 := fun k => fI H15389 iq k) (fun j => fI_kept (x_lt hTH15389 kH15426 gq32 (by decide))) (fun _ => rfl) b15405) m15434 (fun j hj => by omega)
        have b15467 : EQ (fun k => fI H15426 q33 k) (fun k => fI H15426 iq k) (9587) (2) (0) := EQ.wr (EQ.congr (w1 := fun k => fI H15389 iq k) (fun j => fI_kept (x_lt hTH15389 kH15426 gq33 (by decide))) (fun _ => rfl) b15406) m15434 (fun j hj => by omega)
        clear b15392 b15393 b15394 b15395 b15396 b15397 b15398 b15399 b15400 b15401 b15402 b15403 b15404 b15405 b15406 eq15423 ex15425 m15407 m15408 m15410 m15411 m15412 m15413 m15414 m15415 m15416 m15417 m15418 m15419 m15420 m15421 m15422
        clear m15434 m15435
        refine W.eq (g2 := F0 m 101 ls15191 [.int x15427, .int x15193, .ref q15423]) rfl ?_
        refine x_iast C hTH15426 hSH15426 gq15423 rg_132 (by omega) (by show _ < ((112 : Nat) : Int); omega) ⟨by have := i_rng x15427; omega, by have := i_rng x15427; omega⟩ (AE_in gq15423 (by decide)) dX10_keepsTexts_101 (fun H15468 locsH15468 hTH15468 hSH15468 wH15468 => ?_)
        have mf15469 : MF K s.heap H15468 a0 [72] := MF.arr wH15468 (G_ne ga0 gq15423 (by decide)) mf15458
        have g15470 : WD (avw K H15468 a0) := WD.congr (fun k hk j => av_arr hTH15426 ga0 wH15468 gq15423 (by decide) (WD_ok 132 (by decide) k hk)) g15430
        have b15471 : UN (tk.toInt ≠ 0) (fun k => fI H15468 q24 k) (fun k => fI s.heap q24 k) := UN.congr (fun j => Wr.neI wH15468 (Or.inl (G_ne gq24 gq15423 (by decide)))) b15436
        have b15472 : UN (tk.toInt ≠ 0) (fun k => fI H15468 q29 k) (fun k => fI s.heap q29 k) := UN.congr (fun j => Wr.neI wH15468 (Or.inl (G_ne gq29 gq15423 (by decide)))) b15437
        have b15473 : UN (tk.toInt ≠ 0) (fun k => fI H15468 q30 k) (fun k => fI s.heap q30 k) := UN.congr (fun j => Wr.neI wH15468 (Or.inl (G_ne gq30 gq15423 (by decide)))) b15438
        have b15474 : UN (tk.toInt ≠ 0) (fun k => fI H15468 q31 k) (fun k => fI s.heap q31 k) := UN.congr (fun j => Wr.neI wH15468 (Or.inl (G_ne gq31 gq15423 (by decide)))) b15439
        have b15475 : UN (tk.toInt ≠ 0) (fun k => fI H15468 q32 k) (fun k => fI s.heap q32 k) := UN.congr (fun j => Wr.neI wH15468 (Or.inl (G_ne gq32 gq15423 (by decide)))) b15440
        have b15476 : UN (tk.toInt ≠ 0) (fun k => fI H15468 q33 k) (fun k => fI s.heap q33 k) := UN.congr (fun j => Wr.neI wH15468 (Or.inl (G_ne gq33 gq15423 (by decide)))) b15441
        have b15477 : UN (tk.toInt = 0) (fun k => fI H15468 iq k) (fun k => fI s.heap iq k) := UN.congr (fun j => Wr.neI wH15468 (Or.inl (G_ne giq gq15423 (by decide)))) b15459
        have b15478 : FB (fun k => fI H15468 iq k) (fun k => fI s.heap iq k) (8908) := FB.congr (fun j => Wr.neI wH15468 (Or.inl (G_ne giq gq15423 (by decide)))) b15460
        have b15479 : EQ (fun k => fI H15468 q24 k) (fun k => fI H15468 iq k) (8908) (1) (6) := EQ.congr (fun j => Wr.neI wH15468 (Or.inl (G_ne gq24 gq15423 (by decide)))) (fun j => Wr.neI wH15468 (Or.inl (G_ne giq gq15423 (by decide)))) b15461
        have b15480 : EQ (fun k => fI H15468 q27 k) (fun k => fI H15468 iq k) (8916) (7) (x15193.toNatClampNeg + 1) := EQ.congr (fun j => Wr.neI wH15468 (Or.inl (G_ne gq27 gq15423 (by decide)))) (fun j => Wr.neI wH15468 (Or.inl (G_ne giq gq15423 (by decide)))) b15462
        have b15481 : EQ (fun k => fI H15468 q29 k) (fun k => fI H15468 iq k) (8918) (7) (x15193.toNatClampNeg) := EQ.congr (fun j => Wr.neI wH15468 (Or.inl (G_ne gq29 gq15423 (by decide)))) (fun j => Wr.neI wH15468 (Or.inl (G_ne giq gq15423 (by decide)))) b15463
        have b15482 : EQ (fun k => fI H15468 q30 k) (fun k => fI H15468 iq k) (8919) (7) (x15193.toNatClampNeg) := EQ.congr (fun j => Wr.neI wH15468 (Or.inl (G_ne gq30 gq15423 (by decide)))) (fun j => Wr.neI wH15468 (Or.inl (G_ne giq gq15423 (by decide)))) b15464
        have b15483 : EQ (fun k => fI H15468 q31 k) (fun k => fI H15468 iq k) (8920) (7) (x15193.toNatClampNeg) := EQ.congr (fun j => Wr.neI wH15468 (Or.inl (G_ne gq31 gq15423 (by decide)))) (fun j => Wr.neI wH15468 (Or.inl (G_ne giq gq15423 (by decide)))) b15465
        have b15484 : EQ (fun k => fI H15468 q32 k) (fun k => fI H15468 iq k) (9586) (2) (0) := EQ.congr (fun j => Wr.neI wH15468 (Or.inl (G_ne gq32 gq15423 (by decide)))) (fun j => Wr.neI wH15468 (Or.inl (G_ne giq gq15423 (by decide)))) b15466
        have b15485 : EQ (fun k => fI H15468 q33 k) (fun k => fI H15468 iq k) (9587) (2) (0) := EQ.congr (fun j => Wr.neI wH15468 (Or.inl (G_ne gq33 gq15423 (by decide)))) (fun j => Wr.neI wH15468 (Or.inl (G_ne giq gq15423 (by decide)))) b15467
        have m15486 := m15442.trans (Wr.neI wH15468 (Or.inl (G_ne gq15200 gq15423 (by decide)))).symm
        have m15487 := m15443.trans (Wr.neI wH15468 (Or.inl (G_ne gq15271 gq15423 (by decide)))).symm
        have m15488 := m15444.trans (Wr.neI wH15468 (Or.inl (G_ne gq27 gq15423 (by decide)))).symm
        have m15490 := m15429.trans (Wr.neR wH15468 (Or.inl (G_ne ga0 gq15423 (by decide)))).symm
        have m15491 := m15447.trans (Wr.neR wH15468 (Or.inl (G_ne ga0 gq15423 (by decide)))).symm
        have m15492 := m15448.trans (Wr.neR wH15468 (Or.inl (G_ne ga0 gq15423 (by decide)))).symm
        have m15493 := m15449.trans (Wr.neR wH15468 (Or.inl (G_ne ga0 gq15423 (by decide)))).symm
        have m15494 := m15450.trans (Wr.neR wH15468 (Or.inl (G_ne ga0 gq15423 (by decide)))).symm
        have m15495 := m15451.trans (Wr.neR wH15468 (Or.inl (G_ne ga0 gq15423 (by decide)))).symm
        have m15496 := m15452.trans (Wr.neR wH15468 (Or.inl (G_ne ga0 gq15423 (by decide)))).symm
        have m15497 := m15453.trans (Wr.neR wH15468 (Or.inl (G_ne ga0 gq15423 (by decide)))).symm
        have m15498 := m15454.trans (Wr.neI wH15468 (Or.inl (G_ne ga0 gq15423 (by decide)))).symm
        have m15499 := m15455.trans (Wr.neR wH15468 (Or.inl (G_ne ga0 gq15423 (by decide)))).symm
        have m15500 := m15456.trans (Wr.neR wH15468 (Or.inl (G_ne ga0 gq15423 (by decide)))).symm
        have m15501 := m15457.trans (Wr.neR wH15468 (Or.inl (G_ne ga0 gq15423 (by decide)))).symm
        have m15502 := ex15428.trans (Wr.neI wH15468 (Or.inl (G_ne ga0 gq15423 (by decide)))).symm
        have m15503 := Wr.I wH15468
        have m15503 := m15503.symm
        clear b15436 b15437 b15438 b15439 b15440 b15441 b15459 b15460 b15461 b15462 b15463 b15464 b15465 b15466 b15467 ex15428 g15430 hTH15426 m15429 m15442 m15443 m15444 m15445 m15447 m15448 m15449 m15450 m15451 m15452 m15453 m15454 m15455 m15456 m15457 mf15458
        refine lv_aload_n hx hb dX10_keepsTexts_102 rfl (lv_at hl15192 0 rfl) ?_
        refine x_gr C hTH15468 (ci := 10) (k := 29) rfl inX10 (by decide) wF_X10_74 ga0 rg_112 rfl dX10_keepsTexts_103 (fun q15504 eq15504 gq15504 => ?_)
        have uq15504 : q29 = q15504 := (m15493).trans eq15504.symm
        subst uq15504
        clear eq15504
        refine lv_iload_n hx hb dX10_keepsTexts_106 rfl (lv_at hl15192 1 rfl) ?_
        refine lv_aload_n hx hb dX10_keepsTexts_107 rfl (lv_at hl15192 0 rfl) ?_
        refine lv_aload_n hx hb dX10_keepsTexts_108 rfl (lv_at hl15192 0 rfl) ?_
        refine x_gr C hTH15468 (ci := 10) (k := 29) rfl inX10 (by decide) wF_X10_74 ga0 rg_112 rfl dX10_keepsTexts_109 (fun q15505 eq15505 gq15505 => ?_)
        have uq15505 : q29 = q15505 := (m15493).trans eq15505.symm
        subst uq15505
        clear eq15505
        refine lv_iload_n hx hb dX10_keepsTexts_112 rfl (lv_at hl15192 1 rfl) ?_
        refine x_ai C hTH15468 gq29 rg_133 ⟨by omega, by show _ < ((112 : Nat) : Int); omega⟩ dX10_keepsTexts_113 (fun x15506 ex15506 bx15506 => ?_)
        refine x_V (As := [.int x15506]) (rest := [.int x15193, .ref q29]) C (a_X10_kept l K G H15468 (x15506) (x15428) (tk) hTH15468 ga0 giq m15490 m15502 m15498 g15470 (by and_intros <;> first | assumption | omega)) yo_X10_kept wM_X10_473 ⟨⟨by decide, by decide⟩, by decide, by decide⟩ (x_rv C hTH15468 (ci := 10) rfl ga0 rg_112) rfl hl15192.1 rfl (Nat.le_of_ble_eq_true rfl) dX10_keepsTexts_114 hSH15468 (AE_sub (fun _ _ => rfl) (by decide) hSH15468.1) (fun vH15507 H15507 locsH15507 pH15507 zH15507 kH15507 hSH15507 => ?_)
        obtain ⟨x15508, x15509, hvH15507, ex15509, hrH15507, m15510, g15511, mf15512, m15513, m15514, m15515, m15516, hTH15507⟩ := pH15507
        subst hvH15507
        clear zH15507
        replace m15510 := EQN.mk m15510
        have b15517 : UN (tk.toInt ≠ 0) (fun k => fI H15507 q24 k) (fun k => fI s.heap q24 k) := UN.congr (fun j => fI_kept (x_lt hTH15468 kH15507 gq24 (by decide))) b15471
        have b15518 : UN (tk.toInt ≠ 0) (fun k => fI H15507 q29 k) (fun k => fI s.heap q29 k) := UN.congr (fun j => fI_kept (x_lt hTH15468 kH15507 gq29 (by decide))) b15472
        have b15519 : UN (tk.toInt ≠ 0) (fun k => fI H15507 q30 k) (fun k => fI s.heap q30 k) := UN.congr (fun j => fI_kept (x_lt hTH15468 kH15507 gq30 (by decide))) b15473
        have b15520 : UN (tk.toInt ≠ 0) (fun k => fI H15507 q31 k) (fun k => fI s.heap q31 k) := UN.congr (fun j => fI_kept (x_lt hTH15468 kH15507 gq31 (by decide))) b15474
        have b15521 : UN (tk.toInt ≠ 0) (fun k => fI H15507 q32 k) (fun k => fI s.heap q32 k) := UN.congr (fun j => fI_kept (x_lt hTH15468 kH15507 gq32 (by decide))) b15475
        have b15522 : UN (tk.toInt ≠ 0) (fun k => fI H15507 q33 k) (fun k => fI s.heap q33 k) := UN.congr (fun j => fI_kept (x_lt hTH15468 kH15507 gq33 (by decide))) b15476
        have m15523 := (m15486).trans (fI_kept (x_lt hTH15468 kH15507 gq15200 (by decide))).symm
        have m15524 := (m15487).trans (fI_kept (x_lt hTH15468 kH15507 gq15271 (by decide))).symm
        have m15525 := (m15488).trans (fI_kept (x_lt hTH15468 kH15507 gq27 (by decide))).symm
        have m15526 := (m15503).trans (fI_kept (x_lt hTH15468 kH15507 gq15423 (by decide))).symm
        have m15527 := (ex15506).trans (fI_kept (x_lt hTH15468 kH15507 gq29 (by decide))).symm
        have m15528 := (m15490).trans (MF.r mf15512 (k := 73) (by decide) (by decide)).symm
        have m15529 := (m15491).trans (MF.r mf15512 (k := 24) (by decide) (by decide)).symm
        have m15530 := (m15492).trans (MF.r mf15512 (k := 27) (by decide) (by decide)).symm
        have m15531 := (m15493).trans (MF.r mf15512 (k := 29) (by decide) (by decide)).symm
        have m15532 := (m15494).trans (MF.r mf15512 (k := 30) (by decide) (by decide)).symm
        have m15533 := (m15495).trans (MF.r mf15512 (k := 31) (by decide) (by decide)).symm
        have m15534 := (m15496).trans (MF.r mf15512 (k := 32) (by decide) (by decide)).symm
        have m15535 := (m15497).trans (MF.r mf15512 (k := 33) (by decide) (by decide)).symm
        have m15536 := (m15498).trans (MF.i mf15512 (k := 71) (by decide) (by decide)).symm
        have m15537 := (m15499).trans (MF.r mf15512 (k := 25) (by decide) (by decide)).symm
        have m15538 := (m15500).trans (MF.r mf15512 (k := 26) (by decide) (by decide)).symm
        have m15539 := (m15501).trans (MF.r mf15512 (k := 28) (by decide) (by decide)).symm
        have mf15540 : MF K s.heap H15507 a0 [72] := MF.trans mf15469 mf15512 (by decide)
        have bx15509 := ty_fi (x := x15509) (k := 72) ex15509 hTH15507 ga0 rg_112 rfl
        have ce_x15428 := i_cl (x := x15428) (by omega)
        have b15541 : UN (tk.toInt = 0) (fun k => fI H15507 iq k) (fun k => fI s.heap iq k) := UN.tr m15516 b15477
        have b15542 : FB (fun k => fI H15507 iq k) (fun k => fI s.heap iq k) (8908) := FB.wr b15478 m15515 (fun j hj => by omega)
        have b15543 : EQ (fun k => fI H15507 q24 k) (fun k => fI H15507 iq k) (8908) (1) (6) := EQ.wr (EQ.congr (w1 := fun k => fI H15468 iq k) (fun j => fI_kept (x_lt hTH15468 kH15507 gq24 (by decide))) (fun _ => rfl) b15479) m15515 (fun j hj => by omega)
        have b15544 : EQ (fun k => fI H15507 q27 k) (fun k => fI H15507 iq k) (8916) (7) (x15193.toNatClampNeg + 1) := EQ.wr (EQ.congr (w1 := fun k => fI H15468 iq k) (fun j => fI_kept (x_lt hTH15468 kH15507 gq27 (by decide))) (fun _ => rfl) b15480) m15515 (fun j hj => by omega)
        have b15545 : EQ (fun k => fI H15507 q29 k) (fun k => fI H15507 iq k) (8918) (7) (x15193.toNatClampNeg) := EQ.wr (EQ.congr (w1 := fun k => fI H15468 iq k) (fun j => fI_kept (x_lt hTH15468 kH15507 gq29 (by decide))) (fun _ => rfl) b15481) m15515 (fun j hj => by omega)
        have b15546 : EQ (fun k => fI H15507 q30 k) (fun k => fI H15507 iq k) (8919) (7) (x15193.toNatClampNeg) := EQ.wr (EQ.congr (w1 := fun k => fI H15468 iq k) (fun j => fI_kept (x_lt hTH15468 kH15507 gq30 (by decide))) (fun _ => rfl) b15482) m15515 (fun j hj => by omega)
        have b15547 : EQ (fun k => fI H15507 q31 k) (fun k => fI H15507 iq k) (8920) (7) (x15193.toNatClampNeg) := EQ.wr (EQ.congr (w1 := fun k => fI H15468 iq k) (fun j => fI_kept (x_lt hTH15468 kH15507 gq31 (by decide))) (fun _ => rfl) b15483) m15515 (fun j hj => by omega)
        have b15548 : EQ (fun k => fI H15507 q32 k) (fun k => fI H15507 iq k) (9586) (2) (0) := EQ.wr (EQ.congr (w1 := fun k => fI H15468 iq k) (fun j => fI_kept (x_lt hTH15468 kH15507 gq32 (by decide))) (fun _ => rfl) b15484) m15515 (fun j hj => by omega)
        have b15549 : EQ (fun k => fI H15507 q33 k) (fun k => fI H15507 iq k) (9587) (2) (0) := EQ.wr (EQ.congr (w1 := fun k => fI H15468 iq k) (fun j => fI_kept (x_lt hTH15468 kH15507 gq33 (by decide))) (fun _ => rfl) b15485) m15515 (fun j hj => by omega)
        clear b15471 b15472 b15473 b15474 b15475 b15476 b15477 b15478 b15479 b15480 b15481 b15482 b15483 b15484 b15485 ex15506 m15486 m15487 m15488 m15490 m15491 m15492 m15493 m15494 m15495 m15496 m15497 m15498 m15499 m15500 m15501 m15502 m15503
        clear m15515 m15516
        have bx15508 : 0 ≤ x15508.toInt ∧ x15508.toInt ≤ 500 := kr (fun h0 => by have hiw := (hy0 h0); exact kr0 (w := fun k => fI H15507 iq k) m15513 (p := 8918 + 7 * x15193.toNatClampNeg) (by omega) (b15541 h0) ((hiw.2.2.2.2.1 x15193.toNatClampNeg (by omega)).2.1)) m15514 (by omega)
        refine W.eq (g2 := F0 m 117 ls15191 [.int x15508, .int x15193, .ref q29]) rfl ?_
        refine x_iast C hTH15507 hSH15507 gq29 rg_133 (by omega) (by show _ < ((112 : Nat) : Int); omega) ⟨by have := i_rng x15508; omega, by have := i_rng x15508; omega⟩ (AE_in gq29 (by decide)) dX10_keepsTexts_117 (fun H15550 locsH15550 hTH15550 hSH15550 wH15550 => ?_)
        have mf15551 : MF K s.heap H15550 a0 [72] := MF.arr wH15550 (G_ne ga0 gq29 (by decide)) mf15540
        have g15552 : WD (avw K H15550 a0) := WD.congr (fun k hk j => av_arr hTH15507 ga0 wH15550 gq29 (by decide) (WD_ok 133 (by decide) k hk)) g15511
        have b15553 : UN (tk.toInt ≠ 0) (fun k => fI H15550 q24 k) (fun k => fI s.heap q24 k) := UN.congr (fun j => Wr.neI wH15550 (Or.inl (G_ne gq24 gq29 (by decide)))) b15517
        have b15554 : UN (tk.toInt ≠ 0) (fun k => fI H15550 q29 k) (fun k => fI s.heap q29 k) := UN.st b15518 (i := x15193.toNatClampNeg) (fun hc => (m15514 hc).trans m15527) (Wr.I wH15550) (fun j hj => Wr.neI wH15550 (Or.inr hj))
        have b15555 : UN (tk.toInt ≠ 0) (fun k => fI H15550 q30 k) (fun k => fI s.heap q30 k) := UN.congr (fun j => Wr.neI wH15550 (Or.inl (G_ne gq30 gq29 (by decide)))) b15519
        have b15556 : UN (tk.toInt ≠ 0) (fun k => fI H15550 q31 k) (fun k => fI s.heap q31 k) := UN.congr (fun j => Wr.neI wH15550 (Or.inl (G_ne gq31 gq29 (by decide)))) b15520
        have b15557 : UN (tk.toInt ≠ 0) (fun k => fI H15550 q32 k) (fun k => fI s.heap q32 k) := UN.congr (fun j => Wr.neI wH15550 (Or.inl (G_ne gq32 gq29 (by decide)))) b15521
        have b15558 : UN (tk.toInt ≠ 0) (fun k => fI H15550 q33 k) (fun k => fI s.heap q33 k) := UN.congr (fun j => Wr.neI wH15550 (Or.inl (G_ne gq33 gq29 (by decide)))) b15522
        have b15559 : UN (tk.toInt = 0) (fun k => fI H15550 iq k) (fun k => fI s.heap iq k) := UN.congr (fun j => Wr.neI wH15550 (Or.inl (G_ne giq gq29 (by decide)))) b15541
        have b15560 : FB (fun k => fI H15550 iq k) (fun k => fI s.heap iq k) (8908) := FB.congr (fun j => Wr.neI wH15550 (Or.inl (G_ne giq gq29 (by decide)))) b15542
        have b15561 : EQ (fun k => fI H15550 q24 k) (fun k => fI H15550 iq k) (8908) (1) (6) := EQ.congr (fun j => Wr.neI wH15550 (Or.inl (G_ne gq24 gq29 (by decide)))) (fun j => Wr.neI wH15550 (Or.inl (G_ne giq gq29 (by decide)))) b15543
        have b15562 : EQ (fun k => fI H15550 q27 k) (fun k => fI H15550 iq k) (8916) (7) (x15193.toNatClampNeg + 1) := EQ.congr (fun j => Wr.neI wH15550 (Or.inl (G_ne gq27 gq29 (by decide)))) (fun j => Wr.neI wH15550 (Or.inl (G_ne giq gq29 (by decide)))) b15544
        have b15563 : EQ (fun k => fI H15550 q29 k) (fun k => fI H15550 iq k) (8918) (7) (x15193.toNatClampNeg + 1) := EQ.st b15545 (i := x15193.toNatClampNeg) (t := x15428.toNatClampNeg) (by omega) m15513 (by omega) (Wr.I wH15550) (fun j hj => Wr.neI wH15550 (Or.inr hj)) (fun j => Wr.neI wH15550 (Or.inl (G_ne giq gq29 (by decide))))
        have b15564 : EQ (fun k => fI H15550 q30 k) (fun k => fI H15550 iq k) (8919) (7) (x15193.toNatClampNeg) := EQ.congr (fun j => Wr.neI wH15550 (Or.inl (G_ne gq30 gq29 (by decide)))) (fun j => Wr.neI wH15550 (Or.inl (G_ne giq gq29 (by decide)))) b15546
        have b15565 : EQ (fun k => fI H15550 q31 k) (fun k => fI H15550 iq k) (8920) (7) (x15193.toNatClampNeg) := EQ.congr (fun j => Wr.neI wH15550 (Or.inl (G_ne gq31 gq29 (by decide)))) (fun j => Wr.neI wH15550 (Or.inl (G_ne giq gq29 (by decide)))) b15547
        have b15566 : EQ (fun k => fI H15550 q32 k) (fun k => fI H15550 iq k) (9586) (2) (0) := EQ.congr (fun j => Wr.neI wH15550 (Or.inl (G_ne gq32 gq29 (by decide)))) (fun j => Wr.neI wH15550 (Or.inl (G_ne giq gq29 (by decide)))) b15548
        have b15567 : EQ (fun k => fI H15550 q33 k) (fun k => fI H15550 iq k) (9587) (2) (0) := EQ.congr (fun j => Wr.neI wH15550 (Or.inl (G_ne gq33 gq29 (by decide)))) (fun j => Wr.neI wH15550 (Or.inl (G_ne giq gq29 (by decide)))) b15549
        have m15568 := m15523.trans (Wr.neI wH15550 (Or.inl (G_ne gq15200 gq29 (by decide)))).symm
        have m15569 := m15524.trans (Wr.neI wH15550 (Or.inl (G_ne gq15271 gq29 (by decide)))).symm
        have m15570 := m15525.trans (Wr.neI wH15550 (Or.inl (G_ne gq27 gq29 (by decide)))).symm
        have m15571 := m15526.trans (Wr.neI wH15550 (Or.inl (G_ne gq15423 gq29 (by decide)))).symm
        have m15573 := m15510.trans (Wr.neR wH15550 (Or.inl (G_ne ga0 gq29 (by decide)))).symm
        have m15574 := m15529.trans (Wr.neR wH15550 (Or.inl (G_ne ga0 gq29 (by decide)))).symm
        have m15575 := m15530.trans (Wr.neR wH15550 (Or.inl (G_ne ga0 gq29 (by decide)))).symm
        have m15576 := m15531.trans (Wr.neR wH15550 (Or.inl (G_ne ga0 gq29 (by decide)))).symm
        have m15577 := m15532.trans (Wr.neR wH15550 (Or.inl (G_ne ga0 gq29 (by decide)))).symm
        have m15578 := m15533.trans (Wr.neR wH15550 (Or.inl (G_ne ga0 gq29 (by decide)))).symm
        have m15579 := m15534.trans (Wr.neR wH15550 (Or.inl (G_ne ga0 gq29 (by decide)))).symm
        have m15580 := m15535.trans (Wr.neR wH15550 (Or.inl (G_ne ga0 gq29 (by decide)))).symm
        have m15581 := m15536.trans (Wr.neI wH15550 (Or.inl (G_ne ga0 gq29 (by decide)))).symm
        have m15582 := m15537.trans (Wr.neR wH15550 (Or.inl (G_ne ga0 gq29 (by decide)))).symm
        have m15583 := m15538.trans (Wr.neR wH15550 (Or.inl (G_ne ga0 gq29 (by decide)))).symm
        have m15584 := m15539.trans (Wr.neR wH15550 (Or.inl (G_ne ga0 gq29 (by decide)))).symm
        have m15585 := ex15509.trans (Wr.neI wH15550 (Or.inl (G_ne ga0 gq29 (by decide)))).symm
        have m15586 := Wr.I wH15550
        have m15586 := m15586.symm
        clear b15517 b15518 b15519 b15520 b15521 b15522 b15541 b15542 b15543 b15544 b15545 b15546 b15547 b15548 b15549 ex15509 g15511 hTH15507 m15510 m15523 m15524 m15525 m15526 m15527 m15529 m15530 m15531 m15532 m15533 m15534 m15535 m15536 m15537 m15538 m15539 mf15540
        refine lv_aload_n hx hb dX10_keepsTexts_118 rfl (lv_at hl15192 0 rfl) ?_
        refine x_gr C hTH15550 (ci := 10) (k := 30) rfl inX10 (by decide) wF_X10_77 ga0 rg_112 rfl dX10_keepsTexts_119 (fun q15587 eq15587 gq15587 => ?_)
        have uq15587 : q30 = q15587 := (m15577).trans eq15587.symm
        subst uq15587
        clear eq15587
        refine lv_iload_n hx hb dX10_keepsTexts_122 rfl (lv_at hl15192 1 rfl) ?_
        refine lv_aload_n hx hb dX10_keepsTexts_123 rfl (lv_at hl15192 0 rfl) ?_
        refine lv_aload_n hx hb dX10_keepsTexts_124 rfl (lv_at hl15192 0 rfl) ?_
        refine x_gr C hTH15550 (ci := 10) (k := 30) rfl inX10 (by decide) wF_X10_77 ga0 rg_112 rfl dX10_keepsTexts_125 (fun q15588 eq15588 gq15588 => ?_)
        have uq15588 : q30 = q15588 := (m15577).trans eq15588.symm
        subst uq15588
        clear eq15588
        refine lv_iload_n hx hb dX10_keepsTexts_128 rfl (lv_at hl15192 1 rfl) ?_
        refine x_ai C hTH15550 gq30 rg_134 ⟨by omega, by show _ < ((112 : Nat) : Int); omega⟩ dX10_keepsTexts_129 (fun x15589 ex15589 bx15589 => ?_)
        refine x_V (As := [.int x15589]) (rest := [.int x15193, .ref q30]) C (a_X10_kept l K G H15550 (x15589) (x15509) (tk) hTH15550 ga0 giq m15573 m15585 m15581 g15552 (by and_intros <;> first | assumption | omega)) yo_X10_kept wM_X10_473 ⟨⟨by decide, by decide⟩, by decide, by decide⟩ (x_rv C hTH15550 (ci := 10) rfl ga0 rg_112) rfl hl15192.1 rfl (Nat.le_of_ble_eq_true rfl) dX10_keepsTexts_130 hSH15550 (AE_sub (fun _ _ => rfl) (by decide) hSH15550.1) (fun vH15590 H15590 locsH15590 pH15590 zH15590 kH15590 hSH15590 => ?_)
        obtain ⟨x15591, x15592, hvH15590, ex15592, hrH15590, m15593, g15594, mf15595, m15596, m15597, m15598, m15599, hTH15590⟩ := pH15590
        subst hvH15590
        clear zH15590
        replace m15593 := EQN.mk m15593
        have b15600 : UN (tk.toInt ≠ 0) (fun k => fI H15590 q24 k) (fun k => fI s.heap q24 k) := UN.congr (fun j => fI_kept (x_lt hTH15550 kH15590 gq24 (by decide))) b15553
        have b15601 : UN (tk.toInt ≠ 0) (fun k => fI H15590 q29 k) (fun k => fI s.heap q29 k) := UN.congr (fun j => fI_kept (x_lt hTH15550 kH15590 gq29 (by decide))) b15554
        have b15602 : UN (tk.toInt ≠ 0) (fun k => fI H15590 q30 k) (fun k => fI s.heap q30 k) := UN.congr (fun j => fI_kept (x_lt hTH15550 kH15590 gq30 (by decide))) b15555
        have b15603 : UN (tk.toInt ≠ 0) (fun k => fI H15590 q31 k) (fun k => fI s.heap q31 k) := UN.congr (fun j => fI_kept (x_lt hTH15550 kH15590 gq31 (by decide))) b15556
        have b15604 : UN (tk.toInt ≠ 0) (fun k => fI H15590 q32 k) (fun k => fI s.heap q32 k) := UN.congr (fun j => fI_kept (x_lt hTH15550 kH15590 gq32 (by decide))) b15557
        have b15605 : UN (tk.toInt ≠ 0) (fun k => fI H15590 q33 k) (fun k => fI s.heap q33 k) := UN.congr (fun j => fI_kept (x_lt hTH15550 kH15590 gq33 (by decide))) b15558
        have m15606 := (m15568).trans (fI_kept (x_lt hTH15550 kH15590 gq15200 (by decide))).symm
        have m15607 := (m15569).trans (fI_kept (x_lt hTH15550 kH15590 gq15271 (by decide))).symm
        have m15608 := (m15570).trans (fI_kept (x_lt hTH15550 kH15590 gq27 (by decide))).symm
        have m15609 := (m15571).trans (fI_kept (x_lt hTH15550 kH15590 gq15423 (by decide))).symm
        have m15610 := (m15586).trans (fI_kept (x_lt hTH15550 kH15590 gq29 (by decide))).symm
        have m15611 := (ex15589).trans (fI_kept (x_lt hTH15550 kH15590 gq30 (by decide))).symm
        have m15612 := (m15573).trans (MF.r mf15595 (k := 73) (by decide) (by decide)).symm
        have m15613 := (m15574).trans (MF.r mf15595 (k := 24) (by decide) (by decide)).symm
        have m15614 := (m15575).trans (MF.r mf15595 (k := 27) (by decide) (by decide)).symm
        have m15615 := (m15576).trans (MF.r mf15595 (k := 29) (by decide) (by decide)).symm
        have m15616 := (m15577).trans (MF.r mf15595 (k := 30) (by decide) (by decide)).symm
        have m15617 := (m15578).trans (MF.r mf15595 (k := 31) (by decide) (by decide)).symm
        have m15618 := (m15579).trans (MF.r mf15595 (k := 32) (by decide) (by decide)).symm
        have m15619 := (m15580).trans (MF.r mf15595 (k := 33) (by decide) (by decide)).symm
        have m15620 := (m15581).trans (MF.i mf15595 (k := 71) (by decide) (by decide)).symm
        have m15621 := (m15582).trans (MF.r mf15595 (k := 25) (by decide) (by decide)).symm
        have m15622 := (m15583).trans (MF.r mf15595 (k := 26) (by decide) (by decide)).symm
        have m15623 := (m15584).trans (MF.r mf15595 (k := 28) (by decide) (by decide)).symm
        have mf15624 : MF K s.heap H15590 a0 [72] := MF.trans mf15551 mf15595 (by decide)
        have bx15592 := ty_fi (x := x15592) (k := 72) ex15592 hTH15590 ga0 rg_112 rfl
        have ce_x15509 := i_cl (x := x15509) (by omega)
        have b15625 : UN (tk.toInt = 0) (fun k => fI H15590 iq k) (fun k => fI s.heap iq k) := UN.tr m15599 b15559
        have b15626 : FB (fun k => fI H15590 iq k) (fun k => fI s.heap iq k) (8908) := FB.wr b15560 m15598 (fun j hj => by omega)
        have b15627 : EQ (fun k => fI H15590 q24 k) (fun k => fI H15590 iq k) (8908) (1) (6) := EQ.wr (EQ.congr (w1 := fun k => fI H15550 iq k) (fun j => fI_kept (x_lt hTH15550 kH15590 gq24 (by decide))) (fun _ => rfl) b15561) m15598 (fun j hj => by omega)
        have b15628 : EQ (fun k => fI H15590 q27 k) (fun k => fI H15590 iq k) (8916) (7) (x15193.toNatClampNeg + 1) := EQ.wr (EQ.congr (w1 := fun k => fI H15550 iq k) (fun j => fI_kept (x_lt hTH15550 kH15590 gq27 (by decide))) (fun _ => rfl) b15562) m15598 (fun j hj => by omega)
        have b15629 : EQ (fun k => fI H15590 q29 k) (fun k => fI H15590 iq k) (8918) (7) (x15193.toNatClampNeg + 1) := EQ.wr (EQ.congr (w1 := fun k => fI H15550 iq k) (fun j => fI_kept (x_lt hTH15550 kH15590 gq29 (by decide))) (fun _ => rfl) b15563) m15598 (fun j hj => by omega)
        have b15630 : EQ (fun k => fI H15590 q30 k) (fun k => fI H15590 iq k) (8919) (7) (x15193.toNatClampNeg) := EQ.wr (EQ.congr (w1 := fun k => fI H15550 iq k) (fun j => fI_kept (x_lt hTH15550 kH15590 gq30 (by decide))) (fun _ => rfl) b15564) m15598 (fun j hj => by omega)
        have b15631 : EQ (fun k => fI H15590 q31 k) (fun k => fI H15590 iq k) (8920) (7) (x15193.toNatClampNeg) := EQ.wr (EQ.congr (w1 := fun k => fI H15550 iq k) (fun j => fI_kept (x_lt hTH15550 kH15590 gq31 (by decide))) (fun _ => rfl) b15565) m15598 (fun j hj => by omega)
        have b15632 : EQ (fun k => fI H15590 q32 k) (fun k => fI H15590 iq k) (9586) (2) (0) := EQ.wr (EQ.congr (w1 := fun k => fI H15550 iq k) (fun j => fI_kept (x_lt hTH15550 kH15590 gq32 (by decide))) (fun _ => rfl) b15566) m15598 (fun j hj => by omega)
        have b15633 : EQ (fun k => fI H15590 q33 k) (fun k => fI H15590 iq k) (9587) (2) (0) := EQ.wr (EQ.congr (w1 := fun k => fI H15550 iq k) (fun j => fI_kept (x_lt hTH15550 kH15590 gq33 (by decide))) (fun _ => rfl) b15567) m15598 (fun j hj => by omega)
        clear b15553 b15554 b15555 b15556 b15557 b15558 b15559 b15560 b15561 b15562 b15563 b15564 b15565 b15566 b15567 ex15589 m15568 m15569 m15570 m15571 m15573 m15574 m15575 m15576 m15577 m15578 m15579 m15580 m15581 m15582 m15583 m15584 m15585 m15586
        clear m15598 m15599
        have bx15591 : 0 ≤ x15591.toInt ∧ x15591.toInt ≤ 500 := kr (fun h0 => by have hiw := (hy0 h0); exact kr0 (w := fun k => fI H15590 iq k) m15596 (p := 8919 + 7 * x15193.toNatClampNeg) (by omega) (b15625 h0) ((hiw.2.2.2.2.1 x15193.toNatClampNeg (by omega)).2.2.1)) m15597 (by omega)
        refine W.eq (g2 := F0 m 133 ls15191 [.int x15591, .int x15193, .ref q30]) rfl ?_
        refine x_iast C hTH15590 hSH15590 gq30 rg_134 (by omega) (by show _ < ((112 : Nat) : Int); omega) ⟨by have := i_rng x15591; omega, by have := i_rng x15591; omega⟩ (AE_in gq30 (by decide)) dX10_keepsTexts_133 (fun H15634 locsH15634 hTH15634 hSH15634 wH15634 => ?_)
        have mf15635 : MF K s.heap H15634 a0 [72] := MF.arr wH15634 (G_ne ga0 gq30 (by decide)) mf15624
        have g15636 : WD (avw K H15634 a0) := WD.congr (fun k hk j => av_arr hTH15590 ga0 wH15634 gq30 (by decide) (WD_ok 134 (by decide) k hk)) g15594
        have b15637 : UN (tk.toInt ≠ 0) (fun k => fI H15634 q24 k) (fun k => fI s.heap q24 k) := UN.congr (fun j => Wr.neI wH15634 (Or.inl (G_ne gq24 gq30 (by decide)))) b15600
        have b15638 : UN (tk.toInt ≠ 0) (fun k => fI H15634 q29 k) (fun k => fI s.heap q29 k) := UN.congr (fun j => Wr.neI wH15634 (Or.inl (G_ne gq29 gq30 (by decide)))) b15601
        have b15639 : UN (tk.toInt ≠ 0) (fun k => fI H15634 q30 k) (fun k => fI s.heap q30 k) := UN.st b15602 (i := x15193.toNatClampNeg) (fun hc => (m15597 hc).trans m15611) (Wr.I wH15634) (fun j hj => Wr.neI wH15634 (Or.inr hj))
        have b15640 : UN (tk.toInt ≠ 0) (fun k => fI H15634 q31 k) (fun k => fI s.heap q31 k) := UN.congr (fun j => Wr.neI wH15634 (Or.inl (G_ne gq31 gq30 (by decide)))) b15603
        have b15641 : UN (tk.toInt ≠ 0) (fun k => fI H15634 q32 k) (fun k => fI s.heap q32 k) := UN.congr (fun j => Wr.neI wH15634 (Or.inl (G_ne gq32 gq30 (by decide)))) b15604
        have b15642 : UN (tk.toInt ≠ 0) (fun k => fI H15634 q33 k) (fun k => fI s.heap q33 k) := UN.congr (fun j => Wr.neI wH15634 (Or.inl (G_ne gq33 gq30 (by decide)))) b15605
        have b15643 : UN (tk.toInt = 0) (fun k => fI H15634 iq k) (fun k => fI s.heap iq k) := UN.congr (fun j => Wr.neI wH15634 (Or.inl (G_ne giq gq30 (by decide)))) b15625
        have b15644 : FB (fun k => fI H15634 iq k) (fun k => fI s.heap iq k) (8908) := FB.congr (fun j => Wr.neI wH15634 (Or.inl (G_ne giq gq30 (by decide)))) b15626
        have b15645 : EQ (fun k => fI H15634 q24 k) (fun k => fI H15634 iq k) (8908) (1) (6) := EQ.congr (fun j => Wr.neI wH15634 (Or.inl (G_ne gq24 gq30 (by decide)))) (fun j => Wr.neI wH15634 (Or.inl (G_ne giq gq30 (by decide)))) b15627
        have b15646 : EQ (fun k => fI H15634 q27 k) (fun k => fI H15634 iq k) (8916) (7) (x15193.toNatClampNeg + 1) := EQ.congr (fun j => Wr.neI wH15634 (Or.inl (G_ne gq27 gq30 (by decide)))) (fun j => Wr.neI wH15634 (Or.inl (G_ne giq gq30 (by decide)))) b15628
        have b15647 : EQ (fun k => fI H15634 q29 k) (fun k => fI H15634 iq k) (8918) (7) (x15193.toNatClampNeg + 1) := EQ.congr (fun j => Wr.neI wH15634 (Or.inl (G_ne gq29 gq30 (by decide)))) (fun j => Wr.neI wH15634 (Or.inl (G_ne giq gq30 (by decide)))) b15629
        have b15648 : EQ (fun k => fI H15634 q30 k) (fun k => fI H15634 iq k) (8919) (7) (x15193.toNatClampNeg + 1) := EQ.st b15630 (i := x15193.toNatClampNeg) (t := x15509.toNatClampNeg) (by omega) m15596 (by omega) (Wr.I wH15634) (fun j hj => Wr.neI wH15634 (Or.inr hj)) (fun j => Wr.neI wH15634 (Or.inl (G_ne giq gq30 (by decide))))
        have b15649 : EQ (fun k => fI H15634 q31 k) (fun k => fI H15634 iq k) (8920) (7) (x15193.toNatClampNeg) := EQ.congr (fun j => Wr.neI wH15634 (Or.inl (G_ne gq31 gq30 (by decide)))) (fun j => Wr.neI wH15634 (Or.inl (G_ne giq gq30 (by decide)))) b15631
        have b15650 : EQ (fun k => fI H15634 q32 k) (fun k => fI H15634 iq k) (9586) (2) (0) := EQ.congr (fun j => Wr.neI wH15634 (Or.inl (G_ne gq32 gq30 (by decide)))) (fun j => Wr.neI wH15634 (Or.inl (G_ne giq gq30 (by decide)))) b15632
        have b15651 : EQ (fun k => fI H15634 q33 k) (fun k => fI H15634 iq k) (9587) (2) (0) := EQ.congr (fun j => Wr.neI wH15634 (Or.inl (G_ne gq33 gq30 (by decide)))) (fun j => Wr.neI wH15634 (Or.inl (G_ne giq gq30 (by decide)))) b15633
        have m15652 := m15606.trans (Wr.neI wH15634 (Or.inl (G_ne gq15200 gq30 (by decide)))).symm
        have m15653 := m15607.trans (Wr.neI wH15634 (Or.inl (G_ne gq15271 gq30 (by decide)))).symm
        have m15654 := m15608.trans (Wr.neI wH15634 (Or.inl (G_ne gq27 gq30 (by decide)))).symm
        have m15655 := m15609.trans (Wr.neI wH15634 (Or.inl (G_ne gq15423 gq30 (by decide)))).symm
        have m15656 := m15610.trans (Wr.neI wH15634 (Or.inl (G_ne gq29 gq30 (by decide)))).symm
        have m15658 := m15593.trans (Wr.neR wH15634 (Or.inl (G_ne ga0 gq30 (by decide)))).symm
        have m15659 := m15613.trans (Wr.neR wH15634 (Or.inl (G_ne ga0 gq30 (by decide)))).symm
        have m15660 := m15614.trans (Wr.neR wH15634 (Or.inl (G_ne ga0 gq30 (by decide)))).symm
        have m15661 := m15615.trans (Wr.neR wH15634 (Or.inl (G_ne ga0 gq30 (by decide)))).symm
        have m15662 := m15616.trans (Wr.neR wH15634 (Or.inl (G_ne ga0 gq30 (by decide)))).symm
        have m15663 := m15617.trans (Wr.neR wH15634 (Or.inl (G_ne ga0 gq30 (by decide)))).symm
        have m15664 := m15618.trans (Wr.neR wH15634 (Or.inl (G_ne ga0 gq30 (by decide)))).symm
        have m15665 := m15619.trans (Wr.neR wH15634 (Or.inl (G_ne ga0 gq30 (by decide)))).symm
        have m15666 := m15620.trans (Wr.neI wH15634 (Or.inl (G_ne ga0 gq30 (by decide)))).symm
        have m15667 := m15621.trans (Wr.neR wH15634 (Or.inl (G_ne ga0 gq30 (by decide)))).symm
        have m15668 := m15622.trans (Wr.neR wH15634 (Or.inl (G_ne ga0 gq30 (by decide)))).symm
        have m15669 := m15623.trans (Wr.neR wH15634 (Or.inl (G_ne ga0 gq30 (by decide)))).symm
        have m15670 := ex15592.trans (Wr.neI wH15634 (Or.inl (G_ne ga0 gq30 (by decide)))).symm
        have m15671 := Wr.I wH15634
        have m15671 := m15671.symm
        clear b15600 b15601 b15602 b15603 b15604 b15605 b15625 b15626 b15627 b15628 b15629 b15630 b15631 b15632 b15633 ex15592 g15594 hTH15590 m15593 m15606 m15607 m15608 m15609 m15610 m15611 m15613 m15614 m15615 m15616 m15617 m15618 m15619 m15620 m15621 m15622 m15623 mf15624
        refine lv_aload_n hx hb dX10_keepsTexts_134 rfl (lv_at hl15192 0 rfl) ?_
        refine x_gr C hTH15634 (ci := 10) (k := 31) rfl inX10 (by decide) wF_X10_80 ga0 rg_112 rfl dX10_keepsTexts_135 (fun q15672 eq15672 gq15672 => ?_)
        have uq15672 : q31 = q15672 := (m15663).trans eq15672.symm
        subst uq15672
        clear eq15672
        refine lv_iload_n hx hb dX10_keepsTexts_138 rfl (lv_at hl15192 1 rfl) ?_
        refine lv_aload_n hx hb dX10_keepsTexts_139 rfl (lv_at hl15192 0 rfl) ?_
        refine lv_aload_n hx hb dX10_keepsTexts_140 rfl (lv_at hl15192 0 rfl) ?_
        refine x_gr C hTH15634 (ci := 10) (k := 31) rfl inX10 (by decide) wF_X10_80 ga0 rg_112 rfl dX10_keepsTexts_141 (fun q15673 eq15673 gq15673 => ?_)
        have uq15673 : q31 = q15673 := (m15663).trans eq15673.symm
        subst uq15673
        clear eq15673
        refine lv_iload_n hx hb dX10_keepsTexts_144 rfl (lv_at hl15192 1 rfl) ?_
        refine x_ai C hTH15634 gq31 rg_135 ⟨by omega, by show _ < ((112 : Nat) : Int); omega⟩ dX10_keepsTexts_145 (fun x15674 ex15674 bx15674 => ?_)
        refine x_V (As := [.int x15674]) (rest := [.int x15193, .ref q31]) C (a_X10_kept l K G H15634 (x15674) (x15592) (tk) hTH15634 ga0 giq m15658 m15670 m15666 g15636 (by and_intros <;> first | assumption | omega)) yo_X10_kept wM_X10_473 ⟨⟨by decide, by decide⟩, by decide, by decide⟩ (x_rv C hTH15634 (ci := 10) rfl ga0 rg_112) rfl hl15192.1 rfl (Nat.le_of_ble_eq_true rfl) dX10_keepsTexts_146 hSH15634 (AE_sub (fun _ _ => rfl) (by decide) hSH15634.1) (fun vH15675 H15675 locsH15675 pH15675 zH15675 kH15675 hSH15675 => ?_)
        obtain ⟨x15676, x15677, hvH15675, ex15677, hrH15675, m15678, g15679, mf15680, m15681, m15682, m15683, m15684, hTH15675⟩ := pH15675
        subst hvH15675
        clear zH15675
        replace m15678 := EQN.mk m15678
        have b15685 : UN (tk.toInt ≠ 0) (fun k => fI H15675 q24 k) (fun k => fI s.heap q24 k) := UN.congr (fun j => fI_kept (x_lt hTH15634 kH15675 gq24 (by decide))) b15637
        have b15686 : UN (tk.toInt ≠ 0) (fun k => fI H15675 q29 k) (fun k => fI s.heap q29 k) := UN.congr (fun j => fI_kept (x_lt hTH15634 kH15675 gq29 (by decide))) b15638
        have b15687 : UN (tk.toInt ≠ 0) (fun k => fI H15675 q30 k) (fun k => fI s.heap q30 k) := UN.congr (fun j => fI_kept (x_lt hTH15634 kH15675 gq30 (by decide))) b15639
        have b15688 : UN (tk.toInt ≠ 0) (fun k => fI H15675 q31 k) (fun k => fI s.heap q31 k) := UN.congr (fun j => fI_kept (x_lt hTH15634 kH15675 gq31 (by decide))) b15640
        have b15689 : UN (tk.toInt ≠ 0) (fun k => fI H15675 q32 k) (fun k => fI s.heap q32 k) := UN.congr (fun j => fI_kept (x_lt hTH15634 kH15675 gq32 (by decide))) b15641
        have b15690 : UN (tk.toInt ≠ 0) (fun k => fI H15675 q33 k) (fun k => fI s.heap q33 k) := UN.congr (fun j => fI_kept (x_lt hTH15634 kH15675 gq33 (by decide))) b15642
        have m15691 := (m15652).trans (fI_kept (x_lt hTH15634 kH15675 gq15200 (by decide))).symm
        have m15692 := (m15653).trans (fI_kept (x_lt hTH15634 kH15675 gq15271 (by decide))).symm
        have m15693 := (m15654).trans (fI_kept (x_lt hTH15634 kH15675 gq27 (by decide))).symm
        have m15694 := (m15655).trans (fI_kept (x_lt hTH15634 kH15675 gq15423 (by decide))).symm
        have m15695 := (m15656).trans (fI_kept (x_lt hTH15634 kH15675 gq29 (by decide))).symm
        have m15696 := (m15671).trans (fI_kept (x_lt hTH15634 kH15675 gq30 (by decide))).symm
        have m15697 := (ex15674).trans (fI_kept (x_lt hTH15634 kH15675 gq31 (by decide))).symm
        have m15698 := (m15658).trans (MF.r mf15680 (k := 73) (by decide) (by decide)).symm
        have m15699 := (m15659).trans (MF.r mf15680 (k := 24) (by decide) (by decide)).symm
        have m15700 := (m15660).trans (MF.r mf15680 (k := 27) (by decide) (by decide)).symm
        have m15701 := (m15661).trans (MF.r mf15680 (k := 29) (by decide) (by decide)).symm
        have m15702 := (m15662).trans (MF.r mf15680 (k := 30) (by decide) (by decide)).symm
        have m15703 := (m15663).trans (MF.r mf15680 (k := 31) (by decide) (by decide)).symm
        have m15704 := (m15664).trans (MF.r mf15680 (k := 32) (by decide) (by decide)).symm
        have m15705 := (m15665).trans (MF.r mf15680 (k := 33) (by decide) (by decide)).symm
        have m15706 := (m15666).trans (MF.i mf15680 (k := 71) (by decide) (by decide)).symm
        have m15707 := (m15667).trans (MF.r mf15680 (k := 25) (by decide) (by decide)).symm
        have m15708 := (m15668).trans (MF.r mf15680 (k := 26) (by decide) (by decide)).symm
        have m15709 := (m15669).trans (MF.r mf15680 (k := 28) (by decide) (by decide)).symm
        have mf15710 : MF K s.heap H15675 a0 [72] := MF.trans mf15635 mf15680 (by decide)
        have bx15677 := ty_fi (x := x15677) (k := 72) ex15677 hTH15675 ga0 rg_112 rfl
        have ce_x15592 := i_cl (x := x15592) (by omega)
        have b15711 : UN (tk.toInt = 0) (fun k => fI H15675 iq k) (fun k => fI s.heap iq k) := UN.tr m15684 b15643
        have b15712 : FB (fun k => fI H15675 iq k) (fun k => fI s.heap iq k) (8908) := FB.wr b15644 m15683 (fun j hj => by omega)
        have b15713 : EQ (fun k => fI H15675 q24 k) (fun k => fI H15675 iq k) (8908) (1) (6) := EQ.wr (EQ.congr (w1 := fun k => fI H15634 iq k) (fun j => fI_kept (x_lt hTH15634 kH15675 gq24 (by decide))) (fun _ => rfl) b15645) m15683 (fun j hj => by omega)
        have b15714 : EQ (fun k => fI H15675 q27 k) (fun k => fI H15675 iq k) (8916) (7) (x15193.toNatClampNeg + 1) := EQ.wr (EQ.congr (w1 := fun k => fI H15634 iq k) (fun j => fI_kept (x_lt hTH15634 kH15675 gq27 (by decide))) (fun _ => rfl) b15646) m15683 (fun j hj => by omega)
        have b15715 : EQ (fun k => fI H15675 q29 k) (fun k => fI H15675 iq k) (8918) (7) (x15193.toNatClampNeg + 1) := EQ.wr (EQ.congr (w1 := fun k => fI H15634 iq k) (fun j => fI_kept (x_lt hTH15634 kH15675 gq29 (by decide))) (fun _ => rfl) b15647) m15683 (fun j hj => by omega)
        have b15716 : EQ (fun k => fI H15675 q30 k) (fun k => fI H15675 iq k) (8919) (7) (x15193.toNatClampNeg + 1) := EQ.wr (EQ.congr (w1 := fun k => fI H15634 iq k) (fun j => fI_kept (x_lt hTH15634 kH15675 gq30 (by decide))) (fun _ => rfl) b15648) m15683 (fun j hj => by omega)
        have b15717 : EQ (fun k => fI H15675 q31 k) (fun k => fI H15675 iq k) (8920) (7) (x15193.toNatClampNeg) := EQ.wr (EQ.congr (w1 := fun k => fI H15634 iq k) (fun j => fI_kept (x_lt hTH15634 kH15675 gq31 (by decide))) (fun _ => rfl) b15649) m15683 (fun j hj => by omega)
        have b15718 : EQ (fun k => fI H15675 q32 k) (fun k => fI H15675 iq k) (9586) (2) (0) := EQ.wr (EQ.congr (w1 := fun k => fI H15634 iq k) (fun j => fI_kept (x_lt hTH15634 kH15675 gq32 (by decide))) (fun _ => rfl) b15650) m15683 (fun j hj => by omega)
        have b15719 : EQ (fun k => fI H15675 q33 k) (fun k => fI H15675 iq k) (9587) (2) (0) := EQ.wr (EQ.congr (w1 := fun k => fI H15634 iq k) (fun j => fI_kept (x_lt hTH15634 kH15675 gq33 (by decide))) (fun _ => rfl) b15651) m15683 (fun j hj => by omega)
        clear b15637 b15638 b15639 b15640 b15641 b15642 b15643 b15644 b15645 b15646 b15647 b15648 b15649 b15650 b15651 ex15674 m15652 m15653 m15654 m15655 m15656 m15658 m15659 m15660 m15661 m15662 m15663 m15664 m15665 m15666 m15667 m15668 m15669 m15670 m15671
        clear m15683 m15684
        have bx15676 : 0 ≤ x15676.toInt ∧ x15676.toInt ≤ 500 := kr (fun h0 => by have hiw := (hy0 h0); exact kr0 (w := fun k => fI H15675 iq k) m15681 (p := 8920 + 7 * x15193.toNatClampNeg) (by omega) (b15711 h0) ((hiw.2.2.2.2.1 x15193.toNatClampNeg (by omega)).2.2.2)) m15682 (by omega)
        refine W.eq (g2 := F0 m 149 ls15191 [.int x15676, .int x15193, .ref q31]) rfl ?_
        refine x_iast C hTH15675 hSH15675 gq31 rg_135 (by omega) (by show _ < ((112 : Nat) : Int); omega) ⟨by have := i_rng x15676; omega, by have := i_rng x15676; omega⟩ (AE_in gq31 (by decide)) dX10_keepsTexts_149 (fun H15720 locsH15720 hTH15720 hSH15720 wH15720 => ?_)
        have mf15721 : MF K s.heap H15720 a0 [72] := MF.arr wH15720 (G_ne ga0 gq31 (by decide)) mf15710
        have g15722 : WD (avw K H15720 a0) := WD.congr (fun k hk j => av_arr hTH15675 ga0 wH15720 gq31 (by decide) (WD_ok 135 (by decide) k hk)) g15679
        have b15723 : UN (tk.toInt ≠ 0) (fun k => fI H15720 q24 k) (fun k => fI s.heap q24 k) := UN.congr (fun j => Wr.neI wH15720 (Or.inl (G_ne gq24 gq31 (by decide)))) b15685
        have b15724 : UN (tk.toInt ≠ 0) (fun k => fI H15720 q29 k) (fun k => fI s.heap q29 k) := UN.congr (fun j => Wr.neI wH15720 (Or.inl (G_ne gq29 gq31 (by decide)))) b15686
        have b15725 : UN (tk.toInt ≠ 0) (fun k => fI H15720 q30 k) (fun k => fI s.heap q30 k) := UN.congr (fun j => Wr.neI wH15720 (Or.inl (G_ne gq30 gq31 (by decide)))) b15687
        have b15726 : UN (tk.toInt ≠ 0) (fun k => fI H15720 q31 k) (fun k => fI s.heap q31 k) := UN.st b15688 (i := x15193.toNatClampNeg) (fun hc => (m15682 hc).trans m15697) (Wr.I wH15720) (fun j hj => Wr.neI wH15720 (Or.inr hj))
        have b15727 : UN (tk.toInt ≠ 0) (fun k => fI H15720 q32 k) (fun k => fI s.heap q32 k) := UN.congr (fun j => Wr.neI wH15720 (Or.inl (G_ne gq32 gq31 (by decide)))) b15689
        have b15728 : UN (tk.toInt ≠ 0) (fun k => fI H15720 q33 k) (fun k => fI s.heap q33 k) := UN.congr (fun j => Wr.neI wH15720 (Or.inl (G_ne gq33 gq31 (by decide)))) b15690
        have b15729 : UN (tk.toInt = 0) (fun k => fI H15720 iq k) (fun k => fI s.heap iq k) := UN.congr (fun j => Wr.neI wH15720 (Or.inl (G_ne giq gq31 (by decide)))) b15711
        have b15730 : FB (fun k => fI H15720 iq k) (fun k => fI s.heap iq k) (8908) := FB.congr (fun j => Wr.neI wH15720 (Or.inl (G_ne giq gq31 (by decide)))) b15712
        have b15731 : EQ (fun k => fI H15720 q24 k) (fun k => fI H15720 iq k) (8908) (1) (6) := EQ.congr (fun j => Wr.neI wH15720 (Or.inl (G_ne gq24 gq31 (by decide)))) (fun j => Wr.neI wH15720 (Or.inl (G_ne giq gq31 (by decide)))) b15713
        have b15732 : EQ (fun k => fI H15720 q27 k) (fun k => fI H15720 iq k) (8916) (7) (x15193.toNatClampNeg + 1) := EQ.congr (fun j => Wr.neI wH15720 (Or.inl (G_ne gq27 gq31 (by decide)))) (fun j => Wr.neI wH15720 (Or.inl (G_ne giq gq31 (by decide)))) b15714
        have b15733 : EQ (fun k => fI H15720 q29 k) (fun k => fI H15720 iq k) (8918) (7) (x15193.toNatClampNeg + 1) := EQ.congr (fun j => Wr.neI wH15720 (Or.inl (G_ne gq29 gq31 (by decide)))) (fun j => Wr.neI wH15720 (Or.inl (G_ne giq gq31 (by decide)))) b15715
        have b15734 : EQ (fun k => fI H15720 q30 k) (fun k => fI H15720 iq k) (8919) (7) (x15193.toNatClampNeg + 1) := EQ.congr (fun j => Wr.neI wH15720 (Or.inl (G_ne gq30 gq31 (by decide)))) (fun j => Wr.neI wH15720 (Or.inl (G_ne giq gq31 (by decide)))) b15716
        have b15735 : EQ (fun k => fI H15720 q31 k) (fun k => fI H15720 iq k) (8920) (7) (x15193.toNatClampNeg + 1) := EQ.st b15717 (i := x15193.toNatClampNeg) (t := x15592.toNatClampNeg) (by omega) m15681 (by omega) (Wr.I wH15720) (fun j hj => Wr.neI wH15720 (Or.inr hj)) (fun j => Wr.neI wH15720 (Or.inl (G_ne giq gq31 (by decide))))
        have b15736 : EQ (fun k => fI H15720 q32 k) (fun k => fI H15720 iq k) (9586) (2) (0) := EQ.congr (fun j => Wr.neI wH15720 (Or.inl (G_ne gq32 gq31 (by decide)))) (fun j => Wr.neI wH15720 (Or.inl (G_ne giq gq31 (by decide)))) b15718
        have b15737 : EQ (fun k => fI H15720 q33 k) (fun k => fI H15720 iq k) (9587) (2) (0) := EQ.congr (fun j => Wr.neI wH15720 (Or.inl (G_ne gq33 gq31 (by decide)))) (fun j => Wr.neI wH15720 (Or.inl (G_ne giq gq31 (by decide)))) b15719
        have m15738 := m15691.trans (Wr.neI wH15720 (Or.inl (G_ne gq15200 gq31 (by decide)))).symm
        have m15739 := m15692.trans (Wr.neI wH15720 (Or.inl (G_ne gq15271 gq31 (by decide)))).symm
        have m15740 := m15693.trans (Wr.neI wH15720 (Or.inl (G_ne gq27 gq31 (by decide)))).symm
        have m15741 := m15694.trans (Wr.neI wH15720 (Or.inl (G_ne gq15423 gq31 (by decide)))).symm
        have m15742 := m15695.trans (Wr.neI wH15720 (Or.inl (G_ne gq29 gq31 (by decide)))).symm
        have m15743 := m15696.trans (Wr.neI wH15720 (Or.inl (G_ne gq30 gq31 (by decide)))).symm
        have m15745 := m15678.trans (Wr.neR wH15720 (Or.inl (G_ne ga0 gq31 (by decide)))).symm
        have m15746 := m15699.trans (Wr.neR wH15720 (Or.inl (G_ne ga0 gq31 (by decide)))).symm
        have m15747 := m15700.trans (Wr.neR wH15720 (Or.inl (G_ne ga0 gq31 (by decide)))).symm
        have m15748 := m15701.trans (Wr.neR wH15720 (Or.inl (G_ne ga0 gq31 (by decide)))).symm
        have m15749 := m15702.trans (Wr.neR wH15720 (Or.inl (G_ne ga0 gq31 (by decide)))).symm
        have m15750 := m15703.trans (Wr.neR wH15720 (Or.inl (G_ne ga0 gq31 (by decide)))).symm
        have m15751 := m15704.trans (Wr.neR wH15720 (Or.inl (G_ne ga0 gq31 (by decide)))).symm
        have m15752 := m15705.trans (Wr.neR wH15720 (Or.inl (G_ne ga0 gq31 (by decide)))).symm
        have m15753 := m15706.trans (Wr.neI wH15720 (Or.inl (G_ne ga0 gq31 (by decide)))).symm
        have m15754 := m15707.trans (Wr.neR wH15720 (Or.inl (G_ne ga0 gq31 (by decide)))).symm
        have m15755 := m15708.trans (Wr.neR wH15720 (Or.inl (G_ne ga0 gq31 (by decide)))).symm
        have m15756 := m15709.trans (Wr.neR wH15720 (Or.inl (G_ne ga0 gq31 (by decide)))).symm
        have m15757 := ex15677.trans (Wr.neI wH15720 (Or.inl (G_ne ga0 gq31 (by decide)))).symm
        have m15758 := Wr.I wH15720
        have m15758 := m15758.symm
        clear b15685 b15686 b15687 b15688 b15689 b15690 b15711 b15712 b15713 b15714 b15715 b15716 b15717 b15718 b15719 ex15677 g15679 hTH15675 m15678 m15691 m15692 m15693 m15694 m15695 m15696 m15697 m15699 m15700 m15701 m15702 m15703 m15704 m15705 m15706 m15707 m15708 m15709 mf15710
        obtain ⟨x15759, ex15759⟩ : ∃ y : Int32, y = x15193 + 1 := ⟨_, rfl⟩
        have tx15759 := i_add ex15759 (by omega)
        refine lv_iinc (v := x15759) (lv' := [(1, .int x15759), (0, .ref a0)]) hx hb dX10_keepsTexts_150 hl15192 (k := 1) rfl (by rw [ex15759]; rfl) (by decide) rfl (fun ls15760 hl15761 => ?_)
        refine lv_goto (tgt := 32) hx hb dX10_keepsTexts_153 (by decide) ?_
        have cl_x15759 := i_cl (x := x15759) (by omega)
        exact ih32 ls15760 H15720 locsH15720 (x15759) (x15677) (lv_sub hl15761 [1, 0] rfl) hTH15720 hSH15720 ⟨by have := i_rng x15759; omega, by have := i_rng x15759; omega⟩ ⟨by have := i_rng x15677; omega, by have := i_rng x15677; omega⟩ m15757 m15745 m15746 m15747 m15748 m15749 m15750 m15751 m15752 m15753 b15729 b15730 (EQ.cast b15731 (by omega)) (EQ.cast b15732 (by omega)) (EQ.cast b15733 (by omega)) (EQ.cast b15734 (by omega)) (EQ.cast b15735 (by omega)) (EQ.cast b15736 (by omega)) (EQ.cast b15737 (by omega)) b15723 b15724 b15725 b15726 b15727 b15728 mf15721 g15722 (by omega) (by and_intros <;> first | assumption | omega)
  have J2 : ∀ (nf : Nat) (ls15763 : Array Slot) (H15762 : Heap) (locsH15762 : List Loc) (x15765 : Int32) (x15766 : Int32), lv_has ls15763 2 [(0, .ref a0), (1, .int x15765)] → TY K G H15762 → va_S (AE G [112, 162, 128, 129, 130, 131, 132, 133, 134, 135, 136, 137] s.heap.size) s.heap H15762 locsH15762 → (0 ≤ x15765.toInt ∧ x15765.toInt ≤ 6) → (0 ≤ x15766.toInt ∧ x15766.toInt ≤ 16400) → (x15766 = fI H15762 a0 (K.1.2 10 72)) → (EQN iq (fR H15762 a0 (K.1.2 10 73))) → (EQN q24 (fR H15762 a0 (K.1.2 10 24))) → (EQN q27 (fR H15762 a0 (K.1.2 10 27))) → (EQN q29 (fR H15762 a0 (K.1.2 10 29))) → (EQN q30 (fR H15762 a0 (K.1.2 10 30))) → (EQN q31 (fR H15762 a0 (K.1.2 10 31))) → (EQN q32 (fR H15762 a0 (K.1.2 10 32))) → (EQN q33 (fR H15762 a0 (K.1.2 10 33))) → (tk = fI H15762 a0 (K.1.2 10 71)) → (UN (tk.toInt = 0) (fun k => fI H15762 iq k) (fun k => fI s.heap iq k)) → (FB (fun k => fI H15762 iq k) (fun k => fI s.heap iq k) (8908)) → (EQ (fun k => fI H15762 q24 k) (fun k => fI H15762 iq k) (8908) (1) (x15765.toNatClampNeg)) → (EQ (fun k => fI H15762 q27 k) (fun k => fI H15762 iq k) (8916) (7) (0)) → (EQ (fun k => fI H15762 q29 k) (fun k => fI H15762 iq k) (8918) (7) (0)) → (EQ (fun k => fI H15762 q30 k) (fun k => fI H15762 iq k) (8919) (7) (0)) → (EQ (fun k => fI H15762 q31 k) (fun k => fI H15762 iq k) (8920) (7) (0)) → (EQ (fun k => fI H15762 q32 k) (fun k => fI H15762 iq k) (9586) (2) (0)) → (EQ (fun k => fI H15762 q33 k) (fun k => fI H15762 iq k) (9587) (2) (0)) → (UN (tk.toInt ≠ 0) (fun k => fI H15762 q24 k) (fun k => fI s.heap q24 k)) → (UN (tk.toInt ≠ 0) (fun k => fI H15762 q29 k) (fun k => fI s.heap q29 k)) → (UN (tk.toInt ≠ 0) (fun k => fI H15762 q30 k) (fun k => fI s.heap q30 k)) → (UN (tk.toInt ≠ 0) (fun k => fI H15762 q31 k) (fun k => fI s.heap q31 k)) → (UN (tk.toInt ≠ 0) (fun k => fI H15762 q32 k) (fun k => fI s.heap q32 k)) → (UN (tk.toInt ≠ 0) (fun k => fI H15762 q33 k) (fun k => fI s.heap q33 k)) → (MF K s.heap H15762 a0 [72]) → (WD (avw K H15762 a0)) → (6 - x15765.toInt < (nf : Int)) → (x15766.toInt = 8908 + 1 * x15765.toInt) → W p l e ({ frames := 1, cells := 0, slots := 0, locals := 21 } : Room) s m (([.ref a0] : List Value).toArray) below meth c H15762 locsH15762 0 0 Q (F0 m 2 ls15763 []) := by
    intro nf
    induction nf with
    | zero =>
      intro ls15763 H15762 locsH15762 x15765 x15766 hl15764 hTH15762 hSH15762 bx15765 bx15766 ex15766 cy15767_0 cy15767_1 cy15767_2 cy15767_3 cy15767_4 cy15767_5 cy15767_6 cy15767_7 cy15767_8 by15767_ui by15767_fb by15767_e24 by15767_e27 by15767_e29 by15767_e30 by15767_e31 by15767_e32 by15767_e33 by15767_u24 by15767_u29 by15767_u30 by15767_u31 by15767_u32 by15767_u33 mfy15767 gy15767_WD hm2 iv2
      exfalso
      omega
    | succ nf ih2 =>
      intro ls15763 H15762 locsH15762 x15765 x15766 hl15764 hTH15762 hSH15762 bx15765 bx15766 ex15766 cy15767_0 cy15767_1 cy15767_2 cy15767_3 cy15767_4 cy15767_5 cy15767_6 cy15767_7 cy15767_8 by15767_ui by15767_fb by15767_e24 by15767_e27 by15767_e29 by15767_e30 by15767_e31 by15767_e32 by15767_e33 by15767_u24 by15767_u29 by15767_u30 by15767_u31 by15767_u32 by15767_u33 mfy15767 gy15767_WD hm2 iv2
      refine lv_iload_n hx hb dX10_keepsTexts_2 rfl (lv_at hl15764 1 rfl) ?_
      refine lv_bipush (v := 6) hx hb dX10_keepsTexts_3 (by decide) ?_
      refine lv_icmp_ge (tgt := 30) hx hb dX10_keepsTexts_5 (by decide) (fun c15768 => ?_) (fun c15768 => ?_)
      · have k15769 := i_le c15768
        refine lv_iconst (v := 0) hx hb dX10_keepsTexts_30 (by decide) ?_
        refine lv_istore_n (lv' := [(1, .int 0), (0, .ref a0)]) hx hb dX10_keepsTexts_31 rfl hl15764 (by decide) rfl (fun ls15770 hl15771 => ?_)
        have cl00 : (0 : Int32).toNatClampNeg = 0 := rfl
        have cl_x15765 := i_cl (x := x15765) (by omega)
        exact J32 ((96 - (0 : Int32).toInt).toNat + 1) ls15770 H15762 locsH15762 (0) (x15766) (lv_sub hl15771 [1, 0] rfl) hTH15762 hSH15762 (by decide) ⟨by have := i_rng x15766; omega, by have := i_rng x15766; omega⟩ ex15766 cy15767_0 cy15767_1 cy15767_2 cy15767_3 cy15767_4 cy15767_5 cy15767_6 cy15767_7 cy15767_8 by15767_ui by15767_fb (EQ.cast by15767_e24 (by omega)) (EQ.cast by15767_e27 (by omega)) (EQ.cast by15767_e29 (by omega)) (EQ.cast by15767_e30 (by omega)) (EQ.cast by15767_e31 (by omega)) (EQ.cast by15767_e32 (by omega)) (EQ.cast by15767_e33 (by omega)) by15767_u24 by15767_u29 by15767_u30 by15767_u31 by15767_u32 by15767_u33 mfy15767 gy15767_WD (by omega) (by and_intros <;> first | assumption | omega)
      · have k15769 := i_nle c15768
        refine lv_aload_n hx hb dX10_keepsTexts_8 rfl (lv_at hl15764 0 rfl) ?_
        refine x_gr C hTH15762 (ci := 10) (k := 24) rfl inX10 (by decide) wF_X10_59 ga0 rg_112 rfl dX10_keepsTexts_9 (fun q15772 eq15772 gq15772 => ?_)
        have uq15772 : q24 = q15772 := (cy15767_1).trans eq15772.symm
        subst uq15772
        clear eq15772
        refine lv_iload_n hx hb dX10_keepsTexts_12 rfl (lv_at hl15764 1 rfl) ?_
        refine lv_aload_n hx hb dX10_keepsTexts_13 rfl (lv_at hl15764 0 rfl) ?_
        refine lv_aload_n hx hb dX10_keepsTexts_14 rfl (lv_at hl15764 0 rfl) ?_
        refine x_gr C hTH15762 (ci := 10) (k := 24) rfl inX10 (by decide) wF_X10_59 ga0 rg_112 rfl dX10_keepsTexts_15 (fun q15773 eq15773 gq15773 => ?_)
        have uq15773 : q24 = q15773 := (cy15767_1).trans eq15773.symm
        subst uq15773
        clear eq15773
        refine lv_iload_n hx hb dX10_keepsTexts_18 rfl (lv_at hl15764 1 rfl) ?_
        refine x_ai C hTH15762 gq24 rg_128 ⟨by omega, by show _ < ((7 : Nat) : Int); omega⟩ dX10_keepsTexts_19 (fun x15774 ex15774 bx15774 => ?_)
        refine x_V (As := [.int x15774]) (rest := [.int x15765, .ref q24]) C (a_X10_kept l K G H15762 (x15774) (x15766) (tk) hTH15762 ga0 giq cy15767_0 ex15766 cy15767_8 gy15767_WD (by and_intros <;> first | assumption | omega)) yo_X10_kept wM_X10_473 ⟨⟨by decide, by decide⟩, by decide, by decide⟩ (x_rv C hTH15762 (ci := 10) rfl ga0 rg_112) rfl hl15764.1 rfl (Nat.le_of_ble_eq_true rfl) dX10_keepsTexts_20 hSH15762 (AE_sub (fun _ _ => rfl) (by decide) hSH15762.1) (fun vH15775 H15775 locsH15775 pH15775 zH15775 kH15775 hSH15775 => ?_)
        obtain ⟨x15776, x15777, hvH15775, ex15777, hrH15775, m15778, g15779, mf15780, m15781, m15782, m15783, m15784, hTH15775⟩ := pH15775
        subst hvH15775
        clear zH15775
        replace m15778 := EQN.mk m15778
        have b15785 : UN (tk.toInt ≠ 0) (fun k => fI H15775 q24 k) (fun k => fI s.heap q24 k) := UN.congr (fun j => fI_kept (x_lt hTH15762 kH15775 gq24 (by decide))) by15767_u24
        have b15786 : UN (tk.toInt ≠ 0) (fun k => fI H15775 q29 k) (fun k => fI s.heap q29 k) := UN.congr (fun j => fI_kept (x_lt hTH15762 kH15775 gq29 (by decide))) by15767_u29
        have b15787 : UN (tk.toInt ≠ 0) (fun k => fI H15775 q30 k) (fun k => fI s.heap q30 k) := UN.congr (fun j => fI_kept (x_lt hTH15762 kH15775 gq30 (by decide))) by15767_u30
        have b15788 : UN (tk.toInt ≠ 0) (fun k => fI H15775 q31 k) (fun k => fI s.heap q31 k) := UN.congr (fun j => fI_kept (x_lt hTH15762 kH15775 gq31 (by decide))) by15767_u31
        have b15789 : UN (tk.toInt ≠ 0) (fun k => fI H15775 q32 k) (fun k => fI s.heap q32 k) := UN.congr (fun j => fI_kept (x_lt hTH15762 kH15775 gq32 (by decide))) by15767_u32
        have b15790 : UN (tk.toInt ≠ 0) (fun k => fI H15775 q33 k) (fun k => fI s.heap q33 k) := UN.congr (fun j => fI_kept (x_lt hTH15762 kH15775 gq33 (by decide))) by15767_u33
        have m15791 := (ex15774).trans (fI_kept (x_lt hTH15762 kH15775 gq24 (by decide))).symm
        have m15792 := (cy15767_0).trans (MF.r mf15780 (k := 73) (by decide) (by decide)).symm
        have m15793 := (cy15767_1).trans (MF.r mf15780 (k := 24) (by decide) (by decide)).symm
        have m15794 := (cy15767_2).trans (MF.r mf15780 (k := 27) (by decide) (by decide)).symm
        have m15795 := (cy15767_3).trans (MF.r mf15780 (k := 29) (by decide) (by decide)).symm
        have m15796 := (cy15767_4).trans (MF.r mf15780 (k := 30) (by decide) (by decide)).symm
        have m15797 := (cy15767_5).trans (MF.r mf15780 (k := 31) (by decide) (by decide)).symm
        have m15798 := (cy15767_6).trans (MF.r mf15780 (k := 32) (by decide) (by decide)).symm
        have m15799 := (cy15767_7).trans (MF.r mf15780 (k := 33) (by decide) (by decide)).symm
        have m15800 := (cy15767_8).trans (MF.i mf15780 (k := 71) (by decide) (by decide)).symm
        have mf15801 : MF K s.heap H15775 a0 [72] := MF.trans mfy15767 mf15780 (by decide)
        have bx15777 := ty_fi (x := x15777) (k := 72) ex15777 hTH15775 ga0 rg_112 rfl
        have ce_x15765 := i_cl (x := x15765) (by omega)
        have ce_x15766 := i_cl (x := x15766) (by omega)
        have b15802 : UN (tk.toInt = 0) (fun k => fI H15775 iq k) (fun k => fI s.heap iq k) := UN.tr m15784 by15767_ui
        have b15803 : FB (fun k => fI H15775 iq k) (fun k => fI s.heap iq k) (8908) := FB.wr by15767_fb m15783 (fun j hj => by omega)
        have b15804 : EQ (fun k => fI H15775 q24 k) (fun k => fI H15775 iq k) (8908) (1) (x15765.toNatClampNeg) := EQ.wr (EQ.congr (w1 := fun k => fI H15762 iq k) (fun j => fI_kept (x_lt hTH15762 kH15775 gq24 (by decide))) (fun _ => rfl) by15767_e24) m15783 (fun j hj => by omega)
        have b15805 : EQ (fun k => fI H15775 q27 k) (fun k => fI H15775 iq k) (8916) (7) (0) := EQ.wr (EQ.congr (w1 := fun k => fI H15762 iq k) (fun j => fI_kept (x_lt hTH15762 kH15775 gq27 (by decide))) (fun _ => rfl) by15767_e27) m15783 (fun j hj => by omega)
        have b15806 : EQ (fun k => fI H15775 q29 k) (fun k => fI H15775 iq k) (8918) (7) (0) := EQ.wr (EQ.congr (w1 := fun k => fI H15762 iq k) (fun j => fI_kept (x_lt hTH15762 kH15775 gq29 (by decide))) (fun _ => rfl) by15767_e29) m15783 (fun j hj => by omega)
        have b15807 : EQ (fun k => fI H15775 q30 k) (fun k => fI H15775 iq k) (8919) (7) (0) := EQ.wr (EQ.congr (w1 := fun k => fI H15762 iq k) (fun j => fI_kept (x_lt hTH15762 kH15775 gq30 (by decide))) (fun _ => rfl) by15767_e30) m15783 (fun j hj => by omega)
        have b15808 : EQ (fun k => fI H15775 q31 k) (fun k => fI H15775 iq k) (8920) (7) (0) := EQ.wr (EQ.congr (w1 := fun k => fI H15762 iq k) (fun j => fI_kept (x_lt hTH15762 kH15775 gq31 (by decide))) (fun _ => rfl) by15767_e31) m15783 (fun j hj => by omega)
        have b15809 : EQ (fun k => fI H15775 q32 k) (fun k => fI H15775 iq k) (9586) (2) (0) := EQ.wr (EQ.congr (w1 := fun k => fI H15762 iq k) (fun j => fI_kept (x_lt hTH15762 kH15775 gq32 (by decide))) (fun _ => rfl) by15767_e32) m15783 (fun j hj => by omega)
        have b15810 : EQ (fun k => fI H15775 q33 k) (fun k => fI H15775 iq k) (9587) (2) (0) := EQ.wr (EQ.congr (w1 := fun k => fI H15762 iq k) (fun j => fI_kept (x_lt hTH15762 kH15775 gq33 (by decide))) (fun _ => rfl) by15767_e33) m15783 (fun j hj => by omega)
        clear by15767_e24 by15767_e27 by15767_e29 by15767_e30 by15767_e31 by15767_e32 by15767_e33 by15767_fb by15767_u24 by15767_u29 by15767_u30 by15767_u31 by15767_u32 by15767_u33 by15767_ui cy15767_0 cy15767_1 cy15767_2 cy15767_3 cy15767_4 cy15767_5 cy15767_6 cy15767_7 cy15767_8 ex15766 ex15774
        clear m15783 m15784
        have bx15776 : 0 ≤ x15776.toInt ∧ x15776.toInt ≤ 16 := kr (fun h0 => by have hiw := (hy0 h0); exact kr0 (w := fun k => fI H15775 iq k) m15781 (p := 8908 + x15765.toNatClampNeg) (by omega) (b15802 h0) (hiw.2.2.2.1 x15765.toNatClampNeg (by omega))) m15782 (by omega)
        refine W.eq (g2 := F0 m 23 ls15763 [.int x15776, .int x15765, .ref q24]) rfl ?_
        refine x_iast C hTH15775 hSH15775 gq24 rg_128 (by omega) (by show _ < ((7 : Nat) : Int); omega) ⟨by have := i_rng x15776; omega, by have := i_rng x15776; omega⟩ (AE_in gq24 (by decide)) dX10_keepsTexts_23 (fun H15811 locsH15811 hTH15811 hSH15811 wH15811 => ?_)
        have mf15812 : MF K s.heap H15811 a0 [72] := MF.arr wH15811 (G_ne ga0 gq24 (by decide)) mf15801
        have g15813 : WD (avw K H15811 a0) := WD.congr (fun k hk j => av_arr hTH15775 ga0 wH15811 gq24 (by decide) (WD_ok 128 (by decide) k hk)) g15779
        have b15814 : UN (tk.toInt ≠ 0) (fun k => fI H15811 q24 k) (fun k => fI s.heap q24 k) := UN.st b15785 (i := x15765.toNatClampNeg) (fun hc => (m15782 hc).trans m15791) (Wr.I wH15811) (fun j hj => Wr.neI wH15811 (Or.inr hj))
        have b15815 : UN (tk.toInt ≠ 0) (fun k => fI H15811 q29 k) (fun k => fI s.heap q29 k) := UN.congr (fun j => Wr.neI wH15811 (Or.inl (G_ne gq29 gq24 (by decide)))) b15786
        have b15816 : UN (tk.toInt ≠ 0) (fun k => fI H15811 q30 k) (fun k => fI s.heap q30 k) := UN.congr (fun j => Wr.neI wH15811 (Or.inl (G_ne gq30 gq24 (by decide)))) b15787
        have b15817 : UN (tk.toInt ≠ 0) (fun k => fI H15811 q31 k) (fun k => fI s.heap q31 k) := UN.congr (fun j => Wr.neI wH15811 (Or.inl (G_ne gq31 gq24 (by decide)))) b15788
        have b15818 : UN (tk.toInt ≠ 0) (fun k => fI H15811 q32 k) (fun k => fI s.heap q32 k) := UN.congr (fun j => Wr.neI wH15811 (Or.inl (G_ne gq32 gq24 (by decide)))) b15789
        have b15819 : UN (tk.toInt ≠ 0) (fun k => fI H15811 q33 k) (fun k => fI s.heap q33 k) := UN.congr (fun j => Wr.neI wH15811 (Or.inl (G_ne gq33 gq24 (by decide)))) b15790
        have b15820 : UN (tk.toInt = 0) (fun k => fI H15811 iq k) (fun k => fI s.heap iq k) := UN.congr (fun j => Wr.neI wH15811 (Or.inl (G_ne giq gq24 (by decide)))) b15802
        have b15821 : FB (fun k => fI H15811 iq k) (fun k => fI s.heap iq k) (8908) := FB.congr (fun j => Wr.neI wH15811 (Or.inl (G_ne giq gq24 (by decide)))) b15803
        have b15822 : EQ (fun k => fI H15811 q24 k) (fun k => fI H15811 iq k) (8908) (1) (x15765.toNatClampNeg + 1) := EQ.st b15804 (i := x15765.toNatClampNeg) (t := x15766.toNatClampNeg) (by omega) m15781 (by omega) (Wr.I wH15811) (fun j hj => Wr.neI wH15811 (Or.inr hj)) (fun j => Wr.neI wH15811 (Or.inl (G_ne giq gq24 (by decide))))
        have b15823 : EQ (fun k => fI H15811 q27 k) (fun k => fI H15811 iq k) (8916) (7) (0) := EQ.congr (fun j => Wr.neI wH15811 (Or.inl (G_ne gq27 gq24 (by decide)))) (fun j => Wr.neI wH15811 (Or.inl (G_ne giq gq24 (by decide)))) b15805
        have b15824 : EQ (fun k => fI H15811 q29 k) (fun k => fI H15811 iq k) (8918) (7) (0) := EQ.congr (fun j => Wr.neI wH15811 (Or.inl (G_ne gq29 gq24 (by decide)))) (fun j => Wr.neI wH15811 (Or.inl (G_ne giq gq24 (by decide)))) b15806
        have b15825 : EQ (fun k => fI H15811 q30 k) (fun k => fI H15811 iq k) (8919) (7) (0) := EQ.congr (fun j => Wr.neI wH15811 (Or.inl (G_ne gq30 gq24 (by decide)))) (fun j => Wr.neI wH15811 (Or.inl (G_ne giq gq24 (by decide)))) b15807
        have b15826 : EQ (fun k => fI H15811 q31 k) (fun k => fI H15811 iq k) (8920) (7) (0) := EQ.congr (fun j => Wr.neI wH15811 (Or.inl (G_ne gq31 gq24 (by decide)))) (fun j => Wr.neI wH15811 (Or.inl (G_ne giq gq24 (by decide)))) b15808
        have b15827 : EQ (fun k => fI H15811 q32 k) (fun k => fI H15811 iq k) (9586) (2) (0) := EQ.congr (fun j => Wr.neI wH15811 (Or.inl (G_ne gq32 gq24 (by decide)))) (fun j => Wr.neI wH15811 (Or.inl (G_ne giq gq24 (by decide)))) b15809
        have b15828 : EQ (fun k => fI H15811 q33 k) (fun k => fI H15811 iq k) (9587) (2) (0) := EQ.congr (fun j => Wr.neI wH15811 (Or.inl (G_ne gq33 gq24 (by decide)))) (fun j => Wr.neI wH15811 (Or.inl (G_ne giq gq24 (by decide)))) b15810
        have m15830 := m15778.trans (Wr.neR wH15811 (Or.inl (G_ne ga0 gq24 (by decide)))).symm
        have m15831 := m15793.trans (Wr.neR wH15811 (Or.inl (G_ne ga0 gq24 (by decide)))).symm
        have m15832 := m15794.trans (Wr.neR wH15811 (Or.inl (G_ne ga0 gq24 (by decide)))).symm
        have m15833 := m15795.trans (Wr.neR wH15811 (Or.inl (G_ne ga0 gq24 (by decide)))).symm
        have m15834 := m15796.trans (Wr.neR wH15811 (Or.inl (G_ne ga0 gq24 (by decide)))).symm
        have m15835 := m15797.trans (Wr.neR wH15811 (Or.inl (G_ne ga0 gq24 (by decide)))).symm
        have m15836 := m15798.trans (Wr.neR wH15811 (Or.inl (G_ne ga0 gq24 (by decide)))).symm
        have m15837 := m15799.trans (Wr.neR wH15811 (Or.inl (G_ne ga0 gq24 (by decide)))).symm
        have m15838 := m15800.trans (Wr.neI wH15811 (Or.inl (G_ne ga0 gq24 (by decide)))).symm
        have m15839 := ex15777.trans (Wr.neI wH15811 (Or.inl (G_ne ga0 gq24 (by decide)))).symm
        have m15840 := Wr.I wH15811
        have m15840 := m15840.symm
        clear b15785 b15786 b15787 b15788 b15789 b15790 b15802 b15803 b15804 b15805 b15806 b15807 b15808 b15809 b15810 ex15777 g15779 hTH15775 m15778 m15791 m15793 m15794 m15795 m15796 m15797 m15798 m15799 m15800 mf15801
        obtain ⟨x15841, ex15841⟩ : ∃ y : Int32, y = x15765 + 1 := ⟨_, rfl⟩
        have tx15841 := i_add ex15841 (by omega)
        refine lv_iinc (v := x15841) (lv' := [(1, .int x15841), (0, .ref a0)]) hx hb dX10_keepsTexts_24 hl15764 (k := 1) rfl (by rw [ex15841]; rfl) (by decide) rfl (fun ls15842 hl15843 => ?_)
        refine lv_goto (tgt := 2) hx hb dX10_keepsTexts_27 (by decide) ?_
        have cl_x15841 := i_cl (x := x15841) (by omega)
        exact ih2 ls15842 H15811 locsH15811 (x15841) (x15777) (lv_sub hl15843 [1, 0] rfl) hTH15811 hSH15811 ⟨by have := i_rng x15841; omega, by have := i_rng x15841; omega⟩ ⟨by have := i_rng x15777; omega, by have := i_rng x15777; omega⟩ m15839 m15830 m15831 m15832 m15833 m15834 m15835 m15836 m15837 m15838 b15820 b15821 (EQ.cast b15822 (by omega)) (EQ.cast b15823 (by omega)) (EQ.cast b15824 (by omega)) (EQ.cast b15825 (by omega)) (EQ.cast b15826 (by omega)) (EQ.cast b15827 (by omega)) (EQ.cast b15828 (by omega)) b15814 b15815 b15816 b15817 b15818 b15819 mf15812 g15813 (by omega) (by and_intros <;> first | assumption | omega)
  have ui00 : UN (tk.toInt = 0) (fun k => fI s.heap iq k) (fun k => fI s.heap iq k) := UN.rf
  have fb00 : FB (fun k => fI s.heap iq k) (fun k => fI s.heap iq k) (8908) := FB.rf
  have e2400 : EQ (fun k => fI s.heap q24 k) (fun k => fI s.heap iq k) (8908) (1) (0) := EQ.nil rfl
  have e2700 : EQ (fun k => fI s.heap q27 k) (fun k => fI s.heap iq k) (8916) (7) (0) := EQ.nil rfl
  have e2900 : EQ (fun k => fI s.heap q29 k) (fun k => fI s.heap iq k) (8918) (7) (0) := EQ.nil rfl
  have e3000 : EQ (fun k => fI s.heap q30 k) (fun k => fI s.heap iq k) (8919) (7) (0) := EQ.nil rfl
  have e3100 : EQ (fun k => fI s.heap q31 k) (fun k => fI s.heap iq k) (8920) (7) (0) := EQ.nil rfl
  have e3200 : EQ (fun k => fI s.heap q32 k) (fun k => fI s.heap iq k) (9586) (2) (0) := EQ.nil rfl
  have e3300 : EQ (fun k => fI s.heap q33 k) (fun k => fI s.heap iq k) (9587) (2) (0) := EQ.nil rfl
  have u2400 : UN (tk.toInt ≠ 0) (fun k => fI s.heap q24 k) (fun k => fI s.heap q24 k) := UN.rf
  have u2900 : UN (tk.toInt ≠ 0) (fun k => fI s.heap q29 k) (fun k => fI s.heap q29 k) := UN.rf
  have u3000 : UN (tk.toInt ≠ 0) (fun k => fI s.heap q30 k) (fun k => fI s.heap q30 k) := UN.rf
  have u3100 : UN (tk.toInt ≠ 0) (fun k => fI s.heap q31 k) (fun k => fI s.heap q31 k) := UN.rf
  have u3200 : UN (tk.toInt ≠ 0) (fun k => fI s.heap q32 k) (fun k => fI s.heap q32 k) := UN.rf
  have u3300 : UN (tk.toInt ≠ 0) (fun k => fI s.heap q33 k) (fun k => fI s.heap q33 k) := UN.rf
  refine lv_iconst (v := 0) hx hb dX10_keepsTexts_0 (by decide) ?_
  refine lv_istore_n (lv' := [(1, .int 0), (0, .ref a0)]) hx hb dX10_keepsTexts_1 rfl hl (by decide) rfl (fun ls15844 hl15845 => ?_)
  have cl00 : (0 : Int32).toNatClampNeg = 0 := rfl
  exact J2 ((6 - (0 : Int32).toInt).toNat + 1) ls15844 s.heap [] (0) (ia) (lv_sub hl15845 [1, 0] rfl) hT hS (by decide) ⟨by have := i_rng ia; omega, by have := i_rng ia; omega⟩ eia eiq eq24 eq27 eq29 eq30 eq31 eq32 eq33 etk ui00 fb00 (EQ.cast e2400 (by omega)) (EQ.cast e2700 (by omega)) (EQ.cast e2900 (by omega)) (EQ.cast e3000 (by omega)) (EQ.cast e3100 (by omega)) (EQ.cast e3200 (by omega)) (EQ.cast e3300 (by omega)) u2400 u2900 u3000 u3100 u3200 u3300 mf0 hg_WD (by omega) (by and_intros <;> first | assumption | omega)
