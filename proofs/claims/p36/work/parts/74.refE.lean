/-! ===== the image ===== -/
def EQ (f w : Nat → Int32) (b s n : Nat) : Prop := ∀ j, j < n → f j = w (b + s * j)
theorem EQ.nil {f w : Nat → Int32} {b s n : Nat} (hn : n = 0) : EQ f w b s n := fun j hj => by omega
theorem EQ.congr {f w f1 w1 : Nat → Int32} {b s n : Nat} (e : ∀ j, f1 j = f j) (e2 : ∀ j, w1 j = w j) (h : EQ f w b s n) : EQ f1 w1 b s n := fun j hj => by rw [e, e2]; exact h j hj
theorem EQ.cast {f w : Nat → Int32} {b s n n' : Nat} (h : EQ f w b s n) (hn : n' = n) : EQ f w b s n' := by rw [hn]; exact h
theorem EQ.wr {f w w1 : Nat → Int32} {b s n t : Nat} (h : EQ f w b s n) (e : ∀ j, j ≠ t → w1 j = w j) (ht : ∀ j, j < n → b + s * j ≠ t) : EQ f w1 b s n := fun j hj => by rw [e _ (ht j hj)]; exact h j hj
theorem EQ.st {f f1 w w1 : Nat → Int32} {b s n i t : Nat} {x : Int32} (h : EQ f w b s n) (hi : i = n) (hx : x = w t) (ht : t = b + s * n) (h1 : f1 i = x) (h2 : ∀ j, j ≠ i → f1 j = f j) (e : ∀ j, w1 j = w j) : EQ f1 w1 b s (n + 1) := by
  subst hi
  intro j hj
  rw [e]
  by_cases c : j = i
  · subst c
    rw [h1, hx, ht]
  · rw [h2 j c]
    exact h j (by omega)
def UN (c : Prop) (f f0 : Nat → Int32) : Prop := c → ∀ j, f j = f0 j
theorem UN.rf {c : Prop} {f : Nat → Int32} : UN c f f := fun _ _ => rfl
theorem UN.congr {c : Prop} {f f0 f1 : Nat → Int32} (e : ∀ j, f1 j = f j) (h : UN c f f0) : UN c f1 f0 := fun hc j => (e j).trans (h hc j)
theorem UN.tr {c : Prop} {f f0 f1 : Nat → Int32} (e : c → ∀ j, f1 j = f j) (h : UN c f f0) : UN c f1 f0 := fun hc j => (e hc j).trans (h hc j)
theorem UN.st {c : Prop} {f f0 f1 : Nat → Int32} {i : Nat} {x : Int32} (h : UN c f f0) (hx : c → x = f i) (h1 : f1 i = x) (h2 : ∀ j, j ≠ i → f1 j = f j) : UN c f1 f0 := by
  intro hc j
  by_cases e : j = i
  · subst e
    rw [h1, hx hc]
    exact h hc j
  · rw [h2 j e]
    exact h hc j
def FB (w w0 : Nat → Int32) (n : Nat) : Prop := ∀ j, j < n → w j = w0 j
theorem FB.rf {w : Nat → Int32} {n : Nat} : FB w w n := fun _ _ => rfl
theorem FB.congr {w w0 w1 : Nat → Int32} {n : Nat} (e : ∀ j, w1 j = w j) (h : FB w w0 n) : FB w1 w0 n := fun j hj => (e j).trans (h j hj)
theorem FB.wr {w w0 w1 : Nat → Int32} {n t : Nat} (h : FB w w0 n) (e : ∀ j, j ≠ t → w1 j = w j) (ht : ∀ j, j < n → j ≠ t) : FB w1 w0 n := fun j hj => (e j (ht j hj)).trans (h j hj)
theorem kr {tk r x : Int32} {lo hi : Int} (h0 : tk.toInt = 0 → lo ≤ r.toInt ∧ r.toInt ≤ hi) (h1 : tk.toInt ≠ 0 → r = x) (hx : lo ≤ x.toInt ∧ x.toInt ≤ hi) : lo ≤ r.toInt ∧ r.toInt ≤ hi := by
  by_cases h : tk.toInt = 0
  · exact h0 h
  · rw [h1 h]; exact hx
theorem kr0 {w w0 : Nat → Int32} {r : Int32} {t p : Nat} {lo hi : Int} (hr : r = w t) (hp : t = p) (e : ∀ j, w j = w0 j) (h : iR w0 p lo hi) : lo ≤ r.toInt ∧ r.toInt ≤ hi := by
  rw [hr, hp, e]; exact h
theorem IMw.congr {w w1 : Nat → Int32} (e : ∀ j, w1 j = w j) (h : IMw w) : IMw w1 := by rw [show w1 = w from funext e]; exact h
theorem IM.w {K : KE} {H : Heap} {b q : Nat} (h : IM (avw K H b)) (e : q = fR H b (K.1.2 10 73)) : IMw (fun k => fI H q k) := by subst e; exact h
theorem EQ.av {K : KE} {H : Heap} {b k q i c s n : Nat} (e : q = fR H b (K.1.2 10 k)) (ei : i = fR H b (K.1.2 10 73)) (h : EQ (fun j => fI H q j) (fun j => fI H i j) c s n) : EQ (avw K H b k) (avw K H b 73) c s n := by subst e ei; exact h
theorem UN.av {K : KE} {H H0 : Heap} {b k q : Nat} {c : Prop} (e : q = fR H b (K.1.2 10 k)) (e0 : q = fR H0 b (K.1.2 10 k)) (h : UN c (fun j => fI H q j) (fun j => fI H0 q j)) : c → ∀ j, avw K H b k j = avw K H0 b k j := fun hc j => by
  unfold avw
  rw [← e, ← e0]
  exact h hc j
theorem tu_pic {v v' : Nat → Nat → Int32} {s s' : Nat → Int32} (h4 : ∀ j, j < 10 → v' 4 j = v 4 j) (h16 : ∀ j, j < 20 → v' 16 j = v 16 j) (hs : s' 1 = s 1) (hb : (s 1).toInt ≤ 10) (h : TU v s) : TU v' s' := by
  refine ⟨fun j hj => ?_, fun j hj => ?_⟩
  · rw [hs] at hj
    rw [h16 j (by omega)]
    exact h.1 j hj
  · rw [hs] at hj
    rw [h4 j (by omega)]
    exact h.2 j hj
theorem cg_pic {v v' : Nat → Nat → Int32} (h24 : ∀ j, j < 6 → v' 24 j = v 24 j) (h29 : ∀ j, j < 96 → v' 29 j = v 29 j ∧ v' 30 j = v 30 j ∧ v' 31 j = v 31 j) (h32 : ∀ j, j < 3000 → v' 32 j = v 32 j ∧ v' 33 j = v 33 j) (hb : ∀ j, j < 96 → (v 29 j).toInt ≤ 500 ∧ (v 30 j).toInt ≤ 500 ∧ (v 31 j).toInt ≤ 500) (h : CG v) : CG v' := by
  have cl : ∀ (y : Int32) (N : Nat), y.toInt ≤ (N : Int) → y.toNatClampNeg ≤ N := fun y N hy => by show y.toInt.toNat ≤ N; omega
  intro row l h1 h2 h3
  rw [h24 row h1] at h3
  obtain ⟨⟨E, q5⟩, F, q6⟩ := h row l h1 h2 h3
  have hl := h29 (16 * row + l) (by omega)
  have hb1 := hb (16 * row + l) (by omega)
  rw [hl.1, hl.2.1, hl.2.2]
  have y0 := cl (v 30 (16 * row + l)) 500 hb1.2.1
  have y1 := cl (v 31 (16 * row + l)) 500 hb1.2.2
  exact ⟨⟨E, q5.keep2 (fun j _ hz => (h32 j (by omega)).1) (fun j _ hz => (h32 j (by omega)).2)⟩, F, q6.keep2 (fun j _ hz => (h32 j (by omega)).1) (fun j _ hz => (h32 j (by omega)).2)⟩
theorem im_rng {K : KE} {G : Nat → Option Nat} {H : Heap} {b : Nat} (hT : TY K G H) (gb : G b = some 112) : (∀ j, j < 10 → (0 ≤ (avw K H b 4 j).toInt ∧ (avw K H b 4 j).toInt ≤ 16) ∧ (0 ≤ (avw K H b 10 j).toInt ∧ (avw K H b 10 j).toInt ≤ 200) ∧ 0 ≤ (avw K H b 50 j).toInt ∧ (avw K H b 50 j).toInt ≤ 12) ∧ (∀ j, j < 20 → 0 ≤ (avw K H b 16 j).toInt ∧ (avw K H b 16 j).toInt ≤ 9999) ∧ (∀ j, j < 6 → 0 ≤ (avw K H b 24 j).toInt ∧ (avw K H b 24 j).toInt ≤ 16) ∧
    ∀ j, j < 96 → (-1 ≤ (avw K H b 27 j).toInt ∧ (avw K H b 27 j).toInt ≤ 15) ∧ (0 ≤ (avw K H b 29 j).toInt ∧ (avw K H b 29 j).toInt ≤ 500) ∧ (0 ≤ (avw K H b 30 j).toInt ∧ (avw K H b 30 j).toInt ≤ 500) ∧ 0 ≤ (avw K H b 31 j).toInt ∧ (avw K H b 31 j).toInt ≤ 500 := by
  obtain ⟨-, -, -, -, -, g4⟩ := hT.fref (k := 4) gb rgM rfl
  obtain ⟨-, -, -, -, -, g10⟩ := hT.fref (k := 10) gb rgM rfl
  obtain ⟨-, -, -, -, -, g50⟩ := hT.fref (k := 50) gb rgM rfl
  obtain ⟨-, -, -, -, -, g16⟩ := hT.fref (k := 16) gb rgM rfl
  obtain ⟨-, -, -, -, -, g24⟩ := hT.fref (k := 24) gb rgM rfl
  obtain ⟨-, -, -, -, -, g27⟩ := hT.fref (k := 27) gb rgM rfl
  obtain ⟨-, -, -, -, -, g29⟩ := hT.fref (k := 29) gb rgM rfl
  obtain ⟨-, -, -, -, -, g30⟩ := hT.fref (k := 30) gb rgM rfl
  obtain ⟨-, -, -, -, -, g31⟩ := hT.fref (k := 31) gb rgM rfl
  refine ⟨fun j hj => ?_, fun j hj => ?_, fun j hj => ?_, fun j hj => ?_⟩
  · obtain ⟨-, -, -, -, -, -, a1⟩ := hT.aint g4 rg_113 hj
    obtain ⟨-, -, -, -, -, -, a2⟩ := hT.aint g10 rg_119 hj
    obtain ⟨-, -, -, -, -, -, a3⟩ := hT.aint g50 rg_146 hj
    exact ⟨a1, a2, a3⟩
  · obtain ⟨-, -, -, -, -, -, a1⟩ := hT.aint g16 rg_125 hj
    exact a1
  · obtain ⟨-, -, -, -, -, -, a1⟩ := hT.aint (j := j) g24 rg_128 (by omega)
    exact a1
  · obtain ⟨-, -, -, -, -, -, a1⟩ := hT.aint (j := j) g27 rg_131 (by omega)
    obtain ⟨-, -, -, -, -, -, a2⟩ := hT.aint (j := j) g29 rg_133 (by omega)
    obtain ⟨-, -, -, -, -, -, a3⟩ := hT.aint (j := j) g30 rg_134 (by omega)
    obtain ⟨-, -, -, -, -, -, a4⟩ := hT.aint (j := j) g31 rg_135 (by omega)
    exact ⟨a1, a2, a3, a4⟩
/-- what an image and the state have in common -/
def PIC (v : Nat → Nat → Int32) (w : Nat → Int32) : Prop := EQ (v 4) w 6 6 10 ∧ EQ (v 10) w 7 6 10 ∧ EQ (v 50) w 11 6 10 ∧ EQ (v 16) w 736 3 20 ∧ EQ (v 24) w 8908 1 6 ∧ EQ (v 27) w 8916 7 96 ∧ EQ (v 29) w 8918 7 96 ∧ EQ (v 30) w 8919 7 96 ∧ EQ (v 31) w 8920 7 96 ∧ EQ (v 32) w 9586 2 3000 ∧ EQ (v 33) w 9587 2 3000
theorem PIC.tu {v : Nat → Nat → Int32} {w : Nat → Int32} (h : PIC v w) : (∀ j, j < 10 → v 4 j = vI w 4 j) ∧ (∀ j, j < 20 → v 16 j = vI w 16 j) ∧ (∀ j, j < 6 → v 24 j = vI w 24 j) ∧ (∀ j, j < 96 → v 29 j = vI w 29 j ∧ v 30 j = vI w 30 j ∧ v 31 j = vI w 31 j) ∧ ∀ j, j < 3000 → v 32 j = vI w 32 j ∧ v 33 j = vI w 33 j := by
  obtain ⟨h4, -, -, h16, h24, -, h29, h30, h31, h32, h33⟩ := h
  exact ⟨fun j hj => h4 j hj, fun j hj => h16 j hj, fun j hj => (h24 j hj).trans (by show w (8908 + 1 * j) = w (8908 + j); rw [Nat.one_mul]), fun j hj => ⟨h29 j hj, h30 j hj, h31 j hj⟩, fun j hj => ⟨h32 j hj, h33 j hj⟩⟩
theorem im_fin {K : KE} {G : Nat → Option Nat} {H0 H : Heap} {b : Nat} {tk : Int32} (hT : TY K G H) (gb : G b = some 112) (cg : CG (avw K H0 b)) (tu : TU (avw K H0 b) (svw K H0 b)) (im : IM (avw K H0 b)) (pic : PIC (avw K H b) (avw K H b 73))
    (p0 : svw K H b 1 = avw K H b 73 0) (p1 : svw K H b 2 = avw K H b 73 1) (p3 : svw K H b 59 = avw K H b 73 3) (p4 : svw K H b 62 = avw K H b 73 4) (p5 : svw K H b 65 = avw K H b 73 5)
    (us : tk.toInt ≠ 0 → svw K H b 1 = svw K H0 b 1) (ua : ∀ k ∈ ([4, 16, 24, 29, 30, 31, 32, 33] : List Nat), tk.toInt ≠ 0 → ∀ j, avw K H b k j = avw K H0 b k j) (ui : tk.toInt = 0 → ∀ j, avw K H b 73 j = avw K H0 b 73 j) : CG (avw K H b) ∧ TU (avw K H b) (svw K H b) ∧ IM (avw K H b) := by
  have R := im_rng hT gb
  obtain ⟨-, -, -, -, -, b0⟩ := hT.fint (k := 1) gb rgM rfl
  obtain ⟨-, -, -, -, -, b1⟩ := hT.fint (k := 2) gb rgM rfl
  obtain ⟨-, -, -, -, -, b3⟩ := hT.fint (k := 59) gb rgM rfl
  obtain ⟨-, -, -, -, -, b4⟩ := hT.fint (k := 62) gb rgM rfl
  obtain ⟨-, -, -, -, -, b5⟩ := hT.fint (k := 65) gb rgM rfl
  obtain ⟨P4, P16, P24, P29, P32⟩ := pic.tu
  by_cases c : tk.toInt = 0
  · have eI : avw K H b 73 = avw K H0 b 73 := funext (ui c)
    have im1 : IMw (avw K H b 73) := by rw [eI]; exact im
    refine ⟨?_, ?_, im1⟩
    · refine cg_pic P24 P29 P32 (fun j hj => ?_) im1.2.2.2.2.2.2
      have r := (R.2.2.2 j hj).2
      rw [← (P29 j hj).1, ← (P29 j hj).2.1, ← (P29 j hj).2.2]
      exact ⟨r.1.2, r.2.1.2, r.2.2.2⟩
    · refine tu_pic P4 P16 p0 ?_ im1.2.2.2.2.2.1
      show (avw K H b 73 0).toInt ≤ 10
      rw [← p0]
      exact b0.2
  · have cg1 : CG (avw K H b) := CG.congr (fun k hk j => ua k (List.all_eq_true.mp (show ([24, 29, 30, 31, 32, 33] : List Nat).all (fun k => decide (k ∈ ([4, 16, 24, 29, 30, 31, 32, 33] : List Nat))) = true by decide) k hk |> of_decide_eq_true) c j) cg
    have tu1 : TU (avw K H b) (svw K H b) := TU.congr (fun k hk j => ua k (List.all_eq_true.mp (show ([16, 4] : List Nat).all (fun k => decide (k ∈ ([4, 16, 24, 29, 30, 31, 32, 33] : List Nat))) = true by decide) k hk |> of_decide_eq_true) c j) (fun k hk => by rw [List.mem_singleton.mp hk]; exact us c) tu
    refine ⟨cg1, tu1, ?_⟩
    obtain ⟨h4, h10, h50, h16, h24, h27, h29, h30, h31, h32, h33⟩ := pic
    refine ⟨⟨?_, ?_, ?_, ?_, ?_⟩, fun i hi => ⟨?_, ?_, ?_⟩, fun i hi => ?_, fun i hi => ?_, fun i hi => ⟨?_, ?_, ?_, ?_⟩, ?_, ?_⟩
    · show 0 ≤ (avw K H b 73 0).toInt ∧ (avw K H b 73 0).toInt ≤ 10; rw [← p0]; exact b0
    · show 0 ≤ (avw K H b 73 1).toInt ∧ (avw K H b 73 1).toInt ≤ 1; rw [← p1]; exact b1
    · show 0 ≤ (avw K H b 73 3).toInt ∧ (avw K H b 73 3).toInt ≤ 20; rw [← p3]; exact b3
    · show 0 ≤ (avw K H b 73 4).toInt ∧ (avw K H b 73 4).toInt ≤ 8; rw [← p4]; exact b4
    · show 0 ≤ (avw K H b 73 5).toInt ∧ (avw K H b 73 5).toInt ≤ 8; rw [← p5]; exact b5
    · show 0 ≤ (avw K H b 73 (6 + 6 * i)).toInt ∧ (avw K H b 73 (6 + 6 * i)).toInt ≤ 16; rw [← h4 i hi]; exact (R.1 i hi).1
    · show 0 ≤ (avw K H b 73 (7 + 6 * i)).toInt ∧ (avw K H b 73 (7 + 6 * i)).toInt ≤ 200; rw [← h10 i hi]; exact (R.1 i hi).2.1
    · show 0 ≤ (avw K H b 73 (11 + 6 * i)).toInt ∧ (avw K H b 73 (11 + 6 * i)).toInt ≤ 12; rw [← h50 i hi]; exact (R.1 i hi).2.2
    · show 0 ≤ (avw K H b 73 (736 + 3 * i)).toInt ∧ (avw K H b 73 (736 + 3 * i)).toInt ≤ 9999; rw [← h16 i hi]; exact R.2.1 i hi
    · have e := h24 i hi
      rw [Nat.one_mul] at e
      show 0 ≤ (avw K H b 73 (8908 + i)).toInt ∧ (avw K H b 73 (8908 + i)).toInt ≤ 16; rw [← e]; exact R.2.2.1 i hi
    · show (-1) ≤ (avw K H b 73 (8916 + 7 * i)).toInt ∧ (avw K H b 73 (8916 + 7 * i)).toInt ≤ 15; rw [← h27 i hi]; exact (R.2.2.2 i hi).1
    · show 0 ≤ (avw K H b 73 (8918 + 7 * i)).toInt ∧ (avw K H b 73 (8918 + 7 * i)).toInt ≤ 500; rw [← h29 i hi]; exact (R.2.2.2 i hi).2.1
    · show 0 ≤ (avw K H b 73 (8919 + 7 * i)).toInt ∧ (avw K H b 73 (8919 + 7 * i)).toInt ≤ 500; rw [← h30 i hi]; exact (R.2.2.2 i hi).2.2.1
    · show 0 ≤ (avw K H b 73 (8920 + 7 * i)).toInt ∧ (avw K H b 73 (8920 + 7 * i)).toInt ≤ 500; rw [← h31 i hi]; exact (R.2.2.2 i hi).2.2.2
    · exact tu_pic (fun j hj => (P4 j hj).symm) (fun j hj => (P16 j hj).symm) p0.symm b0.2 tu1
    · exact cg_pic (fun j hj => (P24 j hj).symm) (fun j hj => ⟨(P29 j hj).1.symm, (P29 j hj).2.1.symm, (P29 j hj).2.2.symm⟩) (fun j hj => ⟨(P32 j hj).1.symm, (P32 j hj).2.symm⟩) (fun j hj => ⟨(R.2.2.2 j hj).2.1.2, (R.2.2.2 j hj).2.2.1.2, (R.2.2.2 j hj).2.2.2.2⟩) cg1
set_option maxHeartbeats 4000000 in
set_option maxRecDepth 100000 in
theorem a_X10_kept (l : Launch) (K : KE) (G : Nat → Option Nat) (H : Heap) {a0 : Nat} (x1 : Int32) {iq : Nat} (ia : Int32) (tk : Int32) (hT : TY K G H) (ga0 : G a0 = some 112) (giq : G iq = some 162) (eiq : iq = fR H a0 (K.1.2 10 73)) (eia : ia = fI H a0 (K.1.2 10 72)) (etk : tk = fI H a0 (K.1.2 10 71)) (hg_WD : WD (avw K H a0)) (hp0 : ia.toInt ≤ 16399) : MX l K yX10_kept cX10_kept 2 (some .int) 0 0 0 0 [.ref a0, .int x1] H (AE G [112, 162] H.size) (fun v H1 => ∃ (r : Int32) (t0 : Int32), v = some (.int r) ∧ t0 = fI H1 a0 (K.1.2 10 72) ∧ (t0.toInt = ia.toInt + 1) ∧ iq = fR H1 a0 (K.1.2 10 73) ∧ (WD (avw K H1 a0)) ∧ MF K H H1 a0 [72] ∧ (r = fI H1 iq ia.toNatClampNeg) ∧ (tk.toInt ≠ 0 → r = x1) ∧ (∀ j : Nat, j ≠ ia.toNatClampNeg → fI H1 iq j = fI H iq j) ∧ (tk.toInt = 0 → ∀ j : Nat, fI H1 iq j = fI H iq j) ∧ TY K G H1) := by
  refine MX.of (by decide +kernel) (Nat.le_of_ble_eq_true rfl) ?_
  intro p e s m below meth c ls Q C hH hl hQ
  subst hH
  have C : CX p K s m _ meth c RX10 cX10_kept 2 (some .int) "kept" := C
  obtain ⟨hx, hb, hml, hown, hts, hKT, hr, hlocks, hnm⟩ := id C
  have hl : lv_has ls 2 [(0, .ref a0), (1, .int x1)] := hl
  have hS : va_S (AE G [112, 162] s.heap.size) s.heap s.heap [] := va_S.rf
  have n_0 : (0 : Int32).toInt = 0 := rfl
  have n_1 : (1 : Int32).toInt = 1 := rfl
  have bia := ty_fi (x := ia) (k := 72) eia hT ga0 rg_112 rfl
  have btk := ty_fi (x := tk) (k := 71) etk hT ga0 rg_112 rfl
  have hap : ∀ x y, x < 74 → y < 74 → x ≠ y → K.1.2 10 x ≠ K.1.2 10 y := x_apart hKT hts inX10 tyX10 tyX10_ok nmX10 rfl
  have mf0 : MF K s.heap s.heap a0 [72] := fun _ _ _ => rfl
  replace eiq := EQN.mk eiq
  refine lv_aload_n hx hb dX10_kept_0 rfl (lv_at hl 0 rfl) ?_
  refine lv_aload_n hx hb dX10_kept_1 rfl (lv_at hl 0 rfl) ?_
  refine x_gi C hT (ci := 10) (k := 72) rfl inX10 (by decide) wF_X10_467 ga0 rg_112 rfl dX10_kept_2 (fun x205 ex205 bx205 => ?_)
  have ux205 : ia = x205 := (eia).trans ex205.symm
  subst ux205
  refine lv_iconst (v := 1) hx hb dX10_kept_5 (by decide) ?_
  refine lv_iadd hx hb dX10_kept_6 ?_
  refine lv_topi (fun x206 ex206 => ?_)
  have tx206 := i_add ex206 (by omega)
  refine x_put C hT hS (ci := 10) (k := 72) (v := .int x206) (ty0 := tyX10) rfl inX10 tyX10_ok nmX10 (by decide) rfl wF_X10_467 ga0 rg_112 rfl rfl (okI (by have := i_rng x206; omega) (by have := i_rng x206; omega)) rfl rfl (AE_in ga0 (by decide)) dX10_kept_7 (fun H207 locsH207 hTH207 hSH207 wH207 => ?_)
  have mf208 : MF K s.heap H207 a0 [72] := MF.fld hap wH207 (by decide) (by decide) mf0
  have g209 : WD (avw K H207 a0) := WD.congr (fun k hk j => av_fld hT ga0 hap wH207 (by decide) (WD_ok 112 (by decide) k hk) (WD_ne 72 (by decide) k hk)) hg_WD
  have m210 := eiq.trans (Wr.neR wH207 (Or.inr (x_apart hKT hts inX10 tyX10 tyX10_ok nmX10 rfl 73 72 (by decide) (by decide) (by decide)))).symm
  have m212 := etk.trans (Wr.neI wH207 (Or.inr (x_apart hKT hts inX10 tyX10 tyX10_ok nmX10 rfl 71 72 (by decide) (by decide) (by decide)))).symm
  have m213 := Wr.I wH207
  have m213 := m213.symm
  refine lv_aload_n hx hb dX10_kept_10 rfl (lv_at hl 0 rfl) ?_
  refine x_gi C hTH207 (ci := 10) (k := 71) rfl inX10 (by decide) wF_X10_470 ga0 rg_112 rfl dX10_kept_11 (fun x214 ex214 bx214 => ?_)
  have ux214 : tk = x214 := (m212).trans ex214.symm
  subst ux214
  refine lv_if_ne (tgt := 29) hx hb dX10_kept_14 (by decide) (fun c215 => ?_) (fun c215 => ?_)
  · have k216 := i_ne c215
    refine lv_aload_n hx hb dX10_kept_29 rfl (lv_at hl 0 rfl) ?_
    refine x_gr C hTH207 (ci := 10) (k := 73) rfl inX10 (by decide) wF_X10_164 ga0 rg_112 rfl dX10_kept_30 (fun q217 eq217 gq217 => ?_)
    have uq217 : iq = q217 := (m210).trans eq217.symm
    subst uq217
    clear eq217
    refine lv_aload_n hx hb dX10_kept_33 rfl (lv_at hl 0 rfl) ?_
    refine x_gi C hTH207 (ci := 10) (k := 72) rfl inX10 (by decide) wF_X10_467 ga0 rg_112 rfl dX10_kept_34 (fun x218 ex218 bx218 => ?_)
    have ux218 : x206 = x218 := (m213).trans ex218.symm
    subst ux218
    refine lv_iconst (v := 1) hx hb dX10_kept_37 (by decide) ?_
    refine lv_isub hx hb dX10_kept_38 ?_
    refine lv_topi (fun x219 ex219 => ?_)
    have tx219 := i_sub ex219 (by omega)
    refine lv_iload_n hx hb dX10_kept_39 rfl (lv_at hl 1 rfl) ?_
    refine x_iast C hTH207 hSH207 giq rg_162 (by omega) (by show _ < ((16400 : Nat) : Int); omega) ⟨by have := i_rng x1; omega, by have := i_rng x1; omega⟩ (AE_in giq (by decide)) dX10_kept_40 (fun H220 locsH220 hTH220 hSH220 wH220 => ?_)
    have mf221 : MF K s.heap H220 a0 [72] := MF.arr wH220 (G_ne ga0 giq (by decide)) mf208
    have g222 : WD (avw K H220 a0) := WD.congr (fun k hk j => av_arr hTH207 ga0 wH220 giq (by decide) (WD_ok 162 (by decide) k hk)) g209
    have m223 := m210.trans (Wr.neR wH220 (Or.inl (G_ne ga0 giq (by decide)))).symm
    have m224 := m212.trans (Wr.neI wH220 (Or.inl (G_ne ga0 giq (by decide)))).symm
    have m225 := m213.trans (Wr.neI wH220 (Or.inl (G_ne ga0 giq (by decide)))).symm
    have m226 := Wr.I wH220
    have m226 := m226.symm
    refine lv_iload_n hx hb dX10_kept_41 rfl (lv_at hl 1 rfl) ?_
    have ck_x219 := i_cl (x := x219) (by omega)
    have ck_ia := i_cl (x := ia) (by omega)
    exact x_iret C hQ dX10_kept_42 hSH220 (by decide) (by decide) (⟨x1, x206, rfl, m225, by omega, m223, g222, mf221, (by rw [show ia.toNatClampNeg = x219.toNatClampNeg by omega]; exact m226), (fun _ => rfl), (fun j hj => (Wr.neI wH220 (Or.inr (by omega))).trans (Wr.neI wH207 (Or.inl (G_ne giq ga0 (by decide))))), (fun h => absurd h (by omega)), hTH220⟩)
  · have k216 := i_eq c215
    refine lv_aload_n hx hb dX10_kept_17 rfl (lv_at hl 0 rfl) ?_
    refine x_gr C hTH207 (ci := 10) (k := 73) rfl inX10 (by decide) wF_X10_164 ga0 rg_112 rfl dX10_kept_18 (fun q227 eq227 gq227 => ?_)
    have uq227 : iq = q227 := (m210).trans eq227.symm
    subst uq227
    clear eq227
    refine lv_aload_n hx hb dX10_kept_21 rfl (lv_at hl 0 rfl) ?_
    refine x_gi C hTH207 (ci := 10) (k := 72) rfl inX10 (by decide) wF_X10_467 ga0 rg_112 rfl dX10_kept_22 (fun x228 ex228 bx228 => ?_)
    have ux228 : x206 = x228 := (m213).trans ex228.symm
    subst ux228
    refine lv_iconst (v := 1) hx hb dX10_kept_25 (by decide) ?_
    refine lv_isub hx hb dX10_kept_26 ?_
    refine lv_topi (fun x229 ex229 => ?_)
    have tx229 := i_sub ex229 (by omega)
    refine x_ai C hTH207 giq rg_162 ⟨by omega, by show _ < ((16400 : Nat) : Int); omega⟩ dX10_kept_27 (fun x230 ex230 bx230 => ?_)
    have ck_x229 := i_cl (x := x229) (by omega)
    have ck_ia := i_cl (x := ia) (by omega)
    exact x_iret C hQ dX10_kept_28 hSH207 (by decide) (by decide) (⟨x230, x206, rfl, m213, by omega, m210, g209, mf208, (by rw [show ia.toNatClampNeg = x229.toNatClampNeg by omega]; exact ex230), (fun h => absurd (by omega) h), (fun j _ => (Wr.neI wH207 (Or.inl (G_ne giq ga0 (by decide))))), (fun _ j => (Wr.neI wH207 (Or.inl (G_ne giq ga0 (by decide))))), hTH207⟩)
