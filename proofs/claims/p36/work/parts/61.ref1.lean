/-! ===== the reference's state as a picture: arrays and ints by their fields ===== -/
def fsM : List FT := [(0, (-2147483648), 2147483647), (0, 0, 10), (0, 0, 1), (0, (-2147483648), 2147483647), (2, 113, 0), (2, 114, 0), (2, 115, 0), (2, 116, 0), (2, 117, 0), (2, 118, 0), (2, 119, 0), (2, 120, 0), (2, 121, 0), (2, 122, 0), (2, 123, 0), (2, 124, 0), (2, 125, 0), (2, 126, 0), (0, 0, 500), (0, 0, 500), (0, 0, 500), (0, (-2147483648), 2147483647), (0, (-2147483648), 2147483647), (2, 127, 0), (2, 128, 0), (2, 129, 0), (2, 130, 0), (2, 131, 0), (2, 132, 0), (2, 133, 0), (2, 134, 0), (2, 135, 0), (2, 136, 0), (2, 137, 0), (0, 0, 1), (0, 0, 500), (0, 0, 8), (2, 138, 0), (0, 0, 40), (0, (-2147483648), 2147483647), (0, (-2147483648), 2147483647), (0, (-2147483648), 2147483647), (0, (-2147483648), 2147483647), (2, 139, 0), (2, 140, 0), (2, 141, 0), (2, 142, 0), (2, 143, 0), (2, 144, 0), (2, 145, 0), (2, 146, 0), (2, 147, 0), (2, 148, 0), (2, 149, 0), (2, 150, 0), (2, 151, 0), (0, 0, 1024), (2, 152, 0), (2, 153, 0), (0, 0, 20), (2, 154, 0), (2, 155, 0), (0, 0, 8), (2, 156, 0), (2, 157, 0), (0, 0, 8), (2, 158, 0), (2, 159, 0), (2, 160, 0), (2, 161, 0), (0, 0, 1), (0, 0, 1), (0, 0, 16400), (2, 162, 0)]
theorem rgM : rgT[112]? = some (.inl (10, fsM)) := rfl
def arOk (k t : Nat) : Bool := match fsM[k]? with
  | some (2, c, _) => c.toNat != t
  | _ => false
def arNo (k : Nat) (e : List Nat) : Bool := match fsM[k]? with
  | some (2, c, _) => !(e.contains c.toNat)
  | _ => false
def avw (K : KE) (H : Heap) (b k j : Nat) : Int32 := fI H (fR H b (K.1.2 10 k)) j
def svw (K : KE) (H : Heap) (b k : Nat) : Int32 := fI H b (K.1.2 10 k)
theorem av_ref {K : KE} {G : Nat → Option Nat} {H : Heap} {b k t : Nat} (hT : TY K G H) (gb : G b = some 112) (hk : arOk k t = true) : ∃ c, c ≠ t ∧ G (fR H b (K.1.2 10 k)) = some c := by
  unfold arOk at hk
  split at hk
  · rename_i c x e
    obtain ⟨cell, -, -, -, -, h1⟩ := hT.fref gb rgM e
    exact ⟨c.toNat, by simpa using hk, h1⟩
  · cases hk
theorem av_ref2 {K : KE} {G : Nat → Option Nat} {H : Heap} {b k : Nat} {e : List Nat} (hT : TY K G H) (gb : G b = some 112) (hk : arNo k e = true) : ∃ c, c ∉ e ∧ G (fR H b (K.1.2 10 k)) = some c := by
  unfold arNo at hk
  split at hk
  · rename_i c x e1
    obtain ⟨cell, -, -, -, -, h1⟩ := hT.fref gb rgM e1
    exact ⟨c.toNat, by simpa using hk, h1⟩
  · cases hk
theorem av_lt {k t : Nat} (hk : arOk k t = true) : k < 74 := by
  unfold arOk at hk
  split at hk
  · rename_i c x e
    exact (List.getElem?_eq_some_iff.mp e).1
  · cases hk
theorem av_fld {K : KE} {G : Nat → Option Nat} {H H1 : Heap} {b k k0 j : Nat} {v : Value} (hT : TY K G H) (gb : G b = some 112) (hap : ∀ x y, x < 74 → y < 74 → x ≠ y → K.1.2 10 x ≠ K.1.2 10 y) (w : Wr H H1 b (K.1.2 10 k0) v) (h0 : k0 < 74) (hk : arOk k 112 = true) (hne : k ≠ k0) : avw K H1 b k j = avw K H b k j := by
  obtain ⟨c, hc, hg⟩ := av_ref hT gb hk
  unfold avw
  rw [Wr.neR w (Or.inr (hap k k0 (av_lt hk) h0 hne))]
  exact Wr.neI w (Or.inl (G_ne hg gb hc))
theorem sv_fld {K : KE} {H H1 : Heap} {b k k0 : Nat} {v : Value} (hap : ∀ x y, x < 74 → y < 74 → x ≠ y → K.1.2 10 x ≠ K.1.2 10 y) (w : Wr H H1 b (K.1.2 10 k0) v) (h0 : k0 < 74) (hk : k < 74) (hne : k ≠ k0) : svw K H1 b k = svw K H b k := Wr.neI w (Or.inr (hap k k0 hk h0 hne))
theorem av_arr {K : KE} {G : Nat → Option Nat} {H H1 : Heap} {a b k i j t : Nat} {v : Value} (hT : TY K G H) (gb : G b = some 112) (w : Wr H H1 a i v) (ga : G a = some t) (ht : 112 ≠ t) (hk : arOk k t = true) : avw K H1 b k j = avw K H b k j := by
  obtain ⟨c, hc, hg⟩ := av_ref hT gb hk
  unfold avw
  rw [Wr.neR w (Or.inl (G_ne gb ga ht))]
  exact Wr.neI w (Or.inl (G_ne hg ga hc))
theorem sv_arr {K : KE} {G : Nat → Option Nat} {H H1 : Heap} {a b k i t : Nat} {v : Value} (gb : G b = some 112) (w : Wr H H1 a i v) (ga : G a = some t) (ht : 112 ≠ t) : svw K H1 b k = svw K H b k := Wr.neI w (Or.inl (G_ne gb ga ht))
theorem av_eff {K : KE} {G : Nat → Option Nat} {H H1 : Heap} {b k j : Nat} {e : List Nat} (hT : TY K G H) (hk : ∀ q : Nat, q < H.size → ¬ AE G e H.size q → H1[q]? = H[q]?) (gb : G b = some 112) (hM : 112 ∉ e) (ho : arNo k e = true) : avw K H1 b k j = avw K H b k j := by
  obtain ⟨c, hc, hg⟩ := av_ref2 hT gb ho
  unfold avw
  rw [fR_kept (x_lt hT hk gb hM)]
  exact fI_kept (x_lt hT hk hg hc)
theorem sv_eff {K : KE} {G : Nat → Option Nat} {H H1 : Heap} {b k : Nat} {e : List Nat} (hT : TY K G H) (hk : ∀ q : Nat, q < H.size → ¬ AE G e H.size q → H1[q]? = H[q]?) (gb : G b = some 112) (hM : 112 ∉ e) : svw K H1 b k = svw K H b k := fI_kept (x_lt hT hk gb hM)
/-- the codes of laws and jobs -/
def CG (v : Nat → Nat → Int32) : Prop := ∀ row l : Nat, row < 6 → l < 16 → (l : Int) < (v 24 row).toInt →
  (∃ E, WF (v 32) (v 33) (500 * row + (v 29 (16 * row + l)).toNatClampNeg) (500 * row + (v 30 (16 * row + l)).toNatClampNeg) 0 E) ∧ ∃ E, WF (v 32) (v 33) (500 * row + (v 30 (16 * row + l)).toNatClampNeg) (500 * row + (v 31 (16 * row + l)).toNatClampNeg) 0 E
theorem CG.congr {v v1 : Nat → Nat → Int32} (h : ∀ k ∈ ([24, 29, 30, 31, 32, 33] : List Nat), ∀ j, v1 k j = v k j) (hc : CG v) : CG v1 := by
  intro row l h1 h2 h3
  have e32 : v1 32 = v 32 := funext (h 32 (by decide))
  have e33 : v1 33 = v 33 := funext (h 33 (by decide))
  rw [h 24 (by decide)] at h3
  rw [h 29 (by decide), h 30 (by decide), h 31 (by decide), e32, e33]
  exact hc row l h1 h2 h3
/-- the tubes of the bars that are there -/
def TU (v : Nat → Nat → Int32) (s : Nat → Int32) : Prop := (∀ j : Nat, (j : Int) < 2 * (s 1).toInt → 1 ≤ (v 16 j).toInt) ∧ ∀ j : Nat, (j : Int) < (s 1).toInt → 1 ≤ (v 4 j).toInt
theorem TU.congr {v v1 : Nat → Nat → Int32} {s s1 : Nat → Int32} (h : ∀ k ∈ ([16, 4] : List Nat), ∀ j, v1 k j = v k j) (hs : ∀ k ∈ ([1] : List Nat), s1 k = s k) (hc : TU v s) : TU v1 s1 := by
  refine ⟨fun j hj => ?_, fun j hj => ?_⟩
  · rw [hs 1 (by decide)] at hj
    rw [h 16 (by decide)]
    exact hc.1 j hj
  · rw [hs 1 (by decide)] at hj
    rw [h 4 (by decide)]
    exact hc.2 j hj
theorem cg_when {K : KE} {H : Heap} {b oq aq mq sq tq : Nat} {x1 x2 p e lm : Int32} (h : CG (avw K H b)) (eo : oq = fR H b (K.1.2 10 32)) (ea : aq = fR H b (K.1.2 10 33)) (em : mq = fR H b (K.1.2 10 24)) (es : sq = fR H b (K.1.2 10 30)) (et : tq = fR H b (K.1.2 10 31)) (hp : p = fI H sq x2.toNatClampNeg) (he : e = fI H tq x2.toNatClampNeg) (hl : lm = fI H mq x1.toNatClampNeg) (h1 : 0 ≤ x1.toInt ∧ x1.toInt ≤ 5) (h2 : 16 * x1.toInt ≤ x2.toInt ∧ x2.toInt < 16 * x1.toInt + lm.toInt ∧ lm.toInt ≤ 16) :
    ∃ E, WF (fun k => fI H oq k) (fun k => fI H aq k) (500 * x1.toNatClampNeg + p.toNatClampNeg) (500 * x1.toNatClampNeg + e.toNatClampNeg) 0 E := by
  have a1 := i_cl (x := x1) (by omega)
  have a2 := i_cl (x := x2) (by omega)
  have e0 : x2.toNatClampNeg = 16 * x1.toNatClampNeg + (x2.toNatClampNeg - 16 * x1.toNatClampNeg) := by omega
  have := (h x1.toNatClampNeg (x2.toNatClampNeg - 16 * x1.toNatClampNeg) (by omega) (by omega) (by show _ < (fI H _ _).toInt; rw [← em, ← hl]; omega)).2
  rw [← e0] at this
  subst eo ea es et hp he
  exact this
theorem cg_sum {K : KE} {H : Heap} {b oq aq mq sq fq : Nat} {x1 x2 p e lm : Int32} (h : CG (avw K H b)) (eo : oq = fR H b (K.1.2 10 32)) (ea : aq = fR H b (K.1.2 10 33)) (em : mq = fR H b (K.1.2 10 24)) (es : sq = fR H b (K.1.2 10 30)) (ef : fq = fR H b (K.1.2 10 29)) (hp : p = fI H fq x2.toNatClampNeg) (he : e = fI H sq x2.toNatClampNeg) (hl : lm = fI H mq x1.toNatClampNeg) (h1 : 0 ≤ x1.toInt ∧ x1.toInt ≤ 5) (h2 : 16 * x1.toInt ≤ x2.toInt ∧ x2.toInt < 16 * x1.toInt + lm.toInt ∧ lm.toInt ≤ 16) :
    ∃ E, WF (fun k => fI H oq k) (fun k => fI H aq k) (500 * x1.toNatClampNeg + p.toNatClampNeg) (500 * x1.toNatClampNeg + e.toNatClampNeg) 0 E := by
  have a1 := i_cl (x := x1) (by omega)
  have a2 := i_cl (x := x2) (by omega)
  have e0 : x2.toNatClampNeg = 16 * x1.toNatClampNeg + (x2.toNatClampNeg - 16 * x1.toNatClampNeg) := by omega
  have := (h x1.toNatClampNeg (x2.toNatClampNeg - 16 * x1.toNatClampNeg) (by omega) (by omega) (by show _ < (fI H _ _).toInt; rw [← em, ← hl]; omega)).1
  rw [← e0] at this
  subst eo ea es ef hp he
  exact this
theorem tu_at {K : KE} {H : Heap} {b tq : Nat} {x j n : Int32} (h : TU (avw K H b) (svw K H b)) (et : tq = fR H b (K.1.2 10 16)) (en : n = fI H b (K.1.2 10 1)) (ex : x = fI H tq j.toNatClampNeg) (hj : 0 ≤ j.toInt ∧ j.toInt < 2 * n.toInt) : 1 ≤ x.toInt := by
  have a1 := i_cl (x := j) (by omega)
  have := h.1 j.toNatClampNeg (by show _ < 2 * (fI H b (K.1.2 10 1)).toInt; rw [← en]; omega)
  subst et
  rw [ex]
  exact this
/-- the fields of the reference but those of L are as they were -/
def MF (K : KE) (H0 H : Heap) (b : Nat) (L : List Nat) : Prop := ∀ k : Nat, k < 74 → k ∉ L → fV H b (K.1.2 10 k) = fV H0 b (K.1.2 10 k)
theorem MF.fld {K : KE} {H0 H H1 : Heap} {b k0 : Nat} {v : Value} {L : List Nat} (hap : ∀ x y, x < 74 → y < 74 → x ≠ y → K.1.2 10 x ≠ K.1.2 10 y) (w : Wr H H1 b (K.1.2 10 k0) v) (h0 : k0 < 74) (hL : k0 ∈ L) (h : MF K H0 H b L) : MF K H0 H1 b L := fun k hk hn => (Wr.neV w (Or.inr (hap k k0 hk h0 (fun e => hn (e ▸ hL))))).trans (h k hk hn)
theorem MF.arr {K : KE} {H0 H H1 : Heap} {a b i : Nat} {v : Value} {L : List Nat} (w : Wr H H1 a i v) (hne : b ≠ a) (h : MF K H0 H b L) : MF K H0 H1 b L := fun k hk hn => (Wr.neV w (Or.inl hne)).trans (h k hk hn)
theorem MF.eff {K : KE} {H0 H H1 : Heap} {b : Nat} {L : List Nat} (e : H1[b]? = H[b]?) (h : MF K H0 H b L) : MF K H0 H1 b L := fun k hk hn => (fV_kept e).trans (h k hk hn)
theorem MF.trans {K : KE} {H0 H H1 : Heap} {b : Nat} {L L1 : List Nat} (h : MF K H0 H b L) (h1 : MF K H H1 b L1) (hs : ∀ k ∈ L1, k ∈ L) : MF K H0 H1 b L := fun k hk hn => (h1 k hk (fun e => hn (hs k e))).trans (h k hk hn)
theorem MF.i {K : KE} {H0 H : Heap} {b k : Nat} {L : List Nat} (h : MF K H0 H b L) (hk : k < 74) (hn : k ∉ L) : fI H b (K.1.2 10 k) = fI H0 b (K.1.2 10 k) := by unfold fI; rw [h k hk hn]
theorem MF.r {K : KE} {H0 H : Heap} {b k : Nat} {L : List Nat} (h : MF K H0 H b L) (hk : k < 74) (hn : k ∉ L) : fR H b (K.1.2 10 k) = fR H0 b (K.1.2 10 k) := by unfold fR; rw [h k hk hn]
/-- an equation of addresses, out of omega's sight -/
def EQN (a b : Nat) : Prop := a = b
theorem EQN.mk {a b : Nat} (h : a = b) : EQN a b := h
theorem EQN.trans {a b c : Nat} (h : EQN a b) (h1 : b = c) : EQN a c := Eq.trans h h1
theorem EQN.symm {a b : Nat} (h : EQN a b) : b = a := Eq.symm h
theorem CG_ok (t : Nat) (h : ([24, 29, 30, 31, 32, 33] : List Nat).all (fun k => arOk k t) = true) (k : Nat) (hk : k ∈ ([24, 29, 30, 31, 32, 33] : List Nat)) : arOk k t = true := List.all_eq_true.mp h k hk
theorem CG_ne (t : Nat) (h : ([24, 29, 30, 31, 32, 33] : List Nat).all (fun k => k != t) = true) (k : Nat) (hk : k ∈ ([24, 29, 30, 31, 32, 33] : List Nat)) : k ≠ t := by have := List.all_eq_true.mp h k hk; simpa using this
theorem CG_eff (e : List Nat) (h : ([24, 29, 30, 31, 32, 33] : List Nat).all (fun k => arNo k e) = true) (k : Nat) (hk : k ∈ ([24, 29, 30, 31, 32, 33] : List Nat)) : arNo k e = true := List.all_eq_true.mp h k hk
theorem TU_ok (t : Nat) (h : ([16, 4] : List Nat).all (fun k => arOk k t) = true) (k : Nat) (hk : k ∈ ([16, 4] : List Nat)) : arOk k t = true := List.all_eq_true.mp h k hk
theorem TU_ne (t : Nat) (h : ([16, 4] : List Nat).all (fun k => k != t) = true) (k : Nat) (hk : k ∈ ([16, 4] : List Nat)) : k ≠ t := by have := List.all_eq_true.mp h k hk; simpa using this
theorem TU_eff (e : List Nat) (h : ([16, 4] : List Nat).all (fun k => arNo k e) = true) (k : Nat) (hk : k ∈ ([16, 4] : List Nat)) : arNo k e = true := List.all_eq_true.mp h k hk
theorem TU_sne (t : Nat) (h : ([1] : List Nat).all (fun k => k != t) = true) (k : Nat) (hk : k ∈ ([1] : List Nat)) : k ≠ t := by have := List.all_eq_true.mp h k hk; simpa using this
theorem TU_slt (k : Nat) (hk : k ∈ ([1] : List Nat)) : k < 74 := by have := List.all_eq_true.mp (show ([1] : List Nat).all (fun k => decide (k < 74)) = true by decide) k hk; simpa using this
/-- the words of the texts, a space at both ends -/
def wdL : List Int := [32, 98, 101, 110, 100, 32, 109, 97, 115, 115, 32, 115, 119, 97, 121, 32, 100, 114, 105, 102, 116, 32, 115, 104, 97, 118, 101, 32, 97, 114, 99, 32, 119, 104, 101, 110, 32, 111, 114, 32, 97, 110, 100, 32, 110, 111, 116, 32, 97, 116, 32, 115, 105, 122, 101, 32, 109, 105, 100, 32, 101, 110, 100, 32, 116, 104, 105, 99, 107, 32, 103, 114, 97, 105, 110, 32, 104, 101, 97, 118, 121, 32, 119, 97, 120, 32, 104, 101, 97, 116, 32, 119, 101, 116, 32, 108, 111, 119, 32, 104, 105, 103, 104, 32, 116, 111, 112, 32, 112, 97, 115, 115, 101, 115, 32]
def wdN (j : Nat) : Int := wdL.getD j 32
def WD (v : Nat → Nat → Int32) : Prop := ∀ j : Nat, j < 115 → (v 23 j).toInt = wdN j
theorem WD.congr {v v1 : Nat → Nat → Int32} (h : ∀ k ∈ ([23] : List Nat), ∀ j, v1 k j = v k j) (hc : WD v) : WD v1 := by
  intro j hj
  rw [h 23 (by decide)]
  exact hc j hj
/-- an image's row, read as arrays and ints -/
def vI (w : Nat → Int32) (k i : Nat) : Int32 := match k with
  | 4 => w (6 + 6 * i)
  | 16 => w (736 + 3 * i)
  | 24 => w (8908 + i)
  | 29 => w (8918 + 7 * i)
  | 30 => w (8919 + 7 * i)
  | 31 => w (8920 + 7 * i)
  | 32 => w (9586 + 2 * i)
  | 33 => w (9587 + 2 * i)
  | _ => 0
def sI (w : Nat → Int32) (_ : Nat) : Int32 := w 0
def iR (w : Nat → Int32) (p : Nat) (lo hi : Int) : Prop := lo ≤ (w p).toInt ∧ (w p).toInt ≤ hi
def IMw (w : Nat → Int32) : Prop := (iR w 0 0 10 ∧ iR w 1 0 1 ∧ iR w 3 0 20 ∧ iR w 4 0 8 ∧ iR w 5 0 8) ∧ (∀ i : Nat, i < 10 → iR w (6 + 6 * i) 0 16 ∧ iR w (7 + 6 * i) 0 200 ∧ iR w (11 + 6 * i) 0 12) ∧ (∀ i : Nat, i < 20 → iR w (736 + 3 * i) 0 9999) ∧ (∀ i : Nat, i < 6 → iR w (8908 + i) 0 16) ∧
  (∀ i : Nat, i < 96 → iR w (8916 + 7 * i) (-1) 15 ∧ iR w (8918 + 7 * i) 0 500 ∧ iR w (8919 + 7 * i) 0 500 ∧ iR w (8920 + 7 * i) 0 500) ∧ TU (vI w) (sI w) ∧ CG (vI w)
def IM (v : Nat → Nat → Int32) : Prop := IMw (v 73)
theorem IM.congr {v v1 : Nat → Nat → Int32} (h : ∀ k ∈ ([73] : List Nat), ∀ j, v1 k j = v k j) (hc : IM v) : IM v1 := by
  have e : v1 73 = v 73 := funext (h 73 (by decide))
  unfold IM
  rw [e]
  exact hc
theorem WD_ok (t : Nat) (h : ([23] : List Nat).all (fun k => arOk k t) = true) (k : Nat) (hk : k ∈ ([23] : List Nat)) : arOk k t = true := List.all_eq_true.mp h k hk
theorem WD_ne (t : Nat) (h : ([23] : List Nat).all (fun k => k != t) = true) (k : Nat) (hk : k ∈ ([23] : List Nat)) : k ≠ t := by have := List.all_eq_true.mp h k hk; simpa using this
theorem WD_eff (e : List Nat) (h : ([23] : List Nat).all (fun k => arNo k e) = true) (k : Nat) (hk : k ∈ ([23] : List Nat)) : arNo k e = true := List.all_eq_true.mp h k hk
theorem IM_ok (t : Nat) (h : ([73] : List Nat).all (fun k => arOk k t) = true) (k : Nat) (hk : k ∈ ([73] : List Nat)) : arOk k t = true := List.all_eq_true.mp h k hk
theorem IM_ne (t : Nat) (h : ([73] : List Nat).all (fun k => k != t) = true) (k : Nat) (hk : k ∈ ([73] : List Nat)) : k ≠ t := by have := List.all_eq_true.mp h k hk; simpa using this
theorem IM_eff (e : List Nat) (h : ([73] : List Nat).all (fun k => arNo k e) = true) (k : Nat) (hk : k ∈ ([73] : List Nat)) : arNo k e = true := List.all_eq_true.mp h k hk
set_option maxHeartbeats 4000000 in
set_option maxRecDepth 100000 in
theorem a_X10_isSo (l : Launch) (K : KE) (G : Nat → Option Nat) (H : Heap) {a0 : Nat} (x1 : Int32) (x2 : Int32) {mq : Nat} (lm : Int32) (hT : TY K G H) (ga0 : G a0 = some 112) (hx1 : 0 ≤ x1.toInt ∧ x1.toInt ≤ 5) (hx2 : 0 ≤ x2.toInt ∧ x2.toInt ≤ 95) (gmq : G mq = some 128) (emq : mq = fR H a0 (K.1.2 10 24)) (elm : lm = fI H mq (x1 : Int32).toNatClampNeg) (hg_CG : CG (avw K H a0)) (hp0 : 16 * x1.toInt ≤ x2.toInt ∧ x2.toInt < 16 * x1.toInt + lm.toInt) : MX l K yX10_isSo cX10_isSo 3 (some .boolean) 2 48 0 0 [.ref a0, .int x1, .int x2] H (AE G [140] H.size) (fun v H1 => ∃ (r : Int32), v = some (.int r) ∧ (0 ≤ r.toInt ∧ r.toInt ≤ 1) ∧ TY K G H1) := by
  refine MX.of (by decide +kernel) (Nat.le_of_ble_eq_true rfl) ?_
  intro p e s m below meth c ls Q C hH hl hQ
  subst hH
  have C : CX p K s m _ meth c RX10 cX10_isSo 3 (some .boolean) "isSo" := C
  obtain ⟨hx, hb, hml, hown, hts, hKT, hr, hlocks, hnm⟩ := id C
  have hl : lv_has ls 3 [(0, .ref a0), (1, .int x1), (2, .int x2)] := hl
  have hS : va_S (AE G [140] s.heap.size) s.heap s.heap [] := va_S.rf
  have n_0 : (0 : Int32).toInt = 0 := rfl
  have n_1 : (1 : Int32).toInt = 1 := rfl
  have blm := ty_ai (x := lm) elm hT gmq rg_128 (by omega)
  have hap : ∀ x y, x < 74 → y < 74 → x ≠ y → K.1.2 10 x ≠ K.1.2 10 y := x_apart hKT hts inX10 tyX10 tyX10_ok nmX10 rfl
  have J40 : ∀ (ls223 : Array Slot) (H222 : Heap) (locsH222 : List Loc) (x225 : Int32), lv_has ls223 3 [] → TY K G H222 → va_S (AE G [140] s.heap.size) s.heap H222 locsH222 → (0 ≤ x225.toInt ∧ x225.toInt ≤ 1) → (mq = fR H222 a0 (K.1.2 10 24)) → (lm = fI H222 mq (x1 : Int32).toNatClampNeg) → (CG (avw K H222 a0)) → W p l e ({ frames := 2, cells := 0, slots := 0, locals := 48 } : Room) s m (([.ref a0, .int x1, .int x2] : List Value).toArray) below meth c H222 locsH222 0 0 Q (F0 m 40 ls223 [.int x225]) := by
    intro ls223 H222 locsH222 x225 hl224 hTH222 hSH222 bx225 cy226_0 cy226_1 gy226_CG
    exact x_zret C hQ (i_01 (by omega)) dX10_isSo_40 hSH222 (by decide) (by decide) (⟨x225, rfl, by omega, hTH222⟩)
  have J35 : ∀ (ls228 : Array Slot) (H227 : Heap) (locsH227 : List Loc) , lv_has ls228 3 [] → TY K G H227 → va_S (AE G [140] s.heap.size) s.heap H227 locsH227 → (mq = fR H227 a0 (K.1.2 10 24)) → (lm = fI H227 mq (x1 : Int32).toNatClampNeg) → (CG (avw K H227 a0)) → W p l e ({ frames := 2, cells := 0, slots := 0, locals := 48 } : Room) s m (([.ref a0, .int x1, .int x2] : List Value).toArray) below meth c H227 locsH227 0 0 Q (F0 m 35 ls228 []) := by
    intro ls228 H227 locsH227  hl229 hTH227 hSH227 cy230_0 cy230_1 gy230_CG
    refine lv_iconst (v := 1) hx hb dX10_isSo_35 (by decide) ?_
    refine lv_goto (tgt := 40) hx hb dX10_isSo_36 (by decide) ?_
    exact J40 ls228 H227 locsH227 (1) (lv_sub hl229 [] rfl) hTH227 hSH227 (by decide) cy230_0 cy230_1 gy230_CG
  refine lv_aload_n hx hb dX10_isSo_0 rfl (lv_at hl 0 rfl) ?_
  refine x_gr C hT (ci := 10) (k := 31) rfl inX10 (by decide) wF_X10_80 ga0 rg_112 rfl dX10_isSo_1 (fun q231 eq231 gq231 => ?_)
  refine lv_iload_n hx hb dX10_isSo_4 rfl (lv_at hl 2 rfl) ?_
  refine x_ai C hT gq231 rg_135 ⟨by omega, by show _ < ((112 : Nat) : Int); omega⟩ dX10_isSo_5 (fun x232 ex232 bx232 => ?_)
  refine lv_aload_n hx hb dX10_isSo_6 rfl (lv_at hl 0 rfl) ?_
  refine x_gr C hT (ci := 10) (k := 30) rfl inX10 (by decide) wF_X10_77 ga0 rg_112 rfl dX10_isSo_7 (fun q233 eq233 gq233 => ?_)
  refine lv_iload_n hx hb dX10_isSo_10 rfl (lv_at hl 2 rfl) ?_
  refine x_ai C hT gq233 rg_134 ⟨by omega, by show _ < ((112 : Nat) : Int); omega⟩ dX10_isSo_11 (fun x234 ex234 bx234 => ?_)
  refine lv_icmp_eq (tgt := 35) hx hb dX10_isSo_12 (by decide) (fun c235 => ?_) (fun c235 => ?_)
  · have k236 := i_eq c235
    exact J35 ls s.heap [] (lv_sub hl [] rfl) hT hS emq elm hg_CG
  · have k236 := i_ne c235
    refine lv_aload_n hx hb dX10_isSo_15 rfl (lv_at hl 0 rfl) ?_
    refine lv_iload_n hx hb dX10_isSo_16 rfl (lv_at hl 1 rfl) ?_
    refine lv_aload_n hx hb dX10_isSo_17 rfl (lv_at hl 0 rfl) ?_
    refine x_gr C hT (ci := 10) (k := 30) rfl inX10 (by decide) wF_X10_77 ga0 rg_112 rfl dX10_isSo_18 (fun q237 eq237 gq237 => ?_)
    have uq237 : q233 = q237 := (eq233).trans eq237.symm
    subst uq237
    refine lv_iload_n hx hb dX10_isSo_21 rfl (lv_at hl 2 rfl) ?_
    refine x_ai C hT gq233 rg_134 ⟨by omega, by show _ < ((112 : Nat) : Int); omega⟩ dX10_isSo_22 (fun x238 ex238 bx238 => ?_)
    have ux238 : x234 = x238 := (ex234).trans ex238.symm
    subst ux238
    refine lv_aload_n hx hb dX10_isSo_23 rfl (lv_at hl 0 rfl) ?_
    refine x_gr C hT (ci := 10) (k := 31) rfl inX10 (by decide) wF_X10_80 ga0 rg_112 rfl dX10_isSo_24 (fun q239 eq239 gq239 => ?_)
    have uq239 : q231 = q239 := (eq231).trans eq239.symm
    subst uq239
    refine lv_iload_n hx hb dX10_isSo_27 rfl (lv_at hl 2 rfl) ?_
    refine x_ai C hT gq231 rg_135 ⟨by omega, by show _ < ((112 : Nat) : Int); omega⟩ dX10_isSo_28 (fun x240 ex240 bx240 => ?_)
    have ux240 : x232 = x240 := (ex232).trans ex240.symm
    subst ux240
    obtain ⟨q241, eq241⟩ : ∃ z : Nat, z = fR s.heap a0 (K.1.2 10 32) := ⟨_, rfl⟩
    have gq241 := ty_fr (q := q241) (k := 32) (u := 136) eq241 hT ga0 rg_112 rfl
    obtain ⟨q242, eq242⟩ : ∃ z : Nat, z = fR s.heap a0 (K.1.2 10 33) := ⟨_, rfl⟩
    have gq242 := ty_fr (q := q242) (k := 33) (u := 137) eq242 hT ga0 rg_112 rfl
    obtain ⟨q243, eq243⟩ : ∃ z : Nat, z = fR s.heap a0 (K.1.2 10 44) := ⟨_, rfl⟩
    have gq243 := ty_fr (q := q243) (k := 44) (u := 140) eq243 hT ga0 rg_112 rfl
    obtain ⟨q244, eq244⟩ : ∃ z : Nat, z = fR s.heap a0 (K.1.2 10 29) := ⟨_, rfl⟩
    have gq244 := ty_fr (q := q244) (k := 29) (u := 133) eq244 hT ga0 rg_112 rfl
    refine x_V (As := [.int x1, .int x234, .int x232]) (rest := []) C (a_X10_worth l K G s.heap (x1) (x234) (x232) hT ga0 (by omega) (by omega) (by omega) gq241 eq241 gq242 eq242 gq243 eq243 (cg_when hg_CG eq241 eq242 emq eq233 eq231 ex234 ex232 elm (by omega) (by omega))) yo_X10_worth wM_X10_302 ⟨⟨by decide, by decide⟩, by decide, by decide⟩ (x_rv C hT (ci := 10) rfl ga0 rg_112) rfl hl.1 rfl (Nat.le_of_ble_eq_true rfl) dX10_isSo_29 hS (AE_sub (fun _ _ => rfl) (by decide) hS.1) (fun vH245 H245 locsH245 pH245 zH245 kH245 hSH245 => ?_)
    obtain ⟨x246, hvH245, hTH245⟩ := pH245
    subst hvH245
    have g247 : CG (avw K H245 a0) := CG.congr (fun k hk j => av_eff hT kH245 ga0 (by decide) (CG_eff [140] (by decide) k hk)) hg_CG
    have m248 := (emq).trans (fR_kept (x_lt hT kH245 ga0 (by decide))).symm
    have m249 := (elm).trans (fI_kept (x_lt hT kH245 gmq (by decide))).symm
    have m250 := (eq231).trans (fR_kept (x_lt hT kH245 ga0 (by decide))).symm
    have m251 := (ex232).trans (fI_kept (x_lt hT kH245 gq231 (by decide))).symm
    have m252 := (eq233).trans (fR_kept (x_lt hT kH245 ga0 (by decide))).symm
    have m253 := (ex234).trans (fI_kept (x_lt hT kH245 gq233 (by decide))).symm
    have m254 := (eq241).trans (fR_kept (x_lt hT kH245 ga0 (by decide))).symm
    have m255 := (eq242).trans (fR_kept (x_lt hT kH245 ga0 (by decide))).symm
    have m256 := (eq243).trans (fR_kept (x_lt hT kH245 ga0 (by decide))).symm
    have m257 := (eq244).trans (fR_kept (x_lt hT kH245 ga0 (by decide))).symm
    refine W.eq (g2 := F0 m 32 ls [.int x246]) rfl ?_
    refine lv_if_eq (tgt := 39) hx hb dX10_isSo_32 (by decide) (fun c258 => ?_) (fun c258 => ?_)
    · have k259 := i_eq c258
      refine lv_iconst (v := 0) hx hb dX10_isSo_39 (by decide) ?_
      exact J40 ls H245 locsH245 (0) (lv_sub hl [] rfl) hTH245 hSH245 (by decide) m248 m249 g247
    · have k259 := i_ne c258
      exact J35 ls H245 locsH245 (lv_sub hl [] rfl) hTH245 hSH245 m248 m249 g247

set_option maxHeartbeats 4000000 in
set_option maxRecDepth 100000 in
theorem a_X10_tellsBy (l : Launch) (K : KE) (G : Nat → Option Nat) (H : Heap) {a0 : Nat} (x1 : Int32) (x2 : Int32) (x3 : Int32) {mq : Nat} (lm : Int32) (hT : TY K G H) (ga0 : G a0 = some 112) (hx1 : 0 ≤ x1.toInt ∧ x1.toInt ≤ 1) (gmq : G mq = some 128) (emq : mq = fR H a0 (K.1.2 10 24)) (elm : lm = fI H mq (x1 : Int32).toNatClampNeg) (hg_CG : CG (avw K H a0)) : MX l K yX10_tellsBy cX10_tellsBy 8 (some .int) 3 70 0 0 [.ref a0, .int x1, .int x2, .int x3] H (AE G [140] H.size) (fun v H1 => ∃ (r : Int32), v = some (.int r) ∧ TY K G H1) := by
  refine MX.of (by decide +kernel) (Nat.le_of_ble_eq_true rfl) ?_
  intro p e s m below meth c ls Q C hH hl hQ
  subst hH
  have C : CX p K s m _ meth c RX10 cX10_tellsBy 8 (some .int) "tellsBy" := C
  obtain ⟨hx, hb, hml, hown, hts, hKT, hr, hlocks, hnm⟩ := id C
  have hl : lv_has ls 8 [(0, .ref a0), (1, .int x1), (2, .int x2), (3, .int x3)] := hl
  have hS : va_S (AE G [140] s.heap.size) s.heap s.heap [] := va_S.rf
  have n_m9999 : ((-9999) : Int32).toInt = -9999 := rfl
  have n_0 : (0 : Int32).toInt = 0 := rfl
  have n_1 : (1 : Int32).toInt = 1 := rfl
  have n_2 : (2 : Int32).toInt = 2 := rfl
  have n_3 : (3 : Int32).toInt = 3 := rfl
  have n_16 : (16 : Int32).toInt = 16 := rfl
  have n_9999 : (9999 : Int32).toInt = 9999 := rfl
  have n_99999 : (99999 : Int32).toInt = 99999 := rfl
  have blm := ty_ai (x := lm) elm hT gmq rg_128 (by omega)
  have hap : ∀ x y, x < 74 → y < 74 → x ≠ y → K.1.2 10 x ≠ K.1.2 10 y := x_apart hKT hts inX10 tyX10 tyX10_ok nmX10 rfl
  have J12 : ∀ (nf : Nat) (ls788 : Array Slot) (H787 : Heap) (locsH787 : List Loc) (x790 : Int32) (x791 : Int32) (x792 : Int32), lv_has ls788 8 [(0, .ref a0), (1, .int x1), (2, .int x2), (3, .int x3), (4, .int x790), (5, .int x791), (6, .int x792)] → TY K G H787 → va_S (AE G [140] s.heap.size) s.heap H787 locsH787 → (0 ≤ x791.toInt ∧ x791.toInt ≤ 1) → (0 ≤ x792.toInt ∧ x792.toInt ≤ 32) → (mq = fR H787 a0 (K.1.2 10 24)) → (lm = fI H787 mq (x1 : Int32).toNatClampNeg) → (CG (avw K H787 a0)) → (32 - x792.toInt < (nf : Int)) → (16 * x1.toInt ≤ x792.toInt) → W p l e ({ frames := 3, cells := 0, slots := 0, locals := 70 } : Room) s m (([.ref a0, .int x1, .int x2, .int x3] : List Value).toArray) below meth c H787 locsH787 0 0 Q (F0 m 12 ls788 []) := by
    intro nf
    induction nf with
    | zero =>
      intro ls788 H787 locsH787 x790 x791 x792 hl789 hTH787 hSH787 bx791 bx792 cy793_0 cy793_1 gy793_CG hm12 iv12
      have rx790 := i_rng x790
      exfalso
      omega
    | succ nf ih12 =>
      intro ls788 H787 locsH787 x790 x791 x792 hl789 hTH787 hSH787 bx791 bx792 cy793_0 cy793_1 gy793_CG hm12 iv12
      have rx790 := i_rng x790
      have J103 : ∀ (ls795 : Array Slot) (H794 : Heap) (locsH794 : List Loc) , lv_has ls795 8 [(2, .int x2), (4, .int x790)] → TY K G H794 → va_S (AE G [140] s.heap.size) s.heap H794 locsH794 → (mq = fR H794 a0 (K.1.2 10 24)) → (lm = fI H794 mq (x1 : Int32).toNatClampNeg) → (CG (avw K H794 a0)) → W p l e ({ frames := 3, cells := 0, slots := 0, locals := 70 } : Room) s m (([.ref a0, .int x1, .int x2, .int x3] : List Value).toArray) below meth c H794 locsH794 0 0 Q (F0 m 103 ls795 []) := by
        intro ls795 H794 locsH794  hl796 hTH794 hSH794 cy797_0 cy797_1 gy797_CG
        have J115 : ∀ (ls799 : Array Slot) (H798 : Heap) (locsH798 : List Loc) (x801 : Int32), lv_has ls799 8 [(2, .int x2), (4, .int x790)] → TY K G H798 → va_S (AE G [140] s.heap.size) s.heap H798 locsH798 → ((-9999) ≤ x801.toInt ∧ x801.toInt ≤ 0) → (mq = fR H798 a0 (K.1.2 10 24)) → (lm = fI H798 mq (x1 : Int32).toNatClampNeg) → (CG (avw K H798 a0)) → W p l e ({ frames := 3, cells := 0, slots := 0, locals := 70 } : Room) s m (([.ref a0, .int x1, .int x2, .int x3] : List Value).toArray) below meth c H798 locsH798 0 0 Q (F0 m 115 ls799 [.int x801]) := by
          intro ls799 H798 locsH798 x801 hl800 hTH798 hSH798 bx801 cy802_0 cy802_1 gy802_CG
          have J131 : ∀ (ls804 : Array Slot) (H803 : Heap) (locsH803 : List Loc) (x806 : Int32) (x807 : Int32), lv_has ls804 8 [(4, .int x790), (6, .int x806)] → TY K G H803 → va_S (AE G [140] s.heap.size) s.heap H803 locsH803 → ((-9999) ≤ x806.toInt ∧ x806.toInt ≤ 0) → (9999 ≤ x807.toInt ∧ x807.toInt ≤ 99999) → (mq = fR H803 a0 (K.1.2 10 24)) → (lm = fI H803 mq (x1 : Int32).toNatClampNeg) → (CG (avw K H803 a0)) → W p l e ({ frames := 3, cells := 0, slots := 0, locals := 70 } : Room) s m (([.ref a0, .int x1, .int x2, .int x3] : List Value).toArray) below meth c H803 locsH803 0 0 Q (F0 m 131 ls804 [.int x807]) := by
            intro ls804 H803 locsH803 x806 x807 hl805 hTH803 hSH803 bx806 bx807 cy808_0 cy808_1 gy808_CG
            have J159 : ∀ (ls810 : Array Slot) (H809 : Heap) (locsH809 : List Loc) (x812 : Int32), lv_has ls810 8 [] → TY K G H809 → va_S (AE G [140] s.heap.size) s.heap H809 locsH809 → ((-9999) ≤ x812.toInt ∧ x812.toInt ≤ 99999) → (mq = fR H809 a0 (K.1.2 10 24)) → (lm = fI H809 mq (x1 : Int32).toNatClampNeg) → (CG (avw K H809 a0)) → W p l e ({ frames := 3, cells := 0, slots := 0, locals := 70 } : Room) s m (([.ref a0, .int x1, .int x2, .int x3] : List Value).toArray) below meth c H809 locsH809 0 0 Q (F0 m 159 ls810 [.int x812]) := by
              intro ls810 H809 locsH809 x812 hl811 hTH809 hSH809 bx812 cy813_0 cy813_1 gy813_CG
              exact x_iret C hQ dX10_tellsBy_159 hSH809 (by decide) (by decide) (⟨x812, rfl, hTH809⟩)
            refine lv_istore (lv' := [(7, .int x807), (4, .int x790), (6, .int x806)]) hx hb dX10_tellsBy_131 hl805 (by decide) rfl (fun ls814 hl815 => ?_)
            refine lv_iload hx hb dX10_tellsBy_133 (lv_at hl815 1 rfl) ?_
            refine lv_iload hx hb dX10_tellsBy_135 (lv_at hl815 2 rfl) ?_
            refine lv_icmp_ge (tgt := 145) hx hb dX10_tellsBy_137 (by decide) (fun c816 => ?_) (fun c816 => ?_)
            · have k817 := i_le c816
              refine lv_iload hx hb dX10_tellsBy_145 (lv_at hl815 1 rfl) ?_
              refine lv_iload hx hb dX10_tellsBy_147 (lv_at hl815 0 rfl) ?_
              refine lv_icmp_le (tgt := 157) hx hb dX10_tellsBy_149 (by decide) (fun c818 => ?_) (fun c818 => ?_)
              · have k819 := i_le c818
                refine lv_iload hx hb dX10_tellsBy_157 (lv_at hl815 1 rfl) ?_
                exact J159 ls814 H803 locsH803 (x790) (lv_sub hl815 [] rfl) hTH803 hSH803 (by have := i_rng x790; omega) cy808_0 cy808_1 gy808_CG
              · have k819 := i_nle c818
                refine lv_iload hx hb dX10_tellsBy_152 (lv_at hl815 0 rfl) ?_
                refine lv_goto (tgt := 159) hx hb dX10_tellsBy_154 (by decide) ?_
                exact J159 ls814 H803 locsH803 (x807) (lv_sub hl815 [] rfl) hTH803 hSH803 (by have := i_rng x807; omega) cy808_0 cy808_1 gy808_CG
            · have k817 := i_nle c816
              refine lv_iload hx hb dX10_tellsBy_140 (lv_at hl815 2 rfl) ?_
              refine lv_goto (tgt := 159) hx hb dX10_tellsBy_142 (by decide) ?_
              exact J159 ls814 H803 locsH803 (x806) (lv_sub hl815 [] rfl) hTH803 hSH803 (by have := i_rng x806; omega) cy808_0 cy808_1 gy808_CG
          refine lv_istore (lv' := [(6, .int x801), (2, .int x2), (4, .int x790)]) hx hb dX10_tellsBy_115 hl800 (by decide) rfl (fun ls820 hl821 => ?_)
          refine lv_iload_n hx hb dX10_tellsBy_117 rfl (lv_at hl821 1 rfl) ?_
          refine lv_iconst (v := 2) hx hb dX10_tellsBy_118 (by decide) ?_
          refine lv_icmp_ge (tgt := 128) hx hb dX10_tellsBy_119 (by decide) (fun c822 => ?_) (fun c822 => ?_)
          · have k823 := i_le c822
            refine lv_sipush (v := 9999) hx hb dX10_tellsBy_128 (by decide) ?_
            exact J131 ls820 H798 locsH798 (x801) (9999) (lv_sub hl821 [2, 0] rfl) hTH798 hSH798 (by have := i_rng x801; omega) (by decide) cy802_0 cy802_1 gy802_CG
          · have k823 := i_nle c822
            refine lv_ldcw (v := 99999) hx hb hown (hts _ wK_X10_308) dX10_tellsBy_122 ?_
            refine lv_goto (tgt := 131) hx hb dX10_tellsBy_125 (by decide) ?_
            exact J131 ls820 H798 locsH798 (x801) (99999) (lv_sub hl821 [2, 0] rfl) hTH798 hSH798 (by have := i_rng x801; omega) (by decide) cy802_0 cy802_1 gy802_CG
        refine lv_iload_n hx hb dX10_tellsBy_103 rfl (lv_at hl796 0 rfl) ?_
        refine lv_iconst (v := 2) hx hb dX10_tellsBy_104 (by decide) ?_
        refine lv_icmp_ge (tgt := 112) hx hb dX10_tellsBy_105 (by decide) (fun c824 => ?_) (fun c824 => ?_)
        · have k825 := i_le c824
          refine lv_sipush (v := (-9999)) hx hb dX10_tellsBy_112 (by decide) ?_
          exact J115 ls795 H794 locsH794 ((-9999)) (lv_sub hl796 [0, 1] rfl) hTH794 hSH794 (by decide) cy797_0 cy797_1 gy797_CG
        · have k825 := i_nle c824
          refine lv_iconst (v := 0) hx hb dX10_tellsBy_108 (by decide) ?_
          refine lv_goto (tgt := 115) hx hb dX10_tellsBy_109 (by decide) ?_
          exact J115 ls795 H794 locsH794 (0) (lv_sub hl796 [0, 1] rfl) hTH794 hSH794 (by decide) cy797_0 cy797_1 gy797_CG
      have J97 : ∀ (ls827 : Array Slot) (H826 : Heap) (locsH826 : List Loc) (x829 : Int32) (x830 : Int32), lv_has ls827 8 [(0, .ref a0), (1, .int x1), (2, .int x2), (3, .int x3), (4, .int x829), (5, .int x830), (6, .int x792)] → TY K G H826 → va_S (AE G [140] s.heap.size) s.heap H826 locsH826 → (0 ≤ x830.toInt ∧ x830.toInt ≤ 1) → (0 ≤ x792.toInt ∧ x792.toInt ≤ 31) → (mq = fR H826 a0 (K.1.2 10 24)) → (lm = fI H826 mq (x1 : Int32).toNatClampNeg) → (CG (avw K H826 a0)) → (16 * x1.toInt ≤ x792.toInt) → W p l e ({ frames := 3, cells := 0, slots := 0, locals := 70 } : Room) s m (([.ref a0, .int x1, .int x2, .int x3] : List Value).toArray) below meth c H826 locsH826 0 0 Q (F0 m 97 ls827 []) := by
        intro ls827 H826 locsH826 x829 x830 hl828 hTH826 hSH826 bx830 b831 cy832_0 cy832_1 gy832_CG iv97
        obtain ⟨x833, ex833⟩ : ∃ y : Int32, y = x792 + 1 := ⟨_, rfl⟩
        have tx833 := i_add ex833 (by omega)
        refine lv_iinc (v := x833) (lv' := [(6, .int x833), (0, .ref a0), (1, .int x1), (2, .int x2), (3, .int x3), (4, .int x829), (5, .int x830)]) hx hb dX10_tellsBy_97 hl828 (k := 6) rfl (by rw [ex833]; rfl) (by decide) rfl (fun ls834 hl835 => ?_)
        refine lv_goto (tgt := 12) hx hb dX10_tellsBy_100 (by decide) ?_
        exact ih12 ls834 H826 locsH826 (x829) (x830) (x833) (lv_sub hl835 [1, 2, 3, 4, 5, 6, 0] rfl) hTH826 hSH826 (by have := i_rng x830; omega) (by have := i_rng x833; omega) cy832_0 cy832_1 gy832_CG (by omega) (by omega)
      have J60 : ∀ (ls837 : Array Slot) (H836 : Heap) (locsH836 : List Loc) , lv_has ls837 8 [(0, .ref a0), (1, .int x1), (2, .int x2), (3, .int x3), (4, .int x790), (5, .int x791), (6, .int x792)] → TY K G H836 → va_S (AE G [140] s.heap.size) s.heap H836 locsH836 → (0 ≤ x791.toInt ∧ x791.toInt ≤ 0) → (0 ≤ x792.toInt ∧ x792.toInt ≤ 31) → (mq = fR H836 a0 (K.1.2 10 24)) → (lm = fI H836 mq (x1 : Int32).toNatClampNeg) → (CG (avw K H836 a0)) → (16 * x1.toInt ≤ x792.toInt ∧ x792.toInt < 16 * x1.toInt + lm.toInt) → W p l e ({ frames := 3, cells := 0, slots := 0, locals := 70 } : Room) s m (([.ref a0, .int x1, .int x2, .int x3] : List Value).toArray) below meth c H836 locsH836 0 0 Q (F0 m 60 ls837 []) := by
        intro ls837 H836 locsH836  hl838 hTH836 hSH836 b839 b840 cy841_0 cy841_1 gy841_CG iv60
        refine lv_aload_n hx hb dX10_tellsBy_60 rfl (lv_at hl838 0 rfl) ?_
        refine lv_iload_n hx hb dX10_tellsBy_61 rfl (lv_at hl838 1 rfl) ?_
        refine lv_iload hx hb dX10_tellsBy_62 (lv_at hl838 6 rfl) ?_
        refine x_V (As := [.int x1, .int x792]) (rest := []) C (a_X10_isSo l K G H836 (x1) (x792) (lm) hTH836 ga0 (by omega) (by omega) gmq cy841_0 cy841_1 gy841_CG (by omega)) yo_X10_isSo wM_X10_305 ⟨⟨by decide, by decide⟩, by decide, by decide⟩ (x_rv C hTH836 (ci := 10) rfl ga0 rg_112) rfl hl838.1 rfl (Nat.le_of_ble_eq_true rfl) dX10_tellsBy_64 hSH836 (AE_sub (fun _ _ => rfl) (by decide) hSH836.1) (fun vH842 H842 locsH842 pH842 zH842 kH842 hSH842 => ?_)
        obtain ⟨x843, hvH842, bx843, hTH842⟩ := pH842
        subst hvH842
        have g844 : CG (avw K H842 a0) := CG.congr (fun k hk j => av_eff hTH836 kH842 ga0 (by decide) (CG_eff [140] (by decide) k hk)) gy841_CG
        have m845 := (cy841_0).trans (fR_kept (x_lt hTH836 kH842 ga0 (by decide))).symm
        have m846 := (cy841_1).trans (fI_kept (x_lt hTH836 kH842 gmq (by decide))).symm
        refine W.eq (g2 := F0 m 67 ls837 [.int x843]) rfl ?_
        refine lv_if_ne (tgt := 73) hx hb dX10_tellsBy_67 (by decide) (fun c847 => ?_) (fun c847 => ?_)
        · have k848 := i_ne c847
          refine lv_iconst (v := 1) hx hb dX10_tellsBy_73 (by decide) ?_
          refine lv_istore (lv' := [(5, .int 1), (0, .ref a0), (1, .int x1), (2, .int x2), (3, .int x3), (4, .int x790), (6, .int x792)]) hx hb dX10_tellsBy_74 hl838 (by decide) rfl (fun ls849 hl850 => ?_)
          refine lv_aload_n hx hb dX10_tellsBy_76 rfl (lv_at hl850 1 rfl) ?_
          refine lv_iload_n hx hb dX10_tellsBy_77 rfl (lv_at hl850 2 rfl) ?_
          refine lv_aload_n hx hb dX10_tellsBy_78 rfl (lv_at hl850 1 rfl) ?_
          refine x_gr C hTH842 (ci := 10) (k := 29) rfl inX10 (by decide) wF_X10_74 ga0 rg_112 rfl dX10_tellsBy_79 (fun q851 eq851 gq851 => ?_)
          refine lv_iload hx hb dX10_tellsBy_82 (lv_at hl850 6 rfl) ?_
          refine x_ai C hTH842 gq851 rg_133 ⟨by omega, by show _ < ((112 : Nat) : Int); omega⟩ dX10_tellsBy_84 (fun x852 ex852 bx852 => ?_)
          refine lv_aload_n hx hb dX10_tellsBy_85 rfl (lv_at hl850 1 rfl) ?_
          refine x_gr C hTH842 (ci := 10) (k := 30) rfl inX10 (by decide) wF_X10_77 ga0 rg_112 rfl dX10_tellsBy_86 (fun q853 eq853 gq853 => ?_)
          refine lv_iload hx hb dX10_tellsBy_89 (lv_at hl850 6 rfl) ?_
          refine x_ai C hTH842 gq853 rg_134 ⟨by omega, by show _ < ((112 : Nat) : Int); omega⟩ dX10_tellsBy_91 (fun x854 ex854 bx854 => ?_)
          obtain ⟨q855, eq855⟩ : ∃ z : Nat, z = fR H842 a0 (K.1.2 10 32) := ⟨_, rfl⟩
          have gq855 := ty_fr (q := q855) (k := 32) (u := 136) eq855 hTH842 ga0 rg_112 rfl
          obtain ⟨q856, eq856⟩ : ∃ z : Nat, z = fR H842 a0 (K.1.2 10 33) := ⟨_, rfl⟩
          have gq856 := ty_fr (q := q856) (k := 33) (u := 137) eq856 hTH842 ga0 rg_112 rfl
          obtain ⟨q857, eq857⟩ : ∃ z : Nat, z = fR H842 a0 (K.1.2 10 44) := ⟨_, rfl⟩
          have gq857 := ty_fr (q := q857) (k := 44) (u := 140) eq857 hTH842 ga0 rg_112 rfl
          obtain ⟨q858, eq858⟩ : ∃ z : Nat, z = fR H842 a0 (K.1.2 10 31) := ⟨_, rfl⟩
          have gq858 := ty_fr (q := q858) (k := 31) (u := 135) eq858 hTH842 ga0 rg_112 rfl
          refine x_V (As := [.int x1, .int x852, .int x854]) (rest := []) C (a_X10_worth l K G H842 (x1) (x852) (x854) hTH842 ga0 (by omega) (by omega) (by omega) gq855 eq855 gq856 eq856 gq857 eq857 (cg_sum g844 eq855 eq856 m845 eq853 eq851 ex852 ex854 m846 (by omega) (by omega))) yo_X10_worth wM_X10_302 ⟨⟨by decide, by decide⟩, by decide, by decide⟩ (x_rv C hTH842 (ci := 10) rfl ga0 rg_112) rfl hl850.1 rfl (Nat.le_of_ble_eq_true rfl) dX10_tellsBy_92 hSH842 (AE_sub (fun _ _ => rfl) (by decide) hSH842.1) (fun vH859 H859 locsH859 pH859 zH859 kH859 hSH859 => ?_)
          obtain ⟨x860, hvH859, hTH859⟩ := pH859
          subst hvH859
          have g861 : CG (avw K H859 a0) := CG.congr (fun k hk j => av_eff hTH842 kH859 ga0 (by decide) (CG_eff [140] (by decide) k hk)) g844
          have m862 := (m845).trans (fR_kept (x_lt hTH842 kH859 ga0 (by decide))).symm
          have m863 := (m846).trans (fI_kept (x_lt hTH842 kH859 gmq (by decide))).symm
          have m864 := (eq851).trans (fR_kept (x_lt hTH842 kH859 ga0 (by decide))).symm
          have m865 := (ex852).trans (fI_kept (x_lt hTH842 kH859 gq851 (by decide))).symm
          have m866 := (eq853).trans (fR_kept (x_lt hTH842 kH859 ga0 (by decide))).symm
          have m867 := (ex854).trans (fI_kept (x_lt hTH842 kH859 gq853 (by decide))).symm
          have m868 := (eq855).trans (fR_kept (x_lt hTH842 kH859 ga0 (by decide))).symm
          have m869 := (eq856).trans (fR_kept (x_lt hTH842 kH859 ga0 (by decide))).symm
          have m870 := (eq857).trans (fR_kept (x_lt hTH842 kH859 ga0 (by decide))).symm
          have m871 := (eq858).trans (fR_kept (x_lt hTH842 kH859 ga0 (by decide))).symm
          refine W.eq (g2 := F0 m 95 ls849 [.int x860]) rfl ?_
          refine lv_istore (lv' := [(4, .int x860), (5, .int 1), (0, .ref a0), (1, .int x1), (2, .int x2), (3, .int x3), (6, .int x792)]) hx hb dX10_tellsBy_95 hl850 (by decide) rfl (fun ls872 hl873 => ?_)
          exact J97 ls872 H859 locsH859 (x860) (1) (lv_sub hl873 [2, 3, 4, 5, 0, 1, 6] rfl) hTH859 hSH859 (by decide) (by have := i_rng x792; omega) m862 m863 g861 (by omega)
        · have k848 := i_eq c847
          refine lv_goto (tgt := 97) hx hb dX10_tellsBy_70 (by decide) ?_
          exact J97 ls837 H842 locsH842 (x790) (x791) (lv_sub hl838 [0, 1, 2, 3, 4, 5, 6] rfl) hTH842 hSH842 (by have := i_rng x791; omega) (by have := i_rng x792; omega) m845 m846 g844 (by omega)
      refine lv_iload hx hb dX10_tellsBy_12 (lv_at hl789 6 rfl) ?_
      refine lv_bipush (v := 16) hx hb dX10_tellsBy_14 (by decide) ?_
      refine lv_iload_n hx hb dX10_tellsBy_16 rfl (lv_at hl789 1 rfl) ?_
      refine lv_imul hx hb dX10_tellsBy_17 ?_
      refine lv_topi (fun x874 ex874 => ?_)
      have tx874 := i_mul ex874 (by rw [n_16]; omega)
      rw [n_16] at tx874
      refine lv_aload_n hx hb dX10_tellsBy_18 rfl (lv_at hl789 0 rfl) ?_
      refine x_gr C hTH787 (ci := 10) (k := 24) rfl inX10 (by decide) wF_X10_59 ga0 rg_112 rfl dX10_tellsBy_19 (fun q875 eq875 gq875 => ?_)
      have uq875 : mq = q875 := (cy793_0).trans eq875.symm
      subst uq875
      refine lv_iload_n hx hb dX10_tellsBy_22 rfl (lv_at hl789 1 rfl) ?_
      refine x_ai C hTH787 gmq rg_128 ⟨by omega, by show _ < ((7 : Nat) : Int); omega⟩ dX10_tellsBy_23 (fun x876 ex876 bx876 => ?_)
      have ux876 : lm = x876 := (cy793_1).trans ex876.symm
      subst ux876
      refine lv_iadd hx hb dX10_tellsBy_24 ?_
      refine lv_topi (fun x877 ex877 => ?_)
      have tx877 := i_add ex877 (by omega)
      refine lv_icmp_ge (tgt := 103) hx hb dX10_tellsBy_25 (by decide) (fun c878 => ?_) (fun c878 => ?_)
      · have k879 := i_le c878
        exact J103 ls788 H787 locsH787 (lv_sub hl789 [2, 4] rfl) hTH787 hSH787 cy793_0 cy793_1 gy793_CG
      · have k879 := i_nle c878
        refine lv_iload hx hb dX10_tellsBy_28 (lv_at hl789 5 rfl) ?_
        refine lv_if_ne (tgt := 103) hx hb dX10_tellsBy_30 (by decide) (fun c880 => ?_) (fun c880 => ?_)
        · have k881 := i_ne c880
          exact J103 ls788 H787 locsH787 (lv_sub hl789 [2, 4] rfl) hTH787 hSH787 cy793_0 cy793_1 gy793_CG
        · have k881 := i_eq c880
          refine lv_aload_n hx hb dX10_tellsBy_33 rfl (lv_at hl789 0 rfl) ?_
          refine x_gr C hTH787 (ci := 10) (k := 25) rfl inX10 (by decide) wF_X10_62 ga0 rg_112 rfl dX10_tellsBy_34 (fun q882 eq882 gq882 => ?_)
          refine lv_iload hx hb dX10_tellsBy_37 (lv_at hl789 6 rfl) ?_
          refine x_ai C hTH787 gq882 rg_129 ⟨by omega, by show _ < ((112 : Nat) : Int); omega⟩ dX10_tellsBy_39 (fun x883 ex883 bx883 => ?_)
          refine lv_iload_n hx hb dX10_tellsBy_40 rfl (lv_at hl789 2 rfl) ?_
          refine lv_icmp_ne (tgt := 97) hx hb dX10_tellsBy_41 (by decide) (fun c884 => ?_) (fun c884 => ?_)
          · have k885 := i_ne c884
            exact J97 ls788 H787 locsH787 (x790) (x791) (lv_sub hl789 [0, 1, 2, 3, 4, 5, 6] rfl) hTH787 hSH787 (by have := i_rng x791; omega) (by have := i_rng x792; omega) cy793_0 cy793_1 gy793_CG (by omega)
          · have k885 := i_eq c884
            refine lv_iload_n hx hb dX10_tellsBy_44 rfl (lv_at hl789 2 rfl) ?_
            refine lv_iconst (v := 3) hx hb dX10_tellsBy_45 (by decide) ?_
            refine lv_icmp_eq (tgt := 60) hx hb dX10_tellsBy_46 (by decide) (fun c886 => ?_) (fun c886 => ?_)
            · have k887 := i_eq c886
              exact J60 ls788 H787 locsH787 (lv_sub hl789 [0, 1, 2, 3, 4, 5, 6] rfl) hTH787 hSH787 (by have := i_rng x791; omega) (by have := i_rng x792; omega) cy793_0 cy793_1 gy793_CG (by omega)
            · have k887 := i_ne c886
              refine lv_aload_n hx hb dX10_tellsBy_49 rfl (lv_at hl789 0 rfl) ?_
              refine x_gr C hTH787 (ci := 10) (k := 26) rfl inX10 (by decide) wF_X10_65 ga0 rg_112 rfl dX10_tellsBy_50 (fun q888 eq888 gq888 => ?_)
              refine lv_iload hx hb dX10_tellsBy_53 (lv_at hl789 6 rfl) ?_
              refine x_ai C hTH787 gq888 rg_130 ⟨by omega, by show _ < ((112 : Nat) : Int); omega⟩ dX10_tellsBy_55 (fun x889 ex889 bx889 => ?_)
              refine lv_iload_n hx hb dX10_tellsBy_56 rfl (lv_at hl789 3 rfl) ?_
              refine lv_icmp_ne (tgt := 97) hx hb dX10_tellsBy_57 (by decide) (fun c890 => ?_) (fun c890 => ?_)
              · have k891 := i_ne c890
                exact J97 ls788 H787 locsH787 (x790) (x791) (lv_sub hl789 [0, 1, 2, 3, 4, 5, 6] rfl) hTH787 hSH787 (by have := i_rng x791; omega) (by have := i_rng x792; omega) cy793_0 cy793_1 gy793_CG (by omega)
              · have k891 := i_eq c890
                exact J60 ls788 H787 locsH787 (lv_sub hl789 [0, 1, 2, 3, 4, 5, 6] rfl) hTH787 hSH787 (by have := i_rng x791; omega) (by have := i_rng x792; omega) cy793_0 cy793_1 gy793_CG (by omega)
  refine lv_iconst (v := 0) hx hb dX10_tellsBy_0 (by decide) ?_
  refine lv_istore (lv' := [(4, .int 0), (0, .ref a0), (1, .int x1), (2, .int x2), (3, .int x3)]) hx hb dX10_tellsBy_1 hl (by decide) rfl (fun ls892 hl893 => ?_)
  refine lv_iconst (v := 0) hx hb dX10_tellsBy_3 (by decide) ?_
  refine lv_istore (lv' := [(5, .int 0), (4, .int 0), (0, .ref a0), (1, .int x1), (2, .int x2), (3, .int x3)]) hx hb dX10_tellsBy_4 hl893 (by decide) rfl (fun ls894 hl895 => ?_)
  refine lv_bipush (v := 16) hx hb dX10_tellsBy_6 (by decide) ?_
  refine lv_iload_n hx hb dX10_tellsBy_8 rfl (lv_at hl895 3 rfl) ?_
  refine lv_imul hx hb dX10_tellsBy_9 ?_
  refine lv_topi (fun x896 ex896 => ?_)
  have tx896 := i_mul ex896 (by rw [n_16]; omega)
  rw [n_16] at tx896
  refine lv_istore (lv' := [(6, .int x896), (5, .int 0), (4, .int 0), (0, .ref a0), (1, .int x1), (2, .int x2), (3, .int x3)]) hx hb dX10_tellsBy_10 hl895 (by decide) rfl (fun ls897 hl898 => ?_)
  exact J12 ((32 - x896.toInt).toNat + 1) ls897 s.heap [] (0) (0) (x896) (lv_sub hl898 [3, 4, 5, 6, 2, 1, 0] rfl) hT hS (by decide) (by have := i_rng x896; omega) emq elm hg_CG (by omega) (by omega)
