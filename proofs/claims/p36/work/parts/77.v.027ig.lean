/-! ===== a world's bars and texts lie apart ===== -/
/-- the slots of a bar's and of a text's rows -/
def RKB : List Nat := [1, 2, 3, 4, 5, 6, 7, 10, 11, 12, 13, 17]
def RKT : List Nat := [1, 2, 3, 4, 5, 6, 7, 8]
/-- the rows lie behind the cell (and ahead of n) -/
def BK1 (K : KE) (H : Heap) (ci : Nat) (sl : List Nat) (q : Nat) : Prop := ∀ k ∈ sl, q < fR H q (K.1.2 ci k)
def BK2 (K : KE) (H : Heap) (ci : Nat) (sl : List Nat) (q n : Nat) : Prop := ∀ k ∈ sl, q < fR H q (K.1.2 ci k) ∧ fR H q (K.1.2 ci k) < n
theorem BK1.kept {K : KE} {H H1 : Heap} {ci q : Nat} {sl : List Nat} (h : BK1 K H ci sl q) (e : H1[q]? = H[q]?) : BK1 K H1 ci sl q := fun k hk => by rw [fR_kept e]; exact h k hk
theorem BK2.kept {K : KE} {H H1 : Heap} {ci q n : Nat} {sl : List Nat} (h : BK2 K H ci sl q n) (e : H1[q]? = H[q]?) : BK2 K H1 ci sl q n := fun k hk => by rw [fR_kept e]; exact h k hk
theorem BK1.hi {K : KE} {G : Nat → Option Nat} {H : Heap} {ci q : Nat} {sl : List Nat} (h : BK1 K H ci sl q) (hT : TY K G H) (hg : ∀ k ∈ sl, ∃ t, G (fR H q (K.1.2 ci k)) = some t) : BK2 K H ci sl q H.size := fun k hk => ⟨h k hk, (hg k hk).elim (fun _ e => hT.lt e)⟩
/-- a world's objects: bars, laws, jobs -/
def ow (K : KE) (H : Heap) (w i : Nat) : Nat := if i < 10 then fR H (fR H w (K.1.2 8 0)) i else if i < 12 then fR H (fR H w (K.1.2 8 2)) (i - 10) else fR H (fR H w (K.1.2 8 3)) (i - 12)
def OWN (K : KE) (H : Heap) (w : Nat) : Prop := (∀ i, i < 15 → ow K H w i < ow K H w (i + 1)) ∧ (∀ i, i < 10 → BK2 K H 0 RKB (ow K H w i) (ow K H w (i + 1))) ∧ (∀ i, 10 ≤ i → i < 15 → BK2 K H 7 RKT (ow K H w i) (ow K H w (i + 1))) ∧ BK1 K H 7 RKT (ow K H w 15)
theorem ow_b {K : KE} {H : Heap} {w i : Nat} (h : i < 10) : ow K H w i = fR H (fR H w (K.1.2 8 0)) i := if_pos h
theorem ow_l {K : KE} {H : Heap} {w i : Nat} (h : i < 2) : ow K H w (10 + i) = fR H (fR H w (K.1.2 8 2)) i := by
  unfold ow
  rw [if_neg (by omega), if_pos (by omega), show 10 + i - 10 = i by omega]
theorem ow_j {K : KE} {H : Heap} {w i : Nat} : ow K H w (12 + i) = fR H (fR H w (K.1.2 8 3)) i := by
  unfold ow
  rw [if_neg (by omega), if_neg (by omega), show 12 + i - 12 = i by omega]
/-- a text's references are as they were -/
def RFT (K : KE) (H1 H : Heap) (q : Nat) : Prop := ∀ k : Nat, 1 ≤ k → k ≤ 8 → fR H1 q (K.1.2 7 k) = fR H q (K.1.2 7 k)
theorem RFT.rf {K : KE} {H : Heap} {q : Nat} : RFT K H H q := fun _ _ _ => rfl
theorem RFT.st {K : KE} {H2 H1 H : Heap} {q : Nat} (h : RFT K H1 H q) (e : ∀ k : Nat, 1 ≤ k → k ≤ 8 → fR H2 q (K.1.2 7 k) = fR H1 q (K.1.2 7 k)) : RFT K H2 H q := fun k h1 h8 => (e k h1 h8).trans (h k h1 h8)
theorem RFT.cell {K : KE} {H1 H : Heap} {q : Nat} (e : H1[q]? = H[q]?) : RFT K H1 H q := fun _ _ _ => fR_kept e
theorem RFB.cell {K : KE} {H1 H : Heap} {q : Nat} (e : H1[q]? = H[q]?) : RFB K H1 H q := fun _ _ => fR_kept e
/-- all of a world's references are as they were -/
def RFW (K : KE) (H1 H : Heap) (w : Nat) : Prop := (∀ k, k = 0 ∨ k = 2 ∨ k = 3 → fR H1 w (K.1.2 8 k) = fR H w (K.1.2 8 k)) ∧ (∀ k i, (k = 0 ∧ i < 10) ∨ (k = 2 ∧ i < 2) ∨ (k = 3 ∧ i < 4) → fR H1 (fR H w (K.1.2 8 k)) i = fR H (fR H w (K.1.2 8 k)) i) ∧ (∀ i, i < 10 → RFB K H1 H (ow K H w i)) ∧ ∀ i, 10 ≤ i → i < 16 → RFT K H1 H (ow K H w i)
theorem RFW.wo {K : KE} {H1 H : Heap} {w i : Nat} (r : RFW K H1 H w) (hi : i < 16) : ow K H1 w i = ow K H w i := by
  obtain ⟨r1, r2, r3, r4⟩ := r
  unfold ow
  by_cases c : i < 10
  · rw [if_pos c, if_pos c, r1 0 (Or.inl rfl), r2 0 i (Or.inl ⟨rfl, c⟩)]
  · rw [if_neg c, if_neg c]
    by_cases d : i < 12
    · rw [if_pos d, if_pos d, r1 2 (Or.inr (Or.inl rfl)), r2 2 (i - 10) (Or.inr (Or.inl ⟨rfl, by omega⟩))]
    · rw [if_neg d, if_neg d, r1 3 (Or.inr (Or.inr rfl)), r2 3 (i - 12) (Or.inr (Or.inr ⟨rfl, by omega⟩))]
theorem OWN.st {K : KE} {H1 H : Heap} {w : Nat} (h : OWN K H w) (r : RFW K H1 H w) : OWN K H1 w := by
  obtain ⟨h1, h2, h3, h4⟩ := h
  refine ⟨fun i hi => ?_, fun i hi => ?_, fun i hi hj => ?_, ?_⟩
  · rw [r.wo (by omega), r.wo (by omega)]; exact h1 i hi
  · rw [r.wo (by omega), r.wo (by omega)]
    intro k hk
    have e := r.2.2.1 i hi k (by simp only [RKB, List.mem_cons, List.not_mem_nil, or_false] at hk; omega)
    rw [e]; exact h2 i hi k hk
  · rw [r.wo (by omega), r.wo (by omega)]
    intro k hk
    have e := r.2.2.2 i hi (by omega) k (by simp only [RKT, List.mem_cons, List.not_mem_nil, or_false] at hk; omega) (by simp only [RKT, List.mem_cons, List.not_mem_nil, or_false] at hk; omega)
    rw [e]; exact h3 i hi hj k hk
  · rw [r.wo (by omega)]
    intro k hk
    have e := r.2.2.2 15 (by omega) (by omega) k (by simp only [RKT, List.mem_cons, List.not_mem_nil, or_false] at hk; omega) (by simp only [RKT, List.mem_cons, List.not_mem_nil, or_false] at hk; omega)
    rw [e]; exact h4 k hk
theorem OWN.lt {K : KE} {H : Heap} {w : Nat} (h : OWN K H w) : ∀ (d i : Nat), i + d + 1 < 16 → ow K H w i < ow K H w (i + d + 1)
  | 0, i, hi => h.1 i (by omega)
  | d + 1, i, hi => by
    have a := OWN.lt h d i (by omega)
    have b := h.1 (i + d + 1) (by omega)
    rw [show i + (d + 1) + 1 = i + d + 1 + 1 by omega]
    omega
theorem OWN.le {K : KE} {H : Heap} {w i j : Nat} (h : OWN K H w) (hij : i < j) (hj : j < 16) : ow K H w (i + 1) ≤ ow K H w j := by
  by_cases e : i + 1 = j
  · rw [e]; exact Nat.le_refl _
  · have := h.lt (j - i - 2) (i + 1) (by omega)
    rw [show i + 1 + (j - i - 2) + 1 = j by omega] at this
    omega
/-- two objects are not one -/
theorem OWN.ne {K : KE} {H : Heap} {w i j : Nat} (h : OWN K H w) (hi : i < 16) (hj : j < 16) (hn : i ≠ j) : ow K H w i ≠ ow K H w j := by
  rcases Nat.lt_or_gt_of_ne hn with c | c
  · have a := h.1 i (by omega)
    have b := h.le c hj
    omega
  · have a := h.1 j (by omega)
    have b := h.le c hi
    omega
/-- their rows neither -/
theorem OWN.row {K : KE} {H : Heap} {w i j k k2 : Nat} (h : OWN K H w) (hi : i < 10) (hj : j < 10) (hn : i ≠ j) (hk : k ∈ RKB) (hk2 : k2 ∈ RKB) : fR H (ow K H w i) (K.1.2 0 k) ≠ fR H (ow K H w j) (K.1.2 0 k2) := by
  have a := h.2.1 i hi k hk
  have b := h.2.1 j hj k2 hk2
  rcases Nat.lt_or_gt_of_ne hn with c | c
  · have := h.le c (by omega)
    omega
  · have := h.le c (by omega)
    omega
theorem OWN.bk {K : KE} {H : Heap} {w i : Nat} (h : OWN K H w) (h1 : 10 ≤ i) (h2 : i < 16) : BK1 K H 7 RKT (ow K H w i) := by
  by_cases e : i = 15
  · subst e; exact h.2.2.2
  · exact fun k hk => (h.2.2.1 i h1 (by omega) k hk).1
theorem OWN.trow {K : KE} {H : Heap} {w i j k k2 : Nat} (h : OWN K H w) (hi : 10 ≤ i ∧ i < 16) (hj : 10 ≤ j ∧ j < 16) (hn : i ≠ j) (hk : k ∈ RKT) (hk2 : k2 ∈ RKT) : fR H (ow K H w i) (K.1.2 7 k) ≠ fR H (ow K H w j) (K.1.2 7 k2) := by
  have a := h.bk hi.1 hi.2 k hk
  have b := h.bk hj.1 hj.2 k2 hk2
  rcases Nat.lt_or_gt_of_ne hn with c | c
  · have := h.le c hj.2
    have := (h.2.2.1 i hi.1 (by omega) k hk).2
    omega
  · have := h.le c hi.2
    have := (h.2.2.1 j hj.1 (by omega) k2 hk2).2
    omega
theorem ow_g {K : KE} {G : Nat → Option Nat} {H : Heap} {w i : Nat} (hT : TY K G H) (gw : G w = some 0) (hi : i < 10) : G (ow K H w i) = some 1 := by
  rw [ow_b hi]
  obtain ⟨c, -, -, -, -, -, h⟩ := hT.aref (ty_fr (q := _) (k := 0) (u := 25) rfl hT gw rg_0 rfl) rg_25 hi
  exact h
theorem ow_t {K : KE} {G : Nat → Option Nat} {H : Heap} {w i : Nat} (hT : TY K G H) (gw : G w = some 0) (h1 : 10 ≤ i) (h2 : i < 16) : G (ow K H w i) = some 16 := by
  by_cases c : i < 12
  · obtain ⟨j, rfl⟩ : ∃ j, i = 10 + j := ⟨i - 10, by omega⟩
    rw [ow_l (by omega)]
    obtain ⟨c, -, -, -, -, -, h⟩ := hT.aref (j := j) (ty_fr (q := _) (k := 2) (u := 26) rfl hT gw rg_0 rfl) rg_26 (by omega)
    exact h
  · obtain ⟨j, rfl⟩ : ∃ j, i = 12 + j := ⟨i - 12, by omega⟩
    rw [ow_j]
    obtain ⟨c, -, -, -, -, -, h⟩ := hT.aref (j := j) (ty_fr (q := _) (k := 3) (u := 27) rfl hT gw rg_0 rfl) rg_27 (by omega)
    exact h
theorem RFW.cell {K : KE} {G : Nat → Option Nat} {H H1 : Heap} {w : Nat} (hT : TY K G H) (gw : G w = some 0) (e : ∀ q t, G q = some t → (t = 0 ∨ t = 1 ∨ t = 16 ∨ t = 25 ∨ t = 26 ∨ t = 27) → H1[q]? = H[q]?) : RFW K H1 H w := by
  refine ⟨fun k _ => fR_kept (e _ _ gw (by omega)), fun k i hk => ?_, fun i hi => RFB.cell (e _ _ (ow_g hT gw hi) (by omega)), fun i h1 h2 => RFT.cell (e _ _ (ow_t hT gw h1 h2) (by omega))⟩
  rcases hk with ⟨rfl, _⟩ | ⟨rfl, _⟩ | ⟨rfl, _⟩
  · exact fR_kept (e _ _ (ty_fr (q := _) (k := 0) (u := 25) rfl hT gw rg_0 rfl) (by omega))
  · exact fR_kept (e _ _ (ty_fr (q := _) (k := 2) (u := 26) rfl hT gw rg_0 rfl) (by omega))
  · exact fR_kept (e _ _ (ty_fr (q := _) (k := 3) (u := 27) rfl hT gw rg_0 rfl) (by omega))
theorem OWN.kept {K : KE} {G : Nat → Option Nat} {H H1 : Heap} {w : Nat} (hT : TY K G H) (gw : G w = some 0) (e : ∀ q t, G q = some t → H1[q]? = H[q]?) (h : OWN K H w) : OWN K H1 w := h.st (RFW.cell hT gw (fun q t hq _ => e q t hq))
theorem ow_gK {K : KE} {G : Nat → Option Nat} {H : Heap} {w i : Nat} (hT : TY K G H) (gw : G w = some 34) (hi : i < 10) : G (ow K H w i) = some 35 := by
  rw [ow_b hi]
  obtain ⟨c, -, -, -, -, -, h⟩ := hT.aref (ty_fr (q := _) (k := 0) (u := 59) rfl hT gw rg_34 rfl) rg_59 hi
  exact h
theorem ow_tK {K : KE} {G : Nat → Option Nat} {H : Heap} {w i : Nat} (hT : TY K G H) (gw : G w = some 34) (h1 : 10 ≤ i) (h2 : i < 16) : G (ow K H w i) = some 50 := by
  by_cases c : i < 12
  · obtain ⟨j, rfl⟩ : ∃ j, i = 10 + j := ⟨i - 10, by omega⟩
    rw [ow_l (by omega)]
    obtain ⟨c, -, -, -, -, -, h⟩ := hT.aref (j := j) (ty_fr (q := _) (k := 2) (u := 60) rfl hT gw rg_34 rfl) rg_60 (by omega)
    exact h
  · obtain ⟨j, rfl⟩ : ∃ j, i = 12 + j := ⟨i - 12, by omega⟩
    rw [ow_j]
    obtain ⟨c, -, -, -, -, -, h⟩ := hT.aref (j := j) (ty_fr (q := _) (k := 3) (u := 61) rfl hT gw rg_34 rfl) rg_61 (by omega)
    exact h
theorem RFW.cellK {K : KE} {G : Nat → Option Nat} {H H1 : Heap} {w : Nat} (hT : TY K G H) (gw : G w = some 34) (e : ∀ q t, G q = some t → (t = 34 ∨ t = 35 ∨ t = 50 ∨ t = 59 ∨ t = 60 ∨ t = 61) → H1[q]? = H[q]?) : RFW K H1 H w := by
  refine ⟨fun k _ => fR_kept (e _ _ gw (by omega)), fun k i hk => ?_, fun i hi => RFB.cell (e _ _ (ow_gK hT gw hi) (by omega)), fun i h1 h2 => RFT.cell (e _ _ (ow_tK hT gw h1 h2) (by omega))⟩
  rcases hk with ⟨rfl, _⟩ | ⟨rfl, _⟩ | ⟨rfl, _⟩
  · exact fR_kept (e _ _ (ty_fr (q := _) (k := 0) (u := 59) rfl hT gw rg_34 rfl) (by omega))
  · exact fR_kept (e _ _ (ty_fr (q := _) (k := 2) (u := 60) rfl hT gw rg_34 rfl) (by omega))
  · exact fR_kept (e _ _ (ty_fr (q := _) (k := 3) (u := 61) rfl hT gw rg_34 rfl) (by omega))
theorem OWN.keptK {K : KE} {G : Nat → Option Nat} {H H1 : Heap} {w : Nat} (hT : TY K G H) (gw : G w = some 34) (e : ∀ q t, G q = some t → H1[q]? = H[q]?) (h : OWN K H w) : OWN K H1 w := h.st (RFW.cellK hT gw (fun q t hq _ => e q t hq))
/-- a fresh world's texts have no line -/
def OWZ (K : KE) (H : Heap) (w : Nat) : Prop := ∀ i, 10 ≤ i → i < 16 → fI H (ow K H w i) (K.1.2 7 0) = 0
theorem OWZ.cell {K : KE} {G : Nat → Option Nat} {H H1 : Heap} {w : Nat} (h : OWZ K H w) (hT : TY K G H) (gw : G w = some 0) (e : ∀ q t, G q = some t → (t = 0 ∨ t = 1 ∨ t = 16 ∨ t = 25 ∨ t = 26 ∨ t = 27) → H1[q]? = H[q]?) : OWZ K H1 w := fun i h1 h2 => by
  rw [(RFW.cell hT gw e).wo h2, fI_kept (e _ _ (ow_t hT gw h1 h2) (by omega))]
  exact h i h1 h2
theorem OWZ.kept {K : KE} {G : Nat → Option Nat} {H H1 : Heap} {w : Nat} (hT : TY K G H) (gw : G w = some 0) (e : ∀ q t, G q = some t → H1[q]? = H[q]?) (h : OWZ K H w) : OWZ K H1 w := h.cell hT gw (fun q t hq _ => e q t hq)
