/-! ===== tubes of the bars, both sides ===== -/
def TUQ (n : Int) (C R : Nat → Nat → Int32) : Prop := ∀ j : Nat, j < 10 → (j : Int) < n → ∀ i : Nat, i < 2 → C j i = R j i
theorem TUQ.congr {n : Int} {C R C1 R1 : Nat → Nat → Int32} (h : TUQ n C R) (c : ∀ j i : Nat, j < 10 → (j : Int) < n → i < 2 → C1 j i = C j i) (r : ∀ j i : Nat, j < 10 → i < 2 → R1 j i = R j i) : TUQ n C1 R1 := fun j hj hn i hi => by
  rw [c j i hj hn hi, r j i hj hi]
  exact h j hj hn i hi
theorem TUQ.cast {n m : Int} {C R : Nat → Nat → Int32} (h : TUQ n C R) (e : m ≤ n) : TUQ m C R := fun j hj hn => h j hj (by omega)
theorem TUQ.nil {n : Int} {C R : Nat → Nat → Int32} (h : n ≤ 0) : TUQ n C R := fun j _ hn => by omega
theorem TUQ.set {n : Int} {C R C1 R1 : Nat → Nat → Int32} {k : Nat} (h : TUQ n C R) (h0 : ∀ i : Nat, i < 2 → C1 k i = R1 k i) (c : ∀ j i : Nat, j < 10 → i < 2 → j ≠ k → C1 j i = C j i) (r : ∀ j i : Nat, j < 10 → i < 2 → j ≠ k → R1 j i = R j i) : TUQ n C1 R1 := fun j hj hn i hi => by
  by_cases z : j = k
  · subst z
    exact h0 i hi
  · rw [c j i hj hi z, r j i hj hi z]
    exact h j hj hn i hi
theorem TUQ.add {n m : Int} {C R C1 R1 : Nat → Nat → Int32} {k : Nat} (h : TUQ n C R) (hk : (k : Int) = n) (hm : m = n + 1) (h0 : ∀ i : Nat, i < 2 → C1 k i = R1 k i) (c : ∀ j i : Nat, j < 10 → i < 2 → j ≠ k → C1 j i = C j i) (r : ∀ j i : Nat, j < 10 → i < 2 → j ≠ k → R1 j i = R j i) : TUQ m C1 R1 := fun j hj hn i hi => by
  by_cases z : j = k
  · subst z
    exact h0 i hi
  · rw [c j i hj hi z, r j i hj hi z]
    exact h j hj (by omega) i hi
def tcN (K : KE) (H : Heap) (w : Nat) : Nat → Nat → Int32 := fun j i => fI H (fR H (ow K H w j) (K.1.2 0 17)) i
def trN (K : KE) (H : Heap) (b : Nat) : Nat → Nat → Int32 := fun j i => fI H (fR H b (K.1.2 10 16)) (2 * j + i)
def tiN (H : Heap) (iq : Nat) : Nat → Nat → Int32 := fun j i => fI H iq (736 + 3 * (2 * j + i))
theorem tcN.kept {K : KE} {H H1 : Heap} {w : Nat} (o : ∀ j, j < 10 → ow K H1 w j = ow K H w j) (r : ∀ j, j < 10 → fR H1 (ow K H w j) (K.1.2 0 17) = fR H (ow K H w j) (K.1.2 0 17)) (f : ∀ j, j < 10 → ∀ i, fI H1 (fR H (ow K H w j) (K.1.2 0 17)) i = fI H (fR H (ow K H w j) (K.1.2 0 17)) i) : ∀ j i : Nat, j < 10 → i < 2 → tcN K H1 w j i = tcN K H w j i := fun j i hj _ => by
  show fI H1 (fR H1 (ow K H1 w j) _) i = fI H (fR H (ow K H w j) _) i
  rw [o j hj, r j hj, f j hj]
theorem trN.kept {K : KE} {H H1 : Heap} {b : Nat} (r : fR H1 b (K.1.2 10 16) = fR H b (K.1.2 10 16)) (f : ∀ j, fI H1 (fR H b (K.1.2 10 16)) j = fI H (fR H b (K.1.2 10 16)) j) : ∀ j i : Nat, j < 10 → i < 2 → trN K H1 b j i = trN K H b j i := fun j i _ _ => by
  show fI H1 (fR H1 b _) _ = fI H (fR H b _) _
  rw [r, f]
theorem tiN.kept {H H1 : Heap} {iq : Nat} (e : ∀ j, fI H1 iq j = fI H iq j) : ∀ j i : Nat, tiN H1 iq j i = tiN H iq j i := fun j i => e _
theorem tiN.of {K : KE} {H : Heap} {b iq : Nat} (e : EQ (fun j => fI H (fR H b (K.1.2 10 16)) j) (fun j => fI H iq j) 736 3 20) : ∀ j i : Nat, j < 10 → i < 2 → trN K H b j i = tiN H iq j i := fun j i hj hi => e (2 * j + i) (by omega)
/-- the bars that were copied -/
def TBT (K : KE) (H H0 : Heap) (a c : Nat) (n : Int) : Prop := ∀ j : Nat, j < 10 → (j : Int) < n → ∀ i : Nat, i < 2 → fI H (fR H0 (ow K H0 a j) (K.1.2 0 17)) i = fI H0 (fR H0 (ow K H0 c j) (K.1.2 0 17)) i
theorem TBT.nil {K : KE} {H H0 : Heap} {a c : Nat} {n : Int} (h : n ≤ 0) : TBT K H H0 a c n := fun j _ hj => by omega
theorem TBT.cast {K : KE} {H H0 : Heap} {a c : Nat} {n m : Int} (h : TBT K H H0 a c n) (e : m ≤ n) : TBT K H H0 a c m := fun j hj h2 => h j hj (by omega)
theorem TBT.kept {K : KE} {H H1 H0 : Heap} {a c : Nat} {n : Int} (h : TBT K H H0 a c n) (e : ∀ j, j < 10 → ∀ i, fI H1 (fR H0 (ow K H0 a j) (K.1.2 0 17)) i = fI H (fR H0 (ow K H0 a j) (K.1.2 0 17)) i) : TBT K H1 H0 a c n := fun j hj hn i hi => by
  rw [e j hj]
  exact h j hj hn i hi
theorem TBT.go {K : KE} {H1 H H0 : Heap} {a c j dq sq : Nat} {n : Int} (h : TBT K H H0 a c (j : Int)) (hj : j < 10) (hn : n = (j : Int) + 1) (ed : fR H0 (ow K H0 a j) (K.1.2 0 17) = dq) (es : fR H0 (ow K H0 c j) (K.1.2 0 17) = sq) (e : ∀ i : Nat, i < 2 → fI H1 dq i = fI H sq i) (hs : ∀ i, fI H sq i = fI H0 sq i) (ho : ∀ l, l < 10 → l ≠ j → ∀ i, fI H1 (fR H0 (ow K H0 a l) (K.1.2 0 17)) i = fI H (fR H0 (ow K H0 a l) (K.1.2 0 17)) i) : TBT K H1 H0 a c n := by
  subst hn
  intro l hl hln i hi
  by_cases z : l = j
  · subst z
    rw [ed, es, e i hi, hs]
  · rw [ho l hl z]
    exact h l hl (by omega) i hi
/-! ===== tubes: one bar's row, copies, what stays ===== -/
/-! ===== tubes: a tube is told, a bar comes; the calls that keep the bars' references ===== -/
theorem RFW.nbf {K : KE} {G : Nat → Option Nat} {H H1 : Heap} {w : Nat} (hT : TY K G H) (gw : G w = some 0) (nb : NBF K G H1 H) (e : ∀ q t, G q = some t → (t = 0 ∨ (16 ≤ t ∧ t ≤ 27)) → H1[q]? = H[q]?) : RFW K H1 H w := by
  refine ⟨fun k _ => fR_kept (e _ _ gw (by omega)), fun k i hk => ?_, fun i hi => nb.rfb (ow_g hT gw hi), fun i h1 h2 => RFT.cell (e _ _ (ow_t hT gw h1 h2) (by omega))⟩
  rcases hk with ⟨rfl, _⟩ | ⟨rfl, _⟩ | ⟨rfl, _⟩
  · exact fR_kept (e _ _ (ty_fr (q := _) (k := 0) (u := 25) rfl hT gw rg_0 rfl) (by omega))
  · exact fR_kept (e _ _ (ty_fr (q := _) (k := 2) (u := 26) rfl hT gw rg_0 rfl) (by omega))
  · exact fR_kept (e _ _ (ty_fr (q := _) (k := 3) (u := 27) rfl hT gw rg_0 rfl) (by omega))
