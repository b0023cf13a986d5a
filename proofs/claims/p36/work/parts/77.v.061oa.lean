/-! ===== the reference's text is laid into its row ===== -/
theorem TXRW.lwc {H : Heap} {w f j e a c d o r : Nat} {kk vv : Nat → Int} {lw lw1 : Int} {n i m : Nat} (h : TXRW H w f j e a c d o r kk vv lw n i m) (e1 : lw1 = lw) : TXRW H w f j e a c d o r kk vv lw1 n i m := by subst e1; exact h
theorem TXRW.fin {K : KE} {Hc H : Heap} {b w f j e a c d o r row n n1 i I m : Nat} {kk vv : Nat → Int} {lw : Int} (h : TXRW Hc w f j e a c d o r kk vv lw n i m) (hn : n1 = n) (hI : m ≤ I)
    (cw : CP (fun k => fI H w k) (fun k => fI Hc w k) (16 * row) 96 n) (cf : CP (fun k => fI H f k) (fun k => fI Hc f k) (16 * row) 96 n) (cj : CP (fun k => fI H j k) (fun k => fI Hc j k) (16 * row) 96 n) (ce : CP (fun k => fI H e k) (fun k => fI Hc e k) (16 * row) 96 n) (ca : CP (fun k => fI H a k) (fun k => fI Hc a k) (16 * row) 96 n) (cc : CP (fun k => fI H c k) (fun k => fI Hc c k) (16 * row) 96 n) (cd : CP (fun k => fI H d k) (fun k => fI Hc d k) (16 * row) 96 n)
    (co : CP (fun k => fI H o k) (fun k => fI Hc o k) (500 * row) 3000 I) (cr : CP (fun k => fI H r k) (fun k => fI Hc r k) (500 * row) 3000 I)
    (ew : w = fR H b (K.1.2 10 25)) (ef : f = fR H b (K.1.2 10 26)) (ej : j = fR H b (K.1.2 10 27)) (ee : e = fR H b (K.1.2 10 28)) (ea : a = fR H b (K.1.2 10 29)) (ec : c = fR H b (K.1.2 10 30)) (ed : d = fR H b (K.1.2 10 31)) (eo : o = fR H b (K.1.2 10 32)) (er : r = fR H b (K.1.2 10 33)) : TXMR K H b row kk vv lw n1 := by
  subst hn
  intro l hl
  obtain ⟨z, zc, zd⟩ := h.2 l hl
  rw [← ew, ← ef, ← ej, ← ee, ← ea, ← ec, ← ed, ← eo, ← er]
  rw [show fI H w (16 * row + l) = fI Hc w (96 + l) from cw.1 l hl, show fI H f (16 * row + l) = fI Hc f (96 + l) from cf.1 l hl, show fI H j (16 * row + l) = fI Hc j (96 + l) from cj.1 l hl, show fI H e (16 * row + l) = fI Hc e (96 + l) from ce.1 l hl, show fI H a (16 * row + l) = fI Hc a (96 + l) from ca.1 l hl, show fI H c (16 * row + l) = fI Hc c (96 + l) from cc.1 l hl, show fI H d (16 * row + l) = fI Hc d (96 + l) from cd.1 l hl]
  exact z.move (fun t ht => co.1 t (by omega)) (fun t ht => cr.1 t (by omega)) zc zd
/-- all rows but one, ahead of the draft, are as they were -/
def RWK (H1 H : Heap) (w f j e a c d o r m row : Nat) : Prop := (∀ l, l < 96 → (l < 16 * row ∨ 16 * row + 16 ≤ l) → fI H1 w l = fI H w l ∧ fI H1 f l = fI H f l ∧ fI H1 j l = fI H j l ∧ fI H1 e l = fI H e l ∧ fI H1 a l = fI H a l ∧ fI H1 c l = fI H c l ∧ fI H1 d l = fI H d l) ∧ (∀ l, l < 3000 → (l < 500 * row ∨ 500 * row + 500 ≤ l) → fI H1 o l = fI H o l ∧ fI H1 r l = fI H r l) ∧ ∀ l, l ≠ row → fI H1 m l = fI H m l
theorem FRD.rwk {H1 H : Heap} {w f j e a c d o r m row : Nat} (h : FRD H1 H w f j e a c d o r) (hm : ∀ l, fI H1 m l = fI H m l) : RWK H1 H w f j e a c d o r m row := ⟨fun l hl _ => h.1 l hl, fun l hl _ => h.2 l hl, fun l _ => hm l⟩
theorem RWK.fin {Hc H H0 : Heap} {w f j e a c d o r m row n I : Nat} (h : FRD Hc H0 w f j e a c d o r) (hn : n ≤ 16) (hI : I ≤ 500)
    (cw : CP (fun k => fI H w k) (fun k => fI Hc w k) (16 * row) 96 n) (cf : CP (fun k => fI H f k) (fun k => fI Hc f k) (16 * row) 96 n) (cj : CP (fun k => fI H j k) (fun k => fI Hc j k) (16 * row) 96 n) (ce : CP (fun k => fI H e k) (fun k => fI Hc e k) (16 * row) 96 n) (ca : CP (fun k => fI H a k) (fun k => fI Hc a k) (16 * row) 96 n) (cc : CP (fun k => fI H c k) (fun k => fI Hc c k) (16 * row) 96 n) (cd : CP (fun k => fI H d k) (fun k => fI Hc d k) (16 * row) 96 n)
    (co : CP (fun k => fI H o k) (fun k => fI Hc o k) (500 * row) 3000 I) (cr : CP (fun k => fI H r k) (fun k => fI Hc r k) (500 * row) 3000 I) (hm : ∀ l, l ≠ row → fI H m l = fI H0 m l) : RWK H H0 w f j e a c d o r m row := by
  refine ⟨fun l hl ho => ?_, fun l hl ho => ?_, hm⟩
  · obtain ⟨g1, g2, g3, g4, g5, g6, g7⟩ := h.1 l hl
    have hz : l < 16 * row ∨ 16 * row + n ≤ l := by omega
    exact ⟨(cw.2 l hz).trans g1, (cf.2 l hz).trans g2, (cj.2 l hz).trans g3, (ce.2 l hz).trans g4, (ca.2 l hz).trans g5, (cc.2 l hz).trans g6, (cd.2 l hz).trans g7⟩
  · obtain ⟨g1, g2⟩ := h.2 l hl
    have hz : l < 500 * row ∨ 500 * row + I ≤ l := by omega
    exact ⟨(co.2 l hz).trans g1, (cr.2 l hz).trans g2⟩
