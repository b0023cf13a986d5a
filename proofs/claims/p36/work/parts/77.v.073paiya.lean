/-! ===== the law's relation of bars and texts: what keeps it ===== -/
def RE (K : KE) (H : Heap) (w b : Nat) (n : Int) : Prop := OWN K H w ∧ BPE n (vcN K H w) (vrN K H b) ∧ TPE (TXP K H w) (TRP K H b)
def RKI (K : KE) (H : Heap) (q iq : Nat) (n : Int) : Prop := OWN K H q ∧ BPE n (vcN K H q) (viN H iq) ∧ TPE (TXP K H q) (TIP H iq)
theorem ucR_v : ∀ k, k < 10 → (ucR k = 113 ∨ ucR k = 114 ∨ ucR k = 115 ∨ ucR k = 116 ∨ ucR k = 117 ∨ ucR k = 118 ∨ ucR k = 120 ∨ ucR k = 121 ∨ ucR k = 119 ∨ ucR k = 122) := by decide
section
variable {K : KE} {G : Nat → Option Nat} {H H1 : Heap} {w b q iq : Nat} {n : Int}
theorem gTR (hT : TY K G H) (gb : G b = some 112) : ∀ k : Nat, 24 ≤ k → k ≤ 33 → ∃ u, G (fR H b (K.1.2 10 k)) = some u ∧ (u = 128 ∨ u = 129 ∨ u = 130 ∨ u = 131 ∨ u = 132 ∨ u = 133 ∨ u = 134 ∨ u = 135 ∨ u = 136 ∨ u = 137) := by
  intro k h1 h2
  have : k = 24 ∨ k = 25 ∨ k = 26 ∨ k = 27 ∨ k = 28 ∨ k = 29 ∨ k = 30 ∨ k = 31 ∨ k = 32 ∨ k = 33 := by omega
  rcases this with rfl | rfl | rfl | rfl | rfl | rfl | rfl | rfl | rfl | rfl
  · exact ⟨_, ty_fr (q := _) (k := 24) (u := 128) rfl hT gb rgM rfl, by omega⟩
  · exact ⟨_, ty_fr (q := _) (k := 25) (u := 129) rfl hT gb rgM rfl, by omega⟩
  · exact ⟨_, ty_fr (q := _) (k := 26) (u := 130) rfl hT gb rgM rfl, by omega⟩
  · exact ⟨_, ty_fr (q := _) (k := 27) (u := 131) rfl hT gb rgM rfl, by omega⟩
  · exact ⟨_, ty_fr (q := _) (k := 28) (u := 132) rfl hT gb rgM rfl, by omega⟩
  · exact ⟨_, ty_fr (q := _) (k := 29) (u := 133) rfl hT gb rgM rfl, by omega⟩
  · exact ⟨_, ty_fr (q := _) (k := 30) (u := 134) rfl hT gb rgM rfl, by omega⟩
  · exact ⟨_, ty_fr (q := _) (k := 31) (u := 135) rfl hT gb rgM rfl, by omega⟩
  · exact ⟨_, ty_fr (q := _) (k := 32) (u := 136) rfl hT gb rgM rfl, by omega⟩
  · exact ⟨_, ty_fr (q := _) (k := 33) (u := 137) rfl hT gb rgM rfl, by omega⟩
/-- the reference's rows of bars: what keeps them -/
theorem vrN.reg (hT : TY K G H) (gb : G b = some 112) (r : ∀ k, k = 4 ∨ k = 5 ∨ k = 6 ∨ k = 7 ∨ k = 8 ∨ k = 9 ∨ k = 10 ∨ k = 11 ∨ k = 12 ∨ k = 13 → fR H1 b (K.1.2 10 k) = fR H b (K.1.2 10 k)) (e : ∀ q t, G q = some t → (t = 113 ∨ t = 114 ∨ t = 115 ∨ t = 116 ∨ t = 117 ∨ t = 118 ∨ t = 120 ∨ t = 121 ∨ t = 119 ∨ t = 122) → H1[q]? = H[q]?) : ∀ bar, vrN K H1 b bar = vrN K H b bar :=
  vrN.kept (fun k hk => r _ (rcR_v k hk)) (fun k hk j => fI_kept (e _ _ (gR hT gb k hk) (ucR_v k hk)))
theorem TRP.reg (hT : TY K G H) (gb : G b = some 112) (r : ∀ k, 24 ≤ k → k ≤ 33 → fR H1 b (K.1.2 10 k) = fR H b (K.1.2 10 k)) (e : ∀ q t, G q = some t → (t = 128 ∨ t = 129 ∨ t = 130 ∨ t = 131 ∨ t = 132 ∨ t = 133 ∨ t = 134 ∨ t = 135 ∨ t = 136 ∨ t = 137) → H1[q]? = H[q]?) : TPK (TRP K H1 b) (TRP K H b) :=
  TRP.kept r (fun k h1 h2 j => by
    obtain ⟨u, g, hu⟩ := gTR hT gb k h1 h2
    exact fI_kept (e _ _ g hu))
/-- a call of the class that leaves the world, and all of the reference -/
theorem RE.cls (h : RE K H w b n) (hT : TY K G H) (gw : G w = some 0) (gb : G b = some 112) (e : ∀ q t, G q = some t → (t ≤ 8 ∨ (16 ≤ t ∧ t ≤ 27) ∨ 112 ≤ t) → H1[q]? = H[q]?) : RE K H1 w b n := by
  have r : RFW K H1 H w := RFW.cell hT gw (fun q t hq ht => e q t hq (by omega))
  exact ⟨h.1.st r, h.2.1.congr (vcN.kept hT gw r (fun q t hq ht => e q t hq (by omega))) (fun j _ => by rw [vrN.reg hT gb (fun k _ => fR_kept (e _ _ gb (by omega))) (fun q t hq ht => e q t hq (by omega)) j]; exact EqV.rf), h.2.2.congr (TXP.kept hT gw r (fun q t hq ht => e q t hq (by omega))) (TRP.reg hT gb (fun k _ _ => fR_kept (e _ _ gb (by omega))) (fun q t hq ht => e q t hq (by omega)))⟩
/-- a call of the class that writes the world's own numbers or its nights, notes, blanks -/
theorem RE.now (h : RE K H w b n) (hT : TY K G H) (gw : G w = some 0) (gb : G b = some 112) (nw : NWF K H1 H w) (e : ∀ q t, G q = some t → ((1 ≤ t ∧ t ≤ 27) ∨ 112 ≤ t) → H1[q]? = H[q]?) : RE K H1 w b n := by
  have r : RFW K H1 H w := RFW.of hT gw (fun k hk => nw k (by omega)) (fun q t hq ht => e q t hq (by omega))
  exact ⟨h.1.st r, h.2.1.congr (vcN.kept hT gw r (fun q t hq ht => e q t hq (by omega))) (fun j _ => by rw [vrN.reg hT gb (fun k _ => fR_kept (e _ _ gb (by omega))) (fun q t hq ht => e q t hq (by omega)) j]; exact EqV.rf), h.2.2.congr (TXP.kept hT gw r (fun q t hq ht => e q t hq (by omega))) (TRP.reg hT gb (fun k _ _ => fR_kept (e _ _ gb (by omega))) (fun q t hq ht => e q t hq (by omega)))⟩
/-- a call of the class that writes but the taps' count and the holes of the bars -/
theorem RE.nbf (h : RE K H w b n) (hT : TY K G H) (gw : G w = some 0) (gb : G b = some 112) (nb : NBF K G H1 H) (e : ∀ q t, G q = some t → (t = 0 ∨ (2 ≤ t ∧ t ≤ 8) ∨ (16 ≤ t ∧ t ≤ 27) ∨ 112 ≤ t) → H1[q]? = H[q]?) : RE K H1 w b n := by
  have r : RFW K H1 H w := by
    refine ⟨fun k _ => fR_kept (e _ _ gw (by omega)), fun k i hk => ?_, fun i hi => nb.rfb (ow_g hT gw hi), fun i h1 h2 => RFT.cell (e _ _ (ow_t hT gw h1 h2) (by omega))⟩
    rcases hk with ⟨rfl, _⟩ | ⟨rfl, _⟩ | ⟨rfl, _⟩
    · exact fR_kept (e _ _ (ty_fr (q := _) (k := 0) (u := 25) rfl hT gw rg_0 rfl) (by omega))
    · exact fR_kept (e _ _ (ty_fr (q := _) (k := 2) (u := 26) rfl hT gw rg_0 rfl) (by omega))
    · exact fR_kept (e _ _ (ty_fr (q := _) (k := 3) (u := 27) rfl hT gw rg_0 rfl) (by omega))
  refine ⟨h.1.st r, h.2.1.congr (fun j hj => ?_) (fun j _ => by rw [vrN.reg hT gb (fun k _ => fR_kept (e _ _ gb (by omega))) (fun q t hq ht => e q t hq (by omega)) j]; exact EqV.rf), h.2.2.congr (TXP.kept hT gw r (fun q t hq ht => e q t hq (by omega))) (TRP.reg hT gb (fun k _ _ => fR_kept (e _ _ gb (by omega))) (fun q t hq ht => e q t hq (by omega)))⟩
  show vwC K H1 (ow K H1 w j) = vwC K H (ow K H w j)
  rw [r.wo (by omega)]
  have gj := ow_g hT gw hj
  exact nb.vw gj (fun k h1 h7 i => fI_kept (e _ _ (gBz hT gj k h1 h7) (by omega)))
theorem RE.cast {m : Int} (h : RE K H w b n) (e : m = n) : RE K H w b m := by subst e; exact h
theorem RKI.cast {m : Int} (h : RKI K H q iq n) (e : m = n) : RKI K H q iq m := by subst e; exact h
/-- one bar changes on both sides -/
theorem RE.set {H2 : Heap} {i : Nat} (h : RE K H w b n) (own : OWN K H2 w) (hn : (i : Int) < n) (e : EqW (vcN K H2 w i) (vrN K H2 b i)) (o : ObV (vcN K H2 w i)) (g : GoV (vcN K H2 w i)) (c : ∀ j, j < 10 → j ≠ i → vcN K H2 w j = vcN K H w j) (r : ∀ j, j < 10 → j ≠ i → EqV (vrN K H2 b j) (vrN K H b j)) (tc : TPK (TXP K H2 w) (TXP K H w)) (tr : TPK (TRP K H2 b) (TRP K H b)) : RE K H2 w b n := ⟨own, h.2.1.set hn e o g c r, h.2.2.congr tc tr⟩
theorem RE.add {H2 : Heap} {i : Nat} {m s : Int} (h : RE K H w b n) (own : OWN K H2 w) (hn : (i : Int) = n) (hm : m = n + 1) (hs : 3 ≤ s ∧ s ≤ 16) (x : NewV (vcN K H2 w i) s) (y : NewV (vrN K H2 b i) s) (c : ∀ j, j < 10 → j ≠ i → vcN K H2 w j = vcN K H w j) (r : ∀ j, j < 10 → j ≠ i → EqV (vrN K H2 b j) (vrN K H b j)) (tc : TPK (TXP K H2 w) (TXP K H w)) (tr : TPK (TRP K H2 b) (TRP K H b)) : RE K H2 w b m := ⟨own, h.2.1.add hn hm hs x y c r, h.2.2.congr tc tr⟩
/-- a call of the reference that leaves its rows of bars and texts -/
theorem RE.ref (h : RE K H w b n) (hT : TY K G H) (gw : G w = some 0) (gb : G b = some 112) (r1 : ∀ k, (4 ≤ k ∧ k ≤ 13) ∨ (24 ≤ k ∧ k ≤ 33) → fR H1 b (K.1.2 10 k) = fR H b (K.1.2 10 k)) (e : ∀ q t, G q = some t → (t ≤ 27 ∨ (t = 113 ∨ t = 114 ∨ t = 115 ∨ t = 116 ∨ t = 117 ∨ t = 118 ∨ t = 120 ∨ t = 121 ∨ t = 119 ∨ t = 122) ∨ t = 128 ∨ t = 129 ∨ t = 130 ∨ t = 131 ∨ t = 132 ∨ t = 133 ∨ t = 134 ∨ t = 135 ∨ t = 136 ∨ t = 137) → H1[q]? = H[q]?) : RE K H1 w b n := by
  have r : RFW K H1 H w := RFW.cell hT gw (fun q t hq ht => e q t hq (by omega))
  exact ⟨h.1.st r, h.2.1.congr (vcN.kept hT gw r (fun q t hq ht => e q t hq (by omega))) (fun j _ => by rw [vrN.reg hT gb (fun k hk => r1 k (by omega)) (fun q t hq ht => e q t hq (by omega)) j]; exact EqV.rf), h.2.2.congr (TXP.kept hT gw r (fun q t hq ht => e q t hq (by omega))) (TRP.reg hT gb (fun k h1 h2 => r1 k (by omega)) (fun q t hq ht => e q t hq (by omega)))⟩
/-- a call of the reference that puts thick, grain, wax back -/
theorem RE.rows (h : RE K H w b n) (hT : TY K G H) (gw : G w = some 0) (gb : G b = some 112) (r1 : ∀ k, (4 ≤ k ∧ k ≤ 13) ∨ (24 ≤ k ∧ k ≤ 33) → fR H1 b (K.1.2 10 k) = fR H b (K.1.2 10 k)) (e : ∀ q t, G q = some t → (t ≤ 27 ∨ (t = 113 ∨ t = 116 ∨ t = 118 ∨ t = 120 ∨ t = 121 ∨ t = 119 ∨ t = 122) ∨ t = 128 ∨ t = 129 ∨ t = 130 ∨ t = 131 ∨ t = 132 ∨ t = 133 ∨ t = 134 ∨ t = 135 ∨ t = 136 ∨ t = 137) → H1[q]? = H[q]?) (k5 : ∀ j, fI H1 (fR H b (K.1.2 10 5)) j = fI H (fR H b (K.1.2 10 5)) j) (k6 : ∀ j, fI H1 (fR H b (K.1.2 10 6)) j = fI H (fR H b (K.1.2 10 6)) j) (k8 : ∀ j, fI H1 (fR H b (K.1.2 10 8)) j = fI H (fR H b (K.1.2 10 8)) j) : RE K H1 w b n := by
  have r : RFW K H1 H w := RFW.cell hT gw (fun q t hq ht => e q t hq (by omega))
  have er : ∀ bar, vrN K H1 b bar = vrN K H b bar := by
    refine vrN.kept (fun k hk => r1 _ (by have := rcR_v k hk; omega)) (fun k hk j => ?_)
    have : k = 0 ∨ k = 1 ∨ k = 2 ∨ k = 3 ∨ k = 4 ∨ k = 5 ∨ k = 6 ∨ k = 7 ∨ k = 8 ∨ k = 9 := by omega
    rcases this with rfl | rfl | rfl | rfl | rfl | rfl | rfl | rfl | rfl | rfl
    · exact fI_kept (e _ _ (show G (fR H b (K.1.2 10 (rcR 0))) = some 113 from gR hT gb 0 hk) (by omega))
    · exact k5 j
    · exact k6 j
    · exact fI_kept (e _ _ (show G (fR H b (K.1.2 10 (rcR 3))) = some 116 from gR hT gb 3 hk) (by omega))
    · exact k8 j
    · exact fI_kept (e _ _ (show G (fR H b (K.1.2 10 (rcR 5))) = some 118 from gR hT gb 5 hk) (by omega))
    · exact fI_kept (e _ _ (show G (fR H b (K.1.2 10 (rcR 6))) = some 120 from gR hT gb 6 hk) (by omega))
    · exact fI_kept (e _ _ (show G (fR H b (K.1.2 10 (rcR 7))) = some 121 from gR hT gb 7 hk) (by omega))
    · exact fI_kept (e _ _ (show G (fR H b (K.1.2 10 (rcR 8))) = some 119 from gR hT gb 8 hk) (by omega))
    · exact fI_kept (e _ _ (show G (fR H b (K.1.2 10 (rcR 9))) = some 122 from gR hT gb 9 hk) (by omega))
  exact ⟨h.1.st r, h.2.1.congr (vcN.kept hT gw r (fun q t hq ht => e q t hq (by omega))) (fun j _ => by rw [er j]; exact EqV.rf), h.2.2.congr (TXP.kept hT gw r (fun q t hq ht => e q t hq (by omega))) (TRP.reg hT gb (fun k h1 h2 => r1 k (by omega)) (fun q t hq ht => e q t hq (by omega)))⟩
/-- the image stays -/
theorem RKI.kept (h : RKI K H q iq n) (hT : TY K G H) (gq : G q = some 34) (ei : H1[iq]? = H[iq]?) (e : ∀ q t, G q = some t → (34 ≤ t ∧ t ≤ 61) → H1[q]? = H[q]?) : RKI K H1 q iq n := by
  have r : RFW K H1 H q := RFW.cellK hT gq (fun q t hq ht => e q t hq (by omega))
  exact ⟨h.1.st r, h.2.1.congr (vcN.keptK hT gq r (fun q t hq ht => e q t hq (by omega))) (fun j _ => by rw [viN.kept (fun i => fI_kept ei) j]; exact EqV.rf), h.2.2.congr (TXP.keptK hT gq r (fun q t hq ht => e q t hq (by omega))) (TIP.kept (fun i => fI_kept ei))⟩
theorem gBall (hT : TY K G H) (gq : G q = some 1) : ∀ k ∈ RKB, ∃ u, G (fR H q (K.1.2 0 k)) = some u ∧ 2 ≤ u ∧ u ≤ 15 := by
  intro k hk
  have : k = 1 ∨ k = 2 ∨ k = 3 ∨ k = 4 ∨ k = 5 ∨ k = 6 ∨ k = 7 ∨ k = 10 ∨ k = 11 ∨ k = 12 ∨ k = 13 ∨ k = 17 := by
    simp only [RKB, List.mem_cons, List.not_mem_nil, or_false] at hk
    omega
  rcases this with rfl | rfl | rfl | rfl | rfl | rfl | rfl | rfl | rfl | rfl | rfl | rfl
  · exact ⟨2, ty_fr (q := _) (k := 1) (u := 2) rfl hT gq rg_1 rfl, by omega⟩
  · exact ⟨3, ty_fr (q := _) (k := 2) (u := 3) rfl hT gq rg_1 rfl, by omega⟩
  · exact ⟨4, ty_fr (q := _) (k := 3) (u := 4) rfl hT gq rg_1 rfl, by omega⟩
  · exact ⟨5, ty_fr (q := _) (k := 4) (u := 5) rfl hT gq rg_1 rfl, by omega⟩
  · exact ⟨6, ty_fr (q := _) (k := 5) (u := 6) rfl hT gq rg_1 rfl, by omega⟩
  · exact ⟨7, ty_fr (q := _) (k := 6) (u := 7) rfl hT gq rg_1 rfl, by omega⟩
  · exact ⟨8, ty_fr (q := _) (k := 7) (u := 8) rfl hT gq rg_1 rfl, by omega⟩
  · exact ⟨9, ty_fr (q := _) (k := 10) (u := 9) rfl hT gq rg_1 rfl, by omega⟩
  · exact ⟨10, ty_fr (q := _) (k := 11) (u := 10) rfl hT gq rg_1 rfl, by omega⟩
  · exact ⟨11, ty_fr (q := _) (k := 12) (u := 11) rfl hT gq rg_1 rfl, by omega⟩
  · exact ⟨13, ty_fr (q := _) (k := 13) (u := 13) rfl hT gq rg_1 rfl, by omega⟩
  · exact ⟨15, ty_fr (q := _) (k := 17) (u := 15) rfl hT gq rg_1 rfl, by omega⟩
/-- one bar of the world changes -/
theorem bar_one {j d : Nat} (own : OWN K H w) (hT : TY K G H) (gw : G w = some 0) (hj : j < 10) (ed : ow K H w j = d) (nw : NWF K H1 H w) (rb : RFB K H1 H d) (f : ∀ q t : Nat, G q = some t → (1 ≤ t ∧ t ≤ 27) → q ≠ d → (∀ k ∈ RKB, q ≠ fR H d (K.1.2 0 k)) → H1[q]? = H[q]?) : RFW K H1 H w ∧ (∀ i, i < 10 → i ≠ j → vcN K H1 w i = vcN K H w i) ∧ vcN K H1 w j = vwC K H1 d ∧ TPK (TXP K H1 w) (TXP K H w) := by
  have gj := ow_g hT gw hj
  rw [ed] at gj
  have nr : ∀ q t : Nat, G q = some t → (t = 1 ∨ 16 ≤ t) → ∀ k ∈ RKB, q ≠ fR H d (K.1.2 0 k) := fun q t hq ht k hk e => by
    obtain ⟨u, g, h2, h15⟩ := gBall hT gj k hk
    rw [e, g] at hq
    have := Option.some.inj hq
    omega
  have fx : ∀ q t : Nat, G q = some t → (16 ≤ t ∧ t ≤ 27) → H1[q]? = H[q]? := fun q t hq ht => f q t hq (by omega) (G_ne hq gj (by omega)) (nr q t hq (by omega))
  have r : RFW K H1 H w := by
    refine ⟨fun k hk => nw k (by omega), fun k i hk => ?_, fun i hi => ?_, fun i h1 h2 => RFT.cell (fx _ _ (ow_t hT gw h1 h2) (by omega))⟩
    · rcases hk with ⟨rfl, _⟩ | ⟨rfl, _⟩ | ⟨rfl, _⟩
      · exact fR_kept (fx _ _ (ty_fr (q := _) (k := 0) (u := 25) rfl hT gw rg_0 rfl) (by omega))
      · exact fR_kept (fx _ _ (ty_fr (q := _) (k := 2) (u := 26) rfl hT gw rg_0 rfl) (by omega))
      · exact fR_kept (fx _ _ (ty_fr (q := _) (k := 3) (u := 27) rfl hT gw rg_0 rfl) (by omega))
    · by_cases z : i = j
      · subst z
        rw [ed]
        exact rb
      · have gi := ow_g hT gw hi
        exact RFB.cell (f _ _ gi (by omega) (by rw [← ed]; exact own.ne (by omega) (by omega) z) (nr _ _ gi (Or.inl rfl)))
  refine ⟨r, fun i hi hn => ?_, ?_, TXP.kept hT gw r (fun q t hq ht => fx q t hq (by omega))⟩
  · show vwC K H1 (ow K H1 w i) = vwC K H (ow K H w i)
    rw [r.wo (by omega)]
    exact oth_b own hT gw hi hj hn ed (fun q t hq ht n1 n2 => f q t hq (by omega) n1 n2)
  · show vwC K H1 (ow K H1 w j) = vwC K H1 d
    rw [r.wo (by omega), ed]
/-- one text of the world changes -/
theorem text_one {j d : Nat} (own : OWN K H w) (hT : TY K G H) (gw : G w = some 0) (hj : 10 ≤ j ∧ j < 16) (ed : ow K H w j = d) (nw : NWF K H1 H w) (rt : RFT K H1 H d) (f : ∀ q t : Nat, G q = some t → (1 ≤ t ∧ t ≤ 27) → q ≠ d → (∀ k ∈ RKT, q ≠ fR H d (K.1.2 7 k)) → H1[q]? = H[q]?) : RFW K H1 H w ∧ (∀ i, i < 10 → vcN K H1 w i = vcN K H w i) ∧ ow K H1 w j = d ∧ ∀ (r : Nat) (kk vv : Nat → Int) (lw : Int) (n : Nat), r < 6 → n ≤ 16 → 10 + r ≠ j → TXP K H w r kk vv lw n → TXP K H1 w r kk vv lw n := by
  have gj := ow_t hT gw hj.1 hj.2
  rw [ed] at gj
  have nr : ∀ q t : Nat, G q = some t → (t ≤ 16 ∨ 25 ≤ t) → ∀ k ∈ RKT, q ≠ fR H d (K.1.2 7 k) := fun q t hq ht k hk e => by
    have hk2 : 1 ≤ k ∧ k ≤ 8 := by
      simp only [RKT, List.mem_cons, List.not_mem_nil, or_false] at hk
      omega
    have g := gTz hT gj k hk2.1 hk2.2
    rw [e, g] at hq
    have := Option.some.inj hq
    omega
  have fx : ∀ q t : Nat, G q = some t → ((1 ≤ t ∧ t ≤ 15) ∨ (25 ≤ t ∧ t ≤ 27)) → H1[q]? = H[q]? := fun q t hq ht => f q t hq (by omega) (G_ne hq gj (by omega)) (nr q t hq (by omega))
  have r : RFW K H1 H w := by
    refine ⟨fun k hk => nw k (by omega), fun k i hk => ?_, fun i hi => RFB.cell (fx _ _ (ow_g hT gw hi) (by omega)), fun i h1 h2 => ?_⟩
    · rcases hk with ⟨rfl, _⟩ | ⟨rfl, _⟩ | ⟨rfl, _⟩
      · exact fR_kept (fx _ _ (ty_fr (q := _) (k := 0) (u := 25) rfl hT gw rg_0 rfl) (by omega))
      · exact fR_kept (fx _ _ (ty_fr (q := _) (k := 2) (u := 26) rfl hT gw rg_0 rfl) (by omega))
      · exact fR_kept (fx _ _ (ty_fr (q := _) (k := 3) (u := 27) rfl hT gw rg_0 rfl) (by omega))
    · by_cases z : i = j
      · subst z
        rw [ed]
        exact rt
      · have gi := ow_t hT gw h1 h2
        exact RFT.cell (f _ _ gi (by omega) (by rw [← ed]; exact own.ne (by omega) (by omega) z) (nr _ _ gi (by omega)))
  refine ⟨r, vcN.kept hT gw r (fun q t hq ht => fx q t hq (by omega)), by rw [r.wo (by omega)]; exact ed, fun i kk vv lw n hi hn hne h => ?_⟩
  obtain ⟨c0, ck⟩ := oth_t own hT gw (i := 10 + i) (by omega) hj hne ed (fun q t hq ht n1 n2 => f q t hq (by omega) n1 n2)
  have er : ∀ k, 1 ≤ k → k ≤ 8 → ∀ l, fI H1 (fR H1 (ow K H w (10 + i)) (K.1.2 7 k)) l = fI H (fR H (ow K H w (10 + i)) (K.1.2 7 k)) l := fun k h1 h8 l => by
    rw [fR_kept c0, fI_kept (ck k h1 h8)]
  obtain ⟨h1, h2, h3⟩ := h
  unfold TXP
  rw [r.wo (by omega)]
  refine ⟨fun l hl => ?_, (congrArg Int32.toInt (fI_kept c0)).trans h2, fun l hl => ?_⟩
  · rw [er 1 (by decide) (by decide), er 2 (by decide) (by decide), er 3 (by decide) (by decide), er 4 (by decide) (by decide), er 5 (by decide) (by decide), er 6 (by decide) (by decide), er 7 (by decide) (by decide), show (fun z => fI H1 (fR H1 (ow K H w (10 + i)) (K.1.2 7 8)) z) = (fun z => fI H (fR H (ow K H w (10 + i)) (K.1.2 7 8)) z) from funext (er 8 (by decide) (by decide))]
    exact h1 l hl
  · rw [er 6 (by decide) (by decide), er 7 (by decide) (by decide), fI_kept c0]
    exact h3 l hl
end
