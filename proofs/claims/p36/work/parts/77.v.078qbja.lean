/-! what isn't in a row of codes, by ranges -/
theorem nmr {t lo hi : Nat} {l : List Nat} (h : lo ≤ t ∧ t ≤ hi) (d : ∀ c ∈ l, c < lo ∨ hi < c) : t ∉ l := fun z => (d t z).elim (fun a => Nat.not_lt_of_le h.1 a) (fun a => Nat.not_lt_of_le h.2 a)
theorem nmo {t a b : Nat} {l : List Nat} (h : t ≤ a ∨ b ≤ t) (d : ∀ c ∈ l, a < c ∧ c < b) : t ∉ l := fun z => h.elim (fun x => Nat.not_lt_of_le x (d t z).1) (fun x => Nat.not_lt_of_le x (d t z).2)
theorem nme {t a b : Nat} {l : List Nat} (h : t = a ∨ b ≤ t) (d : ∀ c ∈ l, c ≠ a ∧ c < b) : t ∉ l := fun z => h.elim (fun x => (d t z).1 x) (fun x => Nat.not_lt_of_le x (d t z).2)
theorem nmq {t a b c e : Nat} {l : List Nat} (h : (a ≤ t ∧ t ≤ b) ∨ (c ≤ t ∧ t ≤ e)) (d : ∀ x ∈ l, (x < a ∨ b < x) ∧ (x < c ∨ e < x)) : t ∉ l := fun z => h.elim (fun x => nmr (l := [t]) x (fun y hy => by rw [List.mem_singleton.mp hy]; exact (d t z).1) List.mem_cons_self) (fun x => nmr (l := [t]) x (fun y hy => by rw [List.mem_singleton.mp hy]; exact (d t z).2) List.mem_cons_self)
/-! ===== the start and the image ===== -/
section
variable {K : KE} {G : Nat → Option Nat} {H H1 : Heap} {w b q iq : Nat} {n : Int}
theorem RE.nil (own : OWN K H w) (oz : OWZ K H w) (p : ∀ bar : Nat, PrsV (vwR K H b bar)) (z : ∀ j : Nat, fI H (fR H b (K.1.2 10 24)) j = 0) : RE K H w b 0 := by
  refine ⟨own, BPE.nil (fun j _ => p j), fun r hr => ⟨0, fun _ => 0, fun _ => 0, by decide, LNO.nil, ⟨fun j hj => absurd hj (Nat.not_lt_zero j), ?_, fun l hl => absurd hl (Nat.not_lt_zero l)⟩, ⟨fun j hj => absurd hj (Nat.not_lt_zero j), ?_⟩⟩⟩
  · exact (congrArg Int32.toInt (oz (10 + r) (by omega) (by omega))).trans rfl
  · exact (congrArg Int32.toInt (z r)).trans rfl
theorem prs_new {q9 q10 q13 : Nat} (e9 : q9 = fR H b (K.1.2 10 9)) (z9 : ZR H q9) (e10 : q10 = fR H b (K.1.2 10 10)) (z10 : ZR H q10) (e13 : q13 = fR H b (K.1.2 10 13)) (z13 : ZR H q13) : ∀ bar : Nat, PrsV (vwR K H b bar) := by
  intro bar
  refine ⟨fun j hj => ?_, ?_, ?_⟩
  · rw [vwR_a (k := 5) (by decide)]
    show (fI H (fR H b (K.1.2 10 9)) _).toInt = 0
    rw [← e9]
    exact (congrArg Int32.toInt (z9 _)).trans rfl
  · rw [vwR_f (Or.inr (Or.inl rfl))]
    show (fI H (fR H b (K.1.2 10 10)) bar).toInt = 0
    rw [← e10]
    exact (congrArg Int32.toInt (z10 _)).trans rfl
  · rw [vwR_f (Or.inr (Or.inr rfl))]
    show (fI H (fR H b (K.1.2 10 13)) bar).toInt = 0
    rw [← e13]
    exact (congrArg Int32.toInt (z13 _)).trans rfl
/-- the image stays, place by place -/
theorem RKI.keptv (h : RKI K H q iq n) (hT : TY K G H) (gq : G q = some 34) (ei : ∀ j : Nat, fI H1 iq j = fI H iq j) (e : ∀ q t, G q = some t → (34 ≤ t ∧ t ≤ 61) → H1[q]? = H[q]?) : RKI K H1 q iq n := by
  have r : RFW K H1 H q := RFW.cellK hT gq (fun q t hq ht => e q t hq (by omega))
  exact ⟨h.1.st r, h.2.1.congr (vcN.keptK hT gq r (fun q t hq ht => e q t hq (by omega))) (fun j _ => by rw [viN.kept ei j]; exact EqV.rf), h.2.2.congr (TXP.keptK hT gq r (fun q t hq ht => e q t hq (by omega))) (TIP.kept ei)⟩
theorem RKI.keptn (h : RKI K H w iq n) (hT : TY K G H) (gw : G w = some 0) (ei : ∀ j : Nat, fI H1 iq j = fI H iq j) (e : ∀ q t, G q = some t → t ≤ 27 → H1[q]? = H[q]?) : RKI K H1 w iq n := by
  have r : RFW K H1 H w := RFW.cell hT gw (fun q t hq ht => e q t hq (by omega))
  exact ⟨h.1.st r, h.2.1.congr (vcN.kept hT gw r (fun q t hq ht => e q t hq (by omega))) (fun j _ => by rw [viN.kept ei j]; exact EqV.rf), h.2.2.congr (TXP.kept hT gw r (fun q t hq ht => e q t hq (by omega))) (TIP.kept ei)⟩
/-- back to the image, the class -/
theorem RKI.now (h : RKI K H1 q iq n) (own : OWN K H w) (r : RFW K H1 H w) (im : IMX K H1 w q n) : RKI K H1 w iq n :=
  ⟨own.st r, h.2.1.congrV (fun j hj hn => im.1 j hj hn) (fun j _ => EqV.rf), h.2.2.congr (TXP.copy im.2) TPK.rf⟩
/-- back to the image, the reference -/
theorem RKI.re (h : RKI K H w iq n) (hT : TY K G H) (gb : G b = some 112) (mb : IMB K H b iq) (mt : IMT K H b iq) : RE K H w b n :=
  ⟨h.1, h.2.1.congrV (fun j _ _ => EqV.rf) (fun j hj => mb.eqv hj), h.2.2.congr TPK.rf (mt.r hT gb)⟩
/-- an image is taken, the class -/
theorem RE.cop (h : RE K H1 w b n) (own : OWN K H1 q) (im : IMX K H1 q w n) : RE K H1 q b n :=
  ⟨own, h.2.1.congrV (fun j hj hn => im.1 j hj hn) (fun j _ => EqV.rf), h.2.2.congr (TXP.copy im.2) TPK.rf⟩
/-- an image is taken, the reference -/
theorem RE.ki (h : RE K H q b n) (hT : TY K G H) (gb : G b = some 112) (mb : IMB K H b iq) (mt : IMT K H b iq) : RKI K H q iq n :=
  ⟨h.1, h.2.1.congrV (fun j _ _ => EqV.rf) (fun j hj => (mb.eqv hj).sy), h.2.2.congr TPK.rf (mt.i hT gb)⟩
/-- the reference's rows stay, place by place -/
theorem RE.refg (h : RE K H w b n) (hT : TY K G H) (gw : G w = some 0) (r1 : ∀ k : Nat, (4 ≤ k ∧ k ≤ 13) ∨ (24 ≤ k ∧ k ≤ 33) → fR H1 b (K.1.2 10 k) = fR H b (K.1.2 10 k)) (k1 : ∀ k : Nat, (4 ≤ k ∧ k ≤ 13) ∨ (24 ≤ k ∧ k ≤ 33) → ∀ j : Nat, fI H1 (fR H b (K.1.2 10 k)) j = fI H (fR H b (K.1.2 10 k)) j) (e : ∀ q t, G q = some t → t ≤ 27 → H1[q]? = H[q]?) : RE K H1 w b n := by
  have r : RFW K H1 H w := RFW.cell hT gw (fun q t hq ht => e q t hq (by omega))
  exact ⟨h.1.st r, h.2.1.congr (vcN.kept hT gw r (fun q t hq ht => e q t hq (by omega))) (fun j _ => by rw [vrN.kept (fun k hk => r1 _ (by have := rcR_v k hk; omega)) (fun k hk j => k1 _ (by have := rcR_v k hk; omega) j) j]; exact EqV.rf), h.2.2.congr (TXP.kept hT gw r (fun q t hq ht => e q t hq (by omega))) (TRP.kept (fun k h1 h2 => r1 k (by omega)) (fun k h1 h2 j => k1 k (by omega) j))⟩
theorem RE.refgK (h : RE K H q b n) (hT : TY K G H) (gq : G q = some 34) (r1 : ∀ k : Nat, (4 ≤ k ∧ k ≤ 13) ∨ (24 ≤ k ∧ k ≤ 33) → fR H1 b (K.1.2 10 k) = fR H b (K.1.2 10 k)) (k1 : ∀ k : Nat, (4 ≤ k ∧ k ≤ 13) ∨ (24 ≤ k ∧ k ≤ 33) → ∀ j : Nat, fI H1 (fR H b (K.1.2 10 k)) j = fI H (fR H b (K.1.2 10 k)) j) (e : ∀ q t, G q = some t → (34 ≤ t ∧ t ≤ 61) → H1[q]? = H[q]?) : RE K H1 q b n := by
  have r : RFW K H1 H q := RFW.cellK hT gq (fun q t hq ht => e q t hq (by omega))
  exact ⟨h.1.st r, h.2.1.congr (vcN.keptK hT gq r (fun q t hq ht => e q t hq (by omega))) (fun j _ => by rw [vrN.kept (fun k hk => r1 _ (by have := rcR_v k hk; omega)) (fun k hk j => k1 _ (by have := rcR_v k hk; omega) j) j]; exact EqV.rf), h.2.2.congr (TXP.keptK hT gq r (fun q t hq ht => e q t hq (by omega))) (TRP.kept (fun k h1 h2 => r1 k (by omega)) (fun k h1 h2 j => k1 k (by omega) j))⟩
theorem ZRO.row {f : Nat → Nat} {k4 k5 k6 k7 k8 k9 k10 k11 k12 k13 k24 k25 k26 k27 k28 k29 k30 k31 k32 k33 : Nat} (e : f 4 = k4 ∧ f 5 = k5 ∧ f 6 = k6 ∧ f 7 = k7 ∧ f 8 = k8 ∧ f 9 = k9 ∧ f 10 = k10 ∧ f 11 = k11 ∧ f 12 = k12 ∧ f 13 = k13 ∧ f 24 = k24 ∧ f 25 = k25 ∧ f 26 = k26 ∧ f 27 = k27 ∧ f 28 = k28 ∧ f 29 = k29 ∧ f 30 = k30 ∧ f 31 = k31 ∧ f 32 = k32 ∧ f 33 = k33) {P : Nat → Prop} (p4 : P k4) (p5 : P k5) (p6 : P k6) (p7 : P k7) (p8 : P k8) (p9 : P k9) (p10 : P k10) (p11 : P k11) (p12 : P k12) (p13 : P k13) (p24 : P k24) (p25 : P k25) (p26 : P k26) (p27 : P k27) (p28 : P k28) (p29 : P k29) (p30 : P k30) (p31 : P k31) (p32 : P k32) (p33 : P k33) : ∀ k : Nat, (4 ≤ k ∧ k ≤ 13) ∨ (24 ≤ k ∧ k ≤ 33) → P (f k) := by
  obtain ⟨e4, e5, e6, e7, e8, e9, e10, e11, e12, e13, e24, e25, e26, e27, e28, e29, e30, e31, e32, e33⟩ := e
  intro k hk
  have : k = 4 ∨ k = 5 ∨ k = 6 ∨ k = 7 ∨ k = 8 ∨ k = 9 ∨ k = 10 ∨ k = 11 ∨ k = 12 ∨ k = 13 ∨ k = 24 ∨ k = 25 ∨ k = 26 ∨ k = 27 ∨ k = 28 ∨ k = 29 ∨ k = 30 ∨ k = 31 ∨ k = 32 ∨ k = 33 := by omega
  rcases this with rfl | rfl | rfl | rfl | rfl | rfl | rfl | rfl | rfl | rfl | rfl | rfl | rfl | rfl | rfl | rfl | rfl | rfl | rfl | rfl
  · rw [e4]; exact p4
  · rw [e5]; exact p5
  · rw [e6]; exact p6
  · rw [e7]; exact p7
  · rw [e8]; exact p8
  · rw [e9]; exact p9
  · rw [e10]; exact p10
  · rw [e11]; exact p11
  · rw [e12]; exact p12
  · rw [e13]; exact p13
  · rw [e24]; exact p24
  · rw [e25]; exact p25
  · rw [e26]; exact p26
  · rw [e27]; exact p27
  · rw [e28]; exact p28
  · rw [e29]; exact p29
  · rw [e30]; exact p30
  · rw [e31]; exact p31
  · rw [e32]; exact p32
  · rw [e33]; exact p33
end
