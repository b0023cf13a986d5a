/-! ===== what a text's lines say ===== -/
/-- the token behind a line's head (of a law, where its sum begins) -/
def lhd (kk : Nat → Int) (lw : Int) (i : Nat) : Nat := if lw ≠ 0 then (if kk i = 3 then i + 1 else i + 2) else if kk i = 5 then i + 4 else i + 3
def lf1 (kk vv : Nat → Int) (lw : Int) (i : Nat) : Int := if lw ≠ 0 ∧ kk i = 3 then 0 else vv (i + 1)
def lf3 (kk vv : Nat → Int) (i : Nat) : Int := if kk i = 5 then vv (i + 3) else vv (i + 2)
/-- the token where a condition may begin -/
def lcn (kk vv : Nat → Int) (lw : Int) (i : Nat) : Nat := (hsI kk vv lw (kk i) (i + 1)).getD 0
def lfs (kk vv : Nat → Int) (lw : Int) (i : Nat) : EF := smG kk vv lw (lhd kk lw i)
def lhw (kk vv : Nat → Int) (lw : Int) (i : Nat) : Bool := decide (kk (lcn kk vv lw i) = 7)
def lfw (kk vv : Nat → Int) (lw : Int) (i : Nat) : EF := orG kk (paS kk vv lw 8) (paF kk vv lw 8) (lcn kk vv lw i + 1)
/-- where line j of a text begins -/
def lpo (kk vv : Nat → Int) (lw : Int) : Nat → Nat
  | 0 => 0
  | n + 1 => (lnI kk vv lw (lpo kk vv lw n)).getD 0
theorem lpo_go {kk vv : Nat → Int} {lw : Int} {n m j : Nat} (hm : m = n + 1) (h : lnI kk vv lw (lpo kk vv lw n) = some j) : lpo kk vv lw m = j := by
  subst hm
  show (lnI kk vv lw (lpo kk vv lw n)).getD 0 = j
  rw [h]
  rfl
theorem lcn_at {kk vv : Nat → Int} {lw w : Int} {i m j : Nat} (hw : w = kk i) (hm : m = i + 1) (h : hsI kk vv lw w m = some j) : lcn kk vv lw i = j := by
  subst hw; subst hm
  unfold lcn
  rw [h]
  rfl
theorem nm_at {kk vv : Nat → Int} {lo hi : Int} {i j : Nat} (h : nmI kk vv lo hi i = some j) : kk i = 24 ∧ lo ≤ vv i ∧ vv i ≤ hi ∧ j = i + 1 := by
  unfold nmI at h
  by_cases c : kk i = 24 ∧ lo ≤ vv i ∧ vv i ≤ hi
  · rw [if_pos c] at h
    exact ⟨c.1, c.2.1, c.2.2, (Option.some.inj h).symm⟩
  · rw [if_neg c] at h
    cases h
theorem hl_at {kk vv : Nat → Int} {lw w : Int} {i m j : Nat} (hl : lw ≠ 0) (hw : w = kk i) (hm : m = i + 1) (h : hlI kk vv w m = some j) : lhd kk lw i = j := by
  subst hw; subst hm
  unfold hlI at h
  unfold lhd
  rw [if_pos hl]
  by_cases c : kk i = 3
  · rw [if_pos c] at h ⊢
    exact Option.some.inj h
  · rw [if_neg c] at h ⊢
    exact (nm_at h).2.2.2.symm
/-- one line of the class: its word, numbers, where its steps stand -/
def LNC (kk vv : Nat → Int) (lw : Int) (i : Nat) (w f1 f2 f3 a b c : Int32) (S : Nat → Int32) : Prop :=
  (w.toInt = kk i ∧ f1.toInt = lf1 kk vv lw i) ∧ (lw = 0 → f3.toInt = lf3 kk vv i ∧ (kk i = 5 → f2.toInt = vv (i + 2))) ∧ ((lw ≠ 0 ∧ CS lw S a.toNatClampNeg b.toNatClampNeg 3 [lfs kk vv lw i]) ∨ (lw = 0 ∧ a = b)) ∧ ((lhw kk vv lw i = true ∧ b.toInt < c.toInt ∧ CS lw S b.toNatClampNeg c.toNatClampNeg 22 [lfw kk vv lw i]) ∨ (lhw kk vv lw i = false ∧ c = b))
theorem LNC.keep {kk vv : Nat → Int} {lw : Int} {i n : Nat} {w f1 f2 f3 a b c : Int32} {S S1 : Nat → Int32} (h : LNC kk vv lw i w f1 f2 f3 a b c S) (e : ∀ j, j < n → S1 j = S j) (hb : b.toNatClampNeg ≤ n) (hc : c.toNatClampNeg ≤ n) : LNC kk vv lw i w f1 f2 f3 a b c S1 := by
  obtain ⟨h1, h2, h3, h4⟩ := h
  exact ⟨h1, h2, h3.imp (fun z => ⟨z.1, z.2.keep (fun j hj => e j (by omega))⟩) id, h4.imp (fun z => ⟨z.1, z.2.1, z.2.2.keep (fun j hj => e j (by omega))⟩) id⟩
theorem LNC.fs {kk vv : Nat → Int} {lw : Int} {i : Nat} {w f1 f2 f3 a b c : Int32} {S un k : Nat → Int32} (h : LNC kk vv lw i w f1 f2 f3 a b c S) (hl : lw ≠ 0) : vlC un S k a.toNatClampNeg b.toNatClampNeg = lfs kk vv lw i (mkE lw (eC un)) := by
  obtain ⟨h1, h2, h3, h4⟩ := h
  exact (h3.resolve_right (fun z => hl z.1)).2.val (by decide)
theorem LNC.f0 {kk vv : Nat → Int} {lw : Int} {i : Nat} {w f1 f2 f3 a b c : Int32} {S un k : Nat → Int32} (h : LNC kk vv lw i w f1 f2 f3 a b c S) (hl : lw = 0) : vlC un S k a.toNatClampNeg b.toNatClampNeg = 0 := by
  obtain ⟨h1, h2, h3, h4⟩ := h
  have e := (h3.resolve_left (fun z => z.1 hl)).2
  rw [e]
  unfold vlC
  rw [Nat.sub_self]
  show up1 k 0 0 0 = 0
  exact up1_at
theorem LNC.fw {kk vv : Nat → Int} {lw : Int} {i : Nat} {w f1 f2 f3 a b c : Int32} {S un k : Nat → Int32} (h : LNC kk vv lw i w f1 f2 f3 a b c S) (hl : b.toInt < c.toInt) : vlC un S k b.toNatClampNeg c.toNatClampNeg = lfw kk vv lw i (mkE lw (eC un)) := by
  obtain ⟨h1, h2, h3, h4⟩ := h
  rcases h4 with z | z
  · exact z.2.2.val (by decide)
  · rw [z.2] at hl
    exact absurd hl (by omega)
/-- what stands in the class's text q: the lines of the tokens kk, vv -/
def TXM (K : KE) (H : Heap) (q : Nat) (kk vv : Nat → Int) (lw : Int) (n : Nat) : Prop := ∀ j, j < n → LNC kk vv lw (lpo kk vv lw j) (fI H (fR H q (K.1.2 7 1)) j) (fI H (fR H q (K.1.2 7 2)) j) (fI H (fR H q (K.1.2 7 3)) j) (fI H (fR H q (K.1.2 7 4)) j) (fI H (fR H q (K.1.2 7 5)) j) (fI H (fR H q (K.1.2 7 6)) j) (fI H (fR H q (K.1.2 7 7)) j) (fun i => fI H (fR H q (K.1.2 7 8)) i)
/-- what its lines come to -/
def txFs (kk vv : Nat → Int) (lw : Int) : Nat → EF := fun l => if lw = 0 then zF else lfs kk vv lw (lpo kk vv lw l)
def txFw (kk vv : Nat → Int) (lw : Int) : Nat → EF := fun l => lfw kk vv lw (lpo kk vv lw l)
theorem LNC.nn {kk vv : Nat → Int} {lw : Int} {i : Nat} {w f1 f2 f3 a b c : Int32} {S : Nat → Int32} (h : LNC kk vv lw i w f1 f2 f3 a b c S) {j : Nat} (hj : (a.toNatClampNeg ≤ j ∧ j < b.toNatClampNeg) ∨ (b.toNatClampNeg ≤ j ∧ j < c.toNatClampNeg)) : 0 ≤ (S j).toInt := by
  obtain ⟨h1, h2, h3, h4⟩ := h
  rcases hj with g | g
  · rcases h3 with z | z
    · exact z.2.2.1 j g.1 g.2
    · rw [z.2] at g; omega
  · rcases h4 with z | z
    · exact z.2.2.2.1 j g.1 g.2
    · rw [z.2] at g; omega
theorem TXM.txc {K : KE} {H : Heap} {q n : Nat} {kk vv : Nat → Int} {lw : Int} (h : TXM K H q kk vv lw n) (hn : (fI H q (K.1.2 7 0)).toInt = (n : Int)) : TXC K H q lw (txFs kk vv lw) (txFw kk vv lw) := by
  refine ⟨fun l hl j hj => (h l (by omega)).nn hj, fun l hl un k => ?_, fun l hl hc un k => (h l (by omega)).fw hc⟩
  by_cases c : lw = 0
  · rw [(h l (by omega)).f0 c]
    show (0 : Int32) = (if lw = 0 then zF else lfs kk vv lw (lpo kk vv lw l)) (mkE lw (eC un))
    rw [if_pos c]
    rfl
  · rw [(h l (by omega)).fs c]
    show _ = (if lw = 0 then zF else lfs kk vv lw (lpo kk vv lw l)) (mkE lw (eC un))
    rw [if_neg c]
theorem CS.lt {lw : Int} {S : Nat → Int32} {p q d : Nat} {f : EF} (h : CS lw S p q d [f]) (hd : d ≤ 40) : p < q := by
  have h0 := h.1
  rcases Nat.lt_or_ge p q with z | z
  · exact z
  · have := (h.2.2 (fun _ => 0) (fun _ => 0) 0 (by omega)).1
    rw [show q - p = 0 by omega] at this
    exact absurd this (by show ¬ (0 : Nat) = 0 + 1; omega)
/-- the lines so far: n of them, the next begins at token i, b steps -/
def TXW (H : Heap) (w f j e a c d s : Nat) (kk vv : Nat → Int) (lw : Int) (n i b : Nat) : Prop := lpo kk vv lw n = i ∧ ∀ l, l < n → LNC kk vv lw (lpo kk vv lw l) (fI H w l) (fI H f l) (fI H j l) (fI H e l) (fI H a l) (fI H c l) (fI H d l) (fun i => fI H s i) ∧ (fI H c l).toNatClampNeg ≤ b ∧ (fI H d l).toNatClampNeg ≤ b
theorem LNC.le {kk vv : Nat → Int} {lw : Int} {i : Nat} {w f1 f2 f3 a b c : Int32} {S : Nat → Int32} (h : LNC kk vv lw i w f1 f2 f3 a b c S) : b.toNatClampNeg ≤ c.toNatClampNeg := by
  obtain ⟨h1, h2, h3, h4⟩ := h
  rcases h4 with z | z
  · have := z.2.1
    show b.toInt.toNat ≤ c.toInt.toNat
    omega
  · rw [z.2]
    exact Nat.le_refl _
theorem TXW.nil {H : Heap} {w f j e a c d s : Nat} {kk vv : Nat → Int} {lw : Int} {n i b : Nat} (hn : n = 0) (hi : i = 0) : TXW H w f j e a c d s kk vv lw n i b := by
  subst hn; subst hi
  exact ⟨rfl, fun l hl => absurd hl (Nat.not_lt_zero l)⟩
theorem TXW.kept {H H1 : Heap} {w f j e a c d s : Nat} {kk vv : Nat → Int} {lw : Int} {n i b : Nat} (h : TXW H w f j e a c d s kk vv lw n i b) (ew : ∀ l, fI H1 w l = fI H w l) (ef : ∀ l, fI H1 f l = fI H f l) (ej : ∀ l, fI H1 j l = fI H j l) (ee : ∀ l, fI H1 e l = fI H e l) (ea : ∀ l, fI H1 a l = fI H a l) (ec : ∀ l, fI H1 c l = fI H c l) (ed : ∀ l, fI H1 d l = fI H d l) (es : ∀ l, fI H1 s l = fI H s l) : TXW H1 w f j e a c d s kk vv lw n i b := by
  refine ⟨h.1, fun l hl => ?_⟩
  rw [ew l, ef l, ej l, ee l, ea l, ec l, ed l, show (fun i => fI H1 s i) = (fun i => fI H s i) from funext es]
  exact h.2 l hl
theorem TXW.go {H H1 : Heap} {w f j e a c d s : Nat} {kk vv : Nat → Int} {lw : Int} {n m i i1 b b1 : Nat} (h : TXW H w f j e a c d s kk vv lw n i b) (hm : m = n + 1) (hl : lnI kk vv lw i = some i1) (ln : LNC kk vv lw i (fI H1 w n) (fI H1 f n) (fI H1 j n) (fI H1 e n) (fI H1 a n) (fI H1 c n) (fI H1 d n) (fun i => fI H1 s i)) (ew : ∀ l, l ≠ n → fI H1 w l = fI H w l) (ef : ∀ l, l ≠ n → fI H1 f l = fI H f l) (ej : ∀ l, l ≠ n → fI H1 j l = fI H j l) (ee : ∀ l, l ≠ n → fI H1 e l = fI H e l) (ea : ∀ l, l ≠ n → fI H1 a l = fI H a l) (ec : ∀ l, l ≠ n → fI H1 c l = fI H c l) (ed : ∀ l, l ≠ n → fI H1 d l = fI H d l) (es : ∀ l, l < b → fI H1 s l = fI H s l) (hb : b ≤ b1) (hd : (fI H1 d n).toNatClampNeg ≤ b1) : TXW H1 w f j e a c d s kk vv lw m i1 b1 := by
  subst hm
  obtain ⟨h1, h2⟩ := h
  refine ⟨lpo_go rfl (by rw [h1]; exact hl), fun l hl2 => ?_⟩
  by_cases el : l = n
  · subst el
    rw [h1]
    have := ln.le
    exact ⟨ln, by omega, hd⟩
  · obtain ⟨z, zc, zd⟩ := h2 l (by omega)
    rw [ew l el, ef l el, ej l el, ee l el, ea l el, ec l el, ed l el]
    exact ⟨z.keep es zc zd, by omega, by omega⟩
set_option maxHeartbeats 4000000 in
set_option maxRecDepth 100000 in
theorem a_X4_lawHead_g (l : Launch) (K : KE) (G : Nat → Option Nat) (H : Heap) {a0 : Nat} (x1 : Int32) (x2 : Int32) {mq : Nat} {kq : Nat} {vq : Nat} {fq : Nat} (F : Int32) (tat : Int32) (fa : Int32) (lw : Int32) (li : Int32) (kk : Nat → Int) (vv : Nat → Int) (hT : TY K G H) (ga0 : G a0 = some 78) (hx1 : 0 ≤ x1.toInt ∧ x1.toInt ≤ 15) (gmq : G mq = some 69) (emq : mq = fR H a0 (K.1.2 4 0)) (gkq : G kq = some 79) (ekq : kq = fR H a0 (K.1.2 4 3)) (gvq : G vq = some 80) (evq : vq = fR H a0 (K.1.2 4 4)) (gfq : G fq = some 71) (efq : fq = fR H mq (K.1.2 7 2)) (etat : tat = fI H a0 (K.1.2 4 7)) (efa : fa = fI H a0 (K.1.2 4 1)) (elw : lw = fI H a0 (K.1.2 4 8)) (eli : li = fI H mq (K.1.2 7 0)) (hel0 : fI H kq (F : Int32).toNatClampNeg = 26) (hp0 : tat.toInt ≤ F.toInt) (hp1 : F.toInt ≤ 500) (hv_kk : ∀ j : Nat, j ≤ F.toNatClampNeg → kk j = (fI H kq j).toInt) (hv_vv : ∀ j : Nat, j ≤ F.toNatClampNeg → vv j = (fI H vq j).toInt) : MX l K yX4_lawHead cX4_lawHead 3 (some .boolean) 2 43 0 0 [.ref a0, .int x1, .int x2] H (AE G [78, 71] H.size) (fun v H1 => ∃ (r : Int32) (t0 : Int32) (t1 : Int32), v = some (.int r) ∧ (0 ≤ r.toInt ∧ r.toInt ≤ 1) ∧ t0 = fI H1 a0 (K.1.2 4 7) ∧ t1 = fI H1 a0 (K.1.2 4 1) ∧ (t0.toInt ≤ F.toInt ∧ ((r.toInt = 1 ∧ t1.toInt = fa.toInt ∧ tat.toInt ≤ t0.toInt) ∨ (r.toInt = 0 ∧ t1.toInt ≠ 0))) ∧ mq = fR H1 a0 (K.1.2 4 0) ∧ kq = fR H1 a0 (K.1.2 4 3) ∧ vq = fR H1 a0 (K.1.2 4 4) ∧ lw = fI H1 a0 (K.1.2 4 8) ∧ (RQ (hlI kk vv x2.toInt tat.toNatClampNeg) r t0) ∧ (r.toInt = 0 ∨ (x2.toInt = 3 ∧ fI H1 fq x1.toNatClampNeg = fI H fq x1.toNatClampNeg) ∨ (x2.toInt ≠ 3 ∧ (fI H1 fq x1.toNatClampNeg).toInt = vv tat.toNatClampNeg)) ∧ (∀ j : Nat, j ≠ x1.toNatClampNeg → fI H1 fq j = fI H fq j) ∧ TY K G H1) := by
  refine MX.of (by decide +kernel) (Nat.le_of_ble_eq_true rfl) ?_
  intro p e s m below meth c ls Q C hH hl hQ
  subst hH
  have C : CX p K s m _ meth c RX4 cX4_lawHead 3 (some .boolean) "lawHead" := C
  obtain ⟨hx, hb, hml, hown, hts, hKT, hr, hlocks, hnm⟩ := id C
  have hl : lv_has ls 3 [(0, .ref a0), (1, .int x1), (2, .int x2)] := hl
  have hS : va_S (AE G [78, 71] s.heap.size) s.heap s.heap [] := va_S.rf
  have n_0 : (0 : Int32).toInt = 0 := rfl
  have n_1 : (1 : Int32).toInt = 1 := rfl
  have n_2 : (2 : Int32).toInt = 2 := rfl
  have n_3 : (3 : Int32).toInt = 3 := rfl
  have btat := ty_fi (x := tat) (k := 7) etat hT ga0 rg_78 rfl
  have bfa := ty_fi (x := fa) (k := 1) efa hT ga0 rg_78 rfl
  have blw := ty_fi (x := lw) (k := 8) elw hT ga0 rg_78 rfl
  have bli := ty_fi (x := li) (k := 0) eli hT gmq rg_69 rfl
  have hsp0 : hlI kk vv x2.toInt tat.toNatClampNeg = hlI kk vv x2.toInt tat.toNatClampNeg := rfl
  have f0_kk := hv_kk
  have f0_vv := hv_vv
  have f0_s_fq : ∀ j : Nat, j ≠ x1.toNatClampNeg → fI s.heap fq j = fI s.heap fq j := fun _ _ => rfl
  refine lv_iload_n hx hb dX4_lawHead_0 rfl (lv_at hl 2 rfl) ?_
  refine lv_iconst (v := 3) hx hb dX4_lawHead_1 (by decide) ?_
  refine lv_icmp_ne (tgt := 7) hx hb dX4_lawHead_2 (by decide) (fun c257 => ?_) (fun c257 => ?_)
  · have k258 := i_ne c257
    refine lv_aload_n hx hb dX4_lawHead_7 rfl (lv_at hl 0 rfl) ?_
    refine lv_iconst (v := 0) hx hb dX4_lawHead_8 (by decide) ?_
    refine lv_iconst (v := 2) hx hb dX4_lawHead_9 (by decide) ?_
    refine x_V (As := [.int 0, .int 2]) (rest := []) C (a_X4_number_e l K G s.heap (0) (2) (F) (tat) (fa) (lw) (li) kk vv hT ga0 gmq emq gkq ekq gvq evq etat efa elw eli hel0 (by omega) (by omega) f0_kk f0_vv) yo_X4_number wM_X4_119 ⟨⟨by decide, by decide⟩, by decide, by decide⟩ (x_rv C hT (ci := 4) rfl ga0 rg_78) rfl hl.1 rfl (Nat.le_of_ble_eq_true rfl) dX4_lawHead_10 hS (AE_sub (fun _ _ => rfl) (by decide) hS.1) (fun vH259 H259 locsH259 pH259 zH259 kH259 hSH259 => ?_)
    obtain ⟨x260, x261, x262, hvH259, bx260, ex261, ex262, hrH259, m263, m264, m265, m266, hTH259⟩ := pH259
    subst hvH259
    have f267 : ∀ j : Nat, j ≤ F.toNatClampNeg → kk j = (fI H259 kq j).toInt := fun j hj => (f0_kk j hj).trans (congrArg Int32.toInt (fI_kept (x_lt hT kH259 gkq (by decide))).symm)
    have f268 : ∀ j : Nat, j ≤ F.toNatClampNeg → vv j = (fI H259 vq j).toInt := fun j hj => (f0_vv j hj).trans (congrArg Int32.toInt (fI_kept (x_lt hT kH259 gvq (by decide))).symm)
    have f269 : ∀ j : Nat, j ≠ x1.toNatClampNeg → fI H259 fq j = fI s.heap fq j := fun j hj => (fI_kept (x_lt hT kH259 gfq (by decide))).trans (f0_s_fq j hj)
    have m270 := (efq).trans (fR_kept (x_lt hT kH259 gmq (by decide))).symm
    have m271 := (eli).trans (fI_kept (x_lt hT kH259 gmq (by decide))).symm
    have m272 := (fI_kept (x_lt hT kH259 gkq (by decide))).trans hel0
    have bx261 := ty_fi (x := x261) (k := 7) ex261 hTH259 ga0 rg_78 rfl
    have bx262 := ty_fi (x := x262) (k := 1) ex262 hTH259 ga0 rg_78 rfl
    refine W.eq (g2 := F0 m 13 ls [.int x260]) rfl ?_
    refine lv_if_ne (tgt := 18) hx hb dX4_lawHead_13 (by decide) (fun c273 => ?_) (fun c273 => ?_)
    · have k274 := i_ne c273
      refine lv_aload_n hx hb dX4_lawHead_18 rfl (lv_at hl 0 rfl) ?_
      refine x_gr C hTH259 (ci := 4) (k := 0) rfl inX4 (by decide) wF_X4_12 ga0 rg_78 rfl dX4_lawHead_19 (fun q275 eq275 gq275 => ?_)
      have uq275 : mq = q275 := (m263).trans eq275.symm
      subst uq275
      refine x_gr C hTH259 (ci := 7) (k := 2) rfl inX7 (by decide) wF_X4_90 gmq rg_69 rfl dX4_lawHead_22 (fun q276 eq276 gq276 => ?_)
      have uq276 : fq = q276 := (m270).trans eq276.symm
      subst uq276
      refine lv_iload_n hx hb dX4_lawHead_25 rfl (lv_at hl 1 rfl) ?_
      refine lv_aload_n hx hb dX4_lawHead_26 rfl (lv_at hl 0 rfl) ?_
      refine x_gr C hTH259 (ci := 4) (k := 4) rfl inX4 (by decide) wF_X4_22 ga0 rg_78 rfl dX4_lawHead_27 (fun q277 eq277 gq277 => ?_)
      have uq277 : vq = q277 := (m265).trans eq277.symm
      subst uq277
      refine lv_aload_n hx hb dX4_lawHead_30 rfl (lv_at hl 0 rfl) ?_
      refine x_gi C hTH259 (ci := 4) (k := 7) rfl inX4 (by decide) wF_X4_42 ga0 rg_78 rfl dX4_lawHead_31 (fun x278 ex278 bx278 => ?_)
      have ux278 : x261 = x278 := (ex261).trans ex278.symm
      subst ux278
      refine lv_iconst (v := 1) hx hb dX4_lawHead_34 (by decide) ?_
      refine lv_isub hx hb dX4_lawHead_35 ?_
      refine lv_topi (fun x279 ex279 => ?_)
      have tx279 := i_sub ex279 (by omega)
      refine x_ai C hTH259 gvq rg_80 ⟨by omega, by show _ < ((501 : Nat) : Int); omega⟩ dX4_lawHead_36 (fun x280 ex280 bx280 => ?_)
      have qvx280 : vv x279.toNatClampNeg = x280.toInt := (f268 _ (by have h1 := i_cl (x := x279) (by omega); have h2 := i_cl (x := F) (by omega); omega)).trans (congrArg Int32.toInt ex280.symm)
      have cn_x279 := i_cl (x := x279) (by omega)
      have cn_tat := i_cl (x := tat) (by omega)
      have qn281 : vv (tat.toNatClampNeg) = x280.toInt := by rw [show tat.toNatClampNeg = x279.toNatClampNeg by omega]; exact qvx280
      refine x_iast C hTH259 hSH259 gfq rg_71 (by omega) (by show _ < ((16 : Nat) : Int); omega) ⟨by have := i_rng x280; omega, by have := i_rng x280; omega⟩ (AE_in gfq (by decide)) dX4_lawHead_37 (fun H282 locsH282 hTH282 hSH282 wH282 => ?_)
      have f283 : ∀ j : Nat, j ≤ F.toNatClampNeg → kk j = (fI H282 kq j).toInt := fun j hj => (f267 j hj).trans (congrArg Int32.toInt (Wr.neI wH282 (Or.inl (G_ne gkq gfq (by decide)))).symm)
      have f284 : ∀ j : Nat, j ≤ F.toNatClampNeg → vv j = (fI H282 vq j).toInt := fun j hj => (f268 j hj).trans (congrArg Int32.toInt (Wr.neI wH282 (Or.inl (G_ne gvq gfq (by decide)))).symm)
      have f285 : ∀ j : Nat, j ≠ x1.toNatClampNeg → fI H282 fq j = fI s.heap fq j := fun j hj => (Wr.neI wH282 (Or.inr hj)).trans (f269 j hj)
      have m286 := m270.trans (Wr.neR wH282 (Or.inl (G_ne gmq gfq (by decide)))).symm
      have m287 := m271.trans (Wr.neI wH282 (Or.inl (G_ne gmq gfq (by decide)))).symm
      have m288 := (Wr.neI wH282 (Or.inl (G_ne gkq gfq (by decide)))).trans m272
      have m289 := m263.trans (Wr.neR wH282 (Or.inl (G_ne ga0 gfq (by decide)))).symm
      have m290 := m264.trans (Wr.neR wH282 (Or.inl (G_ne ga0 gfq (by decide)))).symm
      have m291 := m265.trans (Wr.neR wH282 (Or.inl (G_ne ga0 gfq (by decide)))).symm
      have m292 := m266.trans (Wr.neI wH282 (Or.inl (G_ne ga0 gfq (by decide)))).symm
      have m293 := ex261.trans (Wr.neI wH282 (Or.inl (G_ne ga0 gfq (by decide)))).symm
      have m294 := ex262.trans (Wr.neI wH282 (Or.inl (G_ne ga0 gfq (by decide)))).symm
      have m295 := ex280.trans (Wr.neI wH282 (Or.inl (G_ne gvq gfq (by decide)))).symm
      have m296 := Wr.I wH282
      have m296 := m296.symm
      refine lv_iconst (v := 1) hx hb dX4_lawHead_38 (by decide) ?_
      have cn_F := i_cl (x := F) (by omega)
      have cn_tat := i_cl (x := tat) (by omega)
      have cn_x261 := i_cl (x := x261) (by omega)
      exact x_zret C hQ (Or.inr rfl) dX4_lawHead_39 hSH282 (by decide) (by decide) (⟨1, x261, x262, rfl, by decide, m293, m294, by omega, m289, m290, m291, m292, Or.inr ⟨(if_neg (by omega)).trans (nm_y (by omega) (by omega)), by omega⟩, (Or.inr (Or.inr ⟨by omega, by rw [← m296]; exact qn281.symm⟩)), f285, hTH282⟩)
    · have k274 := i_eq c273
      refine lv_iconst (v := 0) hx hb dX4_lawHead_16 (by decide) ?_
      have cn_F := i_cl (x := F) (by omega)
      have cn_tat := i_cl (x := tat) (by omega)
      have cn_x261 := i_cl (x := x261) (by omega)
      exact x_zret C hQ (Or.inl rfl) dX4_lawHead_17 hSH259 (by decide) (by decide) (⟨0, x261, x262, rfl, by decide, ex261, ex262, by omega, m263, m264, m265, m266, Or.inl ⟨(if_neg (by omega)).trans (nm_n (by omega)), by omega⟩, (Or.inl (by rfl)), f269, hTH259⟩)
  · have k258 := i_eq c257
    refine lv_iconst (v := 1) hx hb dX4_lawHead_5 (by decide) ?_
    have cn_F := i_cl (x := F) (by omega)
    have cn_tat := i_cl (x := tat) (by omega)
    have cn_tat := i_cl (x := tat) (by omega)
    exact x_zret C hQ (Or.inr rfl) dX4_lawHead_6 hS (by decide) (by decide) (⟨1, tat, fa, rfl, by decide, etat, efa, by omega, emq, ekq, evq, elw, Or.inr ⟨if_pos (by omega), by omega⟩, (Or.inr (Or.inl ⟨by omega, rfl⟩)), f0_s_fq, hT⟩)

set_option maxHeartbeats 4000000 in
set_option maxRecDepth 100000 in
theorem a_X4_jobHead_g (l : Launch) (K : KE) (G : Nat → Option Nat) (H : Heap) {a0 : Nat} (x1 : Int32) (x2 : Int32) {mq : Nat} {kq : Nat} {vq : Nat} {fq : Nat} {jq : Nat} {eq_ : Nat} (F : Int32) (tat : Int32) (fa : Int32) (lw : Int32) (li : Int32) (kk : Nat → Int) (vv : Nat → Int) (hT : TY K G H) (ga0 : G a0 = some 78) (hx1 : 0 ≤ x1.toInt ∧ x1.toInt ≤ 15) (gmq : G mq = some 69) (emq : mq = fR H a0 (K.1.2 4 0)) (gkq : G kq = some 79) (ekq : kq = fR H a0 (K.1.2 4 3)) (gvq : G vq = some 80) (evq : vq = fR H a0 (K.1.2 4 4)) (gfq : G fq = some 71) (efq : fq = fR H mq (K.1.2 7 2)) (gjq : G jq = some 72) (ejq : jq = fR H mq (K.1.2 7 3)) (geq_ : G eq_ = some 73) (eeq_ : eq_ = fR H mq (K.1.2 7 4)) (etat : tat = fI H a0 (K.1.2 4 7)) (efa : fa = fI H a0 (K.1.2 4 1)) (elw : lw = fI H a0 (K.1.2 4 8)) (eli : li = fI H mq (K.1.2 7 0)) (hel0 : fI H kq (F : Int32).toNatClampNeg = 26) (hp0 : tat.toInt ≤ F.toInt) (hp1 : F.toInt ≤ 500) (hv_kk : ∀ j : Nat, j ≤ F.toNatClampNeg → kk j = (fI H kq j).toInt) (hv_vv : ∀ j : Nat, j ≤ F.toNatClampNeg → vv j = (fI H vq j).toInt) : MX l K yX4_jobHead cX4_jobHead 3 (some .boolean) 2 43 0 0 [.ref a0, .int x1, .int x2] H (AE G [78, 71, 72, 73] H.size) (fun v H1 => ∃ (r : Int32) (t0 : Int32) (t1 : Int32), v = some (.int r) ∧ (0 ≤ r.toInt ∧ r.toInt ≤ 1) ∧ t0 = fI H1 a0 (K.1.2 4 7) ∧ t1 = fI H1 a0 (K.1.2 4 1) ∧ (t0.toInt ≤ F.toInt ∧ ((r.toInt = 1 ∧ t1.toInt = fa.toInt ∧ tat.toInt ≤ t0.toInt) ∨ (r.toInt = 0 ∧ t1.toInt ≠ 0))) ∧ mq = fR H1 a0 (K.1.2 4 0) ∧ kq = fR H1 a0 (K.1.2 4 3) ∧ vq = fR H1 a0 (K.1.2 4 4) ∧ lw = fI H1 a0 (K.1.2 4 8) ∧ (RQ (hjI kk vv x2.toInt tat.toNatClampNeg) r t0) ∧ (r.toInt = 0 ∨ ((fI H1 fq x1.toNatClampNeg).toInt = vv tat.toNatClampNeg ∧ (x2.toInt = 5 → (fI H1 jq x1.toNatClampNeg).toInt = vv (tat.toNatClampNeg + 1)) ∧ (fI H1 eq_ x1.toNatClampNeg).toInt = (if x2.toInt = 5 then vv (tat.toNatClampNeg + 2) else vv (tat.toNatClampNeg + 1)))) ∧ (∀ j : Nat, j ≠ x1.toNatClampNeg → fI H1 fq j = fI H fq j) ∧ (∀ j : Nat, j ≠ x1.toNatClampNeg → fI H1 jq j = fI H jq j) ∧ (∀ j : Nat, j ≠ x1.toNatClampNeg → fI H1 eq_ j = fI H eq_ j) ∧ TY K G H1) := by
  refine MX.of (by decide +kernel) (Nat.le_of_ble_eq_true rfl) ?_
  intro p e s m below meth c ls Q C hH hl hQ
  subst hH
  have C : CX p K s m _ meth c RX4 cX4_jobHead 3 (some .boolean) "jobHead" := C
  obtain ⟨hx, hb, hml, hown, hts, hKT, hr, hlocks, hnm⟩ := id C
  have hl : lv_has ls 3 [(0, .ref a0), (1, .int x1), (2, .int x2)] := hl
  have hS : va_S (AE G [78, 71, 72, 73] s.heap.size) s.heap s.heap [] := va_S.rf
  have n_0 : (0 : Int32).toInt = 0 := rfl
  have n_1 : (1 : Int32).toInt = 1 := rfl
  have n_5 : (5 : Int32).toInt = 5 := rfl
  have n_6 : (6 : Int32).toInt = 6 := rfl
  have n_9 : (9 : Int32).toInt = 9 := rfl
  have n_15 : (15 : Int32).toInt = 15 := rfl
  have n_99 : (99 : Int32).toInt = 99 := rfl
  have btat := ty_fi (x := tat) (k := 7) etat hT ga0 rg_78 rfl
  have bfa := ty_fi (x := fa) (k := 1) efa hT ga0 rg_78 rfl
  have blw := ty_fi (x := lw) (k := 8) elw hT ga0 rg_78 rfl
  have bli := ty_fi (x := li) (k := 0) eli hT gmq rg_69 rfl
  have hsp0 : hjI kk vv x2.toInt tat.toNatClampNeg = hjI kk vv x2.toInt tat.toNatClampNeg := rfl
  have f0_kk := hv_kk
  have f0_vv := hv_vv
  have f0_s_fq : ∀ j : Nat, j ≠ x1.toNatClampNeg → fI s.heap fq j = fI s.heap fq j := fun _ _ => rfl
  have f0_s_jq : ∀ j : Nat, j ≠ x1.toNatClampNeg → fI s.heap jq j = fI s.heap jq j := fun _ _ => rfl
  have f0_s_eq_ : ∀ j : Nat, j ≠ x1.toNatClampNeg → fI s.heap eq_ j = fI s.heap eq_ j := fun _ _ => rfl
  refine lv_aload_n hx hb dX4_jobHead_0 rfl (lv_at hl 0 rfl) ?_
  refine lv_iconst (v := 0) hx hb dX4_jobHead_1 (by decide) ?_
  refine lv_bipush (v := 15) hx hb dX4_jobHead_2 (by decide) ?_
  refine x_V (As := [.int 0, .int 15]) (rest := []) C (a_X4_number_e l K G s.heap (0) (15) (F) (tat) (fa) (lw) (li) kk vv hT ga0 gmq emq gkq ekq gvq evq etat efa elw eli hel0 (by omega) (by omega) f0_kk f0_vv) yo_X4_number wM_X4_119 ⟨⟨by decide, by decide⟩, by decide, by decide⟩ (x_rv C hT (ci := 4) rfl ga0 rg_78) rfl hl.1 rfl (Nat.le_of_ble_eq_true rfl) dX4_jobHead_4 hS (AE_sub (fun _ _ => rfl) (by decide) hS.1) (fun vH1105 H1105 locsH1105 pH1105 zH1105 kH1105 hSH1105 => ?_)
  obtain ⟨x1106, x1107, x1108, hvH1105, bx1106, ex1107, ex1108, hrH1105, m1109, m1110, m1111, m1112, hTH1105⟩ := pH1105
  subst hvH1105
  have f1113 : ∀ j : Nat, j ≤ F.toNatClampNeg → kk j = (fI H1105 kq j).toInt := fun j hj => (f0_kk j hj).trans (congrArg Int32.toInt (fI_kept (x_lt hT kH1105 gkq (by decide))).symm)
  have f1114 : ∀ j : Nat, j ≤ F.toNatClampNeg → vv j = (fI H1105 vq j).toInt := fun j hj => (f0_vv j hj).trans (congrArg Int32.toInt (fI_kept (x_lt hT kH1105 gvq (by decide))).symm)
  have f1115 : ∀ j : Nat, j ≠ x1.toNatClampNeg → fI H1105 fq j = fI s.heap fq j := fun j hj => (fI_kept (x_lt hT kH1105 gfq (by decide))).trans (f0_s_fq j hj)
  have f1116 : ∀ j : Nat, j ≠ x1.toNatClampNeg → fI H1105 jq j = fI s.heap jq j := fun j hj => (fI_kept (x_lt hT kH1105 gjq (by decide))).trans (f0_s_jq j hj)
  have f1117 : ∀ j : Nat, j ≠ x1.toNatClampNeg → fI H1105 eq_ j = fI s.heap eq_ j := fun j hj => (fI_kept (x_lt hT kH1105 geq_ (by decide))).trans (f0_s_eq_ j hj)
  have m1118 := (efq).trans (fR_kept (x_lt hT kH1105 gmq (by decide))).symm
  have m1119 := (ejq).trans (fR_kept (x_lt hT kH1105 gmq (by decide))).symm
  have m1120 := (eeq_).trans (fR_kept (x_lt hT kH1105 gmq (by decide))).symm
  have m1121 := (eli).trans (fI_kept (x_lt hT kH1105 gmq (by decide))).symm
  have m1122 := (fI_kept (x_lt hT kH1105 gkq (by decide))).trans hel0
  have bx1107 := ty_fi (x := x1107) (k := 7) ex1107 hTH1105 ga0 rg_78 rfl
  have bx1108 := ty_fi (x := x1108) (k := 1) ex1108 hTH1105 ga0 rg_78 rfl
  refine W.eq (g2 := F0 m 7 ls [.int x1106]) rfl ?_
  refine lv_if_ne (tgt := 12) hx hb dX4_jobHead_7 (by decide) (fun c1123 => ?_) (fun c1123 => ?_)
  · have k1124 := i_ne c1123
    refine lv_aload_n hx hb dX4_jobHead_12 rfl (lv_at hl 0 rfl) ?_
    refine x_gr C hTH1105 (ci := 4) (k := 0) rfl inX4 (by decide) wF_X4_12 ga0 rg_78 rfl dX4_jobHead_13 (fun q1125 eq1125 gq1125 => ?_)
    have uq1125 : mq = q1125 := (m1109).trans eq1125.symm
    subst uq1125
    refine x_gr C hTH1105 (ci := 7) (k := 2) rfl inX7 (by decide) wF_X4_90 gmq rg_69 rfl dX4_jobHead_16 (fun q1126 eq1126 gq1126 => ?_)
    have uq1126 : fq = q1126 := (m1118).trans eq1126.symm
    subst uq1126
    refine lv_iload_n hx hb dX4_jobHead_19 rfl (lv_at hl 1 rfl) ?_
    refine lv_aload_n hx hb dX4_jobHead_20 rfl (lv_at hl 0 rfl) ?_
    refine x_gr C hTH1105 (ci := 4) (k := 4) rfl inX4 (by decide) wF_X4_22 ga0 rg_78 rfl dX4_jobHead_21 (fun q1127 eq1127 gq1127 => ?_)
    have uq1127 : vq = q1127 := (m1111).trans eq1127.symm
    subst uq1127
    refine lv_aload_n hx hb dX4_jobHead_24 rfl (lv_at hl 0 rfl) ?_
    refine x_gi C hTH1105 (ci := 4) (k := 7) rfl inX4 (by decide) wF_X4_42 ga0 rg_78 rfl dX4_jobHead_25 (fun x1128 ex1128 bx1128 => ?_)
    have ux1128 : x1107 = x1128 := (ex1107).trans ex1128.symm
    subst ux1128
    refine lv_iconst (v := 1) hx hb dX4_jobHead_28 (by decide) ?_
    refine lv_isub hx hb dX4_jobHead_29 ?_
    refine lv_topi (fun x1129 ex1129 => ?_)
    have tx1129 := i_sub ex1129 (by omega)
    refine x_ai C hTH1105 gvq rg_80 ⟨by omega, by show _ < ((501 : Nat) : Int); omega⟩ dX4_jobHead_30 (fun x1130 ex1130 bx1130 => ?_)
    have qvx1130 : vv x1129.toNatClampNeg = x1130.toInt := (f1114 _ (by have h1 := i_cl (x := x1129) (by omega); have h2 := i_cl (x := F) (by omega); omega)).trans (congrArg Int32.toInt ex1130.symm)
    have cn_x1129 := i_cl (x := x1129) (by omega)
    have cn_tat := i_cl (x := tat) (by omega)
    have qn1131 : vv (tat.toNatClampNeg) = x1130.toInt := by rw [show tat.toNatClampNeg = x1129.toNatClampNeg by omega]; exact qvx1130
    refine x_iast C hTH1105 hSH1105 gfq rg_71 (by omega) (by show _ < ((16 : Nat) : Int); omega) ⟨by have := i_rng x1130; omega, by have := i_rng x1130; omega⟩ (AE_in gfq (by decide)) dX4_jobHead_31 (fun H1132 locsH1132 hTH1132 hSH1132 wH1132 => ?_)
    have f1133 : ∀ j : Nat, j ≤ F.toNatClampNeg → kk j = (fI H1132 kq j).toInt := fun j hj => (f1113 j hj).trans (congrArg Int32.toInt (Wr.neI wH1132 (Or.inl (G_ne gkq gfq (by decide)))).symm)
    have f1134 : ∀ j : Nat, j ≤ F.toNatClampNeg → vv j = (fI H1132 vq j).toInt := fun j hj => (f1114 j hj).trans (congrArg Int32.toInt (Wr.neI wH1132 (Or.inl (G_ne gvq gfq (by decide)))).symm)
    have f1135 : ∀ j : Nat, j ≠ x1.toNatClampNeg → fI H1132 fq j = fI s.heap fq j := fun j hj => (Wr.neI wH1132 (Or.inr hj)).trans (f1115 j hj)
    have f1136 : ∀ j : Nat, j ≠ x1.toNatClampNeg → fI H1132 jq j = fI s.heap jq j := fun j hj => (Wr.neI wH1132 (Or.inl (G_ne gjq gfq (by decide)))).trans (f1116 j hj)
    have f1137 : ∀ j : Nat, j ≠ x1.toNatClampNeg → fI H1132 eq_ j = fI s.heap eq_ j := fun j hj => (Wr.neI wH1132 (Or.inl (G_ne geq_ gfq (by decide)))).trans (f1117 j hj)
    have m1138 := m1118.trans (Wr.neR wH1132 (Or.inl (G_ne gmq gfq (by decide)))).symm
    have m1139 := m1119.trans (Wr.neR wH1132 (Or.inl (G_ne gmq gfq (by decide)))).symm
    have m1140 := m1120.trans (Wr.neR wH1132 (Or.inl (G_ne gmq gfq (by decide)))).symm
    have m1141 := m1121.trans (Wr.neI wH1132 (Or.inl (G_ne gmq gfq (by decide)))).symm
    have m1142 := (Wr.neI wH1132 (Or.inl (G_ne gkq gfq (by decide)))).trans m1122
    have m1143 := m1109.trans (Wr.neR wH1132 (Or.inl (G_ne ga0 gfq (by decide)))).symm
    have m1144 := m1110.trans (Wr.neR wH1132 (Or.inl (G_ne ga0 gfq (by decide)))).symm
    have m1145 := m1111.trans (Wr.neR wH1132 (Or.inl (G_ne ga0 gfq (by decide)))).symm
    have m1146 := m1112.trans (Wr.neI wH1132 (Or.inl (G_ne ga0 gfq (by decide)))).symm
    have m1147 := ex1107.trans (Wr.neI wH1132 (Or.inl (G_ne ga0 gfq (by decide)))).symm
    have m1148 := ex1108.trans (Wr.neI wH1132 (Or.inl (G_ne ga0 gfq (by decide)))).symm
    have m1149 := ex1130.trans (Wr.neI wH1132 (Or.inl (G_ne gvq gfq (by decide)))).symm
    have m1150 := Wr.I wH1132
    have m1150 := m1150.symm
    refine lv_iload_n hx hb dX4_jobHead_32 rfl (lv_at hl 2 rfl) ?_
    refine lv_iconst (v := 5) hx hb dX4_jobHead_33 (by decide) ?_
    refine lv_icmp_ne (tgt := 69) hx hb dX4_jobHead_34 (by decide) (fun c1151 => ?_) (fun c1151 => ?_)
    · have k1152 := i_ne c1151
      refine lv_iload_n hx hb dX4_jobHead_69 rfl (lv_at hl 2 rfl) ?_
      refine lv_bipush (v := 6) hx hb dX4_jobHead_70 (by decide) ?_
      refine lv_icmp_ne (tgt := 88) hx hb dX4_jobHead_72 (by decide) (fun c1153 => ?_) (fun c1153 => ?_)
      · have k1154 := i_ne c1153
        refine lv_aload_n hx hb dX4_jobHead_88 rfl (lv_at hl 0 rfl) ?_
        refine lv_iconst (v := 1) hx hb dX4_jobHead_89 (by decide) ?_
        refine lv_bipush (v := 9) hx hb dX4_jobHead_90 (by decide) ?_
        refine x_V (As := [.int 1, .int 9]) (rest := []) C (a_X4_number_e l K G H1132 (1) (9) (F) (x1107) (x1108) (lw) (li) kk vv hTH1132 ga0 gmq m1143 gkq m1144 gvq m1145 m1147 m1148 m1146 m1141 m1142 (by omega) (by omega) f1133 f1134) yo_X4_number wM_X4_119 ⟨⟨by decide, by decide⟩, by decide, by decide⟩ (x_rv C hTH1132 (ci := 4) rfl ga0 rg_78) rfl hl.1 rfl (Nat.le_of_ble_eq_true rfl) dX4_jobHead_92 hSH1132 (AE_sub (fun _ _ => rfl) (by decide) hSH1132.1) (fun vH1155 H1155 locsH1155 pH1155 zH1155 kH1155 hSH1155 => ?_)
        obtain ⟨x1156, x1157, x1158, hvH1155, bx1156, ex1157, ex1158, hrH1155, m1159, m1160, m1161, m1162, hTH1155⟩ := pH1155
        subst hvH1155
        have f1163 : ∀ j : Nat, j ≤ F.toNatClampNeg → kk j = (fI H1155 kq j).toInt := fun j hj => (f1133 j hj).trans (congrArg Int32.toInt (fI_kept (x_lt hTH1132 kH1155 gkq (by decide))).symm)
        have f1164 : ∀ j : Nat, j ≤ F.toNatClampNeg → vv j = (fI H1155 vq j).toInt := fun j hj => (f1134 j hj).trans (congrArg Int32.toInt (fI_kept (x_lt hTH1132 kH1155 gvq (by decide))).symm)
        have f1165 : ∀ j : Nat, j ≠ x1.toNatClampNeg → fI H1155 fq j = fI s.heap fq j := fun j hj => (fI_kept (x_lt hTH1132 kH1155 gfq (by decide))).trans (f1135 j hj)
        have f1166 : ∀ j : Nat, j ≠ x1.toNatClampNeg → fI H1155 jq j = fI s.heap jq j := fun j hj => (fI_kept (x_lt hTH1132 kH1155 gjq (by decide))).trans (f1136 j hj)
        have f1167 : ∀ j : Nat, j ≠ x1.toNatClampNeg → fI H1155 eq_ j = fI s.heap eq_ j := fun j hj => (fI_kept (x_lt hTH1132 kH1155 geq_ (by decide))).trans (f1137 j hj)
        have m1168 := (m1138).trans (fR_kept (x_lt hTH1132 kH1155 gmq (by decide))).symm
        have m1169 := (m1139).trans (fR_kept (x_lt hTH1132 kH1155 gmq (by decide))).symm
        have m1170 := (m1140).trans (fR_kept (x_lt hTH1132 kH1155 gmq (by decide))).symm
        have m1171 := (m1141).trans (fI_kept (x_lt hTH1132 kH1155 gmq (by decide))).symm
        have m1172 := (fI_kept (x_lt hTH1132 kH1155 gkq (by decide))).trans m1142
        have m1173 := (m1149).trans (fI_kept (x_lt hTH1132 kH1155 gvq (by decide))).symm
        have m1174 := (m1150).trans (fI_kept (x_lt hTH1132 kH1155 gfq (by decide))).symm
        have bx1157 := ty_fi (x := x1157) (k := 7) ex1157 hTH1155 ga0 rg_78 rfl
        have bx1158 := ty_fi (x := x1158) (k := 1) ex1158 hTH1155 ga0 rg_78 rfl
        refine W.eq (g2 := F0 m 95 ls [.int x1156]) rfl ?_
        refine lv_if_ne (tgt := 100) hx hb dX4_jobHead_95 (by decide) (fun c1175 => ?_) (fun c1175 => ?_)
        · have k1176 := i_ne c1175
          refine lv_aload_n hx hb dX4_jobHead_100 rfl (lv_at hl 0 rfl) ?_
          refine x_gr C hTH1155 (ci := 4) (k := 0) rfl inX4 (by decide) wF_X4_12 ga0 rg_78 rfl dX4_jobHead_101 (fun q1177 eq1177 gq1177 => ?_)
          have uq1177 : mq = q1177 := (m1159).trans eq1177.symm
          subst uq1177
          refine x_gr C hTH1155 (ci := 7) (k := 4) rfl inX7 (by decide) wF_X4_125 gmq rg_69 rfl dX4_jobHead_104 (fun q1178 eq1178 gq1178 => ?_)
          have uq1178 : eq_ = q1178 := (m1170).trans eq1178.symm
          subst uq1178
          refine lv_iload_n hx hb dX4_jobHead_107 rfl (lv_at hl 1 rfl) ?_
          refine lv_aload_n hx hb dX4_jobHead_108 rfl (lv_at hl 0 rfl) ?_
          refine x_gr C hTH1155 (ci := 4) (k := 4) rfl inX4 (by decide) wF_X4_22 ga0 rg_78 rfl dX4_jobHead_109 (fun q1179 eq1179 gq1179 => ?_)
          have uq1179 : vq = q1179 := (m1161).trans eq1179.symm
          subst uq1179
          refine lv_aload_n hx hb dX4_jobHead_112 rfl (lv_at hl 0 rfl) ?_
          refine x_gi C hTH1155 (ci := 4) (k := 7) rfl inX4 (by decide) wF_X4_42 ga0 rg_78 rfl dX4_jobHead_113 (fun x1180 ex1180 bx1180 => ?_)
          have ux1180 : x1157 = x1180 := (ex1157).trans ex1180.symm
          subst ux1180
          refine lv_iconst (v := 1) hx hb dX4_jobHead_116 (by decide) ?_
          refine lv_isub hx hb dX4_jobHead_117 ?_
          refine lv_topi (fun x1181 ex1181 => ?_)
          have tx1181 := i_sub ex1181 (by omega)
          refine x_ai C hTH1155 gvq rg_80 ⟨by omega, by show _ < ((501 : Nat) : Int); omega⟩ dX4_jobHead_118 (fun x1182 ex1182 bx1182 => ?_)
          have qvx1182 : vv x1181.toNatClampNeg = x1182.toInt := (f1164 _ (by have h1 := i_cl (x := x1181) (by omega); have h2 := i_cl (x := F) (by omega); omega)).trans (congrArg Int32.toInt ex1182.symm)
          have cn_x1181 := i_cl (x := x1181) (by omega)
          have cn_tat := i_cl (x := tat) (by omega)
          have qn1183 : vv (tat.toNatClampNeg + 1) = x1182.toInt := by rw [show tat.toNatClampNeg + 1 = x1181.toNatClampNeg by omega]; exact qvx1182
          refine x_iast C hTH1155 hSH1155 geq_ rg_73 (by omega) (by show _ < ((16 : Nat) : Int); omega) ⟨by have := i_rng x1182; omega, by have := i_rng x1182; omega⟩ (AE_in geq_ (by decide)) dX4_jobHead_119 (fun H1184 locsH1184 hTH1184 hSH1184 wH1184 => ?_)
          have f1185 : ∀ j : Nat, j ≤ F.toNatClampNeg → kk j = (fI H1184 kq j).toInt := fun j hj => (f1163 j hj).trans (congrArg Int32.toInt (Wr.neI wH1184 (Or.inl (G_ne gkq geq_ (by decide)))).symm)
          have f1186 : ∀ j : Nat, j ≤ F.toNatClampNeg → vv j = (fI H1184 vq j).toInt := fun j hj => (f1164 j hj).trans (congrArg Int32.toInt (Wr.neI wH1184 (Or.inl (G_ne gvq geq_ (by decide)))).symm)
          have f1187 : ∀ j : Nat, j ≠ x1.toNatClampNeg → fI H1184 fq j = fI s.heap fq j := fun j hj => (Wr.neI wH1184 (Or.inl (G_ne gfq geq_ (by decide)))).trans (f1165 j hj)
          have f1188 : ∀ j : Nat, j ≠ x1.toNatClampNeg → fI H1184 jq j = fI s.heap jq j := fun j hj => (Wr.neI wH1184 (Or.inl (G_ne gjq geq_ (by decide)))).trans (f1166 j hj)
          have f1189 : ∀ j : Nat, j ≠ x1.toNatClampNeg → fI H1184 eq_ j = fI s.heap eq_ j := fun j hj => (Wr.neI wH1184 (Or.inr hj)).trans (f1167 j hj)
          have m1190 := m1168.trans (Wr.neR wH1184 (Or.inl (G_ne gmq geq_ (by decide)))).symm
          have m1191 := m1169.trans (Wr.neR wH1184 (Or.inl (G_ne gmq geq_ (by decide)))).symm
          have m1192 := m1170.trans (Wr.neR wH1184 (Or.inl (G_ne gmq geq_ (by decide)))).symm
          have m1193 := m1171.trans (Wr.neI wH1184 (Or.inl (G_ne gmq geq_ (by decide)))).symm
          have m1194 := (Wr.neI wH1184 (Or.inl (G_ne gkq geq_ (by decide)))).trans m1172
          have m1195 := m1173.trans (Wr.neI wH1184 (Or.inl (G_ne gvq geq_ (by decide)))).symm
          have m1196 := m1174.trans (Wr.neI wH1184 (Or.inl (G_ne gfq geq_ (by decide)))).symm
          have m1197 := m1159.trans (Wr.neR wH1184 (Or.inl (G_ne ga0 geq_ (by decide)))).symm
          have m1198 := m1160.trans (Wr.neR wH1184 (Or.inl (G_ne ga0 geq_ (by decide)))).symm
          have m1199 := m1161.trans (Wr.neR wH1184 (Or.inl (G_ne ga0 geq_ (by decide)))).symm
          have m1200 := m1162.trans (Wr.neI wH1184 (Or.inl (G_ne ga0 geq_ (by decide)))).symm
          have m1201 := ex1157.trans (Wr.neI wH1184 (Or.inl (G_ne ga0 geq_ (by decide)))).symm
          have m1202 := ex1158.trans (Wr.neI wH1184 (Or.inl (G_ne ga0 geq_ (by decide)))).symm
          have m1203 := ex1182.trans (Wr.neI wH1184 (Or.inl (G_ne gvq geq_ (by decide)))).symm
          have m1204 := Wr.I wH1184
          have m1204 := m1204.symm
          refine lv_iconst (v := 1) hx hb dX4_jobHead_120 (by decide) ?_
          have cn_F := i_cl (x := F) (by omega)
          have cn_tat := i_cl (x := tat) (by omega)
          have cn_x1157 := i_cl (x := x1157) (by omega)
          have cn_tat := i_cl (x := tat) (by omega)
          have cn_x1107 := i_cl (x := x1107) (by omega)
          have cn_x1107 := i_cl (x := x1107) (by omega)
          have cn_x1157 := i_cl (x := x1157) (by omega)
          exact x_zret C hQ (Or.inr rfl) dX4_jobHead_121 hSH1184 (by decide) (by decide) (⟨1, x1157, x1158, rfl, by decide, m1201, m1202, by omega, m1197, m1198, m1199, m1200, Or.inr ⟨(hj_go (nm_y (by omega) (show x1107.toNatClampNeg = _ + 1 by omega)) (Or.inr ⟨by omega, rfl⟩)).trans ((if_neg (by omega)).trans (nm_y (by omega) (show x1157.toNatClampNeg = _ + 1 by omega))), by omega⟩, (Or.inr ⟨by rw [← m1196]; exact qn1131.symm, fun z => absurd z (by omega), by rw [if_neg (by omega), ← m1204]; exact qn1183.symm⟩), f1187, f1188, f1189, hTH1184⟩)
        · have k1176 := i_eq c1175
          refine lv_iconst (v := 0) hx hb dX4_jobHead_98 (by decide) ?_
          have cn_F := i_cl (x := F) (by omega)
          have cn_tat := i_cl (x := tat) (by omega)
          have cn_x1157 := i_cl (x := x1157) (by omega)
          have cn_tat := i_cl (x := tat) (by omega)
          have cn_x1107 := i_cl (x := x1107) (by omega)
          have cn_x1107 := i_cl (x := x1107) (by omega)
          have cn_x1157 := i_cl (x := x1157) (by omega)
          exact x_zret C hQ (Or.inl rfl) dX4_jobHead_99 hSH1155 (by decide) (by decide) (⟨0, x1157, x1158, rfl, by decide, ex1157, ex1158, by omega, m1159, m1160, m1161, m1162, Or.inl ⟨(hj_go (nm_y (by omega) (show x1107.toNatClampNeg = _ + 1 by omega)) (Or.inr ⟨by omega, rfl⟩)).trans ((if_neg (by omega)).trans (nm_n (by omega))), by omega⟩, (Or.inl (by rfl)), f1165, f1166, f1167, hTH1155⟩)
      · have k1154 := i_eq c1153
        refine lv_aload_n hx hb dX4_jobHead_75 rfl (lv_at hl 0 rfl) ?_
        refine lv_iconst (v := 0) hx hb dX4_jobHead_76 (by decide) ?_
        refine lv_bipush (v := 99) hx hb dX4_jobHead_77 (by decide) ?_
        refine x_V (As := [.int 0, .int 99]) (rest := []) C (a_X4_number_e l K G H1132 (0) (99) (F) (x1107) (x1108) (lw) (li) kk vv hTH1132 ga0 gmq m1143 gkq m1144 gvq m1145 m1147 m1148 m1146 m1141 m1142 (by omega) (by omega) f1133 f1134) yo_X4_number wM_X4_119 ⟨⟨by decide, by decide⟩, by decide, by decide⟩ (x_rv C hTH1132 (ci := 4) rfl ga0 rg_78) rfl hl.1 rfl (Nat.le_of_ble_eq_true rfl) dX4_jobHead_79 hSH1132 (AE_sub (fun _ _ => rfl) (by decide) hSH1132.1) (fun vH1205 H1205 locsH1205 pH1205 zH1205 kH1205 hSH1205 => ?_)
        obtain ⟨x1206, x1207, x1208, hvH1205, bx1206, ex1207, ex1208, hrH1205, m1209, m1210, m1211, m1212, hTH1205⟩ := pH1205
        subst hvH1205
        have f1213 : ∀ j : Nat, j ≤ F.toNatClampNeg → kk j = (fI H1205 kq j).toInt := fun j hj => (f1133 j hj).trans (congrArg Int32.toInt (fI_kept (x_lt hTH1132 kH1205 gkq (by decide))).symm)
        have f1214 : ∀ j : Nat, j ≤ F.toNatClampNeg → vv j = (fI H1205 vq j).toInt := fun j hj => (f1134 j hj).trans (congrArg Int32.toInt (fI_kept (x_lt hTH1132 kH1205 gvq (by decide))).symm)
        have f1215 : ∀ j : Nat, j ≠ x1.toNatClampNeg → fI H1205 fq j = fI s.heap fq j := fun j hj => (fI_kept (x_lt hTH1132 kH1205 gfq (by decide))).trans (f1135 j hj)
        have f1216 : ∀ j : Nat, j ≠ x1.toNatClampNeg → fI H1205 jq j = fI s.heap jq j := fun j hj => (fI_kept (x_lt hTH1132 kH1205 gjq (by decide))).trans (f1136 j hj)
        have f1217 : ∀ j : Nat, j ≠ x1.toNatClampNeg → fI H1205 eq_ j = fI s.heap eq_ j := fun j hj => (fI_kept (x_lt hTH1132 kH1205 geq_ (by decide))).trans (f1137 j hj)
        have m1218 := (m1138).trans (fR_kept (x_lt hTH1132 kH1205 gmq (by decide))).symm
        have m1219 := (m1139).trans (fR_kept (x_lt hTH1132 kH1205 gmq (by decide))).symm
        have m1220 := (m1140).trans (fR_kept (x_lt hTH1132 kH1205 gmq (by decide))).symm
        have m1221 := (m1141).trans (fI_kept (x_lt hTH1132 kH1205 gmq (by decide))).symm
        have m1222 := (fI_kept (x_lt hTH1132 kH1205 gkq (by decide))).trans m1142
        have m1223 := (m1149).trans (fI_kept (x_lt hTH1132 kH1205 gvq (by decide))).symm
        have m1224 := (m1150).trans (fI_kept (x_lt hTH1132 kH1205 gfq (by decide))).symm
        have bx1207 := ty_fi (x := x1207) (k := 7) ex1207 hTH1205 ga0 rg_78 rfl
        have bx1208 := ty_fi (x := x1208) (k := 1) ex1208 hTH1205 ga0 rg_78 rfl
        refine W.eq (g2 := F0 m 82 ls [.int x1206]) rfl ?_
        refine lv_if_eq (tgt := 98) hx hb dX4_jobHead_82 (by decide) (fun c1225 => ?_) (fun c1225 => ?_)
        · have k1226 := i_eq c1225
          refine lv_iconst (v := 0) hx hb dX4_jobHead_98 (by decide) ?_
          have cn_F := i_cl (x := F) (by omega)
          have cn_tat := i_cl (x := tat) (by omega)
          have cn_x1207 := i_cl (x := x1207) (by omega)
          have cn_tat := i_cl (x := tat) (by omega)
          have cn_x1107 := i_cl (x := x1107) (by omega)
          have cn_x1107 := i_cl (x := x1107) (by omega)
          have cn_x1207 := i_cl (x := x1207) (by omega)
          exact x_zret C hQ (Or.inl rfl) dX4_jobHead_99 hSH1205 (by decide) (by decide) (⟨0, x1207, x1208, rfl, by decide, ex1207, ex1208, by omega, m1209, m1210, m1211, m1212, Or.inl ⟨(hj_go (nm_y (by omega) (show x1107.toNatClampNeg = _ + 1 by omega)) (Or.inr ⟨by omega, rfl⟩)).trans ((if_pos (by omega)).trans (nm_n (by omega))), by omega⟩, (Or.inl (by rfl)), f1215, f1216, f1217, hTH1205⟩)
        · have k1226 := i_ne c1225
          refine lv_goto (tgt := 100) hx hb dX4_jobHead_85 (by decide) ?_
          refine lv_aload_n hx hb dX4_jobHead_100 rfl (lv_at hl 0 rfl) ?_
          refine x_gr C hTH1205 (ci := 4) (k := 0) rfl inX4 (by decide) wF_X4_12 ga0 rg_78 rfl dX4_jobHead_101 (fun q1227 eq1227 gq1227 => ?_)
          have uq1227 : mq = q1227 := (m1209).trans eq1227.symm
          subst uq1227
          refine x_gr C hTH1205 (ci := 7) (k := 4) rfl inX7 (by decide) wF_X4_125 gmq rg_69 rfl dX4_jobHead_104 (fun q1228 eq1228 gq1228 => ?_)
          have uq1228 : eq_ = q1228 := (m1220).trans eq1228.symm
          subst uq1228
          refine lv_iload_n hx hb dX4_jobHead_107 rfl (lv_at hl 1 rfl) ?_
          refine lv_aload_n hx hb dX4_jobHead_108 rfl (lv_at hl 0 rfl) ?_
          refine x_gr C hTH1205 (ci := 4) (k := 4) rfl inX4 (by decide) wF_X4_22 ga0 rg_78 rfl dX4_jobHead_109 (fun q1229 eq1229 gq1229 => ?_)
          have uq1229 : vq = q1229 := (m1211).trans eq1229.symm
          subst uq1229
          refine lv_aload_n hx hb dX4_jobHead_112 rfl (lv_at hl 0 rfl) ?_
          refine x_gi C hTH1205 (ci := 4) (k := 7) rfl inX4 (by decide) wF_X4_42 ga0 rg_78 rfl dX4_jobHead_113 (fun x1230 ex1230 bx1230 => ?_)
          have ux1230 : x1207 = x1230 := (ex1207).trans ex1230.symm
          subst ux1230
          refine lv_iconst (v := 1) hx hb dX4_jobHead_116 (by decide) ?_
          refine lv_isub hx hb dX4_jobHead_117 ?_
          refine lv_topi (fun x1231 ex1231 => ?_)
          have tx1231 := i_sub ex1231 (by omega)
          refine x_ai C hTH1205 gvq rg_80 ⟨by omega, by show _ < ((501 : Nat) : Int); omega⟩ dX4_jobHead_118 (fun x1232 ex1232 bx1232 => ?_)
          have qvx1232 : vv x1231.toNatClampNeg = x1232.toInt := (f1214 _ (by have h1 := i_cl (x := x1231) (by omega); have h2 := i_cl (x := F) (by omega); omega)).trans (congrArg Int32.toInt ex1232.symm)
          have cn_x1231 := i_cl (x := x1231) (by omega)
          have cn_tat := i_cl (x := tat) (by omega)
          have qn1233 : vv (tat.toNatClampNeg + 1) = x1232.toInt := by rw [show tat.toNatClampNeg + 1 = x1231.toNatClampNeg by omega]; exact qvx1232
          refine x_iast C hTH1205 hSH1205 geq_ rg_73 (by omega) (by show _ < ((16 : Nat) : Int); omega) ⟨by have := i_rng x1232; omega, by have := i_rng x1232; omega⟩ (AE_in geq_ (by decide)) dX4_jobHead_119 (fun H1234 locsH1234 hTH1234 hSH1234 wH1234 => ?_)
          have f1235 : ∀ j : Nat, j ≤ F.toNatClampNeg → kk j = (fI H1234 kq j).toInt := fun j hj => (f1213 j hj).trans (congrArg Int32.toInt (Wr.neI wH1234 (Or.inl (G_ne gkq geq_ (by decide)))).symm)
          have f1236 : ∀ j : Nat, j ≤ F.toNatClampNeg → vv j = (fI H1234 vq j).toInt := fun j hj => (f1214 j hj).trans (congrArg Int32.toInt (Wr.neI wH1234 (Or.inl (G_ne gvq geq_ (by decide)))).symm)
          have f1237 : ∀ j : Nat, j ≠ x1.toNatClampNeg → fI H1234 fq j = fI s.heap fq j := fun j hj => (Wr.neI wH1234 (Or.inl (G_ne gfq geq_ (by decide)))).trans (f1215 j hj)
          have f1238 : ∀ j : Nat, j ≠ x1.toNatClampNeg → fI H1234 jq j = fI s.heap jq j := fun j hj => (Wr.neI wH1234 (Or.inl (G_ne gjq geq_ (by decide)))).trans (f1216 j hj)
          have f1239 : ∀ j : Nat, j ≠ x1.toNatClampNeg → fI H1234 eq_ j = fI s.heap eq_ j := fun j hj => (Wr.neI wH1234 (Or.inr hj)).trans (f1217 j hj)
          have m1240 := m1218.trans (Wr.neR wH1234 (Or.inl (G_ne gmq geq_ (by decide)))).symm
          have m1241 := m1219.trans (Wr.neR wH1234 (Or.inl (G_ne gmq geq_ (by decide)))).symm
          have m1242 := m1220.trans (Wr.neR wH1234 (Or.inl (G_ne gmq geq_ (by decide)))).symm
          have m1243 := m1221.trans (Wr.neI wH1234 (Or.inl (G_ne gmq geq_ (by decide)))).symm
          have m1244 := (Wr.neI wH1234 (Or.inl (G_ne gkq geq_ (by decide)))).trans m1222
          have m1245 := m1223.trans (Wr.neI wH1234 (Or.inl (G_ne gvq geq_ (by decide)))).symm
          have m1246 := m1224.trans (Wr.neI wH1234 (Or.inl (G_ne gfq geq_ (by decide)))).symm
          have m1247 := m1209.trans (Wr.neR wH1234 (Or.inl (G_ne ga0 geq_ (by decide)))).symm
          have m1248 := m1210.trans (Wr.neR wH1234 (Or.inl (G_ne ga0 geq_ (by decide)))).symm
          have m1249 := m1211.trans (Wr.neR wH1234 (Or.inl (G_ne ga0 geq_ (by decide)))).symm
          have m1250 := m1212.trans (Wr.neI wH1234 (Or.inl (G_ne ga0 geq_ (by decide)))).symm
          have m1251 := ex1207.trans (Wr.neI wH1234 (Or.inl (G_ne ga0 geq_ (by decide)))).symm
          have m1252 := ex1208.trans (Wr.neI wH1234 (Or.inl (G_ne ga0 geq_ (by decide)))).symm
          have m1253 := ex1232.trans (Wr.neI wH1234 (Or.inl (G_ne gvq geq_ (by decide)))).symm
          have m1254 := Wr.I wH1234
          have m1254 := m1254.symm
          refine lv_iconst (v := 1) hx hb dX4_jobHead_120 (by decide) ?_
          have cn_F := i_cl (x := F) (by omega)
          have cn_tat := i_cl (x := tat) (by omega)
          have cn_x1207 := i_cl (x := x1207) (by omega)
          have cn_tat := i_cl (x := tat) (by omega)
          have cn_x1107 := i_cl (x := x1107) (by omega)
          have cn_x1107 := i_cl (x := x1107) (by omega)
          have cn_x1207 := i_cl (x := x1207) (by omega)
          exact x_zret C hQ (Or.inr rfl) dX4_jobHead_121 hSH1234 (by decide) (by decide) (⟨1, x1207, x1208, rfl, by decide, m1251, m1252, by omega, m1247, m1248, m1249, m1250, Or.inr ⟨(hj_go (nm_y (by omega) (show x1107.toNatClampNeg = _ + 1 by omega)) (Or.inr ⟨by omega, rfl⟩)).trans ((if_pos (by omega)).trans (nm_y (by omega) (show x1207.toNatClampNeg = _ + 1 by omega))), by omega⟩, (Or.inr ⟨by rw [← m1246]; exact qn1131.symm, fun z => absurd z (by omega), by rw [if_neg (by omega), ← m1254]; exact qn1233.symm⟩), f1237, f1238, f1239, hTH1234⟩)
    · have k1152 := i_eq c1151
      refine lv_aload_n hx hb dX4_jobHead_37 rfl (lv_at hl 0 rfl) ?_
      refine lv_iconst (v := 0) hx hb dX4_jobHead_38 (by decide) ?_
      refine lv_bipush (v := 15) hx hb dX4_jobHead_39 (by decide) ?_
      refine x_V (As := [.int 0, .int 15]) (rest := []) C (a_X4_number_e l K G H1132 (0) (15) (F) (x1107) (x1108) (lw) (li) kk vv hTH1132 ga0 gmq m1143 gkq m1144 gvq m1145 m1147 m1148 m1146 m1141 m1142 (by omega) (by omega) f1133 f1134) yo_X4_number wM_X4_119 ⟨⟨by decide, by decide⟩, by decide, by decide⟩ (x_rv C hTH1132 (ci := 4) rfl ga0 rg_78) rfl hl.1 rfl (Nat.le_of_ble_eq_true rfl) dX4_jobHead_41 hSH1132 (AE_sub (fun _ _ => rfl) (by decide) hSH1132.1) (fun vH1255 H1255 locsH1255 pH1255 zH1255 kH1255 hSH1255 => ?_)
      obtain ⟨x1256, x1257, x1258, hvH1255, bx1256, ex1257, ex1258, hrH1255, m1259, m1260, m1261, m1262, hTH1255⟩ := pH1255
      subst hvH1255
      have f1263 : ∀ j : Nat, j ≤ F.toNatClampNeg → kk j = (fI H1255 kq j).toInt := fun j hj => (f1133 j hj).trans (congrArg Int32.toInt (fI_kept (x_lt hTH1132 kH1255 gkq (by decide))).symm)
      have f1264 : ∀ j : Nat, j ≤ F.toNatClampNeg → vv j = (fI H1255 vq j).toInt := fun j hj => (f1134 j hj).trans (congrArg Int32.toInt (fI_kept (x_lt hTH1132 kH1255 gvq (by decide))).symm)
      have f1265 : ∀ j : Nat, j ≠ x1.toNatClampNeg → fI H1255 fq j = fI s.heap fq j := fun j hj => (fI_kept (x_lt hTH1132 kH1255 gfq (by decide))).trans (f1135 j hj)
      have f1266 : ∀ j : Nat, j ≠ x1.toNatClampNeg → fI H1255 jq j = fI s.heap jq j := fun j hj => (fI_kept (x_lt hTH1132 kH1255 gjq (by decide))).trans (f1136 j hj)
      have f1267 : ∀ j : Nat, j ≠ x1.toNatClampNeg → fI H1255 eq_ j = fI s.heap eq_ j := fun j hj => (fI_kept (x_lt hTH1132 kH1255 geq_ (by decide))).trans (f1137 j hj)
      have m1268 := (m1138).trans (fR_kept (x_lt hTH1132 kH1255 gmq (by decide))).symm
      have m1269 := (m1139).trans (fR_kept (x_lt hTH1132 kH1255 gmq (by decide))).symm
      have m1270 := (m1140).trans (fR_kept (x_lt hTH1132 kH1255 gmq (by decide))).symm
      have m1271 := (m1141).trans (fI_kept (x_lt hTH1132 kH1255 gmq (by decide))).symm
      have m1272 := (fI_kept (x_lt hTH1132 kH1255 gkq (by decide))).trans m1142
      have m1273 := (m1149).trans (fI_kept (x_lt hTH1132 kH1255 gvq (by decide))).symm
      have m1274 := (m1150).trans (fI_kept (x_lt hTH1132 kH1255 gfq (by decide))).symm
      have bx1257 := ty_fi (x := x1257) (k := 7) ex1257 hTH1255 ga0 rg_78 rfl
      have bx1258 := ty_fi (x := x1258) (k := 1) ex1258 hTH1255 ga0 rg_78 rfl
      refine W.eq (g2 := F0 m 44 ls [.int x1256]) rfl ?_
      refine lv_if_ne (tgt := 49) hx hb dX4_jobHead_44 (by decide) (fun c1275 => ?_) (fun c1275 => ?_)
      · have k1276 := i_ne c1275
        refine lv_aload_n hx hb dX4_jobHead_49 rfl (lv_at hl 0 rfl) ?_
        refine x_gr C hTH1255 (ci := 4) (k := 0) rfl inX4 (by decide) wF_X4_12 ga0 rg_78 rfl dX4_jobHead_50 (fun q1277 eq1277 gq1277 => ?_)
        have uq1277 : mq = q1277 := (m1259).trans eq1277.symm
        subst uq1277
        refine x_gr C hTH1255 (ci := 7) (k := 3) rfl inX7 (by decide) wF_X4_122 gmq rg_69 rfl dX4_jobHead_53 (fun q1278 eq1278 gq1278 => ?_)
        have uq1278 : jq = q1278 := (m1269).trans eq1278.symm
        subst uq1278
        refine lv_iload_n hx hb dX4_jobHead_56 rfl (lv_at hl 1 rfl) ?_
        refine lv_aload_n hx hb dX4_jobHead_57 rfl (lv_at hl 0 rfl) ?_
        refine x_gr C hTH1255 (ci := 4) (k := 4) rfl inX4 (by decide) wF_X4_22 ga0 rg_78 rfl dX4_jobHead_58 (fun q1279 eq1279 gq1279 => ?_)
        have uq1279 : vq = q1279 := (m1261).trans eq1279.symm
        subst uq1279
        refine lv_aload_n hx hb dX4_jobHead_61 rfl (lv_at hl 0 rfl) ?_
        refine x_gi C hTH1255 (ci := 4) (k := 7) rfl inX4 (by decide) wF_X4_42 ga0 rg_78 rfl dX4_jobHead_62 (fun x1280 ex1280 bx1280 => ?_)
        have ux1280 : x1257 = x1280 := (ex1257).trans ex1280.symm
        subst ux1280
        refine lv_iconst (v := 1) hx hb dX4_jobHead_65 (by decide) ?_
        refine lv_isub hx hb dX4_jobHead_66 ?_
        refine lv_topi (fun x1281 ex1281 => ?_)
        have tx1281 := i_sub ex1281 (by omega)
        refine x_ai C hTH1255 gvq rg_80 ⟨by omega, by show _ < ((501 : Nat) : Int); omega⟩ dX4_jobHead_67 (fun x1282 ex1282 bx1282 => ?_)
        have qvx1282 : vv x1281.toNatClampNeg = x1282.toInt := (f1264 _ (by have h1 := i_cl (x := x1281) (by omega); have h2 := i_cl (x := F) (by omega); omega)).trans (congrArg Int32.toInt ex1282.symm)
        have cn_x1281 := i_cl (x := x1281) (by omega)
        have cn_tat := i_cl (x := tat) (by omega)
        have qn1283 : vv (tat.toNatClampNeg + 1) = x1282.toInt := by rw [show tat.toNatClampNeg + 1 = x1281.toNatClampNeg by omega]; exact qvx1282
        refine x_iast C hTH1255 hSH1255 gjq rg_72 (by omega) (by show _ < ((16 : Nat) : Int); omega) ⟨by have := i_rng x1282; omega, by have := i_rng x1282; omega⟩ (AE_in gjq (by decide)) dX4_jobHead_68 (fun H1284 locsH1284 hTH1284 hSH1284 wH1284 => ?_)
        have f1285 : ∀ j : Nat, j ≤ F.toNatClampNeg → kk j = (fI H1284 kq j).toInt := fun j hj => (f1263 j hj).trans (congrArg Int32.toInt (Wr.neI wH1284 (Or.inl (G_ne gkq gjq (by decide)))).symm)
        have f1286 : ∀ j : Nat, j ≤ F.toNatClampNeg → vv j = (fI H1284 vq j).toInt := fun j hj => (f1264 j hj).trans (congrArg Int32.toInt (Wr.neI wH1284 (Or.inl (G_ne gvq gjq (by decide)))).symm)
        have f1287 : ∀ j : Nat, j ≠ x1.toNatClampNeg → fI H1284 fq j = fI s.heap fq j := fun j hj => (Wr.neI wH1284 (Or.inl (G_ne gfq gjq (by decide)))).trans (f1265 j hj)
        have f1288 : ∀ j : Nat, j ≠ x1.toNatClampNeg → fI H1284 jq j = fI s.heap jq j := fun j hj => (Wr.neI wH1284 (Or.inr hj)).trans (f1266 j hj)
        have f1289 : ∀ j : Nat, j ≠ x1.toNatClampNeg → fI H1284 eq_ j = fI s.heap eq_ j := fun j hj => (Wr.neI wH1284 (Or.inl (G_ne geq_ gjq (by decide)))).trans (f1267 j hj)
        have m1290 := m1268.trans (Wr.neR wH1284 (Or.inl (G_ne gmq gjq (by decide)))).symm
        have m1291 := m1269.trans (Wr.neR wH1284 (Or.inl (G_ne gmq gjq (by decide)))).symm
        have m1292 := m1270.trans (Wr.neR wH1284 (Or.inl (G_ne gmq gjq (by decide)))).symm
        have m1293 := m1271.trans (Wr.neI wH1284 (Or.inl (G_ne gmq gjq (by decide)))).symm
        have m1294 := (Wr.neI wH1284 (Or.inl (G_ne gkq gjq (by decide)))).trans m1272
        have m1295 := m1273.trans (Wr.neI wH1284 (Or.inl (G_ne gvq gjq (by decide)))).symm
        have m1296 := m1274.trans (Wr.neI wH1284 (Or.inl (G_ne gfq gjq (by decide)))).symm
        have m1297 := m1259.trans (Wr.neR wH1284 (Or.inl (G_ne ga0 gjq (by decide)))).symm
        have m1298 := m1260.trans (Wr.neR wH1284 (Or.inl (G_ne ga0 gjq (by decide)))).symm
        have m1299 := m1261.trans (Wr.neR wH1284 (Or.inl (G_ne ga0 gjq (by decide)))).symm
        have m1300 := m1262.trans (Wr.neI wH1284 (Or.inl (G_ne ga0 gjq (by decide)))).symm
        have m1301 := ex1257.trans (Wr.neI wH1284 (Or.inl (G_ne ga0 gjq (by decide)))).symm
        have m1302 := ex1258.trans (Wr.neI wH1284 (Or.inl (G_ne ga0 gjq (by decide)))).symm
        have m1303 := ex1282.trans (Wr.neI wH1284 (Or.inl (G_ne gvq gjq (by decide)))).symm
        have m1304 := Wr.I wH1284
        have m1304 := m1304.symm
        refine lv_iload_n hx hb dX4_jobHead_69 rfl (lv_at hl 2 rfl) ?_
        refine lv_bipush (v := 6) hx hb dX4_jobHead_70 (by decide) ?_
        refine lv_icmp_ne (tgt := 88) hx hb dX4_jobHead_72 (by decide) (fun c1305 => ?_) (fun c1305 => ?_)
        · have k1306 := i_ne c1305
          refine lv_aload_n hx hb dX4_jobHead_88 rfl (lv_at hl 0 rfl) ?_
          refine lv_iconst (v := 1) hx hb dX4_jobHead_89 (by decide) ?_
          refine lv_bipush (v := 9) hx hb dX4_jobHead_90 (by decide) ?_
          refine x_V (As := [.int 1, .int 9]) (rest := []) C (a_X4_number_e l K G H1284 (1) (9) (F) (x1257) (x1258) (lw) (li) kk vv hTH1284 ga0 gmq m1297 gkq m1298 gvq m1299 m1301 m1302 m1300 m1293 m1294 (by omega) (by omega) f1285 f1286) yo_X4_number wM_X4_119 ⟨⟨by decide, by decide⟩, by decide, by decide⟩ (x_rv C hTH1284 (ci := 4) rfl ga0 rg_78) rfl hl.1 rfl (Nat.le_of_ble_eq_true rfl) dX4_jobHead_92 hSH1284 (AE_sub (fun _ _ => rfl) (by decide) hSH1284.1) (fun vH1307 H1307 locsH1307 pH1307 zH1307 kH1307 hSH1307 => ?_)
          obtain ⟨x1308, x1309, x1310, hvH1307, bx1308, ex1309, ex1310, hrH1307, m1311, m1312, m1313, m1314, hTH1307⟩ := pH1307
          subst hvH1307
          have f1315 : ∀ j : Nat, j ≤ F.toNatClampNeg → kk j = (fI H1307 kq j).toInt := fun j hj => (f1285 j hj).trans (congrArg Int32.toInt (fI_kept (x_lt hTH1284 kH1307 gkq (by decide))).symm)
          have f1316 : ∀ j : Nat, j ≤ F.toNatClampNeg → vv j = (fI H1307 vq j).toInt := fun j hj => (f1286 j hj).trans (congrArg Int32.toInt (fI_kept (x_lt hTH1284 kH1307 gvq (by decide))).symm)
          have f1317 : ∀ j : Nat, j ≠ x1.toNatClampNeg → fI H1307 fq j = fI s.heap fq j := fun j hj => (fI_kept (x_lt hTH1284 kH1307 gfq (by decide))).trans (f1287 j hj)
          have f1318 : ∀ j : Nat, j ≠ x1.toNatClampNeg → fI H1307 jq j = fI s.heap jq j := fun j hj => (fI_kept (x_lt hTH1284 kH1307 gjq (by decide))).trans (f1288 j hj)
          have f1319 : ∀ j : Nat, j ≠ x1.toNatClampNeg → fI H1307 eq_ j = fI s.heap eq_ j := fun j hj => (fI_kept (x_lt hTH1284 kH1307 geq_ (by decide))).trans (f1289 j hj)
          have m1320 := (m1290).trans (fR_kept (x_lt hTH1284 kH1307 gmq (by decide))).symm
          have m1321 := (m1291).trans (fR_kept (x_lt hTH1284 kH1307 gmq (by decide))).symm
          have m1322 := (m1292).trans (fR_kept (x_lt hTH1284 kH1307 gmq (by decide))).symm
          have m1323 := (m1293).trans (fI_kept (x_lt hTH1284 kH1307 gmq (by decide))).symm
          have m1324 := (fI_kept (x_lt hTH1284 kH1307 gkq (by decide))).trans m1294
          have m1325 := (m1295).trans (fI_kept (x_lt hTH1284 kH1307 gvq (by decide))).symm
          have m1326 := (m1296).trans (fI_kept (x_lt hTH1284 kH1307 gfq (by decide))).symm
          have m1327 := (m1303).trans (fI_kept (x_lt hTH1284 kH1307 gvq (by decide))).symm
          have m1328 := (m1304).trans (fI_kept (x_lt hTH1284 kH1307 gjq (by decide))).symm
          have bx1309 := ty_fi (x := x1309) (k := 7) ex1309 hTH1307 ga0 rg_78 rfl
          have bx1310 := ty_fi (x := x1310) (k := 1) ex1310 hTH1307 ga0 rg_78 rfl
          refine W.eq (g2 := F0 m 95 ls [.int x1308]) rfl ?_
          refine lv_if_ne (tgt := 100) hx hb dX4_jobHead_95 (by decide) (fun c1329 => ?_) (fun c1329 => ?_)
          · have k1330 := i_ne c1329
            refine lv_aload_n hx hb dX4_jobHead_100 rfl (lv_at hl 0 rfl) ?_
            refine x_gr C hTH1307 (ci := 4) (k := 0) rfl inX4 (by decide) wF_X4_12 ga0 rg_78 rfl dX4_jobHead_101 (fun q1331 eq1331 gq1331 => ?_)
            have uq1331 : mq = q1331 := (m1311).trans eq1331.symm
            subst uq1331
            refine x_gr C hTH1307 (ci := 7) (k := 4) rfl inX7 (by decide) wF_X4_125 gmq rg_69 rfl dX4_jobHead_104 (fun q1332 eq1332 gq1332 => ?_)
            have uq1332 : eq_ = q1332 := (m1322).trans eq1332.symm
            subst uq1332
            refine lv_iload_n hx hb dX4_jobHead_107 rfl (lv_at hl 1 rfl) ?_
            refine lv_aload_n hx hb dX4_jobHead_108 rfl (lv_at hl 0 rfl) ?_
            refine x_gr C hTH1307 (ci := 4) (k := 4) rfl inX4 (by decide) wF_X4_22 ga0 rg_78 rfl dX4_jobHead_109 (fun q1333 eq1333 gq1333 => ?_)
            have uq1333 : vq = q1333 := (m1313).trans eq1333.symm
            subst uq1333
            refine lv_aload_n hx hb dX4_jobHead_112 rfl (lv_at hl 0 rfl) ?_
            refine x_gi C hTH1307 (ci := 4) (k := 7) rfl inX4 (by decide) wF_X4_42 ga0 rg_78 rfl dX4_jobHead_113 (fun x1334 ex1334 bx1334 => ?_)
            have ux1334 : x1309 = x1334 := (ex1309).trans ex1334.symm
            subst ux1334
            refine lv_iconst (v := 1) hx hb dX4_jobHead_116 (by decide) ?_
            refine lv_isub hx hb dX4_jobHead_117 ?_
            refine lv_topi (fun x1335 ex1335 => ?_)
            have tx1335 := i_sub ex1335 (by omega)
            refine x_ai C hTH1307 gvq rg_80 ⟨by omega, by show _ < ((501 : Nat) : Int); omega⟩ dX4_jobHead_118 (fun x1336 ex1336 bx1336 => ?_)
            have qvx1336 : vv x1335.toNatClampNeg = x1336.toInt := (f1316 _ (by have h1 := i_cl (x := x1335) (by omega); have h2 := i_cl (x := F) (by omega); omega)).trans (congrArg Int32.toInt ex1336.symm)
            have cn_x1335 := i_cl (x := x1335) (by omega)
            have cn_tat := i_cl (x := tat) (by omega)
            have qn1337 : vv (tat.toNatClampNeg + 2) = x1336.toInt := by rw [show tat.toNatClampNeg + 2 = x1335.toNatClampNeg by omega]; exact qvx1336
            refine x_iast C hTH1307 hSH1307 geq_ rg_73 (by omega) (by show _ < ((16 : Nat) : Int); omega) ⟨by have := i_rng x1336; omega, by have := i_rng x1336; omega⟩ (AE_in geq_ (by decide)) dX4_jobHead_119 (fun H1338 locsH1338 hTH1338 hSH1338 wH1338 => ?_)
            have f1339 : ∀ j : Nat, j ≤ F.toNatClampNeg → kk j = (fI H1338 kq j).toInt := fun j hj => (f1315 j hj).trans (congrArg Int32.toInt (Wr.neI wH1338 (Or.inl (G_ne gkq geq_ (by decide)))).symm)
            have f1340 : ∀ j : Nat, j ≤ F.toNatClampNeg → vv j = (fI H1338 vq j).toInt := fun j hj => (f1316 j hj).trans (congrArg Int32.toInt (Wr.neI wH1338 (Or.inl (G_ne gvq geq_ (by decide)))).symm)
            have f1341 : ∀ j : Nat, j ≠ x1.toNatClampNeg → fI H1338 fq j = fI s.heap fq j := fun j hj => (Wr.neI wH1338 (Or.inl (G_ne gfq geq_ (by decide)))).trans (f1317 j hj)
            have f1342 : ∀ j : Nat, j ≠ x1.toNatClampNeg → fI H1338 jq j = fI s.heap jq j := fun j hj => (Wr.neI wH1338 (Or.inl (G_ne gjq geq_ (by decide)))).trans (f1318 j hj)
            have f1343 : ∀ j : Nat, j ≠ x1.toNatClampNeg → fI H1338 eq_ j = fI s.heap eq_ j := fun j hj => (Wr.neI wH1338 (Or.inr hj)).trans (f1319 j hj)
            have m1344 := m1320.trans (Wr.neR wH1338 (Or.inl (G_ne gmq geq_ (by decide)))).symm
            have m1345 := m1321.trans (Wr.neR wH1338 (Or.inl (G_ne gmq geq_ (by decide)))).symm
            have m1346 := m1322.trans (Wr.neR wH1338 (Or.inl (G_ne gmq geq_ (by decide)))).symm
            have m1347 := m1323.trans (Wr.neI wH1338 (Or.inl (G_ne gmq geq_ (by decide)))).symm
            have m1348 := (Wr.neI wH1338 (Or.inl (G_ne gkq geq_ (by decide)))).trans m1324
            have m1349 := m1325.trans (Wr.neI wH1338 (Or.inl (G_ne gvq geq_ (by decide)))).symm
            have m1350 := m1326.trans (Wr.neI wH1338 (Or.inl (G_ne gfq geq_ (by decide)))).symm
            have m1351 := m1327.trans (Wr.neI wH1338 (Or.inl (G_ne gvq geq_ (by decide)))).symm
            have m1352 := m1328.trans (Wr.neI wH1338 (Or.inl (G_ne gjq geq_ (by decide)))).symm
            have m1353 := m1311.trans (Wr.neR wH1338 (Or.inl (G_ne ga0 geq_ (by decide)))).symm
            have m1354 := m1312.trans (Wr.neR wH1338 (Or.inl (G_ne ga0 geq_ (by decide)))).symm
            have m1355 := m1313.trans (Wr.neR wH1338 (Or.inl (G_ne ga0 geq_ (by decide)))).symm
            have m1356 := m1314.trans (Wr.neI wH1338 (Or.inl (G_ne ga0 geq_ (by decide)))).symm
            have m1357 := ex1309.trans (Wr.neI wH1338 (Or.inl (G_ne ga0 geq_ (by decide)))).symm
            have m1358 := ex1310.trans (Wr.neI wH1338 (Or.inl (G_ne ga0 geq_ (by decide)))).symm
            have m1359 := ex1336.trans (Wr.neI wH1338 (Or.inl (G_ne gvq geq_ (by decide)))).symm
            have m1360 := Wr.I wH1338
            have m1360 := m1360.symm
            refine lv_iconst (v := 1) hx hb dX4_jobHead_120 (by decide) ?_
            have cn_F := i_cl (x := F) (by omega)
            have cn_tat := i_cl (x := tat) (by omega)
            have cn_x1309 := i_cl (x := x1309) (by omega)
            have cn_tat := i_cl (x := tat) (by omega)
            have cn_x1107 := i_cl (x := x1107) (by omega)
            have cn_x1107 := i_cl (x := x1107) (by omega)
            have cn_x1257 := i_cl (x := x1257) (by omega)
            have cn_x1257 := i_cl (x := x1257) (by omega)
            have cn_x1309 := i_cl (x := x1309) (by omega)
            exact x_zret C hQ (Or.inr rfl) dX4_jobHead_121 hSH1338 (by decide) (by decide) (⟨1, x1309, x1310, rfl, by decide, m1357, m1358, by omega, m1353, m1354, m1355, m1356, Or.inr ⟨(hj_go (nm_y (by omega) (show x1107.toNatClampNeg = _ + 1 by omega)) (Or.inl ⟨by omega, nm_y (by omega) (show x1257.toNatClampNeg = _ + 1 by omega)⟩)).trans ((if_neg (by omega)).trans (nm_y (by omega) (show x1309.toNatClampNeg = _ + 1 by omega))), by omega⟩, (Or.inr ⟨by rw [← m1350]; exact qn1131.symm, fun _ => by rw [← m1352]; exact qn1283.symm, by rw [if_pos (by omega), ← m1360]; exact qn1337.symm⟩), f1341, f1342, f1343, hTH1338⟩)
          · have k1330 := i_eq c1329
            refine lv_iconst (v := 0) hx hb dX4_jobHead_98 (by decide) ?_
            have cn_F := i_cl (x := F) (by omega)
            have cn_tat := i_cl (x := tat) (by omega)
            have cn_x1309 := i_cl (x := x1309) (by omega)
            have cn_tat := i_cl (x := tat) (by omega)
            have cn_x1107 := i_cl (x := x1107) (by omega)
            have cn_x1107 := i_cl (x := x1107) (by omega)
            have cn_x1257 := i_cl (x := x1257) (by omega)
            have cn_x1257 := i_cl (x := x1257) (by omega)
            have cn_x1309 := i_cl (x := x1309) (by omega)
            exact x_zret C hQ (Or.inl rfl) dX4_jobHead_99 hSH1307 (by decide) (by decide) (⟨0, x1309, x1310, rfl, by decide, ex1309, ex1310, by omega, m1311, m1312, m1313, m1314, Or.inl ⟨(hj_go (nm_y (by omega) (show x1107.toNatClampNeg = _ + 1 by omega)) (Or.inl ⟨by omega, nm_y (by omega) (show x1257.toNatClampNeg = _ + 1 by omega)⟩)).trans ((if_neg (by omega)).trans (nm_n (by omega))), by omega⟩, (Or.inl (by rfl)), f1317, f1318, f1319, hTH1307⟩)
        · have k1306 := i_eq c1305
          exfalso
          omega
      · have k1276 := i_eq c1275
        refine lv_iconst (v := 0) hx hb dX4_jobHead_47 (by decide) ?_
        have cn_F := i_cl (x := F) (by omega)
        have cn_tat := i_cl (x := tat) (by omega)
        have cn_x1257 := i_cl (x := x1257) (by omega)
        have cn_tat := i_cl (x := tat) (by omega)
        have cn_x1107 := i_cl (x := x1107) (by omega)
        have cn_x1107 := i_cl (x := x1107) (by omega)
        have cn_x1257 := i_cl (x := x1257) (by omega)
        exact x_zret C hQ (Or.inl rfl) dX4_jobHead_48 hSH1255 (by decide) (by decide) (⟨0, x1257, x1258, rfl, by decide, ex1257, ex1258, by omega, m1259, m1260, m1261, m1262, Or.inl ⟨hj_no2 (nm_y (by omega) (show x1107.toNatClampNeg = _ + 1 by omega)) (by omega) (nm_n (by omega)), by omega⟩, (Or.inl (by rfl)), f1265, f1266, f1267, hTH1255⟩)
  · have k1124 := i_eq c1123
    refine lv_iconst (v := 0) hx hb dX4_jobHead_10 (by decide) ?_
    have cn_F := i_cl (x := F) (by omega)
    have cn_tat := i_cl (x := tat) (by omega)
    have cn_x1107 := i_cl (x := x1107) (by omega)
    have cn_tat := i_cl (x := tat) (by omega)
    have cn_x1107 := i_cl (x := x1107) (by omega)
    exact x_zret C hQ (Or.inl rfl) dX4_jobHead_11 hSH1105 (by decide) (by decide) (⟨0, x1107, x1108, rfl, by decide, ex1107, ex1108, by omega, m1109, m1110, m1111, m1112, Or.inl ⟨hj_no1 (nm_n (by omega)), by omega⟩, (Or.inl (by rfl)), f1115, f1116, f1117, hTH1105⟩)
