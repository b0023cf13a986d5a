set_option maxRecDepth 100000 in
set_option maxHeartbeats 8000000 in
theorem lw_c6 {p : Program} {l : Launch} {e : Env} {s : State} {m : MethodId} {below : List Frame} {meth : Method} {c : Code} {K : KE} {b0 L : Nat} {xs : Nat → Int32} {G : Nat → Option Nat} {H : Heap} {locs : List Loc} {a b : Nat} {cells slots : Nat} {ls : Array Slot} {i : Int32} {n : Nat} (D : LC p K s m meth c b0 L xs) (S : SX K s G H locs a b) (hl : lv_has ls 4 [(3, .int i), (2, .ref b), (1, .ref a), (0, .ref b0)]) (hi : 0 ≤ i.toInt ∧ i.toInt + 6 ≤ L) (hn : n ≤ 511) (hB : BD K H a cells slots) (nx : ∀ (G : Nat → Option Nat) (H : Heap) (locs : List Loc) (cells slots : Nat) (ls : Array Slot), SX K s G H locs a b → lv_has ls 4 [(3, .int i), (2, .ref b), (1, .ref a), (0, .ref b0)] → BD K H a cells slots → W p l e room_1 s m #[Value.ref b0] below meth c H locs cells slots (lw_Z below #[Value.ref b0] s) (F0 m 1509 ls [])) : W p l e room_1 s m #[Value.ref b0] below meth c H locs cells slots (lw_Z below #[Value.ref b0] s) (F0 m 446 ls []) := by
  have hI := hi
  obtain ⟨C, hX, hbl, hL⟩ := id D
  obtain ⟨hx, hb, hml, hown, hts, hKT, hr, hlocks, hnm⟩ := id C
  obtain ⟨hT, hN, ga, gb, cg, tu, wd, im, ⟨rt, r1, r4, r5, r10, r13, r16⟩, hk, htb, her, hS⟩ := S
  obtain ⟨hc, hs, hB0⟩ := hB
  have n_1 : (1 : Int32).toInt = 1 := rfl
  have n_2 : (2 : Int32).toInt = 2 := rfl
  obtain ⟨w, ew⟩ : ∃ z : Nat, z = fR H a (K.1.2 9 0) := ⟨_, rfl⟩
  have gw := ty_fr (q := w) (k := 0) (u := 0) ew hT ga rg_68 rfl
  rw [← ew] at r1 r4 r5 r10 r13 r16
  obtain ⟨ta, eta⟩ : ∃ z : Int32, z = fI H a (K.1.2 9 3) := ⟨_, rfl⟩
  rw [← eta] at rt
  obtain ⟨tb, etb⟩ : ∃ z : Int32, z = fI H b (K.1.2 10 18) := ⟨_, rfl⟩
  rw [← etb] at rt
  obtain ⟨s1, es1⟩ : ∃ z : Int32, z = fI H w (K.1.2 8 1) := ⟨_, rfl⟩
  rw [← es1] at r1
  obtain ⟨y1, ey1⟩ : ∃ z : Int32, z = fI H b (K.1.2 10 1) := ⟨_, rfl⟩
  rw [← ey1] at r1
  obtain ⟨s4, es4⟩ : ∃ z : Int32, z = fI H w (K.1.2 8 4) := ⟨_, rfl⟩
  rw [← es4] at r4
  obtain ⟨y4, ey4⟩ : ∃ z : Int32, z = fI H b (K.1.2 10 2) := ⟨_, rfl⟩
  rw [← ey4] at r4
  obtain ⟨s5, es5⟩ : ∃ z : Int32, z = fI H w (K.1.2 8 5) := ⟨_, rfl⟩
  rw [← es5] at r5
  obtain ⟨y5, ey5⟩ : ∃ z : Int32, z = fI H b (K.1.2 10 3) := ⟨_, rfl⟩
  rw [← ey5] at r5
  obtain ⟨s10, es10⟩ : ∃ z : Int32, z = fI H w (K.1.2 8 10) := ⟨_, rfl⟩
  rw [← es10] at r10
  obtain ⟨y10, ey10⟩ : ∃ z : Int32, z = fI H b (K.1.2 10 59) := ⟨_, rfl⟩
  rw [← ey10] at r10
  obtain ⟨s13, es13⟩ : ∃ z : Int32, z = fI H w (K.1.2 8 13) := ⟨_, rfl⟩
  rw [← es13] at r13
  obtain ⟨y13, ey13⟩ : ∃ z : Int32, z = fI H b (K.1.2 10 62) := ⟨_, rfl⟩
  rw [← ey13] at r13
  obtain ⟨s16, es16⟩ : ∃ z : Int32, z = fI H w (K.1.2 8 16) := ⟨_, rfl⟩
  rw [← es16] at r16
  obtain ⟨y16, ey16⟩ : ∃ z : Int32, z = fI H b (K.1.2 10 65) := ⟨_, rfl⟩
  rw [← ey16] at r16
  obtain ⟨tq, etq⟩ : ∃ z : Nat, z = fR H a (K.1.2 9 2) := ⟨_, rfl⟩
  have gtq := ty_fr (q := tq) (k := 2) (u := 108) etq hT ga rg_68 rfl
  obtain ⟨uq, euq⟩ : ∃ z : Nat, z = fR H b (K.1.2 10 17) := ⟨_, rfl⟩
  have guq := ty_fr (q := uq) (k := 17) (u := 126) euq hT gb rg_112 rfl
  have htr : TBR (fun j => fI H tq j) (fun j => fI H uq j) tb.toNatClampNeg := by rw [etq, euq, etb]; exact htb
  have ft0 : ∀ j : Nat, fI H tq j = fI H tq j := fun _ => rfl
  have fu0 : ∀ j : Nat, fI H uq j = fI H uq j := fun _ => rfl
  have bta := ty_fi (x := ta) (k := 3) eta hT ga rg_68 rfl
  have cta := i_cl (x := ta) (by omega)
  have btb := ty_fi (x := tb) (k := 18) etb hT gb rg_112 rfl
  have ctb := i_cl (x := tb) (by omega)
  obtain ⟨her0, hsl1, hsl2⟩ := her
  have hsl0 := And.intro hsl1 hsl2
  clear hsl1 hsl2
  rw [← ew] at her0 hsl0
  have re : RE K H w b s1.toInt := RE.cast her0 (by rw [← ey1]; exact r1)
  have hsl : 0 ≤ s5.toInt ∧ s5.toInt ≤ 9999 := by rw [es5]; exact hsl0
  clear her0 hsl0
  have bt_s1 := ty_fi (x := s1) (k := 1) es1 hT gw rg_0 rfl
  have bt_s4 := ty_fi (x := s4) (k := 4) es4 hT gw rg_0 rfl
  have bt_y1 := ty_fi (x := y1) (k := 1) ey1 hT gb rg_112 rfl
  have bt_y4 := ty_fi (x := y4) (k := 2) ey4 hT gb rg_112 rfl
  rcases hk with ⟨kn, h70⟩ | ⟨kq, kn, gkq, h70, q1, q4, q5, q10, q13, q16, rke, ks1, ks2⟩
  · skip
    obtain ⟨hi, ehi⟩ : ∃ z : Int32, z = fI H b (K.1.2 10 70) := ⟨_, rfl⟩
    rw [← ehi] at h70
    obtain ⟨hc0, hs0⟩ := hB0 kn
    obtain ⟨iq, eiq⟩ : ∃ z : Nat, z = fR H b (K.1.2 10 73) := ⟨_, rfl⟩
    have giq := ty_fr (q := iq) (k := 73) (u := 162) eiq hT gb rg_112 rfl
    refine lv_aload_n hx hb dL_law_446 rfl (lv_at hl 2 rfl) ?_
    refine lv_aload_n hx hb dL_law_447 rfl (lv_at hl 3 rfl) ?_
    refine lv_iload_n hx hb dL_law_448 rfl (lv_at hl 0 rfl) ?_
    refine lv_iconst (v := 1) hx hb dL_law_449 (by decide) ?_
    refine lv_iadd hx hb dL_law_450 ?_
    refine lv_topi (fun x101 ex101 => ?_)
    obtain ⟨tx101, ejx101, evx101⟩ := lw_ix (k := 1) ex101 hI hL rfl (by decide)
    clear tx101
    refine va_sld hx hb hX hbl (Nat.not_le.mpr hbl) hS (vp_in_iff.mpr evx101) dL_law_451 ?_
    refine W.eq (g2 := F0 m 452 ls [.int (xs (i.toNatClampNeg + 1)), .ref a]) (congrArg (fun z => F0 m 452 ls [.int (xs z), .ref a]) ejx101) ?_
    refine lv_aload_n hx hb dL_law_452 rfl (lv_at hl 3 rfl) ?_
    refine lv_iload_n hx hb dL_law_453 rfl (lv_at hl 0 rfl) ?_
    refine lv_iconst (v := 2) hx hb dL_law_454 (by decide) ?_
    refine lv_iadd hx hb dL_law_455 ?_
    refine lv_topi (fun x102 ex102 => ?_)
    obtain ⟨tx102, ejx102, evx102⟩ := lw_ix (k := 2) ex102 hI hL rfl (by decide)
    clear tx102
    refine va_sld hx hb hX hbl (Nat.not_le.mpr hbl) hS (vp_in_iff.mpr evx102) dL_law_456 ?_
    refine W.eq (g2 := F0 m 457 ls [.int (xs (i.toNatClampNeg + 2)), .int (xs (i.toNatClampNeg + 1)), .ref a]) (congrArg (fun z => F0 m 457 ls [.int (xs z), .int (xs (i.toNatClampNeg + 1)), .ref a]) ejx102) ?_
    have sp103 : ((xs (i.toNatClampNeg + 1)).toInt = 0 ∧ 0 ≤ (xs (i.toNatClampNeg + 2)).toInt ∧ (xs (i.toNatClampNeg + 2)).toInt ≤ 1) ∨ ((xs (i.toNatClampNeg + 1)).toInt = 1 ∧ 0 ≤ (xs (i.toNatClampNeg + 2)).toInt ∧ (xs (i.toNatClampNeg + 2)).toInt ≤ 3) ∨ (((xs (i.toNatClampNeg + 1)).toInt ≠ 0 ∨ (xs (i.toNatClampNeg + 2)).toInt < 0 ∨ 2 ≤ (xs (i.toNatClampNeg + 2)).toInt) ∧ ((xs (i.toNatClampNeg + 1)).toInt ≠ 1 ∨ (xs (i.toNatClampNeg + 2)).toInt < 0 ∨ 4 ≤ (xs (i.toNatClampNeg + 2)).toInt)) := by omega
    rcases sp103 with hsp | hsp | hsp
    · skip
      have bt104 : ∀ j : Nat, (fun j => (fI H tq j).toInt) j = (fI H tq j).toInt := fun _ => rfl
      have cte := i_cl (x := (xs (i.toNatClampNeg + 2))) (by omega)
      obtain ⟨lq_, elq_⟩ : ∃ z : Nat, z = fR H w (K.1.2 8 2) := ⟨_, rfl⟩
      have glq_ := ty_fr (q := lq_) (k := 2) (u := 26) elq_ hT gw rg_0 rfl
      obtain ⟨tx_, etx_⟩ : ∃ z : Nat, z = fR H lq_ ((xs (i.toNatClampNeg + 2)) : Int32).toNatClampNeg := ⟨_, rfl⟩
      have eow_ : ow K H w (10 + ((xs (i.toNatClampNeg + 2)) : Int32).toNatClampNeg) = tx_ := by rw [ow_l (by omega), ← elq_, ← etx_]
      have gtx_ : G tx_ = some 16 := by rw [← eow_]; exact ow_t hT gw (by omega) (by omega)
      obtain ⟨xr1, exr1⟩ : ∃ z : Nat, z = fR H tx_ (K.1.2 7 1) := ⟨_, rfl⟩
      have gxr1 := ty_fr (q := xr1) (k := 1) (u := 17) exr1 hT gtx_ rg_16 rfl
      obtain ⟨xr2, exr2⟩ : ∃ z : Nat, z = fR H tx_ (K.1.2 7 2) := ⟨_, rfl⟩
      have gxr2 := ty_fr (q := xr2) (k := 2) (u := 18) exr2 hT gtx_ rg_16 rfl
      obtain ⟨xr3, exr3⟩ : ∃ z : Nat, z = fR H tx_ (K.1.2 7 3) := ⟨_, rfl⟩
      have gxr3 := ty_fr (q := xr3) (k := 3) (u := 19) exr3 hT gtx_ rg_16 rfl
      obtain ⟨xr4, exr4⟩ : ∃ z : Nat, z = fR H tx_ (K.1.2 7 4) := ⟨_, rfl⟩
      have gxr4 := ty_fr (q := xr4) (k := 4) (u := 20) exr4 hT gtx_ rg_16 rfl
      obtain ⟨xr5, exr5⟩ : ∃ z : Nat, z = fR H tx_ (K.1.2 7 5) := ⟨_, rfl⟩
      have gxr5 := ty_fr (q := xr5) (k := 5) (u := 21) exr5 hT gtx_ rg_16 rfl
      obtain ⟨xr6, exr6⟩ : ∃ z : Nat, z = fR H tx_ (K.1.2 7 6) := ⟨_, rfl⟩
      have gxr6 := ty_fr (q := xr6) (k := 6) (u := 22) exr6 hT gtx_ rg_16 rfl
      obtain ⟨xr7, exr7⟩ : ∃ z : Nat, z = fR H tx_ (K.1.2 7 7) := ⟨_, rfl⟩
      have gxr7 := ty_fr (q := xr7) (k := 7) (u := 23) exr7 hT gtx_ rg_16 rfl
      obtain ⟨xr8, exr8⟩ : ∃ z : Nat, z = fR H tx_ (K.1.2 7 8) := ⟨_, rfl⟩
      have gxr8 := ty_fr (q := xr8) (k := 8) (u := 24) exr8 hT gtx_ rg_16 rfl
      obtain ⟨q105, eq105⟩ : ∃ z : Nat, @Eq Ad z (fR H a (K.1.2 9 4)) := ⟨_, rfl⟩
      have gq105 := ty_fr (q := q105) (k := 4) (u := 78) eq105 hT ga rg_68 rfl
      obtain ⟨q106, eq106⟩ : ∃ z : Nat, @Eq Ad z (fR H q105 (K.1.2 4 0)) := ⟨_, rfl⟩
      have gq106 := ty_fr (q := q106) (k := 0) (u := 69) eq106 hT gq105 rg_78 rfl
      obtain ⟨q107, eq107⟩ : ∃ z : Nat, @Eq Ad z (fR H q105 (K.1.2 4 3)) := ⟨_, rfl⟩
      have gq107 := ty_fr (q := q107) (k := 3) (u := 79) eq107 hT gq105 rg_78 rfl
      obtain ⟨q108, eq108⟩ : ∃ z : Nat, @Eq Ad z (fR H q105 (K.1.2 4 4)) := ⟨_, rfl⟩
      have gq108 := ty_fr (q := q108) (k := 4) (u := 80) eq108 hT gq105 rg_78 rfl
      obtain ⟨q109, eq109⟩ : ∃ z : Nat, @Eq Ad z (fR H q106 (K.1.2 7 1)) := ⟨_, rfl⟩
      have gq109 := ty_fr (q := q109) (k := 1) (u := 70) eq109 hT gq106 rg_69 rfl
      obtain ⟨q110, eq110⟩ : ∃ z : Nat, @Eq Ad z (fR H q106 (K.1.2 7 2)) := ⟨_, rfl⟩
      have gq110 := ty_fr (q := q110) (k := 2) (u := 71) eq110 hT gq106 rg_69 rfl
      obtain ⟨q111, eq111⟩ : ∃ z : Nat, @Eq Ad z (fR H q106 (K.1.2 7 3)) := ⟨_, rfl⟩
      have gq111 := ty_fr (q := q111) (k := 3) (u := 72) eq111 hT gq106 rg_69 rfl
      obtain ⟨q112, eq112⟩ : ∃ z : Nat, @Eq Ad z (fR H q106 (K.1.2 7 4)) := ⟨_, rfl⟩
      have gq112 := ty_fr (q := q112) (k := 4) (u := 73) eq112 hT gq106 rg_69 rfl
      obtain ⟨q113, eq113⟩ : ∃ z : Nat, @Eq Ad z (fR H q106 (K.1.2 7 5)) := ⟨_, rfl⟩
      have gq113 := ty_fr (q := q113) (k := 5) (u := 74) eq113 hT gq106 rg_69 rfl
      obtain ⟨q114, eq114⟩ : ∃ z : Nat, @Eq Ad z (fR H q106 (K.1.2 7 6)) := ⟨_, rfl⟩
      have gq114 := ty_fr (q := q114) (k := 6) (u := 75) eq114 hT gq106 rg_69 rfl
      obtain ⟨q115, eq115⟩ : ∃ z : Nat, @Eq Ad z (fR H q106 (K.1.2 7 7)) := ⟨_, rfl⟩
      have gq115 := ty_fr (q := q115) (k := 7) (u := 76) eq115 hT gq106 rg_69 rfl
      obtain ⟨q116, eq116⟩ : ∃ z : Nat, @Eq Ad z (fR H q106 (K.1.2 7 8)) := ⟨_, rfl⟩
      have gq116 := ty_fr (q := q116) (k := 8) (u := 77) eq116 hT gq106 rg_69 rfl
      obtain ⟨x117, ex117⟩ : ∃ z : Int32, z = fI H q105 (K.1.2 4 7) := ⟨_, rfl⟩
      have bx117 := ty_fi (x := x117) (k := 7) ex117 hT gq105 rg_78 rfl
      obtain ⟨x118, ex118⟩ : ∃ z : Int32, z = fI H q105 (K.1.2 4 1) := ⟨_, rfl⟩
      have bx118 := ty_fi (x := x118) (k := 1) ex118 hT gq105 rg_78 rfl
      obtain ⟨x119, ex119⟩ : ∃ z : Int32, z = fI H q106 (K.1.2 7 0) := ⟨_, rfl⟩
      have bx119 := ty_fi (x := x119) (k := 0) ex119 hT gq106 rg_69 rfl
      obtain ⟨x120, ex120⟩ : ∃ z : Int32, z = fI H q105 (K.1.2 4 8) := ⟨_, rfl⟩
      have bx120 := ty_fi (x := x120) (k := 8) ex120 hT gq105 rg_78 rfl
      obtain ⟨x121, ex121⟩ : ∃ z : Int32, z = fI H q106 (K.1.2 7 9) := ⟨_, rfl⟩
      have bx121 := ty_fi (x := x121) (k := 9) ex121 hT gq106 rg_69 rfl
      refine x_V (As := [.int (xs (i.toNatClampNeg + 1)), .int (xs (i.toNatClampNeg + 2))]) (rest := []) C (a_X9_text_l l K G H ((xs (i.toNatClampNeg + 1))) ((xs (i.toNatClampNeg + 2))) (ta) (x117) (x118) (x119) (x120) (x121) (s1) (s4) (s5) (s10) (s13) (s16) (fun j => (fI H tq j).toInt) hT ga (by omega) (by omega) gw ew glq_ elq_ gtx_ etx_ gq105 eq105 gtq etq gq106 eq106 gq107 eq107 gq108 eq108 gq109 eq109 gq110 eq110 gq111 eq111 gq112 eq112 gq113 eq113 gq114 eq114 gq115 eq115 gq116 eq116 gxr1 exr1 gxr2 exr2 gxr3 exr3 gxr4 exr4 gxr5 exr5 gxr6 exr6 gxr7 exr7 gxr8 exr8 eta ex117 ex118 ex119 ex120 ex121 es1 es4 es5 es10 es13 es16 kn bt104) yo_X9_text wM_L_43 ⟨⟨by decide, by decide⟩, show _ ≤ 60000 from Nat.le_trans hc (by decide), show _ ≤ 8922250 from Nat.le_trans hs (by decide)⟩ (x_rv C hT (ci := 9) rfl ga rg_68) rfl hl.1 rfl (Nat.le_of_ble_eq_true rfl) dL_law_457 hS (AE_new hN hS.1) (fun vH122 H122 locsH122 pH122 zH122 kH122 hSH122 => ?_)
      obtain ⟨x123, x124, x125, x126, x127, x128, x129, hvH122, ex124, ex125, ex126, ex127, ex128, ex129, hrH122, m130, m131, m132, m133, m134, m135, m136, m137, m138, m139, m140, m141, m142, m143, m144, m145, m146, m147, m148, m149, m150, m151, m152, m153, m154, m155, m156, m157, m158, m159, m160, m161, m162, m163, m164, hTH122⟩ := pH122
      subst hvH122
      have g165 : CG (avw K H122 b) := CG.congr (fun k hk j => av_eff hT kH122 gb (by decide) (CG_eff [68, 0, 78, 79, 80, 81, 69, 70, 71, 72, 73, 74, 75, 76, 77, 16, 17, 18, 19, 20, 21, 22, 23, 24] (by decide) k hk)) cg
      have g166 : TU (avw K H122 b) (svw K H122 b) := TU.congr (fun k hk j => av_eff hT kH122 gb (by decide) (TU_eff [68, 0, 78, 79, 80, 81, 69, 70, 71, 72, 73, 74, 75, 76, 77, 16, 17, 18, 19, 20, 21, 22, 23, 24] (by decide) k hk)) (fun k hk => sv_eff hT kH122 gb (by decide)) tu
      have g167 : WD (avw K H122 b) := WD.congr (fun k hk j => av_eff hT kH122 gb (by decide) (WD_eff [68, 0, 78, 79, 80, 81, 69, 70, 71, 72, 73, 74, 75, 76, 77, 16, 17, 18, 19, 20, 21, 22, 23, 24] (by decide) k hk)) wd
      have g168 : IM (avw K H122 b) := IM.congr (fun k hk j => av_eff hT kH122 gb (by decide) (IM_eff [68, 0, 78, 79, 80, 81, 69, 70, 71, 72, 73, 74, 75, 76, 77, 16, 17, 18, 19, 20, 21, 22, 23, 24] (by decide) k hk)) im
      have f169 : ∀ j : Nat, fI H122 tq j = fI H tq j := fun j => (fI_kept (x_lt hT kH122 gtq (by decide))).trans (ft0 j)
      have f170 : ∀ j : Nat, fI H122 uq j = fI H uq j := fun j => (fI_kept (x_lt hT kH122 guq (by decide))).trans (fu0 j)
      have f171 : ∀ j : Nat, (fun j => (fI H tq j).toInt) j = (fI H122 tq j).toInt := fun j => (bt104 j).trans (congrArg Int32.toInt (fI_kept (x_lt hT kH122 gtq (by decide))).symm)
      have m172 := (etb).trans (fI_kept (x_lt hT kH122 gb (by decide))).symm
      have m173 := (ey1).trans (fI_kept (x_lt hT kH122 gb (by decide))).symm
      have m174 := (ey4).trans (fI_kept (x_lt hT kH122 gb (by decide))).symm
      have m175 := (ey5).trans (fI_kept (x_lt hT kH122 gb (by decide))).symm
      have m176 := (ey10).trans (fI_kept (x_lt hT kH122 gb (by decide))).symm
      have m177 := (ey13).trans (fI_kept (x_lt hT kH122 gb (by decide))).symm
      have m178 := (ey16).trans (fI_kept (x_lt hT kH122 gb (by decide))).symm
      have m179 := (euq).trans (fR_kept (x_lt hT kH122 gb (by decide))).symm
      have m180 := (ehi).trans (fI_kept (x_lt hT kH122 gb (by decide))).symm
      have m181 := (eiq).trans (fR_kept (x_lt hT kH122 gb (by decide))).symm
      have m182 := (etx_).trans (fR_kept (x_lt hT kH122 glq_ (by decide))).symm
      have bx124 := ty_fi (x := x124) (k := 3) ex124 hTH122 ga rg_68 rfl
      have bx125 := ty_fi (x := x125) (k := 7) ex125 hTH122 gq105 rg_78 rfl
      have bx126 := ty_fi (x := x126) (k := 1) ex126 hTH122 gq105 rg_78 rfl
      have bx127 := ty_fi (x := x127) (k := 0) ex127 hTH122 gq106 rg_69 rfl
      have bx128 := ty_fi (x := x128) (k := 8) ex128 hTH122 gq105 rg_78 rfl
      have bx129 := ty_fi (x := x129) (k := 9) ex129 hTH122 gq106 rg_69 rfl
      refine W.eq (g2 := F0 m 460 ls [.int x123]) rfl ?_
      have rt_ : RFT K H122 H tx_ := fun k h1 h8 => by have z : k = 1 ∨ k = 2 ∨ k = 3 ∨ k = 4 ∨ k = 5 ∨ k = 6 ∨ k = 7 ∨ k = 8 := (by omega); rcases z with rfl | rfl | rfl | rfl | rfl | rfl | rfl | rfl; exact (m145).symm.trans exr1; exact (m146).symm.trans exr2; exact (m147).symm.trans exr3; exact (m148).symm.trans exr4; exact (m149).symm.trans exr5; exact (m150).symm.trans exr6; exact (m151).symm.trans exr7; exact (m152).symm.trans exr8
      obtain ⟨trf, tbs, tow, tot⟩ := text_one (H1 := H122) re.1 hT gw (j := 10 + ((xs (i.toNatClampNeg + 2)) : Int32).toNatClampNeg) (by omega) eow_ m163 rt_ (fun q t hq ht n1 n2 => m161 q t hq (by omega) (by omega) (by omega) (by omega) (by omega) (by omega) (by omega) (by omega) (by omega) (by omega) (by omega) (by omega) (by omega) (by omega) (by omega) n1 (by rw [exr1]; exact n2 1 (by decide)) (by rw [exr2]; exact n2 2 (by decide)) (by rw [exr3]; exact n2 3 (by decide)) (by rw [exr4]; exact n2 4 (by decide)) (by rw [exr5]; exact n2 5 (by decide)) (by rw [exr6]; exact n2 6 (by decide)) (by rw [exr7]; exact n2 7 (by decide)) (by rw [exr8]; exact n2 8 (by decide)))
      have ty_ : HD (x123.toInt = -1 → TPK (TXP K H122 w) (TXP K H w)) := HD.mk (fun h => TXP.kept hT gw trf (fun q t hq ht => (m162.resolve_left (fun z => z h)) q t hq (by omega) (by omega) (by omega) (by omega) (by omega) (by omega) (by omega) (by omega) (by omega) (by omega) (by omega) (by omega) (by omega) (by omega) (by omega)))
      have er1 : ∀ bar, vrN K H122 b bar = vrN K H b bar := vrN.reg hT gb (fun k _ => fR_kept (x_lt hT kH122 gb (by first | exact nmr ht (by decide) | exact nmo ht (by decide) | exact nme ht (by decide) | exact nmq ht (by decide) | decide | (intro z; simp only [List.mem_cons, List.not_mem_nil, or_false] at z <;> omega) | omega))) (fun q t hq ht => x_lt hT kH122 hq (by first | exact nmr ht (by decide) | exact nmo ht (by decide) | exact nme ht (by decide) | exact nmq ht (by decide) | decide | (intro z; simp only [List.mem_cons, List.not_mem_nil, or_false] at z <;> omega) | omega))
      have tr1 : TPK (TRP K H122 b) (TRP K H b) := TRP.reg hT gb (fun k _ _ => fR_kept (x_lt hT kH122 gb (by first | exact nmr ht (by decide) | exact nmo ht (by decide) | exact nme ht (by decide) | exact nmq ht (by decide) | decide | (intro z; simp only [List.mem_cons, List.not_mem_nil, or_false] at z <;> omega) | omega))) (fun q t hq ht => x_lt hT kH122 hq (by first | exact nmr ht (by decide) | exact nmo ht (by decide) | exact nme ht (by decide) | exact nmq ht (by decide) | decide | (intro z; simp only [List.mem_cons, List.not_mem_nil, or_false] at z <;> omega) | omega))
      refine lv_pop hx hb dL_law_460 rfl ?_
      refine lv_aload_n hx hb dL_law_461 rfl (lv_at hl 1 rfl) ?_
      refine lv_aload_n hx hb dL_law_462 rfl (lv_at hl 3 rfl) ?_
      refine lv_iload_n hx hb dL_law_463 rfl (lv_at hl 0 rfl) ?_
      refine lv_iconst (v := 1) hx hb dL_law_464 (by decide) ?_
      refine lv_iadd hx hb dL_law_465 ?_
      refine lv_topi (fun x183 ex183 => ?_)
      obtain ⟨tx183, ejx183, evx183⟩ := lw_ix (k := 1) ex183 hI hL rfl (by decide)
      clear tx183
      refine va_sld hx hb hX hbl (Nat.not_le.mpr hbl) hSH122 (vp_in_iff.mpr evx183) dL_law_466 ?_
      refine W.eq (g2 := F0 m 467 ls [.int (xs (i.toNatClampNeg + 1)), .ref b]) (congrArg (fun z => F0 m 467 ls [.int (xs z), .ref b]) ejx183) ?_
      refine lv_aload_n hx hb dL_law_467 rfl (lv_at hl 3 rfl) ?_
      refine lv_iload_n hx hb dL_law_468 rfl (lv_at hl 0 rfl) ?_
      refine lv_iconst (v := 2) hx hb dL_law_469 (by decide) ?_
      refine lv_iadd hx hb dL_law_470 ?_
      refine lv_topi (fun x184 ex184 => ?_)
      obtain ⟨tx184, ejx184, evx184⟩ := lw_ix (k := 2) ex184 hI hL rfl (by decide)
      clear tx184
      refine va_sld hx hb hX hbl (Nat.not_le.mpr hbl) hSH122 (vp_in_iff.mpr evx184) dL_law_471 ?_
      refine W.eq (g2 := F0 m 472 ls [.int (xs (i.toNatClampNeg + 2)), .int (xs (i.toNatClampNeg + 1)), .ref b]) (congrArg (fun z => F0 m 472 ls [.int (xs z), .int (xs (i.toNatClampNeg + 1)), .ref b]) ejx184) ?_
      have bt185 : ∀ j : Nat, (fun j => (fI H122 uq j).toInt) j = (fI H122 uq j).toInt := fun _ => rfl
      have hp186 : ∀ j : Nat, j < tb.toNatClampNeg → 0 ≤ (fun j => (fI H122 uq j).toInt) j := fun j hj => by show 0 ≤ (fI H122 uq j).toInt; rw [f170 j]; exact (htr j hj).2
      obtain ⟨q187, eq187⟩ : ∃ z : Nat, @Eq Ad z (fR H122 b (K.1.2 10 32)) := ⟨_, rfl⟩
      have gq187 := ty_fr (q := q187) (k := 32) (u := 136) eq187 hTH122 gb rg_112 rfl
      obtain ⟨q188, eq188⟩ : ∃ z : Nat, @Eq Ad z (fR H122 b (K.1.2 10 33)) := ⟨_, rfl⟩
      have gq188 := ty_fr (q := q188) (k := 33) (u := 137) eq188 hTH122 gb rg_112 rfl
      obtain ⟨q189, eq189⟩ : ∃ z : Nat, @Eq Ad z (fR H122 b (K.1.2 10 29)) := ⟨_, rfl⟩
      have gq189 := ty_fr (q := q189) (k := 29) (u := 133) eq189 hTH122 gb rg_112 rfl
      obtain ⟨q190, eq190⟩ : ∃ z : Nat, @Eq Ad z (fR H122 b (K.1.2 10 30)) := ⟨_, rfl⟩
      have gq190 := ty_fr (q := q190) (k := 30) (u := 134) eq190 hTH122 gb rg_112 rfl
      obtain ⟨q191, eq191⟩ : ∃ z : Nat, @Eq Ad z (fR H122 b (K.1.2 10 31)) := ⟨_, rfl⟩
      have gq191 := ty_fr (q := q191) (k := 31) (u := 135) eq191 hTH122 gb rg_112 rfl
      obtain ⟨q192, eq192⟩ : ∃ z : Nat, @Eq Ad z (fR H122 b (K.1.2 10 24)) := ⟨_, rfl⟩
      have gq192 := ty_fr (q := q192) (k := 24) (u := 128) eq192 hTH122 gb rg_112 rfl
      obtain ⟨q193, eq193⟩ : ∃ z : Nat, @Eq Ad z (fR H122 b (K.1.2 10 26)) := ⟨_, rfl⟩
      have gq193 := ty_fr (q := q193) (k := 26) (u := 130) eq193 hTH122 gb rg_112 rfl
      obtain ⟨q194, eq194⟩ : ∃ z : Nat, @Eq Ad z (fR H122 b (K.1.2 10 27)) := ⟨_, rfl⟩
      have gq194 := ty_fr (q := q194) (k := 27) (u := 131) eq194 hTH122 gb rg_112 rfl
      obtain ⟨q195, eq195⟩ : ∃ z : Nat, @Eq Ad z (fR H122 b (K.1.2 10 28)) := ⟨_, rfl⟩
      have gq195 := ty_fr (q := q195) (k := 28) (u := 132) eq195 hTH122 gb rg_112 rfl
      obtain ⟨q196, eq196⟩ : ∃ z : Nat, @Eq Ad z (fR H122 b (K.1.2 10 25)) := ⟨_, rfl⟩
      have gq196 := ty_fr (q := q196) (k := 25) (u := 129) eq196 hTH122 gb rg_112 rfl
      obtain ⟨x197, ex197⟩ : ∃ z : Int32, z = fI H122 b (K.1.2 10 35) := ⟨_, rfl⟩
      have bx197 := ty_fi (x := x197) (k := 35) ex197 hTH122 gb rg_112 rfl
      refine x_V (As := [.int (xs (i.toNatClampNeg + 1)), .int (xs (i.toNatClampNeg + 2))]) (rest := []) C (a_X10_text_gl l K G H122 ((xs (i.toNatClampNeg + 1))) ((xs (i.toNatClampNeg + 2))) (x197) (tb) (fun j => (fI H122 uq j).toInt) hTH122 gb (by omega) (by omega) gq187 eq187 gq188 eq188 gq189 eq189 gq190 eq190 gq191 eq191 gq192 eq192 guq m179 gq193 eq193 gq194 eq194 gq195 eq195 gq196 eq196 ex197 m172 g165 g166 g167 g168 (trivial) (hp186) bt185) yo_X10_text wM_L_47 ⟨⟨by decide, by decide⟩, show _ ≤ 60000 from Nat.le_trans hc (by decide), show _ ≤ 8922250 from Nat.le_trans hs (by decide)⟩ (x_rv C hTH122 (ci := 10) rfl gb rg_112) rfl hl.1 rfl (Nat.le_of_ble_eq_true rfl) dL_law_472 hSH122 (AE_new hN hSH122.1) (fun vH198 H198 locsH198 pH198 zH198 kH198 hSH198 => ?_)
      obtain ⟨x199, x200, x201, hvH198, ex200, ex201, hrH198, m202, m203, m204, m205, m206, m207, m208, m209, m210, m211, m212, g213, g214, g215, g216, mf217, m218, m219, m220, m221, hTH198⟩ := pH198
      subst hvH198
      have f222 : ∀ j : Nat, fI H198 tq j = fI H tq j := fun j => (fI_kept (x_lt hTH122 kH198 gtq (by decide))).trans (f169 j)
      have f223 : ∀ j : Nat, fI H198 uq j = fI H uq j := fun j => (fI_kept (x_lt hTH122 kH198 guq (by decide))).trans (f170 j)
      have f224 : ∀ j : Nat, (fun j => (fI H122 uq j).toInt) j = (fI H198 uq j).toInt := fun j => (bt185 j).trans (congrArg Int32.toInt (fI_kept (x_lt hTH122 kH198 guq (by decide))).symm)
      have m225 := (m182).trans (fR_kept (x_lt hTH122 kH198 glq_ (by decide))).symm
      have m226 := (m130).trans (fR_kept (x_lt hTH122 kH198 ga (by decide))).symm
      have m227 := (m131).trans (fR_kept (x_lt hTH122 kH198 gw (by decide))).symm
      have m228 := (m132).trans (fR_kept (x_lt hTH122 kH198 ga (by decide))).symm
      have m229 := (m133).trans (fR_kept (x_lt hTH122 kH198 ga (by decide))).symm
      have m230 := (m134).trans (fR_kept (x_lt hTH122 kH198 gq105 (by decide))).symm
      have m231 := (m135).trans (fR_kept (x_lt hTH122 kH198 gq105 (by decide))).symm
      have m232 := (m136).trans (fR_kept (x_lt hTH122 kH198 gq105 (by decide))).symm
      have m233 := (m137).trans (fR_kept (x_lt hTH122 kH198 gq106 (by decide))).symm
      have m234 := (m138).trans (fR_kept (x_lt hTH122 kH198 gq106 (by decide))).symm
      have m235 := (m139).trans (fR_kept (x_lt hTH122 kH198 gq106 (by decide))).symm
      have m236 := (m140).trans (fR_kept (x_lt hTH122 kH198 gq106 (by decide))).symm
      have m237 := (m141).trans (fR_kept (x_lt hTH122 kH198 gq106 (by decide))).symm
      have m238 := (m142).trans (fR_kept (x_lt hTH122 kH198 gq106 (by decide))).symm
      have m239 := (m143).trans (fR_kept (x_lt hTH122 kH198 gq106 (by decide))).symm
      have m240 := (m144).trans (fR_kept (x_lt hTH122 kH198 gq106 (by decide))).symm
      have m241 := (m145).trans (fR_kept (x_lt hTH122 kH198 gtx_ (by decide))).symm
      have m242 := (m146).trans (fR_kept (x_lt hTH122 kH198 gtx_ (by decide))).symm
      have m243 := (m147).trans (fR_kept (x_lt hTH122 kH198 gtx_ (by decide))).symm
      have m244 := (m148).trans (fR_kept (x_lt hTH122 kH198 gtx_ (by decide))).symm
      have m245 := (m149).trans (fR_kept (x_lt hTH122 kH198 gtx_ (by decide))).symm
      have m246 := (m150).trans (fR_kept (x_lt hTH122 kH198 gtx_ (by decide))).symm
      have m247 := (m151).trans (fR_kept (x_lt hTH122 kH198 gtx_ (by decide))).symm
      have m248 := (m152).trans (fR_kept (x_lt hTH122 kH198 gtx_ (by decide))).symm
      have m249 := (m153).trans (fI_kept (x_lt hTH122 kH198 gw (by decide))).symm
      have m250 := (m154).trans (fI_kept (x_lt hTH122 kH198 gw (by decide))).symm
      have m251 := (m155).trans (fI_kept (x_lt hTH122 kH198 gw (by decide))).symm
      have m252 := (m156).trans (fI_kept (x_lt hTH122 kH198 gw (by decide))).symm
      have m253 := (m157).trans (fI_kept (x_lt hTH122 kH198 gw (by decide))).symm
      have m254 := (m158).trans (fI_kept (x_lt hTH122 kH198 gw (by decide))).symm
      have m255 := (fV_kept (x_lt hTH122 kH198 ga (by decide))).trans m164
      have m256 := (ex124).trans (fI_kept (x_lt hTH122 kH198 ga (by decide))).symm
      have m257 := (ex125).trans (fI_kept (x_lt hTH122 kH198 gq105 (by decide))).symm
      have m258 := (ex126).trans (fI_kept (x_lt hTH122 kH198 gq105 (by decide))).symm
      have m259 := (ex127).trans (fI_kept (x_lt hTH122 kH198 gq106 (by decide))).symm
      have m260 := (ex128).trans (fI_kept (x_lt hTH122 kH198 gq105 (by decide))).symm
      have m261 := (ex129).trans (fI_kept (x_lt hTH122 kH198 gq106 (by decide))).symm
      have m262 := (m173).trans (MF.i mf217 (k := 1) (by decide) (by decide)).symm
      have m263 := (m174).trans (MF.i mf217 (k := 2) (by decide) (by decide)).symm
      have m264 := (m175).trans (MF.i mf217 (k := 3) (by decide) (by decide)).symm
      have m265 := (m176).trans (MF.i mf217 (k := 59) (by decide) (by decide)).symm
      have m266 := (m177).trans (MF.i mf217 (k := 62) (by decide) (by decide)).symm
      have m267 := (m178).trans (MF.i mf217 (k := 65) (by decide) (by decide)).symm
      have m268 := (m179).trans (MF.r mf217 (k := 17) (by decide) (by decide)).symm
      have m269 := (m180).trans (MF.i mf217 (k := 70) (by decide) (by decide)).symm
      have m270 := (m181).trans (MF.r mf217 (k := 73) (by decide) (by decide)).symm
      have m271 := (eq187).trans (MF.r mf217 (k := 32) (by decide) (by decide)).symm
      have m272 := (eq188).trans (MF.r mf217 (k := 33) (by decide) (by decide)).symm
      have m273 := (eq189).trans (MF.r mf217 (k := 29) (by decide) (by decide)).symm
      have m274 := (eq190).trans (MF.r mf217 (k := 30) (by decide) (by decide)).symm
      have m275 := (eq191).trans (MF.r mf217 (k := 31) (by decide) (by decide)).symm
      have m276 := (eq192).trans (MF.r mf217 (k := 24) (by decide) (by decide)).symm
      have m277 := (eq193).trans (MF.r mf217 (k := 26) (by decide) (by decide)).symm
      have m278 := (eq194).trans (MF.r mf217 (k := 27) (by decide) (by decide)).symm
      have m279 := (eq195).trans (MF.r mf217 (k := 28) (by decide) (by decide)).symm
      have m280 := (eq196).trans (MF.r mf217 (k := 25) (by decide) (by decide)).symm
      have bx200 := ty_fi (x := x200) (k := 35) ex200 hTH198 gb rg_112 rfl
      have bx201 := ty_fi (x := x201) (k := 18) ex201 hTH198 gb rg_112 rfl
      refine W.eq (g2 := F0 m 475 ls [.int x199]) rfl ?_
      have hre := TXA.eq m159 m218 (by omega) (fun j hj => by show (fI _ tq j).toInt = (fI _ uq j).toInt; rw [ft0 j, f170 j]; exact congrArg Int32.toInt (htr j (by omega)).1)
      have r12 : RFW K H198 H122 w := RFW.cell hTH122 gw (fun q t hq ht => x_lt hTH122 kH198 hq (by first | exact nmr ht (by decide) | exact nmo ht (by decide) | exact nme ht (by decide) | exact nmq ht (by decide) | decide | (intro z; simp only [List.mem_cons, List.not_mem_nil, or_false] at z <;> omega) | omega))
      have cU := vcN.kept hTH122 gw r12 (fun q t hq ht => x_lt hTH122 kH198 hq (by first | exact nmr ht (by decide) | exact nmo ht (by decide) | exact nme ht (by decide) | exact nmq ht (by decide) | decide | (intro z; simp only [List.mem_cons, List.not_mem_nil, or_false] at z <;> omega) | omega))
      have own2 : OWN K H198 w := (re.1.st trf).st r12
      have tU : TPK (TXP K H198 w) (TXP K H122 w) := TXP.kept hTH122 gw r12 (fun q t hq ht => x_lt hTH122 kH198 hq (by first | exact nmr ht (by decide) | exact nmo ht (by decide) | exact nme ht (by decide) | exact nmq ht (by decide) | decide | (intro z; simp only [List.mem_cons, List.not_mem_nil, or_false] at z <;> omega) | omega))
      have er2 : ∀ bar, vrN K H198 b bar = vrN K H122 b bar := vrN.reg hTH122 gb (fun k hk => MF.r mf217 (by omega) (by intro z; simp only [List.mem_cons, List.not_mem_nil, or_false] at z; omega)) (fun q t hq ht => x_lt hTH122 kH198 hq (by first | exact nmr ht (by decide) | exact nmo ht (by decide) | exact nme ht (by decide) | exact nmq ht (by decide) | decide | (intro z; simp only [List.mem_cons, List.not_mem_nil, or_false] at z <;> omega) | omega))
      have rr_ : ∀ k : Nat, 24 ≤ k → k ≤ 33 → fR H198 b (K.1.2 10 k) = fR H122 b (K.1.2 10 k) := fun k h1 h2 => MF.r mf217 (by omega) (by intro z; simp only [List.mem_cons, List.not_mem_nil, or_false] at z; omega)
      have hb_ : ∀ j : Nat, j < ta.toNatClampNeg → (fun j => (fI H tq j).toInt) j = (fun j => (fI H122 uq j).toInt) j := fun j hj => by show (fI _ tq j).toInt = (fI _ uq j).toInt; rw [ft0 j, f170 j]; exact congrArg Int32.toInt (htr j (by omega)).1
      have hL_ : ta.toNatClampNeg = tb.toNatClampNeg := by omega
      have kC_ : kK (fun j => (fI H tq j).toInt) ta.toNatClampNeg = kK (fun j => (fI H122 uq j).toInt) tb.toNatClampNeg := (kK_c hb_).trans (by rw [hL_])
      have vC_ : vV (fun j => (fI H tq j).toInt) ta.toNatClampNeg = vV (fun j => (fI H122 uq j).toInt) tb.toNatClampNeg := (vV_c hb_).trans (by rw [hL_])
      have re281 : RE K H198 w b s1.toInt := by
        refine ⟨own2, re.2.1.congr (fun j hj => (cU j hj).trans (tbs j hj)) (fun j _ => by rw [show vrN K H198 b j = vrN K H b j from (er2 j).trans (er1 j)]; exact EqV.rf), ?_⟩
        rcases m160 with hm_ | ⟨n, hn_, h16_, hc_, hM_, hB_⟩
        · have hf_ := m221.resolve_left (fun z => z (by omega))
          exact re.2.2.congr (fun r kk vv lw n h1 h2 z => tU r kk vv lw n h1 h2 (HD.out ty_ hm_ r kk vv lw n h1 h2 z)) (fun r kk vv lw n h1 h2 z => TRP.frd rr_ hTH122 gb (by rw [← eq196, ← eq193, ← eq194, ← eq195, ← eq189, ← eq190, ← eq191, ← eq187, ← eq188]; exact hf_.1) (fun l => by rw [← eq192]; exact hf_.2 l) r kk vv lw n h1 h2 (tr1 r kk vv lw n h1 h2 z))
        · rcases m219 with hm2_ | ⟨n2, hn2_, -, hc2_, hMR_⟩
          · exfalso; omega
          · have en_ : n2 = n := by omega
            subst en_
            rw [kC_, vC_] at hM_
            have lwR_ : LWT ((xs (i.toNatClampNeg + 2)) : Int32).toNatClampNeg = 1 := if_pos (by omega)
            have hl_ := (m218).lno hn2_
            rw [if_pos (by omega)] at hl_
            have rk_ : RWK H198 H122 (fR H122 b (K.1.2 10 25)) (fR H122 b (K.1.2 10 26)) (fR H122 b (K.1.2 10 27)) (fR H122 b (K.1.2 10 28)) (fR H122 b (K.1.2 10 29)) (fR H122 b (K.1.2 10 30)) (fR H122 b (K.1.2 10 31)) (fR H122 b (K.1.2 10 32)) (fR H122 b (K.1.2 10 33)) (fR H122 b (K.1.2 10 24)) ((xs (i.toNatClampNeg + 2)) : Int32).toNatClampNeg := by rw [← eq196, ← eq193, ← eq194, ← eq195, ← eq189, ← eq190, ← eq191, ← eq187, ← eq188, ← eq192]; exact m220
            exact TPE.set (i := ((xs (i.toNatClampNeg + 2)) : Int32).toNatClampNeg) re.2.2 h16_ (by rw [lwR_]; exact hl_) (by rw [lwR_]; exact tU _ _ _ _ _ (by omega) h16_ (by unfold TXP; rw [tow]; exact ⟨hM_, (congrArg Int32.toInt hc_).trans hn_, hB_⟩)) (by rw [lwR_]; exact ⟨hMR_, by rw [← m207]; exact (congrArg Int32.toInt hc2_).trans hn2_⟩) (fun r kk vv lw n h1 h2 h3 z => tU r kk vv lw n h1 h2 (tot r kk vv lw n h1 h2 (by omega) z)) (fun r kk vv lw n h1 h2 h3 z => TRP.rwk rr_ hTH122 gb rk_ r kk vv lw n h1 h2 h3 (tr1 r kk vv lw n h1 h2 z))
      refine lv_pop hx hb dL_law_475 rfl ?_
      refine lv_goto (tgt := 1509) hx hb dL_law_476 (by decide) ?_
      have cfin := i_cl (x := x201) bx201.1
      exact nx G H198 locsH198 _ _ ls ⟨hTH198, hN, ga, gb, g213, g214, g215, g216, ⟨(by rw [← m256, ← ex201]; omega), (by rw [← m226, ← m249, ← m262]; exact r1), (by rw [← m226, ← m250, ← m263]; exact r4), (by rw [← m226, ← m251, ← m264]; exact r5), (by rw [← m226, ← m252, ← m265]; exact r10), (by rw [← m226, ← m253, ← m266]; exact r13), (by rw [← m226, ← m254, ← m267]; exact r16)⟩, Or.inl ⟨m255, (by rw [← m269]; exact h70)⟩, (by unfold TB; rw [← m229, ← m208, ← ex201]; exact TBR.of htr f222 f223 (by omega)), (by unfold RELE; rw [← m226, ← m262, ← m251]; exact ⟨RE.cast re281 (by omega), by omega, by omega⟩), hSH198⟩ hl ⟨hc, hs, fun _ => ⟨hc0, hs0⟩⟩
    · skip
      have bt282 : ∀ j : Nat, (fun j => (fI H tq j).toInt) j = (fI H tq j).toInt := fun _ => rfl
      have cte := i_cl (x := (xs (i.toNatClampNeg + 2))) (by omega)
      obtain ⟨lq_, elq_⟩ : ∃ z : Nat, z = fR H w (K.1.2 8 3) := ⟨_, rfl⟩
      have glq_ := ty_fr (q := lq_) (k := 3) (u := 27) elq_ hT gw rg_0 rfl
      obtain ⟨tx_, etx_⟩ : ∃ z : Nat, z = fR H lq_ ((xs (i.toNatClampNeg + 2)) : Int32).toNatClampNeg := ⟨_, rfl⟩
      have eow_ : ow K H w (10 + (2 + ((xs (i.toNatClampNeg + 2)) : Int32).toNatClampNeg)) = tx_ := by rw [show 10 + (2 + ((xs (i.toNatClampNeg + 2)) : Int32).toNatClampNeg) = 12 + ((xs (i.toNatClampNeg + 2)) : Int32).toNatClampNeg by omega, ow_j, ← elq_, ← etx_]
      have gtx_ : G tx_ = some 16 := by rw [← eow_]; exact ow_t hT gw (by omega) (by omega)
      obtain ⟨xr1, exr1⟩ : ∃ z : Nat, z = fR H tx_ (K.1.2 7 1) := ⟨_, rfl⟩
      have gxr1 := ty_fr (q := xr1) (k := 1) (u := 17) exr1 hT gtx_ rg_16 rfl
      obtain ⟨xr2, exr2⟩ : ∃ z : Nat, z = fR H tx_ (K.1.2 7 2) := ⟨_, rfl⟩
      have gxr2 := ty_fr (q := xr2) (k := 2) (u := 18) exr2 hT gtx_ rg_16 rfl
      obtain ⟨xr3, exr3⟩ : ∃ z : Nat, z = fR H tx_ (K.1.2 7 3) := ⟨_, rfl⟩
      have gxr3 := ty_fr (q := xr3) (k := 3) (u := 19) exr3 hT gtx_ rg_16 rfl
      obtain ⟨xr4, exr4⟩ : ∃ z : Nat, z = fR H tx_ (K.1.2 7 4) := ⟨_, rfl⟩
      have gxr4 := ty_fr (q := xr4) (k := 4) (u := 20) exr4 hT gtx_ rg_16 rfl
      obtain ⟨xr5, exr5⟩ : ∃ z : Nat, z = fR H tx_ (K.1.2 7 5) := ⟨_, rfl⟩
      have gxr5 := ty_fr (q := xr5) (k := 5) (u := 21) exr5 hT gtx_ rg_16 rfl
      obtain ⟨xr6, exr6⟩ : ∃ z : Nat, z = fR H tx_ (K.1.2 7 6) := ⟨_, rfl⟩
      have gxr6 := ty_fr (q := xr6) (k := 6) (u := 22) exr6 hT gtx_ rg_16 rfl
      obtain ⟨xr7, exr7⟩ : ∃ z : Nat, z = fR H tx_ (K.1.2 7 7) := ⟨_, rfl⟩
      have gxr7 := ty_fr (q := xr7) (k := 7) (u := 23) exr7 hT gtx_ rg_16 rfl
      obtain ⟨xr8, exr8⟩ : ∃ z : Nat, z = fR H tx_ (K.1.2 7 8) := ⟨_, rfl⟩
      have gxr8 := ty_fr (q := xr8) (k := 8) (u := 24) exr8 hT gtx_ rg_16 rfl
      obtain ⟨q283, eq283⟩ : ∃ z : Nat, @Eq Ad z (fR H a (K.1.2 9 4)) := ⟨_, rfl⟩
      have gq283 := ty_fr (q := q283) (k := 4) (u := 78) eq283 hT ga rg_68 rfl
      obtain ⟨q284, eq284⟩ : ∃ z : Nat, @Eq Ad z (fR H q283 (K.1.2 4 0)) := ⟨_, rfl⟩
      have gq284 := ty_fr (q := q284) (k := 0) (u := 69) eq284 hT gq283 rg_78 rfl
      obtain ⟨q285, eq285⟩ : ∃ z : Nat, @Eq Ad z (fR H q283 (K.1.2 4 3)) := ⟨_, rfl⟩
      have gq285 := ty_fr (q := q285) (k := 3) (u := 79) eq285 hT gq283 rg_78 rfl
      obtain ⟨q286, eq286⟩ : ∃ z : Nat, @Eq Ad z (fR H q283 (K.1.2 4 4)) := ⟨_, rfl⟩
      have gq286 := ty_fr (q := q286) (k := 4) (u := 80) eq286 hT gq283 rg_78 rfl
      obtain ⟨q287, eq287⟩ : ∃ z : Nat, @Eq Ad z (fR H q284 (K.1.2 7 1)) := ⟨_, rfl⟩
      have gq287 := ty_fr (q := q287) (k := 1) (u := 70) eq287 hT gq284 rg_69 rfl
      obtain ⟨q288, eq288⟩ : ∃ z : Nat, @Eq Ad z (fR H q284 (K.1.2 7 2)) := ⟨_, rfl⟩
      have gq288 := ty_fr (q := q288) (k := 2) (u := 71) eq288 hT gq284 rg_69 rfl
      obtain ⟨q289, eq289⟩ : ∃ z : Nat, @Eq Ad z (fR H q284 (K.1.2 7 3)) := ⟨_, rfl⟩
      have gq289 := ty_fr (q := q289) (k := 3) (u := 72) eq289 hT gq284 rg_69 rfl
      obtain ⟨q290, eq290⟩ : ∃ z : Nat, @Eq Ad z (fR H q284 (K.1.2 7 4)) := ⟨_, rfl⟩
      have gq290 := ty_fr (q := q290) (k := 4) (u := 73) eq290 hT gq284 rg_69 rfl
      obtain ⟨q291, eq291⟩ : ∃ z : Nat, @Eq Ad z (fR H q284 (K.1.2 7 5)) := ⟨_, rfl⟩
      have gq291 := ty_fr (q := q291) (k := 5) (u := 74) eq291 hT gq284 rg_69 rfl
      obtain ⟨q292, eq292⟩ : ∃ z : Nat, @Eq Ad z (fR H q284 (K.1.2 7 6)) := ⟨_, rfl⟩
      have gq292 := ty_fr (q := q292) (k := 6) (u := 75) eq292 hT gq284 rg_69 rfl
      obtain ⟨q293, eq293⟩ : ∃ z : Nat, @Eq Ad z (fR H q284 (K.1.2 7 7)) := ⟨_, rfl⟩
      have gq293 := ty_fr (q := q293) (k := 7) (u := 76) eq293 hT gq284 rg_69 rfl
      obtain ⟨q294, eq294⟩ : ∃ z : Nat, @Eq Ad z (fR H q284 (K.1.2 7 8)) := ⟨_, rfl⟩
      have gq294 := ty_fr (q := q294) (k := 8) (u := 77) eq294 hT gq284 rg_69 rfl
      obtain ⟨x295, ex295⟩ : ∃ z : Int32, z = fI H q283 (K.1.2 4 7) := ⟨_, rfl⟩
      have bx295 := ty_fi (x := x295) (k := 7) ex295 hT gq283 rg_78 rfl
      obtain ⟨x296, ex296⟩ : ∃ z : Int32, z = fI H q283 (K.1.2 4 1) := ⟨_, rfl⟩
      have bx296 := ty_fi (x := x296) (k := 1) ex296 hT gq283 rg_78 rfl
      obtain ⟨x297, ex297⟩ : ∃ z : Int32, z = fI H q284 (K.1.2 7 0) := ⟨_, rfl⟩
      have bx297 := ty_fi (x := x297) (k := 0) ex297 hT gq284 rg_69 rfl
      obtain ⟨x298, ex298⟩ : ∃ z : Int32, z = fI H q283 (K.1.2 4 8) := ⟨_, rfl⟩
      have bx298 := ty_fi (x := x298) (k := 8) ex298 hT gq283 rg_78 rfl
      obtain ⟨x299, ex299⟩ : ∃ z : Int32, z = fI H q284 (K.1.2 7 9) := ⟨_, rfl⟩
      have bx299 := ty_fi (x := x299) (k := 9) ex299 hT gq284 rg_69 rfl
      refine x_V (As := [.int (xs (i.toNatClampNeg + 1)), .int (xs (i.toNatClampNeg + 2))]) (rest := []) C (a_X9_text_j l K G H ((xs (i.toNatClampNeg + 1))) ((xs (i.toNatClampNeg + 2))) (ta) (x295) (x296) (x297) (x298) (x299) (s1) (s4) (s5) (s10) (s13) (s16) (fun j => (fI H tq j).toInt) hT ga (by omega) (by omega) gw ew glq_ elq_ gtx_ etx_ gq283 eq283 gtq etq gq284 eq284 gq285 eq285 gq286 eq286 gq287 eq287 gq288 eq288 gq289 eq289 gq290 eq290 gq291 eq291 gq292 eq292 gq293 eq293 gq294 eq294 gxr1 exr1 gxr2 exr2 gxr3 exr3 gxr4 exr4 gxr5 exr5 gxr6 exr6 gxr7 exr7 gxr8 exr8 eta ex295 ex296 ex297 ex298 ex299 es1 es4 es5 es10 es13 es16 kn bt282) yo_X9_text wM_L_43 ⟨⟨by decide, by decide⟩, show _ ≤ 60000 from Nat.le_trans hc (by decide), show _ ≤ 8922250 from Nat.le_trans hs (by decide)⟩ (x_rv C hT (ci := 9) rfl ga rg_68) rfl hl.1 rfl (Nat.le_of_ble_eq_true rfl) dL_law_457 hS (AE_new hN hS.1) (fun vH300 H300 locsH300 pH300 zH300 kH300 hSH300 => ?_)
      obtain ⟨x301, x302, x303, x304, x305, x306, x307, hvH300, ex302, ex303, ex304, ex305, ex306, ex307, hrH300, m308, m309, m310, m311, m312, m313, m314, m315, m316, m317, m318, m319, m320, m321, m322, m323, m324, m325, m326, m327, m328, m329, m330, m331, m332, m333, m334, m335, m336, m337, m338, m339, m340, m341, m342, hTH300⟩ := pH300
      subst hvH300
      have g343 : CG (avw K H300 b) := CG.congr (fun k hk j => av_eff hT kH300 gb (by decide) (CG_eff [68, 0, 78, 79, 80, 81, 69, 70, 71, 72, 73, 74, 75, 76, 77, 16, 17, 18, 19, 20, 21, 22, 23, 24] (by decide) k hk)) cg
      have g344 : TU (avw K H300 b) (svw K H300 b) := TU.congr (fun k hk j => av_eff hT kH300 gb (by decide) (TU_eff [68, 0, 78, 79, 80, 81, 69, 70, 71, 72, 73, 74, 75, 76, 77, 16, 17, 18, 19, 20, 21, 22, 23, 24] (by decide) k hk)) (fun k hk => sv_eff hT kH300 gb (by decide)) tu
      have g345 : WD (avw K H300 b) := WD.congr (fun k hk j => av_eff hT kH300 gb (by decide) (WD_eff [68, 0, 78, 79, 80, 81, 69, 70, 71, 72, 73, 74, 75, 76, 77, 16, 17, 18, 19, 20, 21, 22, 23, 24] (by decide) k hk)) wd
      have g346 : IM (avw K H300 b) := IM.congr (fun k hk j => av_eff hT kH300 gb (by decide) (IM_eff [68, 0, 78, 79, 80, 81, 69, 70, 71, 72, 73, 74, 75, 76, 77, 16, 17, 18, 19, 20, 21, 22, 23, 24] (by decide) k hk)) im
      have f347 : ∀ j : Nat, fI H300 tq j = fI H tq j := fun j => (fI_kept (x_lt hT kH300 gtq (by decide))).trans (ft0 j)
      have f348 : ∀ j : Nat, fI H300 uq j = fI H uq j := fun j => (fI_kept (x_lt hT kH300 guq (by decide))).trans (fu0 j)
      have f349 : ∀ j : Nat, (fun j => (fI H tq j).toInt) j = (fI H300 tq j).toInt := fun j => (bt282 j).trans (congrArg Int32.toInt (fI_kept (x_lt hT kH300 gtq (by decide))).symm)
      have m350 := (etb).trans (fI_kept (x_lt hT kH300 gb (by decide))).symm
      have m351 := (ey1).trans (fI_kept (x_lt hT kH300 gb (by decide))).symm
      have m352 := (ey4).trans (fI_kept (x_lt hT kH300 gb (by decide))).symm
      have m353 := (ey5).trans (fI_kept (x_lt hT kH300 gb (by decide))).symm
      have m354 := (ey10).trans (fI_kept (x_lt hT kH300 gb (by decide))).symm
      have m355 := (ey13).trans (fI_kept (x_lt hT kH300 gb (by decide))).symm
      have m356 := (ey16).trans (fI_kept (x_lt hT kH300 gb (by decide))).symm
      have m357 := (euq).trans (fR_kept (x_lt hT kH300 gb (by decide))).symm
      have m358 := (ehi).trans (fI_kept (x_lt hT kH300 gb (by decide))).symm
      have m359 := (eiq).trans (fR_kept (x_lt hT kH300 gb (by decide))).symm
      have m360 := (etx_).trans (fR_kept (x_lt hT kH300 glq_ (by decide))).symm
      have bx302 := ty_fi (x := x302) (k := 3) ex302 hTH300 ga rg_68 rfl
      have bx303 := ty_fi (x := x303) (k := 7) ex303 hTH300 gq283 rg_78 rfl
      have bx304 := ty_fi (x := x304) (k := 1) ex304 hTH300 gq283 rg_78 rfl
      have bx305 := ty_fi (x := x305) (k := 0) ex305 hTH300 gq284 rg_69 rfl
      have bx306 := ty_fi (x := x306) (k := 8) ex306 hTH300 gq283 rg_78 rfl
      have bx307 := ty_fi (x := x307) (k := 9) ex307 hTH300 gq284 rg_69 rfl
      refine W.eq (g2 := F0 m 460 ls [.int x301]) rfl ?_
      have rt_ : RFT K H300 H tx_ := fun k h1 h8 => by have z : k = 1 ∨ k = 2 ∨ k = 3 ∨ k = 4 ∨ k = 5 ∨ k = 6 ∨ k = 7 ∨ k = 8 := (by omega); rcases z with rfl | rfl | rfl | rfl | rfl | rfl | rfl | rfl; exact (m323).symm.trans exr1; exact (m324).symm.trans exr2; exact (m325).symm.trans exr3; exact (m326).symm.trans exr4; exact (m327).symm.trans exr5; exact (m328).symm.trans exr6; exact (m329).symm.trans exr7; exact (m330).symm.trans exr8
      obtain ⟨trf, tbs, tow, tot⟩ := text_one (H1 := H300) re.1 hT gw (j := 10 + (2 + ((xs (i.toNatClampNeg + 2)) : Int32).toNatClampNeg)) (by omega) eow_ m341 rt_ (fun q t hq ht n1 n2 => m339 q t hq (by omega) (by omega) (by omega) (by omega) (by omega) (by omega) (by omega) (by omega) (by omega) (by omega) (by omega) (by omega) (by omega) (by omega) (by omega) n1 (by rw [exr1]; exact n2 1 (by decide)) (by rw [exr2]; exact n2 2 (by decide)) (by rw [exr3]; exact n2 3 (by decide)) (by rw [exr4]; exact n2 4 (by decide)) (by rw [exr5]; exact n2 5 (by decide)) (by rw [exr6]; exact n2 6 (by decide)) (by rw [exr7]; exact n2 7 (by decide)) (by rw [exr8]; exact n2 8 (by decide)))
      have ty_ : HD (x301.toInt = -1 → TPK (TXP K H300 w) (TXP K H w)) := HD.mk (fun h => TXP.kept hT gw trf (fun q t hq ht => (m340.resolve_left (fun z => z h)) q t hq (by omega) (by omega) (by omega) (by omega) (by omega) (by omega) (by omega) (by omega) (by omega) (by omega) (by omega) (by omega) (by omega) (by omega) (by omega)))
      have er1 : ∀ bar, vrN K H300 b bar = vrN K H b bar := vrN.reg hT gb (fun k _ => fR_kept (x_lt hT kH300 gb (by first | exact nmr ht (by decide) | exact nmo ht (by decide) | exact nme ht (by decide) | exact nmq ht (by decide) | decide | (intro z; simp only [List.mem_cons, List.not_mem_nil, or_false] at z <;> omega) | omega))) (fun q t hq ht => x_lt hT kH300 hq (by first | exact nmr ht (by decide) | exact nmo ht (by decide) | exact nme ht (by decide) | exact nmq ht (by decide) | decide | (intro z; simp only [List.mem_cons, List.not_mem_nil, or_false] at z <;> omega) | omega))
      have tr1 : TPK (TRP K H300 b) (TRP K H b) := TRP.reg hT gb (fun k _ _ => fR_kept (x_lt hT kH300 gb (by first | exact nmr ht (by decide) | exact nmo ht (by decide) | exact nme ht (by decide) | exact nmq ht (by decide) | decide | (intro z; simp only [List.mem_cons, List.not_mem_nil, or_false] at z <;> omega) | omega))) (fun q t hq ht => x_lt hT kH300 hq (by first | exact nmr ht (by decide) | exact nmo ht (by decide) | exact nme ht (by decide) | exact nmq ht (by decide) | decide | (intro z; simp only [List.mem_cons, List.not_mem_nil, or_false] at z <;> omega) | omega))
      refine lv_pop hx hb dL_law_460 rfl ?_
      refine lv_aload_n hx hb dL_law_461 rfl (lv_at hl 1 rfl) ?_
      refine lv_aload_n hx hb dL_law_462 rfl (lv_at hl 3 rfl) ?_
      refine lv_iload_n hx hb dL_law_463 rfl (lv_at hl 0 rfl) ?_
      refine lv_iconst (v := 1) hx hb dL_law_464 (by decide) ?_
      refine lv_iadd hx hb dL_law_465 ?_
      refine lv_topi (fun x361 ex361 => ?_)
      obtain ⟨tx361, ejx361, evx361⟩ := lw_ix (k := 1) ex361 hI hL rfl (by decide)
      clear tx361
      refine va_sld hx hb hX hbl (Nat.not_le.mpr hbl) hSH300 (vp_in_iff.mpr evx361) dL_law_466 ?_
      refine W.eq (g2 := F0 m 467 ls [.int (xs (i.toNatClampNeg + 1)), .ref b]) (congrArg (fun z => F0 m 467 ls [.int (xs z), .ref b]) ejx361) ?_
      refine lv_aload_n hx hb dL_law_467 rfl (lv_at hl 3 rfl) ?_
      refine lv_iload_n hx hb dL_law_468 rfl (lv_at hl 0 rfl) ?_
      refine lv_iconst (v := 2) hx hb dL_law_469 (by decide) ?_
      refine lv_iadd hx hb dL_law_470 ?_
      refine lv_topi (fun x362 ex362 => ?_)
      obtain ⟨tx362, ejx362, evx362⟩ := lw_ix (k := 2) ex362 hI hL rfl (by decide)
      clear tx362
      refine va_sld hx hb hX hbl (Nat.not_le.mpr hbl) hSH300 (vp_in_iff.mpr evx362) dL_law_471 ?_
      refine W.eq (g2 := F0 m 472 ls [.int (xs (i.toNatClampNeg + 2)), .int (xs (i.toNatClampNeg + 1)), .ref b]) (congrArg (fun z => F0 m 472 ls [.int (xs z), .int (xs (i.toNatClampNeg + 1)), .ref b]) ejx362) ?_
      have bt363 : ∀ j : Nat, (fun j => (fI H300 uq j).toInt) j = (fI H300 uq j).toInt := fun _ => rfl
      have hp364 : ∀ j : Nat, j < tb.toNatClampNeg → 0 ≤ (fun j => (fI H300 uq j).toInt) j := fun j hj => by show 0 ≤ (fI H300 uq j).toInt; rw [f348 j]; exact (htr j hj).2
      obtain ⟨q365, eq365⟩ : ∃ z : Nat, @Eq Ad z (fR H300 b (K.1.2 10 32)) := ⟨_, rfl⟩
      have gq365 := ty_fr (q := q365) (k := 32) (u := 136) eq365 hTH300 gb rg_112 rfl
      obtain ⟨q366, eq366⟩ : ∃ z : Nat, @Eq Ad z (fR H300 b (K.1.2 10 33)) := ⟨_, rfl⟩
      have gq366 := ty_fr (q := q366) (k := 33) (u := 137) eq366 hTH300 gb rg_112 rfl
      obtain ⟨q367, eq367⟩ : ∃ z : Nat, @Eq Ad z (fR H300 b (K.1.2 10 29)) := ⟨_, rfl⟩
      have gq367 := ty_fr (q := q367) (k := 29) (u := 133) eq367 hTH300 gb rg_112 rfl
      obtain ⟨q368, eq368⟩ : ∃ z : Nat, @Eq Ad z (fR H300 b (K.1.2 10 30)) := ⟨_, rfl⟩
      have gq368 := ty_fr (q := q368) (k := 30) (u := 134) eq368 hTH300 gb rg_112 rfl
      obtain ⟨q369, eq369⟩ : ∃ z : Nat, @Eq Ad z (fR H300 b (K.1.2 10 31)) := ⟨_, rfl⟩
      have gq369 := ty_fr (q := q369) (k := 31) (u := 135) eq369 hTH300 gb rg_112 rfl
      obtain ⟨q370, eq370⟩ : ∃ z : Nat, @Eq Ad z (fR H300 b (K.1.2 10 24)) := ⟨_, rfl⟩
      have gq370 := ty_fr (q := q370) (k := 24) (u := 128) eq370 hTH300 gb rg_112 rfl
      obtain ⟨q371, eq371⟩ : ∃ z : Nat, @Eq Ad z (fR H300 b (K.1.2 10 26)) := ⟨_, rfl⟩
      have gq371 := ty_fr (q := q371) (k := 26) (u := 130) eq371 hTH300 gb rg_112 rfl
      obtain ⟨q372, eq372⟩ : ∃ z : Nat, @Eq Ad z (fR H300 b (K.1.2 10 27)) := ⟨_, rfl⟩
      have gq372 := ty_fr (q := q372) (k := 27) (u := 131) eq372 hTH300 gb rg_112 rfl
      obtain ⟨q373, eq373⟩ : ∃ z : Nat, @Eq Ad z (fR H300 b (K.1.2 10 28)) := ⟨_, rfl⟩
      have gq373 := ty_fr (q := q373) (k := 28) (u := 132) eq373 hTH300 gb rg_112 rfl
      obtain ⟨q374, eq374⟩ : ∃ z : Nat, @Eq Ad z (fR H300 b (K.1.2 10 25)) := ⟨_, rfl⟩
      have gq374 := ty_fr (q := q374) (k := 25) (u := 129) eq374 hTH300 gb rg_112 rfl
      obtain ⟨x375, ex375⟩ : ∃ z : Int32, z = fI H300 b (K.1.2 10 35) := ⟨_, rfl⟩
      have bx375 := ty_fi (x := x375) (k := 35) ex375 hTH300 gb rg_112 rfl
      refine x_V (As := [.int (xs (i.toNatClampNeg + 1)), .int (xs (i.toNatClampNeg + 2))]) (rest := []) C (a_X10_text_gj l K G H300 ((xs (i.toNatClampNeg + 1))) ((xs (i.toNatClampNeg + 2))) (x375) (tb) (fun j => (fI H300 uq j).toInt) hTH300 gb (by omega) (by omega) gq365 eq365 gq366 eq366 gq367 eq367 gq368 eq368 gq369 eq369 gq370 eq370 guq m357 gq371 eq371 gq372 eq372 gq373 eq373 gq374 eq374 ex375 m350 g343 g344 g345 g346 (trivial) (hp364) bt363) yo_X10_text wM_L_47 ⟨⟨by decide, by decide⟩, show _ ≤ 60000 from Nat.le_trans hc (by decide), show _ ≤ 8922250 from Nat.le_trans hs (by decide)⟩ (x_rv C hTH300 (ci := 10) rfl gb rg_112) rfl hl.1 rfl (Nat.le_of_ble_eq_true rfl) dL_law_472 hSH300 (AE_new hN hSH300.1) (fun vH376 H376 locsH376 pH376 zH376 kH376 hSH376 => ?_)
      obtain ⟨x377, x378, x379, hvH376, ex378, ex379, hrH376, m380, m381, m382, m383, m384, m385, m386, m387, m388, m389, m390, g391, g392, g393, g394, mf395, m396, m397, m398, m399, hTH376⟩ := pH376
      subst hvH376
      have f400 : ∀ j : Nat, fI H376 tq j = fI H tq j := fun j => (fI_kept (x_lt hTH300 kH376 gtq (by decide))).trans (f347 j)
      have f401 : ∀ j : Nat, fI H376 uq j = fI H uq j := fun j => (fI_kept (x_lt hTH300 kH376 guq (by decide))).trans (f348 j)
      have f402 : ∀ j : Nat, (fun j => (fI H300 uq j).toInt) j = (fI H376 uq j).toInt := fun j => (bt363 j).trans (congrArg Int32.toInt (fI_kept (x_lt hTH300 kH376 guq (by decide))).symm)
      have m403 := (m360).trans (fR_kept (x_lt hTH300 kH376 glq_ (by decide))).symm
      have m404 := (m308).trans (fR_kept (x_lt hTH300 kH376 ga (by decide))).symm
      have m405 := (m309).trans (fR_kept (x_lt hTH300 kH376 gw (by decide))).symm
      have m406 := (m310).trans (fR_kept (x_lt hTH300 kH376 ga (by decide))).symm
      have m407 := (m311).trans (fR_kept (x_lt hTH300 kH376 ga (by decide))).symm
      have m408 := (m312).trans (fR_kept (x_lt hTH300 kH376 gq283 (by decide))).symm
      have m409 := (m313).trans (fR_kept (x_lt hTH300 kH376 gq283 (by decide))).symm
      have m410 := (m314).trans (fR_kept (x_lt hTH300 kH376 gq283 (by decide))).symm
      have m411 := (m315).trans (fR_kept (x_lt hTH300 kH376 gq284 (by decide))).symm
      have m412 := (m316).trans (fR_kept (x_lt hTH300 kH376 gq284 (by decide))).symm
      have m413 := (m317).trans (fR_kept (x_lt hTH300 kH376 gq284 (by decide))).symm
      have m414 := (m318).trans (fR_kept (x_lt hTH300 kH376 gq284 (by decide))).symm
      have m415 := (m319).trans (fR_kept (x_lt hTH300 kH376 gq284 (by decide))).symm
      have m416 := (m320).trans (fR_kept (x_lt hTH300 kH376 gq284 (by decide))).symm
      have m417 := (m321).trans (fR_kept (x_lt hTH300 kH376 gq284 (by decide))).symm
      have m418 := (m322).trans (fR_kept (x_lt hTH300 kH376 gq284 (by decide))).symm
      have m419 := (m323).trans (fR_kept (x_lt hTH300 kH376 gtx_ (by decide))).symm
      have m420 := (m324).trans (fR_kept (x_lt hTH300 kH376 gtx_ (by decide))).symm
      have m421 := (m325).trans (fR_kept (x_lt hTH300 kH376 gtx_ (by decide))).symm
      have m422 := (m326).trans (fR_kept (x_lt hTH300 kH376 gtx_ (by decide))).symm
      have m423 := (m327).trans (fR_kept (x_lt hTH300 kH376 gtx_ (by decide))).symm
      have m424 := (m328).trans (fR_kept (x_lt hTH300 kH376 gtx_ (by decide))).symm
      have m425 := (m329).trans (fR_kept (x_lt hTH300 kH376 gtx_ (by decide))).symm
      have m426 := (m330).trans (fR_kept (x_lt hTH300 kH376 gtx_ (by decide))).symm
      have m427 := (m331).trans (fI_kept (x_lt hTH300 kH376 gw (by decide))).symm
      have m428 := (m332).trans (fI_kept (x_lt hTH300 kH376 gw (by decide))).symm
      have m429 := (m333).trans (fI_kept (x_lt hTH300 kH376 gw (by decide))).symm
      have m430 := (m334).trans (fI_kept (x_lt hTH300 kH376 gw (by decide))).symm
      have m431 := (m335).trans (fI_kept (x_lt hTH300 kH376 gw (by decide))).symm
      have m432 := (m336).trans (fI_kept (x_lt hTH300 kH376 gw (by decide))).symm
      have m433 := (fV_kept (x_lt hTH300 kH376 ga (by decide))).trans m342
      have m434 := (ex302).trans (fI_kept (x_lt hTH300 kH376 ga (by decide))).symm
      have m435 := (ex303).trans (fI_kept (x_lt hTH300 kH376 gq283 (by decide))).symm
      have m436 := (ex304).trans (fI_kept (x_lt hTH300 kH376 gq283 (by decide))).symm
      have m437 := (ex305).trans (fI_kept (x_lt hTH300 kH376 gq284 (by decide))).symm
      have m438 := (ex306).trans (fI_kept (x_lt hTH300 kH376 gq283 (by decide))).symm
      have m439 := (ex307).trans (fI_kept (x_lt hTH300 kH376 gq284 (by decide))).symm
      have m440 := (m351).trans (MF.i mf395 (k := 1) (by decide) (by decide)).symm
      have m441 := (m352).trans (MF.i mf395 (k := 2) (by decide) (by decide)).symm
      have m442 := (m353).trans (MF.i mf395 (k := 3) (by decide) (by decide)).symm
      have m443 := (m354).trans (MF.i mf395 (k := 59) (by decide) (by decide)).symm
      have m444 := (m355).trans (MF.i mf395 (k := 62) (by decide) (by decide)).symm
      have m445 := (m356).trans (MF.i mf395 (k := 65) (by decide) (by decide)).symm
      have m446 := (m357).trans (MF.r mf395 (k := 17) (by decide) (by decide)).symm
      have m447 := (m358).trans (MF.i mf395 (k := 70) (by decide) (by decide)).symm
      have m448 := (m359).trans (MF.r mf395 (k := 73) (by decide) (by decide)).symm
      have m449 := (eq365).trans (MF.r mf395 (k := 32) (by decide) (by decide)).symm
      have m450 := (eq366).trans (MF.r mf395 (k := 33) (by decide) (by decide)).symm
      have m451 := (eq367).trans (MF.r mf395 (k := 29) (by decide) (by decide)).symm
      have m452 := (eq368).trans (MF.r mf395 (k := 30) (by decide) (by decide)).symm
      have m453 := (eq369).trans (MF.r mf395 (k := 31) (by decide) (by decide)).symm
      have m454 := (eq370).trans (MF.r mf395 (k := 24) (by decide) (by decide)).symm
      have m455 := (eq371).trans (MF.r mf395 (k := 26) (by decide) (by decide)).symm
      have m456 := (eq372).trans (MF.r mf395 (k := 27) (by decide) (by decide)).symm
      have m457 := (eq373).trans (MF.r mf395 (k := 28) (by decide) (by decide)).symm
      have m458 := (eq374).trans (MF.r mf395 (k := 25) (by decide) (by decide)).symm
      have bx378 := ty_fi (x := x378) (k := 35) ex378 hTH376 gb rg_112 rfl
      have bx379 := ty_fi (x := x379) (k := 18) ex379 hTH376 gb rg_112 rfl
      refine W.eq (g2 := F0 m 475 ls [.int x377]) rfl ?_
      have hre := TXA.eq m337 m396 (by omega) (fun j hj => by show (fI _ tq j).toInt = (fI _ uq j).toInt; rw [ft0 j, f348 j]; exact congrArg Int32.toInt (htr j (by omega)).1)
      have r12 : RFW K H376 H300 w := RFW.cell hTH300 gw (fun q t hq ht => x_lt hTH300 kH376 hq (by first | exact nmr ht (by decide) | exact nmo ht (by decide) | exact nme ht (by decide) | exact nmq ht (by decide) | decide | (intro z; simp only [List.mem_cons, List.not_mem_nil, or_false] at z <;> omega) | omega))
      have cU := vcN.kept hTH300 gw r12 (fun q t hq ht => x_lt hTH300 kH376 hq (by first | exact nmr ht (by decide) | exact nmo ht (by decide) | exact nme ht (by decide) | exact nmq ht (by decide) | decide | (intro z; simp only [List.mem_cons, List.not_mem_nil, or_false] at z <;> omega) | omega))
      have own2 : OWN K H376 w := (re.1.st trf).st r12
      have tU : TPK (TXP K H376 w) (TXP K H300 w) := TXP.kept hTH300 gw r12 (fun q t hq ht => x_lt hTH300 kH376 hq (by first | exact nmr ht (by decide) | exact nmo ht (by decide) | exact nme ht (by decide) | exact nmq ht (by decide) | decide | (intro z; simp only [List.mem_cons, List.not_mem_nil, or_false] at z <;> omega) | omega))
      have er2 : ∀ bar, vrN K H376 b bar = vrN K H300 b bar := vrN.reg hTH300 gb (fun k hk => MF.r mf395 (by omega) (by intro z; simp only [List.mem_cons, List.not_mem_nil, or_false] at z; omega)) (fun q t hq ht => x_lt hTH300 kH376 hq (by first | exact nmr ht (by decide) | exact nmo ht (by decide) | exact nme ht (by decide) | exact nmq ht (by decide) | decide | (intro z; simp only [List.mem_cons, List.not_mem_nil, or_false] at z <;> omega) | omega))
      have rr_ : ∀ k : Nat, 24 ≤ k → k ≤ 33 → fR H376 b (K.1.2 10 k) = fR H300 b (K.1.2 10 k) := fun k h1 h2 => MF.r mf395 (by omega) (by intro z; simp only [List.mem_cons, List.not_mem_nil, or_false] at z; omega)
      have hb_ : ∀ j : Nat, j < ta.toNatClampNeg → (fun j => (fI H tq j).toInt) j = (fun j => (fI H300 uq j).toInt) j := fun j hj => by show (fI _ tq j).toInt = (fI _ uq j).toInt; rw [ft0 j, f348 j]; exact congrArg Int32.toInt (htr j (by omega)).1
      have hL_ : ta.toNatClampNeg = tb.toNatClampNeg := by omega
      have kC_ : kK (fun j => (fI H tq j).toInt) ta.toNatClampNeg = kK (fun j => (fI H300 uq j).toInt) tb.toNatClampNeg := (kK_c hb_).trans (by rw [hL_])
      have vC_ : vV (fun j => (fI H tq j).toInt) ta.toNatClampNeg = vV (fun j => (fI H300 uq j).toInt) tb.toNatClampNeg := (vV_c hb_).trans (by rw [hL_])
      have re459 : RE K H376 w b s1.toInt := by
        refine ⟨own2, re.2.1.congr (fun j hj => (cU j hj).trans (tbs j hj)) (fun j _ => by rw [show vrN K H376 b j = vrN K H b j from (er2 j).trans (er1 j)]; exact EqV.rf), ?_⟩
        rcases m338 with hm_ | ⟨n, hn_, h16_, hc_, hM_, hB_⟩
        · have hf_ := m399.resolve_left (fun z => z (by omega))
          exact re.2.2.congr (fun r kk vv lw n h1 h2 z => tU r kk vv lw n h1 h2 (HD.out ty_ hm_ r kk vv lw n h1 h2 z)) (fun r kk vv lw n h1 h2 z => TRP.frd rr_ hTH300 gb (by rw [← eq374, ← eq371, ← eq372, ← eq373, ← eq367, ← eq368, ← eq369, ← eq365, ← eq366]; exact hf_.1) (fun l => by rw [← eq370]; exact hf_.2 l) r kk vv lw n h1 h2 (tr1 r kk vv lw n h1 h2 z))
        · rcases m397 with hm2_ | ⟨n2, hn2_, -, hc2_, hMR_⟩
          · exfalso; omega
          · have en_ : n2 = n := by omega
            subst en_
            rw [kC_, vC_] at hM_
            have lwR_ : LWT (2 + ((xs (i.toNatClampNeg + 2)) : Int32).toNatClampNeg) = 0 := if_neg (by omega)
            have hl_ := (m396).lno hn2_
            rw [if_neg (by omega)] at hl_
            have rk_ : RWK H376 H300 (fR H300 b (K.1.2 10 25)) (fR H300 b (K.1.2 10 26)) (fR H300 b (K.1.2 10 27)) (fR H300 b (K.1.2 10 28)) (fR H300 b (K.1.2 10 29)) (fR H300 b (K.1.2 10 30)) (fR H300 b (K.1.2 10 31)) (fR H300 b (K.1.2 10 32)) (fR H300 b (K.1.2 10 33)) (fR H300 b (K.1.2 10 24)) (2 + ((xs (i.toNatClampNeg + 2)) : Int32).toNatClampNeg) := by rw [← eq374, ← eq371, ← eq372, ← eq373, ← eq367, ← eq368, ← eq369, ← eq365, ← eq366, ← eq370]; exact m398
            exact TPE.set (i := (2 + ((xs (i.toNatClampNeg + 2)) : Int32).toNatClampNeg)) re.2.2 h16_ (by rw [lwR_]; exact hl_) (by rw [lwR_]; exact tU _ _ _ _ _ (by omega) h16_ (by unfold TXP; rw [tow]; exact ⟨hM_, (congrArg Int32.toInt hc_).trans hn_, hB_⟩)) (by rw [lwR_]; exact ⟨hMR_, by rw [← m385]; exact (congrArg Int32.toInt hc2_).trans hn2_⟩) (fun r kk vv lw n h1 h2 h3 z => tU r kk vv lw n h1 h2 (tot r kk vv lw n h1 h2 (by omega) z)) (fun r kk vv lw n h1 h2 h3 z => TRP.rwk rr_ hTH300 gb rk_ r kk vv lw n h1 h2 h3 (tr1 r kk vv lw n h1 h2 z))
      refine lv_pop hx hb dL_law_475 rfl ?_
      refine lv_goto (tgt := 1509) hx hb dL_law_476 (by decide) ?_
      have cfin := i_cl (x := x379) bx379.1
      exact nx G H376 locsH376 _ _ ls ⟨hTH376, hN, ga, gb, g391, g392, g393, g394, ⟨(by rw [← m434, ← ex379]; omega), (by rw [← m404, ← m427, ← m440]; exact r1), (by rw [← m404, ← m428, ← m441]; exact r4), (by rw [← m404, ← m429, ← m442]; exact r5), (by rw [← m404, ← m430, ← m443]; exact r10), (by rw [← m404, ← m431, ← m444]; exact r13), (by rw [← m404, ← m432, ← m445]; exact r16)⟩, Or.inl ⟨m433, (by rw [← m447]; exact h70)⟩, (by unfold TB; rw [← m407, ← m386, ← ex379]; exact TBR.of htr f400 f401 (by omega)), (by unfold RELE; rw [← m404, ← m440, ← m429]; exact ⟨RE.cast re459 (by omega), by omega, by omega⟩), hSH376⟩ hl ⟨hc, hs, fun _ => ⟨hc0, hs0⟩⟩
    · skip
      refine x_V (As := [.int (xs (i.toNatClampNeg + 1)), .int (xs (i.toNatClampNeg + 2))]) (rest := []) C (a_X9_text_n l K G H ((xs (i.toNatClampNeg + 1))) ((xs (i.toNatClampNeg + 2))) (ta) (s1) (s4) (s5) (s10) (s13) (s16) hT ga gw ew gtq etq eta es1 es4 es5 es10 es13 es16 (by omega) kn) yo_X9_text wM_L_43 ⟨⟨by decide, by decide⟩, show _ ≤ 60000 from Nat.le_trans hc (by decide), show _ ≤ 8922250 from Nat.le_trans hs (by decide)⟩ (x_rv C hT (ci := 9) rfl ga rg_68) rfl hl.1 rfl (Nat.le_of_ble_eq_true rfl) dL_law_457 hS (AE_new hN hS.1) (fun vH460 H460 locsH460 pH460 zH460 kH460 hSH460 => ?_)
      obtain ⟨x461, x462, hvH460, bx461, ex462, hrH460, m463, m464, m465, m466, m467, m468, m469, m470, m471, m472, hTH460⟩ := pH460
      subst hvH460
      have g473 : CG (avw K H460 b) := CG.congr (fun k hk j => av_eff hT kH460 gb (by decide) (CG_eff [68, 0] (by decide) k hk)) cg
      have g474 : TU (avw K H460 b) (svw K H460 b) := TU.congr (fun k hk j => av_eff hT kH460 gb (by decide) (TU_eff [68, 0] (by decide) k hk)) (fun k hk => sv_eff hT kH460 gb (by decide)) tu
      have g475 : WD (avw K H460 b) := WD.congr (fun k hk j => av_eff hT kH460 gb (by decide) (WD_eff [68, 0] (by decide) k hk)) wd
      have g476 : IM (avw K H460 b) := IM.congr (fun k hk j => av_eff hT kH460 gb (by decide) (IM_eff [68, 0] (by decide) k hk)) im
      have f477 : ∀ j : Nat, fI H460 tq j = fI H tq j := fun j => (fI_kept (x_lt hT kH460 gtq (by decide))).trans (ft0 j)
      have f478 : ∀ j : Nat, fI H460 uq j = fI H uq j := fun j => (fI_kept (x_lt hT kH460 guq (by decide))).trans (fu0 j)
      have m479 := (etb).trans (fI_kept (x_lt hT kH460 gb (by decide))).symm
      have m480 := (ey1).trans (fI_kept (x_lt hT kH460 gb (by decide))).symm
      have m481 := (ey4).trans (fI_kept (x_lt hT kH460 gb (by decide))).symm
      have m482 := (ey5).trans (fI_kept (x_lt hT kH460 gb (by decide))).symm
      have m483 := (ey10).trans (fI_kept (x_lt hT kH460 gb (by decide))).symm
      have m484 := (ey13).trans (fI_kept (x_lt hT kH460 gb (by decide))).symm
      have m485 := (ey16).trans (fI_kept (x_lt hT kH460 gb (by decide))).symm
      have m486 := (euq).trans (fR_kept (x_lt hT kH460 gb (by decide))).symm
      have m487 := (ehi).trans (fI_kept (x_lt hT kH460 gb (by decide))).symm
      have m488 := (eiq).trans (fR_kept (x_lt hT kH460 gb (by decide))).symm
      have bx462 := ty_fi (x := x462) (k := 3) ex462 hTH460 ga rg_68 rfl
      refine W.eq (g2 := F0 m 460 ls [.int x461]) rfl ?_
      have re489 : RE K H460 w b s1.toInt := RE.now re hT gw gb m471 (fun q t hq ht => x_lt hT kH460 hq (by first | exact nmr ht (by decide) | exact nmo ht (by decide) | exact nme ht (by decide) | exact nmq ht (by decide) | decide | (intro z; simp only [List.mem_cons, List.not_mem_nil, or_false] at z <;> omega) | omega))
      refine lv_pop hx hb dL_law_460 rfl ?_
      refine lv_aload_n hx hb dL_law_461 rfl (lv_at hl 1 rfl) ?_
      refine lv_aload_n hx hb dL_law_462 rfl (lv_at hl 3 rfl) ?_
      refine lv_iload_n hx hb dL_law_463 rfl (lv_at hl 0 rfl) ?_
      refine lv_iconst (v := 1) hx hb dL_law_464 (by decide) ?_
      refine lv_iadd hx hb dL_law_465 ?_
      refine lv_topi (fun x490 ex490 => ?_)
      obtain ⟨tx490, ejx490, evx490⟩ := lw_ix (k := 1) ex490 hI hL rfl (by decide)
      clear tx490
      refine va_sld hx hb hX hbl (Nat.not_le.mpr hbl) hSH460 (vp_in_iff.mpr evx490) dL_law_466 ?_
      refine W.eq (g2 := F0 m 467 ls [.int (xs (i.toNatClampNeg + 1)), .ref b]) (congrArg (fun z => F0 m 467 ls [.int (xs z), .ref b]) ejx490) ?_
      refine lv_aload_n hx hb dL_law_467 rfl (lv_at hl 3 rfl) ?_
      refine lv_iload_n hx hb dL_law_468 rfl (lv_at hl 0 rfl) ?_
      refine lv_iconst (v := 2) hx hb dL_law_469 (by decide) ?_
      refine lv_iadd hx hb dL_law_470 ?_
      refine lv_topi (fun x491 ex491 => ?_)
      obtain ⟨tx491, ejx491, evx491⟩ := lw_ix (k := 2) ex491 hI hL rfl (by decide)
      clear tx491
      refine va_sld hx hb hX hbl (Nat.not_le.mpr hbl) hSH460 (vp_in_iff.mpr evx491) dL_law_471 ?_
      refine W.eq (g2 := F0 m 472 ls [.int (xs (i.toNatClampNeg + 2)), .int (xs (i.toNatClampNeg + 1)), .ref b]) (congrArg (fun z => F0 m 472 ls [.int (xs z), .int (xs (i.toNatClampNeg + 1)), .ref b]) ejx491) ?_
      refine x_V (As := [.int (xs (i.toNatClampNeg + 1)), .int (xs (i.toNatClampNeg + 2))]) (rest := []) C (a_X10_text_n l K G H460 ((xs (i.toNatClampNeg + 1))) ((xs (i.toNatClampNeg + 2))) (tb) hTH460 gb m479 g473 g474 g475 g476 (by omega)) yo_X10_text wM_L_47 ⟨⟨by decide, by decide⟩, show _ ≤ 60000 from Nat.le_trans hc (by decide), show _ ≤ 8922250 from Nat.le_trans hs (by decide)⟩ (x_rv C hTH460 (ci := 10) rfl gb rg_112) rfl hl.1 rfl (Nat.le_of_ble_eq_true rfl) dL_law_472 hSH460 (AE_new hN hSH460.1) (fun vH492 H492 locsH492 pH492 zH492 kH492 hSH492 => ?_)
      obtain ⟨x493, x494, hvH492, bx493, ex494, hrH492, g495, g496, g497, g498, mf499, hTH492⟩ := pH492
      subst hvH492
      have f500 : ∀ j : Nat, fI H492 tq j = fI H tq j := fun j => (fI_kept (x_lt hTH460 kH492 gtq (by decide))).trans (f477 j)
      have f501 : ∀ j : Nat, fI H492 uq j = fI H uq j := fun j => (fI_kept (x_lt hTH460 kH492 guq (by decide))).trans (f478 j)
      have m502 := (m463).trans (fR_kept (x_lt hTH460 kH492 ga (by decide))).symm
      have m503 := (m464).trans (fR_kept (x_lt hTH460 kH492 ga (by decide))).symm
      have m504 := (m465).trans (fI_kept (x_lt hTH460 kH492 gw (by decide))).symm
      have m505 := (m466).trans (fI_kept (x_lt hTH460 kH492 gw (by decide))).symm
      have m506 := (m467).trans (fI_kept (x_lt hTH460 kH492 gw (by decide))).symm
      have m507 := (m468).trans (fI_kept (x_lt hTH460 kH492 gw (by decide))).symm
      have m508 := (m469).trans (fI_kept (x_lt hTH460 kH492 gw (by decide))).symm
      have m509 := (m470).trans (fI_kept (x_lt hTH460 kH492 gw (by decide))).symm
      have m510 := (fV_kept (x_lt hTH460 kH492 ga (by decide))).trans m472
      have m511 := (ex462).trans (fI_kept (x_lt hTH460 kH492 ga (by decide))).symm
      have m512 := (m480).trans (MF.i mf499 (k := 1) (by decide) (by decide)).symm
      have m513 := (m481).trans (MF.i mf499 (k := 2) (by decide) (by decide)).symm
      have m514 := (m482).trans (MF.i mf499 (k := 3) (by decide) (by decide)).symm
      have m515 := (m483).trans (MF.i mf499 (k := 59) (by decide) (by decide)).symm
      have m516 := (m484).trans (MF.i mf499 (k := 62) (by decide) (by decide)).symm
      have m517 := (m485).trans (MF.i mf499 (k := 65) (by decide) (by decide)).symm
      have m518 := (m486).trans (MF.r mf499 (k := 17) (by decide) (by decide)).symm
      have m519 := (m487).trans (MF.i mf499 (k := 70) (by decide) (by decide)).symm
      have m520 := (m488).trans (MF.r mf499 (k := 73) (by decide) (by decide)).symm
      have bx494 := ty_fi (x := x494) (k := 18) ex494 hTH492 gb rg_112 rfl
      refine W.eq (g2 := F0 m 475 ls [.int x493]) rfl ?_
      have re521 : RE K H492 w b s1.toInt := RE.ref re489 hTH460 gw gb (fun k hk => MF.r mf499 (by omega) (by intro z; simp only [List.mem_cons, List.not_mem_nil, or_false] at z; omega)) (fun q t hq ht => x_lt hTH460 kH492 hq (by first | exact nmr ht (by decide) | exact nmo ht (by decide) | exact nme ht (by decide) | exact nmq ht (by decide) | decide | (intro z; simp only [List.mem_cons, List.not_mem_nil, or_false] at z <;> omega) | omega))
      refine lv_pop hx hb dL_law_475 rfl ?_
      refine lv_goto (tgt := 1509) hx hb dL_law_476 (by decide) ?_
      have cfin := i_cl (x := x494) bx494.1
      exact nx G H492 locsH492 _ _ ls ⟨hTH492, hN, ga, gb, g495, g496, g497, g498, ⟨(by rw [← m511, ← ex494]; omega), (by rw [← m502, ← m504, ← m512]; exact r1), (by rw [← m502, ← m505, ← m513]; exact r4), (by rw [← m502, ← m506, ← m514]; exact r5), (by rw [← m502, ← m507, ← m515]; exact r10), (by rw [← m502, ← m508, ← m516]; exact r13), (by rw [← m502, ← m509, ← m517]; exact r16)⟩, Or.inl ⟨m510, (by rw [← m519]; exact h70)⟩, (by unfold TB; rw [← m503, ← m518, ← ex494]; exact TBR.of htr f500 f501 (by omega)), (by unfold RELE; rw [← m502, ← m512, ← m506]; exact ⟨RE.cast re521 (by omega), by omega, by omega⟩), hSH492⟩ hl ⟨hc, hs, fun _ => ⟨hc0, hs0⟩⟩
  · skip
    obtain ⟨hi, ehi⟩ : ∃ z : Int32, z = fI H b (K.1.2 10 70) := ⟨_, rfl⟩
    rw [← ehi] at h70
    obtain ⟨iq, eiq⟩ : ∃ z : Nat, z = fR H b (K.1.2 10 73) := ⟨_, rfl⟩
    have giq := ty_fr (q := iq) (k := 73) (u := 162) eiq hT gb rg_112 rfl
    rw [← eiq] at q1 q4 q5 q10 q13 q16
    obtain ⟨k1, ek1⟩ : ∃ z : Int32, z = fI H kq (K.1.2 8 1) := ⟨_, rfl⟩
    rw [← ek1] at q1
    obtain ⟨i1, ei1⟩ : ∃ z : Int32, z = fI H iq ((0 : Int32).toNatClampNeg) := ⟨_, rfl⟩
    rw [← ei1] at q1
    obtain ⟨k4, ek4⟩ : ∃ z : Int32, z = fI H kq (K.1.2 8 4) := ⟨_, rfl⟩
    rw [← ek4] at q4
    obtain ⟨i4, ei4⟩ : ∃ z : Int32, z = fI H iq ((1 : Int32).toNatClampNeg) := ⟨_, rfl⟩
    rw [← ei4] at q4
    obtain ⟨k5, ek5⟩ : ∃ z : Int32, z = fI H kq (K.1.2 8 5) := ⟨_, rfl⟩
    rw [← ek5] at q5
    obtain ⟨i5, ei5⟩ : ∃ z : Int32, z = fI H iq ((2 : Int32).toNatClampNeg) := ⟨_, rfl⟩
    rw [← ei5] at q5
    obtain ⟨k10, ek10⟩ : ∃ z : Int32, z = fI H kq (K.1.2 8 10) := ⟨_, rfl⟩
    rw [← ek10] at q10
    obtain ⟨i10, ei10⟩ : ∃ z : Int32, z = fI H iq ((3 : Int32).toNatClampNeg) := ⟨_, rfl⟩
    rw [← ei10] at q10
    obtain ⟨k13, ek13⟩ : ∃ z : Int32, z = fI H kq (K.1.2 8 13) := ⟨_, rfl⟩
    rw [← ek13] at q13
    obtain ⟨i13, ei13⟩ : ∃ z : Int32, z = fI H iq ((4 : Int32).toNatClampNeg) := ⟨_, rfl⟩
    rw [← ei13] at q13
    obtain ⟨k16, ek16⟩ : ∃ z : Int32, z = fI H kq (K.1.2 8 16) := ⟨_, rfl⟩
    rw [← ek16] at q16
    obtain ⟨i16, ei16⟩ : ∃ z : Int32, z = fI H iq ((5 : Int32).toNatClampNeg) := ⟨_, rfl⟩
    rw [← ei16] at q16
    rw [← eiq, ← ek1] at rke
    have hsk : 0 ≤ k5.toInt ∧ k5.toInt ≤ 9999 := by rw [ek5]; exact ⟨ks1, ks2⟩
    refine lv_aload_n hx hb dL_law_446 rfl (lv_at hl 2 rfl) ?_
    refine lv_aload_n hx hb dL_law_447 rfl (lv_at hl 3 rfl) ?_
    refine lv_iload_n hx hb dL_law_448 rfl (lv_at hl 0 rfl) ?_
    refine lv_iconst (v := 1) hx hb dL_law_449 (by decide) ?_
    refine lv_iadd hx hb dL_law_450 ?_
    refine lv_topi (fun x522 ex522 => ?_)
    obtain ⟨tx522, ejx522, evx522⟩ := lw_ix (k := 1) ex522 hI hL rfl (by decide)
    clear tx522
    refine va_sld hx hb hX hbl (Nat.not_le.mpr hbl) hS (vp_in_iff.mpr evx522) dL_law_451 ?_
    refine W.eq (g2 := F0 m 452 ls [.int (xs (i.toNatClampNeg + 1)), .ref a]) (congrArg (fun z => F0 m 452 ls [.int (xs z), .ref a]) ejx522) ?_
    refine lv_aload_n hx hb dL_law_452 rfl (lv_at hl 3 rfl) ?_
    refine lv_iload_n hx hb dL_law_453 rfl (lv_at hl 0 rfl) ?_
    refine lv_iconst (v := 2) hx hb dL_law_454 (by decide) ?_
    refine lv_iadd hx hb dL_law_455 ?_
    refine lv_topi (fun x523 ex523 => ?_)
    obtain ⟨tx523, ejx523, evx523⟩ := lw_ix (k := 2) ex523 hI hL rfl (by decide)
    clear tx523
    refine va_sld hx hb hX hbl (Nat.not_le.mpr hbl) hS (vp_in_iff.mpr evx523) dL_law_456 ?_
    refine W.eq (g2 := F0 m 457 ls [.int (xs (i.toNatClampNeg + 2)), .int (xs (i.toNatClampNeg + 1)), .ref a]) (congrArg (fun z => F0 m 457 ls [.int (xs z), .int (xs (i.toNatClampNeg + 1)), .ref a]) ejx523) ?_
    have sp524 : ((xs (i.toNatClampNeg + 1)).toInt = 0 ∧ 0 ≤ (xs (i.toNatClampNeg + 2)).toInt ∧ (xs (i.toNatClampNeg + 2)).toInt ≤ 1) ∨ ((xs (i.toNatClampNeg + 1)).toInt = 1 ∧ 0 ≤ (xs (i.toNatClampNeg + 2)).toInt ∧ (xs (i.toNatClampNeg + 2)).toInt ≤ 3) ∨ (((xs (i.toNatClampNeg + 1)).toInt ≠ 0 ∨ (xs (i.toNatClampNeg + 2)).toInt < 0 ∨ 2 ≤ (xs (i.toNatClampNeg + 2)).toInt) ∧ ((xs (i.toNatClampNeg + 1)).toInt ≠ 1 ∨ (xs (i.toNatClampNeg + 2)).toInt < 0 ∨ 4 ≤ (xs (i.toNatClampNeg + 2)).toInt)) := by omega
    rcases sp524 with hsp | hsp | hsp
    · skip
      have bt525 : ∀ j : Nat, (fun j => (fI H tq j).toInt) j = (fI H tq j).toInt := fun _ => rfl
      have cte := i_cl (x := (xs (i.toNatClampNeg + 2))) (by omega)
      obtain ⟨lq_, elq_⟩ : ∃ z : Nat, z = fR H w (K.1.2 8 2) := ⟨_, rfl⟩
      have glq_ := ty_fr (q := lq_) (k := 2) (u := 26) elq_ hT gw rg_0 rfl
      obtain ⟨tx_, etx_⟩ : ∃ z : Nat, z = fR H lq_ ((xs (i.toNatClampNeg + 2)) : Int32).toNatClampNeg := ⟨_, rfl⟩
      have eow_ : ow K H w (10 + ((xs (i.toNatClampNeg + 2)) : Int32).toNatClampNeg) = tx_ := by rw [ow_l (by omega), ← elq_, ← etx_]
      have gtx_ : G tx_ = some 16 := by rw [← eow_]; exact ow_t hT gw (by omega) (by omega)
      obtain ⟨xr1, exr1⟩ : ∃ z : Nat, z = fR H tx_ (K.1.2 7 1) := ⟨_, rfl⟩
      have gxr1 := ty_fr (q := xr1) (k := 1) (u := 17) exr1 hT gtx_ rg_16 rfl
      obtain ⟨xr2, exr2⟩ : ∃ z : Nat, z = fR H tx_ (K.1.2 7 2) := ⟨_, rfl⟩
      have gxr2 := ty_fr (q := xr2) (k := 2) (u := 18) exr2 hT gtx_ rg_16 rfl
      obtain ⟨xr3, exr3⟩ : ∃ z : Nat, z = fR H tx_ (K.1.2 7 3) := ⟨_, rfl⟩
      have gxr3 := ty_fr (q := xr3) (k := 3) (u := 19) exr3 hT gtx_ rg_16 rfl
      obtain ⟨xr4, exr4⟩ : ∃ z : Nat, z = fR H tx_ (K.1.2 7 4) := ⟨_, rfl⟩
      have gxr4 := ty_fr (q := xr4) (k := 4) (u := 20) exr4 hT gtx_ rg_16 rfl
      obtain ⟨xr5, exr5⟩ : ∃ z : Nat, z = fR H tx_ (K.1.2 7 5) := ⟨_, rfl⟩
      have gxr5 := ty_fr (q := xr5) (k := 5) (u := 21) exr5 hT gtx_ rg_16 rfl
      obtain ⟨xr6, exr6⟩ : ∃ z : Nat, z = fR H tx_ (K.1.2 7 6) := ⟨_, rfl⟩
      have gxr6 := ty_fr (q := xr6) (k := 6) (u := 22) exr6 hT gtx_ rg_16 rfl
      obtain ⟨xr7, exr7⟩ : ∃ z : Nat, z = fR H tx_ (K.1.2 7 7) := ⟨_, rfl⟩
      have gxr7 := ty_fr (q := xr7) (k := 7) (u := 23) exr7 hT gtx_ rg_16 rfl
      obtain ⟨xr8, exr8⟩ : ∃ z : Nat, z = fR H tx_ (K.1.2 7 8) := ⟨_, rfl⟩
      have gxr8 := ty_fr (q := xr8) (k := 8) (u := 24) exr8 hT gtx_ rg_16 rfl
      obtain ⟨q526, eq526⟩ : ∃ z : Nat, @Eq Ad z (fR H a (K.1.2 9 4)) := ⟨_, rfl⟩
      have gq526 := ty_fr (q := q526) (k := 4) (u := 78) eq526 hT ga rg_68 rfl
      obtain ⟨q527, eq527⟩ : ∃ z : Nat, @Eq Ad z (fR H q526 (K.1.2 4 0)) := ⟨_, rfl⟩
      have gq527 := ty_fr (q := q527) (k := 0) (u := 69) eq527 hT gq526 rg_78 rfl
      obtain ⟨q528, eq528⟩ : ∃ z : Nat, @Eq Ad z (fR H q526 (K.1.2 4 3)) := ⟨_, rfl⟩
      have gq528 := ty_fr (q := q528) (k := 3) (u := 79) eq528 hT gq526 rg_78 rfl
      obtain ⟨q529, eq529⟩ : ∃ z : Nat, @Eq Ad z (fR H q526 (K.1.2 4 4)) := ⟨_, rfl⟩
      have gq529 := ty_fr (q := q529) (k := 4) (u := 80) eq529 hT gq526 rg_78 rfl
      obtain ⟨q530, eq530⟩ : ∃ z : Nat, @Eq Ad z (fR H q527 (K.1.2 7 1)) := ⟨_, rfl⟩
      have gq530 := ty_fr (q := q530) (k := 1) (u := 70) eq530 hT gq527 rg_69 rfl
      obtain ⟨q531, eq531⟩ : ∃ z : Nat, @Eq Ad z (fR H q527 (K.1.2 7 2)) := ⟨_, rfl⟩
      have gq531 := ty_fr (q := q531) (k := 2) (u := 71) eq531 hT gq527 rg_69 rfl
      obtain ⟨q532, eq532⟩ : ∃ z : Nat, @Eq Ad z (fR H q527 (K.1.2 7 3)) := ⟨_, rfl⟩
      have gq532 := ty_fr (q := q532) (k := 3) (u := 72) eq532 hT gq527 rg_69 rfl
      obtain ⟨q533, eq533⟩ : ∃ z : Nat, @Eq Ad z (fR H q527 (K.1.2 7 4)) := ⟨_, rfl⟩
      have gq533 := ty_fr (q := q533) (k := 4) (u := 73) eq533 hT gq527 rg_69 rfl
      obtain ⟨q534, eq534⟩ : ∃ z : Nat, @Eq Ad z (fR H q527 (K.1.2 7 5)) := ⟨_, rfl⟩
      have gq534 := ty_fr (q := q534) (k := 5) (u := 74) eq534 hT gq527 rg_69 rfl
      obtain ⟨q535, eq535⟩ : ∃ z : Nat, @Eq Ad z (fR H q527 (K.1.2 7 6)) := ⟨_, rfl⟩
      have gq535 := ty_fr (q := q535) (k := 6) (u := 75) eq535 hT gq527 rg_69 rfl
      obtain ⟨q536, eq536⟩ : ∃ z : Nat, @Eq Ad z (fR H q527 (K.1.2 7 7)) := ⟨_, rfl⟩
      have gq536 := ty_fr (q := q536) (k := 7) (u := 76) eq536 hT gq527 rg_69 rfl
      obtain ⟨q537, eq537⟩ : ∃ z : Nat, @Eq Ad z (fR H q527 (K.1.2 7 8)) := ⟨_, rfl⟩
      have gq537 := ty_fr (q := q537) (k := 8) (u := 77) eq537 hT gq527 rg_69 rfl
      obtain ⟨x538, ex538⟩ : ∃ z : Int32, z = fI H q526 (K.1.2 4 7) := ⟨_, rfl⟩
      have bx538 := ty_fi (x := x538) (k := 7) ex538 hT gq526 rg_78 rfl
      obtain ⟨x539, ex539⟩ : ∃ z : Int32, z = fI H q526 (K.1.2 4 1) := ⟨_, rfl⟩
      have bx539 := ty_fi (x := x539) (k := 1) ex539 hT gq526 rg_78 rfl
      obtain ⟨x540, ex540⟩ : ∃ z : Int32, z = fI H q527 (K.1.2 7 0) := ⟨_, rfl⟩
      have bx540 := ty_fi (x := x540) (k := 0) ex540 hT gq527 rg_69 rfl
      obtain ⟨x541, ex541⟩ : ∃ z : Int32, z = fI H q526 (K.1.2 4 8) := ⟨_, rfl⟩
      have bx541 := ty_fi (x := x541) (k := 8) ex541 hT gq526 rg_78 rfl
      obtain ⟨x542, ex542⟩ : ∃ z : Int32, z = fI H q527 (K.1.2 7 9) := ⟨_, rfl⟩
      have bx542 := ty_fi (x := x542) (k := 9) ex542 hT gq527 rg_69 rfl
      refine x_V (As := [.int (xs (i.toNatClampNeg + 1)), .int (xs (i.toNatClampNeg + 2))]) (rest := []) C (a_X9_text_l l K G H ((xs (i.toNatClampNeg + 1))) ((xs (i.toNatClampNeg + 2))) (ta) (x538) (x539) (x540) (x541) (x542) (s1) (s4) (s5) (s10) (s13) (s16) (fun j => (fI H tq j).toInt) hT ga (by omega) (by omega) gw ew glq_ elq_ gtx_ etx_ gq526 eq526 gtq etq gq527 eq527 gq528 eq528 gq529 eq529 gq530 eq530 gq531 eq531 gq532 eq532 gq533 eq533 gq534 eq534 gq535 eq535 gq536 eq536 gq537 eq537 gxr1 exr1 gxr2 exr2 gxr3 exr3 gxr4 exr4 gxr5 exr5 gxr6 exr6 gxr7 exr7 gxr8 exr8 eta ex538 ex539 ex540 ex541 ex542 es1 es4 es5 es10 es13 es16 kn bt525) yo_X9_text wM_L_43 ⟨⟨by decide, by decide⟩, show _ ≤ 60000 from Nat.le_trans hc (by decide), show _ ≤ 8922250 from Nat.le_trans hs (by decide)⟩ (x_rv C hT (ci := 9) rfl ga rg_68) rfl hl.1 rfl (Nat.le_of_ble_eq_true rfl) dL_law_457 hS (AE_new hN hS.1) (fun vH543 H543 locsH543 pH543 zH543 kH543 hSH543 => ?_)
      obtain ⟨x544, x545, x546, x547, x548, x549, x550, hvH543, ex545, ex546, ex547, ex548, ex549, ex550, hrH543, m551, m552, m553, m554, m555, m556, m557, m558, m559, m560, m561, m562, m563, m564, m565, m566, m567, m568, m569, m570, m571, m572, m573, m574, m575, m576, m577, m578, m579, m580, m581, m582, m583, m584, m585, hTH543⟩ := pH543
      subst hvH543
      have g586 : CG (avw K H543 b) := CG.congr (fun k hk j => av_eff hT kH543 gb (by decide) (CG_eff [68, 0, 78, 79, 80, 81, 69, 70, 71, 72, 73, 74, 75, 76, 77, 16, 17, 18, 19, 20, 21, 22, 23, 24] (by decide) k hk)) cg
      have g587 : TU (avw K H543 b) (svw K H543 b) := TU.congr (fun k hk j => av_eff hT kH543 gb (by decide) (TU_eff [68, 0, 78, 79, 80, 81, 69, 70, 71, 72, 73, 74, 75, 76, 77, 16, 17, 18, 19, 20, 21, 22, 23, 24] (by decide) k hk)) (fun k hk => sv_eff hT kH543 gb (by decide)) tu
      have g588 : WD (avw K H543 b) := WD.congr (fun k hk j => av_eff hT kH543 gb (by decide) (WD_eff [68, 0, 78, 79, 80, 81, 69, 70, 71, 72, 73, 74, 75, 76, 77, 16, 17, 18, 19, 20, 21, 22, 23, 24] (by decide) k hk)) wd
      have g589 : IM (avw K H543 b) := IM.congr (fun k hk j => av_eff hT kH543 gb (by decide) (IM_eff [68, 0, 78, 79, 80, 81, 69, 70, 71, 72, 73, 74, 75, 76, 77, 16, 17, 18, 19, 20, 21, 22, 23, 24] (by decide) k hk)) im
      have f590 : ∀ j : Nat, fI H543 tq j = fI H tq j := fun j => (fI_kept (x_lt hT kH543 gtq (by decide))).trans (ft0 j)
      have f591 : ∀ j : Nat, fI H543 uq j = fI H uq j := fun j => (fI_kept (x_lt hT kH543 guq (by decide))).trans (fu0 j)
      have f592 : ∀ j : Nat, (fun j => (fI H tq j).toInt) j = (fI H543 tq j).toInt := fun j => (bt525 j).trans (congrArg Int32.toInt (fI_kept (x_lt hT kH543 gtq (by decide))).symm)
      have m593 := (etb).trans (fI_kept (x_lt hT kH543 gb (by decide))).symm
      have m594 := (ey1).trans (fI_kept (x_lt hT kH543 gb (by decide))).symm
      have m595 := (ey4).trans (fI_kept (x_lt hT kH543 gb (by decide))).symm
      have m596 := (ey5).trans (fI_kept (x_lt hT kH543 gb (by decide))).symm
      have m597 := (ey10).trans (fI_kept (x_lt hT kH543 gb (by decide))).symm
      have m598 := (ey13).trans (fI_kept (x_lt hT kH543 gb (by decide))).symm
      have m599 := (ey16).trans (fI_kept (x_lt hT kH543 gb (by decide))).symm
      have m600 := (euq).trans (fR_kept (x_lt hT kH543 gb (by decide))).symm
      have m601 := (ehi).trans (fI_kept (x_lt hT kH543 gb (by decide))).symm
      have m602 := (eiq).trans (fR_kept (x_lt hT kH543 gb (by decide))).symm
      have m603 := (ek1).trans (fI_kept (x_lt hT kH543 gkq (by decide))).symm
      have m604 := (ei1).trans (fI_kept (x_lt hT kH543 giq (by decide))).symm
      have m605 := (ek4).trans (fI_kept (x_lt hT kH543 gkq (by decide))).symm
      have m606 := (ei4).trans (fI_kept (x_lt hT kH543 giq (by decide))).symm
      have m607 := (ek5).trans (fI_kept (x_lt hT kH543 gkq (by decide))).symm
      have m608 := (ei5).trans (fI_kept (x_lt hT kH543 giq (by decide))).symm
      have m609 := (ek10).trans (fI_kept (x_lt hT kH543 gkq (by decide))).symm
      have m610 := (ei10).trans (fI_kept (x_lt hT kH543 giq (by decide))).symm
      have m611 := (ek13).trans (fI_kept (x_lt hT kH543 gkq (by decide))).symm
      have m612 := (ei13).trans (fI_kept (x_lt hT kH543 giq (by decide))).symm
      have m613 := (ek16).trans (fI_kept (x_lt hT kH543 gkq (by decide))).symm
      have m614 := (ei16).trans (fI_kept (x_lt hT kH543 giq (by decide))).symm
      have m615 := (etx_).trans (fR_kept (x_lt hT kH543 glq_ (by decide))).symm
      have bx545 := ty_fi (x := x545) (k := 3) ex545 hTH543 ga rg_68 rfl
      have bx546 := ty_fi (x := x546) (k := 7) ex546 hTH543 gq526 rg_78 rfl
      have bx547 := ty_fi (x := x547) (k := 1) ex547 hTH543 gq526 rg_78 rfl
      have bx548 := ty_fi (x := x548) (k := 0) ex548 hTH543 gq527 rg_69 rfl
      have bx549 := ty_fi (x := x549) (k := 8) ex549 hTH543 gq526 rg_78 rfl
      have bx550 := ty_fi (x := x550) (k := 9) ex550 hTH543 gq527 rg_69 rfl
      refine W.eq (g2 := F0 m 460 ls [.int x544]) rfl ?_
      have rk616 : RKI K H543 kq iq k1.toInt := RKI.kept rke hT gkq (x_lt hT kH543 giq (by first | exact nmr ht (by decide) | exact nmo ht (by decide) | exact nme ht (by decide) | exact nmq ht (by decide) | decide | (intro z; simp only [List.mem_cons, List.not_mem_nil, or_false] at z <;> omega) | omega)) (fun q t hq ht => x_lt hT kH543 hq (by first | exact nmr ht (by decide) | exact nmo ht (by decide) | exact nme ht (by decide) | exact nmq ht (by decide) | decide | (intro z; simp only [List.mem_cons, List.not_mem_nil, or_false] at z <;> omega) | omega))
      have rt_ : RFT K H543 H tx_ := fun k h1 h8 => by have z : k = 1 ∨ k = 2 ∨ k = 3 ∨ k = 4 ∨ k = 5 ∨ k = 6 ∨ k = 7 ∨ k = 8 := (by omega); rcases z with rfl | rfl | rfl | rfl | rfl | rfl | rfl | rfl; exact (m566).symm.trans exr1; exact (m567).symm.trans exr2; exact (m568).symm.trans exr3; exact (m569).symm.trans exr4; exact (m570).symm.trans exr5; exact (m571).symm.trans exr6; exact (m572).symm.trans exr7; exact (m573).symm.trans exr8
      obtain ⟨trf, tbs, tow, tot⟩ := text_one (H1 := H543) re.1 hT gw (j := 10 + ((xs (i.toNatClampNeg + 2)) : Int32).toNatClampNeg) (by omega) eow_ m584 rt_ (fun q t hq ht n1 n2 => m582 q t hq (by omega) (by omega) (by omega) (by omega) (by omega) (by omega) (by omega) (by omega) (by omega) (by omega) (by omega) (by omega) (by omega) (by omega) (by omega) n1 (by rw [exr1]; exact n2 1 (by decide)) (by rw [exr2]; exact n2 2 (by decide)) (by rw [exr3]; exact n2 3 (by decide)) (by rw [exr4]; exact n2 4 (by decide)) (by rw [exr5]; exact n2 5 (by decide)) (by rw [exr6]; exact n2 6 (by decide)) (by rw [exr7]; exact n2 7 (by decide)) (by rw [exr8]; exact n2 8 (by decide)))
      have ty_ : HD (x544.toInt = -1 → TPK (TXP K H543 w) (TXP K H w)) := HD.mk (fun h => TXP.kept hT gw trf (fun q t hq ht => (m583.resolve_left (fun z => z h)) q t hq (by omega) (by omega) (by omega) (by omega) (by omega) (by omega) (by omega) (by omega) (by omega) (by omega) (by omega) (by omega) (by omega) (by omega) (by omega)))
      have er1 : ∀ bar, vrN K H543 b bar = vrN K H b bar := vrN.reg hT gb (fun k _ => fR_kept (x_lt hT kH543 gb (by first | exact nmr ht (by decide) | exact nmo ht (by decide) | exact nme ht (by decide) | exact nmq ht (by decide) | decide | (intro z; simp only [List.mem_cons, List.not_mem_nil, or_false] at z <;> omega) | omega))) (fun q t hq ht => x_lt hT kH543 hq (by first | exact nmr ht (by decide) | exact nmo ht (by decide) | exact nme ht (by decide) | exact nmq ht (by decide) | decide | (intro z; simp only [List.mem_cons, List.not_mem_nil, or_false] at z <;> omega) | omega))
      have tr1 : TPK (TRP K H543 b) (TRP K H b) := TRP.reg hT gb (fun k _ _ => fR_kept (x_lt hT kH543 gb (by first | exact nmr ht (by decide) | exact nmo ht (by decide) | exact nme ht (by decide) | exact nmq ht (by decide) | decide | (intro z; simp only [List.mem_cons, List.not_mem_nil, or_false] at z <;> omega) | omega))) (fun q t hq ht => x_lt hT kH543 hq (by first | exact nmr ht (by decide) | exact nmo ht (by decide) | exact nme ht (by decide) | exact nmq ht (by decide) | decide | (intro z; simp only [List.mem_cons, List.not_mem_nil, or_false] at z <;> omega) | omega))
      refine lv_pop hx hb dL_law_460 rfl ?_
      refine lv_aload_n hx hb dL_law_461 rfl (lv_at hl 1 rfl) ?_
      refine lv_aload_n hx hb dL_law_462 rfl (lv_at hl 3 rfl) ?_
      refine lv_iload_n hx hb dL_law_463 rfl (lv_at hl 0 rfl) ?_
      refine lv_iconst (v := 1) hx hb dL_law_464 (by decide) ?_
      refine lv_iadd hx hb dL_law_465 ?_
      refine lv_topi (fun x617 ex617 => ?_)
      obtain ⟨tx617, ejx617, evx617⟩ := lw_ix (k := 1) ex617 hI hL rfl (by decide)
      clear tx617
      refine va_sld hx hb hX hbl (Nat.not_le.mpr hbl) hSH543 (vp_in_iff.mpr evx617) dL_law_466 ?_
      refine W.eq (g2 := F0 m 467 ls [.int (xs (i.toNatClampNeg + 1)), .ref b]) (congrArg (fun z => F0 m 467 ls [.int (xs z), .ref b]) ejx617) ?_
      refine lv_aload_n hx hb dL_law_467 rfl (lv_at hl 3 rfl) ?_
      refine lv_iload_n hx hb dL_law_468 rfl (lv_at hl 0 rfl) ?_
      refine lv_iconst (v := 2) hx hb dL_law_469 (by decide) ?_
      refine lv_iadd hx hb dL_law_470 ?_
      refine lv_topi (fun x618 ex618 => ?_)
      obtain ⟨tx618, ejx618, evx618⟩ := lw_ix (k := 2) ex618 hI hL rfl (by decide)
      clear tx618
      refine va_sld hx hb hX hbl (Nat.not_le.mpr hbl) hSH543 (vp_in_iff.mpr evx618) dL_law_471 ?_
      refine W.eq (g2 := F0 m 472 ls [.int (xs (i.toNatClampNeg + 2)), .int (xs (i.toNatClampNeg + 1)), .ref b]) (congrArg (fun z => F0 m 472 ls [.int (xs z), .int (xs (i.toNatClampNeg + 1)), .ref b]) ejx618) ?_
      have bt619 : ∀ j : Nat, (fun j => (fI H543 uq j).toInt) j = (fI H543 uq j).toInt := fun _ => rfl
      have hp620 : ∀ j : Nat, j < tb.toNatClampNeg → 0 ≤ (fun j => (fI H543 uq j).toInt) j := fun j hj => by show 0 ≤ (fI H543 uq j).toInt; rw [f591 j]; exact (htr j hj).2
      obtain ⟨q621, eq621⟩ : ∃ z : Nat, @Eq Ad z (fR H543 b (K.1.2 10 32)) := ⟨_, rfl⟩
      have gq621 := ty_fr (q := q621) (k := 32) (u := 136) eq621 hTH543 gb rg_112 rfl
      obtain ⟨q622, eq622⟩ : ∃ z : Nat, @Eq Ad z (fR H543 b (K.1.2 10 33)) := ⟨_, rfl⟩
      have gq622 := ty_fr (q := q622) (k := 33) (u := 137) eq622 hTH543 gb rg_112 rfl
      obtain ⟨q623, eq623⟩ : ∃ z : Nat, @Eq Ad z (fR H543 b (K.1.2 10 29)) := ⟨_, rfl⟩
      have gq623 := ty_fr (q := q623) (k := 29) (u := 133) eq623 hTH543 gb rg_112 rfl
      obtain ⟨q624, eq624⟩ : ∃ z : Nat, @Eq Ad z (fR H543 b (K.1.2 10 30)) := ⟨_, rfl⟩
      have gq624 := ty_fr (q := q624) (k := 30) (u := 134) eq624 hTH543 gb rg_112 rfl
      obtain ⟨q625, eq625⟩ : ∃ z : Nat, @Eq Ad z (fR H543 b (K.1.2 10 31)) := ⟨_, rfl⟩
      have gq625 := ty_fr (q := q625) (k := 31) (u := 135) eq625 hTH543 gb rg_112 rfl
      obtain ⟨q626, eq626⟩ : ∃ z : Nat, @Eq Ad z (fR H543 b (K.1.2 10 24)) := ⟨_, rfl⟩
      have gq626 := ty_fr (q := q626) (k := 24) (u := 128) eq626 hTH543 gb rg_112 rfl
      obtain ⟨q627, eq627⟩ : ∃ z : Nat, @Eq Ad z (fR H543 b (K.1.2 10 26)) := ⟨_, rfl⟩
      have gq627 := ty_fr (q := q627) (k := 26) (u := 130) eq627 hTH543 gb rg_112 rfl
      obtain ⟨q628, eq628⟩ : ∃ z : Nat, @Eq Ad z (fR H543 b (K.1.2 10 27)) := ⟨_, rfl⟩
      have gq628 := ty_fr (q := q628) (k := 27) (u := 131) eq628 hTH543 gb rg_112 rfl
      obtain ⟨q629, eq629⟩ : ∃ z : Nat, @Eq Ad z (fR H543 b (K.1.2 10 28)) := ⟨_, rfl⟩
      have gq629 := ty_fr (q := q629) (k := 28) (u := 132) eq629 hTH543 gb rg_112 rfl
      obtain ⟨q630, eq630⟩ : ∃ z : Nat, @Eq Ad z (fR H543 b (K.1.2 10 25)) := ⟨_, rfl⟩
      have gq630 := ty_fr (q := q630) (k := 25) (u := 129) eq630 hTH543 gb rg_112 rfl
      obtain ⟨x631, ex631⟩ : ∃ z : Int32, z = fI H543 b (K.1.2 10 35) := ⟨_, rfl⟩
      have bx631 := ty_fi (x := x631) (k := 35) ex631 hTH543 gb rg_112 rfl
      refine x_V (As := [.int (xs (i.toNatClampNeg + 1)), .int (xs (i.toNatClampNeg + 2))]) (rest := []) C (a_X10_text_gl l K G H543 ((xs (i.toNatClampNeg + 1))) ((xs (i.toNatClampNeg + 2))) (x631) (tb) (fun j => (fI H543 uq j).toInt) hTH543 gb (by omega) (by omega) gq621 eq621 gq622 eq622 gq623 eq623 gq624 eq624 gq625 eq625 gq626 eq626 guq m600 gq627 eq627 gq628 eq628 gq629 eq629 gq630 eq630 ex631 m593 g586 g587 g588 g589 (trivial) (hp620) bt619) yo_X10_text wM_L_47 ⟨⟨by decide, by decide⟩, show _ ≤ 60000 from Nat.le_trans hc (by decide), show _ ≤ 8922250 from Nat.le_trans hs (by decide)⟩ (x_rv C hTH543 (ci := 10) rfl gb rg_112) rfl hl.1 rfl (Nat.le_of_ble_eq_true rfl) dL_law_472 hSH543 (AE_new hN hSH543.1) (fun vH632 H632 locsH632 pH632 zH632 kH632 hSH632 => ?_)
      obtain ⟨x633, x634, x635, hvH632, ex634, ex635, hrH632, m636, m637, m638, m639, m640, m641, m642, m643, m644, m645, m646, g647, g648, g649, g650, mf651, m652, m653, m654, m655, hTH632⟩ := pH632
      subst hvH632
      have f656 : ∀ j : Nat, fI H632 tq j = fI H tq j := fun j => (fI_kept (x_lt hTH543 kH632 gtq (by decide))).trans (f590 j)
      have f657 : ∀ j : Nat, fI H632 uq j = fI H uq j := fun j => (fI_kept (x_lt hTH543 kH632 guq (by decide))).trans (f591 j)
      have f658 : ∀ j : Nat, (fun j => (fI H543 uq j).toInt) j = (fI H632 uq j).toInt := fun j => (bt619 j).trans (congrArg Int32.toInt (fI_kept (x_lt hTH543 kH632 guq (by decide))).symm)
      have m659 := (m603).trans (fI_kept (x_lt hTH543 kH632 gkq (by decide))).symm
      have m660 := (m604).trans (fI_kept (x_lt hTH543 kH632 giq (by decide))).symm
      have m661 := (m605).trans (fI_kept (x_lt hTH543 kH632 gkq (by decide))).symm
      have m662 := (m606).trans (fI_kept (x_lt hTH543 kH632 giq (by decide))).symm
      have m663 := (m607).trans (fI_kept (x_lt hTH543 kH632 gkq (by decide))).symm
      have m664 := (m608).trans (fI_kept (x_lt hTH543 kH632 giq (by decide))).symm
      have m665 := (m609).trans (fI_kept (x_lt hTH543 kH632 gkq (by decide))).symm
      have m666 := (m610).trans (fI_kept (x_lt hTH543 kH632 giq (by decide))).symm
      have m667 := (m611).trans (fI_kept (x_lt hTH543 kH632 gkq (by decide))).symm
      have m668 := (m612).trans (fI_kept (x_lt hTH543 kH632 giq (by decide))).symm
      have m669 := (m613).trans (fI_kept (x_lt hTH543 kH632 gkq (by decide))).symm
      have m670 := (m614).trans (fI_kept (x_lt hTH543 kH632 giq (by decide))).symm
      have m671 := (m615).trans (fR_kept (x_lt hTH543 kH632 glq_ (by decide))).symm
      have m672 := (m551).trans (fR_kept (x_lt hTH543 kH632 ga (by decide))).symm
      have m673 := (m552).trans (fR_kept (x_lt hTH543 kH632 gw (by decide))).symm
      have m674 := (m553).trans (fR_kept (x_lt hTH543 kH632 ga (by decide))).symm
      have m675 := (m554).trans (fR_kept (x_lt hTH543 kH632 ga (by decide))).symm
      have m676 := (m555).trans (fR_kept (x_lt hTH543 kH632 gq526 (by decide))).symm
      have m677 := (m556).trans (fR_kept (x_lt hTH543 kH632 gq526 (by decide))).symm
      have m678 := (m557).trans (fR_kept (x_lt hTH543 kH632 gq526 (by decide))).symm
      have m679 := (m558).trans (fR_kept (x_lt hTH543 kH632 gq527 (by decide))).symm
      have m680 := (m559).trans (fR_kept (x_lt hTH543 kH632 gq527 (by decide))).symm
      have m681 := (m560).trans (fR_kept (x_lt hTH543 kH632 gq527 (by decide))).symm
      have m682 := (m561).trans (fR_kept (x_lt hTH543 kH632 gq527 (by decide))).symm
      have m683 := (m562).trans (fR_kept (x_lt hTH543 kH632 gq527 (by decide))).symm
      have m684 := (m563).trans (fR_kept (x_lt hTH543 kH632 gq527 (by decide))).symm
      have m685 := (m564).trans (fR_kept (x_lt hTH543 kH632 gq527 (by decide))).symm
      have m686 := (m565).trans (fR_kept (x_lt hTH543 kH632 gq527 (by decide))).symm
      have m687 := (m566).trans (fR_kept (x_lt hTH543 kH632 gtx_ (by decide))).symm
      have m688 := (m567).trans (fR_kept (x_lt hTH543 kH632 gtx_ (by decide))).symm
      have m689 := (m568).trans (fR_kept (x_lt hTH543 kH632 gtx_ (by decide))).symm
      have m690 := (m569).trans (fR_kept (x_lt hTH543 kH632 gtx_ (by decide))).symm
      have m691 := (m570).trans (fR_kept (x_lt hTH543 kH632 gtx_ (by decide))).symm
      have m692 := (m571).trans (fR_kept (x_lt hTH543 kH632 gtx_ (by decide))).symm
      have m693 := (m572).trans (fR_kept (x_lt hTH543 kH632 gtx_ (by decide))).symm
      have m694 := (m573).trans (fR_kept (x_lt hTH543 kH632 gtx_ (by decide))).symm
      have m695 := (m574).trans (fI_kept (x_lt hTH543 kH632 gw (by decide))).symm
      have m696 := (m575).trans (fI_kept (x_lt hTH543 kH632 gw (by decide))).symm
      have m697 := (m576).trans (fI_kept (x_lt hTH543 kH632 gw (by decide))).symm
      have m698 := (m577).trans (fI_kept (x_lt hTH543 kH632 gw (by decide))).symm
      have m699 := (m578).trans (fI_kept (x_lt hTH543 kH632 gw (by decide))).symm
      have m700 := (m579).trans (fI_kept (x_lt hTH543 kH632 gw (by decide))).symm
      have m701 := (fV_kept (x_lt hTH543 kH632 ga (by decide))).trans m585
      have m702 := (ex545).trans (fI_kept (x_lt hTH543 kH632 ga (by decide))).symm
      have m703 := (ex546).trans (fI_kept (x_lt hTH543 kH632 gq526 (by decide))).symm
      have m704 := (ex547).trans (fI_kept (x_lt hTH543 kH632 gq526 (by decide))).symm
      have m705 := (ex548).trans (fI_kept (x_lt hTH543 kH632 gq527 (by decide))).symm
      have m706 := (ex549).trans (fI_kept (x_lt hTH543 kH632 gq526 (by decide))).symm
      have m707 := (ex550).trans (fI_kept (x_lt hTH543 kH632 gq527 (by decide))).symm
      have m708 := (m594).trans (MF.i mf651 (k := 1) (by decide) (by decide)).symm
      have m709 := (m595).trans (MF.i mf651 (k := 2) (by decide) (by decide)).symm
      have m710 := (m596).trans (MF.i mf651 (k := 3) (by decide) (by decide)).symm
      have m711 := (m597).trans (MF.i mf651 (k := 59) (by decide) (by decide)).symm
      have m712 := (m598).trans (MF.i mf651 (k := 62) (by decide) (by decide)).symm
      have m713 := (m599).trans (MF.i mf651 (k := 65) (by decide) (by decide)).symm
      have m714 := (m600).trans (MF.r mf651 (k := 17) (by decide) (by decide)).symm
      have m715 := (m601).trans (MF.i mf651 (k := 70) (by decide) (by decide)).symm
      have m716 := (m602).trans (MF.r mf651 (k := 73) (by decide) (by decide)).symm
      have m717 := (eq621).trans (MF.r mf651 (k := 32) (by decide) (by decide)).symm
      have m718 := (eq622).trans (MF.r mf651 (k := 33) (by decide) (by decide)).symm
      have m719 := (eq623).trans (MF.r mf651 (k := 29) (by decide) (by decide)).symm
      have m720 := (eq624).trans (MF.r mf651 (k := 30) (by decide) (by decide)).symm
      have m721 := (eq625).trans (MF.r mf651 (k := 31) (by decide) (by decide)).symm
      have m722 := (eq626).trans (MF.r mf651 (k := 24) (by decide) (by decide)).symm
      have m723 := (eq627).trans (MF.r mf651 (k := 26) (by decide) (by decide)).symm
      have m724 := (eq628).trans (MF.r mf651 (k := 27) (by decide) (by decide)).symm
      have m725 := (eq629).trans (MF.r mf651 (k := 28) (by decide) (by decide)).symm
      have m726 := (eq630).trans (MF.r mf651 (k := 25) (by decide) (by decide)).symm
      have bx634 := ty_fi (x := x634) (k := 35) ex634 hTH632 gb rg_112 rfl
      have bx635 := ty_fi (x := x635) (k := 18) ex635 hTH632 gb rg_112 rfl
      refine W.eq (g2 := F0 m 475 ls [.int x633]) rfl ?_
      have hre := TXA.eq m580 m652 (by omega) (fun j hj => by show (fI _ tq j).toInt = (fI _ uq j).toInt; rw [ft0 j, f591 j]; exact congrArg Int32.toInt (htr j (by omega)).1)
      have rk727 : RKI K H632 kq iq k1.toInt := RKI.kept rk616 hTH543 gkq (x_lt hTH543 kH632 giq (by first | exact nmr ht (by decide) | exact nmo ht (by decide) | exact nme ht (by decide) | exact nmq ht (by decide) | decide | (intro z; simp only [List.mem_cons, List.not_mem_nil, or_false] at z <;> omega) | omega)) (fun q t hq ht => x_lt hTH543 kH632 hq (by first | exact nmr ht (by decide) | exact nmo ht (by decide) | exact nme ht (by decide) | exact nmq ht (by decide) | decide | (intro z; simp only [List.mem_cons, List.not_mem_nil, or_false] at z <;> omega) | omega))
      have r12 : RFW K H632 H543 w := RFW.cell hTH543 gw (fun q t hq ht => x_lt hTH543 kH632 hq (by first | exact nmr ht (by decide) | exact nmo ht (by decide) | exact nme ht (by decide) | exact nmq ht (by decide) | decide | (intro z; simp only [List.mem_cons, List.not_mem_nil, or_false] at z <;> omega) | omega))
      have cU := vcN.kept hTH543 gw r12 (fun q t hq ht => x_lt hTH543 kH632 hq (by first | exact nmr ht (by decide) | exact nmo ht (by decide) | exact nme ht (by decide) | exact nmq ht (by decide) | decide | (intro z; simp only [List.mem_cons, List.not_mem_nil, or_false] at z <;> omega) | omega))
      have own2 : OWN K H632 w := (re.1.st trf).st r12
      have tU : TPK (TXP K H632 w) (TXP K H543 w) := TXP.kept hTH543 gw r12 (fun q t hq ht => x_lt hTH543 kH632 hq (by first | exact nmr ht (by decide) | exact nmo ht (by decide) | exact nme ht (by decide) | exact nmq ht (by decide) | decide | (intro z; simp only [List.mem_cons, List.not_mem_nil, or_false] at z <;> omega) | omega))
      have er2 : ∀ bar, vrN K H632 b bar = vrN K H543 b bar := vrN.reg hTH543 gb (fun k hk => MF.r mf651 (by omega) (by intro z; simp only [List.mem_cons, List.not_mem_nil, or_false] at z; omega)) (fun q t hq ht => x_lt hTH543 kH632 hq (by first | exact nmr ht (by decide) | exact nmo ht (by decide) | exact nme ht (by decide) | exact nmq ht (by decide) | decide | (intro z; simp only [List.mem_cons, List.not_mem_nil, or_false] at z <;> omega) | omega))
      have rr_ : ∀ k : Nat, 24 ≤ k → k ≤ 33 → fR H632 b (K.1.2 10 k) = fR H543 b (K.1.2 10 k) := fun k h1 h2 => MF.r mf651 (by omega) (by intro z; simp only [List.mem_cons, List.not_mem_nil, or_false] at z; omega)
      have hb_ : ∀ j : Nat, j < ta.toNatClampNeg → (fun j => (fI H tq j).toInt) j = (fun j => (fI H543 uq j).toInt) j := fun j hj => by show (fI _ tq j).toInt = (fI _ uq j).toInt; rw [ft0 j, f591 j]; exact congrArg Int32.toInt (htr j (by omega)).1
      have hL_ : ta.toNatClampNeg = tb.toNatClampNeg := by omega
      have kC_ : kK (fun j => (fI H tq j).toInt) ta.toNatClampNeg = kK (fun j => (fI H543 uq j).toInt) tb.toNatClampNeg := (kK_c hb_).trans (by rw [hL_])
      have vC_ : vV (fun j => (fI H tq j).toInt) ta.toNatClampNeg = vV (fun j => (fI H543 uq j).toInt) tb.toNatClampNeg := (vV_c hb_).trans (by rw [hL_])
      have re728 : RE K H632 w b s1.toInt := by
        refine ⟨own2, re.2.1.congr (fun j hj => (cU j hj).trans (tbs j hj)) (fun j _ => by rw [show vrN K H632 b j = vrN K H b j from (er2 j).trans (er1 j)]; exact EqV.rf), ?_⟩
        rcases m581 with hm_ | ⟨n, hn_, h16_, hc_, hM_, hB_⟩
        · have hf_ := m655.resolve_left (fun z => z (by omega))
          exact re.2.2.congr (fun r kk vv lw n h1 h2 z => tU r kk vv lw n h1 h2 (HD.out ty_ hm_ r kk vv lw n h1 h2 z)) (fun r kk vv lw n h1 h2 z => TRP.frd rr_ hTH543 gb (by rw [← eq630, ← eq627, ← eq628, ← eq629, ← eq623, ← eq624, ← eq625, ← eq621, ← eq622]; exact hf_.1) (fun l => by rw [← eq626]; exact hf_.2 l) r kk vv lw n h1 h2 (tr1 r kk vv lw n h1 h2 z))
        · rcases m653 with hm2_ | ⟨n2, hn2_, -, hc2_, hMR_⟩
          · exfalso; omega
          · have en_ : n2 = n := by omega
            subst en_
            rw [kC_, vC_] at hM_
            have lwR_ : LWT ((xs (i.toNatClampNeg + 2)) : Int32).toNatClampNeg = 1 := if_pos (by omega)
            have hl_ := (m652).lno hn2_
            rw [if_pos (by omega)] at hl_
            have rk_ : RWK H632 H543 (fR H543 b (K.1.2 10 25)) (fR H543 b (K.1.2 10 26)) (fR H543 b (K.1.2 10 27)) (fR H543 b (K.1.2 10 28)) (fR H543 b (K.1.2 10 29)) (fR H543 b (K.1.2 10 30)) (fR H543 b (K.1.2 10 31)) (fR H543 b (K.1.2 10 32)) (fR H543 b (K.1.2 10 33)) (fR H543 b (K.1.2 10 24)) ((xs (i.toNatClampNeg + 2)) : Int32).toNatClampNeg := by rw [← eq630, ← eq627, ← eq628, ← eq629, ← eq623, ← eq624, ← eq625, ← eq621, ← eq622, ← eq626]; exact m654
            exact TPE.set (i := ((xs (i.toNatClampNeg + 2)) : Int32).toNatClampNeg) re.2.2 h16_ (by rw [lwR_]; exact hl_) (by rw [lwR_]; exact tU _ _ _ _ _ (by omega) h16_ (by unfold TXP; rw [tow]; exact ⟨hM_, (congrArg Int32.toInt hc_).trans hn_, hB_⟩)) (by rw [lwR_]; exact ⟨hMR_, by rw [← m641]; exact (congrArg Int32.toInt hc2_).trans hn2_⟩) (fun r kk vv lw n h1 h2 h3 z => tU r kk vv lw n h1 h2 (tot r kk vv lw n h1 h2 (by omega) z)) (fun r kk vv lw n h1 h2 h3 z => TRP.rwk rr_ hTH543 gb rk_ r kk vv lw n h1 h2 h3 (tr1 r kk vv lw n h1 h2 z))
      refine lv_pop hx hb dL_law_475 rfl ?_
      refine lv_goto (tgt := 1509) hx hb dL_law_476 (by decide) ?_
      have cfin := i_cl (x := x635) bx635.1
      exact nx G H632 locsH632 _ _ ls ⟨hTH632, hN, ga, gb, g647, g648, g649, g650, ⟨(by rw [← m702, ← ex635]; omega), (by rw [← m672, ← m695, ← m708]; exact r1), (by rw [← m672, ← m696, ← m709]; exact r4), (by rw [← m672, ← m697, ← m710]; exact r5), (by rw [← m672, ← m698, ← m711]; exact r10), (by rw [← m672, ← m699, ← m712]; exact r13), (by rw [← m672, ← m700, ← m713]; exact r16)⟩, Or.inr ⟨kq, m701, gkq, (by rw [← m715]; exact h70), (by rw [← m659, ← m716, ← m660]; exact q1), (by rw [← m661, ← m716, ← m662]; exact q4), (by rw [← m663, ← m716, ← m664]; exact q5), (by rw [← m665, ← m716, ← m666]; exact q10), (by rw [← m667, ← m716, ← m668]; exact q13), (by rw [← m669, ← m716, ← m670]; exact q16), (by rw [← m716, ← m659]; exact RKI.cast rk727 (by omega)), (by rw [← m663]; omega), (by rw [← m663]; omega)⟩, (by unfold TB; rw [← m675, ← m642, ← ex635]; exact TBR.of htr f656 f657 (by omega)), (by unfold RELE; rw [← m672, ← m708, ← m697]; exact ⟨RE.cast re728 (by omega), by omega, by omega⟩), hSH632⟩ hl ⟨hc, hs, fun h => by have h1 := h.symm.trans m701; cases h1⟩
    · skip
      have bt729 : ∀ j : Nat, (fun j => (fI H tq j).toInt) j = (fI H tq j).toInt := fun _ => rfl
      have cte := i_cl (x := (xs (i.toNatClampNeg + 2))) (by omega)
      obtain ⟨lq_, elq_⟩ : ∃ z : Nat, z = fR H w (K.1.2 8 3) := ⟨_, rfl⟩
      have glq_ := ty_fr (q := lq_) (k := 3) (u := 27) elq_ hT gw rg_0 rfl
      obtain ⟨tx_, etx_⟩ : ∃ z : Nat, z = fR H lq_ ((xs (i.toNatClampNeg + 2)) : Int32).toNatClampNeg := ⟨_, rfl⟩
      have eow_ : ow K H w (10 + (2 + ((xs (i.toNatClampNeg + 2)) : Int32).toNatClampNeg)) = tx_ := by rw [show 10 + (2 + ((xs (i.toNatClampNeg + 2)) : Int32).toNatClampNeg) = 12 + ((xs (i.toNatClampNeg + 2)) : Int32).toNatClampNeg by omega, ow_j, ← elq_, ← etx_]
      have gtx_ : G tx_ = some 16 := by rw [← eow_]; exact ow_t hT gw (by omega) (by omega)
      obtain ⟨xr1, exr1⟩ : ∃ z : Nat, z = fR H tx_ (K.1.2 7 1) := ⟨_, rfl⟩
      have gxr1 := ty_fr (q := xr1) (k := 1) (u := 17) exr1 hT gtx_ rg_16 rfl
      obtain ⟨xr2, exr2⟩ : ∃ z : Nat, z = fR H tx_ (K.1.2 7 2) := ⟨_, rfl⟩
      have gxr2 := ty_fr (q := xr2) (k := 2) (u := 18) exr2 hT gtx_ rg_16 rfl
      obtain ⟨xr3, exr3⟩ : ∃ z : Nat, z = fR H tx_ (K.1.2 7 3) := ⟨_, rfl⟩
      have gxr3 := ty_fr (q := xr3) (k := 3) (u := 19) exr3 hT gtx_ rg_16 rfl
      obtain ⟨xr4, exr4⟩ : ∃ z : Nat, z = fR H tx_ (K.1.2 7 4) := ⟨_, rfl⟩
      have gxr4 := ty_fr (q := xr4) (k := 4) (u := 20) exr4 hT gtx_ rg_16 rfl
      obtain ⟨xr5, exr5⟩ : ∃ z : Nat, z = fR H tx_ (K.1.2 7 5) := ⟨_, rfl⟩
      have gxr5 := ty_fr (q := xr5) (k := 5) (u := 21) exr5 hT gtx_ rg_16 rfl
      obtain ⟨xr6, exr6⟩ : ∃ z : Nat, z = fR H tx_ (K.1.2 7 6) := ⟨_, rfl⟩
      have gxr6 := ty_fr (q := xr6) (k := 6) (u := 22) exr6 hT gtx_ rg_16 rfl
      obtain ⟨xr7, exr7⟩ : ∃ z : Nat, z = fR H tx_ (K.1.2 7 7) := ⟨_, rfl⟩
      have gxr7 := ty_fr (q := xr7) (k := 7) (u := 23) exr7 hT gtx_ rg_16 rfl
      obtain ⟨xr8, exr8⟩ : ∃ z : Nat, z = fR H tx_ (K.1.2 7 8) := ⟨_, rfl⟩
      have gxr8 := ty_fr (q := xr8) (k := 8) (u := 24) exr8 hT gtx_ rg_16 rfl
      obtain ⟨q730, eq730⟩ : ∃ z : Nat, @Eq Ad z (fR H a (K.1.2 9 4)) := ⟨_, rfl⟩
      have gq730 := ty_fr (q := q730) (k := 4) (u := 78) eq730 hT ga rg_68 rfl
      obtain ⟨q731, eq731⟩ : ∃ z : Nat, @Eq Ad z (fR H q730 (K.1.2 4 0)) := ⟨_, rfl⟩
      have gq731 := ty_fr (q := q731) (k := 0) (u := 69) eq731 hT gq730 rg_78 rfl
      obtain ⟨q732, eq732⟩ : ∃ z : Nat, @Eq Ad z (fR H q730 (K.1.2 4 3)) := ⟨_, rfl⟩
      have gq732 := ty_fr (q := q732) (k := 3) (u := 79) eq732 hT gq730 rg_78 rfl
      obtain ⟨q733, eq733⟩ : ∃ z : Nat, @Eq Ad z (fR H q730 (K.1.2 4 4)) := ⟨_, rfl⟩
      have gq733 := ty_fr (q := q733) (k := 4) (u := 80) eq733 hT gq730 rg_78 rfl
      obtain ⟨q734, eq734⟩ : ∃ z : Nat, @Eq Ad z (fR H q731 (K.1.2 7 1)) := ⟨_, rfl⟩
      have gq734 := ty_fr (q := q734) (k := 1) (u := 70) eq734 hT gq731 rg_69 rfl
      obtain ⟨q735, eq735⟩ : ∃ z : Nat, @Eq Ad z (fR H q731 (K.1.2 7 2)) := ⟨_, rfl⟩
      have gq735 := ty_fr (q := q735) (k := 2) (u := 71) eq735 hT gq731 rg_69 rfl
      obtain ⟨q736, eq736⟩ : ∃ z : Nat, @Eq Ad z (fR H q731 (K.1.2 7 3)) := ⟨_, rfl⟩
      have gq736 := ty_fr (q := q736) (k := 3) (u := 72) eq736 hT gq731 rg_69 rfl
      obtain ⟨q737, eq737⟩ : ∃ z : Nat, @Eq Ad z (fR H q731 (K.1.2 7 4)) := ⟨_, rfl⟩
      have gq737 := ty_fr (q := q737) (k := 4) (u := 73) eq737 hT gq731 rg_69 rfl
      obtain ⟨q738, eq738⟩ : ∃ z : Nat, @Eq Ad z (fR H q731 (K.1.2 7 5)) := ⟨_, rfl⟩
      have gq738 := ty_fr (q := q738) (k := 5) (u := 74) eq738 hT gq731 rg_69 rfl
      obtain ⟨q739, eq739⟩ : ∃ z : Nat, @Eq Ad z (fR H q731 (K.1.2 7 6)) := ⟨_, rfl⟩
      have gq739 := ty_fr (q := q739) (k := 6) (u := 75) eq739 hT gq731 rg_69 rfl
      obtain ⟨q740, eq740⟩ : ∃ z : Nat, @Eq Ad z (fR H q731 (K.1.2 7 7)) := ⟨_, rfl⟩
      have gq740 := ty_fr (q := q740) (k := 7) (u := 76) eq740 hT gq731 rg_69 rfl
      obtain ⟨q741, eq741⟩ : ∃ z : Nat, @Eq Ad z (fR H q731 (K.1.2 7 8)) := ⟨_, rfl⟩
      have gq741 := ty_fr (q := q741) (k := 8) (u := 77) eq741 hT gq731 rg_69 rfl
      obtain ⟨x742, ex742⟩ : ∃ z : Int32, z = fI H q730 (K.1.2 4 7) := ⟨_, rfl⟩
      have bx742 := ty_fi (x := x742) (k := 7) ex742 hT gq730 rg_78 rfl
      obtain ⟨x743, ex743⟩ : ∃ z : Int32, z = fI H q730 (K.1.2 4 1) := ⟨_, rfl⟩
      have bx743 := ty_fi (x := x743) (k := 1) ex743 hT gq730 rg_78 rfl
      obtain ⟨x744, ex744⟩ : ∃ z : Int32, z = fI H q731 (K.1.2 7 0) := ⟨_, rfl⟩
      have bx744 := ty_fi (x := x744) (k := 0) ex744 hT gq731 rg_69 rfl
      obtain ⟨x745, ex745⟩ : ∃ z : Int32, z = fI H q730 (K.1.2 4 8) := ⟨_, rfl⟩
      have bx745 := ty_fi (x := x745) (k := 8) ex745 hT gq730 rg_78 rfl
      obtain ⟨x746, ex746⟩ : ∃ z : Int32, z = fI H q731 (K.1.2 7 9) := ⟨_, rfl⟩
      have bx746 := ty_fi (x := x746) (k := 9) ex746 hT gq731 rg_69 rfl
      refine x_V (As := [.int (xs (i.toNatClampNeg + 1)), .int (xs (i.toNatClampNeg + 2))]) (rest := []) C (a_X9_text_j l K G H ((xs (i.toNatClampNeg + 1))) ((xs (i.toNatClampNeg + 2))) (ta) (x742) (x743) (x744) (x745) (x746) (s1) (s4) (s5) (s10) (s13) (s16) (fun j => (fI H tq j).toInt) hT ga (by omega) (by omega) gw ew glq_ elq_ gtx_ etx_ gq730 eq730 gtq etq gq731 eq731 gq732 eq732 gq733 eq733 gq734 eq734 gq735 eq735 gq736 eq736 gq737 eq737 gq738 eq738 gq739 eq739 gq740 eq740 gq741 eq741 gxr1 exr1 gxr2 exr2 gxr3 exr3 gxr4 exr4 gxr5 exr5 gxr6 exr6 gxr7 exr7 gxr8 exr8 eta ex742 ex743 ex744 ex745 ex746 es1 es4 es5 es10 es13 es16 kn bt729) yo_X9_text wM_L_43 ⟨⟨by decide, by decide⟩, show _ ≤ 60000 from Nat.le_trans hc (by decide), show _ ≤ 8922250 from Nat.le_trans hs (by decide)⟩ (x_rv C hT (ci := 9) rfl ga rg_68) rfl hl.1 rfl (Nat.le_of_ble_eq_true rfl) dL_law_457 hS (AE_new hN hS.1) (fun vH747 H747 locsH747 pH747 zH747 kH747 hSH747 => ?_)
      obtain ⟨x748, x749, x750, x751, x752, x753, x754, hvH747, ex749, ex750, ex751, ex752, ex753, ex754, hrH747, m755, m756, m757, m758, m759, m760, m761, m762, m763, m764, m765, m766, m767, m768, m769, m770, m771, m772, m773, m774, m775, m776, m777, m778, m779, m780, m781, m782, m783, m784, m785, m786, m787, m788, m789, hTH747⟩ := pH747
      subst hvH747
      have g790 : CG (avw K H747 b) := CG.congr (fun k hk j => av_eff hT kH747 gb (by decide) (CG_eff [68, 0, 78, 79, 80, 81, 69, 70, 71, 72, 73, 74, 75, 76, 77, 16, 17, 18, 19, 20, 21, 22, 23, 24] (by decide) k hk)) cg
      have g791 : TU (avw K H747 b) (svw K H747 b) := TU.congr (fun k hk j => av_eff hT kH747 gb (by decide) (TU_eff [68, 0, 78, 79, 80, 81, 69, 70, 71, 72, 73, 74, 75, 76, 77, 16, 17, 18, 19, 20, 21, 22, 23, 24] (by decide) k hk)) (fun k hk => sv_eff hT kH747 gb (by decide)) tu
      have g792 : WD (avw K H747 b) := WD.congr (fun k hk j => av_eff hT kH747 gb (by decide) (WD_eff [68, 0, 78, 79, 80, 81, 69, 70, 71, 72, 73, 74, 75, 76, 77, 16, 17, 18, 19, 20, 21, 22, 23, 24] (by decide) k hk)) wd
      have g793 : IM (avw K H747 b) := IM.congr (fun k hk j => av_eff hT kH747 gb (by decide) (IM_eff [68, 0, 78, 79, 80, 81, 69, 70, 71, 72, 73, 74, 75, 76, 77, 16, 17, 18, 19, 20, 21, 22, 23, 24] (by decide) k hk)) im
      have f794 : ∀ j : Nat, fI H747 tq j = fI H tq j := fun j => (fI_kept (x_lt hT kH747 gtq (by decide))).trans (ft0 j)
      have f795 : ∀ j : Nat, fI H747 uq j = fI H uq j := fun j => (fI_kept (x_lt hT kH747 guq (by decide))).trans (fu0 j)
      have f796 : ∀ j : Nat, (fun j => (fI H tq j).toInt) j = (fI H747 tq j).toInt := fun j => (bt729 j).trans (congrArg Int32.toInt (fI_kept (x_lt hT kH747 gtq (by decide))).symm)
      have m797 := (etb).trans (fI_kept (x_lt hT kH747 gb (by decide))).symm
      have m798 := (ey1).trans (fI_kept (x_lt hT kH747 gb (by decide))).symm
      have m799 := (ey4).trans (fI_kept (x_lt hT kH747 gb (by decide))).symm
      have m800 := (ey5).trans (fI_kept (x_lt hT kH747 gb (by decide))).symm
      have m801 := (ey10).trans (fI_kept (x_lt hT kH747 gb (by decide))).symm
      have m802 := (ey13).trans (fI_kept (x_lt hT kH747 gb (by decide))).symm
      have m803 := (ey16).trans (fI_kept (x_lt hT kH747 gb (by decide))).symm
      have m804 := (euq).trans (fR_kept (x_lt hT kH747 gb (by decide))).symm
      have m805 := (ehi).trans (fI_kept (x_lt hT kH747 gb (by decide))).symm
      have m806 := (eiq).trans (fR_kept (x_lt hT kH747 gb (by decide))).symm
      have m807 := (ek1).trans (fI_kept (x_lt hT kH747 gkq (by decide))).symm
      have m808 := (ei1).trans (fI_kept (x_lt hT kH747 giq (by decide))).symm
      have m809 := (ek4).trans (fI_kept (x_lt hT kH747 gkq (by decide))).symm
      have m810 := (ei4).trans (fI_kept (x_lt hT kH747 giq (by decide))).symm
      have m811 := (ek5).trans (fI_kept (x_lt hT kH747 gkq (by decide))).symm
      have m812 := (ei5).trans (fI_kept (x_lt hT kH747 giq (by decide))).symm
      have m813 := (ek10).trans (fI_kept (x_lt hT kH747 gkq (by decide))).symm
      have m814 := (ei10).trans (fI_kept (x_lt hT kH747 giq (by decide))).symm
      have m815 := (ek13).trans (fI_kept (x_lt hT kH747 gkq (by decide))).symm
      have m816 := (ei13).trans (fI_kept (x_lt hT kH747 giq (by decide))).symm
      have m817 := (ek16).trans (fI_kept (x_lt hT kH747 gkq (by decide))).symm
      have m818 := (ei16).trans (fI_kept (x_lt hT kH747 giq (by decide))).symm
      have m819 := (etx_).trans (fR_kept (x_lt hT kH747 glq_ (by decide))).symm
      have bx749 := ty_fi (x := x749) (k := 3) ex749 hTH747 ga rg_68 rfl
      have bx750 := ty_fi (x := x750) (k := 7) ex750 hTH747 gq730 rg_78 rfl
      have bx751 := ty_fi (x := x751) (k := 1) ex751 hTH747 gq730 rg_78 rfl
      have bx752 := ty_fi (x := x752) (k := 0) ex752 hTH747 gq731 rg_69 rfl
      have bx753 := ty_fi (x := x753) (k := 8) ex753 hTH747 gq730 rg_78 rfl
      have bx754 := ty_fi (x := x754) (k := 9) ex754 hTH747 gq731 rg_69 rfl
      refine W.eq (g2 := F0 m 460 ls [.int x748]) rfl ?_
      have rk820 : RKI K H747 kq iq k1.toInt := RKI.kept rke hT gkq (x_lt hT kH747 giq (by first | exact nmr ht (by decide) | exact nmo ht (by decide) | exact nme ht (by decide) | exact nmq ht (by decide) | decide | (intro z; simp only [List.mem_cons, List.not_mem_nil, or_false] at z <;> omega) | omega)) (fun q t hq ht => x_lt hT kH747 hq (by first | exact nmr ht (by decide) | exact nmo ht (by decide) | exact nme ht (by decide) | exact nmq ht (by decide) | decide | (intro z; simp only [List.mem_cons, List.not_mem_nil, or_false] at z <;> omega) | omega))
      have rt_ : RFT K H747 H tx_ := fun k h1 h8 => by have z : k = 1 ∨ k = 2 ∨ k = 3 ∨ k = 4 ∨ k = 5 ∨ k = 6 ∨ k = 7 ∨ k = 8 := (by omega); rcases z with rfl | rfl | rfl | rfl | rfl | rfl | rfl | rfl; exact (m770).symm.trans exr1; exact (m771).symm.trans exr2; exact (m772).symm.trans exr3; exact (m773).symm.trans exr4; exact (m774).symm.trans exr5; exact (m775).symm.trans exr6; exact (m776).symm.trans exr7; exact (m777).symm.trans exr8
      obtain ⟨trf, tbs, tow, tot⟩ := text_one (H1 := H747) re.1 hT gw (j := 10 + (2 + ((xs (i.toNatClampNeg + 2)) : Int32).toNatClampNeg)) (by omega) eow_ m788 rt_ (fun q t hq ht n1 n2 => m786 q t hq (by omega) (by omega) (by omega) (by omega) (by omega) (by omega) (by omega) (by omega) (by omega) (by omega) (by omega) (by omega) (by omega) (by omega) (by omega) n1 (by rw [exr1]; exact n2 1 (by decide)) (by rw [exr2]; exact n2 2 (by decide)) (by rw [exr3]; exact n2 3 (by decide)) (by rw [exr4]; exact n2 4 (by decide)) (by rw [exr5]; exact n2 5 (by decide)) (by rw [exr6]; exact n2 6 (by decide)) (by rw [exr7]; exact n2 7 (by decide)) (by rw [exr8]; exact n2 8 (by decide)))
      have ty_ : HD (x748.toInt = -1 → TPK (TXP K H747 w) (TXP K H w)) := HD.mk (fun h => TXP.kept hT gw trf (fun q t hq ht => (m787.resolve_left (fun z => z h)) q t hq (by omega) (by omega) (by omega) (by omega) (by omega) (by omega) (by omega) (by omega) (by omega) (by omega) (by omega) (by omega) (by omega) (by omega) (by omega)))
      have er1 : ∀ bar, vrN K H747 b bar = vrN K H b bar := vrN.reg hT gb (fun k _ => fR_kept (x_lt hT kH747 gb (by first | exact nmr ht (by decide) | exact nmo ht (by decide) | exact nme ht (by decide) | exact nmq ht (by decide) | decide | (intro z; simp only [List.mem_cons, List.not_mem_nil, or_false] at z <;> omega) | omega))) (fun q t hq ht => x_lt hT kH747 hq (by first | exact nmr ht (by decide) | exact nmo ht (by decide) | exact nme ht (by decide) | exact nmq ht (by decide) | decide | (intro z; simp only [List.mem_cons, List.not_mem_nil, or_false] at z <;> omega) | omega))
      have tr1 : TPK (TRP K H747 b) (TRP K H b) := TRP.reg hT gb (fun k _ _ => fR_kept (x_lt hT kH747 gb (by first | exact nmr ht (by decide) | exact nmo ht (by decide) | exact nme ht (by decide) | exact nmq ht (by decide) | decide | (intro z; simp only [List.mem_cons, List.not_mem_nil, or_false] at z <;> omega) | omega))) (fun q t hq ht => x_lt hT kH747 hq (by first | exact nmr ht (by decide) | exact nmo ht (by decide) | exact nme ht (by decide) | exact nmq ht (by decide) | decide | (intro z; simp only [List.mem_cons, List.not_mem_nil, or_false] at z <;> omega) | omega))
      refine lv_pop hx hb dL_law_460 rfl ?_
      refine lv_aload_n hx hb dL_law_461 rfl (lv_at hl 1 rfl) ?_
      refine lv_aload_n hx hb dL_law_462 rfl (lv_at hl 3 rfl) ?_
      refine lv_iload_n hx hb dL_law_463 rfl (lv_at hl 0 rfl) ?_
      refine lv_iconst (v := 1) hx hb dL_law_464 (by decide) ?_
      refine lv_iadd hx hb dL_law_465 ?_
      refine lv_topi (fun x821 ex821 => ?_)
      obtain ⟨tx821, ejx821, evx821⟩ := lw_ix (k := 1) ex821 hI hL rfl (by decide)
      clear tx821
      refine va_sld hx hb hX hbl (Nat.not_le.mpr hbl) hSH747 (vp_in_iff.mpr evx821) dL_law_466 ?_
      refine W.eq (g2 := F0 m 467 ls [.int (xs (i.toNatClampNeg + 1)), .ref b]) (congrArg (fun z => F0 m 467 ls [.int (xs z), .ref b]) ejx821) ?_
      refine lv_aload_n hx hb dL_law_467 rfl (lv_at hl 3 rfl) ?_
      refine lv_iload_n hx hb dL_law_468 rfl (lv_at hl 0 rfl) ?_
      refine lv_iconst (v := 2) hx hb dL_law_469 (by decide) ?_
      refine lv_iadd hx hb dL_law_470 ?_
      refine lv_topi (fun x822 ex822 => ?_)
      obtain ⟨tx822, ejx822, evx822⟩ := lw_ix (k := 2) ex822 hI hL rfl (by decide)
      clear tx822
      refine va_sld hx hb hX hbl (Nat.not_le.mpr hbl) hSH747 (vp_in_iff.mpr evx822) dL_law_471 ?_
      refine W.eq (g2 := F0 m 472 ls [.int (xs (i.toNatClampNeg + 2)), .int (xs (i.toNatClampNeg + 1)), .ref b]) (congrArg (fun z => F0 m 472 ls [.int (xs z), .int (xs (i.toNatClampNeg + 1)), .ref b]) ejx822) ?_
      have bt823 : ∀ j : Nat, (fun j => (fI H747 uq j).toInt) j = (fI H747 uq j).toInt := fun _ => rfl
      have hp824 : ∀ j : Nat, j < tb.toNatClampNeg → 0 ≤ (fun j => (fI H747 uq j).toInt) j := fun j hj => by show 0 ≤ (fI H747 uq j).toInt; rw [f795 j]; exact (htr j hj).2
      obtain ⟨q825, eq825⟩ : ∃ z : Nat, @Eq Ad z (fR H747 b (K.1.2 10 32)) := ⟨_, rfl⟩
      have gq825 := ty_fr (q := q825) (k := 32) (u := 136) eq825 hTH747 gb rg_112 rfl
      obtain ⟨q826, eq826⟩ : ∃ z : Nat, @Eq Ad z (fR H747 b (K.1.2 10 33)) := ⟨_, rfl⟩
      have gq826 := ty_fr (q := q826) (k := 33) (u := 137) eq826 hTH747 gb rg_112 rfl
      obtain ⟨q827, eq827⟩ : ∃ z : Nat, @Eq Ad z (fR H747 b (K.1.2 10 29)) := ⟨_, rfl⟩
      have gq827 := ty_fr (q := q827) (k := 29) (u := 133) eq827 hTH747 gb rg_112 rfl
      obtain ⟨q828, eq828⟩ : ∃ z : Nat, @Eq Ad z (fR H747 b (K.1.2 10 30)) := ⟨_, rfl⟩
      have gq828 := ty_fr (q := q828) (k := 30) (u := 134) eq828 hTH747 gb rg_112 rfl
      obtain ⟨q829, eq829⟩ : ∃ z : Nat, @Eq Ad z (fR H747 b (K.1.2 10 31)) := ⟨_, rfl⟩
      have gq829 := ty_fr (q := q829) (k := 31) (u := 135) eq829 hTH747 gb rg_112 rfl
      obtain ⟨q830, eq830⟩ : ∃ z : Nat, @Eq Ad z (fR H747 b (K.1.2 10 24)) := ⟨_, rfl⟩
      have gq830 := ty_fr (q := q830) (k := 24) (u := 128) eq830 hTH747 gb rg_112 rfl
      obtain ⟨q831, eq831⟩ : ∃ z : Nat, @Eq Ad z (fR H747 b (K.1.2 10 26)) := ⟨_, rfl⟩
      have gq831 := ty_fr (q := q831) (k := 26) (u := 130) eq831 hTH747 gb rg_112 rfl
      obtain ⟨q832, eq832⟩ : ∃ z : Nat, @Eq Ad z (fR H747 b (K.1.2 10 27)) := ⟨_, rfl⟩
      have gq832 := ty_fr (q := q832) (k := 27) (u := 131) eq832 hTH747 gb rg_112 rfl
      obtain ⟨q833, eq833⟩ : ∃ z : Nat, @Eq Ad z (fR H747 b (K.1.2 10 28)) := ⟨_, rfl⟩
      have gq833 := ty_fr (q := q833) (k := 28) (u := 132) eq833 hTH747 gb rg_112 rfl
      obtain ⟨q834, eq834⟩ : ∃ z : Nat, @Eq Ad z (fR H747 b (K.1.2 10 25)) := ⟨_, rfl⟩
      have gq834 := ty_fr (q := q834) (k := 25) (u := 129) eq834 hTH747 gb rg_112 rfl
      obtain ⟨x835, ex835⟩ : ∃ z : Int32, z = fI H747 b (K.1.2 10 35) := ⟨_, rfl⟩
      have bx835 := ty_fi (x := x835) (k := 35) ex835 hTH747 gb rg_112 rfl
      refine x_V (As := [.int (xs (i.toNatClampNeg + 1)), .int (xs (i.toNatClampNeg + 2))]) (rest := []) C (a_X10_text_gj l K G H747 ((xs (i.toNatClampNeg + 1))) ((xs (i.toNatClampNeg + 2))) (x835) (tb) (fun j => (fI H747 uq j).toInt) hTH747 gb (by omega) (by omega) gq825 eq825 gq826 eq826 gq827 eq827 gq828 eq828 gq829 eq829 gq830 eq830 guq m804 gq831 eq831 gq832 eq832 gq833 eq833 gq834 eq834 ex835 m797 g790 g791 g792 g793 (trivial) (hp824) bt823) yo_X10_text wM_L_47 ⟨⟨by decide, by decide⟩, show _ ≤ 60000 from Nat.le_trans hc (by decide), show _ ≤ 8922250 from Nat.le_trans hs (by decide)⟩ (x_rv C hTH747 (ci := 10) rfl gb rg_112) rfl hl.1 rfl (Nat.le_of_ble_eq_true rfl) dL_law_472 hSH747 (AE_new hN hSH747.1) (fun vH836 H836 locsH836 pH836 zH836 kH836 hSH836 => ?_)
      obtain ⟨x837, x838, x839, hvH836, ex838, ex839, hrH836, m840, m841, m842, m843, m844, m845, m846, m847, m848, m849, m850, g851, g852, g853, g854, mf855, m856, m857, m858, m859, hTH836⟩ := pH836
      subst hvH836
      have f860 : ∀ j : Nat, fI H836 tq j = fI H tq j := fun j => (fI_kept (x_lt hTH747 kH836 gtq (by decide))).trans (f794 j)
      have f861 : ∀ j : Nat, fI H836 uq j = fI H uq j := fun j => (fI_kept (x_lt hTH747 kH836 guq (by decide))).trans (f795 j)
      have f862 : ∀ j : Nat, (fun j => (fI H747 uq j).toInt) j = (fI H836 uq j).toInt := fun j => (bt823 j).trans (congrArg Int32.toInt (fI_kept (x_lt hTH747 kH836 guq (by decide))).symm)
      have m863 := (m807).trans (fI_kept (x_lt hTH747 kH836 gkq (by decide))).symm
      have m864 := (m808).trans (fI_kept (x_lt hTH747 kH836 giq (by decide))).symm
      have m865 := (m809).trans (fI_kept (x_lt hTH747 kH836 gkq (by decide))).symm
      have m866 := (m810).trans (fI_kept (x_lt hTH747 kH836 giq (by decide))).symm
      have m867 := (m811).trans (fI_kept (x_lt hTH747 kH836 gkq (by decide))).symm
      have m868 := (m812).trans (fI_kept (x_lt hTH747 kH836 giq (by decide))).symm
      have m869 := (m813).trans (fI_kept (x_lt hTH747 kH836 gkq (by decide))).symm
      have m870 := (m814).trans (fI_kept (x_lt hTH747 kH836 giq (by decide))).symm
      have m871 := (m815).trans (fI_kept (x_lt hTH747 kH836 gkq (by decide))).symm
      have m872 := (m816).trans (fI_kept (x_lt hTH747 kH836 giq (by decide))).symm
      have m873 := (m817).trans (fI_kept (x_lt hTH747 kH836 gkq (by decide))).symm
      have m874 := (m818).trans (fI_kept (x_lt hTH747 kH836 giq (by decide))).symm
      have m875 := (m819).trans (fR_kept (x_lt hTH747 kH836 glq_ (by decide))).symm
      have m876 := (m755).trans (fR_kept (x_lt hTH747 kH836 ga (by decide))).symm
      have m877 := (m756).trans (fR_kept (x_lt hTH747 kH836 gw (by decide))).symm
      have m878 := (m757).trans (fR_kept (x_lt hTH747 kH836 ga (by decide))).symm
      have m879 := (m758).trans (fR_kept (x_lt hTH747 kH836 ga (by decide))).symm
      have m880 := (m759).trans (fR_kept (x_lt hTH747 kH836 gq730 (by decide))).symm
      have m881 := (m760).trans (fR_kept (x_lt hTH747 kH836 gq730 (by decide))).symm
      have m882 := (m761).trans (fR_kept (x_lt hTH747 kH836 gq730 (by decide))).symm
      have m883 := (m762).trans (fR_kept (x_lt hTH747 kH836 gq731 (by decide))).symm
      have m884 := (m763).trans (fR_kept (x_lt hTH747 kH836 gq731 (by decide))).symm
      have m885 := (m764).trans (fR_kept (x_lt hTH747 kH836 gq731 (by decide))).symm
      have m886 := (m765).trans (fR_kept (x_lt hTH747 kH836 gq731 (by decide))).symm
      have m887 := (m766).trans (fR_kept (x_lt hTH747 kH836 gq731 (by decide))).symm
      have m888 := (m767).trans (fR_kept (x_lt hTH747 kH836 gq731 (by decide))).symm
      have m889 := (m768).trans (fR_kept (x_lt hTH747 kH836 gq731 (by decide))).symm
      have m890 := (m769).trans (fR_kept (x_lt hTH747 kH836 gq731 (by decide))).symm
      have m891 := (m770).trans (fR_kept (x_lt hTH747 kH836 gtx_ (by decide))).symm
      have m892 := (m771).trans (fR_kept (x_lt hTH747 kH836 gtx_ (by decide))).symm
      have m893 := (m772).trans (fR_kept (x_lt hTH747 kH836 gtx_ (by decide))).symm
      have m894 := (m773).trans (fR_kept (x_lt hTH747 kH836 gtx_ (by decide))).symm
      have m895 := (m774).trans (fR_kept (x_lt hTH747 kH836 gtx_ (by decide))).symm
      have m896 := (m775).trans (fR_kept (x_lt hTH747 kH836 gtx_ (by decide))).symm
      have m897 := (m776).trans (fR_kept (x_lt hTH747 kH836 gtx_ (by decide))).symm
      have m898 := (m777).trans (fR_kept (x_lt hTH747 kH836 gtx_ (by decide))).symm
      have m899 := (m778).trans (fI_kept (x_lt hTH747 kH836 gw (by decide))).symm
      have m900 := (m779).trans (fI_kept (x_lt hTH747 kH836 gw (by decide))).symm
      have m901 := (m780).trans (fI_kept (x_lt hTH747 kH836 gw (by decide))).symm
      have m902 := (m781).trans (fI_kept (x_lt hTH747 kH836 gw (by decide))).symm
      have m903 := (m782).trans (fI_kept (x_lt hTH747 kH836 gw (by decide))).symm
      have m904 := (m783).trans (fI_kept (x_lt hTH747 kH836 gw (by decide))).symm
      have m905 := (fV_kept (x_lt hTH747 kH836 ga (by decide))).trans m789
      have m906 := (ex749).trans (fI_kept (x_lt hTH747 kH836 ga (by decide))).symm
      have m907 := (ex750).trans (fI_kept (x_lt hTH747 kH836 gq730 (by decide))).symm
      have m908 := (ex751).trans (fI_kept (x_lt hTH747 kH836 gq730 (by decide))).symm
      have m909 := (ex752).trans (fI_kept (x_lt hTH747 kH836 gq731 (by decide))).symm
      have m910 := (ex753).trans (fI_kept (x_lt hTH747 kH836 gq730 (by decide))).symm
      have m911 := (ex754).trans (fI_kept (x_lt hTH747 kH836 gq731 (by decide))).symm
      have m912 := (m798).trans (MF.i mf855 (k := 1) (by decide) (by decide)).symm
      have m913 := (m799).trans (MF.i mf855 (k := 2) (by decide) (by decide)).symm
      have m914 := (m800).trans (MF.i mf855 (k := 3) (by decide) (by decide)).symm
      have m915 := (m801).trans (MF.i mf855 (k := 59) (by decide) (by decide)).symm
      have m916 := (m802).trans (MF.i mf855 (k := 62) (by decide) (by decide)).symm
      have m917 := (m803).trans (MF.i mf855 (k := 65) (by decide) (by decide)).symm
      have m918 := (m804).trans (MF.r mf855 (k := 17) (by decide) (by decide)).symm
      have m919 := (m805).trans (MF.i mf855 (k := 70) (by decide) (by decide)).symm
      have m920 := (m806).trans (MF.r mf855 (k := 73) (by decide) (by decide)).symm
      have m921 := (eq825).trans (MF.r mf855 (k := 32) (by decide) (by decide)).symm
      have m922 := (eq826).trans (MF.r mf855 (k := 33) (by decide) (by decide)).symm
      have m923 := (eq827).trans (MF.r mf855 (k := 29) (by decide) (by decide)).symm
      have m924 := (eq828).trans (MF.r mf855 (k := 30) (by decide) (by decide)).symm
      have m925 := (eq829).trans (MF.r mf855 (k := 31) (by decide) (by decide)).symm
      have m926 := (eq830).trans (MF.r mf855 (k := 24) (by decide) (by decide)).symm
      have m927 := (eq831).trans (MF.r mf855 (k := 26) (by decide) (by decide)).symm
      have m928 := (eq832).trans (MF.r mf855 (k := 27) (by decide) (by decide)).symm
      have m929 := (eq833).trans (MF.r mf855 (k := 28) (by decide) (by decide)).symm
      have m930 := (eq834).trans (MF.r mf855 (k := 25) (by decide) (by decide)).symm
      have bx838 := ty_fi (x := x838) (k := 35) ex838 hTH836 gb rg_112 rfl
      have bx839 := ty_fi (x := x839) (k := 18) ex839 hTH836 gb rg_112 rfl
      refine W.eq (g2 := F0 m 475 ls [.int x837]) rfl ?_
      have hre := TXA.eq m784 m856 (by omega) (fun j hj => by show (fI _ tq j).toInt = (fI _ uq j).toInt; rw [ft0 j, f795 j]; exact congrArg Int32.toInt (htr j (by omega)).1)
      have rk931 : RKI K H836 kq iq k1.toInt := RKI.kept rk820 hTH747 gkq (x_lt hTH747 kH836 giq (by first | exact nmr ht (by decide) | exact nmo ht (by decide) | exact nme ht (by decide) | exact nmq ht (by decide) | decide | (intro z; simp only [List.mem_cons, List.not_mem_nil, or_false] at z <;> omega) | omega)) (fun q t hq ht => x_lt hTH747 kH836 hq (by first | exact nmr ht (by decide) | exact nmo ht (by decide) | exact nme ht (by decide) | exact nmq ht (by decide) | decide | (intro z; simp only [List.mem_cons, List.not_mem_nil, or_false] at z <;> omega) | omega))
      have r12 : RFW K H836 H747 w := RFW.cell hTH747 gw (fun q t hq ht => x_lt hTH747 kH836 hq (by first | exact nmr ht (by decide) | exact nmo ht (by decide) | exact nme ht (by decide) | exact nmq ht (by decide) | decide | (intro z; simp only [List.mem_cons, List.not_mem_nil, or_false] at z <;> omega) | omega))
      have cU := vcN.kept hTH747 gw r12 (fun q t hq ht => x_lt hTH747 kH836 hq (by first | exact nmr ht (by decide) | exact nmo ht (by decide) | exact nme ht (by decide) | exact nmq ht (by decide) | decide | (intro z; simp only [List.mem_cons, List.not_mem_nil, or_false] at z <;> omega) | omega))
      have own2 : OWN K H836 w := (re.1.st trf).st r12
      have tU : TPK (TXP K H836 w) (TXP K H747 w) := TXP.kept hTH747 gw r12 (fun q t hq ht => x_lt hTH747 kH836 hq (by first | exact nmr ht (by decide) | exact nmo ht (by decide) | exact nme ht (by decide) | exact nmq ht (by decide) | decide | (intro z; simp only [List.mem_cons, List.not_mem_nil, or_false] at z <;> omega) | omega))
      have er2 : ∀ bar, vrN K H836 b bar = vrN K H747 b bar := vrN.reg hTH747 gb (fun k hk => MF.r mf855 (by omega) (by intro z; simp only [List.mem_cons, List.not_mem_nil, or_false] at z; omega)) (fun q t hq ht => x_lt hTH747 kH836 hq (by first | exact nmr ht (by decide) | exact nmo ht (by decide) | exact nme ht (by decide) | exact nmq ht (by decide) | decide | (intro z; simp only [List.mem_cons, List.not_mem_nil, or_false] at z <;> omega) | omega))
      have rr_ : ∀ k : Nat, 24 ≤ k → k ≤ 33 → fR H836 b (K.1.2 10 k) = fR H747 b (K.1.2 10 k) := fun k h1 h2 => MF.r mf855 (by omega) (by intro z; simp only [List.mem_cons, List.not_mem_nil, or_false] at z; omega)
      have hb_ : ∀ j : Nat, j < ta.toNatClampNeg → (fun j => (fI H tq j).toInt) j = (fun j => (fI H747 uq j).toInt) j := fun j hj => by show (fI _ tq j).toInt = (fI _ uq j).toInt; rw [ft0 j, f795 j]; exact congrArg Int32.toInt (htr j (by omega)).1
      have hL_ : ta.toNatClampNeg = tb.toNatClampNeg := by omega
      have kC_ : kK (fun j => (fI H tq j).toInt) ta.toNatClampNeg = kK (fun j => (fI H747 uq j).toInt) tb.toNatClampNeg := (kK_c hb_).trans (by rw [hL_])
      have vC_ : vV (fun j => (fI H tq j).toInt) ta.toNatClampNeg = vV (fun j => (fI H747 uq j).toInt) tb.toNatClampNeg := (vV_c hb_).trans (by rw [hL_])
      have re932 : RE K H836 w b s1.toInt := by
        refine ⟨own2, re.2.1.congr (fun j hj => (cU j hj).trans (tbs j hj)) (fun j _ => by rw [show vrN K H836 b j = vrN K H b j from (er2 j).trans (er1 j)]; exact EqV.rf), ?_⟩
        rcases m785 with hm_ | ⟨n, hn_, h16_, hc_, hM_, hB_⟩
        · have hf_ := m859.resolve_left (fun z => z (by omega))
          exact re.2.2.congr (fun r kk vv lw n h1 h2 z => tU r kk vv lw n h1 h2 (HD.out ty_ hm_ r kk vv lw n h1 h2 z)) (fun r kk vv lw n h1 h2 z => TRP.frd rr_ hTH747 gb (by rw [← eq834, ← eq831, ← eq832, ← eq833, ← eq827, ← eq828, ← eq829, ← eq825, ← eq826]; exact hf_.1) (fun l => by rw [← eq830]; exact hf_.2 l) r kk vv lw n h1 h2 (tr1 r kk vv lw n h1 h2 z))
        · rcases m857 with hm2_ | ⟨n2, hn2_, -, hc2_, hMR_⟩
          · exfalso; omega
          · have en_ : n2 = n := by omega
            subst en_
            rw [kC_, vC_] at hM_
            have lwR_ : LWT (2 + ((xs (i.toNatClampNeg + 2)) : Int32).toNatClampNeg) = 0 := if_neg (by omega)
            have hl_ := (m856).lno hn2_
            rw [if_neg (by omega)] at hl_
            have rk_ : RWK H836 H747 (fR H747 b (K.1.2 10 25)) (fR H747 b (K.1.2 10 26)) (fR H747 b (K.1.2 10 27)) (fR H747 b (K.1.2 10 28)) (fR H747 b (K.1.2 10 29)) (fR H747 b (K.1.2 10 30)) (fR H747 b (K.1.2 10 31)) (fR H747 b (K.1.2 10 32)) (fR H747 b (K.1.2 10 33)) (fR H747 b (K.1.2 10 24)) (2 + ((xs (i.toNatClampNeg + 2)) : Int32).toNatClampNeg) := by rw [← eq834, ← eq831, ← eq832, ← eq833, ← eq827, ← eq828, ← eq829, ← eq825, ← eq826, ← eq830]; exact m858
            exact TPE.set (i := (2 + ((xs (i.toNatClampNeg + 2)) : Int32).toNatClampNeg)) re.2.2 h16_ (by rw [lwR_]; exact hl_) (by rw [lwR_]; exact tU _ _ _ _ _ (by omega) h16_ (by unfold TXP; rw [tow]; exact ⟨hM_, (congrArg Int32.toInt hc_).trans hn_, hB_⟩)) (by rw [lwR_]; exact ⟨hMR_, by rw [← m845]; exact (congrArg Int32.toInt hc2_).trans hn2_⟩) (fun r kk vv lw n h1 h2 h3 z => tU r kk vv lw n h1 h2 (tot r kk vv lw n h1 h2 (by omega) z)) (fun r kk vv lw n h1 h2 h3 z => TRP.rwk rr_ hTH747 gb rk_ r kk vv lw n h1 h2 h3 (tr1 r kk vv lw n h1 h2 z))
      refine lv_pop hx hb dL_law_475 rfl ?_
      refine lv_goto (tgt := 1509) hx hb dL_law_476 (by decide) ?_
      have cfin := i_cl (x := x839) bx839.1
      exact nx G H836 locsH836 _ _ ls ⟨hTH836, hN, ga, gb, g851, g852, g853, g854, ⟨(by rw [← m906, ← ex839]; omega), (by rw [← m876, ← m899, ← m912]; exact r1), (by rw [← m876, ← m900, ← m913]; exact r4), (by rw [← m876, ← m901, ← m914]; exact r5), (by rw [← m876, ← m902, ← m915]; exact r10), (by rw [← m876, ← m903, ← m916]; exact r13), (by rw [← m876, ← m904, ← m917]; exact r16)⟩, Or.inr ⟨kq, m905, gkq, (by rw [← m919]; exact h70), (by rw [← m863, ← m920, ← m864]; exact q1), (by rw [← m865, ← m920, ← m866]; exact q4), (by rw [← m867, ← m920, ← m868]; exact q5), (by rw [← m869, ← m920, ← m870]; exact q10), (by rw [← m871, ← m920, ← m872]; exact q13), (by rw [← m873, ← m920, ← m874]; exact q16), (by rw [← m920, ← m863]; exact RKI.cast rk931 (by omega)), (by rw [← m867]; omega), (by rw [← m867]; omega)⟩, (by unfold TB; rw [← m879, ← m846, ← ex839]; exact TBR.of htr f860 f861 (by omega)), (by unfold RELE; rw [← m876, ← m912, ← m901]; exact ⟨RE.cast re932 (by omega), by omega, by omega⟩), hSH836⟩ hl ⟨hc, hs, fun h => by have h1 := h.symm.trans m905; cases h1⟩
    · skip
      refine x_V (As := [.int (xs (i.toNatClampNeg + 1)), .int (xs (i.toNatClampNeg + 2))]) (rest := []) C (a_X9_text_n l K G H ((xs (i.toNatClampNeg + 1))) ((xs (i.toNatClampNeg + 2))) (ta) (s1) (s4) (s5) (s10) (s13) (s16) hT ga gw ew gtq etq eta es1 es4 es5 es10 es13 es16 (by omega) kn) yo_X9_text wM_L_43 ⟨⟨by decide, by decide⟩, show _ ≤ 60000 from Nat.le_trans hc (by decide), show _ ≤ 8922250 from Nat.le_trans hs (by decide)⟩ (x_rv C hT (ci := 9) rfl ga rg_68) rfl hl.1 rfl (Nat.le_of_ble_eq_true rfl) dL_law_457 hS (AE_new hN hS.1) (fun vH933 H933 locsH933 pH933 zH933 kH933 hSH933 => ?_)
      obtain ⟨x934, x935, hvH933, bx934, ex935, hrH933, m936, m937, m938, m939, m940, m941, m942, m943, m944, m945, hTH933⟩ := pH933
      subst hvH933
      have g946 : CG (avw K H933 b) := CG.congr (fun k hk j => av_eff hT kH933 gb (by decide) (CG_eff [68, 0] (by decide) k hk)) cg
      have g947 : TU (avw K H933 b) (svw K H933 b) := TU.congr (fun k hk j => av_eff hT kH933 gb (by decide) (TU_eff [68, 0] (by decide) k hk)) (fun k hk => sv_eff hT kH933 gb (by decide)) tu
      have g948 : WD (avw K H933 b) := WD.congr (fun k hk j => av_eff hT kH933 gb (by decide) (WD_eff [68, 0] (by decide) k hk)) wd
      have g949 : IM (avw K H933 b) := IM.congr (fun k hk j => av_eff hT kH933 gb (by decide) (IM_eff [68, 0] (by decide) k hk)) im
      have f950 : ∀ j : Nat, fI H933 tq j = fI H tq j := fun j => (fI_kept (x_lt hT kH933 gtq (by decide))).trans (ft0 j)
      have f951 : ∀ j : Nat, fI H933 uq j = fI H uq j := fun j => (fI_kept (x_lt hT kH933 guq (by decide))).trans (fu0 j)
      have m952 := (etb).trans (fI_kept (x_lt hT kH933 gb (by decide))).symm
      have m953 := (ey1).trans (fI_kept (x_lt hT kH933 gb (by decide))).symm
      have m954 := (ey4).trans (fI_kept (x_lt hT kH933 gb (by decide))).symm
      have m955 := (ey5).trans (fI_kept (x_lt hT kH933 gb (by decide))).symm
      have m956 := (ey10).trans (fI_kept (x_lt hT kH933 gb (by decide))).symm
      have m957 := (ey13).trans (fI_kept (x_lt hT kH933 gb (by decide))).symm
      have m958 := (ey16).trans (fI_kept (x_lt hT kH933 gb (by decide))).symm
      have m959 := (euq).trans (fR_kept (x_lt hT kH933 gb (by decide))).symm
      have m960 := (ehi).trans (fI_kept (x_lt hT kH933 gb (by decide))).symm
      have m961 := (eiq).trans (fR_kept (x_lt hT kH933 gb (by decide))).symm
      have m962 := (ek1).trans (fI_kept (x_lt hT kH933 gkq (by decide))).symm
      have m963 := (ei1).trans (fI_kept (x_lt hT kH933 giq (by decide))).symm
      have m964 := (ek4).trans (fI_kept (x_lt hT kH933 gkq (by decide))).symm
      have m965 := (ei4).trans (fI_kept (x_lt hT kH933 giq (by decide))).symm
      have m966 := (ek5).trans (fI_kept (x_lt hT kH933 gkq (by decide))).symm
      have m967 := (ei5).trans (fI_kept (x_lt hT kH933 giq (by decide))).symm
      have m968 := (ek10).trans (fI_kept (x_lt hT kH933 gkq (by decide))).symm
      have m969 := (ei10).trans (fI_kept (x_lt hT kH933 giq (by decide))).symm
      have m970 := (ek13).trans (fI_kept (x_lt hT kH933 gkq (by decide))).symm
      have m971 := (ei13).trans (fI_kept (x_lt hT kH933 giq (by decide))).symm
      have m972 := (ek16).trans (fI_kept (x_lt hT kH933 gkq (by decide))).symm
      have m973 := (ei16).trans (fI_kept (x_lt hT kH933 giq (by decide))).symm
      have bx935 := ty_fi (x := x935) (k := 3) ex935 hTH933 ga rg_68 rfl
      refine W.eq (g2 := F0 m 460 ls [.int x934]) rfl ?_
      have rk974 : RKI K H933 kq iq k1.toInt := RKI.kept rke hT gkq (x_lt hT kH933 giq (by first | exact nmr ht (by decide) | exact nmo ht (by decide) | exact nme ht (by decide) | exact nmq ht (by decide) | decide | (intro z; simp only [List.mem_cons, List.not_mem_nil, or_false] at z <;> omega) | omega)) (fun q t hq ht => x_lt hT kH933 hq (by first | exact nmr ht (by decide) | exact nmo ht (by decide) | exact nme ht (by decide) | exact nmq ht (by decide) | decide | (intro z; simp only [List.mem_cons, List.not_mem_nil, or_false] at z <;> omega) | omega))
      have re975 : RE K H933 w b s1.toInt := RE.now re hT gw gb m944 (fun q t hq ht => x_lt hT kH933 hq (by first | exact nmr ht (by decide) | exact nmo ht (by decide) | exact nme ht (by decide) | exact nmq ht (by decide) | decide | (intro z; simp only [List.mem_cons, List.not_mem_nil, or_false] at z <;> omega) | omega))
      refine lv_pop hx hb dL_law_460 rfl ?_
      refine lv_aload_n hx hb dL_law_461 rfl (lv_at hl 1 rfl) ?_
      refine lv_aload_n hx hb dL_law_462 rfl (lv_at hl 3 rfl) ?_
      refine lv_iload_n hx hb dL_law_463 rfl (lv_at hl 0 rfl) ?_
      refine lv_iconst (v := 1) hx hb dL_law_464 (by decide) ?_
      refine lv_iadd hx hb dL_law_465 ?_
      refine lv_topi (fun x976 ex976 => ?_)
      obtain ⟨tx976, ejx976, evx976⟩ := lw_ix (k := 1) ex976 hI hL rfl (by decide)
      clear tx976
      refine va_sld hx hb hX hbl (Nat.not_le.mpr hbl) hSH933 (vp_in_iff.mpr evx976) dL_law_466 ?_
      refine W.eq (g2 := F0 m 467 ls [.int (xs (i.toNatClampNeg + 1)), .ref b]) (congrArg (fun z => F0 m 467 ls [.int (xs z), .ref b]) ejx976) ?_
      refine lv_aload_n hx hb dL_law_467 rfl (lv_at hl 3 rfl) ?_
      refine lv_iload_n hx hb dL_law_468 rfl (lv_at hl 0 rfl) ?_
      refine lv_iconst (v := 2) hx hb dL_law_469 (by decide) ?_
      refine lv_iadd hx hb dL_law_470 ?_
      refine lv_topi (fun x977 ex977 => ?_)
      obtain ⟨tx977, ejx977, evx977⟩ := lw_ix (k := 2) ex977 hI hL rfl (by decide)
      clear tx977
      refine va_sld hx hb hX hbl (Nat.not_le.mpr hbl) hSH933 (vp_in_iff.mpr evx977) dL_law_471 ?_
      refine W.eq (g2 := F0 m 472 ls [.int (xs (i.toNatClampNeg + 2)), .int (xs (i.toNatClampNeg + 1)), .ref b]) (congrArg (fun z => F0 m 472 ls [.int (xs z), .int (xs (i.toNatClampNeg + 1)), .ref b]) ejx977) ?_
      refine x_V (As := [.int (xs (i.toNatClampNeg + 1)), .int (xs (i.toNatClampNeg + 2))]) (rest := []) C (a_X10_text_n l K G H933 ((xs (i.toNatClampNeg + 1))) ((xs (i.toNatClampNeg + 2))) (tb) hTH933 gb m952 g946 g947 g948 g949 (by omega)) yo_X10_text wM_L_47 ⟨⟨by decide, by decide⟩, show _ ≤ 60000 from Nat.le_trans hc (by decide), show _ ≤ 8922250 from Nat.le_trans hs (by decide)⟩ (x_rv C hTH933 (ci := 10) rfl gb rg_112) rfl hl.1 rfl (Nat.le_of_ble_eq_true rfl) dL_law_472 hSH933 (AE_new hN hSH933.1) (fun vH978 H978 locsH978 pH978 zH978 kH978 hSH978 => ?_)
      obtain ⟨x979, x980, hvH978, bx979, ex980, hrH978, g981, g982, g983, g984, mf985, hTH978⟩ := pH978
      subst hvH978
      have f986 : ∀ j : Nat, fI H978 tq j = fI H tq j := fun j => (fI_kept (x_lt hTH933 kH978 gtq (by decide))).trans (f950 j)
      have f987 : ∀ j : Nat, fI H978 uq j = fI H uq j := fun j => (fI_kept (x_lt hTH933 kH978 guq (by decide))).trans (f951 j)
      have m988 := (m962).trans (fI_kept (x_lt hTH933 kH978 gkq (by decide))).symm
      have m989 := (m963).trans (fI_kept (x_lt hTH933 kH978 giq (by decide))).symm
      have m990 := (m964).trans (fI_kept (x_lt hTH933 kH978 gkq (by decide))).symm
      have m991 := (m965).trans (fI_kept (x_lt hTH933 kH978 giq (by decide))).symm
      have m992 := (m966).trans (fI_kept (x_lt hTH933 kH978 gkq (by decide))).symm
      have m993 := (m967).trans (fI_kept (x_lt hTH933 kH978 giq (by decide))).symm
      have m994 := (m968).trans (fI_kept (x_lt hTH933 kH978 gkq (by decide))).symm
      have m995 := (m969).trans (fI_kept (x_lt hTH933 kH978 giq (by decide))).symm
      have m996 := (m970).trans (fI_kept (x_lt hTH933 kH978 gkq (by decide))).symm
      have m997 := (m971).trans (fI_kept (x_lt hTH933 kH978 giq (by decide))).symm
      have m998 := (m972).trans (fI_kept (x_lt hTH933 kH978 gkq (by decide))).symm
      have m999 := (m973).trans (fI_kept (x_lt hTH933 kH978 giq (by decide))).symm
      have m1000 := (m936).trans (fR_kept (x_lt hTH933 kH978 ga (by decide))).symm
      have m1001 := (m937).trans (fR_kept (x_lt hTH933 kH978 ga (by decide))).symm
      have m1002 := (m938).trans (fI_kept (x_lt hTH933 kH978 gw (by decide))).symm
      have m1003 := (m939).trans (fI_kept (x_lt hTH933 kH978 gw (by decide))).symm
      have m1004 := (m940).trans (fI_kept (x_lt hTH933 kH978 gw (by decide))).symm
      have m1005 := (m941).trans (fI_kept (x_lt hTH933 kH978 gw (by decide))).symm
      have m1006 := (m942).trans (fI_kept (x_lt hTH933 kH978 gw (by decide))).symm
      have m1007 := (m943).trans (fI_kept (x_lt hTH933 kH978 gw (by decide))).symm
      have m1008 := (fV_kept (x_lt hTH933 kH978 ga (by decide))).trans m945
      have m1009 := (ex935).trans (fI_kept (x_lt hTH933 kH978 ga (by decide))).symm
      have m1010 := (m953).trans (MF.i mf985 (k := 1) (by decide) (by decide)).symm
      have m1011 := (m954).trans (MF.i mf985 (k := 2) (by decide) (by decide)).symm
      have m1012 := (m955).trans (MF.i mf985 (k := 3) (by decide) (by decide)).symm
      have m1013 := (m956).trans (MF.i mf985 (k := 59) (by decide) (by decide)).symm
      have m1014 := (m957).trans (MF.i mf985 (k := 62) (by decide) (by decide)).symm
      have m1015 := (m958).trans (MF.i mf985 (k := 65) (by decide) (by decide)).symm
      have m1016 := (m959).trans (MF.r mf985 (k := 17) (by decide) (by decide)).symm
      have m1017 := (m960).trans (MF.i mf985 (k := 70) (by decide) (by decide)).symm
      have m1018 := (m961).trans (MF.r mf985 (k := 73) (by decide) (by decide)).symm
      have bx980 := ty_fi (x := x980) (k := 18) ex980 hTH978 gb rg_112 rfl
      refine W.eq (g2 := F0 m 475 ls [.int x979]) rfl ?_
      have rk1019 : RKI K H978 kq iq k1.toInt := RKI.kept rk974 hTH933 gkq (x_lt hTH933 kH978 giq (by first | exact nmr ht (by decide) | exact nmo ht (by decide) | exact nme ht (by decide) | exact nmq ht (by decide) | decide | (intro z; simp only [List.mem_cons, List.not_mem_nil, or_false] at z <;> omega) | omega)) (fun q t hq ht => x_lt hTH933 kH978 hq (by first | exact nmr ht (by decide) | exact nmo ht (by decide) | exact nme ht (by decide) | exact nmq ht (by decide) | decide | (intro z; simp only [List.mem_cons, List.not_mem_nil, or_false] at z <;> omega) | omega))
      have re1020 : RE K H978 w b s1.toInt := RE.ref re975 hTH933 gw gb (fun k hk => MF.r mf985 (by omega) (by intro z; simp only [List.mem_cons, List.not_mem_nil, or_false] at z; omega)) (fun q t hq ht => x_lt hTH933 kH978 hq (by first | exact nmr ht (by decide) | exact nmo ht (by decide) | exact nme ht (by decide) | exact nmq ht (by decide) | decide | (intro z; simp only [List.mem_cons, List.not_mem_nil, or_false] at z <;> omega) | omega))
      refine lv_pop hx hb dL_law_475 rfl ?_
      refine lv_goto (tgt := 1509) hx hb dL_law_476 (by decide) ?_
      have cfin := i_cl (x := x980) bx980.1
      exact nx G H978 locsH978 _ _ ls ⟨hTH978, hN, ga, gb, g981, g982, g983, g984, ⟨(by rw [← m1009, ← ex980]; omega), (by rw [← m1000, ← m1002, ← m1010]; exact r1), (by rw [← m1000, ← m1003, ← m1011]; exact r4), (by rw [← m1000, ← m1004, ← m1012]; exact r5), (by rw [← m1000, ← m1005, ← m1013]; exact r10), (by rw [← m1000, ← m1006, ← m1014]; exact r13), (by rw [← m1000, ← m1007, ← m1015]; exact r16)⟩, Or.inr ⟨kq, m1008, gkq, (by rw [← m1017]; exact h70), (by rw [← m988, ← m1018, ← m989]; exact q1), (by rw [← m990, ← m1018, ← m991]; exact q4), (by rw [← m992, ← m1018, ← m993]; exact q5), (by rw [← m994, ← m1018, ← m995]; exact q10), (by rw [← m996, ← m1018, ← m997]; exact q13), (by rw [← m998, ← m1018, ← m999]; exact q16), (by rw [← m1018, ← m988]; exact RKI.cast rk1019 (by omega)), (by rw [← m992]; omega), (by rw [← m992]; omega)⟩, (by unfold TB; rw [← m1001, ← m1016, ← ex980]; exact TBR.of htr f986 f987 (by omega)), (by unfold RELE; rw [← m1000, ← m1010, ← m1004]; exact ⟨RE.cast re1020 (by omega), by omega, by omega⟩), hSH978⟩ hl ⟨hc, hs, fun h => by have h1 := h.symm.trans m1008; cases h1⟩
set_option maxRecDepth 100000 in
set_option maxHeartbeats 8000000 in
theorem lw_c7 {p : Program} {l : Launch} {e : Env} {s : State} {m : MethodId} {below : List Frame} {meth : Method} {c : Code} {K : KE} {b0 L : Nat} {xs : Nat → Int32} {G : Nat → Option Nat} {H : Heap} {locs : List Loc} {a b : Nat} {cells slots : Nat} {ls : Array Slot} {i : Int32} {n : Nat} (D : LC p K s m meth c b0 L xs) (S : SX K s G H locs a b) (hl : lv_has ls 4 [(3, .int i), (2, .ref b), (1, .ref a), (0, .ref b0)]) (hi : 0 ≤ i.toInt ∧ i.toInt + 6 ≤ L) (hn : n ≤ 511) (hB : BD K H a cells slots) (nx : ∀ (G : Nat → Option Nat) (H : Heap) (locs : List Loc) (cells slots : Nat) (ls : Array Slot), SX K s G H locs a b → lv_has ls 4 [(3, .int i), (2, .ref b), (1, .ref a), (0, .ref b0)] → BD K H a cells slots → W p l e room_1 s m #[Value.ref b0] below meth c H locs cells slots (lw_Z below #[Value.ref b0] s) (F0 m 1509 ls [])) : W p l e room_1 s m #[Value.ref b0] below meth c H locs cells slots (lw_Z below #[Value.ref b0] s) (F0 m 479 ls []) := by
  have hI := hi
  obtain ⟨C, hX, hbl, hL⟩ := id D
  obtain ⟨hx, hb, hml, hown, hts, hKT, hr, hlocks, hnm⟩ := id C
  obtain ⟨hT, hN, ga, gb, cg, tu, wd, im, ⟨rt, r1, r4, r5, r10, r13, r16⟩, hk, htb, her, hS⟩ := S
  obtain ⟨hc, hs, hB0⟩ := hB
  have n_1 : (1 : Int32).toInt = 1 := rfl
  obtain ⟨w, ew⟩ : ∃ z : Nat, z = fR H a (K.1.2 9 0) := ⟨_, rfl⟩
  have gw := ty_fr (q := w) (k := 0) (u := 0) ew hT ga rg_68 rfl
  rw [← ew] at r1 r4 r5 r10 r13 r16
  obtain ⟨ta, eta⟩ : ∃ z : Int32, z = fI H a (K.1.2 9 3) := ⟨_, rfl⟩
  rw [← eta] at rt
  obtain ⟨tb, etb⟩ : ∃ z : Int32, z = fI H b (K.1.2 10 18) := ⟨_, rfl⟩
  rw [← etb] at rt
  obtain ⟨s1, es1⟩ : ∃ z : Int32, z = fI H w (K.1.2 8 1) := ⟨_, rfl⟩
  rw [← es1] at r1
  obtain ⟨y1, ey1⟩ : ∃ z : Int32, z = fI H b (K.1.2 10 1) := ⟨_, rfl⟩
  rw [← ey1] at r1
  obtain ⟨s4, es4⟩ : ∃ z : Int32, z = fI H w (K.1.2 8 4) := ⟨_, rfl⟩
  rw [← es4] at r4
  obtain ⟨y4, ey4⟩ : ∃ z : Int32, z = fI H b (K.1.2 10 2) := ⟨_, rfl⟩
  rw [← ey4] at r4
  obtain ⟨s5, es5⟩ : ∃ z : Int32, z = fI H w (K.1.2 8 5) := ⟨_, rfl⟩
  rw [← es5] at r5
  obtain ⟨y5, ey5⟩ : ∃ z : Int32, z = fI H b (K.1.2 10 3) := ⟨_, rfl⟩
  rw [← ey5] at r5
  obtain ⟨s10, es10⟩ : ∃ z : Int32, z = fI H w (K.1.2 8 10) := ⟨_, rfl⟩
  rw [← es10] at r10
  obtain ⟨y10, ey10⟩ : ∃ z : Int32, z = fI H b (K.1.2 10 59) := ⟨_, rfl⟩
  rw [← ey10] at r10
  obtain ⟨s13, es13⟩ : ∃ z : Int32, z = fI H w (K.1.2 8 13) := ⟨_, rfl⟩
  rw [← es13] at r13
  obtain ⟨y13, ey13⟩ : ∃ z : Int32, z = fI H b (K.1.2 10 62) := ⟨_, rfl⟩
  rw [← ey13] at r13
  obtain ⟨s16, es16⟩ : ∃ z : Int32, z = fI H w (K.1.2 8 16) := ⟨_, rfl⟩
  rw [← es16] at r16
  obtain ⟨y16, ey16⟩ : ∃ z : Int32, z = fI H b (K.1.2 10 65) := ⟨_, rfl⟩
  rw [← ey16] at r16
  obtain ⟨tq, etq⟩ : ∃ z : Nat, z = fR H a (K.1.2 9 2) := ⟨_, rfl⟩
  have gtq := ty_fr (q := tq) (k := 2) (u := 108) etq hT ga rg_68 rfl
  obtain ⟨uq, euq⟩ : ∃ z : Nat, z = fR H b (K.1.2 10 17) := ⟨_, rfl⟩
  have guq := ty_fr (q := uq) (k := 17) (u := 126) euq hT gb rg_112 rfl
  have htr : TBR (fun j => fI H tq j) (fun j => fI H uq j) tb.toNatClampNeg := by rw [etq, euq, etb]; exact htb
  have ft0 : ∀ j : Nat, fI H tq j = fI H tq j := fun _ => rfl
  have fu0 : ∀ j : Nat, fI H uq j = fI H uq j := fun _ => rfl
  have bta := ty_fi (x := ta) (k := 3) eta hT ga rg_68 rfl
  have cta := i_cl (x := ta) (by omega)
  have btb := ty_fi (x := tb) (k := 18) etb hT gb rg_112 rfl
  have ctb := i_cl (x := tb) (by omega)
  obtain ⟨her0, hsl1, hsl2⟩ := her
  have hsl0 := And.intro hsl1 hsl2
  clear hsl1 hsl2
  rw [← ew] at her0 hsl0
  have re : RE K H w b s1.toInt := RE.cast her0 (by rw [← ey1]; exact r1)
  have hsl : 0 ≤ s5.toInt ∧ s5.toInt ≤ 9999 := by rw [es5]; exact hsl0
  clear her0 hsl0
  have bt_s1 := ty_fi (x := s1) (k := 1) es1 hT gw rg_0 rfl
  have bt_s4 := ty_fi (x := s4) (k := 4) es4 hT gw rg_0 rfl
  have bt_y1 := ty_fi (x := y1) (k := 1) ey1 hT gb rg_112 rfl
  have bt_y4 := ty_fi (x := y4) (k := 2) ey4 hT gb rg_112 rfl
  rcases hk with ⟨kn, h70⟩ | ⟨kq, kn, gkq, h70, q1, q4, q5, q10, q13, q16, rke, ks1, ks2⟩
  · skip
    obtain ⟨hi, ehi⟩ : ∃ z : Int32, z = fI H b (K.1.2 10 70) := ⟨_, rfl⟩
    rw [← ehi] at h70
    obtain ⟨hc0, hs0⟩ := hB0 kn
    obtain ⟨iq, eiq⟩ : ∃ z : Nat, z = fR H b (K.1.2 10 73) := ⟨_, rfl⟩
    have giq := ty_fr (q := iq) (k := 73) (u := 162) eiq hT gb rg_112 rfl
    refine lv_aload_n hx hb dL_law_479 rfl (lv_at hl 2 rfl) ?_
    refine lv_aload_n hx hb dL_law_480 rfl (lv_at hl 3 rfl) ?_
    refine lv_iload_n hx hb dL_law_481 rfl (lv_at hl 0 rfl) ?_
    refine lv_iconst (v := 1) hx hb dL_law_482 (by decide) ?_
    refine lv_iadd hx hb dL_law_483 ?_
    refine lv_topi (fun x101 ex101 => ?_)
    obtain ⟨tx101, ejx101, evx101⟩ := lw_ix (k := 1) ex101 hI hL rfl (by decide)
    clear tx101
    refine va_sld hx hb hX hbl (Nat.not_le.mpr hbl) hS (vp_in_iff.mpr evx101) dL_law_484 ?_
    refine W.eq (g2 := F0 m 485 ls [.int (xs (i.toNatClampNeg + 1)), .ref a]) (congrArg (fun z => F0 m 485 ls [.int (xs z), .ref a]) ejx101) ?_
    refine x_V (As := [.int (xs (i.toNatClampNeg + 1))]) (rest := []) C (a_X9_fault l K G H ((xs (i.toNatClampNeg + 1))) hT ga) yo_X9_fault wM_L_48 ⟨⟨by decide, by decide⟩, show _ ≤ 60000 from Nat.le_trans hc (by decide), show _ ≤ 8922250 from Nat.le_trans hs (by decide)⟩ (x_rv C hT (ci := 9) rfl ga rg_68) rfl hl.1 rfl (Nat.le_of_ble_eq_true rfl) dL_law_485 hS (AE_new hN hS.1) (fun vH102 H102 locsH102 pH102 zH102 kH102 hSH102 => ?_)
    obtain ⟨x103, hvH102, hTH102⟩ := pH102
    subst hvH102
    have g104 : CG (avw K H102 b) := CG.congr (fun k hk j => av_eff hT kH102 gb (by decide) (CG_eff [] (by decide) k hk)) cg
    have g105 : TU (avw K H102 b) (svw K H102 b) := TU.congr (fun k hk j => av_eff hT kH102 gb (by decide) (TU_eff [] (by decide) k hk)) (fun k hk => sv_eff hT kH102 gb (by decide)) tu
    have g106 : WD (avw K H102 b) := WD.congr (fun k hk j => av_eff hT kH102 gb (by decide) (WD_eff [] (by decide) k hk)) wd
    have g107 : IM (avw K H102 b) := IM.congr (fun k hk j => av_eff hT kH102 gb (by decide) (IM_eff [] (by decide) k hk)) im
    have f108 : ∀ j : Nat, fI H102 tq j = fI H tq j := fun j => (fI_kept (x_lt hT kH102 gtq (by decide))).trans (ft0 j)
    have f109 : ∀ j : Nat, fI H102 uq j = fI H uq j := fun j => (fI_kept (x_lt hT kH102 guq (by decide))).trans (fu0 j)
    have m110 := (ew).trans (fR_kept (x_lt hT kH102 ga (by decide))).symm
    have m111 := (eta).trans (fI_kept (x_lt hT kH102 ga (by decide))).symm
    have m112 := (etb).trans (fI_kept (x_lt hT kH102 gb (by decide))).symm
    have m113 := (es1).trans (fI_kept (x_lt hT kH102 gw (by decide))).symm
    have m114 := (ey1).trans (fI_kept (x_lt hT kH102 gb (by decide))).symm
    have m115 := (es4).trans (fI_kept (x_lt hT kH102 gw (by decide))).symm
    have m116 := (ey4).trans (fI_kept (x_lt hT kH102 gb (by decide))).symm
    have m117 := (es5).trans (fI_kept (x_lt hT kH102 gw (by decide))).symm
    have m118 := (ey5).trans (fI_kept (x_lt hT kH102 gb (by decide))).symm
    have m119 := (es10).trans (fI_kept (x_lt hT kH102 gw (by decide))).symm
    have m120 := (ey10).trans (fI_kept (x_lt hT kH102 gb (by decide))).symm
    have m121 := (es13).trans (fI_kept (x_lt hT kH102 gw (by decide))).symm
    have m122 := (ey13).trans (fI_kept (x_lt hT kH102 gb (by decide))).symm
    have m123 := (es16).trans (fI_kept (x_lt hT kH102 gw (by decide))).symm
    have m124 := (ey16).trans (fI_kept (x_lt hT kH102 gb (by decide))).symm
    have m125 := (etq).trans (fR_kept (x_lt hT kH102 ga (by decide))).symm
    have m126 := (euq).trans (fR_kept (x_lt hT kH102 gb (by decide))).symm
    have m127 := (ehi).trans (fI_kept (x_lt hT kH102 gb (by decide))).symm
    have m128 := (fV_kept (x_lt hT kH102 ga (by decide))).trans kn
    have m129 := (eiq).trans (fR_kept (x_lt hT kH102 gb (by decide))).symm
    refine W.eq (g2 := F0 m 488 ls [.int x103]) rfl ?_
    have re130 : RE K H102 w b s1.toInt := RE.cls re hT gw gb (fun q t hq ht => x_lt hT kH102 hq (by first | exact nmr ht (by decide) | exact nmo ht (by decide) | exact nme ht (by decide) | exact nmq ht (by decide) | decide | (intro z; simp only [List.mem_cons, List.not_mem_nil, or_false] at z <;> omega) | omega))
    refine lv_pop hx hb dL_law_488 rfl ?_
    refine lv_aload_n hx hb dL_law_489 rfl (lv_at hl 1 rfl) ?_
    refine lv_aload_n hx hb dL_law_490 rfl (lv_at hl 3 rfl) ?_
    refine lv_iload_n hx hb dL_law_491 rfl (lv_at hl 0 rfl) ?_
    refine lv_iconst (v := 1) hx hb dL_law_492 (by decide) ?_
    refine lv_iadd hx hb dL_law_493 ?_
    refine lv_topi (fun x131 ex131 => ?_)
    obtain ⟨tx131, ejx131, evx131⟩ := lw_ix (k := 1) ex131 hI hL rfl (by decide)
    clear tx131
    refine va_sld hx hb hX hbl (Nat.not_le.mpr hbl) hSH102 (vp_in_iff.mpr evx131) dL_law_494 ?_
    refine W.eq (g2 := F0 m 495 ls [.int (xs (i.toNatClampNeg + 1)), .ref b]) (congrArg (fun z => F0 m 495 ls [.int (xs z), .ref b]) ejx131) ?_
    refine x_V (As := [.int (xs (i.toNatClampNeg + 1))]) (rest := []) C (a_X10_fault l K G H102 ((xs (i.toNatClampNeg + 1))) hTH102 gb g104 g105 g106 g107) yo_X10_fault wM_L_51 ⟨⟨by decide, by decide⟩, show _ ≤ 60000 from Nat.le_trans hc (by decide), show _ ≤ 8922250 from Nat.le_trans hs (by decide)⟩ (x_rv C hTH102 (ci := 10) rfl gb rg_112) rfl hl.1 rfl (Nat.le_of_ble_eq_true rfl) dL_law_495 hSH102 (AE_new hN hSH102.1) (fun vH132 H132 locsH132 pH132 zH132 kH132 hSH132 => ?_)
    obtain ⟨x133, hvH132, g134, g135, g136, g137, mf138, hTH132⟩ := pH132
    subst hvH132
    have f139 : ∀ j : Nat, fI H132 tq j = fI H tq j := fun j => (fI_kept (x_lt hTH102 kH132 gtq (by decide))).trans (f108 j)
    have f140 : ∀ j : Nat, fI H132 uq j = fI H uq j := fun j => (fI_kept (x_lt hTH102 kH132 guq (by decide))).trans (f109 j)
    have m141 := (m110).trans (fR_kept (x_lt hTH102 kH132 ga (by decide))).symm
    have m142 := (m111).trans (fI_kept (x_lt hTH102 kH132 ga (by decide))).symm
    have m143 := (m113).trans (fI_kept (x_lt hTH102 kH132 gw (by decide))).symm
    have m144 := (m115).trans (fI_kept (x_lt hTH102 kH132 gw (by decide))).symm
    have m145 := (m117).trans (fI_kept (x_lt hTH102 kH132 gw (by decide))).symm
    have m146 := (m119).trans (fI_kept (x_lt hTH102 kH132 gw (by decide))).symm
    have m147 := (m121).trans (fI_kept (x_lt hTH102 kH132 gw (by decide))).symm
    have m148 := (m123).trans (fI_kept (x_lt hTH102 kH132 gw (by decide))).symm
    have m149 := (m125).trans (fR_kept (x_lt hTH102 kH132 ga (by decide))).symm
    have m150 := (fV_kept (x_lt hTH102 kH132 ga (by decide))).trans m128
    have m151 := (m112).trans (MF.i mf138 (k := 18) (by decide) (by decide)).symm
    have m152 := (m114).trans (MF.i mf138 (k := 1) (by decide) (by decide)).symm
    have m153 := (m116).trans (MF.i mf138 (k := 2) (by decide) (by decide)).symm
    have m154 := (m118).trans (MF.i mf138 (k := 3) (by decide) (by decide)).symm
    have m155 := (m120).trans (MF.i mf138 (k := 59) (by decide) (by decide)).symm
    have m156 := (m122).trans (MF.i mf138 (k := 62) (by decide) (by decide)).symm
    have m157 := (m124).trans (MF.i mf138 (k := 65) (by decide) (by decide)).symm
    have m158 := (m126).trans (MF.r mf138 (k := 17) (by decide) (by decide)).symm
    have m159 := (m127).trans (MF.i mf138 (k := 70) (by decide) (by decide)).symm
    have m160 := (m129).trans (MF.r mf138 (k := 73) (by decide) (by decide)).symm
    refine W.eq (g2 := F0 m 498 ls [.int x133]) rfl ?_
    have re161 : RE K H132 w b s1.toInt := RE.ref re130 hTH102 gw gb (fun k hk => MF.r mf138 (by omega) (by intro z; simp only [List.mem_cons, List.not_mem_nil, or_false] at z; omega)) (fun q t hq ht => x_lt hTH102 kH132 hq (by first | exact nmr ht (by decide) | exact nmo ht (by decide) | exact nme ht (by decide) | exact nmq ht (by decide) | decide | (intro z; simp only [List.mem_cons, List.not_mem_nil, or_false] at z <;> omega) | omega))
    refine lv_pop hx hb dL_law_498 rfl ?_
    refine lv_goto (tgt := 1509) hx hb dL_law_499 (by decide) ?_
    exact nx G H132 locsH132 _ _ ls ⟨hTH132, hN, ga, gb, g134, g135, g136, g137, ⟨(by rw [← m142, ← m151]; exact rt), (by rw [← m141, ← m143, ← m152]; exact r1), (by rw [← m141, ← m144, ← m153]; exact r4), (by rw [← m141, ← m145, ← m154]; exact r5), (by rw [← m141, ← m146, ← m155]; exact r10), (by rw [← m141, ← m147, ← m156]; exact r13), (by rw [← m141, ← m148, ← m157]; exact r16)⟩, Or.inl ⟨m150, (by rw [← m159]; exact h70)⟩, (by unfold TB; rw [← m149, ← m158, ← m151]; exact TBR.of htr f139 f140 (by omega)), (by unfold RELE; rw [← m141, ← m152, ← m145]; exact ⟨RE.cast re161 (by omega), by omega, by omega⟩), hSH132⟩ hl ⟨hc, hs, fun _ => ⟨hc0, hs0⟩⟩
  · skip
    obtain ⟨hi, ehi⟩ : ∃ z : Int32, z = fI H b (K.1.2 10 70) := ⟨_, rfl⟩
    rw [← ehi] at h70
    obtain ⟨iq, eiq⟩ : ∃ z : Nat, z = fR H b (K.1.2 10 73) := ⟨_, rfl⟩
    have giq := ty_fr (q := iq) (k := 73) (u := 162) eiq hT gb rg_112 rfl
    rw [← eiq] at q1 q4 q5 q10 q13 q16
    obtain ⟨k1, ek1⟩ : ∃ z : Int32, z = fI H kq (K.1.2 8 1) := ⟨_, rfl⟩
    rw [← ek1] at q1
    obtain ⟨i1, ei1⟩ : ∃ z : Int32, z = fI H iq ((0 : Int32).toNatClampNeg) := ⟨_, rfl⟩
    rw [← ei1] at q1
    obtain ⟨k4, ek4⟩ : ∃ z : Int32, z = fI H kq (K.1.2 8 4) := ⟨_, rfl⟩
    rw [← ek4] at q4
    obtain ⟨i4, ei4⟩ : ∃ z : Int32, z = fI H iq ((1 : Int32).toNatClampNeg) := ⟨_, rfl⟩
    rw [← ei4] at q4
    obtain ⟨k5, ek5⟩ : ∃ z : Int32, z = fI H kq (K.1.2 8 5) := ⟨_, rfl⟩
    rw [← ek5] at q5
    obtain ⟨i5, ei5⟩ : ∃ z : Int32, z = fI H iq ((2 : Int32).toNatClampNeg) := ⟨_, rfl⟩
    rw [← ei5] at q5
    obtain ⟨k10, ek10⟩ : ∃ z : Int32, z = fI H kq (K.1.2 8 10) := ⟨_, rfl⟩
    rw [← ek10] at q10
    obtain ⟨i10, ei10⟩ : ∃ z : Int32, z = fI H iq ((3 : Int32).toNatClampNeg) := ⟨_, rfl⟩
    rw [← ei10] at q10
    obtain ⟨k13, ek13⟩ : ∃ z : Int32, z = fI H kq (K.1.2 8 13) := ⟨_, rfl⟩
    rw [← ek13] at q13
    obtain ⟨i13, ei13⟩ : ∃ z : Int32, z = fI H iq ((4 : Int32).toNatClampNeg) := ⟨_, rfl⟩
    rw [← ei13] at q13
    obtain ⟨k16, ek16⟩ : ∃ z : Int32, z = fI H kq (K.1.2 8 16) := ⟨_, rfl⟩
    rw [← ek16] at q16
    obtain ⟨i16, ei16⟩ : ∃ z : Int32, z = fI H iq ((5 : Int32).toNatClampNeg) := ⟨_, rfl⟩
    rw [← ei16] at q16
    rw [← eiq, ← ek1] at rke
    have hsk : 0 ≤ k5.toInt ∧ k5.toInt ≤ 9999 := by rw [ek5]; exact ⟨ks1, ks2⟩
    refine lv_aload_n hx hb dL_law_479 rfl (lv_at hl 2 rfl) ?_
    refine lv_aload_n hx hb dL_law_480 rfl (lv_at hl 3 rfl) ?_
    refine lv_iload_n hx hb dL_law_481 rfl (lv_at hl 0 rfl) ?_
    refine lv_iconst (v := 1) hx hb dL_law_482 (by decide) ?_
    refine lv_iadd hx hb dL_law_483 ?_
    refine lv_topi (fun x162 ex162 => ?_)
    obtain ⟨tx162, ejx162, evx162⟩ := lw_ix (k := 1) ex162 hI hL rfl (by decide)
    clear tx162
    refine va_sld hx hb hX hbl (Nat.not_le.mpr hbl) hS (vp_in_iff.mpr evx162) dL_law_484 ?_
    refine W.eq (g2 := F0 m 485 ls [.int (xs (i.toNatClampNeg + 1)), .ref a]) (congrArg (fun z => F0 m 485 ls [.int (xs z), .ref a]) ejx162) ?_
    refine x_V (As := [.int (xs (i.toNatClampNeg + 1))]) (rest := []) C (a_X9_fault l K G H ((xs (i.toNatClampNeg + 1))) hT ga) yo_X9_fault wM_L_48 ⟨⟨by decide, by decide⟩, show _ ≤ 60000 from Nat.le_trans hc (by decide), show _ ≤ 8922250 from Nat.le_trans hs (by decide)⟩ (x_rv C hT (ci := 9) rfl ga rg_68) rfl hl.1 rfl (Nat.le_of_ble_eq_true rfl) dL_law_485 hS (AE_new hN hS.1) (fun vH163 H163 locsH163 pH163 zH163 kH163 hSH163 => ?_)
    obtain ⟨x164, hvH163, hTH163⟩ := pH163
    subst hvH163
    have g165 : CG (avw K H163 b) := CG.congr (fun k hk j => av_eff hT kH163 gb (by decide) (CG_eff [] (by decide) k hk)) cg
    have g166 : TU (avw K H163 b) (svw K H163 b) := TU.congr (fun k hk j => av_eff hT kH163 gb (by decide) (TU_eff [] (by decide) k hk)) (fun k hk => sv_eff hT kH163 gb (by decide)) tu
    have g167 : WD (avw K H163 b) := WD.congr (fun k hk j => av_eff hT kH163 gb (by decide) (WD_eff [] (by decide) k hk)) wd
    have g168 : IM (avw K H163 b) := IM.congr (fun k hk j => av_eff hT kH163 gb (by decide) (IM_eff [] (by decide) k hk)) im
    have f169 : ∀ j : Nat, fI H163 tq j = fI H tq j := fun j => (fI_kept (x_lt hT kH163 gtq (by decide))).trans (ft0 j)
    have f170 : ∀ j : Nat, fI H163 uq j = fI H uq j := fun j => (fI_kept (x_lt hT kH163 guq (by decide))).trans (fu0 j)
    have m171 := (ew).trans (fR_kept (x_lt hT kH163 ga (by decide))).symm
    have m172 := (eta).trans (fI_kept (x_lt hT kH163 ga (by decide))).symm
    have m173 := (etb).trans (fI_kept (x_lt hT kH163 gb (by decide))).symm
    have m174 := (es1).trans (fI_kept (x_lt hT kH163 gw (by decide))).symm
    have m175 := (ey1).trans (fI_kept (x_lt hT kH163 gb (by decide))).symm
    have m176 := (es4).trans (fI_kept (x_lt hT kH163 gw (by decide))).symm
    have m177 := (ey4).trans (fI_kept (x_lt hT kH163 gb (by decide))).symm
    have m178 := (es5).trans (fI_kept (x_lt hT kH163 gw (by decide))).symm
    have m179 := (ey5).trans (fI_kept (x_lt hT kH163 gb (by decide))).symm
    have m180 := (es10).trans (fI_kept (x_lt hT kH163 gw (by decide))).symm
    have m181 := (ey10).trans (fI_kept (x_lt hT kH163 gb (by decide))).symm
    have m182 := (es13).trans (fI_kept (x_lt hT kH163 gw (by decide))).symm
    have m183 := (ey13).trans (fI_kept (x_lt hT kH163 gb (by decide))).symm
    have m184 := (es16).trans (fI_kept (x_lt hT kH163 gw (by decide))).symm
    have m185 := (ey16).trans (fI_kept (x_lt hT kH163 gb (by decide))).symm
    have m186 := (etq).trans (fR_kept (x_lt hT kH163 ga (by decide))).symm
    have m187 := (euq).trans (fR_kept (x_lt hT kH163 gb (by decide))).symm
    have m188 := (ehi).trans (fI_kept (x_lt hT kH163 gb (by decide))).symm
    have m189 := (fV_kept (x_lt hT kH163 ga (by decide))).trans kn
    have m190 := (eiq).trans (fR_kept (x_lt hT kH163 gb (by decide))).symm
    have m191 := (ek1).trans (fI_kept (x_lt hT kH163 gkq (by decide))).symm
    have m192 := (ei1).trans (fI_kept (x_lt hT kH163 giq (by decide))).symm
    have m193 := (ek4).trans (fI_kept (x_lt hT kH163 gkq (by decide))).symm
    have m194 := (ei4).trans (fI_kept (x_lt hT kH163 giq (by decide))).symm
    have m195 := (ek5).trans (fI_kept (x_lt hT kH163 gkq (by decide))).symm
    have m196 := (ei5).trans (fI_kept (x_lt hT kH163 giq (by decide))).symm
    have m197 := (ek10).trans (fI_kept (x_lt hT kH163 gkq (by decide))).symm
    have m198 := (ei10).trans (fI_kept (x_lt hT kH163 giq (by decide))).symm
    have m199 := (ek13).trans (fI_kept (x_lt hT kH163 gkq (by decide))).symm
    have m200 := (ei13).trans (fI_kept (x_lt hT kH163 giq (by decide))).symm
    have m201 := (ek16).trans (fI_kept (x_lt hT kH163 gkq (by decide))).symm
    have m202 := (ei16).trans (fI_kept (x_lt hT kH163 giq (by decide))).symm
    refine W.eq (g2 := F0 m 488 ls [.int x164]) rfl ?_
    have rk203 : RKI K H163 kq iq k1.toInt := RKI.kept rke hT gkq (x_lt hT kH163 giq (by first | exact nmr ht (by decide) | exact nmo ht (by decide) | exact nme ht (by decide) | exact nmq ht (by decide) | decide | (intro z; simp only [List.mem_cons, List.not_mem_nil, or_false] at z <;> omega) | omega)) (fun q t hq ht => x_lt hT kH163 hq (by first | exact nmr ht (by decide) | exact nmo ht (by decide) | exact nme ht (by decide) | exact nmq ht (by decide) | decide | (intro z; simp only [List.mem_cons, List.not_mem_nil, or_false] at z <;> omega) | omega))
    have re204 : RE K H163 w b s1.toInt := RE.cls re hT gw gb (fun q t hq ht => x_lt hT kH163 hq (by first | exact nmr ht (by decide) | exact nmo ht (by decide) | exact nme ht (by decide) | exact nmq ht (by decide) | decide | (intro z; simp only [List.mem_cons, List.not_mem_nil, or_false] at z <;> omega) | omega))
    refine lv_pop hx hb dL_law_488 rfl ?_
    refine lv_aload_n hx hb dL_law_489 rfl (lv_at hl 1 rfl) ?_
    refine lv_aload_n hx hb dL_law_490 rfl (lv_at hl 3 rfl) ?_
    refine lv_iload_n hx hb dL_law_491 rfl (lv_at hl 0 rfl) ?_
    refine lv_iconst (v := 1) hx hb dL_law_492 (by decide) ?_
    refine lv_iadd hx hb dL_law_493 ?_
    refine lv_topi (fun x205 ex205 => ?_)
    obtain ⟨tx205, ejx205, evx205⟩ := lw_ix (k := 1) ex205 hI hL rfl (by decide)
    clear tx205
    refine va_sld hx hb hX hbl (Nat.not_le.mpr hbl) hSH163 (vp_in_iff.mpr evx205) dL_law_494 ?_
    refine W.eq (g2 := F0 m 495 ls [.int (xs (i.toNatClampNeg + 1)), .ref b]) (congrArg (fun z => F0 m 495 ls [.int (xs z), .ref b]) ejx205) ?_
    refine x_V (As := [.int (xs (i.toNatClampNeg + 1))]) (rest := []) C (a_X10_fault l K G H163 ((xs (i.toNatClampNeg + 1))) hTH163 gb g165 g166 g167 g168) yo_X10_fault wM_L_51 ⟨⟨by decide, by decide⟩, show _ ≤ 60000 from Nat.le_trans hc (by decide), show _ ≤ 8922250 from Nat.le_trans hs (by decide)⟩ (x_rv C hTH163 (ci := 10) rfl gb rg_112) rfl hl.1 rfl (Nat.le_of_ble_eq_true rfl) dL_law_495 hSH163 (AE_new hN hSH163.1) (fun vH206 H206 locsH206 pH206 zH206 kH206 hSH206 => ?_)
    obtain ⟨x207, hvH206, g208, g209, g210, g211, mf212, hTH206⟩ := pH206
    subst hvH206
    have f213 : ∀ j : Nat, fI H206 tq j = fI H tq j := fun j => (fI_kept (x_lt hTH163 kH206 gtq (by decide))).trans (f169 j)
    have f214 : ∀ j : Nat, fI H206 uq j = fI H uq j := fun j => (fI_kept (x_lt hTH163 kH206 guq (by decide))).trans (f170 j)
    have m215 := (m171).trans (fR_kept (x_lt hTH163 kH206 ga (by decide))).symm
    have m216 := (m172).trans (fI_kept (x_lt hTH163 kH206 ga (by decide))).symm
    have m217 := (m174).trans (fI_kept (x_lt hTH163 kH206 gw (by decide))).symm
    have m218 := (m176).trans (fI_kept (x_lt hTH163 kH206 gw (by decide))).symm
    have m219 := (m178).trans (fI_kept (x_lt hTH163 kH206 gw (by decide))).symm
    have m220 := (m180).trans (fI_kept (x_lt hTH163 kH206 gw (by decide))).symm
    have m221 := (m182).trans (fI_kept (x_lt hTH163 kH206 gw (by decide))).symm
    have m222 := (m184).trans (fI_kept (x_lt hTH163 kH206 gw (by decide))).symm
    have m223 := (m186).trans (fR_kept (x_lt hTH163 kH206 ga (by decide))).symm
    have m224 := (fV_kept (x_lt hTH163 kH206 ga (by decide))).trans m189
    have m225 := (m191).trans (fI_kept (x_lt hTH163 kH206 gkq (by decide))).symm
    have m226 := (m192).trans (fI_kept (x_lt hTH163 kH206 giq (by decide))).symm
    have m227 := (m193).trans (fI_kept (x_lt hTH163 kH206 gkq (by decide))).symm
    have m228 := (m194).trans (fI_kept (x_lt hTH163 kH206 giq (by decide))).symm
    have m229 := (m195).trans (fI_kept (x_lt hTH163 kH206 gkq (by decide))).symm
    have m230 := (m196).trans (fI_kept (x_lt hTH163 kH206 giq (by decide))).symm
    have m231 := (m197).trans (fI_kept (x_lt hTH163 kH206 gkq (by decide))).symm
    have m232 := (m198).trans (fI_kept (x_lt hTH163 kH206 giq (by decide))).symm
    have m233 := (m199).trans (fI_kept (x_lt hTH163 kH206 gkq (by decide))).symm
    have m234 := (m200).trans (fI_kept (x_lt hTH163 kH206 giq (by decide))).symm
    have m235 := (m201).trans (fI_kept (x_lt hTH163 kH206 gkq (by decide))).symm
    have m236 := (m202).trans (fI_kept (x_lt hTH163 kH206 giq (by decide))).symm
    have m237 := (m173).trans (MF.i mf212 (k := 18) (by decide) (by decide)).symm
    have m238 := (m175).trans (MF.i mf212 (k := 1) (by decide) (by decide)).symm
    have m239 := (m177).trans (MF.i mf212 (k := 2) (by decide) (by decide)).symm
    have m240 := (m179).trans (MF.i mf212 (k := 3) (by decide) (by decide)).symm
    have m241 := (m181).trans (MF.i mf212 (k := 59) (by decide) (by decide)).symm
    have m242 := (m183).trans (MF.i mf212 (k := 62) (by decide) (by decide)).symm
    have m243 := (m185).trans (MF.i mf212 (k := 65) (by decide) (by decide)).symm
    have m244 := (m187).trans (MF.r mf212 (k := 17) (by decide) (by decide)).symm
    have m245 := (m188).trans (MF.i mf212 (k := 70) (by decide) (by decide)).symm
    have m246 := (m190).trans (MF.r mf212 (k := 73) (by decide) (by decide)).symm
    refine W.eq (g2 := F0 m 498 ls [.int x207]) rfl ?_
    have rk247 : RKI K H206 kq iq k1.toInt := RKI.kept rk203 hTH163 gkq (x_lt hTH163 kH206 giq (by first | exact nmr ht (by decide) | exact nmo ht (by decide) | exact nme ht (by decide) | exact nmq ht (by decide) | decide | (intro z; simp only [List.mem_cons, List.not_mem_nil, or_false] at z <;> omega) | omega)) (fun q t hq ht => x_lt hTH163 kH206 hq (by first | exact nmr ht (by decide) | exact nmo ht (by decide) | exact nme ht (by decide) | exact nmq ht (by decide) | decide | (intro z; simp only [List.mem_cons, List.not_mem_nil, or_false] at z <;> omega) | omega))
    have re248 : RE K H206 w b s1.toInt := RE.ref re204 hTH163 gw gb (fun k hk => MF.r mf212 (by omega) (by intro z; simp only [List.mem_cons, List.not_mem_nil, or_false] at z; omega)) (fun q t hq ht => x_lt hTH163 kH206 hq (by first | exact nmr ht (by decide) | exact nmo ht (by decide) | exact nme ht (by decide) | exact nmq ht (by decide) | decide | (intro z; simp only [List.mem_cons, List.not_mem_nil, or_false] at z <;> omega) | omega))
    refine lv_pop hx hb dL_law_498 rfl ?_
    refine lv_goto (tgt := 1509) hx hb dL_law_499 (by decide) ?_
    exact nx G H206 locsH206 _ _ ls ⟨hTH206, hN, ga, gb, g208, g209, g210, g211, ⟨(by rw [← m216, ← m237]; exact rt), (by rw [← m215, ← m217, ← m238]; exact r1), (by rw [← m215, ← m218, ← m239]; exact r4), (by rw [← m215, ← m219, ← m240]; exact r5), (by rw [← m215, ← m220, ← m241]; exact r10), (by rw [← m215, ← m221, ← m242]; exact r13), (by rw [← m215, ← m222, ← m243]; exact r16)⟩, Or.inr ⟨kq, m224, gkq, (by rw [← m245]; exact h70), (by rw [← m225, ← m246, ← m226]; exact q1), (by rw [← m227, ← m246, ← m228]; exact q4), (by rw [← m229, ← m246, ← m230]; exact q5), (by rw [← m231, ← m246, ← m232]; exact q10), (by rw [← m233, ← m246, ← m234]; exact q13), (by rw [← m235, ← m246, ← m236]; exact q16), (by rw [← m246, ← m225]; exact RKI.cast rk247 (by omega)), (by rw [← m229]; omega), (by rw [← m229]; omega)⟩, (by unfold TB; rw [← m223, ← m244, ← m237]; exact TBR.of htr f213 f214 (by omega)), (by unfold RELE; rw [← m215, ← m238, ← m219]; exact ⟨RE.cast re248 (by omega), by omega, by omega⟩), hSH206⟩ hl ⟨hc, hs, fun h => by have h1 := h.symm.trans m224; cases h1⟩