set_option maxRecDepth 100000 in
set_option maxHeartbeats 8000000 in
theorem lw_c2 {p : Program} {l : Launch} {e : Env} {s : State} {m : MethodId} {below : List Frame} {meth : Method} {c : Code} {K : KE} {b0 L : Nat} {xs : Nat → Int32} {G : Nat → Option Nat} {H : Heap} {locs : List Loc} {a b : Nat} {cells slots : Nat} {ls : Array Slot} {i : Int32} {n : Nat} (D : LC p K s m meth c b0 L xs) (S : SX K s G H locs a b) (hl : lv_has ls 4 [(3, .int i), (2, .ref b), (1, .ref a), (0, .ref b0)]) (hi : 0 ≤ i.toInt ∧ i.toInt + 6 ≤ L) (hn : n ≤ 511) (hB : BD K H a cells slots) (nx : ∀ (G : Nat → Option Nat) (H : Heap) (locs : List Loc) (cells slots : Nat) (ls : Array Slot), SX K s G H locs a b → lv_has ls 4 [(3, .int i), (2, .ref b), (1, .ref a), (0, .ref b0)] → BD K H a cells slots → W p l e room_1 s m #[Value.ref b0] below meth c H locs cells slots (lw_Z below #[Value.ref b0] s) (F0 m 1509 ls [])) : W p l e room_1 s m #[Value.ref b0] below meth c H locs cells slots (lw_Z below #[Value.ref b0] s) (F0 m 274 ls []) := by
  have hI := hi
  obtain ⟨C, hX, hbl, hL⟩ := id D
  obtain ⟨hx, hb, hml, hown, hts, hKT, hr, hlocks, hnm⟩ := id C
  obtain ⟨hT, hN, ga, gb, cg, tu, wd, im, ⟨rt, r1, r4, r5, r10, r13, r16⟩, hk, htb, her, hS⟩ := S
  obtain ⟨hc, hs, hB0⟩ := hB
  have n_1 : (1 : Int32).toInt = 1 := rfl
  have n_2 : (2 : Int32).toInt = 2 := rfl
  have n_3 : (3 : Int32).toInt = 3 := rfl
  obtain ⟨w, ew⟩ : ∃ z : Nat, z = fR H a (K.1.2 9 0) := ⟨_, rfl⟩
  have gw := ty_fr (q := w) (k := 0) (u := 0) ew hT ga rg_68 rfl
  rw [← ew] at r1 r4 r5 r10 r13 r16
  obtain ⟨ta, eta⟩ : ∃ z : Int32, z = fI H a (K.1.2 9 3) := ⟨_, rfl⟩
  rw [← eta] at rt
  obtain ⟨tb, etb⟩ : ∃ z : Int32, z = fI H b (K.1.2 10 18) := ⟨_, rfl⟩
  rw [← etb] at rt
  obtain ⟨s1, es1⟩ : ∃ z : Int32, z = fI H w (K.1.2 8 1) := ⟨_, rfl⟩
  rw [← es1] at r1
  obtain ⟨y1, ey1⟩ : ∃ z : Int32, z = fI H b (K.1.2 10 1) := ⟨_, rfl⟩
  rw [← ey1] at r1
  obtain ⟨s4, es4⟩ : ∃ z : Int32, z = fI H w (K.1.2 8 4) := ⟨_, rfl⟩
  rw [← es4] at r4
  obtain ⟨y4, ey4⟩ : ∃ z : Int32, z = fI H b (K.1.2 10 2) := ⟨_, rfl⟩
  rw [← ey4] at r4
  obtain ⟨s5, es5⟩ : ∃ z : Int32, z = fI H w (K.1.2 8 5) := ⟨_, rfl⟩
  rw [← es5] at r5
  obtain ⟨y5, ey5⟩ : ∃ z : Int32, z = fI H b (K.1.2 10 3) := ⟨_, rfl⟩
  rw [← ey5] at r5
  obtain ⟨s10, es10⟩ : ∃ z : Int32, z = fI H w (K.1.2 8 10) := ⟨_, rfl⟩
  rw [← es10] at r10
  obtain ⟨y10, ey10⟩ : ∃ z : Int32, z = fI H b (K.1.2 10 59) := ⟨_, rfl⟩
  rw [← ey10] at r10
  obtain ⟨s13, es13⟩ : ∃ z : Int32, z = fI H w (K.1.2 8 13) := ⟨_, rfl⟩
  rw [← es13] at r13
  obtain ⟨y13, ey13⟩ : ∃ z : Int32, z = fI H b (K.1.2 10 62) := ⟨_, rfl⟩
  rw [← ey13] at r13
  obtain ⟨s16, es16⟩ : ∃ z : Int32, z = fI H w (K.1.2 8 16) := ⟨_, rfl⟩
  rw [← es16] at r16
  obtain ⟨y16, ey16⟩ : ∃ z : Int32, z = fI H b (K.1.2 10 65) := ⟨_, rfl⟩
  rw [← ey16] at r16
  obtain ⟨tq, etq⟩ : ∃ z : Nat, z = fR H a (K.1.2 9 2) := ⟨_, rfl⟩
  have gtq := ty_fr (q := tq) (k := 2) (u := 108) etq hT ga rg_68 rfl
  obtain ⟨uq, euq⟩ : ∃ z : Nat, z = fR H b (K.1.2 10 17) := ⟨_, rfl⟩
  have guq := ty_fr (q := uq) (k := 17) (u := 126) euq hT gb rg_112 rfl
  have htr : TBR (fun j => fI H tq j) (fun j => fI H uq j) tb.toNatClampNeg := by rw [etq, euq, etb]; exact htb
  have ft0 : ∀ j : Nat, fI H tq j = fI H tq j := fun _ => rfl
  have fu0 : ∀ j : Nat, fI H uq j = fI H uq j := fun _ => rfl
  have bta := ty_fi (x := ta) (k := 3) eta hT ga rg_68 rfl
  have cta := i_cl (x := ta) (by omega)
  have btb := ty_fi (x := tb) (k := 18) etb hT gb rg_112 rfl
  have ctb := i_cl (x := tb) (by omega)
  obtain ⟨her0, hsl1, hsl2⟩ := her
  have hsl0 := And.intro hsl1 hsl2
  clear hsl1 hsl2
  rw [← ew] at her0 hsl0
  have re : RE K H w b s1.toInt := RE.cast her0 (by rw [← ey1]; exact r1)
  have hsl : 0 ≤ s5.toInt ∧ s5.toInt ≤ 9999 := by rw [es5]; exact hsl0
  clear her0 hsl0
  have bt_s1 := ty_fi (x := s1) (k := 1) es1 hT gw rg_0 rfl
  have bt_s4 := ty_fi (x := s4) (k := 4) es4 hT gw rg_0 rfl
  have bt_y1 := ty_fi (x := y1) (k := 1) ey1 hT gb rg_112 rfl
  have bt_y4 := ty_fi (x := y4) (k := 2) ey4 hT gb rg_112 rfl
  rcases hk with ⟨kn, h70⟩ | ⟨kq, kn, gkq, h70, q1, q4, q5, q10, q13, q16, rke, ks1, ks2⟩
  · skip
    obtain ⟨hi, ehi⟩ : ∃ z : Int32, z = fI H b (K.1.2 10 70) := ⟨_, rfl⟩
    rw [← ehi] at h70
    obtain ⟨hc0, hs0⟩ := hB0 kn
    obtain ⟨iq, eiq⟩ : ∃ z : Nat, z = fR H b (K.1.2 10 73) := ⟨_, rfl⟩
    have giq := ty_fr (q := iq) (k := 73) (u := 162) eiq hT gb rg_112 rfl
    refine lv_aload_n hx hb dL_law_274 rfl (lv_at hl 2 rfl) ?_
    refine lv_aload_n hx hb dL_law_275 rfl (lv_at hl 3 rfl) ?_
    refine lv_iload_n hx hb dL_law_276 rfl (lv_at hl 0 rfl) ?_
    refine lv_iconst (v := 1) hx hb dL_law_277 (by decide) ?_
    refine lv_iadd hx hb dL_law_278 ?_
    refine lv_topi (fun x101 ex101 => ?_)
    obtain ⟨tx101, ejx101, evx101⟩ := lw_ix (k := 1) ex101 hI hL rfl (by decide)
    clear tx101
    refine va_sld hx hb hX hbl (Nat.not_le.mpr hbl) hS (vp_in_iff.mpr evx101) dL_law_279 ?_
    refine W.eq (g2 := F0 m 280 ls [.int (xs (i.toNatClampNeg + 1)), .ref a]) (congrArg (fun z => F0 m 280 ls [.int (xs z), .ref a]) ejx101) ?_
    refine lv_aload_n hx hb dL_law_280 rfl (lv_at hl 3 rfl) ?_
    refine lv_iload_n hx hb dL_law_281 rfl (lv_at hl 0 rfl) ?_
    refine lv_iconst (v := 2) hx hb dL_law_282 (by decide) ?_
    refine lv_iadd hx hb dL_law_283 ?_
    refine lv_topi (fun x102 ex102 => ?_)
    obtain ⟨tx102, ejx102, evx102⟩ := lw_ix (k := 2) ex102 hI hL rfl (by decide)
    clear tx102
    refine va_sld hx hb hX hbl (Nat.not_le.mpr hbl) hS (vp_in_iff.mpr evx102) dL_law_284 ?_
    refine W.eq (g2 := F0 m 285 ls [.int (xs (i.toNatClampNeg + 2)), .int (xs (i.toNatClampNeg + 1)), .ref a]) (congrArg (fun z => F0 m 285 ls [.int (xs z), .int (xs (i.toNatClampNeg + 1)), .ref a]) ejx102) ?_
    refine lv_aload_n hx hb dL_law_285 rfl (lv_at hl 3 rfl) ?_
    refine lv_iload_n hx hb dL_law_286 rfl (lv_at hl 0 rfl) ?_
    refine lv_iconst (v := 3) hx hb dL_law_287 (by decide) ?_
    refine lv_iadd hx hb dL_law_288 ?_
    refine lv_topi (fun x103 ex103 => ?_)
    obtain ⟨tx103, ejx103, evx103⟩ := lw_ix (k := 3) ex103 hI hL rfl (by decide)
    clear tx103
    refine va_sld hx hb hX hbl (Nat.not_le.mpr hbl) hS (vp_in_iff.mpr evx103) dL_law_289 ?_
    refine W.eq (g2 := F0 m 290 ls [.int (xs (i.toNatClampNeg + 3)), .int (xs (i.toNatClampNeg + 2)), .int (xs (i.toNatClampNeg + 1)), .ref a]) (congrArg (fun z => F0 m 290 ls [.int (xs z), .int (xs (i.toNatClampNeg + 2)), .int (xs (i.toNatClampNeg + 1)), .ref a]) ejx103) ?_
    have sp104 : (0 ≤ (xs (i.toNatClampNeg + 1)).toInt ∧ (xs (i.toNatClampNeg + 1)).toInt < s1.toInt) ∨ ((xs (i.toNatClampNeg + 1)).toInt < 0 ∨ s1.toInt ≤ (xs (i.toNatClampNeg + 1)).toInt) := by omega
    rcases sp104 with hsp | hsp
    · skip
      have cxe := i_cl (x := (xs (i.toNatClampNeg + 1))) (by omega)
      obtain ⟨bq, ebq⟩ : ∃ z : Nat, z = fR H w (K.1.2 8 0) := ⟨_, rfl⟩
      have gbq := ty_fr (q := bq) (k := 0) (u := 25) ebq hT gw rg_0 rfl
      obtain ⟨bb, ebb⟩ : ∃ z : Nat, z = fR H bq ((xs (i.toNatClampNeg + 1)) : Int32).toNatClampNeg := ⟨_, rfl⟩
      have ebo : ow K H w ((xs (i.toNatClampNeg + 1)) : Int32).toNatClampNeg = bb := by rw [ow_b (by omega), ← ebq, ← ebb]
      have gbb : G bb = some 1 := by rw [← ebo]; exact ow_g hT gw (by omega)
      obtain ⟨rw1, erw1⟩ : ∃ z : Nat, z = fR H bb (K.1.2 0 1) := ⟨_, rfl⟩
      have grw1 := ty_fr (q := rw1) (k := 1) (u := 2) erw1 hT gbb rg_1 rfl
      obtain ⟨rw2, erw2⟩ : ∃ z : Nat, z = fR H bb (K.1.2 0 2) := ⟨_, rfl⟩
      have grw2 := ty_fr (q := rw2) (k := 2) (u := 3) erw2 hT gbb rg_1 rfl
      obtain ⟨rw3, erw3⟩ : ∃ z : Nat, z = fR H bb (K.1.2 0 3) := ⟨_, rfl⟩
      have grw3 := ty_fr (q := rw3) (k := 3) (u := 4) erw3 hT gbb rg_1 rfl
      obtain ⟨rw4, erw4⟩ : ∃ z : Nat, z = fR H bb (K.1.2 0 4) := ⟨_, rfl⟩
      have grw4 := ty_fr (q := rw4) (k := 4) (u := 5) erw4 hT gbb rg_1 rfl
      obtain ⟨rw5, erw5⟩ : ∃ z : Nat, z = fR H bb (K.1.2 0 5) := ⟨_, rfl⟩
      have grw5 := ty_fr (q := rw5) (k := 5) (u := 6) erw5 hT gbb rg_1 rfl
      obtain ⟨rw6, erw6⟩ : ∃ z : Nat, z = fR H bb (K.1.2 0 6) := ⟨_, rfl⟩
      have grw6 := ty_fr (q := rw6) (k := 6) (u := 7) erw6 hT gbb rg_1 rfl
      obtain ⟨rw7, erw7⟩ : ∃ z : Nat, z = fR H bb (K.1.2 0 7) := ⟨_, rfl⟩
      have grw7 := ty_fr (q := rw7) (k := 7) (u := 8) erw7 hT gbb rg_1 rfl
      obtain ⟨bz, ebz⟩ : ∃ z : Int32, z = fI H bb (K.1.2 0 0) := ⟨_, rfl⟩
      have bt_bz := ty_fi (x := bz) (k := 0) ebz hT gbb rg_1 rfl
      obtain ⟨bp, ebp⟩ : ∃ z : Int32, z = fI H bb (K.1.2 0 8) := ⟨_, rfl⟩
      have bt_bp := ty_fi (x := bp) (k := 8) ebp hT gbb rg_1 rfl
      obtain ⟨bl, ebl⟩ : ∃ z : Int32, z = fI H bb (K.1.2 0 9) := ⟨_, rfl⟩
      have bt_bl := ty_fi (x := bl) (k := 9) ebl hT gbb rg_1 rfl
      obtain ⟨hE_, hO_, hG_⟩ := re.2.1.1 ((xs (i.toNatClampNeg + 1)) : Int32).toNatClampNeg (by omega) (by omega)
      have ez_ : vcN K H w ((xs (i.toNatClampNeg + 1)) : Int32).toNatClampNeg = vwC K H bb := by show vwC K H (ow K H w ((xs (i.toNatClampNeg + 1)) : Int32).toNatClampNeg) = _; rw [ebo]
      rw [ez_] at hE_ hO_ hG_
      replace hE_ : EqW (vwC K H bb) (vwR K H b ((xs (i.toNatClampNeg + 1)) : Int32).toNatClampNeg) := hE_
      have hz3_ : 3 ≤ bz.toInt := by have z := hO_.1; rw [vwC_f (Or.inl rfl), ← ebz] at z; exact z
      refine x_V (As := [.int (xs (i.toNatClampNeg + 1)), .int (xs (i.toNatClampNeg + 2)), .int (xs (i.toNatClampNeg + 3))]) (rest := []) C (a_X9_wax_v l K G H ((xs (i.toNatClampNeg + 1))) ((xs (i.toNatClampNeg + 2))) ((xs (i.toNatClampNeg + 3))) (s1) (bz) hT ga (by omega) gw ew gbq ebq gbb ebb grw4 erw4 es1 ebz (by omega)) yo_X9_wax wM_L_23 ⟨⟨by decide, by decide⟩, show _ ≤ 60000 from Nat.le_trans hc (by decide), show _ ≤ 8922250 from Nat.le_trans hs (by decide)⟩ (x_rv C hT (ci := 9) rfl ga rg_68) rfl hl.1 rfl (Nat.le_of_ble_eq_true rfl) dL_law_290 hS (AE_new hN hS.1) (fun vH105 H105 locsH105 pH105 zH105 kH105 hSH105 => ?_)
      obtain ⟨x106, hvH105, bx106, m107, m108, hTH105⟩ := pH105
      subst hvH105
      have g109 : CG (avw K H105 b) := CG.congr (fun k hk j => av_eff hT kH105 gb (by decide) (CG_eff [5] (by decide) k hk)) cg
      have g110 : TU (avw K H105 b) (svw K H105 b) := TU.congr (fun k hk j => av_eff hT kH105 gb (by decide) (TU_eff [5] (by decide) k hk)) (fun k hk => sv_eff hT kH105 gb (by decide)) tu
      have g111 : WD (avw K H105 b) := WD.congr (fun k hk j => av_eff hT kH105 gb (by decide) (WD_eff [5] (by decide) k hk)) wd
      have g112 : IM (avw K H105 b) := IM.congr (fun k hk j => av_eff hT kH105 gb (by decide) (IM_eff [5] (by decide) k hk)) im
      have f113 : ∀ j : Nat, fI H105 tq j = fI H tq j := fun j => (fI_kept (x_lt hT kH105 gtq (by decide))).trans (ft0 j)
      have f114 : ∀ j : Nat, fI H105 uq j = fI H uq j := fun j => (fI_kept (x_lt hT kH105 guq (by decide))).trans (fu0 j)
      have m115 := (ew).trans (fR_kept (x_lt hT kH105 ga (by decide))).symm
      have m116 := (eta).trans (fI_kept (x_lt hT kH105 ga (by decide))).symm
      have m117 := (etb).trans (fI_kept (x_lt hT kH105 gb (by decide))).symm
      have m118 := (es1).trans (fI_kept (x_lt hT kH105 gw (by decide))).symm
      have m119 := (ey1).trans (fI_kept (x_lt hT kH105 gb (by decide))).symm
      have m120 := (es4).trans (fI_kept (x_lt hT kH105 gw (by decide))).symm
      have m121 := (ey4).trans (fI_kept (x_lt hT kH105 gb (by decide))).symm
      have m122 := (es5).trans (fI_kept (x_lt hT kH105 gw (by decide))).symm
      have m123 := (ey5).trans (fI_kept (x_lt hT kH105 gb (by decide))).symm
      have m124 := (es10).trans (fI_kept (x_lt hT kH105 gw (by decide))).symm
      have m125 := (ey10).trans (fI_kept (x_lt hT kH105 gb (by decide))).symm
      have m126 := (es13).trans (fI_kept (x_lt hT kH105 gw (by decide))).symm
      have m127 := (ey13).trans (fI_kept (x_lt hT kH105 gb (by decide))).symm
      have m128 := (es16).trans (fI_kept (x_lt hT kH105 gw (by decide))).symm
      have m129 := (ey16).trans (fI_kept (x_lt hT kH105 gb (by decide))).symm
      have m130 := (etq).trans (fR_kept (x_lt hT kH105 ga (by decide))).symm
      have m131 := (euq).trans (fR_kept (x_lt hT kH105 gb (by decide))).symm
      have m132 := (ehi).trans (fI_kept (x_lt hT kH105 gb (by decide))).symm
      have m133 := (fV_kept (x_lt hT kH105 ga (by decide))).trans kn
      have m134 := (eiq).trans (fR_kept (x_lt hT kH105 gb (by decide))).symm
      have m135 := (ebq).trans (fR_kept (x_lt hT kH105 gw (by decide))).symm
      have m136 := (ebb).trans (fR_kept (x_lt hT kH105 gbq (by decide))).symm
      have m137 := (erw1).trans (fR_kept (x_lt hT kH105 gbb (by decide))).symm
      have m138 := (erw2).trans (fR_kept (x_lt hT kH105 gbb (by decide))).symm
      have m139 := (erw3).trans (fR_kept (x_lt hT kH105 gbb (by decide))).symm
      have m140 := (erw4).trans (fR_kept (x_lt hT kH105 gbb (by decide))).symm
      have m141 := (erw5).trans (fR_kept (x_lt hT kH105 gbb (by decide))).symm
      have m142 := (erw6).trans (fR_kept (x_lt hT kH105 gbb (by decide))).symm
      have m143 := (erw7).trans (fR_kept (x_lt hT kH105 gbb (by decide))).symm
      have m144 := (ebz).trans (fI_kept (x_lt hT kH105 gbb (by decide))).symm
      have m145 := (ebp).trans (fI_kept (x_lt hT kH105 gbb (by decide))).symm
      have m146 := (ebl).trans (fI_kept (x_lt hT kH105 gbb (by decide))).symm
      refine W.eq (g2 := F0 m 293 ls [.int x106]) rfl ?_
      have nw_ : NWF K H105 H w := fun k _ => fR_kept (m108 w 0 gw (G_ne gw grw4 (by decide)))
      have rb_ : RFB K H105 H bb := RFB.cell (m108 bb 1 gbb (G_ne gbb grw4 (by decide)))
      obtain ⟨brf, bot, bat, btx⟩ := bar_one (H1 := H105) re.1 hT gw (j := ((xs (i.toNatClampNeg + 1)) : Int32).toNatClampNeg) (by omega) ebo nw_ rb_ (fun q t hq ht n1 n2 => m108 q t hq (by rw [erw4]; exact n2 4 (by decide)))
      have er1 : ∀ bar, vrN K H105 b bar = vrN K H b bar := vrN.reg hT gb (fun k _ => fR_kept (x_lt hT kH105 gb (by first | exact nmr ht (by decide) | exact nmo ht (by decide) | exact nme ht (by decide) | exact nmq ht (by decide) | decide | (intro z; simp only [List.mem_cons, List.not_mem_nil, or_false] at z <;> omega) | omega))) (fun q t hq ht => x_lt hT kH105 hq (by first | exact nmr ht (by decide) | exact nmo ht (by decide) | exact nme ht (by decide) | exact nmq ht (by decide) | decide | (intro z; simp only [List.mem_cons, List.not_mem_nil, or_false] at z <;> omega) | omega))
      have tr1 : TPK (TRP K H105 b) (TRP K H b) := TRP.reg hT gb (fun k _ _ => fR_kept (x_lt hT kH105 gb (by first | exact nmr ht (by decide) | exact nmo ht (by decide) | exact nme ht (by decide) | exact nmq ht (by decide) | decide | (intro z; simp only [List.mem_cons, List.not_mem_nil, or_false] at z <;> omega) | omega))) (fun q t hq ht => x_lt hT kH105 hq (by first | exact nmr ht (by decide) | exact nmo ht (by decide) | exact nme ht (by decide) | exact nmq ht (by decide) | decide | (intro z; simp only [List.mem_cons, List.not_mem_nil, or_false] at z <;> omega) | omega))
      refine lv_pop hx hb dL_law_293 rfl ?_
      refine lv_aload_n hx hb dL_law_294 rfl (lv_at hl 1 rfl) ?_
      refine lv_aload_n hx hb dL_law_295 rfl (lv_at hl 3 rfl) ?_
      refine lv_iload_n hx hb dL_law_296 rfl (lv_at hl 0 rfl) ?_
      refine lv_iconst (v := 1) hx hb dL_law_297 (by decide) ?_
      refine lv_iadd hx hb dL_law_298 ?_
      refine lv_topi (fun x147 ex147 => ?_)
      obtain ⟨tx147, ejx147, evx147⟩ := lw_ix (k := 1) ex147 hI hL rfl (by decide)
      clear tx147
      refine va_sld hx hb hX hbl (Nat.not_le.mpr hbl) hSH105 (vp_in_iff.mpr evx147) dL_law_299 ?_
      refine W.eq (g2 := F0 m 300 ls [.int (xs (i.toNatClampNeg + 1)), .ref b]) (congrArg (fun z => F0 m 300 ls [.int (xs z), .ref b]) ejx147) ?_
      refine lv_aload_n hx hb dL_law_300 rfl (lv_at hl 3 rfl) ?_
      refine lv_iload_n hx hb dL_law_301 rfl (lv_at hl 0 rfl) ?_
      refine lv_iconst (v := 2) hx hb dL_law_302 (by decide) ?_
      refine lv_iadd hx hb dL_law_303 ?_
      refine lv_topi (fun x148 ex148 => ?_)
      obtain ⟨tx148, ejx148, evx148⟩ := lw_ix (k := 2) ex148 hI hL rfl (by decide)
      clear tx148
      refine va_sld hx hb hX hbl (Nat.not_le.mpr hbl) hSH105 (vp_in_iff.mpr evx148) dL_law_304 ?_
      refine W.eq (g2 := F0 m 305 ls [.int (xs (i.toNatClampNeg + 2)), .int (xs (i.toNatClampNeg + 1)), .ref b]) (congrArg (fun z => F0 m 305 ls [.int (xs z), .int (xs (i.toNatClampNeg + 1)), .ref b]) ejx148) ?_
      refine lv_aload_n hx hb dL_law_305 rfl (lv_at hl 3 rfl) ?_
      refine lv_iload_n hx hb dL_law_306 rfl (lv_at hl 0 rfl) ?_
      refine lv_iconst (v := 3) hx hb dL_law_307 (by decide) ?_
      refine lv_iadd hx hb dL_law_308 ?_
      refine lv_topi (fun x149 ex149 => ?_)
      obtain ⟨tx149, ejx149, evx149⟩ := lw_ix (k := 3) ex149 hI hL rfl (by decide)
      clear tx149
      refine va_sld hx hb hX hbl (Nat.not_le.mpr hbl) hSH105 (vp_in_iff.mpr evx149) dL_law_309 ?_
      refine W.eq (g2 := F0 m 310 ls [.int (xs (i.toNatClampNeg + 3)), .int (xs (i.toNatClampNeg + 2)), .int (xs (i.toNatClampNeg + 1)), .ref b]) (congrArg (fun z => F0 m 310 ls [.int (xs z), .int (xs (i.toNatClampNeg + 2)), .int (xs (i.toNatClampNeg + 1)), .ref b]) ejx149) ?_
      have ev_ : vwR K H105 b ((xs (i.toNatClampNeg + 1)) : Int32).toNatClampNeg = vwR K H b ((xs (i.toNatClampNeg + 1)) : Int32).toNatClampNeg := er1 _
      obtain ⟨q150, eq150⟩ : ∃ z : Nat, @Eq Ad z (fR H105 b (K.1.2 10 4)) := ⟨_, rfl⟩
      have gq150 := ty_fr (q := q150) (k := 4) (u := 113) eq150 hTH105 gb rg_112 rfl
      obtain ⟨q151, eq151⟩ : ∃ z : Nat, @Eq Ad z (fR H105 b (K.1.2 10 8)) := ⟨_, rfl⟩
      have gq151 := ty_fr (q := q151) (k := 8) (u := 117) eq151 hTH105 gb rg_112 rfl
      obtain ⟨x152, ex152⟩ : ∃ z : Int32, z = fI H105 q150 ((xs (i.toNatClampNeg + 1)) : Int32).toNatClampNeg := ⟨_, rfl⟩
      have bx152 := ty_ai (x := x152) ex152 hTH105 gq150 rg_113 (by omega)
      refine x_V (As := [.int (xs (i.toNatClampNeg + 1)), .int (xs (i.toNatClampNeg + 2)), .int (xs (i.toNatClampNeg + 3))]) (rest := []) C (a_X10_wax_v l K G H105 ((xs (i.toNatClampNeg + 1))) ((xs (i.toNatClampNeg + 2))) ((xs (i.toNatClampNeg + 3))) (y1) (x152) hTH105 gb (by omega) gq150 eq150 gq151 eq151 m119 ex152 g109 g110 g111 g112 (by omega)) yo_X10_wax wM_L_27 ⟨⟨by decide, by decide⟩, show _ ≤ 60000 from Nat.le_trans hc (by decide), show _ ≤ 8922250 from Nat.le_trans hs (by decide)⟩ (x_rv C hTH105 (ci := 10) rfl gb rg_112) rfl hl.1 rfl (Nat.le_of_ble_eq_true rfl) dL_law_310 hSH105 (AE_new hN hSH105.1) (fun vH153 H153 locsH153 pH153 zH153 kH153 hSH153 => ?_)
      obtain ⟨x154, hvH153, bx154, m155, m156, g157, g158, g159, g160, mf161, m162, m163, hTH153⟩ := pH153
      subst hvH153
      have f164 : ∀ j : Nat, fI H153 tq j = fI H tq j := fun j => (fI_kept (x_lt hTH105 kH153 gtq (by decide))).trans (f113 j)
      have f165 : ∀ j : Nat, fI H153 uq j = fI H uq j := fun j => (fI_kept (x_lt hTH105 kH153 guq (by decide))).trans (f114 j)
      have m166 := (m115).trans (fR_kept (x_lt hTH105 kH153 ga (by decide))).symm
      have m167 := (m116).trans (fI_kept (x_lt hTH105 kH153 ga (by decide))).symm
      have m168 := (m118).trans (fI_kept (x_lt hTH105 kH153 gw (by decide))).symm
      have m169 := (m120).trans (fI_kept (x_lt hTH105 kH153 gw (by decide))).symm
      have m170 := (m122).trans (fI_kept (x_lt hTH105 kH153 gw (by decide))).symm
      have m171 := (m124).trans (fI_kept (x_lt hTH105 kH153 gw (by decide))).symm
      have m172 := (m126).trans (fI_kept (x_lt hTH105 kH153 gw (by decide))).symm
      have m173 := (m128).trans (fI_kept (x_lt hTH105 kH153 gw (by decide))).symm
      have m174 := (m130).trans (fR_kept (x_lt hTH105 kH153 ga (by decide))).symm
      have m175 := (fV_kept (x_lt hTH105 kH153 ga (by decide))).trans m133
      have m176 := (m135).trans (fR_kept (x_lt hTH105 kH153 gw (by decide))).symm
      have m177 := (m136).trans (fR_kept (x_lt hTH105 kH153 gbq (by decide))).symm
      have m178 := (m137).trans (fR_kept (x_lt hTH105 kH153 gbb (by decide))).symm
      have m179 := (m138).trans (fR_kept (x_lt hTH105 kH153 gbb (by decide))).symm
      have m180 := (m139).trans (fR_kept (x_lt hTH105 kH153 gbb (by decide))).symm
      have m181 := (m140).trans (fR_kept (x_lt hTH105 kH153 gbb (by decide))).symm
      have m182 := (m141).trans (fR_kept (x_lt hTH105 kH153 gbb (by decide))).symm
      have m183 := (m142).trans (fR_kept (x_lt hTH105 kH153 gbb (by decide))).symm
      have m184 := (m143).trans (fR_kept (x_lt hTH105 kH153 gbb (by decide))).symm
      have m185 := (m144).trans (fI_kept (x_lt hTH105 kH153 gbb (by decide))).symm
      have m186 := (m145).trans (fI_kept (x_lt hTH105 kH153 gbb (by decide))).symm
      have m187 := (m146).trans (fI_kept (x_lt hTH105 kH153 gbb (by decide))).symm
      have m188 := (ex152).trans (fI_kept (x_lt hTH105 kH153 gq150 (by decide))).symm
      have m189 := (m117).trans (MF.i mf161 (k := 18) (by decide) (by decide)).symm
      have m190 := (m119).trans (MF.i mf161 (k := 1) (by decide) (by decide)).symm
      have m191 := (m121).trans (MF.i mf161 (k := 2) (by decide) (by decide)).symm
      have m192 := (m123).trans (MF.i mf161 (k := 3) (by decide) (by decide)).symm
      have m193 := (m125).trans (MF.i mf161 (k := 59) (by decide) (by decide)).symm
      have m194 := (m127).trans (MF.i mf161 (k := 62) (by decide) (by decide)).symm
      have m195 := (m129).trans (MF.i mf161 (k := 65) (by decide) (by decide)).symm
      have m196 := (m131).trans (MF.r mf161 (k := 17) (by decide) (by decide)).symm
      have m197 := (m132).trans (MF.i mf161 (k := 70) (by decide) (by decide)).symm
      have m198 := (m134).trans (MF.r mf161 (k := 73) (by decide) (by decide)).symm
      have m199 := (eq150).trans (MF.r mf161 (k := 4) (by decide) (by decide)).symm
      have m200 := (eq151).trans (MF.r mf161 (k := 8) (by decide) (by decide)).symm
      refine W.eq (g2 := F0 m 313 ls [.int x154]) rfl ?_
      have r12 : RFW K H153 H105 w := RFW.cell hTH105 gw (fun q t hq ht => x_lt hTH105 kH153 hq (by first | exact nmr ht (by decide) | exact nmo ht (by decide) | exact nme ht (by decide) | exact nmq ht (by decide) | decide | (intro z; simp only [List.mem_cons, List.not_mem_nil, or_false] at z <;> omega) | omega))
      have cU := vcN.kept hTH105 gw r12 (fun q t hq ht => x_lt hTH105 kH153 hq (by first | exact nmr ht (by decide) | exact nmo ht (by decide) | exact nme ht (by decide) | exact nmq ht (by decide) | decide | (intro z; simp only [List.mem_cons, List.not_mem_nil, or_false] at z <;> omega) | omega))
      have own2 : OWN K H153 w := (re.1.st brf).st r12
      have tU : TPK (TXP K H153 w) (TXP K H105 w) := TXP.kept hTH105 gw r12 (fun q t hq ht => x_lt hTH105 kH153 hq (by first | exact nmr ht (by decide) | exact nmo ht (by decide) | exact nme ht (by decide) | exact nmq ht (by decide) | decide | (intro z; simp only [List.mem_cons, List.not_mem_nil, or_false] at z <;> omega) | omega))
      have tR : TPK (TRP K H153 b) (TRP K H105 b) := TRP.reg hTH105 gb (fun k h1 h2 => MF.r mf161 (by omega) (by intro z; simp only [List.mem_cons, List.not_mem_nil, or_false] at z; omega)) (fun q t hq ht => x_lt hTH105 kH153 hq (by first | exact nmr ht (by decide) | exact nmo ht (by decide) | exact nme ht (by decide) | exact nmq ht (by decide) | decide | (intro z; simp only [List.mem_cons, List.not_mem_nil, or_false] at z <;> omega) | omega))
      have oq_ := m162
      rw [ev_] at oq_
      obtain ⟨hrq_, hC1, hC2, hC3⟩ := wax_both hE_ hO_ hG_ m107 oq_
      have re201 : RE K H153 w b s1.toInt := RE.set (i := ((xs (i.toNatClampNeg + 1)) : Int32).toNatClampNeg) re own2 (by omega) (by rw [cU ((xs (i.toNatClampNeg + 1)) : Int32).toNatClampNeg (by omega), bat]; exact hC1) (by rw [cU ((xs (i.toNatClampNeg + 1)) : Int32).toNatClampNeg (by omega), bat]; exact hC2) (by rw [cU ((xs (i.toNatClampNeg + 1)) : Int32).toNatClampNeg (by omega), bat]; exact hC3) (fun j hj hn => (cU j hj).trans (bot j hj hn)) (fun j hj hn => EqV.tr (m163 j hn) (by rw [show vwR K H105 b j = vwR K H b j from er1 j]; exact EqV.rf)) (fun r kk vv lw n h1 h2 z => tU r kk vv lw n h1 h2 (btx r kk vv lw n h1 h2 z)) (fun r kk vv lw n h1 h2 z => tR r kk vv lw n h1 h2 (tr1 r kk vv lw n h1 h2 z))
      refine lv_pop hx hb dL_law_313 rfl ?_
      refine lv_goto (tgt := 1509) hx hb dL_law_314 (by decide) ?_
      exact nx G H153 locsH153 _ _ ls ⟨hTH153, hN, ga, gb, g157, g158, g159, g160, ⟨(by rw [← m167, ← m189]; exact rt), (by rw [← m166, ← m168, ← m190]; exact r1), (by rw [← m166, ← m169, ← m191]; exact r4), (by rw [← m166, ← m170, ← m192]; exact r5), (by rw [← m166, ← m171, ← m193]; exact r10), (by rw [← m166, ← m172, ← m194]; exact r13), (by rw [← m166, ← m173, ← m195]; exact r16)⟩, Or.inl ⟨m175, (by rw [← m197]; exact h70)⟩, (by unfold TB; rw [← m174, ← m196, ← m189]; exact TBR.of htr f164 f165 (by omega)), (by unfold RELE; rw [← m166, ← m190, ← m170]; exact ⟨RE.cast re201 (by omega), by omega, by omega⟩), hSH153⟩ hl ⟨hc, hs, fun _ => ⟨hc0, hs0⟩⟩
    · skip
      refine x_V (As := [.int (xs (i.toNatClampNeg + 1)), .int (xs (i.toNatClampNeg + 2)), .int (xs (i.toNatClampNeg + 3))]) (rest := []) C (a_X9_wax_n l K G H ((xs (i.toNatClampNeg + 1))) ((xs (i.toNatClampNeg + 2))) ((xs (i.toNatClampNeg + 3))) (s1) hT ga gw ew es1 (by omega)) yo_X9_wax wM_L_23 ⟨⟨by decide, by decide⟩, show _ ≤ 60000 from Nat.le_trans hc (by decide), show _ ≤ 8922250 from Nat.le_trans hs (by decide)⟩ (x_rv C hT (ci := 9) rfl ga rg_68) rfl hl.1 rfl (Nat.le_of_ble_eq_true rfl) dL_law_290 hS (AE_new hN hS.1) (fun vH202 H202 locsH202 pH202 zH202 kH202 hSH202 => ?_)
      obtain ⟨x203, hvH202, bx203, hTH202⟩ := pH202
      subst hvH202
      have g204 : CG (avw K H202 b) := CG.congr (fun k hk j => av_eff hT kH202 gb (by decide) (CG_eff [] (by decide) k hk)) cg
      have g205 : TU (avw K H202 b) (svw K H202 b) := TU.congr (fun k hk j => av_eff hT kH202 gb (by decide) (TU_eff [] (by decide) k hk)) (fun k hk => sv_eff hT kH202 gb (by decide)) tu
      have g206 : WD (avw K H202 b) := WD.congr (fun k hk j => av_eff hT kH202 gb (by decide) (WD_eff [] (by decide) k hk)) wd
      have g207 : IM (avw K H202 b) := IM.congr (fun k hk j => av_eff hT kH202 gb (by decide) (IM_eff [] (by decide) k hk)) im
      have f208 : ∀ j : Nat, fI H202 tq j = fI H tq j := fun j => (fI_kept (x_lt hT kH202 gtq (by decide))).trans (ft0 j)
      have f209 : ∀ j : Nat, fI H202 uq j = fI H uq j := fun j => (fI_kept (x_lt hT kH202 guq (by decide))).trans (fu0 j)
      have m210 := (ew).trans (fR_kept (x_lt hT kH202 ga (by decide))).symm
      have m211 := (eta).trans (fI_kept (x_lt hT kH202 ga (by decide))).symm
      have m212 := (etb).trans (fI_kept (x_lt hT kH202 gb (by decide))).symm
      have m213 := (es1).trans (fI_kept (x_lt hT kH202 gw (by decide))).symm
      have m214 := (ey1).trans (fI_kept (x_lt hT kH202 gb (by decide))).symm
      have m215 := (es4).trans (fI_kept (x_lt hT kH202 gw (by decide))).symm
      have m216 := (ey4).trans (fI_kept (x_lt hT kH202 gb (by decide))).symm
      have m217 := (es5).trans (fI_kept (x_lt hT kH202 gw (by decide))).symm
      have m218 := (ey5).trans (fI_kept (x_lt hT kH202 gb (by decide))).symm
      have m219 := (es10).trans (fI_kept (x_lt hT kH202 gw (by decide))).symm
      have m220 := (ey10).trans (fI_kept (x_lt hT kH202 gb (by decide))).symm
      have m221 := (es13).trans (fI_kept (x_lt hT kH202 gw (by decide))).symm
      have m222 := (ey13).trans (fI_kept (x_lt hT kH202 gb (by decide))).symm
      have m223 := (es16).trans (fI_kept (x_lt hT kH202 gw (by decide))).symm
      have m224 := (ey16).trans (fI_kept (x_lt hT kH202 gb (by decide))).symm
      have m225 := (etq).trans (fR_kept (x_lt hT kH202 ga (by decide))).symm
      have m226 := (euq).trans (fR_kept (x_lt hT kH202 gb (by decide))).symm
      have m227 := (ehi).trans (fI_kept (x_lt hT kH202 gb (by decide))).symm
      have m228 := (fV_kept (x_lt hT kH202 ga (by decide))).trans kn
      have m229 := (eiq).trans (fR_kept (x_lt hT kH202 gb (by decide))).symm
      refine W.eq (g2 := F0 m 293 ls [.int x203]) rfl ?_
      have re230 : RE K H202 w b s1.toInt := RE.cls re hT gw gb (fun q t hq ht => x_lt hT kH202 hq (by first | exact nmr ht (by decide) | exact nmo ht (by decide) | exact nme ht (by decide) | exact nmq ht (by decide) | decide | (intro z; simp only [List.mem_cons, List.not_mem_nil, or_false] at z <;> omega) | omega))
      refine lv_pop hx hb dL_law_293 rfl ?_
      refine lv_aload_n hx hb dL_law_294 rfl (lv_at hl 1 rfl) ?_
      refine lv_aload_n hx hb dL_law_295 rfl (lv_at hl 3 rfl) ?_
      refine lv_iload_n hx hb dL_law_296 rfl (lv_at hl 0 rfl) ?_
      refine lv_iconst (v := 1) hx hb dL_law_297 (by decide) ?_
      refine lv_iadd hx hb dL_law_298 ?_
      refine lv_topi (fun x231 ex231 => ?_)
      obtain ⟨tx231, ejx231, evx231⟩ := lw_ix (k := 1) ex231 hI hL rfl (by decide)
      clear tx231
      refine va_sld hx hb hX hbl (Nat.not_le.mpr hbl) hSH202 (vp_in_iff.mpr evx231) dL_law_299 ?_
      refine W.eq (g2 := F0 m 300 ls [.int (xs (i.toNatClampNeg + 1)), .ref b]) (congrArg (fun z => F0 m 300 ls [.int (xs z), .ref b]) ejx231) ?_
      refine lv_aload_n hx hb dL_law_300 rfl (lv_at hl 3 rfl) ?_
      refine lv_iload_n hx hb dL_law_301 rfl (lv_at hl 0 rfl) ?_
      refine lv_iconst (v := 2) hx hb dL_law_302 (by decide) ?_
      refine lv_iadd hx hb dL_law_303 ?_
      refine lv_topi (fun x232 ex232 => ?_)
      obtain ⟨tx232, ejx232, evx232⟩ := lw_ix (k := 2) ex232 hI hL rfl (by decide)
      clear tx232
      refine va_sld hx hb hX hbl (Nat.not_le.mpr hbl) hSH202 (vp_in_iff.mpr evx232) dL_law_304 ?_
      refine W.eq (g2 := F0 m 305 ls [.int (xs (i.toNatClampNeg + 2)), .int (xs (i.toNatClampNeg + 1)), .ref b]) (congrArg (fun z => F0 m 305 ls [.int (xs z), .int (xs (i.toNatClampNeg + 1)), .ref b]) ejx232) ?_
      refine lv_aload_n hx hb dL_law_305 rfl (lv_at hl 3 rfl) ?_
      refine lv_iload_n hx hb dL_law_306 rfl (lv_at hl 0 rfl) ?_
      refine lv_iconst (v := 3) hx hb dL_law_307 (by decide) ?_
      refine lv_iadd hx hb dL_law_308 ?_
      refine lv_topi (fun x233 ex233 => ?_)
      obtain ⟨tx233, ejx233, evx233⟩ := lw_ix (k := 3) ex233 hI hL rfl (by decide)
      clear tx233
      refine va_sld hx hb hX hbl (Nat.not_le.mpr hbl) hSH202 (vp_in_iff.mpr evx233) dL_law_309 ?_
      refine W.eq (g2 := F0 m 310 ls [.int (xs (i.toNatClampNeg + 3)), .int (xs (i.toNatClampNeg + 2)), .int (xs (i.toNatClampNeg + 1)), .ref b]) (congrArg (fun z => F0 m 310 ls [.int (xs z), .int (xs (i.toNatClampNeg + 2)), .int (xs (i.toNatClampNeg + 1)), .ref b]) ejx233) ?_
      refine x_V (As := [.int (xs (i.toNatClampNeg + 1)), .int (xs (i.toNatClampNeg + 2)), .int (xs (i.toNatClampNeg + 3))]) (rest := []) C (a_X10_wax_n l K G H202 ((xs (i.toNatClampNeg + 1))) ((xs (i.toNatClampNeg + 2))) ((xs (i.toNatClampNeg + 3))) (y1) hTH202 gb m214 g204 g205 g206 g207 (by omega)) yo_X10_wax wM_L_27 ⟨⟨by decide, by decide⟩, show _ ≤ 60000 from Nat.le_trans hc (by decide), show _ ≤ 8922250 from Nat.le_trans hs (by decide)⟩ (x_rv C hTH202 (ci := 10) rfl gb rg_112) rfl hl.1 rfl (Nat.le_of_ble_eq_true rfl) dL_law_310 hSH202 (AE_new hN hSH202.1) (fun vH234 H234 locsH234 pH234 zH234 kH234 hSH234 => ?_)
      obtain ⟨x235, hvH234, bx235, m236, g237, g238, g239, g240, mf241, hTH234⟩ := pH234
      subst hvH234
      have f242 : ∀ j : Nat, fI H234 tq j = fI H tq j := fun j => (fI_kept (x_lt hTH202 kH234 gtq (by decide))).trans (f208 j)
      have f243 : ∀ j : Nat, fI H234 uq j = fI H uq j := fun j => (fI_kept (x_lt hTH202 kH234 guq (by decide))).trans (f209 j)
      have m244 := (m210).trans (fR_kept (x_lt hTH202 kH234 ga (by decide))).symm
      have m245 := (m211).trans (fI_kept (x_lt hTH202 kH234 ga (by decide))).symm
      have m246 := (m213).trans (fI_kept (x_lt hTH202 kH234 gw (by decide))).symm
      have m247 := (m215).trans (fI_kept (x_lt hTH202 kH234 gw (by decide))).symm
      have m248 := (m217).trans (fI_kept (x_lt hTH202 kH234 gw (by decide))).symm
      have m249 := (m219).trans (fI_kept (x_lt hTH202 kH234 gw (by decide))).symm
      have m250 := (m221).trans (fI_kept (x_lt hTH202 kH234 gw (by decide))).symm
      have m251 := (m223).trans (fI_kept (x_lt hTH202 kH234 gw (by decide))).symm
      have m252 := (m225).trans (fR_kept (x_lt hTH202 kH234 ga (by decide))).symm
      have m253 := (fV_kept (x_lt hTH202 kH234 ga (by decide))).trans m228
      have m254 := (m212).trans (MF.i mf241 (k := 18) (by decide) (by decide)).symm
      have m255 := (m214).trans (MF.i mf241 (k := 1) (by decide) (by decide)).symm
      have m256 := (m216).trans (MF.i mf241 (k := 2) (by decide) (by decide)).symm
      have m257 := (m218).trans (MF.i mf241 (k := 3) (by decide) (by decide)).symm
      have m258 := (m220).trans (MF.i mf241 (k := 59) (by decide) (by decide)).symm
      have m259 := (m222).trans (MF.i mf241 (k := 62) (by decide) (by decide)).symm
      have m260 := (m224).trans (MF.i mf241 (k := 65) (by decide) (by decide)).symm
      have m261 := (m226).trans (MF.r mf241 (k := 17) (by decide) (by decide)).symm
      have m262 := (m227).trans (MF.i mf241 (k := 70) (by decide) (by decide)).symm
      have m263 := (m229).trans (MF.r mf241 (k := 73) (by decide) (by decide)).symm
      refine W.eq (g2 := F0 m 313 ls [.int x235]) rfl ?_
      have re264 : RE K H234 w b s1.toInt := RE.ref re230 hTH202 gw gb (fun k hk => MF.r mf241 (by omega) (by intro z; simp only [List.mem_cons, List.not_mem_nil, or_false] at z; omega)) (fun q t hq ht => x_lt hTH202 kH234 hq (by first | exact nmr ht (by decide) | exact nmo ht (by decide) | exact nme ht (by decide) | exact nmq ht (by decide) | decide | (intro z; simp only [List.mem_cons, List.not_mem_nil, or_false] at z <;> omega) | omega))
      refine lv_pop hx hb dL_law_313 rfl ?_
      refine lv_goto (tgt := 1509) hx hb dL_law_314 (by decide) ?_
      exact nx G H234 locsH234 _ _ ls ⟨hTH234, hN, ga, gb, g237, g238, g239, g240, ⟨(by rw [← m245, ← m254]; exact rt), (by rw [← m244, ← m246, ← m236]; exact r1), (by rw [← m244, ← m247, ← m256]; exact r4), (by rw [← m244, ← m248, ← m257]; exact r5), (by rw [← m244, ← m249, ← m258]; exact r10), (by rw [← m244, ← m250, ← m259]; exact r13), (by rw [← m244, ← m251, ← m260]; exact r16)⟩, Or.inl ⟨m253, (by rw [← m262]; exact h70)⟩, (by unfold TB; rw [← m252, ← m261, ← m254]; exact TBR.of htr f242 f243 (by omega)), (by unfold RELE; rw [← m244, ← m236, ← m248]; exact ⟨RE.cast re264 (by omega), by omega, by omega⟩), hSH234⟩ hl ⟨hc, hs, fun _ => ⟨hc0, hs0⟩⟩
  · skip
    obtain ⟨hi, ehi⟩ : ∃ z : Int32, z = fI H b (K.1.2 10 70) := ⟨_, rfl⟩
    rw [← ehi] at h70
    obtain ⟨iq, eiq⟩ : ∃ z : Nat, z = fR H b (K.1.2 10 73) := ⟨_, rfl⟩
    have giq := ty_fr (q := iq) (k := 73) (u := 162) eiq hT gb rg_112 rfl
    rw [← eiq] at q1 q4 q5 q10 q13 q16
    obtain ⟨k1, ek1⟩ : ∃ z : Int32, z = fI H kq (K.1.2 8 1) := ⟨_, rfl⟩
    rw [← ek1] at q1
    obtain ⟨i1, ei1⟩ : ∃ z : Int32, z = fI H iq ((0 : Int32).toNatClampNeg) := ⟨_, rfl⟩
    rw [← ei1] at q1
    obtain ⟨k4, ek4⟩ : ∃ z : Int32, z = fI H kq (K.1.2 8 4) := ⟨_, rfl⟩
    rw [← ek4] at q4
    obtain ⟨i4, ei4⟩ : ∃ z : Int32, z = fI H iq ((1 : Int32).toNatClampNeg) := ⟨_, rfl⟩
    rw [← ei4] at q4
    obtain ⟨k5, ek5⟩ : ∃ z : Int32, z = fI H kq (K.1.2 8 5) := ⟨_, rfl⟩
    rw [← ek5] at q5
    obtain ⟨i5, ei5⟩ : ∃ z : Int32, z = fI H iq ((2 : Int32).toNatClampNeg) := ⟨_, rfl⟩
    rw [← ei5] at q5
    obtain ⟨k10, ek10⟩ : ∃ z : Int32, z = fI H kq (K.1.2 8 10) := ⟨_, rfl⟩
    rw [← ek10] at q10
    obtain ⟨i10, ei10⟩ : ∃ z : Int32, z = fI H iq ((3 : Int32).toNatClampNeg) := ⟨_, rfl⟩
    rw [← ei10] at q10
    obtain ⟨k13, ek13⟩ : ∃ z : Int32, z = fI H kq (K.1.2 8 13) := ⟨_, rfl⟩
    rw [← ek13] at q13
    obtain ⟨i13, ei13⟩ : ∃ z : Int32, z = fI H iq ((4 : Int32).toNatClampNeg) := ⟨_, rfl⟩
    rw [← ei13] at q13
    obtain ⟨k16, ek16⟩ : ∃ z : Int32, z = fI H kq (K.1.2 8 16) := ⟨_, rfl⟩
    rw [← ek16] at q16
    obtain ⟨i16, ei16⟩ : ∃ z : Int32, z = fI H iq ((5 : Int32).toNatClampNeg) := ⟨_, rfl⟩
    rw [← ei16] at q16
    rw [← eiq, ← ek1] at rke
    have hsk : 0 ≤ k5.toInt ∧ k5.toInt ≤ 9999 := by rw [ek5]; exact ⟨ks1, ks2⟩
    refine lv_aload_n hx hb dL_law_274 rfl (lv_at hl 2 rfl) ?_
    refine lv_aload_n hx hb dL_law_275 rfl (lv_at hl 3 rfl) ?_
    refine lv_iload_n hx hb dL_law_276 rfl (lv_at hl 0 rfl) ?_
    refine lv_iconst (v := 1) hx hb dL_law_277 (by decide) ?_
    refine lv_iadd hx hb dL_law_278 ?_
    refine lv_topi (fun x265 ex265 => ?_)
    obtain ⟨tx265, ejx265, evx265⟩ := lw_ix (k := 1) ex265 hI hL rfl (by decide)
    clear tx265
    refine va_sld hx hb hX hbl (Nat.not_le.mpr hbl) hS (vp_in_iff.mpr evx265) dL_law_279 ?_
    refine W.eq (g2 := F0 m 280 ls [.int (xs (i.toNatClampNeg + 1)), .ref a]) (congrArg (fun z => F0 m 280 ls [.int (xs z), .ref a]) ejx265) ?_
    refine lv_aload_n hx hb dL_law_280 rfl (lv_at hl 3 rfl) ?_
    refine lv_iload_n hx hb dL_law_281 rfl (lv_at hl 0 rfl) ?_
    refine lv_iconst (v := 2) hx hb dL_law_282 (by decide) ?_
    refine lv_iadd hx hb dL_law_283 ?_
    refine lv_topi (fun x266 ex266 => ?_)
    obtain ⟨tx266, ejx266, evx266⟩ := lw_ix (k := 2) ex266 hI hL rfl (by decide)
    clear tx266
    refine va_sld hx hb hX hbl (Nat.not_le.mpr hbl) hS (vp_in_iff.mpr evx266) dL_law_284 ?_
    refine W.eq (g2 := F0 m 285 ls [.int (xs (i.toNatClampNeg + 2)), .int (xs (i.toNatClampNeg + 1)), .ref a]) (congrArg (fun z => F0 m 285 ls [.int (xs z), .int (xs (i.toNatClampNeg + 1)), .ref a]) ejx266) ?_
    refine lv_aload_n hx hb dL_law_285 rfl (lv_at hl 3 rfl) ?_
    refine lv_iload_n hx hb dL_law_286 rfl (lv_at hl 0 rfl) ?_
    refine lv_iconst (v := 3) hx hb dL_law_287 (by decide) ?_
    refine lv_iadd hx hb dL_law_288 ?_
    refine lv_topi (fun x267 ex267 => ?_)
    obtain ⟨tx267, ejx267, evx267⟩ := lw_ix (k := 3) ex267 hI hL rfl (by decide)
    clear tx267
    refine va_sld hx hb hX hbl (Nat.not_le.mpr hbl) hS (vp_in_iff.mpr evx267) dL_law_289 ?_
    refine W.eq (g2 := F0 m 290 ls [.int (xs (i.toNatClampNeg + 3)), .int (xs (i.toNatClampNeg + 2)), .int (xs (i.toNatClampNeg + 1)), .ref a]) (congrArg (fun z => F0 m 290 ls [.int (xs z), .int (xs (i.toNatClampNeg + 2)), .int (xs (i.toNatClampNeg + 1)), .ref a]) ejx267) ?_
    have sp268 : (0 ≤ (xs (i.toNatClampNeg + 1)).toInt ∧ (xs (i.toNatClampNeg + 1)).toInt < s1.toInt) ∨ ((xs (i.toNatClampNeg + 1)).toInt < 0 ∨ s1.toInt ≤ (xs (i.toNatClampNeg + 1)).toInt) := by omega
    rcases sp268 with hsp | hsp
    · skip
      have cxe := i_cl (x := (xs (i.toNatClampNeg + 1))) (by omega)
      obtain ⟨bq, ebq⟩ : ∃ z : Nat, z = fR H w (K.1.2 8 0) := ⟨_, rfl⟩
      have gbq := ty_fr (q := bq) (k := 0) (u := 25) ebq hT gw rg_0 rfl
      obtain ⟨bb, ebb⟩ : ∃ z : Nat, z = fR H bq ((xs (i.toNatClampNeg + 1)) : Int32).toNatClampNeg := ⟨_, rfl⟩
      have ebo : ow K H w ((xs (i.toNatClampNeg + 1)) : Int32).toNatClampNeg = bb := by rw [ow_b (by omega), ← ebq, ← ebb]
      have gbb : G bb = some 1 := by rw [← ebo]; exact ow_g hT gw (by omega)
      obtain ⟨rw1, erw1⟩ : ∃ z : Nat, z = fR H bb (K.1.2 0 1) := ⟨_, rfl⟩
      have grw1 := ty_fr (q := rw1) (k := 1) (u := 2) erw1 hT gbb rg_1 rfl
      obtain ⟨rw2, erw2⟩ : ∃ z : Nat, z = fR H bb (K.1.2 0 2) := ⟨_, rfl⟩
      have grw2 := ty_fr (q := rw2) (k := 2) (u := 3) erw2 hT gbb rg_1 rfl
      obtain ⟨rw3, erw3⟩ : ∃ z : Nat, z = fR H bb (K.1.2 0 3) := ⟨_, rfl⟩
      have grw3 := ty_fr (q := rw3) (k := 3) (u := 4) erw3 hT gbb rg_1 rfl
      obtain ⟨rw4, erw4⟩ : ∃ z : Nat, z = fR H bb (K.1.2 0 4) := ⟨_, rfl⟩
      have grw4 := ty_fr (q := rw4) (k := 4) (u := 5) erw4 hT gbb rg_1 rfl
      obtain ⟨rw5, erw5⟩ : ∃ z : Nat, z = fR H bb (K.1.2 0 5) := ⟨_, rfl⟩
      have grw5 := ty_fr (q := rw5) (k := 5) (u := 6) erw5 hT gbb rg_1 rfl
      obtain ⟨rw6, erw6⟩ : ∃ z : Nat, z = fR H bb (K.1.2 0 6) := ⟨_, rfl⟩
      have grw6 := ty_fr (q := rw6) (k := 6) (u := 7) erw6 hT gbb rg_1 rfl
      obtain ⟨rw7, erw7⟩ : ∃ z : Nat, z = fR H bb (K.1.2 0 7) := ⟨_, rfl⟩
      have grw7 := ty_fr (q := rw7) (k := 7) (u := 8) erw7 hT gbb rg_1 rfl
      obtain ⟨bz, ebz⟩ : ∃ z : Int32, z = fI H bb (K.1.2 0 0) := ⟨_, rfl⟩
      have bt_bz := ty_fi (x := bz) (k := 0) ebz hT gbb rg_1 rfl
      obtain ⟨bp, ebp⟩ : ∃ z : Int32, z = fI H bb (K.1.2 0 8) := ⟨_, rfl⟩
      have bt_bp := ty_fi (x := bp) (k := 8) ebp hT gbb rg_1 rfl
      obtain ⟨bl, ebl⟩ : ∃ z : Int32, z = fI H bb (K.1.2 0 9) := ⟨_, rfl⟩
      have bt_bl := ty_fi (x := bl) (k := 9) ebl hT gbb rg_1 rfl
      obtain ⟨hE_, hO_, hG_⟩ := re.2.1.1 ((xs (i.toNatClampNeg + 1)) : Int32).toNatClampNeg (by omega) (by omega)
      have ez_ : vcN K H w ((xs (i.toNatClampNeg + 1)) : Int32).toNatClampNeg = vwC K H bb := by show vwC K H (ow K H w ((xs (i.toNatClampNeg + 1)) : Int32).toNatClampNeg) = _; rw [ebo]
      rw [ez_] at hE_ hO_ hG_
      replace hE_ : EqW (vwC K H bb) (vwR K H b ((xs (i.toNatClampNeg + 1)) : Int32).toNatClampNeg) := hE_
      have hz3_ : 3 ≤ bz.toInt := by have z := hO_.1; rw [vwC_f (Or.inl rfl), ← ebz] at z; exact z
      refine x_V (As := [.int (xs (i.toNatClampNeg + 1)), .int (xs (i.toNatClampNeg + 2)), .int (xs (i.toNatClampNeg + 3))]) (rest := []) C (a_X9_wax_v l K G H ((xs (i.toNatClampNeg + 1))) ((xs (i.toNatClampNeg + 2))) ((xs (i.toNatClampNeg + 3))) (s1) (bz) hT ga (by omega) gw ew gbq ebq gbb ebb grw4 erw4 es1 ebz (by omega)) yo_X9_wax wM_L_23 ⟨⟨by decide, by decide⟩, show _ ≤ 60000 from Nat.le_trans hc (by decide), show _ ≤ 8922250 from Nat.le_trans hs (by decide)⟩ (x_rv C hT (ci := 9) rfl ga rg_68) rfl hl.1 rfl (Nat.le_of_ble_eq_true rfl) dL_law_290 hS (AE_new hN hS.1) (fun vH269 H269 locsH269 pH269 zH269 kH269 hSH269 => ?_)
      obtain ⟨x270, hvH269, bx270, m271, m272, hTH269⟩ := pH269
      subst hvH269
      have g273 : CG (avw K H269 b) := CG.congr (fun k hk j => av_eff hT kH269 gb (by decide) (CG_eff [5] (by decide) k hk)) cg
      have g274 : TU (avw K H269 b) (svw K H269 b) := TU.congr (fun k hk j => av_eff hT kH269 gb (by decide) (TU_eff [5] (by decide) k hk)) (fun k hk => sv_eff hT kH269 gb (by decide)) tu
      have g275 : WD (avw K H269 b) := WD.congr (fun k hk j => av_eff hT kH269 gb (by decide) (WD_eff [5] (by decide) k hk)) wd
      have g276 : IM (avw K H269 b) := IM.congr (fun k hk j => av_eff hT kH269 gb (by decide) (IM_eff [5] (by decide) k hk)) im
      have f277 : ∀ j : Nat, fI H269 tq j = fI H tq j := fun j => (fI_kept (x_lt hT kH269 gtq (by decide))).trans (ft0 j)
      have f278 : ∀ j : Nat, fI H269 uq j = fI H uq j := fun j => (fI_kept (x_lt hT kH269 guq (by decide))).trans (fu0 j)
      have m279 := (ew).trans (fR_kept (x_lt hT kH269 ga (by decide))).symm
      have m280 := (eta).trans (fI_kept (x_lt hT kH269 ga (by decide))).symm
      have m281 := (etb).trans (fI_kept (x_lt hT kH269 gb (by decide))).symm
      have m282 := (es1).trans (fI_kept (x_lt hT kH269 gw (by decide))).symm
      have m283 := (ey1).trans (fI_kept (x_lt hT kH269 gb (by decide))).symm
      have m284 := (es4).trans (fI_kept (x_lt hT kH269 gw (by decide))).symm
      have m285 := (ey4).trans (fI_kept (x_lt hT kH269 gb (by decide))).symm
      have m286 := (es5).trans (fI_kept (x_lt hT kH269 gw (by decide))).symm
      have m287 := (ey5).trans (fI_kept (x_lt hT kH269 gb (by decide))).symm
      have m288 := (es10).trans (fI_kept (x_lt hT kH269 gw (by decide))).symm
      have m289 := (ey10).trans (fI_kept (x_lt hT kH269 gb (by decide))).symm
      have m290 := (es13).trans (fI_kept (x_lt hT kH269 gw (by decide))).symm
      have m291 := (ey13).trans (fI_kept (x_lt hT kH269 gb (by decide))).symm
      have m292 := (es16).trans (fI_kept (x_lt hT kH269 gw (by decide))).symm
      have m293 := (ey16).trans (fI_kept (x_lt hT kH269 gb (by decide))).symm
      have m294 := (etq).trans (fR_kept (x_lt hT kH269 ga (by decide))).symm
      have m295 := (euq).trans (fR_kept (x_lt hT kH269 gb (by decide))).symm
      have m296 := (ehi).trans (fI_kept (x_lt hT kH269 gb (by decide))).symm
      have m297 := (fV_kept (x_lt hT kH269 ga (by decide))).trans kn
      have m298 := (eiq).trans (fR_kept (x_lt hT kH269 gb (by decide))).symm
      have m299 := (ek1).trans (fI_kept (x_lt hT kH269 gkq (by decide))).symm
      have m300 := (ei1).trans (fI_kept (x_lt hT kH269 giq (by decide))).symm
      have m301 := (ek4).trans (fI_kept (x_lt hT kH269 gkq (by decide))).symm
      have m302 := (ei4).trans (fI_kept (x_lt hT kH269 giq (by decide))).symm
      have m303 := (ek5).trans (fI_kept (x_lt hT kH269 gkq (by decide))).symm
      have m304 := (ei5).trans (fI_kept (x_lt hT kH269 giq (by decide))).symm
      have m305 := (ek10).trans (fI_kept (x_lt hT kH269 gkq (by decide))).symm
      have m306 := (ei10).trans (fI_kept (x_lt hT kH269 giq (by decide))).symm
      have m307 := (ek13).trans (fI_kept (x_lt hT kH269 gkq (by decide))).symm
      have m308 := (ei13).trans (fI_kept (x_lt hT kH269 giq (by decide))).symm
      have m309 := (ek16).trans (fI_kept (x_lt hT kH269 gkq (by decide))).symm
      have m310 := (ei16).trans (fI_kept (x_lt hT kH269 giq (by decide))).symm
      have m311 := (ebq).trans (fR_kept (x_lt hT kH269 gw (by decide))).symm
      have m312 := (ebb).trans (fR_kept (x_lt hT kH269 gbq (by decide))).symm
      have m313 := (erw1).trans (fR_kept (x_lt hT kH269 gbb (by decide))).symm
      have m314 := (erw2).trans (fR_kept (x_lt hT kH269 gbb (by decide))).symm
      have m315 := (erw3).trans (fR_kept (x_lt hT kH269 gbb (by decide))).symm
      have m316 := (erw4).trans (fR_kept (x_lt hT kH269 gbb (by decide))).symm
      have m317 := (erw5).trans (fR_kept (x_lt hT kH269 gbb (by decide))).symm
      have m318 := (erw6).trans (fR_kept (x_lt hT kH269 gbb (by decide))).symm
      have m319 := (erw7).trans (fR_kept (x_lt hT kH269 gbb (by decide))).symm
      have m320 := (ebz).trans (fI_kept (x_lt hT kH269 gbb (by decide))).symm
      have m321 := (ebp).trans (fI_kept (x_lt hT kH269 gbb (by decide))).symm
      have m322 := (ebl).trans (fI_kept (x_lt hT kH269 gbb (by decide))).symm
      refine W.eq (g2 := F0 m 293 ls [.int x270]) rfl ?_
      have rk323 : RKI K H269 kq iq k1.toInt := RKI.kept rke hT gkq (x_lt hT kH269 giq (by first | exact nmr ht (by decide) | exact nmo ht (by decide) | exact nme ht (by decide) | exact nmq ht (by decide) | decide | (intro z; simp only [List.mem_cons, List.not_mem_nil, or_false] at z <;> omega) | omega)) (fun q t hq ht => x_lt hT kH269 hq (by first | exact nmr ht (by decide) | exact nmo ht (by decide) | exact nme ht (by decide) | exact nmq ht (by decide) | decide | (intro z; simp only [List.mem_cons, List.not_mem_nil, or_false] at z <;> omega) | omega))
      have nw_ : NWF K H269 H w := fun k _ => fR_kept (m272 w 0 gw (G_ne gw grw4 (by decide)))
      have rb_ : RFB K H269 H bb := RFB.cell (m272 bb 1 gbb (G_ne gbb grw4 (by decide)))
      obtain ⟨brf, bot, bat, btx⟩ := bar_one (H1 := H269) re.1 hT gw (j := ((xs (i.toNatClampNeg + 1)) : Int32).toNatClampNeg) (by omega) ebo nw_ rb_ (fun q t hq ht n1 n2 => m272 q t hq (by rw [erw4]; exact n2 4 (by decide)))
      have er1 : ∀ bar, vrN K H269 b bar = vrN K H b bar := vrN.reg hT gb (fun k _ => fR_kept (x_lt hT kH269 gb (by first | exact nmr ht (by decide) | exact nmo ht (by decide) | exact nme ht (by decide) | exact nmq ht (by decide) | decide | (intro z; simp only [List.mem_cons, List.not_mem_nil, or_false] at z <;> omega) | omega))) (fun q t hq ht => x_lt hT kH269 hq (by first | exact nmr ht (by decide) | exact nmo ht (by decide) | exact nme ht (by decide) | exact nmq ht (by decide) | decide | (intro z; simp only [List.mem_cons, List.not_mem_nil, or_false] at z <;> omega) | omega))
      have tr1 : TPK (TRP K H269 b) (TRP K H b) := TRP.reg hT gb (fun k _ _ => fR_kept (x_lt hT kH269 gb (by first | exact nmr ht (by decide) | exact nmo ht (by decide) | exact nme ht (by decide) | exact nmq ht (by decide) | decide | (intro z; simp only [List.mem_cons, List.not_mem_nil, or_false] at z <;> omega) | omega))) (fun q t hq ht => x_lt hT kH269 hq (by first | exact nmr ht (by decide) | exact nmo ht (by decide) | exact nme ht (by decide) | exact nmq ht (by decide) | decide | (intro z; simp only [List.mem_cons, List.not_mem_nil, or_false] at z <;> omega) | omega))
      refine lv_pop hx hb dL_law_293 rfl ?_
      refine lv_aload_n hx hb dL_law_294 rfl (lv_at hl 1 rfl) ?_
      refine lv_aload_n hx hb dL_law_295 rfl (lv_at hl 3 rfl) ?_
      refine lv_iload_n hx hb dL_law_296 rfl (lv_at hl 0 rfl) ?_
      refine lv_iconst (v := 1) hx hb dL_law_297 (by decide) ?_
      refine lv_iadd hx hb dL_law_298 ?_
      refine lv_topi (fun x324 ex324 => ?_)
      obtain ⟨tx324, ejx324, evx324⟩ := lw_ix (k := 1) ex324 hI hL rfl (by decide)
      clear tx324
      refine va_sld hx hb hX hbl (Nat.not_le.mpr hbl) hSH269 (vp_in_iff.mpr evx324) dL_law_299 ?_
      refine W.eq (g2 := F0 m 300 ls [.int (xs (i.toNatClampNeg + 1)), .ref b]) (congrArg (fun z => F0 m 300 ls [.int (xs z), .ref b]) ejx324) ?_
      refine lv_aload_n hx hb dL_law_300 rfl (lv_at hl 3 rfl) ?_
      refine lv_iload_n hx hb dL_law_301 rfl (lv_at hl 0 rfl) ?_
      refine lv_iconst (v := 2) hx hb dL_law_302 (by decide) ?_
      refine lv_iadd hx hb dL_law_303 ?_
      refine lv_topi (fun x325 ex325 => ?_)
      obtain ⟨tx325, ejx325, evx325⟩ := lw_ix (k := 2) ex325 hI hL rfl (by decide)
      clear tx325
      refine va_sld hx hb hX hbl (Nat.not_le.mpr hbl) hSH269 (vp_in_iff.mpr evx325) dL_law_304 ?_
      refine W.eq (g2 := F0 m 305 ls [.int (xs (i.toNatClampNeg + 2)), .int (xs (i.toNatClampNeg + 1)), .ref b]) (congrArg (fun z => F0 m 305 ls [.int (xs z), .int (xs (i.toNatClampNeg + 1)), .ref b]) ejx325) ?_
      refine lv_aload_n hx hb dL_law_305 rfl (lv_at hl 3 rfl) ?_
      refine lv_iload_n hx hb dL_law_306 rfl (lv_at hl 0 rfl) ?_
      refine lv_iconst (v := 3) hx hb dL_law_307 (by decide) ?_
      refine lv_iadd hx hb dL_law_308 ?_
      refine lv_topi (fun x326 ex326 => ?_)
      obtain ⟨tx326, ejx326, evx326⟩ := lw_ix (k := 3) ex326 hI hL rfl (by decide)
      clear tx326
      refine va_sld hx hb hX hbl (Nat.not_le.mpr hbl) hSH269 (vp_in_iff.mpr evx326) dL_law_309 ?_
      refine W.eq (g2 := F0 m 310 ls [.int (xs (i.toNatClampNeg + 3)), .int (xs (i.toNatClampNeg + 2)), .int (xs (i.toNatClampNeg + 1)), .ref b]) (congrArg (fun z => F0 m 310 ls [.int (xs z), .int (xs (i.toNatClampNeg + 2)), .int (xs (i.toNatClampNeg + 1)), .ref b]) ejx326) ?_
      have ev_ : vwR K H269 b ((xs (i.toNatClampNeg + 1)) : Int32).toNatClampNeg = vwR K H b ((xs (i.toNatClampNeg + 1)) : Int32).toNatClampNeg := er1 _
      obtain ⟨q327, eq327⟩ : ∃ z : Nat, @Eq Ad z (fR H269 b (K.1.2 10 4)) := ⟨_, rfl⟩
      have gq327 := ty_fr (q := q327) (k := 4) (u := 113) eq327 hTH269 gb rg_112 rfl
      obtain ⟨q328, eq328⟩ : ∃ z : Nat, @Eq Ad z (fR H269 b (K.1.2 10 8)) := ⟨_, rfl⟩
      have gq328 := ty_fr (q := q328) (k := 8) (u := 117) eq328 hTH269 gb rg_112 rfl
      obtain ⟨x329, ex329⟩ : ∃ z : Int32, z = fI H269 q327 ((xs (i.toNatClampNeg + 1)) : Int32).toNatClampNeg := ⟨_, rfl⟩
      have bx329 := ty_ai (x := x329) ex329 hTH269 gq327 rg_113 (by omega)
      refine x_V (As := [.int (xs (i.toNatClampNeg + 1)), .int (xs (i.toNatClampNeg + 2)), .int (xs (i.toNatClampNeg + 3))]) (rest := []) C (a_X10_wax_v l K G H269 ((xs (i.toNatClampNeg + 1))) ((xs (i.toNatClampNeg + 2))) ((xs (i.toNatClampNeg + 3))) (y1) (x329) hTH269 gb (by omega) gq327 eq327 gq328 eq328 m283 ex329 g273 g274 g275 g276 (by omega)) yo_X10_wax wM_L_27 ⟨⟨by decide, by decide⟩, show _ ≤ 60000 from Nat.le_trans hc (by decide), show _ ≤ 8922250 from Nat.le_trans hs (by decide)⟩ (x_rv C hTH269 (ci := 10) rfl gb rg_112) rfl hl.1 rfl (Nat.le_of_ble_eq_true rfl) dL_law_310 hSH269 (AE_new hN hSH269.1) (fun vH330 H330 locsH330 pH330 zH330 kH330 hSH330 => ?_)
      obtain ⟨x331, hvH330, bx331, m332, m333, g334, g335, g336, g337, mf338, m339, m340, hTH330⟩ := pH330
      subst hvH330
      have f341 : ∀ j : Nat, fI H330 tq j = fI H tq j := fun j => (fI_kept (x_lt hTH269 kH330 gtq (by decide))).trans (f277 j)
      have f342 : ∀ j : Nat, fI H330 uq j = fI H uq j := fun j => (fI_kept (x_lt hTH269 kH330 guq (by decide))).trans (f278 j)
      have m343 := (m279).trans (fR_kept (x_lt hTH269 kH330 ga (by decide))).symm
      have m344 := (m280).trans (fI_kept (x_lt hTH269 kH330 ga (by decide))).symm
      have m345 := (m282).trans (fI_kept (x_lt hTH269 kH330 gw (by decide))).symm
      have m346 := (m284).trans (fI_kept (x_lt hTH269 kH330 gw (by decide))).symm
      have m347 := (m286).trans (fI_kept (x_lt hTH269 kH330 gw (by decide))).symm
      have m348 := (m288).trans (fI_kept (x_lt hTH269 kH330 gw (by decide))).symm
      have m349 := (m290).trans (fI_kept (x_lt hTH269 kH330 gw (by decide))).symm
      have m350 := (m292).trans (fI_kept (x_lt hTH269 kH330 gw (by decide))).symm
      have m351 := (m294).trans (fR_kept (x_lt hTH269 kH330 ga (by decide))).symm
      have m352 := (fV_kept (x_lt hTH269 kH330 ga (by decide))).trans m297
      have m353 := (m299).trans (fI_kept (x_lt hTH269 kH330 gkq (by decide))).symm
      have m354 := (m300).trans (fI_kept (x_lt hTH269 kH330 giq (by decide))).symm
      have m355 := (m301).trans (fI_kept (x_lt hTH269 kH330 gkq (by decide))).symm
      have m356 := (m302).trans (fI_kept (x_lt hTH269 kH330 giq (by decide))).symm
      have m357 := (m303).trans (fI_kept (x_lt hTH269 kH330 gkq (by decide))).symm
      have m358 := (m304).trans (fI_kept (x_lt hTH269 kH330 giq (by decide))).symm
      have m359 := (m305).trans (fI_kept (x_lt hTH269 kH330 gkq (by decide))).symm
      have m360 := (m306).trans (fI_kept (x_lt hTH269 kH330 giq (by decide))).symm
      have m361 := (m307).trans (fI_kept (x_lt hTH269 kH330 gkq (by decide))).symm
      have m362 := (m308).trans (fI_kept (x_lt hTH269 kH330 giq (by decide))).symm
      have m363 := (m309).trans (fI_kept (x_lt hTH269 kH330 gkq (by decide))).symm
      have m364 := (m310).trans (fI_kept (x_lt hTH269 kH330 giq (by decide))).symm
      have m365 := (m311).trans (fR_kept (x_lt hTH269 kH330 gw (by decide))).symm
      have m366 := (m312).trans (fR_kept (x_lt hTH269 kH330 gbq (by decide))).symm
      have m367 := (m313).trans (fR_kept (x_lt hTH269 kH330 gbb (by decide))).symm
      have m368 := (m314).trans (fR_kept (x_lt hTH269 kH330 gbb (by decide))).symm
      have m369 := (m315).trans (fR_kept (x_lt hTH269 kH330 gbb (by decide))).symm
      have m370 := (m316).trans (fR_kept (x_lt hTH269 kH330 gbb (by decide))).symm
      have m371 := (m317).trans (fR_kept (x_lt hTH269 kH330 gbb (by decide))).symm
      have m372 := (m318).trans (fR_kept (x_lt hTH269 kH330 gbb (by decide))).symm
      have m373 := (m319).trans (fR_kept (x_lt hTH269 kH330 gbb (by decide))).symm
      have m374 := (m320).trans (fI_kept (x_lt hTH269 kH330 gbb (by decide))).symm
      have m375 := (m321).trans (fI_kept (x_lt hTH269 kH330 gbb (by decide))).symm
      have m376 := (m322).trans (fI_kept (x_lt hTH269 kH330 gbb (by decide))).symm
      have m377 := (ex329).trans (fI_kept (x_lt hTH269 kH330 gq327 (by decide))).symm
      have m378 := (m281).trans (MF.i mf338 (k := 18) (by decide) (by decide)).symm
      have m379 := (m283).trans (MF.i mf338 (k := 1) (by decide) (by decide)).symm
      have m380 := (m285).trans (MF.i mf338 (k := 2) (by decide) (by decide)).symm
      have m381 := (m287).trans (MF.i mf338 (k := 3) (by decide) (by decide)).symm
      have m382 := (m289).trans (MF.i mf338 (k := 59) (by decide) (by decide)).symm
      have m383 := (m291).trans (MF.i mf338 (k := 62) (by decide) (by decide)).symm
      have m384 := (m293).trans (MF.i mf338 (k := 65) (by decide) (by decide)).symm
      have m385 := (m295).trans (MF.r mf338 (k := 17) (by decide) (by decide)).symm
      have m386 := (m296).trans (MF.i mf338 (k := 70) (by decide) (by decide)).symm
      have m387 := (m298).trans (MF.r mf338 (k := 73) (by decide) (by decide)).symm
      have m388 := (eq327).trans (MF.r mf338 (k := 4) (by decide) (by decide)).symm
      have m389 := (eq328).trans (MF.r mf338 (k := 8) (by decide) (by decide)).symm
      refine W.eq (g2 := F0 m 313 ls [.int x331]) rfl ?_
      have rk390 : RKI K H330 kq iq k1.toInt := RKI.kept rk323 hTH269 gkq (x_lt hTH269 kH330 giq (by first | exact nmr ht (by decide) | exact nmo ht (by decide) | exact nme ht (by decide) | exact nmq ht (by decide) | decide | (intro z; simp only [List.mem_cons, List.not_mem_nil, or_false] at z <;> omega) | omega)) (fun q t hq ht => x_lt hTH269 kH330 hq (by first | exact nmr ht (by decide) | exact nmo ht (by decide) | exact nme ht (by decide) | exact nmq ht (by decide) | decide | (intro z; simp only [List.mem_cons, List.not_mem_nil, or_false] at z <;> omega) | omega))
      have r12 : RFW K H330 H269 w := RFW.cell hTH269 gw (fun q t hq ht => x_lt hTH269 kH330 hq (by first | exact nmr ht (by decide) | exact nmo ht (by decide) | exact nme ht (by decide) | exact nmq ht (by decide) | decide | (intro z; simp only [List.mem_cons, List.not_mem_nil, or_false] at z <;> omega) | omega))
      have cU := vcN.kept hTH269 gw r12 (fun q t hq ht => x_lt hTH269 kH330 hq (by first | exact nmr ht (by decide) | exact nmo ht (by decide) | exact nme ht (by decide) | exact nmq ht (by decide) | decide | (intro z; simp only [List.mem_cons, List.not_mem_nil, or_false] at z <;> omega) | omega))
      have own2 : OWN K H330 w := (re.1.st brf).st r12
      have tU : TPK (TXP K H330 w) (TXP K H269 w) := TXP.kept hTH269 gw r12 (fun q t hq ht => x_lt hTH269 kH330 hq (by first | exact nmr ht (by decide) | exact nmo ht (by decide) | exact nme ht (by decide) | exact nmq ht (by decide) | decide | (intro z; simp only [List.mem_cons, List.not_mem_nil, or_false] at z <;> omega) | omega))
      have tR : TPK (TRP K H330 b) (TRP K H269 b) := TRP.reg hTH269 gb (fun k h1 h2 => MF.r mf338 (by omega) (by intro z; simp only [List.mem_cons, List.not_mem_nil, or_false] at z; omega)) (fun q t hq ht => x_lt hTH269 kH330 hq (by first | exact nmr ht (by decide) | exact nmo ht (by decide) | exact nme ht (by decide) | exact nmq ht (by decide) | decide | (intro z; simp only [List.mem_cons, List.not_mem_nil, or_false] at z <;> omega) | omega))
      have oq_ := m339
      rw [ev_] at oq_
      obtain ⟨hrq_, hC1, hC2, hC3⟩ := wax_both hE_ hO_ hG_ m271 oq_
      have re391 : RE K H330 w b s1.toInt := RE.set (i := ((xs (i.toNatClampNeg + 1)) : Int32).toNatClampNeg) re own2 (by omega) (by rw [cU ((xs (i.toNatClampNeg + 1)) : Int32).toNatClampNeg (by omega), bat]; exact hC1) (by rw [cU ((xs (i.toNatClampNeg + 1)) : Int32).toNatClampNeg (by omega), bat]; exact hC2) (by rw [cU ((xs (i.toNatClampNeg + 1)) : Int32).toNatClampNeg (by omega), bat]; exact hC3) (fun j hj hn => (cU j hj).trans (bot j hj hn)) (fun j hj hn => EqV.tr (m340 j hn) (by rw [show vwR K H269 b j = vwR K H b j from er1 j]; exact EqV.rf)) (fun r kk vv lw n h1 h2 z => tU r kk vv lw n h1 h2 (btx r kk vv lw n h1 h2 z)) (fun r kk vv lw n h1 h2 z => tR r kk vv lw n h1 h2 (tr1 r kk vv lw n h1 h2 z))
      refine lv_pop hx hb dL_law_313 rfl ?_
      refine lv_goto (tgt := 1509) hx hb dL_law_314 (by decide) ?_
      exact nx G H330 locsH330 _ _ ls ⟨hTH330, hN, ga, gb, g334, g335, g336, g337, ⟨(by rw [← m344, ← m378]; exact rt), (by rw [← m343, ← m345, ← m379]; exact r1), (by rw [← m343, ← m346, ← m380]; exact r4), (by rw [← m343, ← m347, ← m381]; exact r5), (by rw [← m343, ← m348, ← m382]; exact r10), (by rw [← m343, ← m349, ← m383]; exact r13), (by rw [← m343, ← m350, ← m384]; exact r16)⟩, Or.inr ⟨kq, m352, gkq, (by rw [← m386]; exact h70), (by rw [← m353, ← m387, ← m354]; exact q1), (by rw [← m355, ← m387, ← m356]; exact q4), (by rw [← m357, ← m387, ← m358]; exact q5), (by rw [← m359, ← m387, ← m360]; exact q10), (by rw [← m361, ← m387, ← m362]; exact q13), (by rw [← m363, ← m387, ← m364]; exact q16), (by rw [← m387, ← m353]; exact RKI.cast rk390 (by omega)), (by rw [← m357]; omega), (by rw [← m357]; omega)⟩, (by unfold TB; rw [← m351, ← m385, ← m378]; exact TBR.of htr f341 f342 (by omega)), (by unfold RELE; rw [← m343, ← m379, ← m347]; exact ⟨RE.cast re391 (by omega), by omega, by omega⟩), hSH330⟩ hl ⟨hc, hs, fun h => by have h1 := h.symm.trans m352; cases h1⟩
    · skip
      refine x_V (As := [.int (xs (i.toNatClampNeg + 1)), .int (xs (i.toNatClampNeg + 2)), .int (xs (i.toNatClampNeg + 3))]) (rest := []) C (a_X9_wax_n l K G H ((xs (i.toNatClampNeg + 1))) ((xs (i.toNatClampNeg + 2))) ((xs (i.toNatClampNeg + 3))) (s1) hT ga gw ew es1 (by omega)) yo_X9_wax wM_L_23 ⟨⟨by decide, by decide⟩, show _ ≤ 60000 from Nat.le_trans hc (by decide), show _ ≤ 8922250 from Nat.le_trans hs (by decide)⟩ (x_rv C hT (ci := 9) rfl ga rg_68) rfl hl.1 rfl (Nat.le_of_ble_eq_true rfl) dL_law_290 hS (AE_new hN hS.1) (fun vH392 H392 locsH392 pH392 zH392 kH392 hSH392 => ?_)
      obtain ⟨x393, hvH392, bx393, hTH392⟩ := pH392
      subst hvH392
      have g394 : CG (avw K H392 b) := CG.congr (fun k hk j => av_eff hT kH392 gb (by decide) (CG_eff [] (by decide) k hk)) cg
      have g395 : TU (avw K H392 b) (svw K H392 b) := TU.congr (fun k hk j => av_eff hT kH392 gb (by decide) (TU_eff [] (by decide) k hk)) (fun k hk => sv_eff hT kH392 gb (by decide)) tu
      have g396 : WD (avw K H392 b) := WD.congr (fun k hk j => av_eff hT kH392 gb (by decide) (WD_eff [] (by decide) k hk)) wd
      have g397 : IM (avw K H392 b) := IM.congr (fun k hk j => av_eff hT kH392 gb (by decide) (IM_eff [] (by decide) k hk)) im
      have f398 : ∀ j : Nat, fI H392 tq j = fI H tq j := fun j => (fI_kept (x_lt hT kH392 gtq (by decide))).trans (ft0 j)
      have f399 : ∀ j : Nat, fI H392 uq j = fI H uq j := fun j => (fI_kept (x_lt hT kH392 guq (by decide))).trans (fu0 j)
      have m400 := (ew).trans (fR_kept (x_lt hT kH392 ga (by decide))).symm
      have m401 := (eta).trans (fI_kept (x_lt hT kH392 ga (by decide))).symm
      have m402 := (etb).trans (fI_kept (x_lt hT kH392 gb (by decide))).symm
      have m403 := (es1).trans (fI_kept (x_lt hT kH392 gw (by decide))).symm
      have m404 := (ey1).trans (fI_kept (x_lt hT kH392 gb (by decide))).symm
      have m405 := (es4).trans (fI_kept (x_lt hT kH392 gw (by decide))).symm
      have m406 := (ey4).trans (fI_kept (x_lt hT kH392 gb (by decide))).symm
      have m407 := (es5).trans (fI_kept (x_lt hT kH392 gw (by decide))).symm
      have m408 := (ey5).trans (fI_kept (x_lt hT kH392 gb (by decide))).symm
      have m409 := (es10).trans (fI_kept (x_lt hT kH392 gw (by decide))).symm
      have m410 := (ey10).trans (fI_kept (x_lt hT kH392 gb (by decide))).symm
      have m411 := (es13).trans (fI_kept (x_lt hT kH392 gw (by decide))).symm
      have m412 := (ey13).trans (fI_kept (x_lt hT kH392 gb (by decide))).symm
      have m413 := (es16).trans (fI_kept (x_lt hT kH392 gw (by decide))).symm
      have m414 := (ey16).trans (fI_kept (x_lt hT kH392 gb (by decide))).symm
      have m415 := (etq).trans (fR_kept (x_lt hT kH392 ga (by decide))).symm
      have m416 := (euq).trans (fR_kept (x_lt hT kH392 gb (by decide))).symm
      have m417 := (ehi).trans (fI_kept (x_lt hT kH392 gb (by decide))).symm
      have m418 := (fV_kept (x_lt hT kH392 ga (by decide))).trans kn
      have m419 := (eiq).trans (fR_kept (x_lt hT kH392 gb (by decide))).symm
      have m420 := (ek1).trans (fI_kept (x_lt hT kH392 gkq (by decide))).symm
      have m421 := (ei1).trans (fI_kept (x_lt hT kH392 giq (by decide))).symm
      have m422 := (ek4).trans (fI_kept (x_lt hT kH392 gkq (by decide))).symm
      have m423 := (ei4).trans (fI_kept (x_lt hT kH392 giq (by decide))).symm
      have m424 := (ek5).trans (fI_kept (x_lt hT kH392 gkq (by decide))).symm
      have m425 := (ei5).trans (fI_kept (x_lt hT kH392 giq (by decide))).symm
      have m426 := (ek10).trans (fI_kept (x_lt hT kH392 gkq (by decide))).symm
      have m427 := (ei10).trans (fI_kept (x_lt hT kH392 giq (by decide))).symm
      have m428 := (ek13).trans (fI_kept (x_lt hT kH392 gkq (by decide))).symm
      have m429 := (ei13).trans (fI_kept (x_lt hT kH392 giq (by decide))).symm
      have m430 := (ek16).trans (fI_kept (x_lt hT kH392 gkq (by decide))).symm
      have m431 := (ei16).trans (fI_kept (x_lt hT kH392 giq (by decide))).symm
      refine W.eq (g2 := F0 m 293 ls [.int x393]) rfl ?_
      have rk432 : RKI K H392 kq iq k1.toInt := RKI.kept rke hT gkq (x_lt hT kH392 giq (by first | exact nmr ht (by decide) | exact nmo ht (by decide) | exact nme ht (by decide) | exact nmq ht (by decide) | decide | (intro z; simp only [List.mem_cons, List.not_mem_nil, or_false] at z <;> omega) | omega)) (fun q t hq ht => x_lt hT kH392 hq (by first | exact nmr ht (by decide) | exact nmo ht (by decide) | exact nme ht (by decide) | exact nmq ht (by decide) | decide | (intro z; simp only [List.mem_cons, List.not_mem_nil, or_false] at z <;> omega) | omega))
      have re433 : RE K H392 w b s1.toInt := RE.cls re hT gw gb (fun q t hq ht => x_lt hT kH392 hq (by first | exact nmr ht (by decide) | exact nmo ht (by decide) | exact nme ht (by decide) | exact nmq ht (by decide) | decide | (intro z; simp only [List.mem_cons, List.not_mem_nil, or_false] at z <;> omega) | omega))
      refine lv_pop hx hb dL_law_293 rfl ?_
      refine lv_aload_n hx hb dL_law_294 rfl (lv_at hl 1 rfl) ?_
      refine lv_aload_n hx hb dL_law_295 rfl (lv_at hl 3 rfl) ?_
      refine lv_iload_n hx hb dL_law_296 rfl (lv_at hl 0 rfl) ?_
      refine lv_iconst (v := 1) hx hb dL_law_297 (by decide) ?_
      refine lv_iadd hx hb dL_law_298 ?_
      refine lv_topi (fun x434 ex434 => ?_)
      obtain ⟨tx434, ejx434, evx434⟩ := lw_ix (k := 1) ex434 hI hL rfl (by decide)
      clear tx434
      refine va_sld hx hb hX hbl (Nat.not_le.mpr hbl) hSH392 (vp_in_iff.mpr evx434) dL_law_299 ?_
      refine W.eq (g2 := F0 m 300 ls [.int (xs (i.toNatClampNeg + 1)), .ref b]) (congrArg (fun z => F0 m 300 ls [.int (xs z), .ref b]) ejx434) ?_
      refine lv_aload_n hx hb dL_law_300 rfl (lv_at hl 3 rfl) ?_
      refine lv_iload_n hx hb dL_law_301 rfl (lv_at hl 0 rfl) ?_
      refine lv_iconst (v := 2) hx hb dL_law_302 (by decide) ?_
      refine lv_iadd hx hb dL_law_303 ?_
      refine lv_topi (fun x435 ex435 => ?_)
      obtain ⟨tx435, ejx435, evx435⟩ := lw_ix (k := 2) ex435 hI hL rfl (by decide)
      clear tx435
      refine va_sld hx hb hX hbl (Nat.not_le.mpr hbl) hSH392 (vp_in_iff.mpr evx435) dL_law_304 ?_
      refine W.eq (g2 := F0 m 305 ls [.int (xs (i.toNatClampNeg + 2)), .int (xs (i.toNatClampNeg + 1)), .ref b]) (congrArg (fun z => F0 m 305 ls [.int (xs z), .int (xs (i.toNatClampNeg + 1)), .ref b]) ejx435) ?_
      refine lv_aload_n hx hb dL_law_305 rfl (lv_at hl 3 rfl) ?_
      refine lv_iload_n hx hb dL_law_306 rfl (lv_at hl 0 rfl) ?_
      refine lv_iconst (v := 3) hx hb dL_law_307 (by decide) ?_
      refine lv_iadd hx hb dL_law_308 ?_
      refine lv_topi (fun x436 ex436 => ?_)
      obtain ⟨tx436, ejx436, evx436⟩ := lw_ix (k := 3) ex436 hI hL rfl (by decide)
      clear tx436
      refine va_sld hx hb hX hbl (Nat.not_le.mpr hbl) hSH392 (vp_in_iff.mpr evx436) dL_law_309 ?_
      refine W.eq (g2 := F0 m 310 ls [.int (xs (i.toNatClampNeg + 3)), .int (xs (i.toNatClampNeg + 2)), .int (xs (i.toNatClampNeg + 1)), .ref b]) (congrArg (fun z => F0 m 310 ls [.int (xs z), .int (xs (i.toNatClampNeg + 2)), .int (xs (i.toNatClampNeg + 1)), .ref b]) ejx436) ?_
      refine x_V (As := [.int (xs (i.toNatClampNeg + 1)), .int (xs (i.toNatClampNeg + 2)), .int (xs (i.toNatClampNeg + 3))]) (rest := []) C (a_X10_wax_n l K G H392 ((xs (i.toNatClampNeg + 1))) ((xs (i.toNatClampNeg + 2))) ((xs (i.toNatClampNeg + 3))) (y1) hTH392 gb m404 g394 g395 g396 g397 (by omega)) yo_X10_wax wM_L_27 ⟨⟨by decide, by decide⟩, show _ ≤ 60000 from Nat.le_trans hc (by decide), show _ ≤ 8922250 from Nat.le_trans hs (by decide)⟩ (x_rv C hTH392 (ci := 10) rfl gb rg_112) rfl hl.1 rfl (Nat.le_of_ble_eq_true rfl) dL_law_310 hSH392 (AE_new hN hSH392.1) (fun vH437 H437 locsH437 pH437 zH437 kH437 hSH437 => ?_)
      obtain ⟨x438, hvH437, bx438, m439, g440, g441, g442, g443, mf444, hTH437⟩ := pH437
      subst hvH437
      have f445 : ∀ j : Nat, fI H437 tq j = fI H tq j := fun j => (fI_kept (x_lt hTH392 kH437 gtq (by decide))).trans (f398 j)
      have f446 : ∀ j : Nat, fI H437 uq j = fI H uq j := fun j => (fI_kept (x_lt hTH392 kH437 guq (by decide))).trans (f399 j)
      have m447 := (m400).trans (fR_kept (x_lt hTH392 kH437 ga (by decide))).symm
      have m448 := (m401).trans (fI_kept (x_lt hTH392 kH437 ga (by decide))).symm
      have m449 := (m403).trans (fI_kept (x_lt hTH392 kH437 gw (by decide))).symm
      have m450 := (m405).trans (fI_kept (x_lt hTH392 kH437 gw (by decide))).symm
      have m451 := (m407).trans (fI_kept (x_lt hTH392 kH437 gw (by decide))).symm
      have m452 := (m409).trans (fI_kept (x_lt hTH392 kH437 gw (by decide))).symm
      have m453 := (m411).trans (fI_kept (x_lt hTH392 kH437 gw (by decide))).symm
      have m454 := (m413).trans (fI_kept (x_lt hTH392 kH437 gw (by decide))).symm
      have m455 := (m415).trans (fR_kept (x_lt hTH392 kH437 ga (by decide))).symm
      have m456 := (fV_kept (x_lt hTH392 kH437 ga (by decide))).trans m418
      have m457 := (m420).trans (fI_kept (x_lt hTH392 kH437 gkq (by decide))).symm
      have m458 := (m421).trans (fI_kept (x_lt hTH392 kH437 giq (by decide))).symm
      have m459 := (m422).trans (fI_kept (x_lt hTH392 kH437 gkq (by decide))).symm
      have m460 := (m423).trans (fI_kept (x_lt hTH392 kH437 giq (by decide))).symm
      have m461 := (m424).trans (fI_kept (x_lt hTH392 kH437 gkq (by decide))).symm
      have m462 := (m425).trans (fI_kept (x_lt hTH392 kH437 giq (by decide))).symm
      have m463 := (m426).trans (fI_kept (x_lt hTH392 kH437 gkq (by decide))).symm
      have m464 := (m427).trans (fI_kept (x_lt hTH392 kH437 giq (by decide))).symm
      have m465 := (m428).trans (fI_kept (x_lt hTH392 kH437 gkq (by decide))).symm
      have m466 := (m429).trans (fI_kept (x_lt hTH392 kH437 giq (by decide))).symm
      have m467 := (m430).trans (fI_kept (x_lt hTH392 kH437 gkq (by decide))).symm
      have m468 := (m431).trans (fI_kept (x_lt hTH392 kH437 giq (by decide))).symm
      have m469 := (m402).trans (MF.i mf444 (k := 18) (by decide) (by decide)).symm
      have m470 := (m404).trans (MF.i mf444 (k := 1) (by decide) (by decide)).symm
      have m471 := (m406).trans (MF.i mf444 (k := 2) (by decide) (by decide)).symm
      have m472 := (m408).trans (MF.i mf444 (k := 3) (by decide) (by decide)).symm
      have m473 := (m410).trans (MF.i mf444 (k := 59) (by decide) (by decide)).symm
      have m474 := (m412).trans (MF.i mf444 (k := 62) (by decide) (by decide)).symm
      have m475 := (m414).trans (MF.i mf444 (k := 65) (by decide) (by decide)).symm
      have m476 := (m416).trans (MF.r mf444 (k := 17) (by decide) (by decide)).symm
      have m477 := (m417).trans (MF.i mf444 (k := 70) (by decide) (by decide)).symm
      have m478 := (m419).trans (MF.r mf444 (k := 73) (by decide) (by decide)).symm
      refine W.eq (g2 := F0 m 313 ls [.int x438]) rfl ?_
      have rk479 : RKI K H437 kq iq k1.toInt := RKI.kept rk432 hTH392 gkq (x_lt hTH392 kH437 giq (by first | exact nmr ht (by decide) | exact nmo ht (by decide) | exact nme ht (by decide) | exact nmq ht (by decide) | decide | (intro z; simp only [List.mem_cons, List.not_mem_nil, or_false] at z <;> omega) | omega)) (fun q t hq ht => x_lt hTH392 kH437 hq (by first | exact nmr ht (by decide) | exact nmo ht (by decide) | exact nme ht (by decide) | exact nmq ht (by decide) | decide | (intro z; simp only [List.mem_cons, List.not_mem_nil, or_false] at z <;> omega) | omega))
      have re480 : RE K H437 w b s1.toInt := RE.ref re433 hTH392 gw gb (fun k hk => MF.r mf444 (by omega) (by intro z; simp only [List.mem_cons, List.not_mem_nil, or_false] at z; omega)) (fun q t hq ht => x_lt hTH392 kH437 hq (by first | exact nmr ht (by decide) | exact nmo ht (by decide) | exact nme ht (by decide) | exact nmq ht (by decide) | decide | (intro z; simp only [List.mem_cons, List.not_mem_nil, or_false] at z <;> omega) | omega))
      refine lv_pop hx hb dL_law_313 rfl ?_
      refine lv_goto (tgt := 1509) hx hb dL_law_314 (by decide) ?_
      exact nx G H437 locsH437 _ _ ls ⟨hTH437, hN, ga, gb, g440, g441, g442, g443, ⟨(by rw [← m448, ← m469]; exact rt), (by rw [← m447, ← m449, ← m439]; exact r1), (by rw [← m447, ← m450, ← m471]; exact r4), (by rw [← m447, ← m451, ← m472]; exact r5), (by rw [← m447, ← m452, ← m473]; exact r10), (by rw [← m447, ← m453, ← m474]; exact r13), (by rw [← m447, ← m454, ← m475]; exact r16)⟩, Or.inr ⟨kq, m456, gkq, (by rw [← m477]; exact h70), (by rw [← m457, ← m478, ← m458]; exact q1), (by rw [← m459, ← m478, ← m460]; exact q4), (by rw [← m461, ← m478, ← m462]; exact q5), (by rw [← m463, ← m478, ← m464]; exact q10), (by rw [← m465, ← m478, ← m466]; exact q13), (by rw [← m467, ← m478, ← m468]; exact q16), (by rw [← m478, ← m457]; exact RKI.cast rk479 (by omega)), (by rw [← m461]; omega), (by rw [← m461]; omega)⟩, (by unfold TB; rw [← m455, ← m476, ← m469]; exact TBR.of htr f445 f446 (by omega)), (by unfold RELE; rw [← m447, ← m439, ← m451]; exact ⟨RE.cast re480 (by omega), by omega, by omega⟩), hSH437⟩ hl ⟨hc, hs, fun h => by have h1 := h.symm.trans m456; cases h1⟩
set_option maxRecDepth 100000 in
set_option maxHeartbeats 8000000 in
theorem lw_c3 {p : Program} {l : Launch} {e : Env} {s : State} {m : MethodId} {below : List Frame} {meth : Method} {c : Code} {K : KE} {b0 L : Nat} {xs : Nat → Int32} {G : Nat → Option Nat} {H : Heap} {locs : List Loc} {a b : Nat} {cells slots : Nat} {ls : Array Slot} {i : Int32} {n : Nat} (D : LC p K s m meth c b0 L xs) (S : SX K s G H locs a b) (hl : lv_has ls 4 [(3, .int i), (2, .ref b), (1, .ref a), (0, .ref b0)]) (hi : 0 ≤ i.toInt ∧ i.toInt + 6 ≤ L) (hn : n ≤ 511) (hB : BD K H a cells slots) (nx : ∀ (G : Nat → Option Nat) (H : Heap) (locs : List Loc) (cells slots : Nat) (ls : Array Slot), SX K s G H locs a b → lv_has ls 4 [(3, .int i), (2, .ref b), (1, .ref a), (0, .ref b0)] → BD K H a cells slots → W p l e room_1 s m #[Value.ref b0] below meth c H locs cells slots (lw_Z below #[Value.ref b0] s) (F0 m 1509 ls [])) : W p l e room_1 s m #[Value.ref b0] below meth c H locs cells slots (lw_Z below #[Value.ref b0] s) (F0 m 317 ls []) := by
  have hI := hi
  obtain ⟨C, hX, hbl, hL⟩ := id D
  obtain ⟨hx, hb, hml, hown, hts, hKT, hr, hlocks, hnm⟩ := id C
  obtain ⟨hT, hN, ga, gb, cg, tu, wd, im, ⟨rt, r1, r4, r5, r10, r13, r16⟩, hk, htb, her, hS⟩ := S
  obtain ⟨hc, hs, hB0⟩ := hB
  have n_1 : (1 : Int32).toInt = 1 := rfl
  have n_2 : (2 : Int32).toInt = 2 := rfl
  have n_3 : (3 : Int32).toInt = 3 := rfl
  obtain ⟨w, ew⟩ : ∃ z : Nat, z = fR H a (K.1.2 9 0) := ⟨_, rfl⟩
  have gw := ty_fr (q := w) (k := 0) (u := 0) ew hT ga rg_68 rfl
  rw [← ew] at r1 r4 r5 r10 r13 r16
  obtain ⟨ta, eta⟩ : ∃ z : Int32, z = fI H a (K.1.2 9 3) := ⟨_, rfl⟩
  rw [← eta] at rt
  obtain ⟨tb, etb⟩ : ∃ z : Int32, z = fI H b (K.1.2 10 18) := ⟨_, rfl⟩
  rw [← etb] at rt
  obtain ⟨s1, es1⟩ : ∃ z : Int32, z = fI H w (K.1.2 8 1) := ⟨_, rfl⟩
  rw [← es1] at r1
  obtain ⟨y1, ey1⟩ : ∃ z : Int32, z = fI H b (K.1.2 10 1) := ⟨_, rfl⟩
  rw [← ey1] at r1
  obtain ⟨s4, es4⟩ : ∃ z : Int32, z = fI H w (K.1.2 8 4) := ⟨_, rfl⟩
  rw [← es4] at r4
  obtain ⟨y4, ey4⟩ : ∃ z : Int32, z = fI H b (K.1.2 10 2) := ⟨_, rfl⟩
  rw [← ey4] at r4
  obtain ⟨s5, es5⟩ : ∃ z : Int32, z = fI H w (K.1.2 8 5) := ⟨_, rfl⟩
  rw [← es5] at r5
  obtain ⟨y5, ey5⟩ : ∃ z : Int32, z = fI H b (K.1.2 10 3) := ⟨_, rfl⟩
  rw [← ey5] at r5
  obtain ⟨s10, es10⟩ : ∃ z : Int32, z = fI H w (K.1.2 8 10) := ⟨_, rfl⟩
  rw [← es10] at r10
  obtain ⟨y10, ey10⟩ : ∃ z : Int32, z = fI H b (K.1.2 10 59) := ⟨_, rfl⟩
  rw [← ey10] at r10
  obtain ⟨s13, es13⟩ : ∃ z : Int32, z = fI H w (K.1.2 8 13) := ⟨_, rfl⟩
  rw [← es13] at r13
  obtain ⟨y13, ey13⟩ : ∃ z : Int32, z = fI H b (K.1.2 10 62) := ⟨_, rfl⟩
  rw [← ey13] at r13
  obtain ⟨s16, es16⟩ : ∃ z : Int32, z = fI H w (K.1.2 8 16) := ⟨_, rfl⟩
  rw [← es16] at r16
  obtain ⟨y16, ey16⟩ : ∃ z : Int32, z = fI H b (K.1.2 10 65) := ⟨_, rfl⟩
  rw [← ey16] at r16
  obtain ⟨tq, etq⟩ : ∃ z : Nat, z = fR H a (K.1.2 9 2) := ⟨_, rfl⟩
  have gtq := ty_fr (q := tq) (k := 2) (u := 108) etq hT ga rg_68 rfl
  obtain ⟨uq, euq⟩ : ∃ z : Nat, z = fR H b (K.1.2 10 17) := ⟨_, rfl⟩
  have guq := ty_fr (q := uq) (k := 17) (u := 126) euq hT gb rg_112 rfl
  have htr : TBR (fun j => fI H tq j) (fun j => fI H uq j) tb.toNatClampNeg := by rw [etq, euq, etb]; exact htb
  have ft0 : ∀ j : Nat, fI H tq j = fI H tq j := fun _ => rfl
  have fu0 : ∀ j : Nat, fI H uq j = fI H uq j := fun _ => rfl
  have bta := ty_fi (x := ta) (k := 3) eta hT ga rg_68 rfl
  have cta := i_cl (x := ta) (by omega)
  have btb := ty_fi (x := tb) (k := 18) etb hT gb rg_112 rfl
  have ctb := i_cl (x := tb) (by omega)
  obtain ⟨her0, hsl1, hsl2⟩ := her
  have hsl0 := And.intro hsl1 hsl2
  clear hsl1 hsl2
  rw [← ew] at her0 hsl0
  have re : RE K H w b s1.toInt := RE.cast her0 (by rw [← ey1]; exact r1)
  have hsl : 0 ≤ s5.toInt ∧ s5.toInt ≤ 9999 := by rw [es5]; exact hsl0
  clear her0 hsl0
  have bt_s1 := ty_fi (x := s1) (k := 1) es1 hT gw rg_0 rfl
  have bt_s4 := ty_fi (x := s4) (k := 4) es4 hT gw rg_0 rfl
  have bt_y1 := ty_fi (x := y1) (k := 1) ey1 hT gb rg_112 rfl
  have bt_y4 := ty_fi (x := y4) (k := 2) ey4 hT gb rg_112 rfl
  rcases hk with ⟨kn, h70⟩ | ⟨kq, kn, gkq, h70, q1, q4, q5, q10, q13, q16, rke, ks1, ks2⟩
  · skip
    obtain ⟨hi, ehi⟩ : ∃ z : Int32, z = fI H b (K.1.2 10 70) := ⟨_, rfl⟩
    rw [← ehi] at h70
    obtain ⟨hc0, hs0⟩ := hB0 kn
    obtain ⟨iq, eiq⟩ : ∃ z : Nat, z = fR H b (K.1.2 10 73) := ⟨_, rfl⟩
    have giq := ty_fr (q := iq) (k := 73) (u := 162) eiq hT gb rg_112 rfl
    refine lv_aload_n hx hb dL_law_317 rfl (lv_at hl 2 rfl) ?_
    refine lv_aload_n hx hb dL_law_318 rfl (lv_at hl 3 rfl) ?_
    refine lv_iload_n hx hb dL_law_319 rfl (lv_at hl 0 rfl) ?_
    refine lv_iconst (v := 1) hx hb dL_law_320 (by decide) ?_
    refine lv_iadd hx hb dL_law_321 ?_
    refine lv_topi (fun x101 ex101 => ?_)
    obtain ⟨tx101, ejx101, evx101⟩ := lw_ix (k := 1) ex101 hI hL rfl (by decide)
    clear tx101
    refine va_sld hx hb hX hbl (Nat.not_le.mpr hbl) hS (vp_in_iff.mpr evx101) dL_law_322 ?_
    refine W.eq (g2 := F0 m 323 ls [.int (xs (i.toNatClampNeg + 1)), .ref a]) (congrArg (fun z => F0 m 323 ls [.int (xs z), .ref a]) ejx101) ?_
    refine lv_aload_n hx hb dL_law_323 rfl (lv_at hl 3 rfl) ?_
    refine lv_iload_n hx hb dL_law_324 rfl (lv_at hl 0 rfl) ?_
    refine lv_iconst (v := 2) hx hb dL_law_325 (by decide) ?_
    refine lv_iadd hx hb dL_law_326 ?_
    refine lv_topi (fun x102 ex102 => ?_)
    obtain ⟨tx102, ejx102, evx102⟩ := lw_ix (k := 2) ex102 hI hL rfl (by decide)
    clear tx102
    refine va_sld hx hb hX hbl (Nat.not_le.mpr hbl) hS (vp_in_iff.mpr evx102) dL_law_327 ?_
    refine W.eq (g2 := F0 m 328 ls [.int (xs (i.toNatClampNeg + 2)), .int (xs (i.toNatClampNeg + 1)), .ref a]) (congrArg (fun z => F0 m 328 ls [.int (xs z), .int (xs (i.toNatClampNeg + 1)), .ref a]) ejx102) ?_
    refine lv_aload_n hx hb dL_law_328 rfl (lv_at hl 3 rfl) ?_
    refine lv_iload_n hx hb dL_law_329 rfl (lv_at hl 0 rfl) ?_
    refine lv_iconst (v := 3) hx hb dL_law_330 (by decide) ?_
    refine lv_iadd hx hb dL_law_331 ?_
    refine lv_topi (fun x103 ex103 => ?_)
    obtain ⟨tx103, ejx103, evx103⟩ := lw_ix (k := 3) ex103 hI hL rfl (by decide)
    clear tx103
    refine va_sld hx hb hX hbl (Nat.not_le.mpr hbl) hS (vp_in_iff.mpr evx103) dL_law_332 ?_
    refine W.eq (g2 := F0 m 333 ls [.int (xs (i.toNatClampNeg + 3)), .int (xs (i.toNatClampNeg + 2)), .int (xs (i.toNatClampNeg + 1)), .ref a]) (congrArg (fun z => F0 m 333 ls [.int (xs z), .int (xs (i.toNatClampNeg + 2)), .int (xs (i.toNatClampNeg + 1)), .ref a]) ejx103) ?_
    refine x_V (As := [.int (xs (i.toNatClampNeg + 1)), .int (xs (i.toNatClampNeg + 2)), .int (xs (i.toNatClampNeg + 3))]) (rest := []) C (a_X9_of l K G H ((xs (i.toNatClampNeg + 1))) ((xs (i.toNatClampNeg + 2))) ((xs (i.toNatClampNeg + 3))) hT ga) yo_X9_of wM_L_28 ⟨⟨by decide, by decide⟩, show _ ≤ 60000 from Nat.le_trans hc (by decide), show _ ≤ 8922250 from Nat.le_trans hs (by decide)⟩ (x_rv C hT (ci := 9) rfl ga rg_68) rfl hl.1 rfl (Nat.le_of_ble_eq_true rfl) dL_law_333 hS (AE_new hN hS.1) (fun vH104 H104 locsH104 pH104 zH104 kH104 hSH104 => ?_)
    obtain ⟨x105, hvH104, hTH104⟩ := pH104
    subst hvH104
    have g106 : CG (avw K H104 b) := CG.congr (fun k hk j => av_eff hT kH104 gb (by decide) (CG_eff [] (by decide) k hk)) cg
    have g107 : TU (avw K H104 b) (svw K H104 b) := TU.congr (fun k hk j => av_eff hT kH104 gb (by decide) (TU_eff [] (by decide) k hk)) (fun k hk => sv_eff hT kH104 gb (by decide)) tu
    have g108 : WD (avw K H104 b) := WD.congr (fun k hk j => av_eff hT kH104 gb (by decide) (WD_eff [] (by decide) k hk)) wd
    have g109 : IM (avw K H104 b) := IM.congr (fun k hk j => av_eff hT kH104 gb (by decide) (IM_eff [] (by decide) k hk)) im
    have f110 : ∀ j : Nat, fI H104 tq j = fI H tq j := fun j => (fI_kept (x_lt hT kH104 gtq (by decide))).trans (ft0 j)
    have f111 : ∀ j : Nat, fI H104 uq j = fI H uq j := fun j => (fI_kept (x_lt hT kH104 guq (by decide))).trans (fu0 j)
    have m112 := (ew).trans (fR_kept (x_lt hT kH104 ga (by decide))).symm
    have m113 := (eta).trans (fI_kept (x_lt hT kH104 ga (by decide))).symm
    have m114 := (etb).trans (fI_kept (x_lt hT kH104 gb (by decide))).symm
    have m115 := (es1).trans (fI_kept (x_lt hT kH104 gw (by decide))).symm
    have m116 := (ey1).trans (fI_kept (x_lt hT kH104 gb (by decide))).symm
    have m117 := (es4).trans (fI_kept (x_lt hT kH104 gw (by decide))).symm
    have m118 := (ey4).trans (fI_kept (x_lt hT kH104 gb (by decide))).symm
    have m119 := (es5).trans (fI_kept (x_lt hT kH104 gw (by decide))).symm
    have m120 := (ey5).trans (fI_kept (x_lt hT kH104 gb (by decide))).symm
    have m121 := (es10).trans (fI_kept (x_lt hT kH104 gw (by decide))).symm
    have m122 := (ey10).trans (fI_kept (x_lt hT kH104 gb (by decide))).symm
    have m123 := (es13).trans (fI_kept (x_lt hT kH104 gw (by decide))).symm
    have m124 := (ey13).trans (fI_kept (x_lt hT kH104 gb (by decide))).symm
    have m125 := (es16).trans (fI_kept (x_lt hT kH104 gw (by decide))).symm
    have m126 := (ey16).trans (fI_kept (x_lt hT kH104 gb (by decide))).symm
    have m127 := (etq).trans (fR_kept (x_lt hT kH104 ga (by decide))).symm
    have m128 := (euq).trans (fR_kept (x_lt hT kH104 gb (by decide))).symm
    have m129 := (ehi).trans (fI_kept (x_lt hT kH104 gb (by decide))).symm
    have m130 := (fV_kept (x_lt hT kH104 ga (by decide))).trans kn
    have m131 := (eiq).trans (fR_kept (x_lt hT kH104 gb (by decide))).symm
    refine W.eq (g2 := F0 m 336 ls [.int x105]) rfl ?_
    have re132 : RE K H104 w b s1.toInt := RE.cls re hT gw gb (fun q t hq ht => x_lt hT kH104 hq (by first | exact nmr ht (by decide) | exact nmo ht (by decide) | exact nme ht (by decide) | exact nmq ht (by decide) | decide | (intro z; simp only [List.mem_cons, List.not_mem_nil, or_false] at z <;> omega) | omega))
    refine lv_pop hx hb dL_law_336 rfl ?_
    refine lv_aload_n hx hb dL_law_337 rfl (lv_at hl 1 rfl) ?_
    refine lv_aload_n hx hb dL_law_338 rfl (lv_at hl 3 rfl) ?_
    refine lv_iload_n hx hb dL_law_339 rfl (lv_at hl 0 rfl) ?_
    refine lv_iconst (v := 1) hx hb dL_law_340 (by decide) ?_
    refine lv_iadd hx hb dL_law_341 ?_
    refine lv_topi (fun x133 ex133 => ?_)
    obtain ⟨tx133, ejx133, evx133⟩ := lw_ix (k := 1) ex133 hI hL rfl (by decide)
    clear tx133
    refine va_sld hx hb hX hbl (Nat.not_le.mpr hbl) hSH104 (vp_in_iff.mpr evx133) dL_law_342 ?_
    refine W.eq (g2 := F0 m 343 ls [.int (xs (i.toNatClampNeg + 1)), .ref b]) (congrArg (fun z => F0 m 343 ls [.int (xs z), .ref b]) ejx133) ?_
    refine lv_aload_n hx hb dL_law_343 rfl (lv_at hl 3 rfl) ?_
    refine lv_iload_n hx hb dL_law_344 rfl (lv_at hl 0 rfl) ?_
    refine lv_iconst (v := 2) hx hb dL_law_345 (by decide) ?_
    refine lv_iadd hx hb dL_law_346 ?_
    refine lv_topi (fun x134 ex134 => ?_)
    obtain ⟨tx134, ejx134, evx134⟩ := lw_ix (k := 2) ex134 hI hL rfl (by decide)
    clear tx134
    refine va_sld hx hb hX hbl (Nat.not_le.mpr hbl) hSH104 (vp_in_iff.mpr evx134) dL_law_347 ?_
    refine W.eq (g2 := F0 m 348 ls [.int (xs (i.toNatClampNeg + 2)), .int (xs (i.toNatClampNeg + 1)), .ref b]) (congrArg (fun z => F0 m 348 ls [.int (xs z), .int (xs (i.toNatClampNeg + 1)), .ref b]) ejx134) ?_
    refine lv_aload_n hx hb dL_law_348 rfl (lv_at hl 3 rfl) ?_
    refine lv_iload_n hx hb dL_law_349 rfl (lv_at hl 0 rfl) ?_
    refine lv_iconst (v := 3) hx hb dL_law_350 (by decide) ?_
    refine lv_iadd hx hb dL_law_351 ?_
    refine lv_topi (fun x135 ex135 => ?_)
    obtain ⟨tx135, ejx135, evx135⟩ := lw_ix (k := 3) ex135 hI hL rfl (by decide)
    clear tx135
    refine va_sld hx hb hX hbl (Nat.not_le.mpr hbl) hSH104 (vp_in_iff.mpr evx135) dL_law_352 ?_
    refine W.eq (g2 := F0 m 353 ls [.int (xs (i.toNatClampNeg + 3)), .int (xs (i.toNatClampNeg + 2)), .int (xs (i.toNatClampNeg + 1)), .ref b]) (congrArg (fun z => F0 m 353 ls [.int (xs z), .int (xs (i.toNatClampNeg + 2)), .int (xs (i.toNatClampNeg + 1)), .ref b]) ejx135) ?_
    refine x_V (As := [.int (xs (i.toNatClampNeg + 1)), .int (xs (i.toNatClampNeg + 2)), .int (xs (i.toNatClampNeg + 3))]) (rest := []) C (a_X10_of l K G H104 ((xs (i.toNatClampNeg + 1))) ((xs (i.toNatClampNeg + 2))) ((xs (i.toNatClampNeg + 3))) hTH104 gb g106 g107 g108 g109) yo_X10_of wM_L_32 ⟨⟨by decide, by decide⟩, show _ ≤ 60000 from Nat.le_trans hc (by decide), show _ ≤ 8922250 from Nat.le_trans hs (by decide)⟩ (x_rv C hTH104 (ci := 10) rfl gb rg_112) rfl hl.1 rfl (Nat.le_of_ble_eq_true rfl) dL_law_353 hSH104 (AE_new hN hSH104.1) (fun vH136 H136 locsH136 pH136 zH136 kH136 hSH136 => ?_)
    obtain ⟨x137, hvH136, g138, g139, g140, g141, mf142, hTH136⟩ := pH136
    subst hvH136
    have f143 : ∀ j : Nat, fI H136 tq j = fI H tq j := fun j => (fI_kept (x_lt hTH104 kH136 gtq (by decide))).trans (f110 j)
    have f144 : ∀ j : Nat, fI H136 uq j = fI H uq j := fun j => (fI_kept (x_lt hTH104 kH136 guq (by decide))).trans (f111 j)
    have m145 := (m112).trans (fR_kept (x_lt hTH104 kH136 ga (by decide))).symm
    have m146 := (m113).trans (fI_kept (x_lt hTH104 kH136 ga (by decide))).symm
    have m147 := (m115).trans (fI_kept (x_lt hTH104 kH136 gw (by decide))).symm
    have m148 := (m117).trans (fI_kept (x_lt hTH104 kH136 gw (by decide))).symm
    have m149 := (m119).trans (fI_kept (x_lt hTH104 kH136 gw (by decide))).symm
    have m150 := (m121).trans (fI_kept (x_lt hTH104 kH136 gw (by decide))).symm
    have m151 := (m123).trans (fI_kept (x_lt hTH104 kH136 gw (by decide))).symm
    have m152 := (m125).trans (fI_kept (x_lt hTH104 kH136 gw (by decide))).symm
    have m153 := (m127).trans (fR_kept (x_lt hTH104 kH136 ga (by decide))).symm
    have m154 := (fV_kept (x_lt hTH104 kH136 ga (by decide))).trans m130
    have m155 := (m114).trans (MF.i mf142 (k := 18) (by decide) (by decide)).symm
    have m156 := (m116).trans (MF.i mf142 (k := 1) (by decide) (by decide)).symm
    have m157 := (m118).trans (MF.i mf142 (k := 2) (by decide) (by decide)).symm
    have m158 := (m120).trans (MF.i mf142 (k := 3) (by decide) (by decide)).symm
    have m159 := (m122).trans (MF.i mf142 (k := 59) (by decide) (by decide)).symm
    have m160 := (m124).trans (MF.i mf142 (k := 62) (by decide) (by decide)).symm
    have m161 := (m126).trans (MF.i mf142 (k := 65) (by decide) (by decide)).symm
    have m162 := (m128).trans (MF.r mf142 (k := 17) (by decide) (by decide)).symm
    have m163 := (m129).trans (MF.i mf142 (k := 70) (by decide) (by decide)).symm
    have m164 := (m131).trans (MF.r mf142 (k := 73) (by decide) (by decide)).symm
    refine W.eq (g2 := F0 m 356 ls [.int x137]) rfl ?_
    have re165 : RE K H136 w b s1.toInt := RE.ref re132 hTH104 gw gb (fun k hk => MF.r mf142 (by omega) (by intro z; simp only [List.mem_cons, List.not_mem_nil, or_false] at z; omega)) (fun q t hq ht => x_lt hTH104 kH136 hq (by first | exact nmr ht (by decide) | exact nmo ht (by decide) | exact nme ht (by decide) | exact nmq ht (by decide) | decide | (intro z; simp only [List.mem_cons, List.not_mem_nil, or_false] at z <;> omega) | omega))
    refine lv_pop hx hb dL_law_356 rfl ?_
    refine lv_goto (tgt := 1509) hx hb dL_law_357 (by decide) ?_
    exact nx G H136 locsH136 _ _ ls ⟨hTH136, hN, ga, gb, g138, g139, g140, g141, ⟨(by rw [← m146, ← m155]; exact rt), (by rw [← m145, ← m147, ← m156]; exact r1), (by rw [← m145, ← m148, ← m157]; exact r4), (by rw [← m145, ← m149, ← m158]; exact r5), (by rw [← m145, ← m150, ← m159]; exact r10), (by rw [← m145, ← m151, ← m160]; exact r13), (by rw [← m145, ← m152, ← m161]; exact r16)⟩, Or.inl ⟨m154, (by rw [← m163]; exact h70)⟩, (by unfold TB; rw [← m153, ← m162, ← m155]; exact TBR.of htr f143 f144 (by omega)), (by unfold RELE; rw [← m145, ← m156, ← m149]; exact ⟨RE.cast re165 (by omega), by omega, by omega⟩), hSH136⟩ hl ⟨hc, hs, fun _ => ⟨hc0, hs0⟩⟩
  · skip
    obtain ⟨hi, ehi⟩ : ∃ z : Int32, z = fI H b (K.1.2 10 70) := ⟨_, rfl⟩
    rw [← ehi] at h70
    obtain ⟨iq, eiq⟩ : ∃ z : Nat, z = fR H b (K.1.2 10 73) := ⟨_, rfl⟩
    have giq := ty_fr (q := iq) (k := 73) (u := 162) eiq hT gb rg_112 rfl
    rw [← eiq] at q1 q4 q5 q10 q13 q16
    obtain ⟨k1, ek1⟩ : ∃ z : Int32, z = fI H kq (K.1.2 8 1) := ⟨_, rfl⟩
    rw [← ek1] at q1
    obtain ⟨i1, ei1⟩ : ∃ z : Int32, z = fI H iq ((0 : Int32).toNatClampNeg) := ⟨_, rfl⟩
    rw [← ei1] at q1
    obtain ⟨k4, ek4⟩ : ∃ z : Int32, z = fI H kq (K.1.2 8 4) := ⟨_, rfl⟩
    rw [← ek4] at q4
    obtain ⟨i4, ei4⟩ : ∃ z : Int32, z = fI H iq ((1 : Int32).toNatClampNeg) := ⟨_, rfl⟩
    rw [← ei4] at q4
    obtain ⟨k5, ek5⟩ : ∃ z : Int32, z = fI H kq (K.1.2 8 5) := ⟨_, rfl⟩
    rw [← ek5] at q5
    obtain ⟨i5, ei5⟩ : ∃ z : Int32, z = fI H iq ((2 : Int32).toNatClampNeg) := ⟨_, rfl⟩
    rw [← ei5] at q5
    obtain ⟨k10, ek10⟩ : ∃ z : Int32, z = fI H kq (K.1.2 8 10) := ⟨_, rfl⟩
    rw [← ek10] at q10
    obtain ⟨i10, ei10⟩ : ∃ z : Int32, z = fI H iq ((3 : Int32).toNatClampNeg) := ⟨_, rfl⟩
    rw [← ei10] at q10
    obtain ⟨k13, ek13⟩ : ∃ z : Int32, z = fI H kq (K.1.2 8 13) := ⟨_, rfl⟩
    rw [← ek13] at q13
    obtain ⟨i13, ei13⟩ : ∃ z : Int32, z = fI H iq ((4 : Int32).toNatClampNeg) := ⟨_, rfl⟩
    rw [← ei13] at q13
    obtain ⟨k16, ek16⟩ : ∃ z : Int32, z = fI H kq (K.1.2 8 16) := ⟨_, rfl⟩
    rw [← ek16] at q16
    obtain ⟨i16, ei16⟩ : ∃ z : Int32, z = fI H iq ((5 : Int32).toNatClampNeg) := ⟨_, rfl⟩
    rw [← ei16] at q16
    rw [← eiq, ← ek1] at rke
    have hsk : 0 ≤ k5.toInt ∧ k5.toInt ≤ 9999 := by rw [ek5]; exact ⟨ks1, ks2⟩
    refine lv_aload_n hx hb dL_law_317 rfl (lv_at hl 2 rfl) ?_
    refine lv_aload_n hx hb dL_law_318 rfl (lv_at hl 3 rfl) ?_
    refine lv_iload_n hx hb dL_law_319 rfl (lv_at hl 0 rfl) ?_
    refine lv_iconst (v := 1) hx hb dL_law_320 (by decide) ?_
    refine lv_iadd hx hb dL_law_321 ?_
    refine lv_topi (fun x166 ex166 => ?_)
    obtain ⟨tx166, ejx166, evx166⟩ := lw_ix (k := 1) ex166 hI hL rfl (by decide)
    clear tx166
    refine va_sld hx hb hX hbl (Nat.not_le.mpr hbl) hS (vp_in_iff.mpr evx166) dL_law_322 ?_
    refine W.eq (g2 := F0 m 323 ls [.int (xs (i.toNatClampNeg + 1)), .ref a]) (congrArg (fun z => F0 m 323 ls [.int (xs z), .ref a]) ejx166) ?_
    refine lv_aload_n hx hb dL_law_323 rfl (lv_at hl 3 rfl) ?_
    refine lv_iload_n hx hb dL_law_324 rfl (lv_at hl 0 rfl) ?_
    refine lv_iconst (v := 2) hx hb dL_law_325 (by decide) ?_
    refine lv_iadd hx hb dL_law_326 ?_
    refine lv_topi (fun x167 ex167 => ?_)
    obtain ⟨tx167, ejx167, evx167⟩ := lw_ix (k := 2) ex167 hI hL rfl (by decide)
    clear tx167
    refine va_sld hx hb hX hbl (Nat.not_le.mpr hbl) hS (vp_in_iff.mpr evx167) dL_law_327 ?_
    refine W.eq (g2 := F0 m 328 ls [.int (xs (i.toNatClampNeg + 2)), .int (xs (i.toNatClampNeg + 1)), .ref a]) (congrArg (fun z => F0 m 328 ls [.int (xs z), .int (xs (i.toNatClampNeg + 1)), .ref a]) ejx167) ?_
    refine lv_aload_n hx hb dL_law_328 rfl (lv_at hl 3 rfl) ?_
    refine lv_iload_n hx hb dL_law_329 rfl (lv_at hl 0 rfl) ?_
    refine lv_iconst (v := 3) hx hb dL_law_330 (by decide) ?_
    refine lv_iadd hx hb dL_law_331 ?_
    refine lv_topi (fun x168 ex168 => ?_)
    obtain ⟨tx168, ejx168, evx168⟩ := lw_ix (k := 3) ex168 hI hL rfl (by decide)
    clear tx168
    refine va_sld hx hb hX hbl (Nat.not_le.mpr hbl) hS (vp_in_iff.mpr evx168) dL_law_332 ?_
    refine W.eq (g2 := F0 m 333 ls [.int (xs (i.toNatClampNeg + 3)), .int (xs (i.toNatClampNeg + 2)), .int (xs (i.toNatClampNeg + 1)), .ref a]) (congrArg (fun z => F0 m 333 ls [.int (xs z), .int (xs (i.toNatClampNeg + 2)), .int (xs (i.toNatClampNeg + 1)), .ref a]) ejx168) ?_
    refine x_V (As := [.int (xs (i.toNatClampNeg + 1)), .int (xs (i.toNatClampNeg + 2)), .int (xs (i.toNatClampNeg + 3))]) (rest := []) C (a_X9_of l K G H ((xs (i.toNatClampNeg + 1))) ((xs (i.toNatClampNeg + 2))) ((xs (i.toNatClampNeg + 3))) hT ga) yo_X9_of wM_L_28 ⟨⟨by decide, by decide⟩, show _ ≤ 60000 from Nat.le_trans hc (by decide), show _ ≤ 8922250 from Nat.le_trans hs (by decide)⟩ (x_rv C hT (ci := 9) rfl ga rg_68) rfl hl.1 rfl (Nat.le_of_ble_eq_true rfl) dL_law_333 hS (AE_new hN hS.1) (fun vH169 H169 locsH169 pH169 zH169 kH169 hSH169 => ?_)
    obtain ⟨x170, hvH169, hTH169⟩ := pH169
    subst hvH169
    have g171 : CG (avw K H169 b) := CG.congr (fun k hk j => av_eff hT kH169 gb (by decide) (CG_eff [] (by decide) k hk)) cg
    have g172 : TU (avw K H169 b) (svw K H169 b) := TU.congr (fun k hk j => av_eff hT kH169 gb (by decide) (TU_eff [] (by decide) k hk)) (fun k hk => sv_eff hT kH169 gb (by decide)) tu
    have g173 : WD (avw K H169 b) := WD.congr (fun k hk j => av_eff hT kH169 gb (by decide) (WD_eff [] (by decide) k hk)) wd
    have g174 : IM (avw K H169 b) := IM.congr (fun k hk j => av_eff hT kH169 gb (by decide) (IM_eff [] (by decide) k hk)) im
    have f175 : ∀ j : Nat, fI H169 tq j = fI H tq j := fun j => (fI_kept (x_lt hT kH169 gtq (by decide))).trans (ft0 j)
    have f176 : ∀ j : Nat, fI H169 uq j = fI H uq j := fun j => (fI_kept (x_lt hT kH169 guq (by decide))).trans (fu0 j)
    have m177 := (ew).trans (fR_kept (x_lt hT kH169 ga (by decide))).symm
    have m178 := (eta).trans (fI_kept (x_lt hT kH169 ga (by decide))).symm
    have m179 := (etb).trans (fI_kept (x_lt hT kH169 gb (by decide))).symm
    have m180 := (es1).trans (fI_kept (x_lt hT kH169 gw (by decide))).symm
    have m181 := (ey1).trans (fI_kept (x_lt hT kH169 gb (by decide))).symm
    have m182 := (es4).trans (fI_kept (x_lt hT kH169 gw (by decide))).symm
    have m183 := (ey4).trans (fI_kept (x_lt hT kH169 gb (by decide))).symm
    have m184 := (es5).trans (fI_kept (x_lt hT kH169 gw (by decide))).symm
    have m185 := (ey5).trans (fI_kept (x_lt hT kH169 gb (by decide))).symm
    have m186 := (es10).trans (fI_kept (x_lt hT kH169 gw (by decide))).symm
    have m187 := (ey10).trans (fI_kept (x_lt hT kH169 gb (by decide))).symm
    have m188 := (es13).trans (fI_kept (x_lt hT kH169 gw (by decide))).symm
    have m189 := (ey13).trans (fI_kept (x_lt hT kH169 gb (by decide))).symm
    have m190 := (es16).trans (fI_kept (x_lt hT kH169 gw (by decide))).symm
    have m191 := (ey16).trans (fI_kept (x_lt hT kH169 gb (by decide))).symm
    have m192 := (etq).trans (fR_kept (x_lt hT kH169 ga (by decide))).symm
    have m193 := (euq).trans (fR_kept (x_lt hT kH169 gb (by decide))).symm
    have m194 := (ehi).trans (fI_kept (x_lt hT kH169 gb (by decide))).symm
    have m195 := (fV_kept (x_lt hT kH169 ga (by decide))).trans kn
    have m196 := (eiq).trans (fR_kept (x_lt hT kH169 gb (by decide))).symm
    have m197 := (ek1).trans (fI_kept (x_lt hT kH169 gkq (by decide))).symm
    have m198 := (ei1).trans (fI_kept (x_lt hT kH169 giq (by decide))).symm
    have m199 := (ek4).trans (fI_kept (x_lt hT kH169 gkq (by decide))).symm
    have m200 := (ei4).trans (fI_kept (x_lt hT kH169 giq (by decide))).symm
    have m201 := (ek5).trans (fI_kept (x_lt hT kH169 gkq (by decide))).symm
    have m202 := (ei5).trans (fI_kept (x_lt hT kH169 giq (by decide))).symm
    have m203 := (ek10).trans (fI_kept (x_lt hT kH169 gkq (by decide))).symm
    have m204 := (ei10).trans (fI_kept (x_lt hT kH169 giq (by decide))).symm
    have m205 := (ek13).trans (fI_kept (x_lt hT kH169 gkq (by decide))).symm
    have m206 := (ei13).trans (fI_kept (x_lt hT kH169 giq (by decide))).symm
    have m207 := (ek16).trans (fI_kept (x_lt hT kH169 gkq (by decide))).symm
    have m208 := (ei16).trans (fI_kept (x_lt hT kH169 giq (by decide))).symm
    refine W.eq (g2 := F0 m 336 ls [.int x170]) rfl ?_
    have rk209 : RKI K H169 kq iq k1.toInt := RKI.kept rke hT gkq (x_lt hT kH169 giq (by first | exact nmr ht (by decide) | exact nmo ht (by decide) | exact nme ht (by decide) | exact nmq ht (by decide) | decide | (intro z; simp only [List.mem_cons, List.not_mem_nil, or_false] at z <;> omega) | omega)) (fun q t hq ht => x_lt hT kH169 hq (by first | exact nmr ht (by decide) | exact nmo ht (by decide) | exact nme ht (by decide) | exact nmq ht (by decide) | decide | (intro z; simp only [List.mem_cons, List.not_mem_nil, or_false] at z <;> omega) | omega))
    have re210 : RE K H169 w b s1.toInt := RE.cls re hT gw gb (fun q t hq ht => x_lt hT kH169 hq (by first | exact nmr ht (by decide) | exact nmo ht (by decide) | exact nme ht (by decide) | exact nmq ht (by decide) | decide | (intro z; simp only [List.mem_cons, List.not_mem_nil, or_false] at z <;> omega) | omega))
    refine lv_pop hx hb dL_law_336 rfl ?_
    refine lv_aload_n hx hb dL_law_337 rfl (lv_at hl 1 rfl) ?_
    refine lv_aload_n hx hb dL_law_338 rfl (lv_at hl 3 rfl) ?_
    refine lv_iload_n hx hb dL_law_339 rfl (lv_at hl 0 rfl) ?_
    refine lv_iconst (v := 1) hx hb dL_law_340 (by decide) ?_
    refine lv_iadd hx hb dL_law_341 ?_
    refine lv_topi (fun x211 ex211 => ?_)
    obtain ⟨tx211, ejx211, evx211⟩ := lw_ix (k := 1) ex211 hI hL rfl (by decide)
    clear tx211
    refine va_sld hx hb hX hbl (Nat.not_le.mpr hbl) hSH169 (vp_in_iff.mpr evx211) dL_law_342 ?_
    refine W.eq (g2 := F0 m 343 ls [.int (xs (i.toNatClampNeg + 1)), .ref b]) (congrArg (fun z => F0 m 343 ls [.int (xs z), .ref b]) ejx211) ?_
    refine lv_aload_n hx hb dL_law_343 rfl (lv_at hl 3 rfl) ?_
    refine lv_iload_n hx hb dL_law_344 rfl (lv_at hl 0 rfl) ?_
    refine lv_iconst (v := 2) hx hb dL_law_345 (by decide) ?_
    refine lv_iadd hx hb dL_law_346 ?_
    refine lv_topi (fun x212 ex212 => ?_)
    obtain ⟨tx212, ejx212, evx212⟩ := lw_ix (k := 2) ex212 hI hL rfl (by decide)
    clear tx212
    refine va_sld hx hb hX hbl (Nat.not_le.mpr hbl) hSH169 (vp_in_iff.mpr evx212) dL_law_347 ?_
    refine W.eq (g2 := F0 m 348 ls [.int (xs (i.toNatClampNeg + 2)), .int (xs (i.toNatClampNeg + 1)), .ref b]) (congrArg (fun z => F0 m 348 ls [.int (xs z), .int (xs (i.toNatClampNeg + 1)), .ref b]) ejx212) ?_
    refine lv_aload_n hx hb dL_law_348 rfl (lv_at hl 3 rfl) ?_
    refine lv_iload_n hx hb dL_law_349 rfl (lv_at hl 0 rfl) ?_
    refine lv_iconst (v := 3) hx hb dL_law_350 (by decide) ?_
    refine lv_iadd hx hb dL_law_351 ?_
    refine lv_topi (fun x213 ex213 => ?_)
    obtain ⟨tx213, ejx213, evx213⟩ := lw_ix (k := 3) ex213 hI hL rfl (by decide)
    clear tx213
    refine va_sld hx hb hX hbl (Nat.not_le.mpr hbl) hSH169 (vp_in_iff.mpr evx213) dL_law_352 ?_
    refine W.eq (g2 := F0 m 353 ls [.int (xs (i.toNatClampNeg + 3)), .int (xs (i.toNatClampNeg + 2)), .int (xs (i.toNatClampNeg + 1)), .ref b]) (congrArg (fun z => F0 m 353 ls [.int (xs z), .int (xs (i.toNatClampNeg + 2)), .int (xs (i.toNatClampNeg + 1)), .ref b]) ejx213) ?_
    refine x_V (As := [.int (xs (i.toNatClampNeg + 1)), .int (xs (i.toNatClampNeg + 2)), .int (xs (i.toNatClampNeg + 3))]) (rest := []) C (a_X10_of l K G H169 ((xs (i.toNatClampNeg + 1))) ((xs (i.toNatClampNeg + 2))) ((xs (i.toNatClampNeg + 3))) hTH169 gb g171 g172 g173 g174) yo_X10_of wM_L_32 ⟨⟨by decide, by decide⟩, show _ ≤ 60000 from Nat.le_trans hc (by decide), show _ ≤ 8922250 from Nat.le_trans hs (by decide)⟩ (x_rv C hTH169 (ci := 10) rfl gb rg_112) rfl hl.1 rfl (Nat.le_of_ble_eq_true rfl) dL_law_353 hSH169 (AE_new hN hSH169.1) (fun vH214 H214 locsH214 pH214 zH214 kH214 hSH214 => ?_)
    obtain ⟨x215, hvH214, g216, g217, g218, g219, mf220, hTH214⟩ := pH214
    subst hvH214
    have f221 : ∀ j : Nat, fI H214 tq j = fI H tq j := fun j => (fI_kept (x_lt hTH169 kH214 gtq (by decide))).trans (f175 j)
    have f222 : ∀ j : Nat, fI H214 uq j = fI H uq j := fun j => (fI_kept (x_lt hTH169 kH214 guq (by decide))).trans (f176 j)
    have m223 := (m177).trans (fR_kept (x_lt hTH169 kH214 ga (by decide))).symm
    have m224 := (m178).trans (fI_kept (x_lt hTH169 kH214 ga (by decide))).symm
    have m225 := (m180).trans (fI_kept (x_lt hTH169 kH214 gw (by decide))).symm
    have m226 := (m182).trans (fI_kept (x_lt hTH169 kH214 gw (by decide))).symm
    have m227 := (m184).trans (fI_kept (x_lt hTH169 kH214 gw (by decide))).symm
    have m228 := (m186).trans (fI_kept (x_lt hTH169 kH214 gw (by decide))).symm
    have m229 := (m188).trans (fI_kept (x_lt hTH169 kH214 gw (by decide))).symm
    have m230 := (m190).trans (fI_kept (x_lt hTH169 kH214 gw (by decide))).symm
    have m231 := (m192).trans (fR_kept (x_lt hTH169 kH214 ga (by decide))).symm
    have m232 := (fV_kept (x_lt hTH169 kH214 ga (by decide))).trans m195
    have m233 := (m197).trans (fI_kept (x_lt hTH169 kH214 gkq (by decide))).symm
    have m234 := (m198).trans (fI_kept (x_lt hTH169 kH214 giq (by decide))).symm
    have m235 := (m199).trans (fI_kept (x_lt hTH169 kH214 gkq (by decide))).symm
    have m236 := (m200).trans (fI_kept (x_lt hTH169 kH214 giq (by decide))).symm
    have m237 := (m201).trans (fI_kept (x_lt hTH169 kH214 gkq (by decide))).symm
    have m238 := (m202).trans (fI_kept (x_lt hTH169 kH214 giq (by decide))).symm
    have m239 := (m203).trans (fI_kept (x_lt hTH169 kH214 gkq (by decide))).symm
    have m240 := (m204).trans (fI_kept (x_lt hTH169 kH214 giq (by decide))).symm
    have m241 := (m205).trans (fI_kept (x_lt hTH169 kH214 gkq (by decide))).symm
    have m242 := (m206).trans (fI_kept (x_lt hTH169 kH214 giq (by decide))).symm
    have m243 := (m207).trans (fI_kept (x_lt hTH169 kH214 gkq (by decide))).symm
    have m244 := (m208).trans (fI_kept (x_lt hTH169 kH214 giq (by decide))).symm
    have m245 := (m179).trans (MF.i mf220 (k := 18) (by decide) (by decide)).symm
    have m246 := (m181).trans (MF.i mf220 (k := 1) (by decide) (by decide)).symm
    have m247 := (m183).trans (MF.i mf220 (k := 2) (by decide) (by decide)).symm
    have m248 := (m185).trans (MF.i mf220 (k := 3) (by decide) (by decide)).symm
    have m249 := (m187).trans (MF.i mf220 (k := 59) (by decide) (by decide)).symm
    have m250 := (m189).trans (MF.i mf220 (k := 62) (by decide) (by decide)).symm
    have m251 := (m191).trans (MF.i mf220 (k := 65) (by decide) (by decide)).symm
    have m252 := (m193).trans (MF.r mf220 (k := 17) (by decide) (by decide)).symm
    have m253 := (m194).trans (MF.i mf220 (k := 70) (by decide) (by decide)).symm
    have m254 := (m196).trans (MF.r mf220 (k := 73) (by decide) (by decide)).symm
    refine W.eq (g2 := F0 m 356 ls [.int x215]) rfl ?_
    have rk255 : RKI K H214 kq iq k1.toInt := RKI.kept rk209 hTH169 gkq (x_lt hTH169 kH214 giq (by first | exact nmr ht (by decide) | exact nmo ht (by decide) | exact nme ht (by decide) | exact nmq ht (by decide) | decide | (intro z; simp only [List.mem_cons, List.not_mem_nil, or_false] at z <;> omega) | omega)) (fun q t hq ht => x_lt hTH169 kH214 hq (by first | exact nmr ht (by decide) | exact nmo ht (by decide) | exact nme ht (by decide) | exact nmq ht (by decide) | decide | (intro z; simp only [List.mem_cons, List.not_mem_nil, or_false] at z <;> omega) | omega))
    have re256 : RE K H214 w b s1.toInt := RE.ref re210 hTH169 gw gb (fun k hk => MF.r mf220 (by omega) (by intro z; simp only [List.mem_cons, List.not_mem_nil, or_false] at z; omega)) (fun q t hq ht => x_lt hTH169 kH214 hq (by first | exact nmr ht (by decide) | exact nmo ht (by decide) | exact nme ht (by decide) | exact nmq ht (by decide) | decide | (intro z; simp only [List.mem_cons, List.not_mem_nil, or_false] at z <;> omega) | omega))
    refine lv_pop hx hb dL_law_356 rfl ?_
    refine lv_goto (tgt := 1509) hx hb dL_law_357 (by decide) ?_
    exact nx G H214 locsH214 _ _ ls ⟨hTH214, hN, ga, gb, g216, g217, g218, g219, ⟨(by rw [← m224, ← m245]; exact rt), (by rw [← m223, ← m225, ← m246]; exact r1), (by rw [← m223, ← m226, ← m247]; exact r4), (by rw [← m223, ← m227, ← m248]; exact r5), (by rw [← m223, ← m228, ← m249]; exact r10), (by rw [← m223, ← m229, ← m250]; exact r13), (by rw [← m223, ← m230, ← m251]; exact r16)⟩, Or.inr ⟨kq, m232, gkq, (by rw [← m253]; exact h70), (by rw [← m233, ← m254, ← m234]; exact q1), (by rw [← m235, ← m254, ← m236]; exact q4), (by rw [← m237, ← m254, ← m238]; exact q5), (by rw [← m239, ← m254, ← m240]; exact q10), (by rw [← m241, ← m254, ← m242]; exact q13), (by rw [← m243, ← m254, ← m244]; exact q16), (by rw [← m254, ← m233]; exact RKI.cast rk255 (by omega)), (by rw [← m237]; omega), (by rw [← m237]; omega)⟩, (by unfold TB; rw [← m231, ← m252, ← m245]; exact TBR.of htr f221 f222 (by omega)), (by unfold RELE; rw [← m223, ← m246, ← m227]; exact ⟨RE.cast re256 (by omega), by omega, by omega⟩), hSH214⟩ hl ⟨hc, hs, fun h => by have h1 := h.symm.trans m232; cases h1⟩