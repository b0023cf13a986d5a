set_option maxRecDepth 100000 in
set_option maxHeartbeats 8000000 in
theorem lw_c30 {p : Program} {l : Launch} {e : Env} {s : State} {m : MethodId} {below : List Frame} {meth : Method} {c : Code} {K : KE} {b0 L : Nat} {xs : Nat → Int32} {G : Nat → Option Nat} {H : Heap} {locs : List Loc} {a b : Nat} {cells slots : Nat} {ls : Array Slot} {i : Int32} {n : Nat} (D : LC p K s m meth c b0 L xs) (S : SX K s G H locs a b) (hl : lv_has ls 4 [(3, .int i), (2, .ref b), (1, .ref a), (0, .ref b0)]) (hi : 0 ≤ i.toInt ∧ i.toInt + 6 ≤ L) (hn : n ≤ 511) (hB : BD K H a cells slots) (nx : ∀ (G : Nat → Option Nat) (H : Heap) (locs : List Loc) (cells slots : Nat) (ls : Array Slot), SX K s G H locs a b → lv_has ls 4 [(3, .int i), (2, .ref b), (1, .ref a), (0, .ref b0)] → BD K H a cells slots → W p l e room_1 s m #[Value.ref b0] below meth c H locs cells slots (lw_Z below #[Value.ref b0] s) (F0 m 1509 ls [])) : W p l e room_1 s m #[Value.ref b0] below meth c H locs cells slots (lw_Z below #[Value.ref b0] s) (F0 m 1348 ls []) := by
  have hI := hi
  obtain ⟨C, hX, hbl, hL⟩ := id D
  obtain ⟨hx, hb, hml, hown, hts, hKT, hr, hlocks, hnm⟩ := id C
  obtain ⟨hT, hN, ga, gb, cg, tu, wd, im, ⟨rt, r1, r4, r5, r10, r13, r16⟩, hk, hnb, hS⟩ := S
  obtain ⟨hc, hs, hB0⟩ := hB
  have n_1 : (1 : Int32).toInt = 1 := rfl
  have n_2 : (2 : Int32).toInt = 2 := rfl
  obtain ⟨w, ew⟩ : ∃ z : Nat, z = fR H a (K.1.2 9 0) := ⟨_, rfl⟩
  have gw := ty_fr (q := w) (k := 0) (u := 0) ew hT ga rg_68 rfl
  rw [← ew] at r1 r4 r5 r10 r13 r16
  obtain ⟨ta, eta⟩ : ∃ z : Int32, z = fI H a (K.1.2 9 3) := ⟨_, rfl⟩
  rw [← eta] at rt
  obtain ⟨tb, etb⟩ : ∃ z : Int32, z = fI H b (K.1.2 10 18) := ⟨_, rfl⟩
  rw [← etb] at rt
  obtain ⟨s1, es1⟩ : ∃ z : Int32, z = fI H w (K.1.2 8 1) := ⟨_, rfl⟩
  rw [← es1] at r1
  obtain ⟨y1, ey1⟩ : ∃ z : Int32, z = fI H b (K.1.2 10 1) := ⟨_, rfl⟩
  rw [← ey1] at r1
  obtain ⟨s4, es4⟩ : ∃ z : Int32, z = fI H w (K.1.2 8 4) := ⟨_, rfl⟩
  rw [← es4] at r4
  obtain ⟨y4, ey4⟩ : ∃ z : Int32, z = fI H b (K.1.2 10 2) := ⟨_, rfl⟩
  rw [← ey4] at r4
  obtain ⟨s5, es5⟩ : ∃ z : Int32, z = fI H w (K.1.2 8 5) := ⟨_, rfl⟩
  rw [← es5] at r5
  obtain ⟨y5, ey5⟩ : ∃ z : Int32, z = fI H b (K.1.2 10 3) := ⟨_, rfl⟩
  rw [← ey5] at r5
  obtain ⟨s10, es10⟩ : ∃ z : Int32, z = fI H w (K.1.2 8 10) := ⟨_, rfl⟩
  rw [← es10] at r10
  obtain ⟨y10, ey10⟩ : ∃ z : Int32, z = fI H b (K.1.2 10 59) := ⟨_, rfl⟩
  rw [← ey10] at r10
  obtain ⟨s13, es13⟩ : ∃ z : Int32, z = fI H w (K.1.2 8 13) := ⟨_, rfl⟩
  rw [← es13] at r13
  obtain ⟨y13, ey13⟩ : ∃ z : Int32, z = fI H b (K.1.2 10 62) := ⟨_, rfl⟩
  rw [← ey13] at r13
  obtain ⟨s16, es16⟩ : ∃ z : Int32, z = fI H w (K.1.2 8 16) := ⟨_, rfl⟩
  rw [← es16] at r16
  obtain ⟨y16, ey16⟩ : ∃ z : Int32, z = fI H b (K.1.2 10 65) := ⟨_, rfl⟩
  rw [← ey16] at r16
  obtain ⟨hb1, hb2, hb3⟩ := hnb
  obtain ⟨cn, ecn⟩ : ∃ z : Nat, z = fR H w (K.1.2 8 12) := ⟨_, rfl⟩
  have gcn := ty_fr (q := cn) (k := 12) (u := 31) ecn hT gw rg_0 rfl
  obtain ⟨xn, exn⟩ : ∃ z : Nat, z = fR H b (K.1.2 10 64) := ⟨_, rfl⟩
  have gxn := ty_fr (q := xn) (k := 64) (u := 157) exn hT gb rg_112 rfl
  obtain ⟨cl, ecl⟩ : ∃ z : Nat, z = fR H w (K.1.2 8 14) := ⟨_, rfl⟩
  have gcl := ty_fr (q := cl) (k := 14) (u := 32) ecl hT gw rg_0 rfl
  obtain ⟨xl, exl⟩ : ∃ z : Nat, z = fR H b (K.1.2 10 66) := ⟨_, rfl⟩
  have gxl := ty_fr (q := xl) (k := 66) (u := 158) exl hT gb rg_112 rfl
  obtain ⟨ck, eck⟩ : ∃ z : Nat, z = fR H w (K.1.2 8 15) := ⟨_, rfl⟩
  have gck := ty_fr (q := ck) (k := 15) (u := 33) eck hT gw rg_0 rfl
  obtain ⟨xk, exk⟩ : ∃ z : Nat, z = fR H b (K.1.2 10 67) := ⟨_, rfl⟩
  have gxk := ty_fr (q := xk) (k := 67) (u := 159) exk hT gb rg_112 rfl
  have hrn : EQR (fun j => fI H cn j) (fun j => fI H xn j) y13.toInt := by rw [ecn, exn, ew, ey13]; exact hb1
  have hrl : EQR (fun j => fI H cl j) (fun j => fI H xl j) y16.toInt := by rw [ecl, exl, ew, ey16]; exact hb2
  have hrk : EQR (fun j => fI H ck j) (fun j => fI H xk j) y16.toInt := by rw [eck, exk, ew, ey16]; exact hb3
  have by13 := ty_fi (x := y13) (k := 62) ey13 hT gb rg_112 rfl
  have by16 := ty_fi (x := y16) (k := 65) ey16 hT gb rg_112 rfl
  have f0cn : ∀ j : Nat, j < 8 → fI H cn j = fI H cn j := fun _ _ => rfl
  have f0xn : ∀ j : Nat, j < 8 → fI H xn j = fI H xn j := fun _ _ => rfl
  have f0cl : ∀ j : Nat, j < 8 → fI H cl j = fI H cl j := fun _ _ => rfl
  have f0xl : ∀ j : Nat, j < 8 → fI H xl j = fI H xl j := fun _ _ => rfl
  have f0ck : ∀ j : Nat, j < 8 → fI H ck j = fI H ck j := fun _ _ => rfl
  have f0xk : ∀ j : Nat, j < 8 → fI H xk j = fI H xk j := fun _ _ => rfl
  rcases hk with ⟨kn, h70⟩ | ⟨kq, kn, gkq, h70, q1, q4, q5, q10, q13, q16, hq1, hq2, hq3⟩
  · skip
    obtain ⟨hi, ehi⟩ : ∃ z : Int32, z = fI H b (K.1.2 10 70) := ⟨_, rfl⟩
    rw [← ehi] at h70
    obtain ⟨hc0, hs0⟩ := hB0 kn
    refine lv_aload_n hx hb dL_law_1348 rfl (lv_at hl 2 rfl) ?_
    refine lv_aload_n hx hb dL_law_1349 rfl (lv_at hl 3 rfl) ?_
    refine lv_iload_n hx hb dL_law_1350 rfl (lv_at hl 0 rfl) ?_
    refine lv_iconst (v := 1) hx hb dL_law_1351 (by decide) ?_
    refine lv_iadd hx hb dL_law_1352 ?_
    refine lv_topi (fun x101 ex101 => ?_)
    obtain ⟨tx101, ejx101, evx101⟩ := lw_ix (k := 1) ex101 hI hL rfl (by decide)
    clear tx101
    refine va_sld hx hb hX hbl (Nat.not_le.mpr hbl) hS (vp_in_iff.mpr evx101) dL_law_1353 ?_
    refine W.eq (g2 := F0 m 1354 ls [.int (xs (i.toNatClampNeg + 1)), .ref a]) (congrArg (fun z => F0 m 1354 ls [.int (xs z), .ref a]) ejx101) ?_
    refine lv_aload_n hx hb dL_law_1354 rfl (lv_at hl 3 rfl) ?_
    refine lv_iload_n hx hb dL_law_1355 rfl (lv_at hl 0 rfl) ?_
    refine lv_iconst (v := 2) hx hb dL_law_1356 (by decide) ?_
    refine lv_iadd hx hb dL_law_1357 ?_
    refine lv_topi (fun x102 ex102 => ?_)
    obtain ⟨tx102, ejx102, evx102⟩ := lw_ix (k := 2) ex102 hI hL rfl (by decide)
    clear tx102
    refine va_sld hx hb hX hbl (Nat.not_le.mpr hbl) hS (vp_in_iff.mpr evx102) dL_law_1358 ?_
    refine W.eq (g2 := F0 m 1359 ls [.int (xs (i.toNatClampNeg + 2)), .int (xs (i.toNatClampNeg + 1)), .ref a]) (congrArg (fun z => F0 m 1359 ls [.int (xs z), .int (xs (i.toNatClampNeg + 1)), .ref a]) ejx102) ?_
    have bt103 : ∀ j : Nat, (fun j => (fI H cn j).toInt) j = (fI H cn j).toInt := fun _ => rfl
    have rg104 : ∀ j : Nat, j < s13.toNatClampNeg → 0 ≤ (fun j => (fI H cn j).toInt) j ∧ (fun j => (fI H cn j).toInt) j ≤ 99 := fun j hj => by have c_ := i_cl (x := s13) (by omega); have q_ := hrn j (by omega); show 0 ≤ (fI H cn j).toInt ∧ (fI H cn j).toInt ≤ 99; rw [f0cn j (by omega)]; have e_ : fI H cn j = fI H xn j := q_.1; rw [e_]; exact q_.2
    have bt105 : ∀ j : Nat, (fun j => (fI H cl j).toInt) j = (fI H cl j).toInt := fun _ => rfl
    have rg106 : ∀ j : Nat, j < s16.toNatClampNeg → 0 ≤ (fun j => (fI H cl j).toInt) j ∧ (fun j => (fI H cl j).toInt) j ≤ 99 := fun j hj => by have c_ := i_cl (x := s16) (by omega); have q_ := hrl j (by omega); show 0 ≤ (fI H cl j).toInt ∧ (fI H cl j).toInt ≤ 99; rw [f0cl j (by omega)]; have e_ : fI H cl j = fI H xl j := q_.1; rw [e_]; exact q_.2
    have bt107 : ∀ j : Nat, (fun j => (fI H ck j).toInt) j = (fI H ck j).toInt := fun _ => rfl
    have rg108 : ∀ j : Nat, j < s16.toNatClampNeg → 0 ≤ (fun j => (fI H ck j).toInt) j ∧ (fun j => (fI H ck j).toInt) j ≤ 99 := fun j hj => by have c_ := i_cl (x := s16) (by omega); have q_ := hrk j (by omega); show 0 ≤ (fI H ck j).toInt ∧ (fI H ck j).toInt ≤ 99; rw [f0ck j (by omega)]; have e_ : fI H ck j = fI H xk j := q_.1; rw [e_]; exact q_.2
    obtain ⟨q109, eq109⟩ : ∃ z : Nat, z = fR H a (K.1.2 9 8) := ⟨_, rfl⟩
    have gq109 := ty_fr (q := q109) (k := 8) (u := 104) eq109 hT ga rg_68 rfl
    obtain ⟨q110, eq110⟩ : ∃ z : Nat, z = fR H q109 (K.1.2 5 0) := ⟨_, rfl⟩
    have gq110 := ty_fr (q := q110) (k := 0) (u := 105) eq110 hT gq109 rg_104 rfl
    refine x_V (As := [.int (xs (i.toNatClampNeg + 1)), .int (xs (i.toNatClampNeg + 2))]) (rest := []) C (a_X9_set_e l K G H ((xs (i.toNatClampNeg + 1))) ((xs (i.toNatClampNeg + 2))) (s13) (s16) (fun j => (fI H cn j).toInt) (fun j => (fI H cl j).toInt) (fun j => (fI H ck j).toInt) hT ga gw ew gq109 eq109 gq110 eq110 gcn ecn gcl ecl gck eck es13 es16 (rg104) (rg106) (rg108) bt103 bt105 bt107) yo_X9_set wM_L_141 ⟨⟨by decide, by decide⟩, show _ ≤ 284929 from Nat.le_trans hc (by decide), show _ ≤ 8247460 from Nat.le_trans hs (by decide)⟩ (x_rv C hT (ci := 9) rfl ga rg_68) rfl hl.1 rfl (Nat.le_of_ble_eq_true rfl) dL_law_1359 hS (AE_new hN hS.1) (fun vH111 H111 locsH111 pH111 zH111 kH111 hSH111 => ?_)
    obtain ⟨x112, hvH111, m113, m114, hTH111⟩ := pH111
    subst hvH111
    have g115 : CG (avw K H111 b) := CG.congr (fun k hk j => av_eff hT kH111 gb (by decide) (CG_eff [104, 105, 106, 107] (by decide) k hk)) cg
    have g116 : TU (avw K H111 b) (svw K H111 b) := TU.congr (fun k hk j => av_eff hT kH111 gb (by decide) (TU_eff [104, 105, 106, 107] (by decide) k hk)) (fun k hk => sv_eff hT kH111 gb (by decide)) tu
    have g117 : WD (avw K H111 b) := WD.congr (fun k hk j => av_eff hT kH111 gb (by decide) (WD_eff [104, 105, 106, 107] (by decide) k hk)) wd
    have g118 : IM (avw K H111 b) := IM.congr (fun k hk j => av_eff hT kH111 gb (by decide) (IM_eff [104, 105, 106, 107] (by decide) k hk)) im
    have f119 : ∀ j : Nat, j < 8 → fI H111 cn j = fI H cn j := fun j hj => (fI_kept (x_lt hT kH111 gcn (by decide))).trans (f0cn j hj)
    have f120 : ∀ j : Nat, j < 8 → fI H111 xn j = fI H xn j := fun j hj => (fI_kept (x_lt hT kH111 gxn (by decide))).trans (f0xn j hj)
    have f121 : ∀ j : Nat, j < 8 → fI H111 cl j = fI H cl j := fun j hj => (fI_kept (x_lt hT kH111 gcl (by decide))).trans (f0cl j hj)
    have f122 : ∀ j : Nat, j < 8 → fI H111 xl j = fI H xl j := fun j hj => (fI_kept (x_lt hT kH111 gxl (by decide))).trans (f0xl j hj)
    have f123 : ∀ j : Nat, j < 8 → fI H111 ck j = fI H ck j := fun j hj => (fI_kept (x_lt hT kH111 gck (by decide))).trans (f0ck j hj)
    have f124 : ∀ j : Nat, j < 8 → fI H111 xk j = fI H xk j := fun j hj => (fI_kept (x_lt hT kH111 gxk (by decide))).trans (f0xk j hj)
    have f125 : ∀ j : Nat, (fun j => (fI H cn j).toInt) j = (fI H111 cn j).toInt := fun j => (bt103 j).trans (congrArg Int32.toInt (fI_kept (x_lt hT kH111 gcn (by decide))).symm)
    have f126 : ∀ j : Nat, (fun j => (fI H cl j).toInt) j = (fI H111 cl j).toInt := fun j => (bt105 j).trans (congrArg Int32.toInt (fI_kept (x_lt hT kH111 gcl (by decide))).symm)
    have f127 : ∀ j : Nat, (fun j => (fI H ck j).toInt) j = (fI H111 ck j).toInt := fun j => (bt107 j).trans (congrArg Int32.toInt (fI_kept (x_lt hT kH111 gck (by decide))).symm)
    have m128 := (ew).trans (fR_kept (x_lt hT kH111 ga (by decide))).symm
    have m129 := (eta).trans (fI_kept (x_lt hT kH111 ga (by decide))).symm
    have m130 := (etb).trans (fI_kept (x_lt hT kH111 gb (by decide))).symm
    have m131 := (es1).trans (fI_kept (x_lt hT kH111 gw (by decide))).symm
    have m132 := (ey1).trans (fI_kept (x_lt hT kH111 gb (by decide))).symm
    have m133 := (es4).trans (fI_kept (x_lt hT kH111 gw (by decide))).symm
    have m134 := (ey4).trans (fI_kept (x_lt hT kH111 gb (by decide))).symm
    have m135 := (es5).trans (fI_kept (x_lt hT kH111 gw (by decide))).symm
    have m136 := (ey5).trans (fI_kept (x_lt hT kH111 gb (by decide))).symm
    have m137 := (es10).trans (fI_kept (x_lt hT kH111 gw (by decide))).symm
    have m138 := (ey10).trans (fI_kept (x_lt hT kH111 gb (by decide))).symm
    have m139 := (es13).trans (fI_kept (x_lt hT kH111 gw (by decide))).symm
    have m140 := (ey13).trans (fI_kept (x_lt hT kH111 gb (by decide))).symm
    have m141 := (es16).trans (fI_kept (x_lt hT kH111 gw (by decide))).symm
    have m142 := (ey16).trans (fI_kept (x_lt hT kH111 gb (by decide))).symm
    have m143 := (ecn).trans (fR_kept (x_lt hT kH111 gw (by decide))).symm
    have m144 := (exn).trans (fR_kept (x_lt hT kH111 gb (by decide))).symm
    have m145 := (ecl).trans (fR_kept (x_lt hT kH111 gw (by decide))).symm
    have m146 := (exl).trans (fR_kept (x_lt hT kH111 gb (by decide))).symm
    have m147 := (eck).trans (fR_kept (x_lt hT kH111 gw (by decide))).symm
    have m148 := (exk).trans (fR_kept (x_lt hT kH111 gb (by decide))).symm
    have m149 := (ehi).trans (fI_kept (x_lt hT kH111 gb (by decide))).symm
    have m150 := (fV_kept (x_lt hT kH111 ga (by decide))).trans kn
    have m151 := (eq109).trans (fR_kept (x_lt hT kH111 ga (by decide))).symm
    refine W.eq (g2 := F0 m 1362 ls [.int x112]) rfl ?_
    clear eck ecl ecn ehi es1 es10 es13 es16 es4 es5 eta etb ew exk exl exn ey1 ey10 ey13 ey16 ey4 ey5 kn
    refine lv_aload_n hx hb dL_law_1362 rfl (lv_at hl 1 rfl) ?_
    refine lv_aload_n hx hb dL_law_1363 rfl (lv_at hl 3 rfl) ?_
    refine lv_iload_n hx hb dL_law_1364 rfl (lv_at hl 0 rfl) ?_
    refine lv_iconst (v := 1) hx hb dL_law_1365 (by decide) ?_
    refine lv_iadd hx hb dL_law_1366 ?_
    refine lv_topi (fun x152 ex152 => ?_)
    obtain ⟨tx152, ejx152, evx152⟩ := lw_ix (k := 1) ex152 hI hL rfl (by decide)
    clear tx152
    refine va_sld hx hb hX hbl (Nat.not_le.mpr hbl) hSH111 (vp_in_iff.mpr evx152) dL_law_1367 ?_
    refine W.eq (g2 := F0 m 1368 ls [.int (xs (i.toNatClampNeg + 1)), .ref b, .int x112]) (congrArg (fun z => F0 m 1368 ls [.int (xs z), .ref b, .int x112]) ejx152) ?_
    refine lv_aload_n hx hb dL_law_1368 rfl (lv_at hl 3 rfl) ?_
    refine lv_iload_n hx hb dL_law_1369 rfl (lv_at hl 0 rfl) ?_
    refine lv_iconst (v := 2) hx hb dL_law_1370 (by decide) ?_
    refine lv_iadd hx hb dL_law_1371 ?_
    refine lv_topi (fun x153 ex153 => ?_)
    obtain ⟨tx153, ejx153, evx153⟩ := lw_ix (k := 2) ex153 hI hL rfl (by decide)
    clear tx153
    refine va_sld hx hb hX hbl (Nat.not_le.mpr hbl) hSH111 (vp_in_iff.mpr evx153) dL_law_1372 ?_
    refine W.eq (g2 := F0 m 1373 ls [.int (xs (i.toNatClampNeg + 2)), .int (xs (i.toNatClampNeg + 1)), .ref b, .int x112]) (congrArg (fun z => F0 m 1373 ls [.int (xs z), .int (xs (i.toNatClampNeg + 1)), .ref b, .int x112]) ejx153) ?_
    have bt154 : ∀ j : Nat, (fun j => (fI H111 xn j).toInt) j = (fI H111 xn j).toInt := fun _ => rfl
    have rg155 : ∀ j : Nat, j < y13.toNatClampNeg → 0 ≤ (fun j => (fI H111 xn j).toInt) j ∧ (fun j => (fI H111 xn j).toInt) j ≤ 99 := fun j hj => by have c_ := i_cl (x := y13) (by omega); have q_ := hrn j (by omega); show 0 ≤ (fI H111 xn j).toInt ∧ (fI H111 xn j).toInt ≤ 99; rw [f120 j (by omega)]; exact q_.2
    have bt156 : ∀ j : Nat, (fun j => (fI H111 xl j).toInt) j = (fI H111 xl j).toInt := fun _ => rfl
    have rg157 : ∀ j : Nat, j < y16.toNatClampNeg → 0 ≤ (fun j => (fI H111 xl j).toInt) j ∧ (fun j => (fI H111 xl j).toInt) j ≤ 99 := fun j hj => by have c_ := i_cl (x := y16) (by omega); have q_ := hrl j (by omega); show 0 ≤ (fI H111 xl j).toInt ∧ (fI H111 xl j).toInt ≤ 99; rw [f122 j (by omega)]; exact q_.2
    have bt158 : ∀ j : Nat, (fun j => (fI H111 xk j).toInt) j = (fI H111 xk j).toInt := fun _ => rfl
    have rg159 : ∀ j : Nat, j < y16.toNatClampNeg → 0 ≤ (fun j => (fI H111 xk j).toInt) j ∧ (fun j => (fI H111 xk j).toInt) j ≤ 99 := fun j hj => by have c_ := i_cl (x := y16) (by omega); have q_ := hrk j (by omega); show 0 ≤ (fI H111 xk j).toInt ∧ (fI H111 xk j).toInt ≤ 99; rw [f124 j (by omega)]; exact q_.2
    obtain ⟨q160, eq160⟩ : ∃ z : Nat, z = fR H111 b (K.1.2 10 69) := ⟨_, rfl⟩
    have gq160 := ty_fr (q := q160) (k := 69) (u := 161) eq160 hTH111 gb rg_112 rfl
    refine x_V (As := [.int (xs (i.toNatClampNeg + 1)), .int (xs (i.toNatClampNeg + 2))]) (rest := [.int x112]) C (a_X10_set_e l K G H111 ((xs (i.toNatClampNeg + 1))) ((xs (i.toNatClampNeg + 2))) (y16) (y13) (fun j => (fI H111 xn j).toInt) (fun j => (fI H111 xl j).toInt) (fun j => (fI H111 xk j).toInt) hTH111 gb gq160 eq160 gxn m144 gxl m146 gxk m148 m142 m140 g115 g116 g117 g118 (rg155) (rg157) (rg159) bt154 bt156 bt158) yo_X10_set wM_L_144 ⟨⟨by decide, by decide⟩, show _ ≤ 284929 from Nat.le_trans hc (by decide), show _ ≤ 8247460 from Nat.le_trans hs (by decide)⟩ (x_rv C hTH111 (ci := 10) rfl gb rg_112) rfl hl.1 rfl (Nat.le_of_ble_eq_true rfl) dL_law_1373 hSH111 (AE_new hN hSH111.1) (fun vH161 H161 locsH161 pH161 zH161 kH161 hSH161 => ?_)
    obtain ⟨x162, hvH161, m163, m164, m165, m166, g167, g168, g169, g170, mf171, m172, hTH161⟩ := pH161
    subst hvH161
    have f173 : ∀ j : Nat, j < 8 → fI H161 cn j = fI H cn j := fun j hj => (fI_kept (x_lt hTH111 kH161 gcn (by decide))).trans (f119 j hj)
    have f174 : ∀ j : Nat, j < 8 → fI H161 xn j = fI H xn j := fun j hj => (fI_kept (x_lt hTH111 kH161 gxn (by decide))).trans (f120 j hj)
    have f175 : ∀ j : Nat, j < 8 → fI H161 cl j = fI H cl j := fun j hj => (fI_kept (x_lt hTH111 kH161 gcl (by decide))).trans (f121 j hj)
    have f176 : ∀ j : Nat, j < 8 → fI H161 xl j = fI H xl j := fun j hj => (fI_kept (x_lt hTH111 kH161 gxl (by decide))).trans (f122 j hj)
    have f177 : ∀ j : Nat, j < 8 → fI H161 ck j = fI H ck j := fun j hj => (fI_kept (x_lt hTH111 kH161 gck (by decide))).trans (f123 j hj)
    have f178 : ∀ j : Nat, j < 8 → fI H161 xk j = fI H xk j := fun j hj => (fI_kept (x_lt hTH111 kH161 gxk (by decide))).trans (f124 j hj)
    have f179 : ∀ j : Nat, (fun j => (fI H111 xn j).toInt) j = (fI H161 xn j).toInt := fun j => (bt154 j).trans (congrArg Int32.toInt (fI_kept (x_lt hTH111 kH161 gxn (by decide))).symm)
    have f180 : ∀ j : Nat, (fun j => (fI H111 xl j).toInt) j = (fI H161 xl j).toInt := fun j => (bt156 j).trans (congrArg Int32.toInt (fI_kept (x_lt hTH111 kH161 gxl (by decide))).symm)
    have f181 : ∀ j : Nat, (fun j => (fI H111 xk j).toInt) j = (fI H161 xk j).toInt := fun j => (bt158 j).trans (congrArg Int32.toInt (fI_kept (x_lt hTH111 kH161 gxk (by decide))).symm)
    have m182 := (m128).trans (fR_kept (x_lt hTH111 kH161 ga (by decide))).symm
    have m183 := (m129).trans (fI_kept (x_lt hTH111 kH161 ga (by decide))).symm
    have m184 := (m131).trans (fI_kept (x_lt hTH111 kH161 gw (by decide))).symm
    have m185 := (m133).trans (fI_kept (x_lt hTH111 kH161 gw (by decide))).symm
    have m186 := (m135).trans (fI_kept (x_lt hTH111 kH161 gw (by decide))).symm
    have m187 := (m137).trans (fI_kept (x_lt hTH111 kH161 gw (by decide))).symm
    have m188 := (m139).trans (fI_kept (x_lt hTH111 kH161 gw (by decide))).symm
    have m189 := (m141).trans (fI_kept (x_lt hTH111 kH161 gw (by decide))).symm
    have m190 := (m143).trans (fR_kept (x_lt hTH111 kH161 gw (by decide))).symm
    have m191 := (m145).trans (fR_kept (x_lt hTH111 kH161 gw (by decide))).symm
    have m192 := (m147).trans (fR_kept (x_lt hTH111 kH161 gw (by decide))).symm
    have m193 := (fV_kept (x_lt hTH111 kH161 ga (by decide))).trans m150
    have m194 := (m151).trans (fR_kept (x_lt hTH111 kH161 ga (by decide))).symm
    have m195 := (m113).trans (fR_kept (x_lt hTH111 kH161 gq109 (by decide))).symm
    have m196 := (m130).trans (MF.i mf171 (k := 18) (by decide) (by decide)).symm
    have m197 := (m132).trans (MF.i mf171 (k := 1) (by decide) (by decide)).symm
    have m198 := (m134).trans (MF.i mf171 (k := 2) (by decide) (by decide)).symm
    have m199 := (m136).trans (MF.i mf171 (k := 3) (by decide) (by decide)).symm
    have m200 := (m138).trans (MF.i mf171 (k := 59) (by decide) (by decide)).symm
    have m201 := (m140).trans (MF.i mf171 (k := 62) (by decide) (by decide)).symm
    have m202 := (m142).trans (MF.i mf171 (k := 65) (by decide) (by decide)).symm
    have m203 := (m144).trans (MF.r mf171 (k := 64) (by decide) (by decide)).symm
    have m204 := (m146).trans (MF.r mf171 (k := 66) (by decide) (by decide)).symm
    have m205 := (m148).trans (MF.r mf171 (k := 67) (by decide) (by decide)).symm
    have m206 := (m149).trans (MF.i mf171 (k := 70) (by decide) (by decide)).symm
    have m207 := (eq160).trans (MF.r mf171 (k := 69) (by decide) (by decide)).symm
    refine W.eq (g2 := F0 m 1376 ls [.int x162, .int x112]) rfl ?_
    have cs13_ := i_cl (x := s13) (by omega)
    have cy13_ := i_cl (x := y13) (by omega)
    have cs16_ := i_cl (x := s16) (by omega)
    have cy16_ := i_cl (x := y16) (by omega)
    have hre := se_eq m114 m172 (by omega) (by omega) (fun j hj => by show (fI _ cn j).toInt = (fI _ xn j).toInt; rw [f0cn j (by omega), f120 j (by omega)]; exact congrArg Int32.toInt (hrn j (by omega)).1) (fun j hj => ⟨by show (fI _ cl j).toInt = (fI _ xl j).toInt; rw [f0cl j (by omega), f122 j (by omega)]; exact congrArg Int32.toInt (hrl j (by omega)).1, by show (fI _ ck j).toInt = (fI _ xk j).toInt; rw [f0ck j (by omega), f124 j (by omega)]; exact congrArg Int32.toInt (hrk j (by omega)).1⟩)
    clear f119 f120 f121 f122 f123 f124 m113 m128 m129 m130 m131 m132 m133 m134 m135 m136 m137 m138 m139 m140 m141 m142 m143 m144 m145 m146 m147 m148 m149 m150 m151
    refine lv_icmp_eq (tgt := 1509) hx hb dL_law_1376 (by decide) (fun ce => ?_) (fun ce => ?_)
    · skip
      exact nx G H161 locsH161 _ _ ls ⟨hTH161, hN, ga, gb, g167, g168, g169, g170, ⟨(by rw [← m183, ← m196]; exact rt), (by rw [← m182, ← m184, ← m197]; exact r1), (by rw [← m182, ← m185, ← m198]; exact r4), (by rw [← m182, ← m186, ← m199]; exact r5), (by rw [← m182, ← m187, ← m200]; exact r10), (by rw [← m182, ← m188, ← m201]; exact r13), (by rw [← m182, ← m189, ← m202]; exact r16)⟩, Or.inl ⟨m193, (by rw [← m206]; exact h70)⟩, ⟨(by rw [← m182, ← m190, ← m164, ← m201]; exact EQR.of hrn (fun j hj => f173 j (by omega)) (fun j hj => f174 j (by omega)) (by omega)), (by rw [← m182, ← m191, ← m165, ← m202]; exact EQR.of hrl (fun j hj => f175 j (by omega)) (fun j hj => f176 j (by omega)) (by omega)), (by rw [← m182, ← m192, ← m166, ← m202]; exact EQR.of hrk (fun j hj => f177 j (by omega)) (fun j hj => f178 j (by omega)) (by omega))⟩, hSH161⟩ hl ⟨hc, hs, fun _ => ⟨hc0, hs0⟩⟩
    · exfalso
      have := i_ne ce
      omega
  · skip
    obtain ⟨hi, ehi⟩ : ∃ z : Int32, z = fI H b (K.1.2 10 70) := ⟨_, rfl⟩
    rw [← ehi] at h70
    obtain ⟨iq, eiq⟩ : ∃ z : Nat, z = fR H b (K.1.2 10 73) := ⟨_, rfl⟩
    have giq := ty_fr (q := iq) (k := 73) (u := 162) eiq hT gb rg_112 rfl
    rw [← eiq] at q1 q4 q5 q10 q13 q16
    obtain ⟨k1, ek1⟩ : ∃ z : Int32, z = fI H kq (K.1.2 8 1) := ⟨_, rfl⟩
    rw [← ek1] at q1
    obtain ⟨i1, ei1⟩ : ∃ z : Int32, z = fI H iq ((0 : Int32).toNatClampNeg) := ⟨_, rfl⟩
    rw [← ei1] at q1
    obtain ⟨k4, ek4⟩ : ∃ z : Int32, z = fI H kq (K.1.2 8 4) := ⟨_, rfl⟩
    rw [← ek4] at q4
    obtain ⟨i4, ei4⟩ : ∃ z : Int32, z = fI H iq ((1 : Int32).toNatClampNeg) := ⟨_, rfl⟩
    rw [← ei4] at q4
    obtain ⟨k5, ek5⟩ : ∃ z : Int32, z = fI H kq (K.1.2 8 5) := ⟨_, rfl⟩
    rw [← ek5] at q5
    obtain ⟨i5, ei5⟩ : ∃ z : Int32, z = fI H iq ((2 : Int32).toNatClampNeg) := ⟨_, rfl⟩
    rw [← ei5] at q5
    obtain ⟨k10, ek10⟩ : ∃ z : Int32, z = fI H kq (K.1.2 8 10) := ⟨_, rfl⟩
    rw [← ek10] at q10
    obtain ⟨i10, ei10⟩ : ∃ z : Int32, z = fI H iq ((3 : Int32).toNatClampNeg) := ⟨_, rfl⟩
    rw [← ei10] at q10
    obtain ⟨k13, ek13⟩ : ∃ z : Int32, z = fI H kq (K.1.2 8 13) := ⟨_, rfl⟩
    rw [← ek13] at q13
    obtain ⟨i13, ei13⟩ : ∃ z : Int32, z = fI H iq ((4 : Int32).toNatClampNeg) := ⟨_, rfl⟩
    rw [← ei13] at q13
    obtain ⟨k16, ek16⟩ : ∃ z : Int32, z = fI H kq (K.1.2 8 16) := ⟨_, rfl⟩
    rw [← ek16] at q16
    obtain ⟨i16, ei16⟩ : ∃ z : Int32, z = fI H iq ((5 : Int32).toNatClampNeg) := ⟨_, rfl⟩
    rw [← ei16] at q16
    obtain ⟨dn, edn⟩ : ∃ z : Nat, z = fR H kq (K.1.2 8 12) := ⟨_, rfl⟩
    have gdn := ty_fr (q := dn) (k := 12) (u := 65) edn hT gkq rg_34 rfl
    obtain ⟨dl, edl⟩ : ∃ z : Nat, z = fR H kq (K.1.2 8 14) := ⟨_, rfl⟩
    have gdl := ty_fr (q := dl) (k := 14) (u := 66) edl hT gkq rg_34 rfl
    obtain ⟨dk, edk⟩ : ∃ z : Nat, z = fR H kq (K.1.2 8 15) := ⟨_, rfl⟩
    have gdk := ty_fr (q := dk) (k := 15) (u := 67) edk hT gkq rg_34 rfl
    have hsn : EQR (fun j => fI H dn j) (fun j => fI H iq (8877 + 4 * j)) k13.toInt := by rw [edn, eiq, ek13]; exact hq1
    have hsl : EQR (fun j => fI H dl j) (fun j => fI H iq (8878 + 4 * j)) k16.toInt := by rw [edl, eiq, ek16]; exact hq2
    have hsk : EQR (fun j => fI H dk j) (fun j => fI H iq (8879 + 4 * j)) k16.toInt := by rw [edk, eiq, ek16]; exact hq3
    have bk13 := ty_fi (x := k13) (k := 13) ek13 hT gkq rg_34 rfl
    have bk16 := ty_fi (x := k16) (k := 16) ek16 hT gkq rg_34 rfl
    have f0dn : ∀ j : Nat, j < 8 → fI H dn j = fI H dn j := fun _ _ => rfl
    have f0dl : ∀ j : Nat, j < 8 → fI H dl j = fI H dl j := fun _ _ => rfl
    have f0dk : ∀ j : Nat, j < 8 → fI H dk j = fI H dk j := fun _ _ => rfl
    have f0i : ∀ j : Nat, fI H iq j = fI H iq j := fun _ => rfl
    refine lv_aload_n hx hb dL_law_1348 rfl (lv_at hl 2 rfl) ?_
    refine lv_aload_n hx hb dL_law_1349 rfl (lv_at hl 3 rfl) ?_
    refine lv_iload_n hx hb dL_law_1350 rfl (lv_at hl 0 rfl) ?_
    refine lv_iconst (v := 1) hx hb dL_law_1351 (by decide) ?_
    refine lv_iadd hx hb dL_law_1352 ?_
    refine lv_topi (fun x208 ex208 => ?_)
    obtain ⟨tx208, ejx208, evx208⟩ := lw_ix (k := 1) ex208 hI hL rfl (by decide)
    clear tx208
    refine va_sld hx hb hX hbl (Nat.not_le.mpr hbl) hS (vp_in_iff.mpr evx208) dL_law_1353 ?_
    refine W.eq (g2 := F0 m 1354 ls [.int (xs (i.toNatClampNeg + 1)), .ref a]) (congrArg (fun z => F0 m 1354 ls [.int (xs z), .ref a]) ejx208) ?_
    refine lv_aload_n hx hb dL_law_1354 rfl (lv_at hl 3 rfl) ?_
    refine lv_iload_n hx hb dL_law_1355 rfl (lv_at hl 0 rfl) ?_
    refine lv_iconst (v := 2) hx hb dL_law_1356 (by decide) ?_
    refine lv_iadd hx hb dL_law_1357 ?_
    refine lv_topi (fun x209 ex209 => ?_)
    obtain ⟨tx209, ejx209, evx209⟩ := lw_ix (k := 2) ex209 hI hL rfl (by decide)
    clear tx209
    refine va_sld hx hb hX hbl (Nat.not_le.mpr hbl) hS (vp_in_iff.mpr evx209) dL_law_1358 ?_
    refine W.eq (g2 := F0 m 1359 ls [.int (xs (i.toNatClampNeg + 2)), .int (xs (i.toNatClampNeg + 1)), .ref a]) (congrArg (fun z => F0 m 1359 ls [.int (xs z), .int (xs (i.toNatClampNeg + 1)), .ref a]) ejx209) ?_
    have bt210 : ∀ j : Nat, (fun j => (fI H cn j).toInt) j = (fI H cn j).toInt := fun _ => rfl
    have rg211 : ∀ j : Nat, j < s13.toNatClampNeg → 0 ≤ (fun j => (fI H cn j).toInt) j ∧ (fun j => (fI H cn j).toInt) j ≤ 99 := fun j hj => by have c_ := i_cl (x := s13) (by omega); have q_ := hrn j (by omega); show 0 ≤ (fI H cn j).toInt ∧ (fI H cn j).toInt ≤ 99; rw [f0cn j (by omega)]; have e_ : fI H cn j = fI H xn j := q_.1; rw [e_]; exact q_.2
    have bt212 : ∀ j : Nat, (fun j => (fI H cl j).toInt) j = (fI H cl j).toInt := fun _ => rfl
    have rg213 : ∀ j : Nat, j < s16.toNatClampNeg → 0 ≤ (fun j => (fI H cl j).toInt) j ∧ (fun j => (fI H cl j).toInt) j ≤ 99 := fun j hj => by have c_ := i_cl (x := s16) (by omega); have q_ := hrl j (by omega); show 0 ≤ (fI H cl j).toInt ∧ (fI H cl j).toInt ≤ 99; rw [f0cl j (by omega)]; have e_ : fI H cl j = fI H xl j := q_.1; rw [e_]; exact q_.2
    have bt214 : ∀ j : Nat, (fun j => (fI H ck j).toInt) j = (fI H ck j).toInt := fun _ => rfl
    have rg215 : ∀ j : Nat, j < s16.toNatClampNeg → 0 ≤ (fun j => (fI H ck j).toInt) j ∧ (fun j => (fI H ck j).toInt) j ≤ 99 := fun j hj => by have c_ := i_cl (x := s16) (by omega); have q_ := hrk j (by omega); show 0 ≤ (fI H ck j).toInt ∧ (fI H ck j).toInt ≤ 99; rw [f0ck j (by omega)]; have e_ : fI H ck j = fI H xk j := q_.1; rw [e_]; exact q_.2
    obtain ⟨q216, eq216⟩ : ∃ z : Nat, z = fR H a (K.1.2 9 8) := ⟨_, rfl⟩
    have gq216 := ty_fr (q := q216) (k := 8) (u := 104) eq216 hT ga rg_68 rfl
    obtain ⟨q217, eq217⟩ : ∃ z : Nat, z = fR H q216 (K.1.2 5 0) := ⟨_, rfl⟩
    have gq217 := ty_fr (q := q217) (k := 0) (u := 105) eq217 hT gq216 rg_104 rfl
    refine x_V (As := [.int (xs (i.toNatClampNeg + 1)), .int (xs (i.toNatClampNeg + 2))]) (rest := []) C (a_X9_set_e l K G H ((xs (i.toNatClampNeg + 1))) ((xs (i.toNatClampNeg + 2))) (s13) (s16) (fun j => (fI H cn j).toInt) (fun j => (fI H cl j).toInt) (fun j => (fI H ck j).toInt) hT ga gw ew gq216 eq216 gq217 eq217 gcn ecn gcl ecl gck eck es13 es16 (rg211) (rg213) (rg215) bt210 bt212 bt214) yo_X9_set wM_L_141 ⟨⟨by decide, by decide⟩, show _ ≤ 284929 from Nat.le_trans hc (by decide), show _ ≤ 8247460 from Nat.le_trans hs (by decide)⟩ (x_rv C hT (ci := 9) rfl ga rg_68) rfl hl.1 rfl (Nat.le_of_ble_eq_true rfl) dL_law_1359 hS (AE_new hN hS.1) (fun vH218 H218 locsH218 pH218 zH218 kH218 hSH218 => ?_)
    obtain ⟨x219, hvH218, m220, m221, hTH218⟩ := pH218
    subst hvH218
    have g222 : CG (avw K H218 b) := CG.congr (fun k hk j => av_eff hT kH218 gb (by decide) (CG_eff [104, 105, 106, 107] (by decide) k hk)) cg
    have g223 : TU (avw K H218 b) (svw K H218 b) := TU.congr (fun k hk j => av_eff hT kH218 gb (by decide) (TU_eff [104, 105, 106, 107] (by decide) k hk)) (fun k hk => sv_eff hT kH218 gb (by decide)) tu
    have g224 : WD (avw K H218 b) := WD.congr (fun k hk j => av_eff hT kH218 gb (by decide) (WD_eff [104, 105, 106, 107] (by decide) k hk)) wd
    have g225 : IM (avw K H218 b) := IM.congr (fun k hk j => av_eff hT kH218 gb (by decide) (IM_eff [104, 105, 106, 107] (by decide) k hk)) im
    have f226 : ∀ j : Nat, j < 8 → fI H218 cn j = fI H cn j := fun j hj => (fI_kept (x_lt hT kH218 gcn (by decide))).trans (f0cn j hj)
    have f227 : ∀ j : Nat, j < 8 → fI H218 xn j = fI H xn j := fun j hj => (fI_kept (x_lt hT kH218 gxn (by decide))).trans (f0xn j hj)
    have f228 : ∀ j : Nat, j < 8 → fI H218 cl j = fI H cl j := fun j hj => (fI_kept (x_lt hT kH218 gcl (by decide))).trans (f0cl j hj)
    have f229 : ∀ j : Nat, j < 8 → fI H218 xl j = fI H xl j := fun j hj => (fI_kept (x_lt hT kH218 gxl (by decide))).trans (f0xl j hj)
    have f230 : ∀ j : Nat, j < 8 → fI H218 ck j = fI H ck j := fun j hj => (fI_kept (x_lt hT kH218 gck (by decide))).trans (f0ck j hj)
    have f231 : ∀ j : Nat, j < 8 → fI H218 xk j = fI H xk j := fun j hj => (fI_kept (x_lt hT kH218 gxk (by decide))).trans (f0xk j hj)
    have f232 : ∀ j : Nat, j < 8 → fI H218 dn j = fI H dn j := fun j hj => (fI_kept (x_lt hT kH218 gdn (by decide))).trans (f0dn j hj)
    have f233 : ∀ j : Nat, j < 8 → fI H218 dl j = fI H dl j := fun j hj => (fI_kept (x_lt hT kH218 gdl (by decide))).trans (f0dl j hj)
    have f234 : ∀ j : Nat, j < 8 → fI H218 dk j = fI H dk j := fun j hj => (fI_kept (x_lt hT kH218 gdk (by decide))).trans (f0dk j hj)
    have f235 : ∀ j : Nat, fI H218 iq j = fI H iq j := fun j => (fI_kept (x_lt hT kH218 giq (by decide))).trans (f0i j)
    have f236 : ∀ j : Nat, (fun j => (fI H cn j).toInt) j = (fI H218 cn j).toInt := fun j => (bt210 j).trans (congrArg Int32.toInt (fI_kept (x_lt hT kH218 gcn (by decide))).symm)
    have f237 : ∀ j : Nat, (fun j => (fI H cl j).toInt) j = (fI H218 cl j).toInt := fun j => (bt212 j).trans (congrArg Int32.toInt (fI_kept (x_lt hT kH218 gcl (by decide))).symm)
    have f238 : ∀ j : Nat, (fun j => (fI H ck j).toInt) j = (fI H218 ck j).toInt := fun j => (bt214 j).trans (congrArg Int32.toInt (fI_kept (x_lt hT kH218 gck (by decide))).symm)
    have m239 := (ew).trans (fR_kept (x_lt hT kH218 ga (by decide))).symm
    have m240 := (eta).trans (fI_kept (x_lt hT kH218 ga (by decide))).symm
    have m241 := (etb).trans (fI_kept (x_lt hT kH218 gb (by decide))).symm
    have m242 := (es1).trans (fI_kept (x_lt hT kH218 gw (by decide))).symm
    have m243 := (ey1).trans (fI_kept (x_lt hT kH218 gb (by decide))).symm
    have m244 := (es4).trans (fI_kept (x_lt hT kH218 gw (by decide))).symm
    have m245 := (ey4).trans (fI_kept (x_lt hT kH218 gb (by decide))).symm
    have m246 := (es5).trans (fI_kept (x_lt hT kH218 gw (by decide))).symm
    have m247 := (ey5).trans (fI_kept (x_lt hT kH218 gb (by decide))).symm
    have m248 := (es10).trans (fI_kept (x_lt hT kH218 gw (by decide))).symm
    have m249 := (ey10).trans (fI_kept (x_lt hT kH218 gb (by decide))).symm
    have m250 := (es13).trans (fI_kept (x_lt hT kH218 gw (by decide))).symm
    have m251 := (ey13).trans (fI_kept (x_lt hT kH218 gb (by decide))).symm
    have m252 := (es16).trans (fI_kept (x_lt hT kH218 gw (by decide))).symm
    have m253 := (ey16).trans (fI_kept (x_lt hT kH218 gb (by decide))).symm
    have m254 := (ecn).trans (fR_kept (x_lt hT kH218 gw (by decide))).symm
    have m255 := (exn).trans (fR_kept (x_lt hT kH218 gb (by decide))).symm
    have m256 := (ecl).trans (fR_kept (x_lt hT kH218 gw (by decide))).symm
    have m257 := (exl).trans (fR_kept (x_lt hT kH218 gb (by decide))).symm
    have m258 := (eck).trans (fR_kept (x_lt hT kH218 gw (by decide))).symm
    have m259 := (exk).trans (fR_kept (x_lt hT kH218 gb (by decide))).symm
    have m260 := (ehi).trans (fI_kept (x_lt hT kH218 gb (by decide))).symm
    have m261 := (fV_kept (x_lt hT kH218 ga (by decide))).trans kn
    have m262 := (eiq).trans (fR_kept (x_lt hT kH218 gb (by decide))).symm
    have m263 := (ek1).trans (fI_kept (x_lt hT kH218 gkq (by decide))).symm
    have m264 := (ei1).trans (fI_kept (x_lt hT kH218 giq (by decide))).symm
    have m265 := (ek4).trans (fI_kept (x_lt hT kH218 gkq (by decide))).symm
    have m266 := (ei4).trans (fI_kept (x_lt hT kH218 giq (by decide))).symm
    have m267 := (ek5).trans (fI_kept (x_lt hT kH218 gkq (by decide))).symm
    have m268 := (ei5).trans (fI_kept (x_lt hT kH218 giq (by decide))).symm
    have m269 := (ek10).trans (fI_kept (x_lt hT kH218 gkq (by decide))).symm
    have m270 := (ei10).trans (fI_kept (x_lt hT kH218 giq (by decide))).symm
    have m271 := (ek13).trans (fI_kept (x_lt hT kH218 gkq (by decide))).symm
    have m272 := (ei13).trans (fI_kept (x_lt hT kH218 giq (by decide))).symm
    have m273 := (ek16).trans (fI_kept (x_lt hT kH218 gkq (by decide))).symm
    have m274 := (ei16).trans (fI_kept (x_lt hT kH218 giq (by decide))).symm
    have m275 := (edn).trans (fR_kept (x_lt hT kH218 gkq (by decide))).symm
    have m276 := (edl).trans (fR_kept (x_lt hT kH218 gkq (by decide))).symm
    have m277 := (edk).trans (fR_kept (x_lt hT kH218 gkq (by decide))).symm
    have m278 := (eq216).trans (fR_kept (x_lt hT kH218 ga (by decide))).symm
    refine W.eq (g2 := F0 m 1362 ls [.int x219]) rfl ?_
    clear eck ecl ecn edk edl edn ehi ei1 ei10 ei13 ei16 ei4 ei5 eiq ek1 ek10 ek13 ek16 ek4 ek5 es1 es10 es13 es16 es4 es5 eta etb ew exk exl exn ey1 ey10 ey13 ey16 ey4 ey5 kn
    refine lv_aload_n hx hb dL_law_1362 rfl (lv_at hl 1 rfl) ?_
    refine lv_aload_n hx hb dL_law_1363 rfl (lv_at hl 3 rfl) ?_
    refine lv_iload_n hx hb dL_law_1364 rfl (lv_at hl 0 rfl) ?_
    refine lv_iconst (v := 1) hx hb dL_law_1365 (by decide) ?_
    refine lv_iadd hx hb dL_law_1366 ?_
    refine lv_topi (fun x279 ex279 => ?_)
    obtain ⟨tx279, ejx279, evx279⟩ := lw_ix (k := 1) ex279 hI hL rfl (by decide)
    clear tx279
    refine va_sld hx hb hX hbl (Nat.not_le.mpr hbl) hSH218 (vp_in_iff.mpr evx279) dL_law_1367 ?_
    refine W.eq (g2 := F0 m 1368 ls [.int (xs (i.toNatClampNeg + 1)), .ref b, .int x219]) (congrArg (fun z => F0 m 1368 ls [.int (xs z), .ref b, .int x219]) ejx279) ?_
    refine lv_aload_n hx hb dL_law_1368 rfl (lv_at hl 3 rfl) ?_
    refine lv_iload_n hx hb dL_law_1369 rfl (lv_at hl 0 rfl) ?_
    refine lv_iconst (v := 2) hx hb dL_law_1370 (by decide) ?_
    refine lv_iadd hx hb dL_law_1371 ?_
    refine lv_topi (fun x280 ex280 => ?_)
    obtain ⟨tx280, ejx280, evx280⟩ := lw_ix (k := 2) ex280 hI hL rfl (by decide)
    clear tx280
    refine va_sld hx hb hX hbl (Nat.not_le.mpr hbl) hSH218 (vp_in_iff.mpr evx280) dL_law_1372 ?_
    refine W.eq (g2 := F0 m 1373 ls [.int (xs (i.toNatClampNeg + 2)), .int (xs (i.toNatClampNeg + 1)), .ref b, .int x219]) (congrArg (fun z => F0 m 1373 ls [.int (xs z), .int (xs (i.toNatClampNeg + 1)), .ref b, .int x219]) ejx280) ?_
    have bt281 : ∀ j : Nat, (fun j => (fI H218 xn j).toInt) j = (fI H218 xn j).toInt := fun _ => rfl
    have rg282 : ∀ j : Nat, j < y13.toNatClampNeg → 0 ≤ (fun j => (fI H218 xn j).toInt) j ∧ (fun j => (fI H218 xn j).toInt) j ≤ 99 := fun j hj => by have c_ := i_cl (x := y13) (by omega); have q_ := hrn j (by omega); show 0 ≤ (fI H218 xn j).toInt ∧ (fI H218 xn j).toInt ≤ 99; rw [f227 j (by omega)]; exact q_.2
    have bt283 : ∀ j : Nat, (fun j => (fI H218 xl j).toInt) j = (fI H218 xl j).toInt := fun _ => rfl
    have rg284 : ∀ j : Nat, j < y16.toNatClampNeg → 0 ≤ (fun j => (fI H218 xl j).toInt) j ∧ (fun j => (fI H218 xl j).toInt) j ≤ 99 := fun j hj => by have c_ := i_cl (x := y16) (by omega); have q_ := hrl j (by omega); show 0 ≤ (fI H218 xl j).toInt ∧ (fI H218 xl j).toInt ≤ 99; rw [f229 j (by omega)]; exact q_.2
    have bt285 : ∀ j : Nat, (fun j => (fI H218 xk j).toInt) j = (fI H218 xk j).toInt := fun _ => rfl
    have rg286 : ∀ j : Nat, j < y16.toNatClampNeg → 0 ≤ (fun j => (fI H218 xk j).toInt) j ∧ (fun j => (fI H218 xk j).toInt) j ≤ 99 := fun j hj => by have c_ := i_cl (x := y16) (by omega); have q_ := hrk j (by omega); show 0 ≤ (fI H218 xk j).toInt ∧ (fI H218 xk j).toInt ≤ 99; rw [f231 j (by omega)]; exact q_.2
    obtain ⟨q287, eq287⟩ : ∃ z : Nat, z = fR H218 b (K.1.2 10 69) := ⟨_, rfl⟩
    have gq287 := ty_fr (q := q287) (k := 69) (u := 161) eq287 hTH218 gb rg_112 rfl
    refine x_V (As := [.int (xs (i.toNatClampNeg + 1)), .int (xs (i.toNatClampNeg + 2))]) (rest := [.int x219]) C (a_X10_set_e l K G H218 ((xs (i.toNatClampNeg + 1))) ((xs (i.toNatClampNeg + 2))) (y16) (y13) (fun j => (fI H218 xn j).toInt) (fun j => (fI H218 xl j).toInt) (fun j => (fI H218 xk j).toInt) hTH218 gb gq287 eq287 gxn m255 gxl m257 gxk m259 m253 m251 g222 g223 g224 g225 (rg282) (rg284) (rg286) bt281 bt283 bt285) yo_X10_set wM_L_144 ⟨⟨by decide, by decide⟩, show _ ≤ 284929 from Nat.le_trans hc (by decide), show _ ≤ 8247460 from Nat.le_trans hs (by decide)⟩ (x_rv C hTH218 (ci := 10) rfl gb rg_112) rfl hl.1 rfl (Nat.le_of_ble_eq_true rfl) dL_law_1373 hSH218 (AE_new hN hSH218.1) (fun vH288 H288 locsH288 pH288 zH288 kH288 hSH288 => ?_)
    obtain ⟨x289, hvH288, m290, m291, m292, m293, g294, g295, g296, g297, mf298, m299, hTH288⟩ := pH288
    subst hvH288
    have f300 : ∀ j : Nat, j < 8 → fI H288 cn j = fI H cn j := fun j hj => (fI_kept (x_lt hTH218 kH288 gcn (by decide))).trans (f226 j hj)
    have f301 : ∀ j : Nat, j < 8 → fI H288 xn j = fI H xn j := fun j hj => (fI_kept (x_lt hTH218 kH288 gxn (by decide))).trans (f227 j hj)
    have f302 : ∀ j : Nat, j < 8 → fI H288 cl j = fI H cl j := fun j hj => (fI_kept (x_lt hTH218 kH288 gcl (by decide))).trans (f228 j hj)
    have f303 : ∀ j : Nat, j < 8 → fI H288 xl j = fI H xl j := fun j hj => (fI_kept (x_lt hTH218 kH288 gxl (by decide))).trans (f229 j hj)
    have f304 : ∀ j : Nat, j < 8 → fI H288 ck j = fI H ck j := fun j hj => (fI_kept (x_lt hTH218 kH288 gck (by decide))).trans (f230 j hj)
    have f305 : ∀ j : Nat, j < 8 → fI H288 xk j = fI H xk j := fun j hj => (fI_kept (x_lt hTH218 kH288 gxk (by decide))).trans (f231 j hj)
    have f306 : ∀ j : Nat, j < 8 → fI H288 dn j = fI H dn j := fun j hj => (fI_kept (x_lt hTH218 kH288 gdn (by decide))).trans (f232 j hj)
    have f307 : ∀ j : Nat, j < 8 → fI H288 dl j = fI H dl j := fun j hj => (fI_kept (x_lt hTH218 kH288 gdl (by decide))).trans (f233 j hj)
    have f308 : ∀ j : Nat, j < 8 → fI H288 dk j = fI H dk j := fun j hj => (fI_kept (x_lt hTH218 kH288 gdk (by decide))).trans (f234 j hj)
    have f309 : ∀ j : Nat, fI H288 iq j = fI H iq j := fun j => (fI_kept (x_lt hTH218 kH288 giq (by decide))).trans (f235 j)
    have f310 : ∀ j : Nat, (fun j => (fI H218 xn j).toInt) j = (fI H288 xn j).toInt := fun j => (bt281 j).trans (congrArg Int32.toInt (fI_kept (x_lt hTH218 kH288 gxn (by decide))).symm)
    have f311 : ∀ j : Nat, (fun j => (fI H218 xl j).toInt) j = (fI H288 xl j).toInt := fun j => (bt283 j).trans (congrArg Int32.toInt (fI_kept (x_lt hTH218 kH288 gxl (by decide))).symm)
    have f312 : ∀ j : Nat, (fun j => (fI H218 xk j).toInt) j = (fI H288 xk j).toInt := fun j => (bt285 j).trans (congrArg Int32.toInt (fI_kept (x_lt hTH218 kH288 gxk (by decide))).symm)
    have m313 := (m239).trans (fR_kept (x_lt hTH218 kH288 ga (by decide))).symm
    have m314 := (m240).trans (fI_kept (x_lt hTH218 kH288 ga (by decide))).symm
    have m315 := (m242).trans (fI_kept (x_lt hTH218 kH288 gw (by decide))).symm
    have m316 := (m244).trans (fI_kept (x_lt hTH218 kH288 gw (by decide))).symm
    have m317 := (m246).trans (fI_kept (x_lt hTH218 kH288 gw (by decide))).symm
    have m318 := (m248).trans (fI_kept (x_lt hTH218 kH288 gw (by decide))).symm
    have m319 := (m250).trans (fI_kept (x_lt hTH218 kH288 gw (by decide))).symm
    have m320 := (m252).trans (fI_kept (x_lt hTH218 kH288 gw (by decide))).symm
    have m321 := (m254).trans (fR_kept (x_lt hTH218 kH288 gw (by decide))).symm
    have m322 := (m256).trans (fR_kept (x_lt hTH218 kH288 gw (by decide))).symm
    have m323 := (m258).trans (fR_kept (x_lt hTH218 kH288 gw (by decide))).symm
    have m324 := (fV_kept (x_lt hTH218 kH288 ga (by decide))).trans m261
    have m325 := (m263).trans (fI_kept (x_lt hTH218 kH288 gkq (by decide))).symm
    have m326 := (m264).trans (fI_kept (x_lt hTH218 kH288 giq (by decide))).symm
    have m327 := (m265).trans (fI_kept (x_lt hTH218 kH288 gkq (by decide))).symm
    have m328 := (m266).trans (fI_kept (x_lt hTH218 kH288 giq (by decide))).symm
    have m329 := (m267).trans (fI_kept (x_lt hTH218 kH288 gkq (by decide))).symm
    have m330 := (m268).trans (fI_kept (x_lt hTH218 kH288 giq (by decide))).symm
    have m331 := (m269).trans (fI_kept (x_lt hTH218 kH288 gkq (by decide))).symm
    have m332 := (m270).trans (fI_kept (x_lt hTH218 kH288 giq (by decide))).symm
    have m333 := (m271).trans (fI_kept (x_lt hTH218 kH288 gkq (by decide))).symm
    have m334 := (m272).trans (fI_kept (x_lt hTH218 kH288 giq (by decide))).symm
    have m335 := (m273).trans (fI_kept (x_lt hTH218 kH288 gkq (by decide))).symm
    have m336 := (m274).trans (fI_kept (x_lt hTH218 kH288 giq (by decide))).symm
    have m337 := (m275).trans (fR_kept (x_lt hTH218 kH288 gkq (by decide))).symm
    have m338 := (m276).trans (fR_kept (x_lt hTH218 kH288 gkq (by decide))).symm
    have m339 := (m277).trans (fR_kept (x_lt hTH218 kH288 gkq (by decide))).symm
    have m340 := (m278).trans (fR_kept (x_lt hTH218 kH288 ga (by decide))).symm
    have m341 := (m220).trans (fR_kept (x_lt hTH218 kH288 gq216 (by decide))).symm
    have m342 := (m241).trans (MF.i mf298 (k := 18) (by decide) (by decide)).symm
    have m343 := (m243).trans (MF.i mf298 (k := 1) (by decide) (by decide)).symm
    have m344 := (m245).trans (MF.i mf298 (k := 2) (by decide) (by decide)).symm
    have m345 := (m247).trans (MF.i mf298 (k := 3) (by decide) (by decide)).symm
    have m346 := (m249).trans (MF.i mf298 (k := 59) (by decide) (by decide)).symm
    have m347 := (m251).trans (MF.i mf298 (k := 62) (by decide) (by decide)).symm
    have m348 := (m253).trans (MF.i mf298 (k := 65) (by decide) (by decide)).symm
    have m349 := (m255).trans (MF.r mf298 (k := 64) (by decide) (by decide)).symm
    have m350 := (m257).trans (MF.r mf298 (k := 66) (by decide) (by decide)).symm
    have m351 := (m259).trans (MF.r mf298 (k := 67) (by decide) (by decide)).symm
    have m352 := (m260).trans (MF.i mf298 (k := 70) (by decide) (by decide)).symm
    have m353 := (m262).trans (MF.r mf298 (k := 73) (by decide) (by decide)).symm
    have m354 := (eq287).trans (MF.r mf298 (k := 69) (by decide) (by decide)).symm
    refine W.eq (g2 := F0 m 1376 ls [.int x289, .int x219]) rfl ?_
    have cs13_ := i_cl (x := s13) (by omega)
    have cy13_ := i_cl (x := y13) (by omega)
    have cs16_ := i_cl (x := s16) (by omega)
    have cy16_ := i_cl (x := y16) (by omega)
    have hre := se_eq m221 m299 (by omega) (by omega) (fun j hj => by show (fI _ cn j).toInt = (fI _ xn j).toInt; rw [f0cn j (by omega), f227 j (by omega)]; exact congrArg Int32.toInt (hrn j (by omega)).1) (fun j hj => ⟨by show (fI _ cl j).toInt = (fI _ xl j).toInt; rw [f0cl j (by omega), f229 j (by omega)]; exact congrArg Int32.toInt (hrl j (by omega)).1, by show (fI _ ck j).toInt = (fI _ xk j).toInt; rw [f0ck j (by omega), f231 j (by omega)]; exact congrArg Int32.toInt (hrk j (by omega)).1⟩)
    clear f226 f227 f228 f229 f230 f231 f232 f233 f234 f235 m220 m239 m240 m241 m242 m243 m244 m245 m246 m247 m248 m249 m250 m251 m252 m253 m254 m255 m256 m257 m258 m259 m260 m261 m262 m263 m264 m265 m266 m267 m268 m269 m270 m271 m272 m273 m274 m275 m276 m277 m278
    refine lv_icmp_eq (tgt := 1509) hx hb dL_law_1376 (by decide) (fun ce => ?_) (fun ce => ?_)
    · skip
      exact nx G H288 locsH288 _ _ ls ⟨hTH288, hN, ga, gb, g294, g295, g296, g297, ⟨(by rw [← m314, ← m342]; exact rt), (by rw [← m313, ← m315, ← m343]; exact r1), (by rw [← m313, ← m316, ← m344]; exact r4), (by rw [← m313, ← m317, ← m345]; exact r5), (by rw [← m313, ← m318, ← m346]; exact r10), (by rw [← m313, ← m319, ← m347]; exact r13), (by rw [← m313, ← m320, ← m348]; exact r16)⟩, Or.inr ⟨kq, m324, gkq, (by rw [← m352]; exact h70), (by rw [← m325, ← m353, ← m326]; exact q1), (by rw [← m327, ← m353, ← m328]; exact q4), (by rw [← m329, ← m353, ← m330]; exact q5), (by rw [← m331, ← m353, ← m332]; exact q10), (by rw [← m333, ← m353, ← m334]; exact q13), (by rw [← m335, ← m353, ← m336]; exact q16), (by rw [← m337, ← m353, ← m333]; exact EQR.of hsn (fun j hj => f306 j (by omega)) (fun j hj => f309 _) (by omega)), (by rw [← m338, ← m353, ← m335]; exact EQR.of hsl (fun j hj => f307 j (by omega)) (fun j hj => f309 _) (by omega)), (by rw [← m339, ← m353, ← m335]; exact EQR.of hsk (fun j hj => f308 j (by omega)) (fun j hj => f309 _) (by omega))⟩, ⟨(by rw [← m313, ← m321, ← m291, ← m347]; exact EQR.of hrn (fun j hj => f300 j (by omega)) (fun j hj => f301 j (by omega)) (by omega)), (by rw [← m313, ← m322, ← m292, ← m348]; exact EQR.of hrl (fun j hj => f302 j (by omega)) (fun j hj => f303 j (by omega)) (by omega)), (by rw [← m313, ← m323, ← m293, ← m348]; exact EQR.of hrk (fun j hj => f304 j (by omega)) (fun j hj => f305 j (by omega)) (by omega))⟩, hSH288⟩ hl ⟨hc, hs, fun h => by have h1 := h.symm.trans m324; cases h1⟩
    · exfalso
      have := i_ne ce
      omega
set_option maxRecDepth 100000 in
set_option maxHeartbeats 8000000 in
theorem lw_c31 {p : Program} {l : Launch} {e : Env} {s : State} {m : MethodId} {below : List Frame} {meth : Method} {c : Code} {K : KE} {b0 L : Nat} {xs : Nat → Int32} {G : Nat → Option Nat} {H : Heap} {locs : List Loc} {a b : Nat} {cells slots : Nat} {ls : Array Slot} {i : Int32} {n : Nat} (D : LC p K s m meth c b0 L xs) (S : SX K s G H locs a b) (hl : lv_has ls 4 [(3, .int i), (2, .ref b), (1, .ref a), (0, .ref b0)]) (hi : 0 ≤ i.toInt ∧ i.toInt + 6 ≤ L) (hn : n ≤ 511) (hB : BD K H a cells slots) (nx : ∀ (G : Nat → Option Nat) (H : Heap) (locs : List Loc) (cells slots : Nat) (ls : Array Slot), SX K s G H locs a b → lv_has ls 4 [(3, .int i), (2, .ref b), (1, .ref a), (0, .ref b0)] → BD K H a cells slots → W p l e room_1 s m #[Value.ref b0] below meth c H locs cells slots (lw_Z below #[Value.ref b0] s) (F0 m 1509 ls [])) : W p l e room_1 s m #[Value.ref b0] below meth c H locs cells slots (lw_Z below #[Value.ref b0] s) (F0 m 1381 ls []) := by
  have hI := hi
  obtain ⟨C, hX, hbl, hL⟩ := id D
  obtain ⟨hx, hb, hml, hown, hts, hKT, hr, hlocks, hnm⟩ := id C
  obtain ⟨hT, hN, ga, gb, cg, tu, wd, im, ⟨rt, r1, r4, r5, r10, r13, r16⟩, hk, hnb, hS⟩ := S
  obtain ⟨hc, hs, hB0⟩ := hB
  have n_1 : (1 : Int32).toInt = 1 := rfl
  obtain ⟨w, ew⟩ : ∃ z : Nat, z = fR H a (K.1.2 9 0) := ⟨_, rfl⟩
  have gw := ty_fr (q := w) (k := 0) (u := 0) ew hT ga rg_68 rfl
  rw [← ew] at r1 r4 r5 r10 r13 r16
  obtain ⟨ta, eta⟩ : ∃ z : Int32, z = fI H a (K.1.2 9 3) := ⟨_, rfl⟩
  rw [← eta] at rt
  obtain ⟨tb, etb⟩ : ∃ z : Int32, z = fI H b (K.1.2 10 18) := ⟨_, rfl⟩
  rw [← etb] at rt
  obtain ⟨s1, es1⟩ : ∃ z : Int32, z = fI H w (K.1.2 8 1) := ⟨_, rfl⟩
  rw [← es1] at r1
  obtain ⟨y1, ey1⟩ : ∃ z : Int32, z = fI H b (K.1.2 10 1) := ⟨_, rfl⟩
  rw [← ey1] at r1
  obtain ⟨s4, es4⟩ : ∃ z : Int32, z = fI H w (K.1.2 8 4) := ⟨_, rfl⟩
  rw [← es4] at r4
  obtain ⟨y4, ey4⟩ : ∃ z : Int32, z = fI H b (K.1.2 10 2) := ⟨_, rfl⟩
  rw [← ey4] at r4
  obtain ⟨s5, es5⟩ : ∃ z : Int32, z = fI H w (K.1.2 8 5) := ⟨_, rfl⟩
  rw [← es5] at r5
  obtain ⟨y5, ey5⟩ : ∃ z : Int32, z = fI H b (K.1.2 10 3) := ⟨_, rfl⟩
  rw [← ey5] at r5
  obtain ⟨s10, es10⟩ : ∃ z : Int32, z = fI H w (K.1.2 8 10) := ⟨_, rfl⟩
  rw [← es10] at r10
  obtain ⟨y10, ey10⟩ : ∃ z : Int32, z = fI H b (K.1.2 10 59) := ⟨_, rfl⟩
  rw [← ey10] at r10
  obtain ⟨s13, es13⟩ : ∃ z : Int32, z = fI H w (K.1.2 8 13) := ⟨_, rfl⟩
  rw [← es13] at r13
  obtain ⟨y13, ey13⟩ : ∃ z : Int32, z = fI H b (K.1.2 10 62) := ⟨_, rfl⟩
  rw [← ey13] at r13
  obtain ⟨s16, es16⟩ : ∃ z : Int32, z = fI H w (K.1.2 8 16) := ⟨_, rfl⟩
  rw [← es16] at r16
  obtain ⟨y16, ey16⟩ : ∃ z : Int32, z = fI H b (K.1.2 10 65) := ⟨_, rfl⟩
  rw [← ey16] at r16
  obtain ⟨hb1, hb2, hb3⟩ := hnb
  obtain ⟨cn, ecn⟩ : ∃ z : Nat, z = fR H w (K.1.2 8 12) := ⟨_, rfl⟩
  have gcn := ty_fr (q := cn) (k := 12) (u := 31) ecn hT gw rg_0 rfl
  obtain ⟨xn, exn⟩ : ∃ z : Nat, z = fR H b (K.1.2 10 64) := ⟨_, rfl⟩
  have gxn := ty_fr (q := xn) (k := 64) (u := 157) exn hT gb rg_112 rfl
  obtain ⟨cl, ecl⟩ : ∃ z : Nat, z = fR H w (K.1.2 8 14) := ⟨_, rfl⟩
  have gcl := ty_fr (q := cl) (k := 14) (u := 32) ecl hT gw rg_0 rfl
  obtain ⟨xl, exl⟩ : ∃ z : Nat, z = fR H b (K.1.2 10 66) := ⟨_, rfl⟩
  have gxl := ty_fr (q := xl) (k := 66) (u := 158) exl hT gb rg_112 rfl
  obtain ⟨ck, eck⟩ : ∃ z : Nat, z = fR H w (K.1.2 8 15) := ⟨_, rfl⟩
  have gck := ty_fr (q := ck) (k := 15) (u := 33) eck hT gw rg_0 rfl
  obtain ⟨xk, exk⟩ : ∃ z : Nat, z = fR H b (K.1.2 10 67) := ⟨_, rfl⟩
  have gxk := ty_fr (q := xk) (k := 67) (u := 159) exk hT gb rg_112 rfl
  have hrn : EQR (fun j => fI H cn j) (fun j => fI H xn j) y13.toInt := by rw [ecn, exn, ew, ey13]; exact hb1
  have hrl : EQR (fun j => fI H cl j) (fun j => fI H xl j) y16.toInt := by rw [ecl, exl, ew, ey16]; exact hb2
  have hrk : EQR (fun j => fI H ck j) (fun j => fI H xk j) y16.toInt := by rw [eck, exk, ew, ey16]; exact hb3
  have by13 := ty_fi (x := y13) (k := 62) ey13 hT gb rg_112 rfl
  have by16 := ty_fi (x := y16) (k := 65) ey16 hT gb rg_112 rfl
  have f0cn : ∀ j : Nat, j < 8 → fI H cn j = fI H cn j := fun _ _ => rfl
  have f0xn : ∀ j : Nat, j < 8 → fI H xn j = fI H xn j := fun _ _ => rfl
  have f0cl : ∀ j : Nat, j < 8 → fI H cl j = fI H cl j := fun _ _ => rfl
  have f0xl : ∀ j : Nat, j < 8 → fI H xl j = fI H xl j := fun _ _ => rfl
  have f0ck : ∀ j : Nat, j < 8 → fI H ck j = fI H ck j := fun _ _ => rfl
  have f0xk : ∀ j : Nat, j < 8 → fI H xk j = fI H xk j := fun _ _ => rfl
  rcases hk with ⟨kn, h70⟩ | ⟨kq, kn, gkq, h70, q1, q4, q5, q10, q13, q16, hq1, hq2, hq3⟩
  · skip
    obtain ⟨hi, ehi⟩ : ∃ z : Int32, z = fI H b (K.1.2 10 70) := ⟨_, rfl⟩
    rw [← ehi] at h70
    obtain ⟨hc0, hs0⟩ := hB0 kn
    refine lv_aload_n hx hb dL_law_1381 rfl (lv_at hl 2 rfl) ?_
    refine lv_aload_n hx hb dL_law_1382 rfl (lv_at hl 3 rfl) ?_
    refine lv_iload_n hx hb dL_law_1383 rfl (lv_at hl 0 rfl) ?_
    refine lv_iconst (v := 1) hx hb dL_law_1384 (by decide) ?_
    refine lv_iadd hx hb dL_law_1385 ?_
    refine lv_topi (fun x101 ex101 => ?_)
    obtain ⟨tx101, ejx101, evx101⟩ := lw_ix (k := 1) ex101 hI hL rfl (by decide)
    clear tx101
    refine va_sld hx hb hX hbl (Nat.not_le.mpr hbl) hS (vp_in_iff.mpr evx101) dL_law_1386 ?_
    refine W.eq (g2 := F0 m 1387 ls [.int (xs (i.toNatClampNeg + 1)), .ref a]) (congrArg (fun z => F0 m 1387 ls [.int (xs z), .ref a]) ejx101) ?_
    refine x_V (As := [.int (xs (i.toNatClampNeg + 1))]) (rest := []) C (a_X9_down l K G H ((xs (i.toNatClampNeg + 1))) hT ga) yo_X9_down wM_L_145 ⟨⟨by decide, by decide⟩, show _ ≤ 284929 from Nat.le_trans hc (by decide), show _ ≤ 8247460 from Nat.le_trans hs (by decide)⟩ (x_rv C hT (ci := 9) rfl ga rg_68) rfl hl.1 rfl (Nat.le_of_ble_eq_true rfl) dL_law_1387 hS (AE_new hN hS.1) (fun vH102 H102 locsH102 pH102 zH102 kH102 hSH102 => ?_)
    obtain ⟨x103, hvH102, hTH102⟩ := pH102
    subst hvH102
    have g104 : CG (avw K H102 b) := CG.congr (fun k hk j => av_eff hT kH102 gb (by decide) (CG_eff [83, 84] (by decide) k hk)) cg
    have g105 : TU (avw K H102 b) (svw K H102 b) := TU.congr (fun k hk j => av_eff hT kH102 gb (by decide) (TU_eff [83, 84] (by decide) k hk)) (fun k hk => sv_eff hT kH102 gb (by decide)) tu
    have g106 : WD (avw K H102 b) := WD.congr (fun k hk j => av_eff hT kH102 gb (by decide) (WD_eff [83, 84] (by decide) k hk)) wd
    have g107 : IM (avw K H102 b) := IM.congr (fun k hk j => av_eff hT kH102 gb (by decide) (IM_eff [83, 84] (by decide) k hk)) im
    have f108 : ∀ j : Nat, j < 8 → fI H102 cn j = fI H cn j := fun j hj => (fI_kept (x_lt hT kH102 gcn (by decide))).trans (f0cn j hj)
    have f109 : ∀ j : Nat, j < 8 → fI H102 xn j = fI H xn j := fun j hj => (fI_kept (x_lt hT kH102 gxn (by decide))).trans (f0xn j hj)
    have f110 : ∀ j : Nat, j < 8 → fI H102 cl j = fI H cl j := fun j hj => (fI_kept (x_lt hT kH102 gcl (by decide))).trans (f0cl j hj)
    have f111 : ∀ j : Nat, j < 8 → fI H102 xl j = fI H xl j := fun j hj => (fI_kept (x_lt hT kH102 gxl (by decide))).trans (f0xl j hj)
    have f112 : ∀ j : Nat, j < 8 → fI H102 ck j = fI H ck j := fun j hj => (fI_kept (x_lt hT kH102 gck (by decide))).trans (f0ck j hj)
    have f113 : ∀ j : Nat, j < 8 → fI H102 xk j = fI H xk j := fun j hj => (fI_kept (x_lt hT kH102 gxk (by decide))).trans (f0xk j hj)
    have m114 := (ew).trans (fR_kept (x_lt hT kH102 ga (by decide))).symm
    have m115 := (eta).trans (fI_kept (x_lt hT kH102 ga (by decide))).symm
    have m116 := (etb).trans (fI_kept (x_lt hT kH102 gb (by decide))).symm
    have m117 := (es1).trans (fI_kept (x_lt hT kH102 gw (by decide))).symm
    have m118 := (ey1).trans (fI_kept (x_lt hT kH102 gb (by decide))).symm
    have m119 := (es4).trans (fI_kept (x_lt hT kH102 gw (by decide))).symm
    have m120 := (ey4).trans (fI_kept (x_lt hT kH102 gb (by decide))).symm
    have m121 := (es5).trans (fI_kept (x_lt hT kH102 gw (by decide))).symm
    have m122 := (ey5).trans (fI_kept (x_lt hT kH102 gb (by decide))).symm
    have m123 := (es10).trans (fI_kept (x_lt hT kH102 gw (by decide))).symm
    have m124 := (ey10).trans (fI_kept (x_lt hT kH102 gb (by decide))).symm
    have m125 := (es13).trans (fI_kept (x_lt hT kH102 gw (by decide))).symm
    have m126 := (ey13).trans (fI_kept (x_lt hT kH102 gb (by decide))).symm
    have m127 := (es16).trans (fI_kept (x_lt hT kH102 gw (by decide))).symm
    have m128 := (ey16).trans (fI_kept (x_lt hT kH102 gb (by decide))).symm
    have m129 := (ecn).trans (fR_kept (x_lt hT kH102 gw (by decide))).symm
    have m130 := (exn).trans (fR_kept (x_lt hT kH102 gb (by decide))).symm
    have m131 := (ecl).trans (fR_kept (x_lt hT kH102 gw (by decide))).symm
    have m132 := (exl).trans (fR_kept (x_lt hT kH102 gb (by decide))).symm
    have m133 := (eck).trans (fR_kept (x_lt hT kH102 gw (by decide))).symm
    have m134 := (exk).trans (fR_kept (x_lt hT kH102 gb (by decide))).symm
    have m135 := (ehi).trans (fI_kept (x_lt hT kH102 gb (by decide))).symm
    have m136 := (fV_kept (x_lt hT kH102 ga (by decide))).trans kn
    refine W.eq (g2 := F0 m 1390 ls [.int x103]) rfl ?_
    clear eck ecl ecn ehi es1 es10 es13 es16 es4 es5 eta etb ew exk exl exn ey1 ey10 ey13 ey16 ey4 ey5 f0ck f0cl f0cn f0xk f0xl f0xn kn
    refine lv_pop hx hb dL_law_1390 rfl ?_
    refine lv_aload_n hx hb dL_law_1391 rfl (lv_at hl 1 rfl) ?_
    refine lv_aload_n hx hb dL_law_1392 rfl (lv_at hl 3 rfl) ?_
    refine lv_iload_n hx hb dL_law_1393 rfl (lv_at hl 0 rfl) ?_
    refine lv_iconst (v := 1) hx hb dL_law_1394 (by decide) ?_
    refine lv_iadd hx hb dL_law_1395 ?_
    refine lv_topi (fun x137 ex137 => ?_)
    obtain ⟨tx137, ejx137, evx137⟩ := lw_ix (k := 1) ex137 hI hL rfl (by decide)
    clear tx137
    refine va_sld hx hb hX hbl (Nat.not_le.mpr hbl) hSH102 (vp_in_iff.mpr evx137) dL_law_1396 ?_
    refine W.eq (g2 := F0 m 1397 ls [.int (xs (i.toNatClampNeg + 1)), .ref b]) (congrArg (fun z => F0 m 1397 ls [.int (xs z), .ref b]) ejx137) ?_
    refine x_V (As := [.int (xs (i.toNatClampNeg + 1))]) (rest := []) C (a_X10_down l K G H102 ((xs (i.toNatClampNeg + 1))) hTH102 gb g104 g105 g106 g107) yo_X10_down wM_L_148 ⟨⟨by decide, by decide⟩, show _ ≤ 284929 from Nat.le_trans hc (by decide), show _ ≤ 8247460 from Nat.le_trans hs (by decide)⟩ (x_rv C hTH102 (ci := 10) rfl gb rg_112) rfl hl.1 rfl (Nat.le_of_ble_eq_true rfl) dL_law_1397 hSH102 (AE_new hN hSH102.1) (fun vH138 H138 locsH138 pH138 zH138 kH138 hSH138 => ?_)
    obtain ⟨x139, hvH138, g140, g141, g142, g143, mf144, hTH138⟩ := pH138
    subst hvH138
    have f145 : ∀ j : Nat, j < 8 → fI H138 cn j = fI H cn j := fun j hj => (fI_kept (x_lt hTH102 kH138 gcn (by decide))).trans (f108 j hj)
    have f146 : ∀ j : Nat, j < 8 → fI H138 xn j = fI H xn j := fun j hj => (fI_kept (x_lt hTH102 kH138 gxn (by decide))).trans (f109 j hj)
    have f147 : ∀ j : Nat, j < 8 → fI H138 cl j = fI H cl j := fun j hj => (fI_kept (x_lt hTH102 kH138 gcl (by decide))).trans (f110 j hj)
    have f148 : ∀ j : Nat, j < 8 → fI H138 xl j = fI H xl j := fun j hj => (fI_kept (x_lt hTH102 kH138 gxl (by decide))).trans (f111 j hj)
    have f149 : ∀ j : Nat, j < 8 → fI H138 ck j = fI H ck j := fun j hj => (fI_kept (x_lt hTH102 kH138 gck (by decide))).trans (f112 j hj)
    have f150 : ∀ j : Nat, j < 8 → fI H138 xk j = fI H xk j := fun j hj => (fI_kept (x_lt hTH102 kH138 gxk (by decide))).trans (f113 j hj)
    have m151 := (m114).trans (fR_kept (x_lt hTH102 kH138 ga (by decide))).symm
    have m152 := (m115).trans (fI_kept (x_lt hTH102 kH138 ga (by decide))).symm
    have m153 := (m117).trans (fI_kept (x_lt hTH102 kH138 gw (by decide))).symm
    have m154 := (m119).trans (fI_kept (x_lt hTH102 kH138 gw (by decide))).symm
    have m155 := (m121).trans (fI_kept (x_lt hTH102 kH138 gw (by decide))).symm
    have m156 := (m123).trans (fI_kept (x_lt hTH102 kH138 gw (by decide))).symm
    have m157 := (m125).trans (fI_kept (x_lt hTH102 kH138 gw (by decide))).symm
    have m158 := (m127).trans (fI_kept (x_lt hTH102 kH138 gw (by decide))).symm
    have m159 := (m129).trans (fR_kept (x_lt hTH102 kH138 gw (by decide))).symm
    have m160 := (m131).trans (fR_kept (x_lt hTH102 kH138 gw (by decide))).symm
    have m161 := (m133).trans (fR_kept (x_lt hTH102 kH138 gw (by decide))).symm
    have m162 := (fV_kept (x_lt hTH102 kH138 ga (by decide))).trans m136
    have m163 := (m116).trans (MF.i mf144 (k := 18) (by decide) (by decide)).symm
    have m164 := (m118).trans (MF.i mf144 (k := 1) (by decide) (by decide)).symm
    have m165 := (m120).trans (MF.i mf144 (k := 2) (by decide) (by decide)).symm
    have m166 := (m122).trans (MF.i mf144 (k := 3) (by decide) (by decide)).symm
    have m167 := (m124).trans (MF.i mf144 (k := 59) (by decide) (by decide)).symm
    have m168 := (m126).trans (MF.i mf144 (k := 62) (by decide) (by decide)).symm
    have m169 := (m128).trans (MF.i mf144 (k := 65) (by decide) (by decide)).symm
    have m170 := (m130).trans (MF.r mf144 (k := 64) (by decide) (by decide)).symm
    have m171 := (m132).trans (MF.r mf144 (k := 66) (by decide) (by decide)).symm
    have m172 := (m134).trans (MF.r mf144 (k := 67) (by decide) (by decide)).symm
    have m173 := (m135).trans (MF.i mf144 (k := 70) (by decide) (by decide)).symm
    refine W.eq (g2 := F0 m 1400 ls [.int x139]) rfl ?_
    clear f108 f109 f110 f111 f112 f113 m114 m115 m116 m117 m118 m119 m120 m121 m122 m123 m124 m125 m126 m127 m128 m129 m130 m131 m132 m133 m134 m135 m136
    refine lv_pop hx hb dL_law_1400 rfl ?_
    refine lv_goto (tgt := 1509) hx hb dL_law_1401 (by decide) ?_
    exact nx G H138 locsH138 _ _ ls ⟨hTH138, hN, ga, gb, g140, g141, g142, g143, ⟨(by rw [← m152, ← m163]; exact rt), (by rw [← m151, ← m153, ← m164]; exact r1), (by rw [← m151, ← m154, ← m165]; exact r4), (by rw [← m151, ← m155, ← m166]; exact r5), (by rw [← m151, ← m156, ← m167]; exact r10), (by rw [← m151, ← m157, ← m168]; exact r13), (by rw [← m151, ← m158, ← m169]; exact r16)⟩, Or.inl ⟨m162, (by rw [← m173]; exact h70)⟩, ⟨(by rw [← m151, ← m159, ← m170, ← m168]; exact EQR.of hrn (fun j hj => f145 j (by omega)) (fun j hj => f146 j (by omega)) (by omega)), (by rw [← m151, ← m160, ← m171, ← m169]; exact EQR.of hrl (fun j hj => f147 j (by omega)) (fun j hj => f148 j (by omega)) (by omega)), (by rw [← m151, ← m161, ← m172, ← m169]; exact EQR.of hrk (fun j hj => f149 j (by omega)) (fun j hj => f150 j (by omega)) (by omega))⟩, hSH138⟩ hl ⟨hc, hs, fun _ => ⟨hc0, hs0⟩⟩
  · skip
    obtain ⟨hi, ehi⟩ : ∃ z : Int32, z = fI H b (K.1.2 10 70) := ⟨_, rfl⟩
    rw [← ehi] at h70
    obtain ⟨iq, eiq⟩ : ∃ z : Nat, z = fR H b (K.1.2 10 73) := ⟨_, rfl⟩
    have giq := ty_fr (q := iq) (k := 73) (u := 162) eiq hT gb rg_112 rfl
    rw [← eiq] at q1 q4 q5 q10 q13 q16
    obtain ⟨k1, ek1⟩ : ∃ z : Int32, z = fI H kq (K.1.2 8 1) := ⟨_, rfl⟩
    rw [← ek1] at q1
    obtain ⟨i1, ei1⟩ : ∃ z : Int32, z = fI H iq ((0 : Int32).toNatClampNeg) := ⟨_, rfl⟩
    rw [← ei1] at q1
    obtain ⟨k4, ek4⟩ : ∃ z : Int32, z = fI H kq (K.1.2 8 4) := ⟨_, rfl⟩
    rw [← ek4] at q4
    obtain ⟨i4, ei4⟩ : ∃ z : Int32, z = fI H iq ((1 : Int32).toNatClampNeg) := ⟨_, rfl⟩
    rw [← ei4] at q4
    obtain ⟨k5, ek5⟩ : ∃ z : Int32, z = fI H kq (K.1.2 8 5) := ⟨_, rfl⟩
    rw [← ek5] at q5
    obtain ⟨i5, ei5⟩ : ∃ z : Int32, z = fI H iq ((2 : Int32).toNatClampNeg) := ⟨_, rfl⟩
    rw [← ei5] at q5
    obtain ⟨k10, ek10⟩ : ∃ z : Int32, z = fI H kq (K.1.2 8 10) := ⟨_, rfl⟩
    rw [← ek10] at q10
    obtain ⟨i10, ei10⟩ : ∃ z : Int32, z = fI H iq ((3 : Int32).toNatClampNeg) := ⟨_, rfl⟩
    rw [← ei10] at q10
    obtain ⟨k13, ek13⟩ : ∃ z : Int32, z = fI H kq (K.1.2 8 13) := ⟨_, rfl⟩
    rw [← ek13] at q13
    obtain ⟨i13, ei13⟩ : ∃ z : Int32, z = fI H iq ((4 : Int32).toNatClampNeg) := ⟨_, rfl⟩
    rw [← ei13] at q13
    obtain ⟨k16, ek16⟩ : ∃ z : Int32, z = fI H kq (K.1.2 8 16) := ⟨_, rfl⟩
    rw [← ek16] at q16
    obtain ⟨i16, ei16⟩ : ∃ z : Int32, z = fI H iq ((5 : Int32).toNatClampNeg) := ⟨_, rfl⟩
    rw [← ei16] at q16
    obtain ⟨dn, edn⟩ : ∃ z : Nat, z = fR H kq (K.1.2 8 12) := ⟨_, rfl⟩
    have gdn := ty_fr (q := dn) (k := 12) (u := 65) edn hT gkq rg_34 rfl
    obtain ⟨dl, edl⟩ : ∃ z : Nat, z = fR H kq (K.1.2 8 14) := ⟨_, rfl⟩
    have gdl := ty_fr (q := dl) (k := 14) (u := 66) edl hT gkq rg_34 rfl
    obtain ⟨dk, edk⟩ : ∃ z : Nat, z = fR H kq (K.1.2 8 15) := ⟨_, rfl⟩
    have gdk := ty_fr (q := dk) (k := 15) (u := 67) edk hT gkq rg_34 rfl
    have hsn : EQR (fun j => fI H dn j) (fun j => fI H iq (8877 + 4 * j)) k13.toInt := by rw [edn, eiq, ek13]; exact hq1
    have hsl : EQR (fun j => fI H dl j) (fun j => fI H iq (8878 + 4 * j)) k16.toInt := by rw [edl, eiq, ek16]; exact hq2
    have hsk : EQR (fun j => fI H dk j) (fun j => fI H iq (8879 + 4 * j)) k16.toInt := by rw [edk, eiq, ek16]; exact hq3
    have bk13 := ty_fi (x := k13) (k := 13) ek13 hT gkq rg_34 rfl
    have bk16 := ty_fi (x := k16) (k := 16) ek16 hT gkq rg_34 rfl
    have f0dn : ∀ j : Nat, j < 8 → fI H dn j = fI H dn j := fun _ _ => rfl
    have f0dl : ∀ j : Nat, j < 8 → fI H dl j = fI H dl j := fun _ _ => rfl
    have f0dk : ∀ j : Nat, j < 8 → fI H dk j = fI H dk j := fun _ _ => rfl
    have f0i : ∀ j : Nat, fI H iq j = fI H iq j := fun _ => rfl
    refine lv_aload_n hx hb dL_law_1381 rfl (lv_at hl 2 rfl) ?_
    refine lv_aload_n hx hb dL_law_1382 rfl (lv_at hl 3 rfl) ?_
    refine lv_iload_n hx hb dL_law_1383 rfl (lv_at hl 0 rfl) ?_
    refine lv_iconst (v := 1) hx hb dL_law_1384 (by decide) ?_
    refine lv_iadd hx hb dL_law_1385 ?_
    refine lv_topi (fun x174 ex174 => ?_)
    obtain ⟨tx174, ejx174, evx174⟩ := lw_ix (k := 1) ex174 hI hL rfl (by decide)
    clear tx174
    refine va_sld hx hb hX hbl (Nat.not_le.mpr hbl) hS (vp_in_iff.mpr evx174) dL_law_1386 ?_
    refine W.eq (g2 := F0 m 1387 ls [.int (xs (i.toNatClampNeg + 1)), .ref a]) (congrArg (fun z => F0 m 1387 ls [.int (xs z), .ref a]) ejx174) ?_
    refine x_V (As := [.int (xs (i.toNatClampNeg + 1))]) (rest := []) C (a_X9_down l K G H ((xs (i.toNatClampNeg + 1))) hT ga) yo_X9_down wM_L_145 ⟨⟨by decide, by decide⟩, show _ ≤ 284929 from Nat.le_trans hc (by decide), show _ ≤ 8247460 from Nat.le_trans hs (by decide)⟩ (x_rv C hT (ci := 9) rfl ga rg_68) rfl hl.1 rfl (Nat.le_of_ble_eq_true rfl) dL_law_1387 hS (AE_new hN hS.1) (fun vH175 H175 locsH175 pH175 zH175 kH175 hSH175 => ?_)
    obtain ⟨x176, hvH175, hTH175⟩ := pH175
    subst hvH175
    have g177 : CG (avw K H175 b) := CG.congr (fun k hk j => av_eff hT kH175 gb (by decide) (CG_eff [83, 84] (by decide) k hk)) cg
    have g178 : TU (avw K H175 b) (svw K H175 b) := TU.congr (fun k hk j => av_eff hT kH175 gb (by decide) (TU_eff [83, 84] (by decide) k hk)) (fun k hk => sv_eff hT kH175 gb (by decide)) tu
    have g179 : WD (avw K H175 b) := WD.congr (fun k hk j => av_eff hT kH175 gb (by decide) (WD_eff [83, 84] (by decide) k hk)) wd
    have g180 : IM (avw K H175 b) := IM.congr (fun k hk j => av_eff hT kH175 gb (by decide) (IM_eff [83, 84] (by decide) k hk)) im
    have f181 : ∀ j : Nat, j < 8 → fI H175 cn j = fI H cn j := fun j hj => (fI_kept (x_lt hT kH175 gcn (by decide))).trans (f0cn j hj)
    have f182 : ∀ j : Nat, j < 8 → fI H175 xn j = fI H xn j := fun j hj => (fI_kept (x_lt hT kH175 gxn (by decide))).trans (f0xn j hj)
    have f183 : ∀ j : Nat, j < 8 → fI H175 cl j = fI H cl j := fun j hj => (fI_kept (x_lt hT kH175 gcl (by decide))).trans (f0cl j hj)
    have f184 : ∀ j : Nat, j < 8 → fI H175 xl j = fI H xl j := fun j hj => (fI_kept (x_lt hT kH175 gxl (by decide))).trans (f0xl j hj)
    have f185 : ∀ j : Nat, j < 8 → fI H175 ck j = fI H ck j := fun j hj => (fI_kept (x_lt hT kH175 gck (by decide))).trans (f0ck j hj)
    have f186 : ∀ j : Nat, j < 8 → fI H175 xk j = fI H xk j := fun j hj => (fI_kept (x_lt hT kH175 gxk (by decide))).trans (f0xk j hj)
    have f187 : ∀ j : Nat, j < 8 → fI H175 dn j = fI H dn j := fun j hj => (fI_kept (x_lt hT kH175 gdn (by decide))).trans (f0dn j hj)
    have f188 : ∀ j : Nat, j < 8 → fI H175 dl j = fI H dl j := fun j hj => (fI_kept (x_lt hT kH175 gdl (by decide))).trans (f0dl j hj)
    have f189 : ∀ j : Nat, j < 8 → fI H175 dk j = fI H dk j := fun j hj => (fI_kept (x_lt hT kH175 gdk (by decide))).trans (f0dk j hj)
    have f190 : ∀ j : Nat, fI H175 iq j = fI H iq j := fun j => (fI_kept (x_lt hT kH175 giq (by decide))).trans (f0i j)
    have m191 := (ew).trans (fR_kept (x_lt hT kH175 ga (by decide))).symm
    have m192 := (eta).trans (fI_kept (x_lt hT kH175 ga (by decide))).symm
    have m193 := (etb).trans (fI_kept (x_lt hT kH175 gb (by decide))).symm
    have m194 := (es1).trans (fI_kept (x_lt hT kH175 gw (by decide))).symm
    have m195 := (ey1).trans (fI_kept (x_lt hT kH175 gb (by decide))).symm
    have m196 := (es4).trans (fI_kept (x_lt hT kH175 gw (by decide))).symm
    have m197 := (ey4).trans (fI_kept (x_lt hT kH175 gb (by decide))).symm
    have m198 := (es5).trans (fI_kept (x_lt hT kH175 gw (by decide))).symm
    have m199 := (ey5).trans (fI_kept (x_lt hT kH175 gb (by decide))).symm
    have m200 := (es10).trans (fI_kept (x_lt hT kH175 gw (by decide))).symm
    have m201 := (ey10).trans (fI_kept (x_lt hT kH175 gb (by decide))).symm
    have m202 := (es13).trans (fI_kept (x_lt hT kH175 gw (by decide))).symm
    have m203 := (ey13).trans (fI_kept (x_lt hT kH175 gb (by decide))).symm
    have m204 := (es16).trans (fI_kept (x_lt hT kH175 gw (by decide))).symm
    have m205 := (ey16).trans (fI_kept (x_lt hT kH175 gb (by decide))).symm
    have m206 := (ecn).trans (fR_kept (x_lt hT kH175 gw (by decide))).symm
    have m207 := (exn).trans (fR_kept (x_lt hT kH175 gb (by decide))).symm
    have m208 := (ecl).trans (fR_kept (x_lt hT kH175 gw (by decide))).symm
    have m209 := (exl).trans (fR_kept (x_lt hT kH175 gb (by decide))).symm
    have m210 := (eck).trans (fR_kept (x_lt hT kH175 gw (by decide))).symm
    have m211 := (exk).trans (fR_kept (x_lt hT kH175 gb (by decide))).symm
    have m212 := (ehi).trans (fI_kept (x_lt hT kH175 gb (by decide))).symm
    have m213 := (fV_kept (x_lt hT kH175 ga (by decide))).trans kn
    have m214 := (eiq).trans (fR_kept (x_lt hT kH175 gb (by decide))).symm
    have m215 := (ek1).trans (fI_kept (x_lt hT kH175 gkq (by decide))).symm
    have m216 := (ei1).trans (fI_kept (x_lt hT kH175 giq (by decide))).symm
    have m217 := (ek4).trans (fI_kept (x_lt hT kH175 gkq (by decide))).symm
    have m218 := (ei4).trans (fI_kept (x_lt hT kH175 giq (by decide))).symm
    have m219 := (ek5).trans (fI_kept (x_lt hT kH175 gkq (by decide))).symm
    have m220 := (ei5).trans (fI_kept (x_lt hT kH175 giq (by decide))).symm
    have m221 := (ek10).trans (fI_kept (x_lt hT kH175 gkq (by decide))).symm
    have m222 := (ei10).trans (fI_kept (x_lt hT kH175 giq (by decide))).symm
    have m223 := (ek13).trans (fI_kept (x_lt hT kH175 gkq (by decide))).symm
    have m224 := (ei13).trans (fI_kept (x_lt hT kH175 giq (by decide))).symm
    have m225 := (ek16).trans (fI_kept (x_lt hT kH175 gkq (by decide))).symm
    have m226 := (ei16).trans (fI_kept (x_lt hT kH175 giq (by decide))).symm
    have m227 := (edn).trans (fR_kept (x_lt hT kH175 gkq (by decide))).symm
    have m228 := (edl).trans (fR_kept (x_lt hT kH175 gkq (by decide))).symm
    have m229 := (edk).trans (fR_kept (x_lt hT kH175 gkq (by decide))).symm
    refine W.eq (g2 := F0 m 1390 ls [.int x176]) rfl ?_
    clear eck ecl ecn edk edl edn ehi ei1 ei10 ei13 ei16 ei4 ei5 eiq ek1 ek10 ek13 ek16 ek4 ek5 es1 es10 es13 es16 es4 es5 eta etb ew exk exl exn ey1 ey10 ey13 ey16 ey4 ey5 f0ck f0cl f0cn f0dk f0dl f0dn f0i f0xk f0xl f0xn kn
    refine lv_pop hx hb dL_law_1390 rfl ?_
    refine lv_aload_n hx hb dL_law_1391 rfl (lv_at hl 1 rfl) ?_
    refine lv_aload_n hx hb dL_law_1392 rfl (lv_at hl 3 rfl) ?_
    refine lv_iload_n hx hb dL_law_1393 rfl (lv_at hl 0 rfl) ?_
    refine lv_iconst (v := 1) hx hb dL_law_1394 (by decide) ?_
    refine lv_iadd hx hb dL_law_1395 ?_
    refine lv_topi (fun x230 ex230 => ?_)
    obtain ⟨tx230, ejx230, evx230⟩ := lw_ix (k := 1) ex230 hI hL rfl (by decide)
    clear tx230
    refine va_sld hx hb hX hbl (Nat.not_le.mpr hbl) hSH175 (vp_in_iff.mpr evx230) dL_law_1396 ?_
    refine W.eq (g2 := F0 m 1397 ls [.int (xs (i.toNatClampNeg + 1)), .ref b]) (congrArg (fun z => F0 m 1397 ls [.int (xs z), .ref b]) ejx230) ?_
    refine x_V (As := [.int (xs (i.toNatClampNeg + 1))]) (rest := []) C (a_X10_down l K G H175 ((xs (i.toNatClampNeg + 1))) hTH175 gb g177 g178 g179 g180) yo_X10_down wM_L_148 ⟨⟨by decide, by decide⟩, show _ ≤ 284929 from Nat.le_trans hc (by decide), show _ ≤ 8247460 from Nat.le_trans hs (by decide)⟩ (x_rv C hTH175 (ci := 10) rfl gb rg_112) rfl hl.1 rfl (Nat.le_of_ble_eq_true rfl) dL_law_1397 hSH175 (AE_new hN hSH175.1) (fun vH231 H231 locsH231 pH231 zH231 kH231 hSH231 => ?_)
    obtain ⟨x232, hvH231, g233, g234, g235, g236, mf237, hTH231⟩ := pH231
    subst hvH231
    have f238 : ∀ j : Nat, j < 8 → fI H231 cn j = fI H cn j := fun j hj => (fI_kept (x_lt hTH175 kH231 gcn (by decide))).trans (f181 j hj)
    have f239 : ∀ j : Nat, j < 8 → fI H231 xn j = fI H xn j := fun j hj => (fI_kept (x_lt hTH175 kH231 gxn (by decide))).trans (f182 j hj)
    have f240 : ∀ j : Nat, j < 8 → fI H231 cl j = fI H cl j := fun j hj => (fI_kept (x_lt hTH175 kH231 gcl (by decide))).trans (f183 j hj)
    have f241 : ∀ j : Nat, j < 8 → fI H231 xl j = fI H xl j := fun j hj => (fI_kept (x_lt hTH175 kH231 gxl (by decide))).trans (f184 j hj)
    have f242 : ∀ j : Nat, j < 8 → fI H231 ck j = fI H ck j := fun j hj => (fI_kept (x_lt hTH175 kH231 gck (by decide))).trans (f185 j hj)
    have f243 : ∀ j : Nat, j < 8 → fI H231 xk j = fI H xk j := fun j hj => (fI_kept (x_lt hTH175 kH231 gxk (by decide))).trans (f186 j hj)
    have f244 : ∀ j : Nat, j < 8 → fI H231 dn j = fI H dn j := fun j hj => (fI_kept (x_lt hTH175 kH231 gdn (by decide))).trans (f187 j hj)
    have f245 : ∀ j : Nat, j < 8 → fI H231 dl j = fI H dl j := fun j hj => (fI_kept (x_lt hTH175 kH231 gdl (by decide))).trans (f188 j hj)
    have f246 : ∀ j : Nat, j < 8 → fI H231 dk j = fI H dk j := fun j hj => (fI_kept (x_lt hTH175 kH231 gdk (by decide))).trans (f189 j hj)
    have f247 : ∀ j : Nat, fI H231 iq j = fI H iq j := fun j => (fI_kept (x_lt hTH175 kH231 giq (by decide))).trans (f190 j)
    have m248 := (m191).trans (fR_kept (x_lt hTH175 kH231 ga (by decide))).symm
    have m249 := (m192).trans (fI_kept (x_lt hTH175 kH231 ga (by decide))).symm
    have m250 := (m194).trans (fI_kept (x_lt hTH175 kH231 gw (by decide))).symm
    have m251 := (m196).trans (fI_kept (x_lt hTH175 kH231 gw (by decide))).symm
    have m252 := (m198).trans (fI_kept (x_lt hTH175 kH231 gw (by decide))).symm
    have m253 := (m200).trans (fI_kept (x_lt hTH175 kH231 gw (by decide))).symm
    have m254 := (m202).trans (fI_kept (x_lt hTH175 kH231 gw (by decide))).symm
    have m255 := (m204).trans (fI_kept (x_lt hTH175 kH231 gw (by decide))).symm
    have m256 := (m206).trans (fR_kept (x_lt hTH175 kH231 gw (by decide))).symm
    have m257 := (m208).trans (fR_kept (x_lt hTH175 kH231 gw (by decide))).symm
    have m258 := (m210).trans (fR_kept (x_lt hTH175 kH231 gw (by decide))).symm
    have m259 := (fV_kept (x_lt hTH175 kH231 ga (by decide))).trans m213
    have m260 := (m215).trans (fI_kept (x_lt hTH175 kH231 gkq (by decide))).symm
    have m261 := (m216).trans (fI_kept (x_lt hTH175 kH231 giq (by decide))).symm
    have m262 := (m217).trans (fI_kept (x_lt hTH175 kH231 gkq (by decide))).symm
    have m263 := (m218).trans (fI_kept (x_lt hTH175 kH231 giq (by decide))).symm
    have m264 := (m219).trans (fI_kept (x_lt hTH175 kH231 gkq (by decide))).symm
    have m265 := (m220).trans (fI_kept (x_lt hTH175 kH231 giq (by decide))).symm
    have m266 := (m221).trans (fI_kept (x_lt hTH175 kH231 gkq (by decide))).symm
    have m267 := (m222).trans (fI_kept (x_lt hTH175 kH231 giq (by decide))).symm
    have m268 := (m223).trans (fI_kept (x_lt hTH175 kH231 gkq (by decide))).symm
    have m269 := (m224).trans (fI_kept (x_lt hTH175 kH231 giq (by decide))).symm
    have m270 := (m225).trans (fI_kept (x_lt hTH175 kH231 gkq (by decide))).symm
    have m271 := (m226).trans (fI_kept (x_lt hTH175 kH231 giq (by decide))).symm
    have m272 := (m227).trans (fR_kept (x_lt hTH175 kH231 gkq (by decide))).symm
    have m273 := (m228).trans (fR_kept (x_lt hTH175 kH231 gkq (by decide))).symm
    have m274 := (m229).trans (fR_kept (x_lt hTH175 kH231 gkq (by decide))).symm
    have m275 := (m193).trans (MF.i mf237 (k := 18) (by decide) (by decide)).symm
    have m276 := (m195).trans (MF.i mf237 (k := 1) (by decide) (by decide)).symm
    have m277 := (m197).trans (MF.i mf237 (k := 2) (by decide) (by decide)).symm
    have m278 := (m199).trans (MF.i mf237 (k := 3) (by decide) (by decide)).symm
    have m279 := (m201).trans (MF.i mf237 (k := 59) (by decide) (by decide)).symm
    have m280 := (m203).trans (MF.i mf237 (k := 62) (by decide) (by decide)).symm
    have m281 := (m205).trans (MF.i mf237 (k := 65) (by decide) (by decide)).symm
    have m282 := (m207).trans (MF.r mf237 (k := 64) (by decide) (by decide)).symm
    have m283 := (m209).trans (MF.r mf237 (k := 66) (by decide) (by decide)).symm
    have m284 := (m211).trans (MF.r mf237 (k := 67) (by decide) (by decide)).symm
    have m285 := (m212).trans (MF.i mf237 (k := 70) (by decide) (by decide)).symm
    have m286 := (m214).trans (MF.r mf237 (k := 73) (by decide) (by decide)).symm
    refine W.eq (g2 := F0 m 1400 ls [.int x232]) rfl ?_
    clear f181 f182 f183 f184 f185 f186 f187 f188 f189 f190 m191 m192 m193 m194 m195 m196 m197 m198 m199 m200 m201 m202 m203 m204 m205 m206 m207 m208 m209 m210 m211 m212 m213 m214 m215 m216 m217 m218 m219 m220 m221 m222 m223 m224 m225 m226 m227 m228 m229
    refine lv_pop hx hb dL_law_1400 rfl ?_
    refine lv_goto (tgt := 1509) hx hb dL_law_1401 (by decide) ?_
    exact nx G H231 locsH231 _ _ ls ⟨hTH231, hN, ga, gb, g233, g234, g235, g236, ⟨(by rw [← m249, ← m275]; exact rt), (by rw [← m248, ← m250, ← m276]; exact r1), (by rw [← m248, ← m251, ← m277]; exact r4), (by rw [← m248, ← m252, ← m278]; exact r5), (by rw [← m248, ← m253, ← m279]; exact r10), (by rw [← m248, ← m254, ← m280]; exact r13), (by rw [← m248, ← m255, ← m281]; exact r16)⟩, Or.inr ⟨kq, m259, gkq, (by rw [← m285]; exact h70), (by rw [← m260, ← m286, ← m261]; exact q1), (by rw [← m262, ← m286, ← m263]; exact q4), (by rw [← m264, ← m286, ← m265]; exact q5), (by rw [← m266, ← m286, ← m267]; exact q10), (by rw [← m268, ← m286, ← m269]; exact q13), (by rw [← m270, ← m286, ← m271]; exact q16), (by rw [← m272, ← m286, ← m268]; exact EQR.of hsn (fun j hj => f244 j (by omega)) (fun j hj => f247 _) (by omega)), (by rw [← m273, ← m286, ← m270]; exact EQR.of hsl (fun j hj => f245 j (by omega)) (fun j hj => f247 _) (by omega)), (by rw [← m274, ← m286, ← m270]; exact EQR.of hsk (fun j hj => f246 j (by omega)) (fun j hj => f247 _) (by omega))⟩, ⟨(by rw [← m248, ← m256, ← m282, ← m280]; exact EQR.of hrn (fun j hj => f238 j (by omega)) (fun j hj => f239 j (by omega)) (by omega)), (by rw [← m248, ← m257, ← m283, ← m281]; exact EQR.of hrl (fun j hj => f240 j (by omega)) (fun j hj => f241 j (by omega)) (by omega)), (by rw [← m248, ← m258, ← m284, ← m281]; exact EQR.of hrk (fun j hj => f242 j (by omega)) (fun j hj => f243 j (by omega)) (by omega))⟩, hSH231⟩ hl ⟨hc, hs, fun h => by have h1 := h.symm.trans m259; cases h1⟩
set_option maxRecDepth 100000 in
set_option maxHeartbeats 8000000 in
theorem lw_c32 {p : Program} {l : Launch} {e : Env} {s : State} {m : MethodId} {below : List Frame} {meth : Method} {c : Code} {K : KE} {b0 L : Nat} {xs : Nat → Int32} {G : Nat → Option Nat} {H : Heap} {locs : List Loc} {a b : Nat} {cells slots : Nat} {ls : Array Slot} {i : Int32} {n : Nat} (D : LC p K s m meth c b0 L xs) (S : SX K s G H locs a b) (hl : lv_has ls 4 [(3, .int i), (2, .ref b), (1, .ref a), (0, .ref b0)]) (hi : 0 ≤ i.toInt ∧ i.toInt + 6 ≤ L) (hn : n ≤ 511) (hB : BD K H a cells slots) (nx : ∀ (G : Nat → Option Nat) (H : Heap) (locs : List Loc) (cells slots : Nat) (ls : Array Slot), SX K s G H locs a b → lv_has ls 4 [(3, .int i), (2, .ref b), (1, .ref a), (0, .ref b0)] → BD K H a cells slots → W p l e room_1 s m #[Value.ref b0] below meth c H locs cells slots (lw_Z below #[Value.ref b0] s) (F0 m 1509 ls [])) : W p l e room_1 s m #[Value.ref b0] below meth c H locs cells slots (lw_Z below #[Value.ref b0] s) (F0 m 1404 ls []) := by
  have hI := hi
  obtain ⟨C, hX, hbl, hL⟩ := id D
  obtain ⟨hx, hb, hml, hown, hts, hKT, hr, hlocks, hnm⟩ := id C
  obtain ⟨hT, hN, ga, gb, cg, tu, wd, im, ⟨rt, r1, r4, r5, r10, r13, r16⟩, hk, hnb, hS⟩ := S
  obtain ⟨hc, hs, hB0⟩ := hB
  have n_1 : (1 : Int32).toInt = 1 := rfl
  have n_2 : (2 : Int32).toInt = 2 := rfl
  have n_3 : (3 : Int32).toInt = 3 := rfl
  obtain ⟨w, ew⟩ : ∃ z : Nat, z = fR H a (K.1.2 9 0) := ⟨_, rfl⟩
  have gw := ty_fr (q := w) (k := 0) (u := 0) ew hT ga rg_68 rfl
  rw [← ew] at r1 r4 r5 r10 r13 r16
  obtain ⟨ta, eta⟩ : ∃ z : Int32, z = fI H a (K.1.2 9 3) := ⟨_, rfl⟩
  rw [← eta] at rt
  obtain ⟨tb, etb⟩ : ∃ z : Int32, z = fI H b (K.1.2 10 18) := ⟨_, rfl⟩
  rw [← etb] at rt
  obtain ⟨s1, es1⟩ : ∃ z : Int32, z = fI H w (K.1.2 8 1) := ⟨_, rfl⟩
  rw [← es1] at r1
  obtain ⟨y1, ey1⟩ : ∃ z : Int32, z = fI H b (K.1.2 10 1) := ⟨_, rfl⟩
  rw [← ey1] at r1
  obtain ⟨s4, es4⟩ : ∃ z : Int32, z = fI H w (K.1.2 8 4) := ⟨_, rfl⟩
  rw [← es4] at r4
  obtain ⟨y4, ey4⟩ : ∃ z : Int32, z = fI H b (K.1.2 10 2) := ⟨_, rfl⟩
  rw [← ey4] at r4
  obtain ⟨s5, es5⟩ : ∃ z : Int32, z = fI H w (K.1.2 8 5) := ⟨_, rfl⟩
  rw [← es5] at r5
  obtain ⟨y5, ey5⟩ : ∃ z : Int32, z = fI H b (K.1.2 10 3) := ⟨_, rfl⟩
  rw [← ey5] at r5
  obtain ⟨s10, es10⟩ : ∃ z : Int32, z = fI H w (K.1.2 8 10) := ⟨_, rfl⟩
  rw [← es10] at r10
  obtain ⟨y10, ey10⟩ : ∃ z : Int32, z = fI H b (K.1.2 10 59) := ⟨_, rfl⟩
  rw [← ey10] at r10
  obtain ⟨s13, es13⟩ : ∃ z : Int32, z = fI H w (K.1.2 8 13) := ⟨_, rfl⟩
  rw [← es13] at r13
  obtain ⟨y13, ey13⟩ : ∃ z : Int32, z = fI H b (K.1.2 10 62) := ⟨_, rfl⟩
  rw [← ey13] at r13
  obtain ⟨s16, es16⟩ : ∃ z : Int32, z = fI H w (K.1.2 8 16) := ⟨_, rfl⟩
  rw [← es16] at r16
  obtain ⟨y16, ey16⟩ : ∃ z : Int32, z = fI H b (K.1.2 10 65) := ⟨_, rfl⟩
  rw [← ey16] at r16
  obtain ⟨hb1, hb2, hb3⟩ := hnb
  obtain ⟨cn, ecn⟩ : ∃ z : Nat, z = fR H w (K.1.2 8 12) := ⟨_, rfl⟩
  have gcn := ty_fr (q := cn) (k := 12) (u := 31) ecn hT gw rg_0 rfl
  obtain ⟨xn, exn⟩ : ∃ z : Nat, z = fR H b (K.1.2 10 64) := ⟨_, rfl⟩
  have gxn := ty_fr (q := xn) (k := 64) (u := 157) exn hT gb rg_112 rfl
  obtain ⟨cl, ecl⟩ : ∃ z : Nat, z = fR H w (K.1.2 8 14) := ⟨_, rfl⟩
  have gcl := ty_fr (q := cl) (k := 14) (u := 32) ecl hT gw rg_0 rfl
  obtain ⟨xl, exl⟩ : ∃ z : Nat, z = fR H b (K.1.2 10 66) := ⟨_, rfl⟩
  have gxl := ty_fr (q := xl) (k := 66) (u := 158) exl hT gb rg_112 rfl
  obtain ⟨ck, eck⟩ : ∃ z : Nat, z = fR H w (K.1.2 8 15) := ⟨_, rfl⟩
  have gck := ty_fr (q := ck) (k := 15) (u := 33) eck hT gw rg_0 rfl
  obtain ⟨xk, exk⟩ : ∃ z : Nat, z = fR H b (K.1.2 10 67) := ⟨_, rfl⟩
  have gxk := ty_fr (q := xk) (k := 67) (u := 159) exk hT gb rg_112 rfl
  have hrn : EQR (fun j => fI H cn j) (fun j => fI H xn j) y13.toInt := by rw [ecn, exn, ew, ey13]; exact hb1
  have hrl : EQR (fun j => fI H cl j) (fun j => fI H xl j) y16.toInt := by rw [ecl, exl, ew, ey16]; exact hb2
  have hrk : EQR (fun j => fI H ck j) (fun j => fI H xk j) y16.toInt := by rw [eck, exk, ew, ey16]; exact hb3
  have by13 := ty_fi (x := y13) (k := 62) ey13 hT gb rg_112 rfl
  have by16 := ty_fi (x := y16) (k := 65) ey16 hT gb rg_112 rfl
  have f0cn : ∀ j : Nat, j < 8 → fI H cn j = fI H cn j := fun _ _ => rfl
  have f0xn : ∀ j : Nat, j < 8 → fI H xn j = fI H xn j := fun _ _ => rfl
  have f0cl : ∀ j : Nat, j < 8 → fI H cl j = fI H cl j := fun _ _ => rfl
  have f0xl : ∀ j : Nat, j < 8 → fI H xl j = fI H xl j := fun _ _ => rfl
  have f0ck : ∀ j : Nat, j < 8 → fI H ck j = fI H ck j := fun _ _ => rfl
  have f0xk : ∀ j : Nat, j < 8 → fI H xk j = fI H xk j := fun _ _ => rfl
  rcases hk with ⟨kn, h70⟩ | ⟨kq, kn, gkq, h70, q1, q4, q5, q10, q13, q16, hq1, hq2, hq3⟩
  · skip
    obtain ⟨hi, ehi⟩ : ∃ z : Int32, z = fI H b (K.1.2 10 70) := ⟨_, rfl⟩
    rw [← ehi] at h70
    obtain ⟨hc0, hs0⟩ := hB0 kn
    refine lv_aload_n hx hb dL_law_1404 rfl (lv_at hl 2 rfl) ?_
    refine lv_aload_n hx hb dL_law_1405 rfl (lv_at hl 3 rfl) ?_
    refine lv_iload_n hx hb dL_law_1406 rfl (lv_at hl 0 rfl) ?_
    refine lv_iconst (v := 1) hx hb dL_law_1407 (by decide) ?_
    refine lv_iadd hx hb dL_law_1408 ?_
    refine lv_topi (fun x101 ex101 => ?_)
    obtain ⟨tx101, ejx101, evx101⟩ := lw_ix (k := 1) ex101 hI hL rfl (by decide)
    clear tx101
    refine va_sld hx hb hX hbl (Nat.not_le.mpr hbl) hS (vp_in_iff.mpr evx101) dL_law_1409 ?_
    refine W.eq (g2 := F0 m 1410 ls [.int (xs (i.toNatClampNeg + 1)), .ref a]) (congrArg (fun z => F0 m 1410 ls [.int (xs z), .ref a]) ejx101) ?_
    refine lv_aload_n hx hb dL_law_1410 rfl (lv_at hl 3 rfl) ?_
    refine lv_iload_n hx hb dL_law_1411 rfl (lv_at hl 0 rfl) ?_
    refine lv_iconst (v := 2) hx hb dL_law_1412 (by decide) ?_
    refine lv_iadd hx hb dL_law_1413 ?_
    refine lv_topi (fun x102 ex102 => ?_)
    obtain ⟨tx102, ejx102, evx102⟩ := lw_ix (k := 2) ex102 hI hL rfl (by decide)
    clear tx102
    refine va_sld hx hb hX hbl (Nat.not_le.mpr hbl) hS (vp_in_iff.mpr evx102) dL_law_1414 ?_
    refine W.eq (g2 := F0 m 1415 ls [.int (xs (i.toNatClampNeg + 2)), .int (xs (i.toNatClampNeg + 1)), .ref a]) (congrArg (fun z => F0 m 1415 ls [.int (xs z), .int (xs (i.toNatClampNeg + 1)), .ref a]) ejx102) ?_
    refine lv_aload_n hx hb dL_law_1415 rfl (lv_at hl 3 rfl) ?_
    refine lv_iload_n hx hb dL_law_1416 rfl (lv_at hl 0 rfl) ?_
    refine lv_iconst (v := 3) hx hb dL_law_1417 (by decide) ?_
    refine lv_iadd hx hb dL_law_1418 ?_
    refine lv_topi (fun x103 ex103 => ?_)
    obtain ⟨tx103, ejx103, evx103⟩ := lw_ix (k := 3) ex103 hI hL rfl (by decide)
    clear tx103
    refine va_sld hx hb hX hbl (Nat.not_le.mpr hbl) hS (vp_in_iff.mpr evx103) dL_law_1419 ?_
    refine W.eq (g2 := F0 m 1420 ls [.int (xs (i.toNatClampNeg + 3)), .int (xs (i.toNatClampNeg + 2)), .int (xs (i.toNatClampNeg + 1)), .ref a]) (congrArg (fun z => F0 m 1420 ls [.int (xs z), .int (xs (i.toNatClampNeg + 2)), .int (xs (i.toNatClampNeg + 1)), .ref a]) ejx103) ?_
    refine x_V (As := [.int (xs (i.toNatClampNeg + 1)), .int (xs (i.toNatClampNeg + 2)), .int (xs (i.toNatClampNeg + 3))]) (rest := []) C (a_X9_enough l K G H ((xs (i.toNatClampNeg + 1))) ((xs (i.toNatClampNeg + 2))) ((xs (i.toNatClampNeg + 3))) hT ga) yo_X9_enough wM_L_149 ⟨⟨by decide, by decide⟩, show _ ≤ 284929 from Nat.le_trans hc (by decide), show _ ≤ 8247460 from Nat.le_trans hs (by decide)⟩ (x_rv C hT (ci := 9) rfl ga rg_68) rfl hl.1 rfl (Nat.le_of_ble_eq_true rfl) dL_law_1420 hS (AE_new hN hS.1) (fun vH104 H104 locsH104 pH104 zH104 kH104 hSH104 => ?_)
    obtain ⟨x105, hvH104, hTH104⟩ := pH104
    subst hvH104
    have g106 : CG (avw K H104 b) := CG.congr (fun k hk j => av_eff hT kH104 gb (by decide) (CG_eff [83, 84] (by decide) k hk)) cg
    have g107 : TU (avw K H104 b) (svw K H104 b) := TU.congr (fun k hk j => av_eff hT kH104 gb (by decide) (TU_eff [83, 84] (by decide) k hk)) (fun k hk => sv_eff hT kH104 gb (by decide)) tu
    have g108 : WD (avw K H104 b) := WD.congr (fun k hk j => av_eff hT kH104 gb (by decide) (WD_eff [83, 84] (by decide) k hk)) wd
    have g109 : IM (avw K H104 b) := IM.congr (fun k hk j => av_eff hT kH104 gb (by decide) (IM_eff [83, 84] (by decide) k hk)) im
    have f110 : ∀ j : Nat, j < 8 → fI H104 cn j = fI H cn j := fun j hj => (fI_kept (x_lt hT kH104 gcn (by decide))).trans (f0cn j hj)
    have f111 : ∀ j : Nat, j < 8 → fI H104 xn j = fI H xn j := fun j hj => (fI_kept (x_lt hT kH104 gxn (by decide))).trans (f0xn j hj)
    have f112 : ∀ j : Nat, j < 8 → fI H104 cl j = fI H cl j := fun j hj => (fI_kept (x_lt hT kH104 gcl (by decide))).trans (f0cl j hj)
    have f113 : ∀ j : Nat, j < 8 → fI H104 xl j = fI H xl j := fun j hj => (fI_kept (x_lt hT kH104 gxl (by decide))).trans (f0xl j hj)
    have f114 : ∀ j : Nat, j < 8 → fI H104 ck j = fI H ck j := fun j hj => (fI_kept (x_lt hT kH104 gck (by decide))).trans (f0ck j hj)
    have f115 : ∀ j : Nat, j < 8 → fI H104 xk j = fI H xk j := fun j hj => (fI_kept (x_lt hT kH104 gxk (by decide))).trans (f0xk j hj)
    have m116 := (ew).trans (fR_kept (x_lt hT kH104 ga (by decide))).symm
    have m117 := (eta).trans (fI_kept (x_lt hT kH104 ga (by decide))).symm
    have m118 := (etb).trans (fI_kept (x_lt hT kH104 gb (by decide))).symm
    have m119 := (es1).trans (fI_kept (x_lt hT kH104 gw (by decide))).symm
    have m120 := (ey1).trans (fI_kept (x_lt hT kH104 gb (by decide))).symm
    have m121 := (es4).trans (fI_kept (x_lt hT kH104 gw (by decide))).symm
    have m122 := (ey4).trans (fI_kept (x_lt hT kH104 gb (by decide))).symm
    have m123 := (es5).trans (fI_kept (x_lt hT kH104 gw (by decide))).symm
    have m124 := (ey5).trans (fI_kept (x_lt hT kH104 gb (by decide))).symm
    have m125 := (es10).trans (fI_kept (x_lt hT kH104 gw (by decide))).symm
    have m126 := (ey10).trans (fI_kept (x_lt hT kH104 gb (by decide))).symm
    have m127 := (es13).trans (fI_kept (x_lt hT kH104 gw (by decide))).symm
    have m128 := (ey13).trans (fI_kept (x_lt hT kH104 gb (by decide))).symm
    have m129 := (es16).trans (fI_kept (x_lt hT kH104 gw (by decide))).symm
    have m130 := (ey16).trans (fI_kept (x_lt hT kH104 gb (by decide))).symm
    have m131 := (ecn).trans (fR_kept (x_lt hT kH104 gw (by decide))).symm
    have m132 := (exn).trans (fR_kept (x_lt hT kH104 gb (by decide))).symm
    have m133 := (ecl).trans (fR_kept (x_lt hT kH104 gw (by decide))).symm
    have m134 := (exl).trans (fR_kept (x_lt hT kH104 gb (by decide))).symm
    have m135 := (eck).trans (fR_kept (x_lt hT kH104 gw (by decide))).symm
    have m136 := (exk).trans (fR_kept (x_lt hT kH104 gb (by decide))).symm
    have m137 := (ehi).trans (fI_kept (x_lt hT kH104 gb (by decide))).symm
    have m138 := (fV_kept (x_lt hT kH104 ga (by decide))).trans kn
    refine W.eq (g2 := F0 m 1423 ls [.int x105]) rfl ?_
    clear eck ecl ecn ehi es1 es10 es13 es16 es4 es5 eta etb ew exk exl exn ey1 ey10 ey13 ey16 ey4 ey5 f0ck f0cl f0cn f0xk f0xl f0xn kn
    refine lv_pop hx hb dL_law_1423 rfl ?_
    refine lv_aload_n hx hb dL_law_1424 rfl (lv_at hl 1 rfl) ?_
    refine lv_aload_n hx hb dL_law_1425 rfl (lv_at hl 3 rfl) ?_
    refine lv_iload_n hx hb dL_law_1426 rfl (lv_at hl 0 rfl) ?_
    refine lv_iconst (v := 1) hx hb dL_law_1427 (by decide) ?_
    refine lv_iadd hx hb dL_law_1428 ?_
    refine lv_topi (fun x139 ex139 => ?_)
    obtain ⟨tx139, ejx139, evx139⟩ := lw_ix (k := 1) ex139 hI hL rfl (by decide)
    clear tx139
    refine va_sld hx hb hX hbl (Nat.not_le.mpr hbl) hSH104 (vp_in_iff.mpr evx139) dL_law_1429 ?_
    refine W.eq (g2 := F0 m 1430 ls [.int (xs (i.toNatClampNeg + 1)), .ref b]) (congrArg (fun z => F0 m 1430 ls [.int (xs z), .ref b]) ejx139) ?_
    refine lv_aload_n hx hb dL_law_1430 rfl (lv_at hl 3 rfl) ?_
    refine lv_iload_n hx hb dL_law_1431 rfl (lv_at hl 0 rfl) ?_
    refine lv_iconst (v := 2) hx hb dL_law_1432 (by decide) ?_
    refine lv_iadd hx hb dL_law_1433 ?_
    refine lv_topi (fun x140 ex140 => ?_)
    obtain ⟨tx140, ejx140, evx140⟩ := lw_ix (k := 2) ex140 hI hL rfl (by decide)
    clear tx140
    refine va_sld hx hb hX hbl (Nat.not_le.mpr hbl) hSH104 (vp_in_iff.mpr evx140) dL_law_1434 ?_
    refine W.eq (g2 := F0 m 1435 ls [.int (xs (i.toNatClampNeg + 2)), .int (xs (i.toNatClampNeg + 1)), .ref b]) (congrArg (fun z => F0 m 1435 ls [.int (xs z), .int (xs (i.toNatClampNeg + 1)), .ref b]) ejx140) ?_
    refine lv_aload_n hx hb dL_law_1435 rfl (lv_at hl 3 rfl) ?_
    refine lv_iload_n hx hb dL_law_1436 rfl (lv_at hl 0 rfl) ?_
    refine lv_iconst (v := 3) hx hb dL_law_1437 (by decide) ?_
    refine lv_iadd hx hb dL_law_1438 ?_
    refine lv_topi (fun x141 ex141 => ?_)
    obtain ⟨tx141, ejx141, evx141⟩ := lw_ix (k := 3) ex141 hI hL rfl (by decide)
    clear tx141
    refine va_sld hx hb hX hbl (Nat.not_le.mpr hbl) hSH104 (vp_in_iff.mpr evx141) dL_law_1439 ?_
    refine W.eq (g2 := F0 m 1440 ls [.int (xs (i.toNatClampNeg + 3)), .int (xs (i.toNatClampNeg + 2)), .int (xs (i.toNatClampNeg + 1)), .ref b]) (congrArg (fun z => F0 m 1440 ls [.int (xs z), .int (xs (i.toNatClampNeg + 2)), .int (xs (i.toNatClampNeg + 1)), .ref b]) ejx141) ?_
    refine x_V (As := [.int (xs (i.toNatClampNeg + 1)), .int (xs (i.toNatClampNeg + 2)), .int (xs (i.toNatClampNeg + 3))]) (rest := []) C (a_X10_enough l K G H104 ((xs (i.toNatClampNeg + 1))) ((xs (i.toNatClampNeg + 2))) ((xs (i.toNatClampNeg + 3))) hTH104 gb g106 g107 g108 g109) yo_X10_enough wM_L_152 ⟨⟨by decide, by decide⟩, show _ ≤ 284929 from Nat.le_trans hc (by decide), show _ ≤ 8247460 from Nat.le_trans hs (by decide)⟩ (x_rv C hTH104 (ci := 10) rfl gb rg_112) rfl hl.1 rfl (Nat.le_of_ble_eq_true rfl) dL_law_1440 hSH104 (AE_new hN hSH104.1) (fun vH142 H142 locsH142 pH142 zH142 kH142 hSH142 => ?_)
    obtain ⟨x143, hvH142, g144, g145, g146, g147, mf148, hTH142⟩ := pH142
    subst hvH142
    have f149 : ∀ j : Nat, j < 8 → fI H142 cn j = fI H cn j := fun j hj => (fI_kept (x_lt hTH104 kH142 gcn (by decide))).trans (f110 j hj)
    have f150 : ∀ j : Nat, j < 8 → fI H142 xn j = fI H xn j := fun j hj => (fI_kept (x_lt hTH104 kH142 gxn (by decide))).trans (f111 j hj)
    have f151 : ∀ j : Nat, j < 8 → fI H142 cl j = fI H cl j := fun j hj => (fI_kept (x_lt hTH104 kH142 gcl (by decide))).trans (f112 j hj)
    have f152 : ∀ j : Nat, j < 8 → fI H142 xl j = fI H xl j := fun j hj => (fI_kept (x_lt hTH104 kH142 gxl (by decide))).trans (f113 j hj)
    have f153 : ∀ j : Nat, j < 8 → fI H142 ck j = fI H ck j := fun j hj => (fI_kept (x_lt hTH104 kH142 gck (by decide))).trans (f114 j hj)
    have f154 : ∀ j : Nat, j < 8 → fI H142 xk j = fI H xk j := fun j hj => (fI_kept (x_lt hTH104 kH142 gxk (by decide))).trans (f115 j hj)
    have m155 := (m116).trans (fR_kept (x_lt hTH104 kH142 ga (by decide))).symm
    have m156 := (m117).trans (fI_kept (x_lt hTH104 kH142 ga (by decide))).symm
    have m157 := (m119).trans (fI_kept (x_lt hTH104 kH142 gw (by decide))).symm
    have m158 := (m121).trans (fI_kept (x_lt hTH104 kH142 gw (by decide))).symm
    have m159 := (m123).trans (fI_kept (x_lt hTH104 kH142 gw (by decide))).symm
    have m160 := (m125).trans (fI_kept (x_lt hTH104 kH142 gw (by decide))).symm
    have m161 := (m127).trans (fI_kept (x_lt hTH104 kH142 gw (by decide))).symm
    have m162 := (m129).trans (fI_kept (x_lt hTH104 kH142 gw (by decide))).symm
    have m163 := (m131).trans (fR_kept (x_lt hTH104 kH142 gw (by decide))).symm
    have m164 := (m133).trans (fR_kept (x_lt hTH104 kH142 gw (by decide))).symm
    have m165 := (m135).trans (fR_kept (x_lt hTH104 kH142 gw (by decide))).symm
    have m166 := (fV_kept (x_lt hTH104 kH142 ga (by decide))).trans m138
    have m167 := (m118).trans (MF.i mf148 (k := 18) (by decide) (by decide)).symm
    have m168 := (m120).trans (MF.i mf148 (k := 1) (by decide) (by decide)).symm
    have m169 := (m122).trans (MF.i mf148 (k := 2) (by decide) (by decide)).symm
    have m170 := (m124).trans (MF.i mf148 (k := 3) (by decide) (by decide)).symm
    have m171 := (m126).trans (MF.i mf148 (k := 59) (by decide) (by decide)).symm
    have m172 := (m128).trans (MF.i mf148 (k := 62) (by decide) (by decide)).symm
    have m173 := (m130).trans (MF.i mf148 (k := 65) (by decide) (by decide)).symm
    have m174 := (m132).trans (MF.r mf148 (k := 64) (by decide) (by decide)).symm
    have m175 := (m134).trans (MF.r mf148 (k := 66) (by decide) (by decide)).symm
    have m176 := (m136).trans (MF.r mf148 (k := 67) (by decide) (by decide)).symm
    have m177 := (m137).trans (MF.i mf148 (k := 70) (by decide) (by decide)).symm
    refine W.eq (g2 := F0 m 1443 ls [.int x143]) rfl ?_
    clear f110 f111 f112 f113 f114 f115 m116 m117 m118 m119 m120 m121 m122 m123 m124 m125 m126 m127 m128 m129 m130 m131 m132 m133 m134 m135 m136 m137 m138
    refine lv_pop hx hb dL_law_1443 rfl ?_
    refine lv_goto (tgt := 1509) hx hb dL_law_1444 (by decide) ?_
    exact nx G H142 locsH142 _ _ ls ⟨hTH142, hN, ga, gb, g144, g145, g146, g147, ⟨(by rw [← m156, ← m167]; exact rt), (by rw [← m155, ← m157, ← m168]; exact r1), (by rw [← m155, ← m158, ← m169]; exact r4), (by rw [← m155, ← m159, ← m170]; exact r5), (by rw [← m155, ← m160, ← m171]; exact r10), (by rw [← m155, ← m161, ← m172]; exact r13), (by rw [← m155, ← m162, ← m173]; exact r16)⟩, Or.inl ⟨m166, (by rw [← m177]; exact h70)⟩, ⟨(by rw [← m155, ← m163, ← m174, ← m172]; exact EQR.of hrn (fun j hj => f149 j (by omega)) (fun j hj => f150 j (by omega)) (by omega)), (by rw [← m155, ← m164, ← m175, ← m173]; exact EQR.of hrl (fun j hj => f151 j (by omega)) (fun j hj => f152 j (by omega)) (by omega)), (by rw [← m155, ← m165, ← m176, ← m173]; exact EQR.of hrk (fun j hj => f153 j (by omega)) (fun j hj => f154 j (by omega)) (by omega))⟩, hSH142⟩ hl ⟨hc, hs, fun _ => ⟨hc0, hs0⟩⟩
  · skip
    obtain ⟨hi, ehi⟩ : ∃ z : Int32, z = fI H b (K.1.2 10 70) := ⟨_, rfl⟩
    rw [← ehi] at h70
    obtain ⟨iq, eiq⟩ : ∃ z : Nat, z = fR H b (K.1.2 10 73) := ⟨_, rfl⟩
    have giq := ty_fr (q := iq) (k := 73) (u := 162) eiq hT gb rg_112 rfl
    rw [← eiq] at q1 q4 q5 q10 q13 q16
    obtain ⟨k1, ek1⟩ : ∃ z : Int32, z = fI H kq (K.1.2 8 1) := ⟨_, rfl⟩
    rw [← ek1] at q1
    obtain ⟨i1, ei1⟩ : ∃ z : Int32, z = fI H iq ((0 : Int32).toNatClampNeg) := ⟨_, rfl⟩
    rw [← ei1] at q1
    obtain ⟨k4, ek4⟩ : ∃ z : Int32, z = fI H kq (K.1.2 8 4) := ⟨_, rfl⟩
    rw [← ek4] at q4
    obtain ⟨i4, ei4⟩ : ∃ z : Int32, z = fI H iq ((1 : Int32).toNatClampNeg) := ⟨_, rfl⟩
    rw [← ei4] at q4
    obtain ⟨k5, ek5⟩ : ∃ z : Int32, z = fI H kq (K.1.2 8 5) := ⟨_, rfl⟩
    rw [← ek5] at q5
    obtain ⟨i5, ei5⟩ : ∃ z : Int32, z = fI H iq ((2 : Int32).toNatClampNeg) := ⟨_, rfl⟩
    rw [← ei5] at q5
    obtain ⟨k10, ek10⟩ : ∃ z : Int32, z = fI H kq (K.1.2 8 10) := ⟨_, rfl⟩
    rw [← ek10] at q10
    obtain ⟨i10, ei10⟩ : ∃ z : Int32, z = fI H iq ((3 : Int32).toNatClampNeg) := ⟨_, rfl⟩
    rw [← ei10] at q10
    obtain ⟨k13, ek13⟩ : ∃ z : Int32, z = fI H kq (K.1.2 8 13) := ⟨_, rfl⟩
    rw [← ek13] at q13
    obtain ⟨i13, ei13⟩ : ∃ z : Int32, z = fI H iq ((4 : Int32).toNatClampNeg) := ⟨_, rfl⟩
    rw [← ei13] at q13
    obtain ⟨k16, ek16⟩ : ∃ z : Int32, z = fI H kq (K.1.2 8 16) := ⟨_, rfl⟩
    rw [← ek16] at q16
    obtain ⟨i16, ei16⟩ : ∃ z : Int32, z = fI H iq ((5 : Int32).toNatClampNeg) := ⟨_, rfl⟩
    rw [← ei16] at q16
    obtain ⟨dn, edn⟩ : ∃ z : Nat, z = fR H kq (K.1.2 8 12) := ⟨_, rfl⟩
    have gdn := ty_fr (q := dn) (k := 12) (u := 65) edn hT gkq rg_34 rfl
    obtain ⟨dl, edl⟩ : ∃ z : Nat, z = fR H kq (K.1.2 8 14) := ⟨_, rfl⟩
    have gdl := ty_fr (q := dl) (k := 14) (u := 66) edl hT gkq rg_34 rfl
    obtain ⟨dk, edk⟩ : ∃ z : Nat, z = fR H kq (K.1.2 8 15) := ⟨_, rfl⟩
    have gdk := ty_fr (q := dk) (k := 15) (u := 67) edk hT gkq rg_34 rfl
    have hsn : EQR (fun j => fI H dn j) (fun j => fI H iq (8877 + 4 * j)) k13.toInt := by rw [edn, eiq, ek13]; exact hq1
    have hsl : EQR (fun j => fI H dl j) (fun j => fI H iq (8878 + 4 * j)) k16.toInt := by rw [edl, eiq, ek16]; exact hq2
    have hsk : EQR (fun j => fI H dk j) (fun j => fI H iq (8879 + 4 * j)) k16.toInt := by rw [edk, eiq, ek16]; exact hq3
    have bk13 := ty_fi (x := k13) (k := 13) ek13 hT gkq rg_34 rfl
    have bk16 := ty_fi (x := k16) (k := 16) ek16 hT gkq rg_34 rfl
    have f0dn : ∀ j : Nat, j < 8 → fI H dn j = fI H dn j := fun _ _ => rfl
    have f0dl : ∀ j : Nat, j < 8 → fI H dl j = fI H dl j := fun _ _ => rfl
    have f0dk : ∀ j : Nat, j < 8 → fI H dk j = fI H dk j := fun _ _ => rfl
    have f0i : ∀ j : Nat, fI H iq j = fI H iq j := fun _ => rfl
    refine lv_aload_n hx hb dL_law_1404 rfl (lv_at hl 2 rfl) ?_
    refine lv_aload_n hx hb dL_law_1405 rfl (lv_at hl 3 rfl) ?_
    refine lv_iload_n hx hb dL_law_1406 rfl (lv_at hl 0 rfl) ?_
    refine lv_iconst (v := 1) hx hb dL_law_1407 (by decide) ?_
    refine lv_iadd hx hb dL_law_1408 ?_
    refine lv_topi (fun x178 ex178 => ?_)
    obtain ⟨tx178, ejx178, evx178⟩ := lw_ix (k := 1) ex178 hI hL rfl (by decide)
    clear tx178
    refine va_sld hx hb hX hbl (Nat.not_le.mpr hbl) hS (vp_in_iff.mpr evx178) dL_law_1409 ?_
    refine W.eq (g2 := F0 m 1410 ls [.int (xs (i.toNatClampNeg + 1)), .ref a]) (congrArg (fun z => F0 m 1410 ls [.int (xs z), .ref a]) ejx178) ?_
    refine lv_aload_n hx hb dL_law_1410 rfl (lv_at hl 3 rfl) ?_
    refine lv_iload_n hx hb dL_law_1411 rfl (lv_at hl 0 rfl) ?_
    refine lv_iconst (v := 2) hx hb dL_law_1412 (by decide) ?_
    refine lv_iadd hx hb dL_law_1413 ?_
    refine lv_topi (fun x179 ex179 => ?_)
    obtain ⟨tx179, ejx179, evx179⟩ := lw_ix (k := 2) ex179 hI hL rfl (by decide)
    clear tx179
    refine va_sld hx hb hX hbl (Nat.not_le.mpr hbl) hS (vp_in_iff.mpr evx179) dL_law_1414 ?_
    refine W.eq (g2 := F0 m 1415 ls [.int (xs (i.toNatClampNeg + 2)), .int (xs (i.toNatClampNeg + 1)), .ref a]) (congrArg (fun z => F0 m 1415 ls [.int (xs z), .int (xs (i.toNatClampNeg + 1)), .ref a]) ejx179) ?_
    refine lv_aload_n hx hb dL_law_1415 rfl (lv_at hl 3 rfl) ?_
    refine lv_iload_n hx hb dL_law_1416 rfl (lv_at hl 0 rfl) ?_
    refine lv_iconst (v := 3) hx hb dL_law_1417 (by decide) ?_
    refine lv_iadd hx hb dL_law_1418 ?_
    refine lv_topi (fun x180 ex180 => ?_)
    obtain ⟨tx180, ejx180, evx180⟩ := lw_ix (k := 3) ex180 hI hL rfl (by decide)
    clear tx180
    refine va_sld hx hb hX hbl (Nat.not_le.mpr hbl) hS (vp_in_iff.mpr evx180) dL_law_1419 ?_
    refine W.eq (g2 := F0 m 1420 ls [.int (xs (i.toNatClampNeg + 3)), .int (xs (i.toNatClampNeg + 2)), .int (xs (i.toNatClampNeg + 1)), .ref a]) (congrArg (fun z => F0 m 1420 ls [.int (xs z), .int (xs (i.toNatClampNeg + 2)), .int (xs (i.toNatClampNeg + 1)), .ref a]) ejx180) ?_
    refine x_V (As := [.int (xs (i.toNatClampNeg + 1)), .int (xs (i.toNatClampNeg + 2)), .int (xs (i.toNatClampNeg + 3))]) (rest := []) C (a_X9_enough l K G H ((xs (i.toNatClampNeg + 1))) ((xs (i.toNatClampNeg + 2))) ((xs (i.toNatClampNeg + 3))) hT ga) yo_X9_enough wM_L_149 ⟨⟨by decide, by decide⟩, show _ ≤ 284929 from Nat.le_trans hc (by decide), show _ ≤ 8247460 from Nat.le_trans hs (by decide)⟩ (x_rv C hT (ci := 9) rfl ga rg_68) rfl hl.1 rfl (Nat.le_of_ble_eq_true rfl) dL_law_1420 hS (AE_new hN hS.1) (fun vH181 H181 locsH181 pH181 zH181 kH181 hSH181 => ?_)
    obtain ⟨x182, hvH181, hTH181⟩ := pH181
    subst hvH181
    have g183 : CG (avw K H181 b) := CG.congr (fun k hk j => av_eff hT kH181 gb (by decide) (CG_eff [83, 84] (by decide) k hk)) cg
    have g184 : TU (avw K H181 b) (svw K H181 b) := TU.congr (fun k hk j => av_eff hT kH181 gb (by decide) (TU_eff [83, 84] (by decide) k hk)) (fun k hk => sv_eff hT kH181 gb (by decide)) tu
    have g185 : WD (avw K H181 b) := WD.congr (fun k hk j => av_eff hT kH181 gb (by decide) (WD_eff [83, 84] (by decide) k hk)) wd
    have g186 : IM (avw K H181 b) := IM.congr (fun k hk j => av_eff hT kH181 gb (by decide) (IM_eff [83, 84] (by decide) k hk)) im
    have f187 : ∀ j : Nat, j < 8 → fI H181 cn j = fI H cn j := fun j hj => (fI_kept (x_lt hT kH181 gcn (by decide))).trans (f0cn j hj)
    have f188 : ∀ j : Nat, j < 8 → fI H181 xn j = fI H xn j := fun j hj => (fI_kept (x_lt hT kH181 gxn (by decide))).trans (f0xn j hj)
    have f189 : ∀ j : Nat, j < 8 → fI H181 cl j = fI H cl j := fun j hj => (fI_kept (x_lt hT kH181 gcl (by decide))).trans (f0cl j hj)
    have f190 : ∀ j : Nat, j < 8 → fI H181 xl j = fI H xl j := fun j hj => (fI_kept (x_lt hT kH181 gxl (by decide))).trans (f0xl j hj)
    have f191 : ∀ j : Nat, j < 8 → fI H181 ck j = fI H ck j := fun j hj => (fI_kept (x_lt hT kH181 gck (by decide))).trans (f0ck j hj)
    have f192 : ∀ j : Nat, j < 8 → fI H181 xk j = fI H xk j := fun j hj => (fI_kept (x_lt hT kH181 gxk (by decide))).trans (f0xk j hj)
    have f193 : ∀ j : Nat, j < 8 → fI H181 dn j = fI H dn j := fun j hj => (fI_kept (x_lt hT kH181 gdn (by decide))).trans (f0dn j hj)
    have f194 : ∀ j : Nat, j < 8 → fI H181 dl j = fI H dl j := fun j hj => (fI_kept (x_lt hT kH181 gdl (by decide))).trans (f0dl j hj)
    have f195 : ∀ j : Nat, j < 8 → fI H181 dk j = fI H dk j := fun j hj => (fI_kept (x_lt hT kH181 gdk (by decide))).trans (f0dk j hj)
    have f196 : ∀ j : Nat, fI H181 iq j = fI H iq j := fun j => (fI_kept (x_lt hT kH181 giq (by decide))).trans (f0i j)
    have m197 := (ew).trans (fR_kept (x_lt hT kH181 ga (by decide))).symm
    have m198 := (eta).trans (fI_kept (x_lt hT kH181 ga (by decide))).symm
    have m199 := (etb).trans (fI_kept (x_lt hT kH181 gb (by decide))).symm
    have m200 := (es1).trans (fI_kept (x_lt hT kH181 gw (by decide))).symm
    have m201 := (ey1).trans (fI_kept (x_lt hT kH181 gb (by decide))).symm
    have m202 := (es4).trans (fI_kept (x_lt hT kH181 gw (by decide))).symm
    have m203 := (ey4).trans (fI_kept (x_lt hT kH181 gb (by decide))).symm
    have m204 := (es5).trans (fI_kept (x_lt hT kH181 gw (by decide))).symm
    have m205 := (ey5).trans (fI_kept (x_lt hT kH181 gb (by decide))).symm
    have m206 := (es10).trans (fI_kept (x_lt hT kH181 gw (by decide))).symm
    have m207 := (ey10).trans (fI_kept (x_lt hT kH181 gb (by decide))).symm
    have m208 := (es13).trans (fI_kept (x_lt hT kH181 gw (by decide))).symm
    have m209 := (ey13).trans (fI_kept (x_lt hT kH181 gb (by decide))).symm
    have m210 := (es16).trans (fI_kept (x_lt hT kH181 gw (by decide))).symm
    have m211 := (ey16).trans (fI_kept (x_lt hT kH181 gb (by decide))).symm
    have m212 := (ecn).trans (fR_kept (x_lt hT kH181 gw (by decide))).symm
    have m213 := (exn).trans (fR_kept (x_lt hT kH181 gb (by decide))).symm
    have m214 := (ecl).trans (fR_kept (x_lt hT kH181 gw (by decide))).symm
    have m215 := (exl).trans (fR_kept (x_lt hT kH181 gb (by decide))).symm
    have m216 := (eck).trans (fR_kept (x_lt hT kH181 gw (by decide))).symm
    have m217 := (exk).trans (fR_kept (x_lt hT kH181 gb (by decide))).symm
    have m218 := (ehi).trans (fI_kept (x_lt hT kH181 gb (by decide))).symm
    have m219 := (fV_kept (x_lt hT kH181 ga (by decide))).trans kn
    have m220 := (eiq).trans (fR_kept (x_lt hT kH181 gb (by decide))).symm
    have m221 := (ek1).trans (fI_kept (x_lt hT kH181 gkq (by decide))).symm
    have m222 := (ei1).trans (fI_kept (x_lt hT kH181 giq (by decide))).symm
    have m223 := (ek4).trans (fI_kept (x_lt hT kH181 gkq (by decide))).symm
    have m224 := (ei4).trans (fI_kept (x_lt hT kH181 giq (by decide))).symm
    have m225 := (ek5).trans (fI_kept (x_lt hT kH181 gkq (by decide))).symm
    have m226 := (ei5).trans (fI_kept (x_lt hT kH181 giq (by decide))).symm
    have m227 := (ek10).trans (fI_kept (x_lt hT kH181 gkq (by decide))).symm
    have m228 := (ei10).trans (fI_kept (x_lt hT kH181 giq (by decide))).symm
    have m229 := (ek13).trans (fI_kept (x_lt hT kH181 gkq (by decide))).symm
    have m230 := (ei13).trans (fI_kept (x_lt hT kH181 giq (by decide))).symm
    have m231 := (ek16).trans (fI_kept (x_lt hT kH181 gkq (by decide))).symm
    have m232 := (ei16).trans (fI_kept (x_lt hT kH181 giq (by decide))).symm
    have m233 := (edn).trans (fR_kept (x_lt hT kH181 gkq (by decide))).symm
    have m234 := (edl).trans (fR_kept (x_lt hT kH181 gkq (by decide))).symm
    have m235 := (edk).trans (fR_kept (x_lt hT kH181 gkq (by decide))).symm
    refine W.eq (g2 := F0 m 1423 ls [.int x182]) rfl ?_
    clear eck ecl ecn edk edl edn ehi ei1 ei10 ei13 ei16 ei4 ei5 eiq ek1 ek10 ek13 ek16 ek4 ek5 es1 es10 es13 es16 es4 es5 eta etb ew exk exl exn ey1 ey10 ey13 ey16 ey4 ey5 f0ck f0cl f0cn f0dk f0dl f0dn f0i f0xk f0xl f0xn kn
    refine lv_pop hx hb dL_law_1423 rfl ?_
    refine lv_aload_n hx hb dL_law_1424 rfl (lv_at hl 1 rfl) ?_
    refine lv_aload_n hx hb dL_law_1425 rfl (lv_at hl 3 rfl) ?_
    refine lv_iload_n hx hb dL_law_1426 rfl (lv_at hl 0 rfl) ?_
    refine lv_iconst (v := 1) hx hb dL_law_1427 (by decide) ?_
    refine lv_iadd hx hb dL_law_1428 ?_
    refine lv_topi (fun x236 ex236 => ?_)
    obtain ⟨tx236, ejx236, evx236⟩ := lw_ix (k := 1) ex236 hI hL rfl (by decide)
    clear tx236
    refine va_sld hx hb hX hbl (Nat.not_le.mpr hbl) hSH181 (vp_in_iff.mpr evx236) dL_law_1429 ?_
    refine W.eq (g2 := F0 m 1430 ls [.int (xs (i.toNatClampNeg + 1)), .ref b]) (congrArg (fun z => F0 m 1430 ls [.int (xs z), .ref b]) ejx236) ?_
    refine lv_aload_n hx hb dL_law_1430 rfl (lv_at hl 3 rfl) ?_
    refine lv_iload_n hx hb dL_law_1431 rfl (lv_at hl 0 rfl) ?_
    refine lv_iconst (v := 2) hx hb dL_law_1432 (by decide) ?_
    refine lv_iadd hx hb dL_law_1433 ?_
    refine lv_topi (fun x237 ex237 => ?_)
    obtain ⟨tx237, ejx237, evx237⟩ := lw_ix (k := 2) ex237 hI hL rfl (by decide)
    clear tx237
    refine va_sld hx hb hX hbl (Nat.not_le.mpr hbl) hSH181 (vp_in_iff.mpr evx237) dL_law_1434 ?_
    refine W.eq (g2 := F0 m 1435 ls [.int (xs (i.toNatClampNeg + 2)), .int (xs (i.toNatClampNeg + 1)), .ref b]) (congrArg (fun z => F0 m 1435 ls [.int (xs z), .int (xs (i.toNatClampNeg + 1)), .ref b]) ejx237) ?_
    refine lv_aload_n hx hb dL_law_1435 rfl (lv_at hl 3 rfl) ?_
    refine lv_iload_n hx hb dL_law_1436 rfl (lv_at hl 0 rfl) ?_
    refine lv_iconst (v := 3) hx hb dL_law_1437 (by decide) ?_
    refine lv_iadd hx hb dL_law_1438 ?_
    refine lv_topi (fun x238 ex238 => ?_)
    obtain ⟨tx238, ejx238, evx238⟩ := lw_ix (k := 3) ex238 hI hL rfl (by decide)
    clear tx238
    refine va_sld hx hb hX hbl (Nat.not_le.mpr hbl) hSH181 (vp_in_iff.mpr evx238) dL_law_1439 ?_
    refine W.eq (g2 := F0 m 1440 ls [.int (xs (i.toNatClampNeg + 3)), .int (xs (i.toNatClampNeg + 2)), .int (xs (i.toNatClampNeg + 1)), .ref b]) (congrArg (fun z => F0 m 1440 ls [.int (xs z), .int (xs (i.toNatClampNeg + 2)), .int (xs (i.toNatClampNeg + 1)), .ref b]) ejx238) ?_
    refine x_V (As := [.int (xs (i.toNatClampNeg + 1)), .int (xs (i.toNatClampNeg + 2)), .int (xs (i.toNatClampNeg + 3))]) (rest := []) C (a_X10_enough l K G H181 ((xs (i.toNatClampNeg + 1))) ((xs (i.toNatClampNeg + 2))) ((xs (i.toNatClampNeg + 3))) hTH181 gb g183 g184 g185 g186) yo_X10_enough wM_L_152 ⟨⟨by decide, by decide⟩, show _ ≤ 284929 from Nat.le_trans hc (by decide), show _ ≤ 8247460 from Nat.le_trans hs (by decide)⟩ (x_rv C hTH181 (ci := 10) rfl gb rg_112) rfl hl.1 rfl (Nat.le_of_ble_eq_true rfl) dL_law_1440 hSH181 (AE_new hN hSH181.1) (fun vH239 H239 locsH239 pH239 zH239 kH239 hSH239 => ?_)
    obtain ⟨x240, hvH239, g241, g242, g243, g244, mf245, hTH239⟩ := pH239
    subst hvH239
    have f246 : ∀ j : Nat, j < 8 → fI H239 cn j = fI H cn j := fun j hj => (fI_kept (x_lt hTH181 kH239 gcn (by decide))).trans (f187 j hj)
    have f247 : ∀ j : Nat, j < 8 → fI H239 xn j = fI H xn j := fun j hj => (fI_kept (x_lt hTH181 kH239 gxn (by decide))).trans (f188 j hj)
    have f248 : ∀ j : Nat, j < 8 → fI H239 cl j = fI H cl j := fun j hj => (fI_kept (x_lt hTH181 kH239 gcl (by decide))).trans (f189 j hj)
    have f249 : ∀ j : Nat, j < 8 → fI H239 xl j = fI H xl j := fun j hj => (fI_kept (x_lt hTH181 kH239 gxl (by decide))).trans (f190 j hj)
    have f250 : ∀ j : Nat, j < 8 → fI H239 ck j = fI H ck j := fun j hj => (fI_kept (x_lt hTH181 kH239 gck (by decide))).trans (f191 j hj)
    have f251 : ∀ j : Nat, j < 8 → fI H239 xk j = fI H xk j := fun j hj => (fI_kept (x_lt hTH181 kH239 gxk (by decide))).trans (f192 j hj)
    have f252 : ∀ j : Nat, j < 8 → fI H239 dn j = fI H dn j := fun j hj => (fI_kept (x_lt hTH181 kH239 gdn (by decide))).trans (f193 j hj)
    have f253 : ∀ j : Nat, j < 8 → fI H239 dl j = fI H dl j := fun j hj => (fI_kept (x_lt hTH181 kH239 gdl (by decide))).trans (f194 j hj)
    have f254 : ∀ j : Nat, j < 8 → fI H239 dk j = fI H dk j := fun j hj => (fI_kept (x_lt hTH181 kH239 gdk (by decide))).trans (f195 j hj)
    have f255 : ∀ j : Nat, fI H239 iq j = fI H iq j := fun j => (fI_kept (x_lt hTH181 kH239 giq (by decide))).trans (f196 j)
    have m256 := (m197).trans (fR_kept (x_lt hTH181 kH239 ga (by decide))).symm
    have m257 := (m198).trans (fI_kept (x_lt hTH181 kH239 ga (by decide))).symm
    have m258 := (m200).trans (fI_kept (x_lt hTH181 kH239 gw (by decide))).symm
    have m259 := (m202).trans (fI_kept (x_lt hTH181 kH239 gw (by decide))).symm
    have m260 := (m204).trans (fI_kept (x_lt hTH181 kH239 gw (by decide))).symm
    have m261 := (m206).trans (fI_kept (x_lt hTH181 kH239 gw (by decide))).symm
    have m262 := (m208).trans (fI_kept (x_lt hTH181 kH239 gw (by decide))).symm
    have m263 := (m210).trans (fI_kept (x_lt hTH181 kH239 gw (by decide))).symm
    have m264 := (m212).trans (fR_kept (x_lt hTH181 kH239 gw (by decide))).symm
    have m265 := (m214).trans (fR_kept (x_lt hTH181 kH239 gw (by decide))).symm
    have m266 := (m216).trans (fR_kept (x_lt hTH181 kH239 gw (by decide))).symm
    have m267 := (fV_kept (x_lt hTH181 kH239 ga (by decide))).trans m219
    have m268 := (m221).trans (fI_kept (x_lt hTH181 kH239 gkq (by decide))).symm
    have m269 := (m222).trans (fI_kept (x_lt hTH181 kH239 giq (by decide))).symm
    have m270 := (m223).trans (fI_kept (x_lt hTH181 kH239 gkq (by decide))).symm
    have m271 := (m224).trans (fI_kept (x_lt hTH181 kH239 giq (by decide))).symm
    have m272 := (m225).trans (fI_kept (x_lt hTH181 kH239 gkq (by decide))).symm
    have m273 := (m226).trans (fI_kept (x_lt hTH181 kH239 giq (by decide))).symm
    have m274 := (m227).trans (fI_kept (x_lt hTH181 kH239 gkq (by decide))).symm
    have m275 := (m228).trans (fI_kept (x_lt hTH181 kH239 giq (by decide))).symm
    have m276 := (m229).trans (fI_kept (x_lt hTH181 kH239 gkq (by decide))).symm
    have m277 := (m230).trans (fI_kept (x_lt hTH181 kH239 giq (by decide))).symm
    have m278 := (m231).trans (fI_kept (x_lt hTH181 kH239 gkq (by decide))).symm
    have m279 := (m232).trans (fI_kept (x_lt hTH181 kH239 giq (by decide))).symm
    have m280 := (m233).trans (fR_kept (x_lt hTH181 kH239 gkq (by decide))).symm
    have m281 := (m234).trans (fR_kept (x_lt hTH181 kH239 gkq (by decide))).symm
    have m282 := (m235).trans (fR_kept (x_lt hTH181 kH239 gkq (by decide))).symm
    have m283 := (m199).trans (MF.i mf245 (k := 18) (by decide) (by decide)).symm
    have m284 := (m201).trans (MF.i mf245 (k := 1) (by decide) (by decide)).symm
    have m285 := (m203).trans (MF.i mf245 (k := 2) (by decide) (by decide)).symm
    have m286 := (m205).trans (MF.i mf245 (k := 3) (by decide) (by decide)).symm
    have m287 := (m207).trans (MF.i mf245 (k := 59) (by decide) (by decide)).symm
    have m288 := (m209).trans (MF.i mf245 (k := 62) (by decide) (by decide)).symm
    have m289 := (m211).trans (MF.i mf245 (k := 65) (by decide) (by decide)).symm
    have m290 := (m213).trans (MF.r mf245 (k := 64) (by decide) (by decide)).symm
    have m291 := (m215).trans (MF.r mf245 (k := 66) (by decide) (by decide)).symm
    have m292 := (m217).trans (MF.r mf245 (k := 67) (by decide) (by decide)).symm
    have m293 := (m218).trans (MF.i mf245 (k := 70) (by decide) (by decide)).symm
    have m294 := (m220).trans (MF.r mf245 (k := 73) (by decide) (by decide)).symm
    refine W.eq (g2 := F0 m 1443 ls [.int x240]) rfl ?_
    clear f187 f188 f189 f190 f191 f192 f193 f194 f195 f196 m197 m198 m199 m200 m201 m202 m203 m204 m205 m206 m207 m208 m209 m210 m211 m212 m213 m214 m215 m216 m217 m218 m219 m220 m221 m222 m223 m224 m225 m226 m227 m228 m229 m230 m231 m232 m233 m234 m235
    refine lv_pop hx hb dL_law_1443 rfl ?_
    refine lv_goto (tgt := 1509) hx hb dL_law_1444 (by decide) ?_
    exact nx G H239 locsH239 _ _ ls ⟨hTH239, hN, ga, gb, g241, g242, g243, g244, ⟨(by rw [← m257, ← m283]; exact rt), (by rw [← m256, ← m258, ← m284]; exact r1), (by rw [← m256, ← m259, ← m285]; exact r4), (by rw [← m256, ← m260, ← m286]; exact r5), (by rw [← m256, ← m261, ← m287]; exact r10), (by rw [← m256, ← m262, ← m288]; exact r13), (by rw [← m256, ← m263, ← m289]; exact r16)⟩, Or.inr ⟨kq, m267, gkq, (by rw [← m293]; exact h70), (by rw [← m268, ← m294, ← m269]; exact q1), (by rw [← m270, ← m294, ← m271]; exact q4), (by rw [← m272, ← m294, ← m273]; exact q5), (by rw [← m274, ← m294, ← m275]; exact q10), (by rw [← m276, ← m294, ← m277]; exact q13), (by rw [← m278, ← m294, ← m279]; exact q16), (by rw [← m280, ← m294, ← m276]; exact EQR.of hsn (fun j hj => f252 j (by omega)) (fun j hj => f255 _) (by omega)), (by rw [← m281, ← m294, ← m278]; exact EQR.of hsl (fun j hj => f253 j (by omega)) (fun j hj => f255 _) (by omega)), (by rw [← m282, ← m294, ← m278]; exact EQR.of hsk (fun j hj => f254 j (by omega)) (fun j hj => f255 _) (by omega))⟩, ⟨(by rw [← m256, ← m264, ← m290, ← m288]; exact EQR.of hrn (fun j hj => f246 j (by omega)) (fun j hj => f247 j (by omega)) (by omega)), (by rw [← m256, ← m265, ← m291, ← m289]; exact EQR.of hrl (fun j hj => f248 j (by omega)) (fun j hj => f249 j (by omega)) (by omega)), (by rw [← m256, ← m266, ← m292, ← m289]; exact EQR.of hrk (fun j hj => f250 j (by omega)) (fun j hj => f251 j (by omega)) (by omega))⟩, hSH239⟩ hl ⟨hc, hs, fun h => by have h1 := h.symm.trans m267; cases h1⟩