set_option maxRecDepth 100000 in
set_option maxHeartbeats 1000000 in
theorem lw_c30 {p : Program} {l : Launch} {e : Env} {s : State} {m : MethodId} {below : List Frame} {meth : Method} {c : Code} {K : KE} {b0 L : Nat} {xs : Nat → Int32} {G : Nat → Option Nat} {H : Heap} {locs : List Loc} {a b : Nat} {cells slots : Nat} {ls : Array Slot} {i : Int32} {n : Nat} (D : LC p K s m meth c b0 L xs) (S : SX K s G H locs a b) (hl : lv_has ls 4 [(3, .int i), (2, .ref b), (1, .ref a), (0, .ref b0)]) (hi : 0 ≤ i.toInt ∧ i.toInt + 6 ≤ L) (hn : n ≤ 511) (hc : cells ≤ 10000 + 434 * n) (hs : slots ≤ 200000 + 13027 * n) (nx : ∀ (G : Nat → Option Nat) (H : Heap) (locs : List Loc) (cells slots : Nat) (ls : Array Slot), SX K s G H locs a b → lv_has ls 4 [(3, .int i), (2, .ref b), (1, .ref a), (0, .ref b0)] → cells ≤ 10000 + 434 * (n + 1) → slots ≤ 200000 + 13027 * (n + 1) → W p l e room_1 s m #[Value.ref b0] below meth c H locs cells slots (lw_Z below #[Value.ref b0] s) (F0 m 1509 ls [])) : W p l e room_1 s m #[Value.ref b0] below meth c H locs cells slots (lw_Z below #[Value.ref b0] s) (F0 m 1348 ls []) := by
  obtain ⟨C, hX, hbl, hL⟩ := id D
  obtain ⟨hx, hb, hml, hown, hts, hKT, hr, hlocks, hnm⟩ := id C
  obtain ⟨hT, hN, ga, gb, cg, tu, wd, im, rt, hS⟩ := S
  have n_1 : (1 : Int32).toInt = 1 := rfl
  have n_2 : (2 : Int32).toInt = 2 := rfl
  obtain ⟨ta, eta⟩ : ∃ z : Int32, z = fI H a (K.1.2 9 3) := ⟨_, rfl⟩
  obtain ⟨tb, etb⟩ : ∃ z : Int32, z = fI H b (K.1.2 10 18) := ⟨_, rfl⟩
  rw [← eta, ← etb] at rt
  refine lv_aload_n hx hb dL_law_1348 rfl (lv_at hl 2 rfl) ?_
  refine lv_aload_n hx hb dL_law_1349 rfl (lv_at hl 3 rfl) ?_
  refine lv_iload_n hx hb dL_law_1350 rfl (lv_at hl 0 rfl) ?_
  refine lv_iconst (v := 1) hx hb dL_law_1351 (by decide) ?_
  refine lv_iadd hx hb dL_law_1352 ?_
  refine lv_topi (fun x101 ex101 => ?_)
  have tx101 := i_add ex101 (by omega)
  have ejx101 : x101.toNatClampNeg = i.toNatClampNeg + 1 := by have h1 := i_cl (x := x101) (by omega); have h2 := i_cl (x := i) (by omega); omega
  refine va_sld hx hb hX hbl (Nat.not_le.mpr hbl) hS (vp_in_iff.mpr (by omega)) dL_law_1353 ?_
  refine W.eq (g2 := F0 m 1354 ls [.int (xs (i.toNatClampNeg + 1)), .ref a]) (congrArg (fun z => F0 m 1354 ls [.int (xs z), .ref a]) ejx101) ?_
  refine lv_aload_n hx hb dL_law_1354 rfl (lv_at hl 3 rfl) ?_
  refine lv_iload_n hx hb dL_law_1355 rfl (lv_at hl 0 rfl) ?_
  refine lv_iconst (v := 2) hx hb dL_law_1356 (by decide) ?_
  refine lv_iadd hx hb dL_law_1357 ?_
  refine lv_topi (fun x102 ex102 => ?_)
  have tx102 := i_add ex102 (by omega)
  have ejx102 : x102.toNatClampNeg = i.toNatClampNeg + 2 := by have h1 := i_cl (x := x102) (by omega); have h2 := i_cl (x := i) (by omega); omega
  refine va_sld hx hb hX hbl (Nat.not_le.mpr hbl) hS (vp_in_iff.mpr (by omega)) dL_law_1358 ?_
  refine W.eq (g2 := F0 m 1359 ls [.int (xs (i.toNatClampNeg + 2)), .int (xs (i.toNatClampNeg + 1)), .ref a]) (congrArg (fun z => F0 m 1359 ls [.int (xs z), .int (xs (i.toNatClampNeg + 1)), .ref a]) ejx102) ?_
  refine x_V (As := [.int (xs (i.toNatClampNeg + 1)), .int (xs (i.toNatClampNeg + 2))]) (rest := []) C (a_X9_set l K G H ((xs (i.toNatClampNeg + 1))) ((xs (i.toNatClampNeg + 2))) hT ga) yo_X9_set wM_L_141 ⟨⟨by decide, by decide⟩, show _ ≤ 284929 by omega, show _ ≤ 8247460 by omega⟩ (x_rv C hT (ci := 9) rfl ga rg_68) rfl hl.1 rfl (Nat.le_of_ble_eq_true rfl) dL_law_1359 hS (AE_new hN hS.1) (fun vH103 H103 locsH103 pH103 zH103 kH103 hSH103 => ?_)
  obtain ⟨x104, hvH103, hTH103⟩ := pH103
  subst hvH103
  have g105 : CG (avw K H103 b) := CG.congr (fun k hk j => av_eff hT kH103 gb (by decide) (CG_eff [104, 105, 106, 107] (by decide) k hk)) cg
  have g106 : TU (avw K H103 b) (svw K H103 b) := TU.congr (fun k hk j => av_eff hT kH103 gb (by decide) (TU_eff [104, 105, 106, 107] (by decide) k hk)) (fun k hk => sv_eff hT kH103 gb (by decide)) tu
  have g107 : WD (avw K H103 b) := WD.congr (fun k hk j => av_eff hT kH103 gb (by decide) (WD_eff [104, 105, 106, 107] (by decide) k hk)) wd
  have g108 : IM (avw K H103 b) := IM.congr (fun k hk j => av_eff hT kH103 gb (by decide) (IM_eff [104, 105, 106, 107] (by decide) k hk)) im
  have m109 := (eta).trans (fI_kept (x_lt hT kH103 ga (by decide))).symm
  have m110 := (etb).trans (fI_kept (x_lt hT kH103 gb (by decide))).symm
  refine W.eq (g2 := F0 m 1362 ls [.int x104]) rfl ?_
  refine lv_pop hx hb dL_law_1362 rfl ?_
  refine lv_aload_n hx hb dL_law_1363 rfl (lv_at hl 1 rfl) ?_
  refine lv_aload_n hx hb dL_law_1364 rfl (lv_at hl 3 rfl) ?_
  refine lv_iload_n hx hb dL_law_1365 rfl (lv_at hl 0 rfl) ?_
  refine lv_iconst (v := 1) hx hb dL_law_1366 (by decide) ?_
  refine lv_iadd hx hb dL_law_1367 ?_
  refine lv_topi (fun x111 ex111 => ?_)
  have tx111 := i_add ex111 (by omega)
  have ejx111 : x111.toNatClampNeg = i.toNatClampNeg + 1 := by have h1 := i_cl (x := x111) (by omega); have h2 := i_cl (x := i) (by omega); omega
  refine va_sld hx hb hX hbl (Nat.not_le.mpr hbl) hSH103 (vp_in_iff.mpr (by omega)) dL_law_1368 ?_
  refine W.eq (g2 := F0 m 1369 ls [.int (xs (i.toNatClampNeg + 1)), .ref b]) (congrArg (fun z => F0 m 1369 ls [.int (xs z), .ref b]) ejx111) ?_
  refine lv_aload_n hx hb dL_law_1369 rfl (lv_at hl 3 rfl) ?_
  refine lv_iload_n hx hb dL_law_1370 rfl (lv_at hl 0 rfl) ?_
  refine lv_iconst (v := 2) hx hb dL_law_1371 (by decide) ?_
  refine lv_iadd hx hb dL_law_1372 ?_
  refine lv_topi (fun x112 ex112 => ?_)
  have tx112 := i_add ex112 (by omega)
  have ejx112 : x112.toNatClampNeg = i.toNatClampNeg + 2 := by have h1 := i_cl (x := x112) (by omega); have h2 := i_cl (x := i) (by omega); omega
  refine va_sld hx hb hX hbl (Nat.not_le.mpr hbl) hSH103 (vp_in_iff.mpr (by omega)) dL_law_1373 ?_
  refine W.eq (g2 := F0 m 1374 ls [.int (xs (i.toNatClampNeg + 2)), .int (xs (i.toNatClampNeg + 1)), .ref b]) (congrArg (fun z => F0 m 1374 ls [.int (xs z), .int (xs (i.toNatClampNeg + 1)), .ref b]) ejx112) ?_
  refine x_V (As := [.int (xs (i.toNatClampNeg + 1)), .int (xs (i.toNatClampNeg + 2))]) (rest := []) C (a_X10_set l K G H103 ((xs (i.toNatClampNeg + 1))) ((xs (i.toNatClampNeg + 2))) hTH103 gb g105 g106 g107 g108) yo_X10_set wM_L_144 ⟨⟨by decide, by decide⟩, show _ ≤ 284929 by omega, show _ ≤ 8247460 by omega⟩ (x_rv C hTH103 (ci := 10) rfl gb rg_112) rfl hl.1 rfl (Nat.le_of_ble_eq_true rfl) dL_law_1374 hSH103 (AE_new hN hSH103.1) (fun vH113 H113 locsH113 pH113 zH113 kH113 hSH113 => ?_)
  obtain ⟨x114, hvH113, g115, g116, g117, g118, mf119, hTH113⟩ := pH113
  subst hvH113
  have m120 := (m109).trans (fI_kept (x_lt hTH103 kH113 ga (by decide))).symm
  have m121 := (m110).trans (MF.i mf119 (k := 18) (by decide) (by decide)).symm
  refine W.eq (g2 := F0 m 1377 ls [.int x114]) rfl ?_
  refine lv_pop hx hb dL_law_1377 rfl ?_
  refine lv_goto (tgt := 1509) hx hb dL_law_1378 (by decide) ?_
  exact nx G H113 locsH113 _ _ ls ⟨hTH113, hN, ga, gb, g115, g116, g117, g118, (by rw [← m120, ← m121]; omega), hSH113⟩ hl (by omega) (by omega)
set_option maxRecDepth 100000 in
set_option maxHeartbeats 1000000 in
theorem lw_c31 {p : Program} {l : Launch} {e : Env} {s : State} {m : MethodId} {below : List Frame} {meth : Method} {c : Code} {K : KE} {b0 L : Nat} {xs : Nat → Int32} {G : Nat → Option Nat} {H : Heap} {locs : List Loc} {a b : Nat} {cells slots : Nat} {ls : Array Slot} {i : Int32} {n : Nat} (D : LC p K s m meth c b0 L xs) (S : SX K s G H locs a b) (hl : lv_has ls 4 [(3, .int i), (2, .ref b), (1, .ref a), (0, .ref b0)]) (hi : 0 ≤ i.toInt ∧ i.toInt + 6 ≤ L) (hn : n ≤ 511) (hc : cells ≤ 10000 + 434 * n) (hs : slots ≤ 200000 + 13027 * n) (nx : ∀ (G : Nat → Option Nat) (H : Heap) (locs : List Loc) (cells slots : Nat) (ls : Array Slot), SX K s G H locs a b → lv_has ls 4 [(3, .int i), (2, .ref b), (1, .ref a), (0, .ref b0)] → cells ≤ 10000 + 434 * (n + 1) → slots ≤ 200000 + 13027 * (n + 1) → W p l e room_1 s m #[Value.ref b0] below meth c H locs cells slots (lw_Z below #[Value.ref b0] s) (F0 m 1509 ls [])) : W p l e room_1 s m #[Value.ref b0] below meth c H locs cells slots (lw_Z below #[Value.ref b0] s) (F0 m 1381 ls []) := by
  obtain ⟨C, hX, hbl, hL⟩ := id D
  obtain ⟨hx, hb, hml, hown, hts, hKT, hr, hlocks, hnm⟩ := id C
  obtain ⟨hT, hN, ga, gb, cg, tu, wd, im, rt, hS⟩ := S
  have n_1 : (1 : Int32).toInt = 1 := rfl
  obtain ⟨ta, eta⟩ : ∃ z : Int32, z = fI H a (K.1.2 9 3) := ⟨_, rfl⟩
  obtain ⟨tb, etb⟩ : ∃ z : Int32, z = fI H b (K.1.2 10 18) := ⟨_, rfl⟩
  rw [← eta, ← etb] at rt
  refine lv_aload_n hx hb dL_law_1381 rfl (lv_at hl 2 rfl) ?_
  refine lv_aload_n hx hb dL_law_1382 rfl (lv_at hl 3 rfl) ?_
  refine lv_iload_n hx hb dL_law_1383 rfl (lv_at hl 0 rfl) ?_
  refine lv_iconst (v := 1) hx hb dL_law_1384 (by decide) ?_
  refine lv_iadd hx hb dL_law_1385 ?_
  refine lv_topi (fun x101 ex101 => ?_)
  have tx101 := i_add ex101 (by omega)
  have ejx101 : x101.toNatClampNeg = i.toNatClampNeg + 1 := by have h1 := i_cl (x := x101) (by omega); have h2 := i_cl (x := i) (by omega); omega
  refine va_sld hx hb hX hbl (Nat.not_le.mpr hbl) hS (vp_in_iff.mpr (by omega)) dL_law_1386 ?_
  refine W.eq (g2 := F0 m 1387 ls [.int (xs (i.toNatClampNeg + 1)), .ref a]) (congrArg (fun z => F0 m 1387 ls [.int (xs z), .ref a]) ejx101) ?_
  refine x_V (As := [.int (xs (i.toNatClampNeg + 1))]) (rest := []) C (a_X9_down l K G H ((xs (i.toNatClampNeg + 1))) hT ga) yo_X9_down wM_L_145 ⟨⟨by decide, by decide⟩, show _ ≤ 284929 by omega, show _ ≤ 8247460 by omega⟩ (x_rv C hT (ci := 9) rfl ga rg_68) rfl hl.1 rfl (Nat.le_of_ble_eq_true rfl) dL_law_1387 hS (AE_new hN hS.1) (fun vH102 H102 locsH102 pH102 zH102 kH102 hSH102 => ?_)
  obtain ⟨x103, hvH102, hTH102⟩ := pH102
  subst hvH102
  have g104 : CG (avw K H102 b) := CG.congr (fun k hk j => av_eff hT kH102 gb (by decide) (CG_eff [83, 84] (by decide) k hk)) cg
  have g105 : TU (avw K H102 b) (svw K H102 b) := TU.congr (fun k hk j => av_eff hT kH102 gb (by decide) (TU_eff [83, 84] (by decide) k hk)) (fun k hk => sv_eff hT kH102 gb (by decide)) tu
  have g106 : WD (avw K H102 b) := WD.congr (fun k hk j => av_eff hT kH102 gb (by decide) (WD_eff [83, 84] (by decide) k hk)) wd
  have g107 : IM (avw K H102 b) := IM.congr (fun k hk j => av_eff hT kH102 gb (by decide) (IM_eff [83, 84] (by decide) k hk)) im
  have m108 := (eta).trans (fI_kept (x_lt hT kH102 ga (by decide))).symm
  have m109 := (etb).trans (fI_kept (x_lt hT kH102 gb (by decide))).symm
  refine W.eq (g2 := F0 m 1390 ls [.int x103]) rfl ?_
  refine lv_pop hx hb dL_law_1390 rfl ?_
  refine lv_aload_n hx hb dL_law_1391 rfl (lv_at hl 1 rfl) ?_
  refine lv_aload_n hx hb dL_law_1392 rfl (lv_at hl 3 rfl) ?_
  refine lv_iload_n hx hb dL_law_1393 rfl (lv_at hl 0 rfl) ?_
  refine lv_iconst (v := 1) hx hb dL_law_1394 (by decide) ?_
  refine lv_iadd hx hb dL_law_1395 ?_
  refine lv_topi (fun x110 ex110 => ?_)
  have tx110 := i_add ex110 (by omega)
  have ejx110 : x110.toNatClampNeg = i.toNatClampNeg + 1 := by have h1 := i_cl (x := x110) (by omega); have h2 := i_cl (x := i) (by omega); omega
  refine va_sld hx hb hX hbl (Nat.not_le.mpr hbl) hSH102 (vp_in_iff.mpr (by omega)) dL_law_1396 ?_
  refine W.eq (g2 := F0 m 1397 ls [.int (xs (i.toNatClampNeg + 1)), .ref b]) (congrArg (fun z => F0 m 1397 ls [.int (xs z), .ref b]) ejx110) ?_
  refine x_V (As := [.int (xs (i.toNatClampNeg + 1))]) (rest := []) C (a_X10_down l K G H102 ((xs (i.toNatClampNeg + 1))) hTH102 gb g104 g105 g106 g107) yo_X10_down wM_L_148 ⟨⟨by decide, by decide⟩, show _ ≤ 284929 by omega, show _ ≤ 8247460 by omega⟩ (x_rv C hTH102 (ci := 10) rfl gb rg_112) rfl hl.1 rfl (Nat.le_of_ble_eq_true rfl) dL_law_1397 hSH102 (AE_new hN hSH102.1) (fun vH111 H111 locsH111 pH111 zH111 kH111 hSH111 => ?_)
  obtain ⟨x112, hvH111, g113, g114, g115, g116, mf117, hTH111⟩ := pH111
  subst hvH111
  have m118 := (m108).trans (fI_kept (x_lt hTH102 kH111 ga (by decide))).symm
  have m119 := (m109).trans (MF.i mf117 (k := 18) (by decide) (by decide)).symm
  refine W.eq (g2 := F0 m 1400 ls [.int x112]) rfl ?_
  refine lv_pop hx hb dL_law_1400 rfl ?_
  refine lv_goto (tgt := 1509) hx hb dL_law_1401 (by decide) ?_
  exact nx G H111 locsH111 _ _ ls ⟨hTH111, hN, ga, gb, g113, g114, g115, g116, (by rw [← m118, ← m119]; omega), hSH111⟩ hl (by omega) (by omega)
set_option maxRecDepth 100000 in
set_option maxHeartbeats 1000000 in
theorem lw_c32 {p : Program} {l : Launch} {e : Env} {s : State} {m : MethodId} {below : List Frame} {meth : Method} {c : Code} {K : KE} {b0 L : Nat} {xs : Nat → Int32} {G : Nat → Option Nat} {H : Heap} {locs : List Loc} {a b : Nat} {cells slots : Nat} {ls : Array Slot} {i : Int32} {n : Nat} (D : LC p K s m meth c b0 L xs) (S : SX K s G H locs a b) (hl : lv_has ls 4 [(3, .int i), (2, .ref b), (1, .ref a), (0, .ref b0)]) (hi : 0 ≤ i.toInt ∧ i.toInt + 6 ≤ L) (hn : n ≤ 511) (hc : cells ≤ 10000 + 434 * n) (hs : slots ≤ 200000 + 13027 * n) (nx : ∀ (G : Nat → Option Nat) (H : Heap) (locs : List Loc) (cells slots : Nat) (ls : Array Slot), SX K s G H locs a b → lv_has ls 4 [(3, .int i), (2, .ref b), (1, .ref a), (0, .ref b0)] → cells ≤ 10000 + 434 * (n + 1) → slots ≤ 200000 + 13027 * (n + 1) → W p l e room_1 s m #[Value.ref b0] below meth c H locs cells slots (lw_Z below #[Value.ref b0] s) (F0 m 1509 ls [])) : W p l e room_1 s m #[Value.ref b0] below meth c H locs cells slots (lw_Z below #[Value.ref b0] s) (F0 m 1404 ls []) := by
  obtain ⟨C, hX, hbl, hL⟩ := id D
  obtain ⟨hx, hb, hml, hown, hts, hKT, hr, hlocks, hnm⟩ := id C
  obtain ⟨hT, hN, ga, gb, cg, tu, wd, im, rt, hS⟩ := S
  have n_1 : (1 : Int32).toInt = 1 := rfl
  have n_2 : (2 : Int32).toInt = 2 := rfl
  have n_3 : (3 : Int32).toInt = 3 := rfl
  obtain ⟨ta, eta⟩ : ∃ z : Int32, z = fI H a (K.1.2 9 3) := ⟨_, rfl⟩
  obtain ⟨tb, etb⟩ : ∃ z : Int32, z = fI H b (K.1.2 10 18) := ⟨_, rfl⟩
  rw [← eta, ← etb] at rt
  refine lv_aload_n hx hb dL_law_1404 rfl (lv_at hl 2 rfl) ?_
  refine lv_aload_n hx hb dL_law_1405 rfl (lv_at hl 3 rfl) ?_
  refine lv_iload_n hx hb dL_law_1406 rfl (lv_at hl 0 rfl) ?_
  refine lv_iconst (v := 1) hx hb dL_law_1407 (by decide) ?_
  refine lv_iadd hx hb dL_law_1408 ?_
  refine lv_topi (fun x101 ex101 => ?_)
  have tx101 := i_add ex101 (by omega)
  have ejx101 : x101.toNatClampNeg = i.toNatClampNeg + 1 := by have h1 := i_cl (x := x101) (by omega); have h2 := i_cl (x := i) (by omega); omega
  refine va_sld hx hb hX hbl (Nat.not_le.mpr hbl) hS (vp_in_iff.mpr (by omega)) dL_law_1409 ?_
  refine W.eq (g2 := F0 m 1410 ls [.int (xs (i.toNatClampNeg + 1)), .ref a]) (congrArg (fun z => F0 m 1410 ls [.int (xs z), .ref a]) ejx101) ?_
  refine lv_aload_n hx hb dL_law_1410 rfl (lv_at hl 3 rfl) ?_
  refine lv_iload_n hx hb dL_law_1411 rfl (lv_at hl 0 rfl) ?_
  refine lv_iconst (v := 2) hx hb dL_law_1412 (by decide) ?_
  refine lv_iadd hx hb dL_law_1413 ?_
  refine lv_topi (fun x102 ex102 => ?_)
  have tx102 := i_add ex102 (by omega)
  have ejx102 : x102.toNatClampNeg = i.toNatClampNeg + 2 := by have h1 := i_cl (x := x102) (by omega); have h2 := i_cl (x := i) (by omega); omega
  refine va_sld hx hb hX hbl (Nat.not_le.mpr hbl) hS (vp_in_iff.mpr (by omega)) dL_law_1414 ?_
  refine W.eq (g2 := F0 m 1415 ls [.int (xs (i.toNatClampNeg + 2)), .int (xs (i.toNatClampNeg + 1)), .ref a]) (congrArg (fun z => F0 m 1415 ls [.int (xs z), .int (xs (i.toNatClampNeg + 1)), .ref a]) ejx102) ?_
  refine lv_aload_n hx hb dL_law_1415 rfl (lv_at hl 3 rfl) ?_
  refine lv_iload_n hx hb dL_law_1416 rfl (lv_at hl 0 rfl) ?_
  refine lv_iconst (v := 3) hx hb dL_law_1417 (by decide) ?_
  refine lv_iadd hx hb dL_law_1418 ?_
  refine lv_topi (fun x103 ex103 => ?_)
  have tx103 := i_add ex103 (by omega)
  have ejx103 : x103.toNatClampNeg = i.toNatClampNeg + 3 := by have h1 := i_cl (x := x103) (by omega); have h2 := i_cl (x := i) (by omega); omega
  refine va_sld hx hb hX hbl (Nat.not_le.mpr hbl) hS (vp_in_iff.mpr (by omega)) dL_law_1419 ?_
  refine W.eq (g2 := F0 m 1420 ls [.int (xs (i.toNatClampNeg + 3)), .int (xs (i.toNatClampNeg + 2)), .int (xs (i.toNatClampNeg + 1)), .ref a]) (congrArg (fun z => F0 m 1420 ls [.int (xs z), .int (xs (i.toNatClampNeg + 2)), .int (xs (i.toNatClampNeg + 1)), .ref a]) ejx103) ?_
  refine x_V (As := [.int (xs (i.toNatClampNeg + 1)), .int (xs (i.toNatClampNeg + 2)), .int (xs (i.toNatClampNeg + 3))]) (rest := []) C (a_X9_enough l K G H ((xs (i.toNatClampNeg + 1))) ((xs (i.toNatClampNeg + 2))) ((xs (i.toNatClampNeg + 3))) hT ga) yo_X9_enough wM_L_149 ⟨⟨by decide, by decide⟩, show _ ≤ 284929 by omega, show _ ≤ 8247460 by omega⟩ (x_rv C hT (ci := 9) rfl ga rg_68) rfl hl.1 rfl (Nat.le_of_ble_eq_true rfl) dL_law_1420 hS (AE_new hN hS.1) (fun vH104 H104 locsH104 pH104 zH104 kH104 hSH104 => ?_)
  obtain ⟨x105, hvH104, hTH104⟩ := pH104
  subst hvH104
  have g106 : CG (avw K H104 b) := CG.congr (fun k hk j => av_eff hT kH104 gb (by decide) (CG_eff [83, 84] (by decide) k hk)) cg
  have g107 : TU (avw K H104 b) (svw K H104 b) := TU.congr (fun k hk j => av_eff hT kH104 gb (by decide) (TU_eff [83, 84] (by decide) k hk)) (fun k hk => sv_eff hT kH104 gb (by decide)) tu
  have g108 : WD (avw K H104 b) := WD.congr (fun k hk j => av_eff hT kH104 gb (by decide) (WD_eff [83, 84] (by decide) k hk)) wd
  have g109 : IM (avw K H104 b) := IM.congr (fun k hk j => av_eff hT kH104 gb (by decide) (IM_eff [83, 84] (by decide) k hk)) im
  have m110 := (eta).trans (fI_kept (x_lt hT kH104 ga (by decide))).symm
  have m111 := (etb).trans (fI_kept (x_lt hT kH104 gb (by decide))).symm
  refine W.eq (g2 := F0 m 1423 ls [.int x105]) rfl ?_
  refine lv_pop hx hb dL_law_1423 rfl ?_
  refine lv_aload_n hx hb dL_law_1424 rfl (lv_at hl 1 rfl) ?_
  refine lv_aload_n hx hb dL_law_1425 rfl (lv_at hl 3 rfl) ?_
  refine lv_iload_n hx hb dL_law_1426 rfl (lv_at hl 0 rfl) ?_
  refine lv_iconst (v := 1) hx hb dL_law_1427 (by decide) ?_
  refine lv_iadd hx hb dL_law_1428 ?_
  refine lv_topi (fun x112 ex112 => ?_)
  have tx112 := i_add ex112 (by omega)
  have ejx112 : x112.toNatClampNeg = i.toNatClampNeg + 1 := by have h1 := i_cl (x := x112) (by omega); have h2 := i_cl (x := i) (by omega); omega
  refine va_sld hx hb hX hbl (Nat.not_le.mpr hbl) hSH104 (vp_in_iff.mpr (by omega)) dL_law_1429 ?_
  refine W.eq (g2 := F0 m 1430 ls [.int (xs (i.toNatClampNeg + 1)), .ref b]) (congrArg (fun z => F0 m 1430 ls [.int (xs z), .ref b]) ejx112) ?_
  refine lv_aload_n hx hb dL_law_1430 rfl (lv_at hl 3 rfl) ?_
  refine lv_iload_n hx hb dL_law_1431 rfl (lv_at hl 0 rfl) ?_
  refine lv_iconst (v := 2) hx hb dL_law_1432 (by decide) ?_
  refine lv_iadd hx hb dL_law_1433 ?_
  refine lv_topi (fun x113 ex113 => ?_)
  have tx113 := i_add ex113 (by omega)
  have ejx113 : x113.toNatClampNeg = i.toNatClampNeg + 2 := by have h1 := i_cl (x := x113) (by omega); have h2 := i_cl (x := i) (by omega); omega
  refine va_sld hx hb hX hbl (Nat.not_le.mpr hbl) hSH104 (vp_in_iff.mpr (by omega)) dL_law_1434 ?_
  refine W.eq (g2 := F0 m 1435 ls [.int (xs (i.toNatClampNeg + 2)), .int (xs (i.toNatClampNeg + 1)), .ref b]) (congrArg (fun z => F0 m 1435 ls [.int (xs z), .int (xs (i.toNatClampNeg + 1)), .ref b]) ejx113) ?_
  refine lv_aload_n hx hb dL_law_1435 rfl (lv_at hl 3 rfl) ?_
  refine lv_iload_n hx hb dL_law_1436 rfl (lv_at hl 0 rfl) ?_
  refine lv_iconst (v := 3) hx hb dL_law_1437 (by decide) ?_
  refine lv_iadd hx hb dL_law_1438 ?_
  refine lv_topi (fun x114 ex114 => ?_)
  have tx114 := i_add ex114 (by omega)
  have ejx114 : x114.toNatClampNeg = i.toNatClampNeg + 3 := by have h1 := i_cl (x := x114) (by omega); have h2 := i_cl (x := i) (by omega); omega
  refine va_sld hx hb hX hbl (Nat.not_le.mpr hbl) hSH104 (vp_in_iff.mpr (by omega)) dL_law_1439 ?_
  refine W.eq (g2 := F0 m 1440 ls [.int (xs (i.toNatClampNeg + 3)), .int (xs (i.toNatClampNeg + 2)), .int (xs (i.toNatClampNeg + 1)), .ref b]) (congrArg (fun z => F0 m 1440 ls [.int (xs z), .int (xs (i.toNatClampNeg + 2)), .int (xs (i.toNatClampNeg + 1)), .ref b]) ejx114) ?_
  refine x_V (As := [.int (xs (i.toNatClampNeg + 1)), .int (xs (i.toNatClampNeg + 2)), .int (xs (i.toNatClampNeg + 3))]) (rest := []) C (a_X10_enough l K G H104 ((xs (i.toNatClampNeg + 1))) ((xs (i.toNatClampNeg + 2))) ((xs (i.toNatClampNeg + 3))) hTH104 gb g106 g107 g108 g109) yo_X10_enough wM_L_152 ⟨⟨by decide, by decide⟩, show _ ≤ 284929 by omega, show _ ≤ 8247460 by omega⟩ (x_rv C hTH104 (ci := 10) rfl gb rg_112) rfl hl.1 rfl (Nat.le_of_ble_eq_true rfl) dL_law_1440 hSH104 (AE_new hN hSH104.1) (fun vH115 H115 locsH115 pH115 zH115 kH115 hSH115 => ?_)
  obtain ⟨x116, hvH115, g117, g118, g119, g120, mf121, hTH115⟩ := pH115
  subst hvH115
  have m122 := (m110).trans (fI_kept (x_lt hTH104 kH115 ga (by decide))).symm
  have m123 := (m111).trans (MF.i mf121 (k := 18) (by decide) (by decide)).symm
  refine W.eq (g2 := F0 m 1443 ls [.int x116]) rfl ?_
  refine lv_pop hx hb dL_law_1443 rfl ?_
  refine lv_goto (tgt := 1509) hx hb dL_law_1444 (by decide) ?_
  exact nx G H115 locsH115 _ _ ls ⟨hTH115, hN, ga, gb, g117, g118, g119, g120, (by rw [← m122, ← m123]; omega), hSH115⟩ hl (by omega) (by omega)
set_option maxRecDepth 100000 in
set_option maxHeartbeats 1000000 in
theorem lw_c33 {p : Program} {l : Launch} {e : Env} {s : State} {m : MethodId} {below : List Frame} {meth : Method} {c : Code} {K : KE} {b0 L : Nat} {xs : Nat → Int32} {G : Nat → Option Nat} {H : Heap} {locs : List Loc} {a b : Nat} {cells slots : Nat} {ls : Array Slot} {i : Int32} {n : Nat} (D : LC p K s m meth c b0 L xs) (S : SX K s G H locs a b) (hl : lv_has ls 4 [(3, .int i), (2, .ref b), (1, .ref a), (0, .ref b0)]) (hi : 0 ≤ i.toInt ∧ i.toInt + 6 ≤ L) (hn : n ≤ 511) (hc : cells ≤ 10000 + 434 * n) (hs : slots ≤ 200000 + 13027 * n) (nx : ∀ (G : Nat → Option Nat) (H : Heap) (locs : List Loc) (cells slots : Nat) (ls : Array Slot), SX K s G H locs a b → lv_has ls 4 [(3, .int i), (2, .ref b), (1, .ref a), (0, .ref b0)] → cells ≤ 10000 + 434 * (n + 1) → slots ≤ 200000 + 13027 * (n + 1) → W p l e room_1 s m #[Value.ref b0] below meth c H locs cells slots (lw_Z below #[Value.ref b0] s) (F0 m 1509 ls [])) : W p l e room_1 s m #[Value.ref b0] below meth c H locs cells slots (lw_Z below #[Value.ref b0] s) (F0 m 1447 ls []) := by
  obtain ⟨C, hX, hbl, hL⟩ := id D
  obtain ⟨hx, hb, hml, hown, hts, hKT, hr, hlocks, hnm⟩ := id C
  obtain ⟨hT, hN, ga, gb, cg, tu, wd, im, rt, hS⟩ := S
  have n_0 : (0 : Int32).toInt = 0 := rfl
  have n_1 : (1 : Int32).toInt = 1 := rfl
  obtain ⟨ta, eta⟩ : ∃ z : Int32, z = fI H a (K.1.2 9 3) := ⟨_, rfl⟩
  obtain ⟨tb, etb⟩ : ∃ z : Int32, z = fI H b (K.1.2 10 18) := ⟨_, rfl⟩
  rw [← eta, ← etb] at rt
  refine lv_aload_n hx hb dL_law_1447 rfl (lv_at hl 2 rfl) ?_
  refine lv_aload_n hx hb dL_law_1448 rfl (lv_at hl 3 rfl) ?_
  refine lv_iload_n hx hb dL_law_1449 rfl (lv_at hl 0 rfl) ?_
  refine lv_iconst (v := 1) hx hb dL_law_1450 (by decide) ?_
  refine lv_iadd hx hb dL_law_1451 ?_
  refine lv_topi (fun x101 ex101 => ?_)
  have tx101 := i_add ex101 (by omega)
  have ejx101 : x101.toNatClampNeg = i.toNatClampNeg + 1 := by have h1 := i_cl (x := x101) (by omega); have h2 := i_cl (x := i) (by omega); omega
  refine va_sld hx hb hX hbl (Nat.not_le.mpr hbl) hS (vp_in_iff.mpr (by omega)) dL_law_1452 ?_
  refine W.eq (g2 := F0 m 1453 ls [.int (xs (i.toNatClampNeg + 1)), .ref a]) (congrArg (fun z => F0 m 1453 ls [.int (xs z), .ref a]) ejx101) ?_
  refine lv_if_eq (tgt := 1460) hx hb dL_law_1453 (by decide) (fun c1453 => ?_) (fun c1453 => ?_)
  · skip
    refine lv_iconst (v := 0) hx hb dL_law_1460 (by decide) ?_
    refine x_V (As := [.int 0]) (rest := []) C (a_X9_image_t0 l K G H ta hT ga eta) yo_X9_image wM_L_153 ⟨⟨by decide, by decide⟩, show _ ≤ 284929 by omega, show _ ≤ 8247460 by omega⟩ (x_rv C hT (ci := 9) rfl ga rg_68) rfl hl.1 rfl (Nat.le_of_ble_eq_true rfl) dL_law_1461 hS (AE_new hN hS.1) (fun vH102 H102 locsH102 pH102 zH102 kH102 hSH102 => ?_)
    obtain ⟨x103, hvH102, bx103, G105, mH102, m104, hTH102⟩ := pH102
    subst hvH102
    have g106 : CG (avw K H102 b) := CG.congr (fun k hk j => av_eff hT kH102 gb (by decide) (CG_eff [68, 34, 35, 36, 37, 38, 39, 40, 41, 42, 43, 44, 46, 48, 49, 50, 51, 52, 53, 54, 55, 56, 57, 58, 62, 63, 64, 65, 66, 67, 0, 1, 2, 3, 4, 5, 6, 7, 8, 9, 10, 12, 14, 15, 16, 17, 18, 19, 20, 21, 22, 23, 24, 28, 29, 30, 31, 32, 33] (by decide) k hk)) cg
    have g107 : TU (avw K H102 b) (svw K H102 b) := TU.congr (fun k hk j => av_eff hT kH102 gb (by decide) (TU_eff [68, 34, 35, 36, 37, 38, 39, 40, 41, 42, 43, 44, 46, 48, 49, 50, 51, 52, 53, 54, 55, 56, 57, 58, 62, 63, 64, 65, 66, 67, 0, 1, 2, 3, 4, 5, 6, 7, 8, 9, 10, 12, 14, 15, 16, 17, 18, 19, 20, 21, 22, 23, 24, 28, 29, 30, 31, 32, 33] (by decide) k hk)) (fun k hk => sv_eff hT kH102 gb (by decide)) tu
    have g108 : WD (avw K H102 b) := WD.congr (fun k hk j => av_eff hT kH102 gb (by decide) (WD_eff [68, 34, 35, 36, 37, 38, 39, 40, 41, 42, 43, 44, 46, 48, 49, 50, 51, 52, 53, 54, 55, 56, 57, 58, 62, 63, 64, 65, 66, 67, 0, 1, 2, 3, 4, 5, 6, 7, 8, 9, 10, 12, 14, 15, 16, 17, 18, 19, 20, 21, 22, 23, 24, 28, 29, 30, 31, 32, 33] (by decide) k hk)) wd
    have g109 : IM (avw K H102 b) := IM.congr (fun k hk j => av_eff hT kH102 gb (by decide) (IM_eff [68, 34, 35, 36, 37, 38, 39, 40, 41, 42, 43, 44, 46, 48, 49, 50, 51, 52, 53, 54, 55, 56, 57, 58, 62, 63, 64, 65, 66, 67, 0, 1, 2, 3, 4, 5, 6, 7, 8, 9, 10, 12, 14, 15, 16, 17, 18, 19, 20, 21, 22, 23, 24, 28, 29, 30, 31, 32, 33] (by decide) k hk)) im
    have m110 := (etb).trans (fI_kept (x_lt hT kH102 gb (by decide))).symm
    have gaH102 := (mH102 a (hT.lt ga)).trans ga
    have gbH102 := (mH102 b (hT.lt gb)).trans gb
    have hNH102 : ∀ q, q < s.heap.size → G105 q = none := fun q hq => (mH102 q (Nat.lt_of_lt_of_le hq hS.1)).trans (hN q hq)
    refine W.eq (g2 := F0 m 1464 ls [.int x103]) rfl ?_
    refine lv_pop hx hb dL_law_1464 rfl ?_
    refine lv_aload_n hx hb dL_law_1465 rfl (lv_at hl 1 rfl) ?_
    refine lv_aload_n hx hb dL_law_1466 rfl (lv_at hl 3 rfl) ?_
    refine lv_iload_n hx hb dL_law_1467 rfl (lv_at hl 0 rfl) ?_
    refine lv_iconst (v := 1) hx hb dL_law_1468 (by decide) ?_
    refine lv_iadd hx hb dL_law_1469 ?_
    refine lv_topi (fun x111 ex111 => ?_)
    have tx111 := i_add ex111 (by omega)
    have ejx111 : x111.toNatClampNeg = i.toNatClampNeg + 1 := by have h1 := i_cl (x := x111) (by omega); have h2 := i_cl (x := i) (by omega); omega
    refine va_sld hx hb hX hbl (Nat.not_le.mpr hbl) hSH102 (vp_in_iff.mpr (by omega)) dL_law_1470 ?_
    refine W.eq (g2 := F0 m 1471 ls [.int (xs (i.toNatClampNeg + 1)), .ref b]) (congrArg (fun z => F0 m 1471 ls [.int (xs z), .ref b]) ejx111) ?_
    refine lv_if_eq (tgt := 1478) hx hb dL_law_1471 (by decide) (fun c1471 => ?_) (fun c1471 => ?_)
    · skip
      refine lv_iconst (v := 0) hx hb dL_law_1478 (by decide) ?_
      obtain ⟨q112, eq112⟩ : ∃ z : Nat, z = fR H102 b (K.1.2 10 73) := ⟨_, rfl⟩
      have gq112 := ty_fr (q := q112) (k := 73) (u := 162) eq112 hTH102 gbH102 rg_112 rfl
      obtain ⟨q113, eq113⟩ : ∃ z : Nat, z = fR H102 b (K.1.2 10 4) := ⟨_, rfl⟩
      have gq113 := ty_fr (q := q113) (k := 4) (u := 113) eq113 hTH102 gbH102 rg_112 rfl
      obtain ⟨q114, eq114⟩ : ∃ z : Nat, z = fR H102 b (K.1.2 10 10) := ⟨_, rfl⟩
      have gq114 := ty_fr (q := q114) (k := 10) (u := 119) eq114 hTH102 gbH102 rg_112 rfl
      obtain ⟨q115, eq115⟩ : ∃ z : Nat, z = fR H102 b (K.1.2 10 16) := ⟨_, rfl⟩
      have gq115 := ty_fr (q := q115) (k := 16) (u := 125) eq115 hTH102 gbH102 rg_112 rfl
      obtain ⟨q116, eq116⟩ : ∃ z : Nat, z = fR H102 b (K.1.2 10 24) := ⟨_, rfl⟩
      have gq116 := ty_fr (q := q116) (k := 24) (u := 128) eq116 hTH102 gbH102 rg_112 rfl
      obtain ⟨q117, eq117⟩ : ∃ z : Nat, z = fR H102 b (K.1.2 10 27) := ⟨_, rfl⟩
      have gq117 := ty_fr (q := q117) (k := 27) (u := 131) eq117 hTH102 gbH102 rg_112 rfl
      obtain ⟨q118, eq118⟩ : ∃ z : Nat, z = fR H102 b (K.1.2 10 29) := ⟨_, rfl⟩
      have gq118 := ty_fr (q := q118) (k := 29) (u := 133) eq118 hTH102 gbH102 rg_112 rfl
      obtain ⟨q119, eq119⟩ : ∃ z : Nat, z = fR H102 b (K.1.2 10 30) := ⟨_, rfl⟩
      have gq119 := ty_fr (q := q119) (k := 30) (u := 134) eq119 hTH102 gbH102 rg_112 rfl
      obtain ⟨q120, eq120⟩ : ∃ z : Nat, z = fR H102 b (K.1.2 10 31) := ⟨_, rfl⟩
      have gq120 := ty_fr (q := q120) (k := 31) (u := 135) eq120 hTH102 gbH102 rg_112 rfl
      obtain ⟨q121, eq121⟩ : ∃ z : Nat, z = fR H102 b (K.1.2 10 32) := ⟨_, rfl⟩
      have gq121 := ty_fr (q := q121) (k := 32) (u := 136) eq121 hTH102 gbH102 rg_112 rfl
      obtain ⟨q122, eq122⟩ : ∃ z : Nat, z = fR H102 b (K.1.2 10 33) := ⟨_, rfl⟩
      have gq122 := ty_fr (q := q122) (k := 33) (u := 137) eq122 hTH102 gbH102 rg_112 rfl
      obtain ⟨q123, eq123⟩ : ∃ z : Nat, z = fR H102 b (K.1.2 10 50) := ⟨_, rfl⟩
      have gq123 := ty_fr (q := q123) (k := 50) (u := 146) eq123 hTH102 gbH102 rg_112 rfl
      refine x_V (As := [.int 0]) (rest := []) C (a_X10_image l K G105 H102 (0) hTH102 gbH102 (by decide) gq112 eq112 gq113 eq113 gq114 eq114 gq115 eq115 gq116 eq116 gq117 eq117 gq118 eq118 gq119 eq119 gq120 eq120 gq121 eq121 gq122 eq122 gq123 eq123 g106 g107 g108 g109) yo_X10_image wM_L_157 ⟨⟨by decide, by decide⟩, show _ ≤ 284929 by omega, show _ ≤ 8247460 by omega⟩ (x_rv C hTH102 (ci := 10) rfl gbH102 rg_112) rfl hl.1 rfl (Nat.le_of_ble_eq_true rfl) dL_law_1479 hSH102 (AE_new hNH102 hSH102.1) (fun vH124 H124 locsH124 pH124 zH124 kH124 hSH124 => ?_)
      obtain ⟨x125, hvH124, bx125, m126, m127, m128, m129, m130, m131, m132, m133, m134, m135, m136, m137, g138, g139, g140, g141, mf142, hTH124⟩ := pH124
      subst hvH124
      have m143 := (m104).trans (fI_kept (x_lt hTH102 kH124 gaH102 (by decide))).symm
      have m144 := (m110).trans (MF.i mf142 (k := 18) (by decide) (by decide)).symm
      have m145 := (eq112).trans (MF.r mf142 (k := 73) (by decide) (by decide)).symm
      have m146 := (eq113).trans (MF.r mf142 (k := 4) (by decide) (by decide)).symm
      have m147 := (eq114).trans (MF.r mf142 (k := 10) (by decide) (by decide)).symm
      have m148 := (eq115).trans (MF.r mf142 (k := 16) (by decide) (by decide)).symm
      have m149 := (eq116).trans (MF.r mf142 (k := 24) (by decide) (by decide)).symm
      have m150 := (eq117).trans (MF.r mf142 (k := 27) (by decide) (by decide)).symm
      have m151 := (eq118).trans (MF.r mf142 (k := 29) (by decide) (by decide)).symm
      have m152 := (eq119).trans (MF.r mf142 (k := 30) (by decide) (by decide)).symm
      have m153 := (eq120).trans (MF.r mf142 (k := 31) (by decide) (by decide)).symm
      have m154 := (eq121).trans (MF.r mf142 (k := 32) (by decide) (by decide)).symm
      have m155 := (eq122).trans (MF.r mf142 (k := 33) (by decide) (by decide)).symm
      have m156 := (eq123).trans (MF.r mf142 (k := 50) (by decide) (by decide)).symm
      refine W.eq (g2 := F0 m 1482 ls [.int x125]) rfl ?_
      refine lv_pop hx hb dL_law_1482 rfl ?_
      refine lv_goto (tgt := 1509) hx hb dL_law_1483 (by decide) ?_
      exact nx G105 H124 locsH124 _ _ ls ⟨hTH124, hNH102, gaH102, gbH102, g138, g139, g140, g141, (by rw [← m143, ← m144]; omega), hSH124⟩ hl (by omega) (by omega)
    · skip
      exact absurd c1453 c1471
  · skip
    refine lv_iconst (v := 1) hx hb dL_law_1456 (by decide) ?_
    refine lv_goto (tgt := 1461) hx hb dL_law_1457 (by decide) ?_
    refine x_V (As := [.int 1]) (rest := []) C (a_X9_image_t1 l K G H ta hT ga eta) yo_X9_image wM_L_153 ⟨⟨by decide, by decide⟩, show _ ≤ 284929 by omega, show _ ≤ 8247460 by omega⟩ (x_rv C hT (ci := 9) rfl ga rg_68) rfl hl.1 rfl (Nat.le_of_ble_eq_true rfl) dL_law_1461 hS (AE_new hN hS.1) (fun vH157 H157 locsH157 pH157 zH157 kH157 hSH157 => ?_)
    obtain ⟨x158, hvH157, bx158, G160, mH157, m159, hTH157⟩ := pH157
    subst hvH157
    have g161 : CG (avw K H157 b) := CG.congr (fun k hk j => av_eff hT kH157 gb (by decide) (CG_eff [68, 34, 35, 36, 37, 38, 39, 40, 41, 42, 43, 44, 46, 48, 49, 50, 51, 52, 53, 54, 55, 56, 57, 58, 62, 63, 64, 65, 66, 67, 0, 1, 2, 3, 4, 5, 6, 7, 8, 9, 10, 12, 14, 15, 16, 17, 18, 19, 20, 21, 22, 23, 24, 28, 29, 30, 31, 32, 33] (by decide) k hk)) cg
    have g162 : TU (avw K H157 b) (svw K H157 b) := TU.congr (fun k hk j => av_eff hT kH157 gb (by decide) (TU_eff [68, 34, 35, 36, 37, 38, 39, 40, 41, 42, 43, 44, 46, 48, 49, 50, 51, 52, 53, 54, 55, 56, 57, 58, 62, 63, 64, 65, 66, 67, 0, 1, 2, 3, 4, 5, 6, 7, 8, 9, 10, 12, 14, 15, 16, 17, 18, 19, 20, 21, 22, 23, 24, 28, 29, 30, 31, 32, 33] (by decide) k hk)) (fun k hk => sv_eff hT kH157 gb (by decide)) tu
    have g163 : WD (avw K H157 b) := WD.congr (fun k hk j => av_eff hT kH157 gb (by decide) (WD_eff [68, 34, 35, 36, 37, 38, 39, 40, 41, 42, 43, 44, 46, 48, 49, 50, 51, 52, 53, 54, 55, 56, 57, 58, 62, 63, 64, 65, 66, 67, 0, 1, 2, 3, 4, 5, 6, 7, 8, 9, 10, 12, 14, 15, 16, 17, 18, 19, 20, 21, 22, 23, 24, 28, 29, 30, 31, 32, 33] (by decide) k hk)) wd
    have g164 : IM (avw K H157 b) := IM.congr (fun k hk j => av_eff hT kH157 gb (by decide) (IM_eff [68, 34, 35, 36, 37, 38, 39, 40, 41, 42, 43, 44, 46, 48, 49, 50, 51, 52, 53, 54, 55, 56, 57, 58, 62, 63, 64, 65, 66, 67, 0, 1, 2, 3, 4, 5, 6, 7, 8, 9, 10, 12, 14, 15, 16, 17, 18, 19, 20, 21, 22, 23, 24, 28, 29, 30, 31, 32, 33] (by decide) k hk)) im
    have m165 := (etb).trans (fI_kept (x_lt hT kH157 gb (by decide))).symm
    have gaH157 := (mH157 a (hT.lt ga)).trans ga
    have gbH157 := (mH157 b (hT.lt gb)).trans gb
    have hNH157 : ∀ q, q < s.heap.size → G160 q = none := fun q hq => (mH157 q (Nat.lt_of_lt_of_le hq hS.1)).trans (hN q hq)
    refine W.eq (g2 := F0 m 1464 ls [.int x158]) rfl ?_
    refine lv_pop hx hb dL_law_1464 rfl ?_
    refine lv_aload_n hx hb dL_law_1465 rfl (lv_at hl 1 rfl) ?_
    refine lv_aload_n hx hb dL_law_1466 rfl (lv_at hl 3 rfl) ?_
    refine lv_iload_n hx hb dL_law_1467 rfl (lv_at hl 0 rfl) ?_
    refine lv_iconst (v := 1) hx hb dL_law_1468 (by decide) ?_
    refine lv_iadd hx hb dL_law_1469 ?_
    refine lv_topi (fun x166 ex166 => ?_)
    have tx166 := i_add ex166 (by omega)
    have ejx166 : x166.toNatClampNeg = i.toNatClampNeg + 1 := by have h1 := i_cl (x := x166) (by omega); have h2 := i_cl (x := i) (by omega); omega
    refine va_sld hx hb hX hbl (Nat.not_le.mpr hbl) hSH157 (vp_in_iff.mpr (by omega)) dL_law_1470 ?_
    refine W.eq (g2 := F0 m 1471 ls [.int (xs (i.toNatClampNeg + 1)), .ref b]) (congrArg (fun z => F0 m 1471 ls [.int (xs z), .ref b]) ejx166) ?_
    refine lv_if_eq (tgt := 1478) hx hb dL_law_1471 (by decide) (fun c1471 => ?_) (fun c1471 => ?_)
    · skip
      exact absurd c1471 c1453
    · skip
      refine lv_iconst (v := 1) hx hb dL_law_1474 (by decide) ?_
      refine lv_goto (tgt := 1479) hx hb dL_law_1475 (by decide) ?_
      obtain ⟨q167, eq167⟩ : ∃ z : Nat, z = fR H157 b (K.1.2 10 73) := ⟨_, rfl⟩
      have gq167 := ty_fr (q := q167) (k := 73) (u := 162) eq167 hTH157 gbH157 rg_112 rfl
      obtain ⟨q168, eq168⟩ : ∃ z : Nat, z = fR H157 b (K.1.2 10 4) := ⟨_, rfl⟩
      have gq168 := ty_fr (q := q168) (k := 4) (u := 113) eq168 hTH157 gbH157 rg_112 rfl
      obtain ⟨q169, eq169⟩ : ∃ z : Nat, z = fR H157 b (K.1.2 10 10) := ⟨_, rfl⟩
      have gq169 := ty_fr (q := q169) (k := 10) (u := 119) eq169 hTH157 gbH157 rg_112 rfl
      obtain ⟨q170, eq170⟩ : ∃ z : Nat, z = fR H157 b (K.1.2 10 16) := ⟨_, rfl⟩
      have gq170 := ty_fr (q := q170) (k := 16) (u := 125) eq170 hTH157 gbH157 rg_112 rfl
      obtain ⟨q171, eq171⟩ : ∃ z : Nat, z = fR H157 b (K.1.2 10 24) := ⟨_, rfl⟩
      have gq171 := ty_fr (q := q171) (k := 24) (u := 128) eq171 hTH157 gbH157 rg_112 rfl
      obtain ⟨q172, eq172⟩ : ∃ z : Nat, z = fR H157 b (K.1.2 10 27) := ⟨_, rfl⟩
      have gq172 := ty_fr (q := q172) (k := 27) (u := 131) eq172 hTH157 gbH157 rg_112 rfl
      obtain ⟨q173, eq173⟩ : ∃ z : Nat, z = fR H157 b (K.1.2 10 29) := ⟨_, rfl⟩
      have gq173 := ty_fr (q := q173) (k := 29) (u := 133) eq173 hTH157 gbH157 rg_112 rfl
      obtain ⟨q174, eq174⟩ : ∃ z : Nat, z = fR H157 b (K.1.2 10 30) := ⟨_, rfl⟩
      have gq174 := ty_fr (q := q174) (k := 30) (u := 134) eq174 hTH157 gbH157 rg_112 rfl
      obtain ⟨q175, eq175⟩ : ∃ z : Nat, z = fR H157 b (K.1.2 10 31) := ⟨_, rfl⟩
      have gq175 := ty_fr (q := q175) (k := 31) (u := 135) eq175 hTH157 gbH157 rg_112 rfl
      obtain ⟨q176, eq176⟩ : ∃ z : Nat, z = fR H157 b (K.1.2 10 32) := ⟨_, rfl⟩
      have gq176 := ty_fr (q := q176) (k := 32) (u := 136) eq176 hTH157 gbH157 rg_112 rfl
      obtain ⟨q177, eq177⟩ : ∃ z : Nat, z = fR H157 b (K.1.2 10 33) := ⟨_, rfl⟩
      have gq177 := ty_fr (q := q177) (k := 33) (u := 137) eq177 hTH157 gbH157 rg_112 rfl
      obtain ⟨q178, eq178⟩ : ∃ z : Nat, z = fR H157 b (K.1.2 10 50) := ⟨_, rfl⟩
      have gq178 := ty_fr (q := q178) (k := 50) (u := 146) eq178 hTH157 gbH157 rg_112 rfl
      refine x_V (As := [.int 1]) (rest := []) C (a_X10_image l K G160 H157 (1) hTH157 gbH157 (by decide) gq167 eq167 gq168 eq168 gq169 eq169 gq170 eq170 gq171 eq171 gq172 eq172 gq173 eq173 gq174 eq174 gq175 eq175 gq176 eq176 gq177 eq177 gq178 eq178 g161 g162 g163 g164) yo_X10_image wM_L_157 ⟨⟨by decide, by decide⟩, show _ ≤ 284929 by omega, show _ ≤ 8247460 by omega⟩ (x_rv C hTH157 (ci := 10) rfl gbH157 rg_112) rfl hl.1 rfl (Nat.le_of_ble_eq_true rfl) dL_law_1479 hSH157 (AE_new hNH157 hSH157.1) (fun vH179 H179 locsH179 pH179 zH179 kH179 hSH179 => ?_)
      obtain ⟨x180, hvH179, bx180, m181, m182, m183, m184, m185, m186, m187, m188, m189, m190, m191, m192, g193, g194, g195, g196, mf197, hTH179⟩ := pH179
      subst hvH179
      have m198 := (m159).trans (fI_kept (x_lt hTH157 kH179 gaH157 (by decide))).symm
      have m199 := (m165).trans (MF.i mf197 (k := 18) (by decide) (by decide)).symm
      have m200 := (eq167).trans (MF.r mf197 (k := 73) (by decide) (by decide)).symm
      have m201 := (eq168).trans (MF.r mf197 (k := 4) (by decide) (by decide)).symm
      have m202 := (eq169).trans (MF.r mf197 (k := 10) (by decide) (by decide)).symm
      have m203 := (eq170).trans (MF.r mf197 (k := 16) (by decide) (by decide)).symm
      have m204 := (eq171).trans (MF.r mf197 (k := 24) (by decide) (by decide)).symm
      have m205 := (eq172).trans (MF.r mf197 (k := 27) (by decide) (by decide)).symm
      have m206 := (eq173).trans (MF.r mf197 (k := 29) (by decide) (by decide)).symm
      have m207 := (eq174).trans (MF.r mf197 (k := 30) (by decide) (by decide)).symm
      have m208 := (eq175).trans (MF.r mf197 (k := 31) (by decide) (by decide)).symm
      have m209 := (eq176).trans (MF.r mf197 (k := 32) (by decide) (by decide)).symm
      have m210 := (eq177).trans (MF.r mf197 (k := 33) (by decide) (by decide)).symm
      have m211 := (eq178).trans (MF.r mf197 (k := 50) (by decide) (by decide)).symm
      refine W.eq (g2 := F0 m 1482 ls [.int x180]) rfl ?_
      refine lv_pop hx hb dL_law_1482 rfl ?_
      refine lv_goto (tgt := 1509) hx hb dL_law_1483 (by decide) ?_
      exact nx G160 H179 locsH179 _ _ ls ⟨hTH179, hNH157, gaH157, gbH157, g193, g194, g195, g196, (by rw [← m198, ← m199]; omega), hSH179⟩ hl (by omega) (by omega)
set_option maxRecDepth 100000 in
set_option maxHeartbeats 1000000 in
theorem lw_c34 {p : Program} {l : Launch} {e : Env} {s : State} {m : MethodId} {below : List Frame} {meth : Method} {c : Code} {K : KE} {b0 L : Nat} {xs : Nat → Int32} {G : Nat → Option Nat} {H : Heap} {locs : List Loc} {a b : Nat} {cells slots : Nat} {ls : Array Slot} {i : Int32} {n : Nat} (D : LC p K s m meth c b0 L xs) (S : SX K s G H locs a b) (hl : lv_has ls 4 [(3, .int i), (2, .ref b), (1, .ref a), (0, .ref b0)]) (hi : 0 ≤ i.toInt ∧ i.toInt + 6 ≤ L) (hn : n ≤ 511) (hc : cells ≤ 10000 + 434 * n) (hs : slots ≤ 200000 + 13027 * n) (nx : ∀ (G : Nat → Option Nat) (H : Heap) (locs : List Loc) (cells slots : Nat) (ls : Array Slot), SX K s G H locs a b → lv_has ls 4 [(3, .int i), (2, .ref b), (1, .ref a), (0, .ref b0)] → cells ≤ 10000 + 434 * (n + 1) → slots ≤ 200000 + 13027 * (n + 1) → W p l e room_1 s m #[Value.ref b0] below meth c H locs cells slots (lw_Z below #[Value.ref b0] s) (F0 m 1509 ls [])) : W p l e room_1 s m #[Value.ref b0] below meth c H locs cells slots (lw_Z below #[Value.ref b0] s) (F0 m 1486 ls []) := by
  obtain ⟨C, hX, hbl, hL⟩ := id D
  obtain ⟨hx, hb, hml, hown, hts, hKT, hr, hlocks, hnm⟩ := id C
  obtain ⟨hT, hN, ga, gb, cg, tu, wd, im, rt, hS⟩ := S
  have n_1 : (1 : Int32).toInt = 1 := rfl
  obtain ⟨ta, eta⟩ : ∃ z : Int32, z = fI H a (K.1.2 9 3) := ⟨_, rfl⟩
  obtain ⟨tb, etb⟩ : ∃ z : Int32, z = fI H b (K.1.2 10 18) := ⟨_, rfl⟩
  rw [← eta, ← etb] at rt
  refine lv_aload_n hx hb dL_law_1486 rfl (lv_at hl 2 rfl) ?_
  refine lv_aload_n hx hb dL_law_1487 rfl (lv_at hl 3 rfl) ?_
  refine lv_iload_n hx hb dL_law_1488 rfl (lv_at hl 0 rfl) ?_
  refine lv_iconst (v := 1) hx hb dL_law_1489 (by decide) ?_
  refine lv_iadd hx hb dL_law_1490 ?_
  refine lv_topi (fun x101 ex101 => ?_)
  have tx101 := i_add ex101 (by omega)
  have ejx101 : x101.toNatClampNeg = i.toNatClampNeg + 1 := by have h1 := i_cl (x := x101) (by omega); have h2 := i_cl (x := i) (by omega); omega
  refine va_sld hx hb hX hbl (Nat.not_le.mpr hbl) hS (vp_in_iff.mpr (by omega)) dL_law_1491 ?_
  refine W.eq (g2 := F0 m 1492 ls [.int (xs (i.toNatClampNeg + 1)), .ref a]) (congrArg (fun z => F0 m 1492 ls [.int (xs z), .ref a]) ejx101) ?_
  refine x_V (As := [.int (xs (i.toNatClampNeg + 1))]) (rest := []) C (a_X9_look l K G H ((xs (i.toNatClampNeg + 1))) hT ga) yo_X9_look wM_L_158 ⟨⟨by decide, by decide⟩, show _ ≤ 284929 by omega, show _ ≤ 8247460 by omega⟩ (x_rv C hT (ci := 9) rfl ga rg_68) rfl hl.1 rfl (Nat.le_of_ble_eq_true rfl) dL_law_1492 hS (AE_new hN hS.1) (fun vH102 H102 locsH102 pH102 zH102 kH102 hSH102 => ?_)
  obtain ⟨x103, hvH102, hTH102⟩ := pH102
  subst hvH102
  have g104 : CG (avw K H102 b) := CG.congr (fun k hk j => av_eff hT kH102 gb (by decide) (CG_eff [83, 84] (by decide) k hk)) cg
  have g105 : TU (avw K H102 b) (svw K H102 b) := TU.congr (fun k hk j => av_eff hT kH102 gb (by decide) (TU_eff [83, 84] (by decide) k hk)) (fun k hk => sv_eff hT kH102 gb (by decide)) tu
  have g106 : WD (avw K H102 b) := WD.congr (fun k hk j => av_eff hT kH102 gb (by decide) (WD_eff [83, 84] (by decide) k hk)) wd
  have g107 : IM (avw K H102 b) := IM.congr (fun k hk j => av_eff hT kH102 gb (by decide) (IM_eff [83, 84] (by decide) k hk)) im
  have m108 := (eta).trans (fI_kept (x_lt hT kH102 ga (by decide))).symm
  have m109 := (etb).trans (fI_kept (x_lt hT kH102 gb (by decide))).symm
  refine W.eq (g2 := F0 m 1495 ls [.int x103]) rfl ?_
  refine lv_pop hx hb dL_law_1495 rfl ?_
  refine lv_aload_n hx hb dL_law_1496 rfl (lv_at hl 1 rfl) ?_
  refine lv_aload_n hx hb dL_law_1497 rfl (lv_at hl 3 rfl) ?_
  refine lv_iload_n hx hb dL_law_1498 rfl (lv_at hl 0 rfl) ?_
  refine lv_iconst (v := 1) hx hb dL_law_1499 (by decide) ?_
  refine lv_iadd hx hb dL_law_1500 ?_
  refine lv_topi (fun x110 ex110 => ?_)
  have tx110 := i_add ex110 (by omega)
  have ejx110 : x110.toNatClampNeg = i.toNatClampNeg + 1 := by have h1 := i_cl (x := x110) (by omega); have h2 := i_cl (x := i) (by omega); omega
  refine va_sld hx hb hX hbl (Nat.not_le.mpr hbl) hSH102 (vp_in_iff.mpr (by omega)) dL_law_1501 ?_
  refine W.eq (g2 := F0 m 1502 ls [.int (xs (i.toNatClampNeg + 1)), .ref b]) (congrArg (fun z => F0 m 1502 ls [.int (xs z), .ref b]) ejx110) ?_
  refine x_V (As := [.int (xs (i.toNatClampNeg + 1))]) (rest := []) C (a_X10_look l K G H102 ((xs (i.toNatClampNeg + 1))) hTH102 gb g104 g105 g106 g107) yo_X10_look wM_L_161 ⟨⟨by decide, by decide⟩, show _ ≤ 284929 by omega, show _ ≤ 8247460 by omega⟩ (x_rv C hTH102 (ci := 10) rfl gb rg_112) rfl hl.1 rfl (Nat.le_of_ble_eq_true rfl) dL_law_1502 hSH102 (AE_new hN hSH102.1) (fun vH111 H111 locsH111 pH111 zH111 kH111 hSH111 => ?_)
  obtain ⟨x112, hvH111, g113, g114, g115, g116, mf117, hTH111⟩ := pH111
  subst hvH111
  have m118 := (m108).trans (fI_kept (x_lt hTH102 kH111 ga (by decide))).symm
  have m119 := (m109).trans (MF.i mf117 (k := 18) (by decide) (by decide)).symm
  refine W.eq (g2 := F0 m 1505 ls [.int x112]) rfl ?_
  refine lv_pop hx hb dL_law_1505 rfl ?_
  refine lv_goto (tgt := 1509) hx hb dL_law_1506 (by decide) ?_
  exact nx G H111 locsH111 _ _ ls ⟨hTH111, hN, ga, gb, g113, g114, g115, g116, (by rw [← m118, ← m119]; omega), hSH111⟩ hl (by omega) (by omega)