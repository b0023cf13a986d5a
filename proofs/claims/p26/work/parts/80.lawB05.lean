set_option maxRecDepth 100000 in
set_option maxHeartbeats 1000000 in
theorem lw_c20 {p : Program} {l : Launch} {e : Env} {s : State} {m : MethodId} {below : List Frame} {meth : Method} {c : Code} {K : KE} {b0 L : Nat} {xs : Nat → Int32} {G : Nat → Option Nat} {H : Heap} {locs : List Loc} {a b : Nat} {cells slots : Nat} {ls : Array Slot} {i : Int32} {n : Nat} (D : LC p K s m meth c b0 L xs) (S : SX K s G H locs a b) (hl : lv_has ls 4 [(3, .int i), (2, .ref b), (1, .ref a), (0, .ref b0)]) (hi : 0 ≤ i.toInt ∧ i.toInt + 6 ≤ L) (hn : n ≤ 511) (hB : BD K H a cells slots) (nx : ∀ (G : Nat → Option Nat) (H : Heap) (locs : List Loc) (cells slots : Nat) (ls : Array Slot), SX K s G H locs a b → lv_has ls 4 [(3, .int i), (2, .ref b), (1, .ref a), (0, .ref b0)] → BD K H a cells slots → W p l e room_1 s m #[Value.ref b0] below meth c H locs cells slots (lw_Z below #[Value.ref b0] s) (F0 m 1509 ls [])) : W p l e room_1 s m #[Value.ref b0] below meth c H locs cells slots (lw_Z below #[Value.ref b0] s) (F0 m 958 ls []) := by
  have hI := hi
  obtain ⟨C, hX, hbl, hL⟩ := id D
  obtain ⟨hx, hb, hml, hown, hts, hKT, hr, hlocks, hnm⟩ := id C
  obtain ⟨hT, hN, ga, gb, cg, tu, wd, im, ⟨rt, r1, r4, r5, r10, r13, r16⟩, hk, hS⟩ := S
  obtain ⟨hc, hs, hB0⟩ := hB
  have n_1 : (1 : Int32).toInt = 1 := rfl
  have n_2 : (2 : Int32).toInt = 2 := rfl
  have n_3 : (3 : Int32).toInt = 3 := rfl
  have n_4 : (4 : Int32).toInt = 4 := rfl
  obtain ⟨w, ew⟩ : ∃ z : Nat, z = fR H a (K.1.2 9 0) := ⟨_, rfl⟩
  have gw := ty_fr (q := w) (k := 0) (u := 0) ew hT ga rg_68 rfl
  rw [← ew] at r1 r4 r5 r10 r13 r16
  obtain ⟨ta, eta⟩ : ∃ z : Int32, z = fI H a (K.1.2 9 3) := ⟨_, rfl⟩
  rw [← eta] at rt
  obtain ⟨tb, etb⟩ : ∃ z : Int32, z = fI H b (K.1.2 10 18) := ⟨_, rfl⟩
  rw [← etb] at rt
  obtain ⟨s1, es1⟩ : ∃ z : Int32, z = fI H w (K.1.2 8 1) := ⟨_, rfl⟩
  rw [← es1] at r1
  obtain ⟨y1, ey1⟩ : ∃ z : Int32, z = fI H b (K.1.2 10 1) := ⟨_, rfl⟩
  rw [← ey1] at r1
  obtain ⟨s4, es4⟩ : ∃ z : Int32, z = fI H w (K.1.2 8 4) := ⟨_, rfl⟩
  rw [← es4] at r4
  obtain ⟨y4, ey4⟩ : ∃ z : Int32, z = fI H b (K.1.2 10 2) := ⟨_, rfl⟩
  rw [← ey4] at r4
  obtain ⟨s5, es5⟩ : ∃ z : Int32, z = fI H w (K.1.2 8 5) := ⟨_, rfl⟩
  rw [← es5] at r5
  obtain ⟨y5, ey5⟩ : ∃ z : Int32, z = fI H b (K.1.2 10 3) := ⟨_, rfl⟩
  rw [← ey5] at r5
  obtain ⟨s10, es10⟩ : ∃ z : Int32, z = fI H w (K.1.2 8 10) := ⟨_, rfl⟩
  rw [← es10] at r10
  obtain ⟨y10, ey10⟩ : ∃ z : Int32, z = fI H b (K.1.2 10 59) := ⟨_, rfl⟩
  rw [← ey10] at r10
  obtain ⟨s13, es13⟩ : ∃ z : Int32, z = fI H w (K.1.2 8 13) := ⟨_, rfl⟩
  rw [← es13] at r13
  obtain ⟨y13, ey13⟩ : ∃ z : Int32, z = fI H b (K.1.2 10 62) := ⟨_, rfl⟩
  rw [← ey13] at r13
  obtain ⟨s16, es16⟩ : ∃ z : Int32, z = fI H w (K.1.2 8 16) := ⟨_, rfl⟩
  rw [← es16] at r16
  obtain ⟨y16, ey16⟩ : ∃ z : Int32, z = fI H b (K.1.2 10 65) := ⟨_, rfl⟩
  rw [← ey16] at r16
  rcases hk with ⟨kn, h70⟩ | ⟨kq, kn, gkq, h70, q1, q4, q5, q10, q13, q16⟩
  · skip
    obtain ⟨hi, ehi⟩ : ∃ z : Int32, z = fI H b (K.1.2 10 70) := ⟨_, rfl⟩
    rw [← ehi] at h70
    obtain ⟨hc0, hs0⟩ := hB0 kn
    refine lv_aload_n hx hb dL_law_958 rfl (lv_at hl 2 rfl) ?_
    refine lv_aload_n hx hb dL_law_959 rfl (lv_at hl 3 rfl) ?_
    refine lv_iload_n hx hb dL_law_960 rfl (lv_at hl 0 rfl) ?_
    refine lv_iconst (v := 1) hx hb dL_law_961 (by decide) ?_
    refine lv_iadd hx hb dL_law_962 ?_
    refine lv_topi (fun x101 ex101 => ?_)
    obtain ⟨tx101, ejx101, evx101⟩ := lw_ix (k := 1) ex101 hI hL rfl (by decide)
    clear tx101
    refine va_sld hx hb hX hbl (Nat.not_le.mpr hbl) hS (vp_in_iff.mpr evx101) dL_law_963 ?_
    refine W.eq (g2 := F0 m 964 ls [.int (xs (i.toNatClampNeg + 1)), .ref a]) (congrArg (fun z => F0 m 964 ls [.int (xs z), .ref a]) ejx101) ?_
    refine lv_aload_n hx hb dL_law_964 rfl (lv_at hl 3 rfl) ?_
    refine lv_iload_n hx hb dL_law_965 rfl (lv_at hl 0 rfl) ?_
    refine lv_iconst (v := 2) hx hb dL_law_966 (by decide) ?_
    refine lv_iadd hx hb dL_law_967 ?_
    refine lv_topi (fun x102 ex102 => ?_)
    obtain ⟨tx102, ejx102, evx102⟩ := lw_ix (k := 2) ex102 hI hL rfl (by decide)
    clear tx102
    refine va_sld hx hb hX hbl (Nat.not_le.mpr hbl) hS (vp_in_iff.mpr evx102) dL_law_968 ?_
    refine W.eq (g2 := F0 m 969 ls [.int (xs (i.toNatClampNeg + 2)), .int (xs (i.toNatClampNeg + 1)), .ref a]) (congrArg (fun z => F0 m 969 ls [.int (xs z), .int (xs (i.toNatClampNeg + 1)), .ref a]) ejx102) ?_
    refine lv_aload_n hx hb dL_law_969 rfl (lv_at hl 3 rfl) ?_
    refine lv_iload_n hx hb dL_law_970 rfl (lv_at hl 0 rfl) ?_
    refine lv_iconst (v := 3) hx hb dL_law_971 (by decide) ?_
    refine lv_iadd hx hb dL_law_972 ?_
    refine lv_topi (fun x103 ex103 => ?_)
    obtain ⟨tx103, ejx103, evx103⟩ := lw_ix (k := 3) ex103 hI hL rfl (by decide)
    clear tx103
    refine va_sld hx hb hX hbl (Nat.not_le.mpr hbl) hS (vp_in_iff.mpr evx103) dL_law_973 ?_
    refine W.eq (g2 := F0 m 974 ls [.int (xs (i.toNatClampNeg + 3)), .int (xs (i.toNatClampNeg + 2)), .int (xs (i.toNatClampNeg + 1)), .ref a]) (congrArg (fun z => F0 m 974 ls [.int (xs z), .int (xs (i.toNatClampNeg + 2)), .int (xs (i.toNatClampNeg + 1)), .ref a]) ejx103) ?_
    refine lv_aload_n hx hb dL_law_974 rfl (lv_at hl 3 rfl) ?_
    refine lv_iload_n hx hb dL_law_975 rfl (lv_at hl 0 rfl) ?_
    refine lv_iconst (v := 4) hx hb dL_law_976 (by decide) ?_
    refine lv_iadd hx hb dL_law_977 ?_
    refine lv_topi (fun x104 ex104 => ?_)
    obtain ⟨tx104, ejx104, evx104⟩ := lw_ix (k := 4) ex104 hI hL rfl (by decide)
    clear tx104
    refine va_sld hx hb hX hbl (Nat.not_le.mpr hbl) hS (vp_in_iff.mpr evx104) dL_law_978 ?_
    refine W.eq (g2 := F0 m 979 ls [.int (xs (i.toNatClampNeg + 4)), .int (xs (i.toNatClampNeg + 3)), .int (xs (i.toNatClampNeg + 2)), .int (xs (i.toNatClampNeg + 1)), .ref a]) (congrArg (fun z => F0 m 979 ls [.int (xs z), .int (xs (i.toNatClampNeg + 3)), .int (xs (i.toNatClampNeg + 2)), .int (xs (i.toNatClampNeg + 1)), .ref a]) ejx104) ?_
    refine x_V (As := [.int (xs (i.toNatClampNeg + 1)), .int (xs (i.toNatClampNeg + 2)), .int (xs (i.toNatClampNeg + 3)), .int (xs (i.toNatClampNeg + 4))]) (rest := []) C (a_X9_fits l K G H ((xs (i.toNatClampNeg + 1))) ((xs (i.toNatClampNeg + 2))) ((xs (i.toNatClampNeg + 3))) ((xs (i.toNatClampNeg + 4))) hT ga) yo_X9_fits wM_L_100 ⟨⟨by decide, by decide⟩, show _ ≤ 284929 from Nat.le_trans hc (by decide), show _ ≤ 8247460 from Nat.le_trans hs (by decide)⟩ (x_rv C hT (ci := 9) rfl ga rg_68) rfl hl.1 rfl (Nat.le_of_ble_eq_true rfl) dL_law_979 hS (AE_new hN hS.1) (fun vH105 H105 locsH105 pH105 zH105 kH105 hSH105 => ?_)
    obtain ⟨x106, hvH105, hTH105⟩ := pH105
    subst hvH105
    have g107 : CG (avw K H105 b) := CG.congr (fun k hk j => av_eff hT kH105 gb (by decide) (CG_eff [98, 101, 102, 103, 87, 88, 101, 99, 100, 83, 84] (by decide) k hk)) cg
    have g108 : TU (avw K H105 b) (svw K H105 b) := TU.congr (fun k hk j => av_eff hT kH105 gb (by decide) (TU_eff [98, 101, 102, 103, 87, 88, 101, 99, 100, 83, 84] (by decide) k hk)) (fun k hk => sv_eff hT kH105 gb (by decide)) tu
    have g109 : WD (avw K H105 b) := WD.congr (fun k hk j => av_eff hT kH105 gb (by decide) (WD_eff [98, 101, 102, 103, 87, 88, 101, 99, 100, 83, 84] (by decide) k hk)) wd
    have g110 : IM (avw K H105 b) := IM.congr (fun k hk j => av_eff hT kH105 gb (by decide) (IM_eff [98, 101, 102, 103, 87, 88, 101, 99, 100, 83, 84] (by decide) k hk)) im
    have m111 := (ew).trans (fR_kept (x_lt hT kH105 ga (by decide))).symm
    have m112 := (eta).trans (fI_kept (x_lt hT kH105 ga (by decide))).symm
    have m113 := (etb).trans (fI_kept (x_lt hT kH105 gb (by decide))).symm
    have m114 := (es1).trans (fI_kept (x_lt hT kH105 gw (by decide))).symm
    have m115 := (ey1).trans (fI_kept (x_lt hT kH105 gb (by decide))).symm
    have m116 := (es4).trans (fI_kept (x_lt hT kH105 gw (by decide))).symm
    have m117 := (ey4).trans (fI_kept (x_lt hT kH105 gb (by decide))).symm
    have m118 := (es5).trans (fI_kept (x_lt hT kH105 gw (by decide))).symm
    have m119 := (ey5).trans (fI_kept (x_lt hT kH105 gb (by decide))).symm
    have m120 := (es10).trans (fI_kept (x_lt hT kH105 gw (by decide))).symm
    have m121 := (ey10).trans (fI_kept (x_lt hT kH105 gb (by decide))).symm
    have m122 := (es13).trans (fI_kept (x_lt hT kH105 gw (by decide))).symm
    have m123 := (ey13).trans (fI_kept (x_lt hT kH105 gb (by decide))).symm
    have m124 := (es16).trans (fI_kept (x_lt hT kH105 gw (by decide))).symm
    have m125 := (ey16).trans (fI_kept (x_lt hT kH105 gb (by decide))).symm
    have m126 := (ehi).trans (fI_kept (x_lt hT kH105 gb (by decide))).symm
    have m127 := (fV_kept (x_lt hT kH105 ga (by decide))).trans kn
    refine W.eq (g2 := F0 m 982 ls [.int x106]) rfl ?_
    refine lv_pop hx hb dL_law_982 rfl ?_
    refine lv_aload_n hx hb dL_law_983 rfl (lv_at hl 1 rfl) ?_
    refine lv_aload_n hx hb dL_law_984 rfl (lv_at hl 3 rfl) ?_
    refine lv_iload_n hx hb dL_law_985 rfl (lv_at hl 0 rfl) ?_
    refine lv_iconst (v := 1) hx hb dL_law_986 (by decide) ?_
    refine lv_iadd hx hb dL_law_987 ?_
    refine lv_topi (fun x128 ex128 => ?_)
    obtain ⟨tx128, ejx128, evx128⟩ := lw_ix (k := 1) ex128 hI hL rfl (by decide)
    clear tx128
    refine va_sld hx hb hX hbl (Nat.not_le.mpr hbl) hSH105 (vp_in_iff.mpr evx128) dL_law_988 ?_
    refine W.eq (g2 := F0 m 989 ls [.int (xs (i.toNatClampNeg + 1)), .ref b]) (congrArg (fun z => F0 m 989 ls [.int (xs z), .ref b]) ejx128) ?_
    refine lv_aload_n hx hb dL_law_989 rfl (lv_at hl 3 rfl) ?_
    refine lv_iload_n hx hb dL_law_990 rfl (lv_at hl 0 rfl) ?_
    refine lv_iconst (v := 2) hx hb dL_law_991 (by decide) ?_
    refine lv_iadd hx hb dL_law_992 ?_
    refine lv_topi (fun x129 ex129 => ?_)
    obtain ⟨tx129, ejx129, evx129⟩ := lw_ix (k := 2) ex129 hI hL rfl (by decide)
    clear tx129
    refine va_sld hx hb hX hbl (Nat.not_le.mpr hbl) hSH105 (vp_in_iff.mpr evx129) dL_law_993 ?_
    refine W.eq (g2 := F0 m 994 ls [.int (xs (i.toNatClampNeg + 2)), .int (xs (i.toNatClampNeg + 1)), .ref b]) (congrArg (fun z => F0 m 994 ls [.int (xs z), .int (xs (i.toNatClampNeg + 1)), .ref b]) ejx129) ?_
    refine lv_aload_n hx hb dL_law_994 rfl (lv_at hl 3 rfl) ?_
    refine lv_iload_n hx hb dL_law_995 rfl (lv_at hl 0 rfl) ?_
    refine lv_iconst (v := 3) hx hb dL_law_996 (by decide) ?_
    refine lv_iadd hx hb dL_law_997 ?_
    refine lv_topi (fun x130 ex130 => ?_)
    obtain ⟨tx130, ejx130, evx130⟩ := lw_ix (k := 3) ex130 hI hL rfl (by decide)
    clear tx130
    refine va_sld hx hb hX hbl (Nat.not_le.mpr hbl) hSH105 (vp_in_iff.mpr evx130) dL_law_998 ?_
    refine W.eq (g2 := F0 m 999 ls [.int (xs (i.toNatClampNeg + 3)), .int (xs (i.toNatClampNeg + 2)), .int (xs (i.toNatClampNeg + 1)), .ref b]) (congrArg (fun z => F0 m 999 ls [.int (xs z), .int (xs (i.toNatClampNeg + 2)), .int (xs (i.toNatClampNeg + 1)), .ref b]) ejx130) ?_
    refine lv_aload_n hx hb dL_law_999 rfl (lv_at hl 3 rfl) ?_
    refine lv_iload_n hx hb dL_law_1000 rfl (lv_at hl 0 rfl) ?_
    refine lv_iconst (v := 4) hx hb dL_law_1001 (by decide) ?_
    refine lv_iadd hx hb dL_law_1002 ?_
    refine lv_topi (fun x131 ex131 => ?_)
    obtain ⟨tx131, ejx131, evx131⟩ := lw_ix (k := 4) ex131 hI hL rfl (by decide)
    clear tx131
    refine va_sld hx hb hX hbl (Nat.not_le.mpr hbl) hSH105 (vp_in_iff.mpr evx131) dL_law_1003 ?_
    refine W.eq (g2 := F0 m 1004 ls [.int (xs (i.toNatClampNeg + 4)), .int (xs (i.toNatClampNeg + 3)), .int (xs (i.toNatClampNeg + 2)), .int (xs (i.toNatClampNeg + 1)), .ref b]) (congrArg (fun z => F0 m 1004 ls [.int (xs z), .int (xs (i.toNatClampNeg + 3)), .int (xs (i.toNatClampNeg + 2)), .int (xs (i.toNatClampNeg + 1)), .ref b]) ejx131) ?_
    obtain ⟨q132, eq132⟩ : ∃ z : Nat, z = fR H105 b (K.1.2 10 4) := ⟨_, rfl⟩
    have gq132 := ty_fr (q := q132) (k := 4) (u := 113) eq132 hTH105 gb rg_112 rfl
    refine x_V (As := [.int (xs (i.toNatClampNeg + 1)), .int (xs (i.toNatClampNeg + 2)), .int (xs (i.toNatClampNeg + 3)), .int (xs (i.toNatClampNeg + 4))]) (rest := []) C (a_X10_fits l K G H105 ((xs (i.toNatClampNeg + 1))) ((xs (i.toNatClampNeg + 2))) ((xs (i.toNatClampNeg + 3))) ((xs (i.toNatClampNeg + 4))) hTH105 gb gq132 eq132 g107 g108 g109 g110) yo_X10_fits wM_L_104 ⟨⟨by decide, by decide⟩, show _ ≤ 284929 from Nat.le_trans hc (by decide), show _ ≤ 8247460 from Nat.le_trans hs (by decide)⟩ (x_rv C hTH105 (ci := 10) rfl gb rg_112) rfl hl.1 rfl (Nat.le_of_ble_eq_true rfl) dL_law_1004 hSH105 (AE_new hN hSH105.1) (fun vH133 H133 locsH133 pH133 zH133 kH133 hSH133 => ?_)
    obtain ⟨x134, hvH133, m135, g136, g137, g138, g139, mf140, hTH133⟩ := pH133
    subst hvH133
    have m141 := (m111).trans (fR_kept (x_lt hTH105 kH133 ga (by decide))).symm
    have m142 := (m112).trans (fI_kept (x_lt hTH105 kH133 ga (by decide))).symm
    have m143 := (m114).trans (fI_kept (x_lt hTH105 kH133 gw (by decide))).symm
    have m144 := (m116).trans (fI_kept (x_lt hTH105 kH133 gw (by decide))).symm
    have m145 := (m118).trans (fI_kept (x_lt hTH105 kH133 gw (by decide))).symm
    have m146 := (m120).trans (fI_kept (x_lt hTH105 kH133 gw (by decide))).symm
    have m147 := (m122).trans (fI_kept (x_lt hTH105 kH133 gw (by decide))).symm
    have m148 := (m124).trans (fI_kept (x_lt hTH105 kH133 gw (by decide))).symm
    have m149 := (fV_kept (x_lt hTH105 kH133 ga (by decide))).trans m127
    have m150 := (m113).trans (MF.i mf140 (k := 18) (by decide) (by decide)).symm
    have m151 := (m115).trans (MF.i mf140 (k := 1) (by decide) (by decide)).symm
    have m152 := (m117).trans (MF.i mf140 (k := 2) (by decide) (by decide)).symm
    have m153 := (m119).trans (MF.i mf140 (k := 3) (by decide) (by decide)).symm
    have m154 := (m121).trans (MF.i mf140 (k := 59) (by decide) (by decide)).symm
    have m155 := (m123).trans (MF.i mf140 (k := 62) (by decide) (by decide)).symm
    have m156 := (m125).trans (MF.i mf140 (k := 65) (by decide) (by decide)).symm
    have m157 := (m126).trans (MF.i mf140 (k := 70) (by decide) (by decide)).symm
    have m158 := (eq132).trans (MF.r mf140 (k := 4) (by decide) (by decide)).symm
    refine W.eq (g2 := F0 m 1007 ls [.int x134]) rfl ?_
    refine lv_pop hx hb dL_law_1007 rfl ?_
    refine lv_goto (tgt := 1509) hx hb dL_law_1008 (by decide) ?_
    exact nx G H133 locsH133 _ _ ls ⟨hTH133, hN, ga, gb, g136, g137, g138, g139, ⟨(by rw [← m142, ← m150]; exact rt), (by rw [← m141, ← m143, ← m151]; exact r1), (by rw [← m141, ← m144, ← m152]; exact r4), (by rw [← m141, ← m145, ← m153]; exact r5), (by rw [← m141, ← m146, ← m154]; exact r10), (by rw [← m141, ← m147, ← m155]; exact r13), (by rw [← m141, ← m148, ← m156]; exact r16)⟩, Or.inl ⟨m149, (by rw [← m157]; exact h70)⟩, hSH133⟩ hl ⟨hc, hs, fun _ => ⟨hc0, hs0⟩⟩
  · skip
    obtain ⟨hi, ehi⟩ : ∃ z : Int32, z = fI H b (K.1.2 10 70) := ⟨_, rfl⟩
    rw [← ehi] at h70
    obtain ⟨iq, eiq⟩ : ∃ z : Nat, z = fR H b (K.1.2 10 73) := ⟨_, rfl⟩
    have giq := ty_fr (q := iq) (k := 73) (u := 162) eiq hT gb rg_112 rfl
    rw [← eiq] at q1 q4 q5 q10 q13 q16
    obtain ⟨k1, ek1⟩ : ∃ z : Int32, z = fI H kq (K.1.2 8 1) := ⟨_, rfl⟩
    rw [← ek1] at q1
    obtain ⟨i1, ei1⟩ : ∃ z : Int32, z = fI H iq ((0 : Int32).toNatClampNeg) := ⟨_, rfl⟩
    rw [← ei1] at q1
    obtain ⟨k4, ek4⟩ : ∃ z : Int32, z = fI H kq (K.1.2 8 4) := ⟨_, rfl⟩
    rw [← ek4] at q4
    obtain ⟨i4, ei4⟩ : ∃ z : Int32, z = fI H iq ((1 : Int32).toNatClampNeg) := ⟨_, rfl⟩
    rw [← ei4] at q4
    obtain ⟨k5, ek5⟩ : ∃ z : Int32, z = fI H kq (K.1.2 8 5) := ⟨_, rfl⟩
    rw [← ek5] at q5
    obtain ⟨i5, ei5⟩ : ∃ z : Int32, z = fI H iq ((2 : Int32).toNatClampNeg) := ⟨_, rfl⟩
    rw [← ei5] at q5
    obtain ⟨k10, ek10⟩ : ∃ z : Int32, z = fI H kq (K.1.2 8 10) := ⟨_, rfl⟩
    rw [← ek10] at q10
    obtain ⟨i10, ei10⟩ : ∃ z : Int32, z = fI H iq ((3 : Int32).toNatClampNeg) := ⟨_, rfl⟩
    rw [← ei10] at q10
    obtain ⟨k13, ek13⟩ : ∃ z : Int32, z = fI H kq (K.1.2 8 13) := ⟨_, rfl⟩
    rw [← ek13] at q13
    obtain ⟨i13, ei13⟩ : ∃ z : Int32, z = fI H iq ((4 : Int32).toNatClampNeg) := ⟨_, rfl⟩
    rw [← ei13] at q13
    obtain ⟨k16, ek16⟩ : ∃ z : Int32, z = fI H kq (K.1.2 8 16) := ⟨_, rfl⟩
    rw [← ek16] at q16
    obtain ⟨i16, ei16⟩ : ∃ z : Int32, z = fI H iq ((5 : Int32).toNatClampNeg) := ⟨_, rfl⟩
    rw [← ei16] at q16
    refine lv_aload_n hx hb dL_law_958 rfl (lv_at hl 2 rfl) ?_
    refine lv_aload_n hx hb dL_law_959 rfl (lv_at hl 3 rfl) ?_
    refine lv_iload_n hx hb dL_law_960 rfl (lv_at hl 0 rfl) ?_
    refine lv_iconst (v := 1) hx hb dL_law_961 (by decide) ?_
    refine lv_iadd hx hb dL_law_962 ?_
    refine lv_topi (fun x159 ex159 => ?_)
    obtain ⟨tx159, ejx159, evx159⟩ := lw_ix (k := 1) ex159 hI hL rfl (by decide)
    clear tx159
    refine va_sld hx hb hX hbl (Nat.not_le.mpr hbl) hS (vp_in_iff.mpr evx159) dL_law_963 ?_
    refine W.eq (g2 := F0 m 964 ls [.int (xs (i.toNatClampNeg + 1)), .ref a]) (congrArg (fun z => F0 m 964 ls [.int (xs z), .ref a]) ejx159) ?_
    refine lv_aload_n hx hb dL_law_964 rfl (lv_at hl 3 rfl) ?_
    refine lv_iload_n hx hb dL_law_965 rfl (lv_at hl 0 rfl) ?_
    refine lv_iconst (v := 2) hx hb dL_law_966 (by decide) ?_
    refine lv_iadd hx hb dL_law_967 ?_
    refine lv_topi (fun x160 ex160 => ?_)
    obtain ⟨tx160, ejx160, evx160⟩ := lw_ix (k := 2) ex160 hI hL rfl (by decide)
    clear tx160
    refine va_sld hx hb hX hbl (Nat.not_le.mpr hbl) hS (vp_in_iff.mpr evx160) dL_law_968 ?_
    refine W.eq (g2 := F0 m 969 ls [.int (xs (i.toNatClampNeg + 2)), .int (xs (i.toNatClampNeg + 1)), .ref a]) (congrArg (fun z => F0 m 969 ls [.int (xs z), .int (xs (i.toNatClampNeg + 1)), .ref a]) ejx160) ?_
    refine lv_aload_n hx hb dL_law_969 rfl (lv_at hl 3 rfl) ?_
    refine lv_iload_n hx hb dL_law_970 rfl (lv_at hl 0 rfl) ?_
    refine lv_iconst (v := 3) hx hb dL_law_971 (by decide) ?_
    refine lv_iadd hx hb dL_law_972 ?_
    refine lv_topi (fun x161 ex161 => ?_)
    obtain ⟨tx161, ejx161, evx161⟩ := lw_ix (k := 3) ex161 hI hL rfl (by decide)
    clear tx161
    refine va_sld hx hb hX hbl (Nat.not_le.mpr hbl) hS (vp_in_iff.mpr evx161) dL_law_973 ?_
    refine W.eq (g2 := F0 m 974 ls [.int (xs (i.toNatClampNeg + 3)), .int (xs (i.toNatClampNeg + 2)), .int (xs (i.toNatClampNeg + 1)), .ref a]) (congrArg (fun z => F0 m 974 ls [.int (xs z), .int (xs (i.toNatClampNeg + 2)), .int (xs (i.toNatClampNeg + 1)), .ref a]) ejx161) ?_
    refine lv_aload_n hx hb dL_law_974 rfl (lv_at hl 3 rfl) ?_
    refine lv_iload_n hx hb dL_law_975 rfl (lv_at hl 0 rfl) ?_
    refine lv_iconst (v := 4) hx hb dL_law_976 (by decide) ?_
    refine lv_iadd hx hb dL_law_977 ?_
    refine lv_topi (fun x162 ex162 => ?_)
    obtain ⟨tx162, ejx162, evx162⟩ := lw_ix (k := 4) ex162 hI hL rfl (by decide)
    clear tx162
    refine va_sld hx hb hX hbl (Nat.not_le.mpr hbl) hS (vp_in_iff.mpr evx162) dL_law_978 ?_
    refine W.eq (g2 := F0 m 979 ls [.int (xs (i.toNatClampNeg + 4)), .int (xs (i.toNatClampNeg + 3)), .int (xs (i.toNatClampNeg + 2)), .int (xs (i.toNatClampNeg + 1)), .ref a]) (congrArg (fun z => F0 m 979 ls [.int (xs z), .int (xs (i.toNatClampNeg + 3)), .int (xs (i.toNatClampNeg + 2)), .int (xs (i.toNatClampNeg + 1)), .ref a]) ejx162) ?_
    refine x_V (As := [.int (xs (i.toNatClampNeg + 1)), .int (xs (i.toNatClampNeg + 2)), .int (xs (i.toNatClampNeg + 3)), .int (xs (i.toNatClampNeg + 4))]) (rest := []) C (a_X9_fits l K G H ((xs (i.toNatClampNeg + 1))) ((xs (i.toNatClampNeg + 2))) ((xs (i.toNatClampNeg + 3))) ((xs (i.toNatClampNeg + 4))) hT ga) yo_X9_fits wM_L_100 ⟨⟨by decide, by decide⟩, show _ ≤ 284929 from Nat.le_trans hc (by decide), show _ ≤ 8247460 from Nat.le_trans hs (by decide)⟩ (x_rv C hT (ci := 9) rfl ga rg_68) rfl hl.1 rfl (Nat.le_of_ble_eq_true rfl) dL_law_979 hS (AE_new hN hS.1) (fun vH163 H163 locsH163 pH163 zH163 kH163 hSH163 => ?_)
    obtain ⟨x164, hvH163, hTH163⟩ := pH163
    subst hvH163
    have g165 : CG (avw K H163 b) := CG.congr (fun k hk j => av_eff hT kH163 gb (by decide) (CG_eff [98, 101, 102, 103, 87, 88, 101, 99, 100, 83, 84] (by decide) k hk)) cg
    have g166 : TU (avw K H163 b) (svw K H163 b) := TU.congr (fun k hk j => av_eff hT kH163 gb (by decide) (TU_eff [98, 101, 102, 103, 87, 88, 101, 99, 100, 83, 84] (by decide) k hk)) (fun k hk => sv_eff hT kH163 gb (by decide)) tu
    have g167 : WD (avw K H163 b) := WD.congr (fun k hk j => av_eff hT kH163 gb (by decide) (WD_eff [98, 101, 102, 103, 87, 88, 101, 99, 100, 83, 84] (by decide) k hk)) wd
    have g168 : IM (avw K H163 b) := IM.congr (fun k hk j => av_eff hT kH163 gb (by decide) (IM_eff [98, 101, 102, 103, 87, 88, 101, 99, 100, 83, 84] (by decide) k hk)) im
    have m169 := (ew).trans (fR_kept (x_lt hT kH163 ga (by decide))).symm
    have m170 := (eta).trans (fI_kept (x_lt hT kH163 ga (by decide))).symm
    have m171 := (etb).trans (fI_kept (x_lt hT kH163 gb (by decide))).symm
    have m172 := (es1).trans (fI_kept (x_lt hT kH163 gw (by decide))).symm
    have m173 := (ey1).trans (fI_kept (x_lt hT kH163 gb (by decide))).symm
    have m174 := (es4).trans (fI_kept (x_lt hT kH163 gw (by decide))).symm
    have m175 := (ey4).trans (fI_kept (x_lt hT kH163 gb (by decide))).symm
    have m176 := (es5).trans (fI_kept (x_lt hT kH163 gw (by decide))).symm
    have m177 := (ey5).trans (fI_kept (x_lt hT kH163 gb (by decide))).symm
    have m178 := (es10).trans (fI_kept (x_lt hT kH163 gw (by decide))).symm
    have m179 := (ey10).trans (fI_kept (x_lt hT kH163 gb (by decide))).symm
    have m180 := (es13).trans (fI_kept (x_lt hT kH163 gw (by decide))).symm
    have m181 := (ey13).trans (fI_kept (x_lt hT kH163 gb (by decide))).symm
    have m182 := (es16).trans (fI_kept (x_lt hT kH163 gw (by decide))).symm
    have m183 := (ey16).trans (fI_kept (x_lt hT kH163 gb (by decide))).symm
    have m184 := (ehi).trans (fI_kept (x_lt hT kH163 gb (by decide))).symm
    have m185 := (fV_kept (x_lt hT kH163 ga (by decide))).trans kn
    have m186 := (eiq).trans (fR_kept (x_lt hT kH163 gb (by decide))).symm
    have m187 := (ek1).trans (fI_kept (x_lt hT kH163 gkq (by decide))).symm
    have m188 := (ei1).trans (fI_kept (x_lt hT kH163 giq (by decide))).symm
    have m189 := (ek4).trans (fI_kept (x_lt hT kH163 gkq (by decide))).symm
    have m190 := (ei4).trans (fI_kept (x_lt hT kH163 giq (by decide))).symm
    have m191 := (ek5).trans (fI_kept (x_lt hT kH163 gkq (by decide))).symm
    have m192 := (ei5).trans (fI_kept (x_lt hT kH163 giq (by decide))).symm
    have m193 := (ek10).trans (fI_kept (x_lt hT kH163 gkq (by decide))).symm
    have m194 := (ei10).trans (fI_kept (x_lt hT kH163 giq (by decide))).symm
    have m195 := (ek13).trans (fI_kept (x_lt hT kH163 gkq (by decide))).symm
    have m196 := (ei13).trans (fI_kept (x_lt hT kH163 giq (by decide))).symm
    have m197 := (ek16).trans (fI_kept (x_lt hT kH163 gkq (by decide))).symm
    have m198 := (ei16).trans (fI_kept (x_lt hT kH163 giq (by decide))).symm
    refine W.eq (g2 := F0 m 982 ls [.int x164]) rfl ?_
    refine lv_pop hx hb dL_law_982 rfl ?_
    refine lv_aload_n hx hb dL_law_983 rfl (lv_at hl 1 rfl) ?_
    refine lv_aload_n hx hb dL_law_984 rfl (lv_at hl 3 rfl) ?_
    refine lv_iload_n hx hb dL_law_985 rfl (lv_at hl 0 rfl) ?_
    refine lv_iconst (v := 1) hx hb dL_law_986 (by decide) ?_
    refine lv_iadd hx hb dL_law_987 ?_
    refine lv_topi (fun x199 ex199 => ?_)
    obtain ⟨tx199, ejx199, evx199⟩ := lw_ix (k := 1) ex199 hI hL rfl (by decide)
    clear tx199
    refine va_sld hx hb hX hbl (Nat.not_le.mpr hbl) hSH163 (vp_in_iff.mpr evx199) dL_law_988 ?_
    refine W.eq (g2 := F0 m 989 ls [.int (xs (i.toNatClampNeg + 1)), .ref b]) (congrArg (fun z => F0 m 989 ls [.int (xs z), .ref b]) ejx199) ?_
    refine lv_aload_n hx hb dL_law_989 rfl (lv_at hl 3 rfl) ?_
    refine lv_iload_n hx hb dL_law_990 rfl (lv_at hl 0 rfl) ?_
    refine lv_iconst (v := 2) hx hb dL_law_991 (by decide) ?_
    refine lv_iadd hx hb dL_law_992 ?_
    refine lv_topi (fun x200 ex200 => ?_)
    obtain ⟨tx200, ejx200, evx200⟩ := lw_ix (k := 2) ex200 hI hL rfl (by decide)
    clear tx200
    refine va_sld hx hb hX hbl (Nat.not_le.mpr hbl) hSH163 (vp_in_iff.mpr evx200) dL_law_993 ?_
    refine W.eq (g2 := F0 m 994 ls [.int (xs (i.toNatClampNeg + 2)), .int (xs (i.toNatClampNeg + 1)), .ref b]) (congrArg (fun z => F0 m 994 ls [.int (xs z), .int (xs (i.toNatClampNeg + 1)), .ref b]) ejx200) ?_
    refine lv_aload_n hx hb dL_law_994 rfl (lv_at hl 3 rfl) ?_
    refine lv_iload_n hx hb dL_law_995 rfl (lv_at hl 0 rfl) ?_
    refine lv_iconst (v := 3) hx hb dL_law_996 (by decide) ?_
    refine lv_iadd hx hb dL_law_997 ?_
    refine lv_topi (fun x201 ex201 => ?_)
    obtain ⟨tx201, ejx201, evx201⟩ := lw_ix (k := 3) ex201 hI hL rfl (by decide)
    clear tx201
    refine va_sld hx hb hX hbl (Nat.not_le.mpr hbl) hSH163 (vp_in_iff.mpr evx201) dL_law_998 ?_
    refine W.eq (g2 := F0 m 999 ls [.int (xs (i.toNatClampNeg + 3)), .int (xs (i.toNatClampNeg + 2)), .int (xs (i.toNatClampNeg + 1)), .ref b]) (congrArg (fun z => F0 m 999 ls [.int (xs z), .int (xs (i.toNatClampNeg + 2)), .int (xs (i.toNatClampNeg + 1)), .ref b]) ejx201) ?_
    refine lv_aload_n hx hb dL_law_999 rfl (lv_at hl 3 rfl) ?_
    refine lv_iload_n hx hb dL_law_1000 rfl (lv_at hl 0 rfl) ?_
    refine lv_iconst (v := 4) hx hb dL_law_1001 (by decide) ?_
    refine lv_iadd hx hb dL_law_1002 ?_
    refine lv_topi (fun x202 ex202 => ?_)
    obtain ⟨tx202, ejx202, evx202⟩ := lw_ix (k := 4) ex202 hI hL rfl (by decide)
    clear tx202
    refine va_sld hx hb hX hbl (Nat.not_le.mpr hbl) hSH163 (vp_in_iff.mpr evx202) dL_law_1003 ?_
    refine W.eq (g2 := F0 m 1004 ls [.int (xs (i.toNatClampNeg + 4)), .int (xs (i.toNatClampNeg + 3)), .int (xs (i.toNatClampNeg + 2)), .int (xs (i.toNatClampNeg + 1)), .ref b]) (congrArg (fun z => F0 m 1004 ls [.int (xs z), .int (xs (i.toNatClampNeg + 3)), .int (xs (i.toNatClampNeg + 2)), .int (xs (i.toNatClampNeg + 1)), .ref b]) ejx202) ?_
    obtain ⟨q203, eq203⟩ : ∃ z : Nat, z = fR H163 b (K.1.2 10 4) := ⟨_, rfl⟩
    have gq203 := ty_fr (q := q203) (k := 4) (u := 113) eq203 hTH163 gb rg_112 rfl
    refine x_V (As := [.int (xs (i.toNatClampNeg + 1)), .int (xs (i.toNatClampNeg + 2)), .int (xs (i.toNatClampNeg + 3)), .int (xs (i.toNatClampNeg + 4))]) (rest := []) C (a_X10_fits l K G H163 ((xs (i.toNatClampNeg + 1))) ((xs (i.toNatClampNeg + 2))) ((xs (i.toNatClampNeg + 3))) ((xs (i.toNatClampNeg + 4))) hTH163 gb gq203 eq203 g165 g166 g167 g168) yo_X10_fits wM_L_104 ⟨⟨by decide, by decide⟩, show _ ≤ 284929 from Nat.le_trans hc (by decide), show _ ≤ 8247460 from Nat.le_trans hs (by decide)⟩ (x_rv C hTH163 (ci := 10) rfl gb rg_112) rfl hl.1 rfl (Nat.le_of_ble_eq_true rfl) dL_law_1004 hSH163 (AE_new hN hSH163.1) (fun vH204 H204 locsH204 pH204 zH204 kH204 hSH204 => ?_)
    obtain ⟨x205, hvH204, m206, g207, g208, g209, g210, mf211, hTH204⟩ := pH204
    subst hvH204
    have m212 := (m169).trans (fR_kept (x_lt hTH163 kH204 ga (by decide))).symm
    have m213 := (m170).trans (fI_kept (x_lt hTH163 kH204 ga (by decide))).symm
    have m214 := (m172).trans (fI_kept (x_lt hTH163 kH204 gw (by decide))).symm
    have m215 := (m174).trans (fI_kept (x_lt hTH163 kH204 gw (by decide))).symm
    have m216 := (m176).trans (fI_kept (x_lt hTH163 kH204 gw (by decide))).symm
    have m217 := (m178).trans (fI_kept (x_lt hTH163 kH204 gw (by decide))).symm
    have m218 := (m180).trans (fI_kept (x_lt hTH163 kH204 gw (by decide))).symm
    have m219 := (m182).trans (fI_kept (x_lt hTH163 kH204 gw (by decide))).symm
    have m220 := (fV_kept (x_lt hTH163 kH204 ga (by decide))).trans m185
    have m221 := (m187).trans (fI_kept (x_lt hTH163 kH204 gkq (by decide))).symm
    have m222 := (m188).trans (fI_kept (x_lt hTH163 kH204 giq (by decide))).symm
    have m223 := (m189).trans (fI_kept (x_lt hTH163 kH204 gkq (by decide))).symm
    have m224 := (m190).trans (fI_kept (x_lt hTH163 kH204 giq (by decide))).symm
    have m225 := (m191).trans (fI_kept (x_lt hTH163 kH204 gkq (by decide))).symm
    have m226 := (m192).trans (fI_kept (x_lt hTH163 kH204 giq (by decide))).symm
    have m227 := (m193).trans (fI_kept (x_lt hTH163 kH204 gkq (by decide))).symm
    have m228 := (m194).trans (fI_kept (x_lt hTH163 kH204 giq (by decide))).symm
    have m229 := (m195).trans (fI_kept (x_lt hTH163 kH204 gkq (by decide))).symm
    have m230 := (m196).trans (fI_kept (x_lt hTH163 kH204 giq (by decide))).symm
    have m231 := (m197).trans (fI_kept (x_lt hTH163 kH204 gkq (by decide))).symm
    have m232 := (m198).trans (fI_kept (x_lt hTH163 kH204 giq (by decide))).symm
    have m233 := (m171).trans (MF.i mf211 (k := 18) (by decide) (by decide)).symm
    have m234 := (m173).trans (MF.i mf211 (k := 1) (by decide) (by decide)).symm
    have m235 := (m175).trans (MF.i mf211 (k := 2) (by decide) (by decide)).symm
    have m236 := (m177).trans (MF.i mf211 (k := 3) (by decide) (by decide)).symm
    have m237 := (m179).trans (MF.i mf211 (k := 59) (by decide) (by decide)).symm
    have m238 := (m181).trans (MF.i mf211 (k := 62) (by decide) (by decide)).symm
    have m239 := (m183).trans (MF.i mf211 (k := 65) (by decide) (by decide)).symm
    have m240 := (m184).trans (MF.i mf211 (k := 70) (by decide) (by decide)).symm
    have m241 := (m186).trans (MF.r mf211 (k := 73) (by decide) (by decide)).symm
    have m242 := (eq203).trans (MF.r mf211 (k := 4) (by decide) (by decide)).symm
    refine W.eq (g2 := F0 m 1007 ls [.int x205]) rfl ?_
    refine lv_pop hx hb dL_law_1007 rfl ?_
    refine lv_goto (tgt := 1509) hx hb dL_law_1008 (by decide) ?_
    exact nx G H204 locsH204 _ _ ls ⟨hTH204, hN, ga, gb, g207, g208, g209, g210, ⟨(by rw [← m213, ← m233]; exact rt), (by rw [← m212, ← m214, ← m234]; exact r1), (by rw [← m212, ← m215, ← m235]; exact r4), (by rw [← m212, ← m216, ← m236]; exact r5), (by rw [← m212, ← m217, ← m237]; exact r10), (by rw [← m212, ← m218, ← m238]; exact r13), (by rw [← m212, ← m219, ← m239]; exact r16)⟩, Or.inr ⟨kq, m220, gkq, (by rw [← m240]; exact h70), (by rw [← m221, ← m241, ← m222]; exact q1), (by rw [← m223, ← m241, ← m224]; exact q4), (by rw [← m225, ← m241, ← m226]; exact q5), (by rw [← m227, ← m241, ← m228]; exact q10), (by rw [← m229, ← m241, ← m230]; exact q13), (by rw [← m231, ← m241, ← m232]; exact q16)⟩, hSH204⟩ hl ⟨hc, hs, fun h => by have h1 := h.symm.trans m220; cases h1⟩
set_option maxRecDepth 100000 in
set_option maxHeartbeats 1000000 in
theorem lw_c21 {p : Program} {l : Launch} {e : Env} {s : State} {m : MethodId} {below : List Frame} {meth : Method} {c : Code} {K : KE} {b0 L : Nat} {xs : Nat → Int32} {G : Nat → Option Nat} {H : Heap} {locs : List Loc} {a b : Nat} {cells slots : Nat} {ls : Array Slot} {i : Int32} {n : Nat} (D : LC p K s m meth c b0 L xs) (S : SX K s G H locs a b) (hl : lv_has ls 4 [(3, .int i), (2, .ref b), (1, .ref a), (0, .ref b0)]) (hi : 0 ≤ i.toInt ∧ i.toInt + 6 ≤ L) (hn : n ≤ 511) (hB : BD K H a cells slots) (nx : ∀ (G : Nat → Option Nat) (H : Heap) (locs : List Loc) (cells slots : Nat) (ls : Array Slot), SX K s G H locs a b → lv_has ls 4 [(3, .int i), (2, .ref b), (1, .ref a), (0, .ref b0)] → BD K H a cells slots → W p l e room_1 s m #[Value.ref b0] below meth c H locs cells slots (lw_Z below #[Value.ref b0] s) (F0 m 1509 ls [])) : W p l e room_1 s m #[Value.ref b0] below meth c H locs cells slots (lw_Z below #[Value.ref b0] s) (F0 m 1011 ls []) := by
  have hI := hi
  obtain ⟨C, hX, hbl, hL⟩ := id D
  obtain ⟨hx, hb, hml, hown, hts, hKT, hr, hlocks, hnm⟩ := id C
  obtain ⟨hT, hN, ga, gb, cg, tu, wd, im, ⟨rt, r1, r4, r5, r10, r13, r16⟩, hk, hS⟩ := S
  obtain ⟨hc, hs, hB0⟩ := hB
  have n_1 : (1 : Int32).toInt = 1 := rfl
  obtain ⟨w, ew⟩ : ∃ z : Nat, z = fR H a (K.1.2 9 0) := ⟨_, rfl⟩
  have gw := ty_fr (q := w) (k := 0) (u := 0) ew hT ga rg_68 rfl
  rw [← ew] at r1 r4 r5 r10 r13 r16
  obtain ⟨ta, eta⟩ : ∃ z : Int32, z = fI H a (K.1.2 9 3) := ⟨_, rfl⟩
  rw [← eta] at rt
  obtain ⟨tb, etb⟩ : ∃ z : Int32, z = fI H b (K.1.2 10 18) := ⟨_, rfl⟩
  rw [← etb] at rt
  obtain ⟨s1, es1⟩ : ∃ z : Int32, z = fI H w (K.1.2 8 1) := ⟨_, rfl⟩
  rw [← es1] at r1
  obtain ⟨y1, ey1⟩ : ∃ z : Int32, z = fI H b (K.1.2 10 1) := ⟨_, rfl⟩
  rw [← ey1] at r1
  obtain ⟨s4, es4⟩ : ∃ z : Int32, z = fI H w (K.1.2 8 4) := ⟨_, rfl⟩
  rw [← es4] at r4
  obtain ⟨y4, ey4⟩ : ∃ z : Int32, z = fI H b (K.1.2 10 2) := ⟨_, rfl⟩
  rw [← ey4] at r4
  obtain ⟨s5, es5⟩ : ∃ z : Int32, z = fI H w (K.1.2 8 5) := ⟨_, rfl⟩
  rw [← es5] at r5
  obtain ⟨y5, ey5⟩ : ∃ z : Int32, z = fI H b (K.1.2 10 3) := ⟨_, rfl⟩
  rw [← ey5] at r5
  obtain ⟨s10, es10⟩ : ∃ z : Int32, z = fI H w (K.1.2 8 10) := ⟨_, rfl⟩
  rw [← es10] at r10
  obtain ⟨y10, ey10⟩ : ∃ z : Int32, z = fI H b (K.1.2 10 59) := ⟨_, rfl⟩
  rw [← ey10] at r10
  obtain ⟨s13, es13⟩ : ∃ z : Int32, z = fI H w (K.1.2 8 13) := ⟨_, rfl⟩
  rw [← es13] at r13
  obtain ⟨y13, ey13⟩ : ∃ z : Int32, z = fI H b (K.1.2 10 62) := ⟨_, rfl⟩
  rw [← ey13] at r13
  obtain ⟨s16, es16⟩ : ∃ z : Int32, z = fI H w (K.1.2 8 16) := ⟨_, rfl⟩
  rw [← es16] at r16
  obtain ⟨y16, ey16⟩ : ∃ z : Int32, z = fI H b (K.1.2 10 65) := ⟨_, rfl⟩
  rw [← ey16] at r16
  rcases hk with ⟨kn, h70⟩ | ⟨kq, kn, gkq, h70, q1, q4, q5, q10, q13, q16⟩
  · skip
    obtain ⟨hi, ehi⟩ : ∃ z : Int32, z = fI H b (K.1.2 10 70) := ⟨_, rfl⟩
    rw [← ehi] at h70
    obtain ⟨hc0, hs0⟩ := hB0 kn
    refine lv_aload_n hx hb dL_law_1011 rfl (lv_at hl 2 rfl) ?_
    refine lv_aload_n hx hb dL_law_1012 rfl (lv_at hl 3 rfl) ?_
    refine lv_iload_n hx hb dL_law_1013 rfl (lv_at hl 0 rfl) ?_
    refine lv_iconst (v := 1) hx hb dL_law_1014 (by decide) ?_
    refine lv_iadd hx hb dL_law_1015 ?_
    refine lv_topi (fun x101 ex101 => ?_)
    obtain ⟨tx101, ejx101, evx101⟩ := lw_ix (k := 1) ex101 hI hL rfl (by decide)
    clear tx101
    refine va_sld hx hb hX hbl (Nat.not_le.mpr hbl) hS (vp_in_iff.mpr evx101) dL_law_1016 ?_
    refine W.eq (g2 := F0 m 1017 ls [.int (xs (i.toNatClampNeg + 1)), .ref a]) (congrArg (fun z => F0 m 1017 ls [.int (xs z), .ref a]) ejx101) ?_
    refine x_V (As := [.int (xs (i.toNatClampNeg + 1))]) (rest := []) C (a_X9_off l K G H ((xs (i.toNatClampNeg + 1))) hT ga) yo_X9_off wM_L_105 ⟨⟨by decide, by decide⟩, show _ ≤ 284929 from Nat.le_trans hc (by decide), show _ ≤ 8247460 from Nat.le_trans hs (by decide)⟩ (x_rv C hT (ci := 9) rfl ga rg_68) rfl hl.1 rfl (Nat.le_of_ble_eq_true rfl) dL_law_1017 hS (AE_new hN hS.1) (fun vH102 H102 locsH102 pH102 zH102 kH102 hSH102 => ?_)
    obtain ⟨x103, hvH102, hTH102⟩ := pH102
    subst hvH102
    have g104 : CG (avw K H102 b) := CG.congr (fun k hk j => av_eff hT kH102 gb (by decide) (CG_eff [83, 84] (by decide) k hk)) cg
    have g105 : TU (avw K H102 b) (svw K H102 b) := TU.congr (fun k hk j => av_eff hT kH102 gb (by decide) (TU_eff [83, 84] (by decide) k hk)) (fun k hk => sv_eff hT kH102 gb (by decide)) tu
    have g106 : WD (avw K H102 b) := WD.congr (fun k hk j => av_eff hT kH102 gb (by decide) (WD_eff [83, 84] (by decide) k hk)) wd
    have g107 : IM (avw K H102 b) := IM.congr (fun k hk j => av_eff hT kH102 gb (by decide) (IM_eff [83, 84] (by decide) k hk)) im
    have m108 := (ew).trans (fR_kept (x_lt hT kH102 ga (by decide))).symm
    have m109 := (eta).trans (fI_kept (x_lt hT kH102 ga (by decide))).symm
    have m110 := (etb).trans (fI_kept (x_lt hT kH102 gb (by decide))).symm
    have m111 := (es1).trans (fI_kept (x_lt hT kH102 gw (by decide))).symm
    have m112 := (ey1).trans (fI_kept (x_lt hT kH102 gb (by decide))).symm
    have m113 := (es4).trans (fI_kept (x_lt hT kH102 gw (by decide))).symm
    have m114 := (ey4).trans (fI_kept (x_lt hT kH102 gb (by decide))).symm
    have m115 := (es5).trans (fI_kept (x_lt hT kH102 gw (by decide))).symm
    have m116 := (ey5).trans (fI_kept (x_lt hT kH102 gb (by decide))).symm
    have m117 := (es10).trans (fI_kept (x_lt hT kH102 gw (by decide))).symm
    have m118 := (ey10).trans (fI_kept (x_lt hT kH102 gb (by decide))).symm
    have m119 := (es13).trans (fI_kept (x_lt hT kH102 gw (by decide))).symm
    have m120 := (ey13).trans (fI_kept (x_lt hT kH102 gb (by decide))).symm
    have m121 := (es16).trans (fI_kept (x_lt hT kH102 gw (by decide))).symm
    have m122 := (ey16).trans (fI_kept (x_lt hT kH102 gb (by decide))).symm
    have m123 := (ehi).trans (fI_kept (x_lt hT kH102 gb (by decide))).symm
    have m124 := (fV_kept (x_lt hT kH102 ga (by decide))).trans kn
    refine W.eq (g2 := F0 m 1020 ls [.int x103]) rfl ?_
    refine lv_pop hx hb dL_law_1020 rfl ?_
    refine lv_aload_n hx hb dL_law_1021 rfl (lv_at hl 1 rfl) ?_
    refine lv_aload_n hx hb dL_law_1022 rfl (lv_at hl 3 rfl) ?_
    refine lv_iload_n hx hb dL_law_1023 rfl (lv_at hl 0 rfl) ?_
    refine lv_iconst (v := 1) hx hb dL_law_1024 (by decide) ?_
    refine lv_iadd hx hb dL_law_1025 ?_
    refine lv_topi (fun x125 ex125 => ?_)
    obtain ⟨tx125, ejx125, evx125⟩ := lw_ix (k := 1) ex125 hI hL rfl (by decide)
    clear tx125
    refine va_sld hx hb hX hbl (Nat.not_le.mpr hbl) hSH102 (vp_in_iff.mpr evx125) dL_law_1026 ?_
    refine W.eq (g2 := F0 m 1027 ls [.int (xs (i.toNatClampNeg + 1)), .ref b]) (congrArg (fun z => F0 m 1027 ls [.int (xs z), .ref b]) ejx125) ?_
    refine x_V (As := [.int (xs (i.toNatClampNeg + 1))]) (rest := []) C (a_X10_off l K G H102 ((xs (i.toNatClampNeg + 1))) hTH102 gb g104 g105 g106 g107) yo_X10_off wM_L_108 ⟨⟨by decide, by decide⟩, show _ ≤ 284929 from Nat.le_trans hc (by decide), show _ ≤ 8247460 from Nat.le_trans hs (by decide)⟩ (x_rv C hTH102 (ci := 10) rfl gb rg_112) rfl hl.1 rfl (Nat.le_of_ble_eq_true rfl) dL_law_1027 hSH102 (AE_new hN hSH102.1) (fun vH126 H126 locsH126 pH126 zH126 kH126 hSH126 => ?_)
    obtain ⟨x127, hvH126, g128, g129, g130, g131, mf132, hTH126⟩ := pH126
    subst hvH126
    have m133 := (m108).trans (fR_kept (x_lt hTH102 kH126 ga (by decide))).symm
    have m134 := (m109).trans (fI_kept (x_lt hTH102 kH126 ga (by decide))).symm
    have m135 := (m111).trans (fI_kept (x_lt hTH102 kH126 gw (by decide))).symm
    have m136 := (m113).trans (fI_kept (x_lt hTH102 kH126 gw (by decide))).symm
    have m137 := (m115).trans (fI_kept (x_lt hTH102 kH126 gw (by decide))).symm
    have m138 := (m117).trans (fI_kept (x_lt hTH102 kH126 gw (by decide))).symm
    have m139 := (m119).trans (fI_kept (x_lt hTH102 kH126 gw (by decide))).symm
    have m140 := (m121).trans (fI_kept (x_lt hTH102 kH126 gw (by decide))).symm
    have m141 := (fV_kept (x_lt hTH102 kH126 ga (by decide))).trans m124
    have m142 := (m110).trans (MF.i mf132 (k := 18) (by decide) (by decide)).symm
    have m143 := (m112).trans (MF.i mf132 (k := 1) (by decide) (by decide)).symm
    have m144 := (m114).trans (MF.i mf132 (k := 2) (by decide) (by decide)).symm
    have m145 := (m116).trans (MF.i mf132 (k := 3) (by decide) (by decide)).symm
    have m146 := (m118).trans (MF.i mf132 (k := 59) (by decide) (by decide)).symm
    have m147 := (m120).trans (MF.i mf132 (k := 62) (by decide) (by decide)).symm
    have m148 := (m122).trans (MF.i mf132 (k := 65) (by decide) (by decide)).symm
    have m149 := (m123).trans (MF.i mf132 (k := 70) (by decide) (by decide)).symm
    refine W.eq (g2 := F0 m 1030 ls [.int x127]) rfl ?_
    refine lv_pop hx hb dL_law_1030 rfl ?_
    refine lv_goto (tgt := 1509) hx hb dL_law_1031 (by decide) ?_
    exact nx G H126 locsH126 _ _ ls ⟨hTH126, hN, ga, gb, g128, g129, g130, g131, ⟨(by rw [← m134, ← m142]; exact rt), (by rw [← m133, ← m135, ← m143]; exact r1), (by rw [← m133, ← m136, ← m144]; exact r4), (by rw [← m133, ← m137, ← m145]; exact r5), (by rw [← m133, ← m138, ← m146]; exact r10), (by rw [← m133, ← m139, ← m147]; exact r13), (by rw [← m133, ← m140, ← m148]; exact r16)⟩, Or.inl ⟨m141, (by rw [← m149]; exact h70)⟩, hSH126⟩ hl ⟨hc, hs, fun _ => ⟨hc0, hs0⟩⟩
  · skip
    obtain ⟨hi, ehi⟩ : ∃ z : Int32, z = fI H b (K.1.2 10 70) := ⟨_, rfl⟩
    rw [← ehi] at h70
    obtain ⟨iq, eiq⟩ : ∃ z : Nat, z = fR H b (K.1.2 10 73) := ⟨_, rfl⟩
    have giq := ty_fr (q := iq) (k := 73) (u := 162) eiq hT gb rg_112 rfl
    rw [← eiq] at q1 q4 q5 q10 q13 q16
    obtain ⟨k1, ek1⟩ : ∃ z : Int32, z = fI H kq (K.1.2 8 1) := ⟨_, rfl⟩
    rw [← ek1] at q1
    obtain ⟨i1, ei1⟩ : ∃ z : Int32, z = fI H iq ((0 : Int32).toNatClampNeg) := ⟨_, rfl⟩
    rw [← ei1] at q1
    obtain ⟨k4, ek4⟩ : ∃ z : Int32, z = fI H kq (K.1.2 8 4) := ⟨_, rfl⟩
    rw [← ek4] at q4
    obtain ⟨i4, ei4⟩ : ∃ z : Int32, z = fI H iq ((1 : Int32).toNatClampNeg) := ⟨_, rfl⟩
    rw [← ei4] at q4
    obtain ⟨k5, ek5⟩ : ∃ z : Int32, z = fI H kq (K.1.2 8 5) := ⟨_, rfl⟩
    rw [← ek5] at q5
    obtain ⟨i5, ei5⟩ : ∃ z : Int32, z = fI H iq ((2 : Int32).toNatClampNeg) := ⟨_, rfl⟩
    rw [← ei5] at q5
    obtain ⟨k10, ek10⟩ : ∃ z : Int32, z = fI H kq (K.1.2 8 10) := ⟨_, rfl⟩
    rw [← ek10] at q10
    obtain ⟨i10, ei10⟩ : ∃ z : Int32, z = fI H iq ((3 : Int32).toNatClampNeg) := ⟨_, rfl⟩
    rw [← ei10] at q10
    obtain ⟨k13, ek13⟩ : ∃ z : Int32, z = fI H kq (K.1.2 8 13) := ⟨_, rfl⟩
    rw [← ek13] at q13
    obtain ⟨i13, ei13⟩ : ∃ z : Int32, z = fI H iq ((4 : Int32).toNatClampNeg) := ⟨_, rfl⟩
    rw [← ei13] at q13
    obtain ⟨k16, ek16⟩ : ∃ z : Int32, z = fI H kq (K.1.2 8 16) := ⟨_, rfl⟩
    rw [← ek16] at q16
    obtain ⟨i16, ei16⟩ : ∃ z : Int32, z = fI H iq ((5 : Int32).toNatClampNeg) := ⟨_, rfl⟩
    rw [← ei16] at q16
    refine lv_aload_n hx hb dL_law_1011 rfl (lv_at hl 2 rfl) ?_
    refine lv_aload_n hx hb dL_law_1012 rfl (lv_at hl 3 rfl) ?_
    refine lv_iload_n hx hb dL_law_1013 rfl (lv_at hl 0 rfl) ?_
    refine lv_iconst (v := 1) hx hb dL_law_1014 (by decide) ?_
    refine lv_iadd hx hb dL_law_1015 ?_
    refine lv_topi (fun x150 ex150 => ?_)
    obtain ⟨tx150, ejx150, evx150⟩ := lw_ix (k := 1) ex150 hI hL rfl (by decide)
    clear tx150
    refine va_sld hx hb hX hbl (Nat.not_le.mpr hbl) hS (vp_in_iff.mpr evx150) dL_law_1016 ?_
    refine W.eq (g2 := F0 m 1017 ls [.int (xs (i.toNatClampNeg + 1)), .ref a]) (congrArg (fun z => F0 m 1017 ls [.int (xs z), .ref a]) ejx150) ?_
    refine x_V (As := [.int (xs (i.toNatClampNeg + 1))]) (rest := []) C (a_X9_off l K G H ((xs (i.toNatClampNeg + 1))) hT ga) yo_X9_off wM_L_105 ⟨⟨by decide, by decide⟩, show _ ≤ 284929 from Nat.le_trans hc (by decide), show _ ≤ 8247460 from Nat.le_trans hs (by decide)⟩ (x_rv C hT (ci := 9) rfl ga rg_68) rfl hl.1 rfl (Nat.le_of_ble_eq_true rfl) dL_law_1017 hS (AE_new hN hS.1) (fun vH151 H151 locsH151 pH151 zH151 kH151 hSH151 => ?_)
    obtain ⟨x152, hvH151, hTH151⟩ := pH151
    subst hvH151
    have g153 : CG (avw K H151 b) := CG.congr (fun k hk j => av_eff hT kH151 gb (by decide) (CG_eff [83, 84] (by decide) k hk)) cg
    have g154 : TU (avw K H151 b) (svw K H151 b) := TU.congr (fun k hk j => av_eff hT kH151 gb (by decide) (TU_eff [83, 84] (by decide) k hk)) (fun k hk => sv_eff hT kH151 gb (by decide)) tu
    have g155 : WD (avw K H151 b) := WD.congr (fun k hk j => av_eff hT kH151 gb (by decide) (WD_eff [83, 84] (by decide) k hk)) wd
    have g156 : IM (avw K H151 b) := IM.congr (fun k hk j => av_eff hT kH151 gb (by decide) (IM_eff [83, 84] (by decide) k hk)) im
    have m157 := (ew).trans (fR_kept (x_lt hT kH151 ga (by decide))).symm
    have m158 := (eta).trans (fI_kept (x_lt hT kH151 ga (by decide))).symm
    have m159 := (etb).trans (fI_kept (x_lt hT kH151 gb (by decide))).symm
    have m160 := (es1).trans (fI_kept (x_lt hT kH151 gw (by decide))).symm
    have m161 := (ey1).trans (fI_kept (x_lt hT kH151 gb (by decide))).symm
    have m162 := (es4).trans (fI_kept (x_lt hT kH151 gw (by decide))).symm
    have m163 := (ey4).trans (fI_kept (x_lt hT kH151 gb (by decide))).symm
    have m164 := (es5).trans (fI_kept (x_lt hT kH151 gw (by decide))).symm
    have m165 := (ey5).trans (fI_kept (x_lt hT kH151 gb (by decide))).symm
    have m166 := (es10).trans (fI_kept (x_lt hT kH151 gw (by decide))).symm
    have m167 := (ey10).trans (fI_kept (x_lt hT kH151 gb (by decide))).symm
    have m168 := (es13).trans (fI_kept (x_lt hT kH151 gw (by decide))).symm
    have m169 := (ey13).trans (fI_kept (x_lt hT kH151 gb (by decide))).symm
    have m170 := (es16).trans (fI_kept (x_lt hT kH151 gw (by decide))).symm
    have m171 := (ey16).trans (fI_kept (x_lt hT kH151 gb (by decide))).symm
    have m172 := (ehi).trans (fI_kept (x_lt hT kH151 gb (by decide))).symm
    have m173 := (fV_kept (x_lt hT kH151 ga (by decide))).trans kn
    have m174 := (eiq).trans (fR_kept (x_lt hT kH151 gb (by decide))).symm
    have m175 := (ek1).trans (fI_kept (x_lt hT kH151 gkq (by decide))).symm
    have m176 := (ei1).trans (fI_kept (x_lt hT kH151 giq (by decide))).symm
    have m177 := (ek4).trans (fI_kept (x_lt hT kH151 gkq (by decide))).symm
    have m178 := (ei4).trans (fI_kept (x_lt hT kH151 giq (by decide))).symm
    have m179 := (ek5).trans (fI_kept (x_lt hT kH151 gkq (by decide))).symm
    have m180 := (ei5).trans (fI_kept (x_lt hT kH151 giq (by decide))).symm
    have m181 := (ek10).trans (fI_kept (x_lt hT kH151 gkq (by decide))).symm
    have m182 := (ei10).trans (fI_kept (x_lt hT kH151 giq (by decide))).symm
    have m183 := (ek13).trans (fI_kept (x_lt hT kH151 gkq (by decide))).symm
    have m184 := (ei13).trans (fI_kept (x_lt hT kH151 giq (by decide))).symm
    have m185 := (ek16).trans (fI_kept (x_lt hT kH151 gkq (by decide))).symm
    have m186 := (ei16).trans (fI_kept (x_lt hT kH151 giq (by decide))).symm
    refine W.eq (g2 := F0 m 1020 ls [.int x152]) rfl ?_
    refine lv_pop hx hb dL_law_1020 rfl ?_
    refine lv_aload_n hx hb dL_law_1021 rfl (lv_at hl 1 rfl) ?_
    refine lv_aload_n hx hb dL_law_1022 rfl (lv_at hl 3 rfl) ?_
    refine lv_iload_n hx hb dL_law_1023 rfl (lv_at hl 0 rfl) ?_
    refine lv_iconst (v := 1) hx hb dL_law_1024 (by decide) ?_
    refine lv_iadd hx hb dL_law_1025 ?_
    refine lv_topi (fun x187 ex187 => ?_)
    obtain ⟨tx187, ejx187, evx187⟩ := lw_ix (k := 1) ex187 hI hL rfl (by decide)
    clear tx187
    refine va_sld hx hb hX hbl (Nat.not_le.mpr hbl) hSH151 (vp_in_iff.mpr evx187) dL_law_1026 ?_
    refine W.eq (g2 := F0 m 1027 ls [.int (xs (i.toNatClampNeg + 1)), .ref b]) (congrArg (fun z => F0 m 1027 ls [.int (xs z), .ref b]) ejx187) ?_
    refine x_V (As := [.int (xs (i.toNatClampNeg + 1))]) (rest := []) C (a_X10_off l K G H151 ((xs (i.toNatClampNeg + 1))) hTH151 gb g153 g154 g155 g156) yo_X10_off wM_L_108 ⟨⟨by decide, by decide⟩, show _ ≤ 284929 from Nat.le_trans hc (by decide), show _ ≤ 8247460 from Nat.le_trans hs (by decide)⟩ (x_rv C hTH151 (ci := 10) rfl gb rg_112) rfl hl.1 rfl (Nat.le_of_ble_eq_true rfl) dL_law_1027 hSH151 (AE_new hN hSH151.1) (fun vH188 H188 locsH188 pH188 zH188 kH188 hSH188 => ?_)
    obtain ⟨x189, hvH188, g190, g191, g192, g193, mf194, hTH188⟩ := pH188
    subst hvH188
    have m195 := (m157).trans (fR_kept (x_lt hTH151 kH188 ga (by decide))).symm
    have m196 := (m158).trans (fI_kept (x_lt hTH151 kH188 ga (by decide))).symm
    have m197 := (m160).trans (fI_kept (x_lt hTH151 kH188 gw (by decide))).symm
    have m198 := (m162).trans (fI_kept (x_lt hTH151 kH188 gw (by decide))).symm
    have m199 := (m164).trans (fI_kept (x_lt hTH151 kH188 gw (by decide))).symm
    have m200 := (m166).trans (fI_kept (x_lt hTH151 kH188 gw (by decide))).symm
    have m201 := (m168).trans (fI_kept (x_lt hTH151 kH188 gw (by decide))).symm
    have m202 := (m170).trans (fI_kept (x_lt hTH151 kH188 gw (by decide))).symm
    have m203 := (fV_kept (x_lt hTH151 kH188 ga (by decide))).trans m173
    have m204 := (m175).trans (fI_kept (x_lt hTH151 kH188 gkq (by decide))).symm
    have m205 := (m176).trans (fI_kept (x_lt hTH151 kH188 giq (by decide))).symm
    have m206 := (m177).trans (fI_kept (x_lt hTH151 kH188 gkq (by decide))).symm
    have m207 := (m178).trans (fI_kept (x_lt hTH151 kH188 giq (by decide))).symm
    have m208 := (m179).trans (fI_kept (x_lt hTH151 kH188 gkq (by decide))).symm
    have m209 := (m180).trans (fI_kept (x_lt hTH151 kH188 giq (by decide))).symm
    have m210 := (m181).trans (fI_kept (x_lt hTH151 kH188 gkq (by decide))).symm
    have m211 := (m182).trans (fI_kept (x_lt hTH151 kH188 giq (by decide))).symm
    have m212 := (m183).trans (fI_kept (x_lt hTH151 kH188 gkq (by decide))).symm
    have m213 := (m184).trans (fI_kept (x_lt hTH151 kH188 giq (by decide))).symm
    have m214 := (m185).trans (fI_kept (x_lt hTH151 kH188 gkq (by decide))).symm
    have m215 := (m186).trans (fI_kept (x_lt hTH151 kH188 giq (by decide))).symm
    have m216 := (m159).trans (MF.i mf194 (k := 18) (by decide) (by decide)).symm
    have m217 := (m161).trans (MF.i mf194 (k := 1) (by decide) (by decide)).symm
    have m218 := (m163).trans (MF.i mf194 (k := 2) (by decide) (by decide)).symm
    have m219 := (m165).trans (MF.i mf194 (k := 3) (by decide) (by decide)).symm
    have m220 := (m167).trans (MF.i mf194 (k := 59) (by decide) (by decide)).symm
    have m221 := (m169).trans (MF.i mf194 (k := 62) (by decide) (by decide)).symm
    have m222 := (m171).trans (MF.i mf194 (k := 65) (by decide) (by decide)).symm
    have m223 := (m172).trans (MF.i mf194 (k := 70) (by decide) (by decide)).symm
    have m224 := (m174).trans (MF.r mf194 (k := 73) (by decide) (by decide)).symm
    refine W.eq (g2 := F0 m 1030 ls [.int x189]) rfl ?_
    refine lv_pop hx hb dL_law_1030 rfl ?_
    refine lv_goto (tgt := 1509) hx hb dL_law_1031 (by decide) ?_
    exact nx G H188 locsH188 _ _ ls ⟨hTH188, hN, ga, gb, g190, g191, g192, g193, ⟨(by rw [← m196, ← m216]; exact rt), (by rw [← m195, ← m197, ← m217]; exact r1), (by rw [← m195, ← m198, ← m218]; exact r4), (by rw [← m195, ← m199, ← m219]; exact r5), (by rw [← m195, ← m200, ← m220]; exact r10), (by rw [← m195, ← m201, ← m221]; exact r13), (by rw [← m195, ← m202, ← m222]; exact r16)⟩, Or.inr ⟨kq, m203, gkq, (by rw [← m223]; exact h70), (by rw [← m204, ← m224, ← m205]; exact q1), (by rw [← m206, ← m224, ← m207]; exact q4), (by rw [← m208, ← m224, ← m209]; exact q5), (by rw [← m210, ← m224, ← m211]; exact q10), (by rw [← m212, ← m224, ← m213]; exact q13), (by rw [← m214, ← m224, ← m215]; exact q16)⟩, hSH188⟩ hl ⟨hc, hs, fun h => by have h1 := h.symm.trans m203; cases h1⟩
set_option maxRecDepth 100000 in
set_option maxHeartbeats 1000000 in
theorem lw_c22 {p : Program} {l : Launch} {e : Env} {s : State} {m : MethodId} {below : List Frame} {meth : Method} {c : Code} {K : KE} {b0 L : Nat} {xs : Nat → Int32} {G : Nat → Option Nat} {H : Heap} {locs : List Loc} {a b : Nat} {cells slots : Nat} {ls : Array Slot} {i : Int32} {n : Nat} (D : LC p K s m meth c b0 L xs) (S : SX K s G H locs a b) (hl : lv_has ls 4 [(3, .int i), (2, .ref b), (1, .ref a), (0, .ref b0)]) (hi : 0 ≤ i.toInt ∧ i.toInt + 6 ≤ L) (hn : n ≤ 511) (hB : BD K H a cells slots) (nx : ∀ (G : Nat → Option Nat) (H : Heap) (locs : List Loc) (cells slots : Nat) (ls : Array Slot), SX K s G H locs a b → lv_has ls 4 [(3, .int i), (2, .ref b), (1, .ref a), (0, .ref b0)] → BD K H a cells slots → W p l e room_1 s m #[Value.ref b0] below meth c H locs cells slots (lw_Z below #[Value.ref b0] s) (F0 m 1509 ls [])) : W p l e room_1 s m #[Value.ref b0] below meth c H locs cells slots (lw_Z below #[Value.ref b0] s) (F0 m 1034 ls []) := by
  have hI := hi
  obtain ⟨C, hX, hbl, hL⟩ := id D
  obtain ⟨hx, hb, hml, hown, hts, hKT, hr, hlocks, hnm⟩ := id C
  obtain ⟨hT, hN, ga, gb, cg, tu, wd, im, ⟨rt, r1, r4, r5, r10, r13, r16⟩, hk, hS⟩ := S
  obtain ⟨hc, hs, hB0⟩ := hB
  have n_1 : (1 : Int32).toInt = 1 := rfl
  have n_2 : (2 : Int32).toInt = 2 := rfl
  have n_3 : (3 : Int32).toInt = 3 := rfl
  obtain ⟨w, ew⟩ : ∃ z : Nat, z = fR H a (K.1.2 9 0) := ⟨_, rfl⟩
  have gw := ty_fr (q := w) (k := 0) (u := 0) ew hT ga rg_68 rfl
  rw [← ew] at r1 r4 r5 r10 r13 r16
  obtain ⟨ta, eta⟩ : ∃ z : Int32, z = fI H a (K.1.2 9 3) := ⟨_, rfl⟩
  rw [← eta] at rt
  obtain ⟨tb, etb⟩ : ∃ z : Int32, z = fI H b (K.1.2 10 18) := ⟨_, rfl⟩
  rw [← etb] at rt
  obtain ⟨s1, es1⟩ : ∃ z : Int32, z = fI H w (K.1.2 8 1) := ⟨_, rfl⟩
  rw [← es1] at r1
  obtain ⟨y1, ey1⟩ : ∃ z : Int32, z = fI H b (K.1.2 10 1) := ⟨_, rfl⟩
  rw [← ey1] at r1
  obtain ⟨s4, es4⟩ : ∃ z : Int32, z = fI H w (K.1.2 8 4) := ⟨_, rfl⟩
  rw [← es4] at r4
  obtain ⟨y4, ey4⟩ : ∃ z : Int32, z = fI H b (K.1.2 10 2) := ⟨_, rfl⟩
  rw [← ey4] at r4
  obtain ⟨s5, es5⟩ : ∃ z : Int32, z = fI H w (K.1.2 8 5) := ⟨_, rfl⟩
  rw [← es5] at r5
  obtain ⟨y5, ey5⟩ : ∃ z : Int32, z = fI H b (K.1.2 10 3) := ⟨_, rfl⟩
  rw [← ey5] at r5
  obtain ⟨s10, es10⟩ : ∃ z : Int32, z = fI H w (K.1.2 8 10) := ⟨_, rfl⟩
  rw [← es10] at r10
  obtain ⟨y10, ey10⟩ : ∃ z : Int32, z = fI H b (K.1.2 10 59) := ⟨_, rfl⟩
  rw [← ey10] at r10
  obtain ⟨s13, es13⟩ : ∃ z : Int32, z = fI H w (K.1.2 8 13) := ⟨_, rfl⟩
  rw [← es13] at r13
  obtain ⟨y13, ey13⟩ : ∃ z : Int32, z = fI H b (K.1.2 10 62) := ⟨_, rfl⟩
  rw [← ey13] at r13
  obtain ⟨s16, es16⟩ : ∃ z : Int32, z = fI H w (K.1.2 8 16) := ⟨_, rfl⟩
  rw [← es16] at r16
  obtain ⟨y16, ey16⟩ : ∃ z : Int32, z = fI H b (K.1.2 10 65) := ⟨_, rfl⟩
  rw [← ey16] at r16
  rcases hk with ⟨kn, h70⟩ | ⟨kq, kn, gkq, h70, q1, q4, q5, q10, q13, q16⟩
  · skip
    obtain ⟨hi, ehi⟩ : ∃ z : Int32, z = fI H b (K.1.2 10 70) := ⟨_, rfl⟩
    rw [← ehi] at h70
    obtain ⟨hc0, hs0⟩ := hB0 kn
    refine lv_aload_n hx hb dL_law_1034 rfl (lv_at hl 2 rfl) ?_
    refine lv_aload_n hx hb dL_law_1035 rfl (lv_at hl 3 rfl) ?_
    refine lv_iload_n hx hb dL_law_1036 rfl (lv_at hl 0 rfl) ?_
    refine lv_iconst (v := 1) hx hb dL_law_1037 (by decide) ?_
    refine lv_iadd hx hb dL_law_1038 ?_
    refine lv_topi (fun x101 ex101 => ?_)
    obtain ⟨tx101, ejx101, evx101⟩ := lw_ix (k := 1) ex101 hI hL rfl (by decide)
    clear tx101
    refine va_sld hx hb hX hbl (Nat.not_le.mpr hbl) hS (vp_in_iff.mpr evx101) dL_law_1039 ?_
    refine W.eq (g2 := F0 m 1040 ls [.int (xs (i.toNatClampNeg + 1)), .ref a]) (congrArg (fun z => F0 m 1040 ls [.int (xs z), .ref a]) ejx101) ?_
    refine lv_aload_n hx hb dL_law_1040 rfl (lv_at hl 3 rfl) ?_
    refine lv_iload_n hx hb dL_law_1041 rfl (lv_at hl 0 rfl) ?_
    refine lv_iconst (v := 2) hx hb dL_law_1042 (by decide) ?_
    refine lv_iadd hx hb dL_law_1043 ?_
    refine lv_topi (fun x102 ex102 => ?_)
    obtain ⟨tx102, ejx102, evx102⟩ := lw_ix (k := 2) ex102 hI hL rfl (by decide)
    clear tx102
    refine va_sld hx hb hX hbl (Nat.not_le.mpr hbl) hS (vp_in_iff.mpr evx102) dL_law_1044 ?_
    refine W.eq (g2 := F0 m 1045 ls [.int (xs (i.toNatClampNeg + 2)), .int (xs (i.toNatClampNeg + 1)), .ref a]) (congrArg (fun z => F0 m 1045 ls [.int (xs z), .int (xs (i.toNatClampNeg + 1)), .ref a]) ejx102) ?_
    refine lv_aload_n hx hb dL_law_1045 rfl (lv_at hl 3 rfl) ?_
    refine lv_iload_n hx hb dL_law_1046 rfl (lv_at hl 0 rfl) ?_
    refine lv_iconst (v := 3) hx hb dL_law_1047 (by decide) ?_
    refine lv_iadd hx hb dL_law_1048 ?_
    refine lv_topi (fun x103 ex103 => ?_)
    obtain ⟨tx103, ejx103, evx103⟩ := lw_ix (k := 3) ex103 hI hL rfl (by decide)
    clear tx103
    refine va_sld hx hb hX hbl (Nat.not_le.mpr hbl) hS (vp_in_iff.mpr evx103) dL_law_1049 ?_
    refine W.eq (g2 := F0 m 1050 ls [.int (xs (i.toNatClampNeg + 3)), .int (xs (i.toNatClampNeg + 2)), .int (xs (i.toNatClampNeg + 1)), .ref a]) (congrArg (fun z => F0 m 1050 ls [.int (xs z), .int (xs (i.toNatClampNeg + 2)), .int (xs (i.toNatClampNeg + 1)), .ref a]) ejx103) ?_
    refine x_V (As := [.int (xs (i.toNatClampNeg + 1)), .int (xs (i.toNatClampNeg + 2)), .int (xs (i.toNatClampNeg + 3))]) (rest := []) C (a_X9_still l K G H ((xs (i.toNatClampNeg + 1))) ((xs (i.toNatClampNeg + 2))) ((xs (i.toNatClampNeg + 3))) hT ga) yo_X9_still wM_L_109 ⟨⟨by decide, by decide⟩, show _ ≤ 284929 from Nat.le_trans hc (by decide), show _ ≤ 8247460 from Nat.le_trans hs (by decide)⟩ (x_rv C hT (ci := 9) rfl ga rg_68) rfl hl.1 rfl (Nat.le_of_ble_eq_true rfl) dL_law_1050 hS (AE_new hN hS.1) (fun vH104 H104 locsH104 pH104 zH104 kH104 hSH104 => ?_)
    obtain ⟨x105, hvH104, hTH104⟩ := pH104
    subst hvH104
    have g106 : CG (avw K H104 b) := CG.congr (fun k hk j => av_eff hT kH104 gb (by decide) (CG_eff [83, 84, 110] (by decide) k hk)) cg
    have g107 : TU (avw K H104 b) (svw K H104 b) := TU.congr (fun k hk j => av_eff hT kH104 gb (by decide) (TU_eff [83, 84, 110] (by decide) k hk)) (fun k hk => sv_eff hT kH104 gb (by decide)) tu
    have g108 : WD (avw K H104 b) := WD.congr (fun k hk j => av_eff hT kH104 gb (by decide) (WD_eff [83, 84, 110] (by decide) k hk)) wd
    have g109 : IM (avw K H104 b) := IM.congr (fun k hk j => av_eff hT kH104 gb (by decide) (IM_eff [83, 84, 110] (by decide) k hk)) im
    have m110 := (ew).trans (fR_kept (x_lt hT kH104 ga (by decide))).symm
    have m111 := (eta).trans (fI_kept (x_lt hT kH104 ga (by decide))).symm
    have m112 := (etb).trans (fI_kept (x_lt hT kH104 gb (by decide))).symm
    have m113 := (es1).trans (fI_kept (x_lt hT kH104 gw (by decide))).symm
    have m114 := (ey1).trans (fI_kept (x_lt hT kH104 gb (by decide))).symm
    have m115 := (es4).trans (fI_kept (x_lt hT kH104 gw (by decide))).symm
    have m116 := (ey4).trans (fI_kept (x_lt hT kH104 gb (by decide))).symm
    have m117 := (es5).trans (fI_kept (x_lt hT kH104 gw (by decide))).symm
    have m118 := (ey5).trans (fI_kept (x_lt hT kH104 gb (by decide))).symm
    have m119 := (es10).trans (fI_kept (x_lt hT kH104 gw (by decide))).symm
    have m120 := (ey10).trans (fI_kept (x_lt hT kH104 gb (by decide))).symm
    have m121 := (es13).trans (fI_kept (x_lt hT kH104 gw (by decide))).symm
    have m122 := (ey13).trans (fI_kept (x_lt hT kH104 gb (by decide))).symm
    have m123 := (es16).trans (fI_kept (x_lt hT kH104 gw (by decide))).symm
    have m124 := (ey16).trans (fI_kept (x_lt hT kH104 gb (by decide))).symm
    have m125 := (ehi).trans (fI_kept (x_lt hT kH104 gb (by decide))).symm
    have m126 := (fV_kept (x_lt hT kH104 ga (by decide))).trans kn
    refine W.eq (g2 := F0 m 1053 ls [.int x105]) rfl ?_
    refine lv_pop hx hb dL_law_1053 rfl ?_
    refine lv_aload_n hx hb dL_law_1054 rfl (lv_at hl 1 rfl) ?_
    refine lv_aload_n hx hb dL_law_1055 rfl (lv_at hl 3 rfl) ?_
    refine lv_iload_n hx hb dL_law_1056 rfl (lv_at hl 0 rfl) ?_
    refine lv_iconst (v := 1) hx hb dL_law_1057 (by decide) ?_
    refine lv_iadd hx hb dL_law_1058 ?_
    refine lv_topi (fun x127 ex127 => ?_)
    obtain ⟨tx127, ejx127, evx127⟩ := lw_ix (k := 1) ex127 hI hL rfl (by decide)
    clear tx127
    refine va_sld hx hb hX hbl (Nat.not_le.mpr hbl) hSH104 (vp_in_iff.mpr evx127) dL_law_1059 ?_
    refine W.eq (g2 := F0 m 1060 ls [.int (xs (i.toNatClampNeg + 1)), .ref b]) (congrArg (fun z => F0 m 1060 ls [.int (xs z), .ref b]) ejx127) ?_
    refine lv_aload_n hx hb dL_law_1060 rfl (lv_at hl 3 rfl) ?_
    refine lv_iload_n hx hb dL_law_1061 rfl (lv_at hl 0 rfl) ?_
    refine lv_iconst (v := 2) hx hb dL_law_1062 (by decide) ?_
    refine lv_iadd hx hb dL_law_1063 ?_
    refine lv_topi (fun x128 ex128 => ?_)
    obtain ⟨tx128, ejx128, evx128⟩ := lw_ix (k := 2) ex128 hI hL rfl (by decide)
    clear tx128
    refine va_sld hx hb hX hbl (Nat.not_le.mpr hbl) hSH104 (vp_in_iff.mpr evx128) dL_law_1064 ?_
    refine W.eq (g2 := F0 m 1065 ls [.int (xs (i.toNatClampNeg + 2)), .int (xs (i.toNatClampNeg + 1)), .ref b]) (congrArg (fun z => F0 m 1065 ls [.int (xs z), .int (xs (i.toNatClampNeg + 1)), .ref b]) ejx128) ?_
    refine lv_aload_n hx hb dL_law_1065 rfl (lv_at hl 3 rfl) ?_
    refine lv_iload_n hx hb dL_law_1066 rfl (lv_at hl 0 rfl) ?_
    refine lv_iconst (v := 3) hx hb dL_law_1067 (by decide) ?_
    refine lv_iadd hx hb dL_law_1068 ?_
    refine lv_topi (fun x129 ex129 => ?_)
    obtain ⟨tx129, ejx129, evx129⟩ := lw_ix (k := 3) ex129 hI hL rfl (by decide)
    clear tx129
    refine va_sld hx hb hX hbl (Nat.not_le.mpr hbl) hSH104 (vp_in_iff.mpr evx129) dL_law_1069 ?_
    refine W.eq (g2 := F0 m 1070 ls [.int (xs (i.toNatClampNeg + 3)), .int (xs (i.toNatClampNeg + 2)), .int (xs (i.toNatClampNeg + 1)), .ref b]) (congrArg (fun z => F0 m 1070 ls [.int (xs z), .int (xs (i.toNatClampNeg + 2)), .int (xs (i.toNatClampNeg + 1)), .ref b]) ejx129) ?_
    refine x_V (As := [.int (xs (i.toNatClampNeg + 1)), .int (xs (i.toNatClampNeg + 2)), .int (xs (i.toNatClampNeg + 3))]) (rest := []) C (a_X10_still l K G H104 ((xs (i.toNatClampNeg + 1))) ((xs (i.toNatClampNeg + 2))) ((xs (i.toNatClampNeg + 3))) hTH104 gb g106 g107 g108 g109) yo_X10_still wM_L_112 ⟨⟨by decide, by decide⟩, show _ ≤ 284929 from Nat.le_trans hc (by decide), show _ ≤ 8247460 from Nat.le_trans hs (by decide)⟩ (x_rv C hTH104 (ci := 10) rfl gb rg_112) rfl hl.1 rfl (Nat.le_of_ble_eq_true rfl) dL_law_1070 hSH104 (AE_new hN hSH104.1) (fun vH130 H130 locsH130 pH130 zH130 kH130 hSH130 => ?_)
    obtain ⟨x131, hvH130, g132, g133, g134, g135, mf136, hTH130⟩ := pH130
    subst hvH130
    have m137 := (m110).trans (fR_kept (x_lt hTH104 kH130 ga (by decide))).symm
    have m138 := (m111).trans (fI_kept (x_lt hTH104 kH130 ga (by decide))).symm
    have m139 := (m113).trans (fI_kept (x_lt hTH104 kH130 gw (by decide))).symm
    have m140 := (m115).trans (fI_kept (x_lt hTH104 kH130 gw (by decide))).symm
    have m141 := (m117).trans (fI_kept (x_lt hTH104 kH130 gw (by decide))).symm
    have m142 := (m119).trans (fI_kept (x_lt hTH104 kH130 gw (by decide))).symm
    have m143 := (m121).trans (fI_kept (x_lt hTH104 kH130 gw (by decide))).symm
    have m144 := (m123).trans (fI_kept (x_lt hTH104 kH130 gw (by decide))).symm
    have m145 := (fV_kept (x_lt hTH104 kH130 ga (by decide))).trans m126
    have m146 := (m112).trans (MF.i mf136 (k := 18) (by decide) (by decide)).symm
    have m147 := (m114).trans (MF.i mf136 (k := 1) (by decide) (by decide)).symm
    have m148 := (m116).trans (MF.i mf136 (k := 2) (by decide) (by decide)).symm
    have m149 := (m118).trans (MF.i mf136 (k := 3) (by decide) (by decide)).symm
    have m150 := (m120).trans (MF.i mf136 (k := 59) (by decide) (by decide)).symm
    have m151 := (m122).trans (MF.i mf136 (k := 62) (by decide) (by decide)).symm
    have m152 := (m124).trans (MF.i mf136 (k := 65) (by decide) (by decide)).symm
    have m153 := (m125).trans (MF.i mf136 (k := 70) (by decide) (by decide)).symm
    refine W.eq (g2 := F0 m 1073 ls [.int x131]) rfl ?_
    refine lv_pop hx hb dL_law_1073 rfl ?_
    refine lv_goto (tgt := 1509) hx hb dL_law_1074 (by decide) ?_
    exact nx G H130 locsH130 _ _ ls ⟨hTH130, hN, ga, gb, g132, g133, g134, g135, ⟨(by rw [← m138, ← m146]; exact rt), (by rw [← m137, ← m139, ← m147]; exact r1), (by rw [← m137, ← m140, ← m148]; exact r4), (by rw [← m137, ← m141, ← m149]; exact r5), (by rw [← m137, ← m142, ← m150]; exact r10), (by rw [← m137, ← m143, ← m151]; exact r13), (by rw [← m137, ← m144, ← m152]; exact r16)⟩, Or.inl ⟨m145, (by rw [← m153]; exact h70)⟩, hSH130⟩ hl ⟨hc, hs, fun _ => ⟨hc0, hs0⟩⟩
  · skip
    obtain ⟨hi, ehi⟩ : ∃ z : Int32, z = fI H b (K.1.2 10 70) := ⟨_, rfl⟩
    rw [← ehi] at h70
    obtain ⟨iq, eiq⟩ : ∃ z : Nat, z = fR H b (K.1.2 10 73) := ⟨_, rfl⟩
    have giq := ty_fr (q := iq) (k := 73) (u := 162) eiq hT gb rg_112 rfl
    rw [← eiq] at q1 q4 q5 q10 q13 q16
    obtain ⟨k1, ek1⟩ : ∃ z : Int32, z = fI H kq (K.1.2 8 1) := ⟨_, rfl⟩
    rw [← ek1] at q1
    obtain ⟨i1, ei1⟩ : ∃ z : Int32, z = fI H iq ((0 : Int32).toNatClampNeg) := ⟨_, rfl⟩
    rw [← ei1] at q1
    obtain ⟨k4, ek4⟩ : ∃ z : Int32, z = fI H kq (K.1.2 8 4) := ⟨_, rfl⟩
    rw [← ek4] at q4
    obtain ⟨i4, ei4⟩ : ∃ z : Int32, z = fI H iq ((1 : Int32).toNatClampNeg) := ⟨_, rfl⟩
    rw [← ei4] at q4
    obtain ⟨k5, ek5⟩ : ∃ z : Int32, z = fI H kq (K.1.2 8 5) := ⟨_, rfl⟩
    rw [← ek5] at q5
    obtain ⟨i5, ei5⟩ : ∃ z : Int32, z = fI H iq ((2 : Int32).toNatClampNeg) := ⟨_, rfl⟩
    rw [← ei5] at q5
    obtain ⟨k10, ek10⟩ : ∃ z : Int32, z = fI H kq (K.1.2 8 10) := ⟨_, rfl⟩
    rw [← ek10] at q10
    obtain ⟨i10, ei10⟩ : ∃ z : Int32, z = fI H iq ((3 : Int32).toNatClampNeg) := ⟨_, rfl⟩
    rw [← ei10] at q10
    obtain ⟨k13, ek13⟩ : ∃ z : Int32, z = fI H kq (K.1.2 8 13) := ⟨_, rfl⟩
    rw [← ek13] at q13
    obtain ⟨i13, ei13⟩ : ∃ z : Int32, z = fI H iq ((4 : Int32).toNatClampNeg) := ⟨_, rfl⟩
    rw [← ei13] at q13
    obtain ⟨k16, ek16⟩ : ∃ z : Int32, z = fI H kq (K.1.2 8 16) := ⟨_, rfl⟩
    rw [← ek16] at q16
    obtain ⟨i16, ei16⟩ : ∃ z : Int32, z = fI H iq ((5 : Int32).toNatClampNeg) := ⟨_, rfl⟩
    rw [← ei16] at q16
    refine lv_aload_n hx hb dL_law_1034 rfl (lv_at hl 2 rfl) ?_
    refine lv_aload_n hx hb dL_law_1035 rfl (lv_at hl 3 rfl) ?_
    refine lv_iload_n hx hb dL_law_1036 rfl (lv_at hl 0 rfl) ?_
    refine lv_iconst (v := 1) hx hb dL_law_1037 (by decide) ?_
    refine lv_iadd hx hb dL_law_1038 ?_
    refine lv_topi (fun x154 ex154 => ?_)
    obtain ⟨tx154, ejx154, evx154⟩ := lw_ix (k := 1) ex154 hI hL rfl (by decide)
    clear tx154
    refine va_sld hx hb hX hbl (Nat.not_le.mpr hbl) hS (vp_in_iff.mpr evx154) dL_law_1039 ?_
    refine W.eq (g2 := F0 m 1040 ls [.int (xs (i.toNatClampNeg + 1)), .ref a]) (congrArg (fun z => F0 m 1040 ls [.int (xs z), .ref a]) ejx154) ?_
    refine lv_aload_n hx hb dL_law_1040 rfl (lv_at hl 3 rfl) ?_
    refine lv_iload_n hx hb dL_law_1041 rfl (lv_at hl 0 rfl) ?_
    refine lv_iconst (v := 2) hx hb dL_law_1042 (by decide) ?_
    refine lv_iadd hx hb dL_law_1043 ?_
    refine lv_topi (fun x155 ex155 => ?_)
    obtain ⟨tx155, ejx155, evx155⟩ := lw_ix (k := 2) ex155 hI hL rfl (by decide)
    clear tx155
    refine va_sld hx hb hX hbl (Nat.not_le.mpr hbl) hS (vp_in_iff.mpr evx155) dL_law_1044 ?_
    refine W.eq (g2 := F0 m 1045 ls [.int (xs (i.toNatClampNeg + 2)), .int (xs (i.toNatClampNeg + 1)), .ref a]) (congrArg (fun z => F0 m 1045 ls [.int (xs z), .int (xs (i.toNatClampNeg + 1)), .ref a]) ejx155) ?_
    refine lv_aload_n hx hb dL_law_1045 rfl (lv_at hl 3 rfl) ?_
    refine lv_iload_n hx hb dL_law_1046 rfl (lv_at hl 0 rfl) ?_
    refine lv_iconst (v := 3) hx hb dL_law_1047 (by decide) ?_
    refine lv_iadd hx hb dL_law_1048 ?_
    refine lv_topi (fun x156 ex156 => ?_)
    obtain ⟨tx156, ejx156, evx156⟩ := lw_ix (k := 3) ex156 hI hL rfl (by decide)
    clear tx156
    refine va_sld hx hb hX hbl (Nat.not_le.mpr hbl) hS (vp_in_iff.mpr evx156) dL_law_1049 ?_
    refine W.eq (g2 := F0 m 1050 ls [.int (xs (i.toNatClampNeg + 3)), .int (xs (i.toNatClampNeg + 2)), .int (xs (i.toNatClampNeg + 1)), .ref a]) (congrArg (fun z => F0 m 1050 ls [.int (xs z), .int (xs (i.toNatClampNeg + 2)), .int (xs (i.toNatClampNeg + 1)), .ref a]) ejx156) ?_
    refine x_V (As := [.int (xs (i.toNatClampNeg + 1)), .int (xs (i.toNatClampNeg + 2)), .int (xs (i.toNatClampNeg + 3))]) (rest := []) C (a_X9_still l K G H ((xs (i.toNatClampNeg + 1))) ((xs (i.toNatClampNeg + 2))) ((xs (i.toNatClampNeg + 3))) hT ga) yo_X9_still wM_L_109 ⟨⟨by decide, by decide⟩, show _ ≤ 284929 from Nat.le_trans hc (by decide), show _ ≤ 8247460 from Nat.le_trans hs (by decide)⟩ (x_rv C hT (ci := 9) rfl ga rg_68) rfl hl.1 rfl (Nat.le_of_ble_eq_true rfl) dL_law_1050 hS (AE_new hN hS.1) (fun vH157 H157 locsH157 pH157 zH157 kH157 hSH157 => ?_)
    obtain ⟨x158, hvH157, hTH157⟩ := pH157
    subst hvH157
    have g159 : CG (avw K H157 b) := CG.congr (fun k hk j => av_eff hT kH157 gb (by decide) (CG_eff [83, 84, 110] (by decide) k hk)) cg
    have g160 : TU (avw K H157 b) (svw K H157 b) := TU.congr (fun k hk j => av_eff hT kH157 gb (by decide) (TU_eff [83, 84, 110] (by decide) k hk)) (fun k hk => sv_eff hT kH157 gb (by decide)) tu
    have g161 : WD (avw K H157 b) := WD.congr (fun k hk j => av_eff hT kH157 gb (by decide) (WD_eff [83, 84, 110] (by decide) k hk)) wd
    have g162 : IM (avw K H157 b) := IM.congr (fun k hk j => av_eff hT kH157 gb (by decide) (IM_eff [83, 84, 110] (by decide) k hk)) im
    have m163 := (ew).trans (fR_kept (x_lt hT kH157 ga (by decide))).symm
    have m164 := (eta).trans (fI_kept (x_lt hT kH157 ga (by decide))).symm
    have m165 := (etb).trans (fI_kept (x_lt hT kH157 gb (by decide))).symm
    have m166 := (es1).trans (fI_kept (x_lt hT kH157 gw (by decide))).symm
    have m167 := (ey1).trans (fI_kept (x_lt hT kH157 gb (by decide))).symm
    have m168 := (es4).trans (fI_kept (x_lt hT kH157 gw (by decide))).symm
    have m169 := (ey4).trans (fI_kept (x_lt hT kH157 gb (by decide))).symm
    have m170 := (es5).trans (fI_kept (x_lt hT kH157 gw (by decide))).symm
    have m171 := (ey5).trans (fI_kept (x_lt hT kH157 gb (by decide))).symm
    have m172 := (es10).trans (fI_kept (x_lt hT kH157 gw (by decide))).symm
    have m173 := (ey10).trans (fI_kept (x_lt hT kH157 gb (by decide))).symm
    have m174 := (es13).trans (fI_kept (x_lt hT kH157 gw (by decide))).symm
    have m175 := (ey13).trans (fI_kept (x_lt hT kH157 gb (by decide))).symm
    have m176 := (es16).trans (fI_kept (x_lt hT kH157 gw (by decide))).symm
    have m177 := (ey16).trans (fI_kept (x_lt hT kH157 gb (by decide))).symm
    have m178 := (ehi).trans (fI_kept (x_lt hT kH157 gb (by decide))).symm
    have m179 := (fV_kept (x_lt hT kH157 ga (by decide))).trans kn
    have m180 := (eiq).trans (fR_kept (x_lt hT kH157 gb (by decide))).symm
    have m181 := (ek1).trans (fI_kept (x_lt hT kH157 gkq (by decide))).symm
    have m182 := (ei1).trans (fI_kept (x_lt hT kH157 giq (by decide))).symm
    have m183 := (ek4).trans (fI_kept (x_lt hT kH157 gkq (by decide))).symm
    have m184 := (ei4).trans (fI_kept (x_lt hT kH157 giq (by decide))).symm
    have m185 := (ek5).trans (fI_kept (x_lt hT kH157 gkq (by decide))).symm
    have m186 := (ei5).trans (fI_kept (x_lt hT kH157 giq (by decide))).symm
    have m187 := (ek10).trans (fI_kept (x_lt hT kH157 gkq (by decide))).symm
    have m188 := (ei10).trans (fI_kept (x_lt hT kH157 giq (by decide))).symm
    have m189 := (ek13).trans (fI_kept (x_lt hT kH157 gkq (by decide))).symm
    have m190 := (ei13).trans (fI_kept (x_lt hT kH157 giq (by decide))).symm
    have m191 := (ek16).trans (fI_kept (x_lt hT kH157 gkq (by decide))).symm
    have m192 := (ei16).trans (fI_kept (x_lt hT kH157 giq (by decide))).symm
    refine W.eq (g2 := F0 m 1053 ls [.int x158]) rfl ?_
    refine lv_pop hx hb dL_law_1053 rfl ?_
    refine lv_aload_n hx hb dL_law_1054 rfl (lv_at hl 1 rfl) ?_
    refine lv_aload_n hx hb dL_law_1055 rfl (lv_at hl 3 rfl) ?_
    refine lv_iload_n hx hb dL_law_1056 rfl (lv_at hl 0 rfl) ?_
    refine lv_iconst (v := 1) hx hb dL_law_1057 (by decide) ?_
    refine lv_iadd hx hb dL_law_1058 ?_
    refine lv_topi (fun x193 ex193 => ?_)
    obtain ⟨tx193, ejx193, evx193⟩ := lw_ix (k := 1) ex193 hI hL rfl (by decide)
    clear tx193
    refine va_sld hx hb hX hbl (Nat.not_le.mpr hbl) hSH157 (vp_in_iff.mpr evx193) dL_law_1059 ?_
    refine W.eq (g2 := F0 m 1060 ls [.int (xs (i.toNatClampNeg + 1)), .ref b]) (congrArg (fun z => F0 m 1060 ls [.int (xs z), .ref b]) ejx193) ?_
    refine lv_aload_n hx hb dL_law_1060 rfl (lv_at hl 3 rfl) ?_
    refine lv_iload_n hx hb dL_law_1061 rfl (lv_at hl 0 rfl) ?_
    refine lv_iconst (v := 2) hx hb dL_law_1062 (by decide) ?_
    refine lv_iadd hx hb dL_law_1063 ?_
    refine lv_topi (fun x194 ex194 => ?_)
    obtain ⟨tx194, ejx194, evx194⟩ := lw_ix (k := 2) ex194 hI hL rfl (by decide)
    clear tx194
    refine va_sld hx hb hX hbl (Nat.not_le.mpr hbl) hSH157 (vp_in_iff.mpr evx194) dL_law_1064 ?_
    refine W.eq (g2 := F0 m 1065 ls [.int (xs (i.toNatClampNeg + 2)), .int (xs (i.toNatClampNeg + 1)), .ref b]) (congrArg (fun z => F0 m 1065 ls [.int (xs z), .int (xs (i.toNatClampNeg + 1)), .ref b]) ejx194) ?_
    refine lv_aload_n hx hb dL_law_1065 rfl (lv_at hl 3 rfl) ?_
    refine lv_iload_n hx hb dL_law_1066 rfl (lv_at hl 0 rfl) ?_
    refine lv_iconst (v := 3) hx hb dL_law_1067 (by decide) ?_
    refine lv_iadd hx hb dL_law_1068 ?_
    refine lv_topi (fun x195 ex195 => ?_)
    obtain ⟨tx195, ejx195, evx195⟩ := lw_ix (k := 3) ex195 hI hL rfl (by decide)
    clear tx195
    refine va_sld hx hb hX hbl (Nat.not_le.mpr hbl) hSH157 (vp_in_iff.mpr evx195) dL_law_1069 ?_
    refine W.eq (g2 := F0 m 1070 ls [.int (xs (i.toNatClampNeg + 3)), .int (xs (i.toNatClampNeg + 2)), .int (xs (i.toNatClampNeg + 1)), .ref b]) (congrArg (fun z => F0 m 1070 ls [.int (xs z), .int (xs (i.toNatClampNeg + 2)), .int (xs (i.toNatClampNeg + 1)), .ref b]) ejx195) ?_
    refine x_V (As := [.int (xs (i.toNatClampNeg + 1)), .int (xs (i.toNatClampNeg + 2)), .int (xs (i.toNatClampNeg + 3))]) (rest := []) C (a_X10_still l K G H157 ((xs (i.toNatClampNeg + 1))) ((xs (i.toNatClampNeg + 2))) ((xs (i.toNatClampNeg + 3))) hTH157 gb g159 g160 g161 g162) yo_X10_still wM_L_112 ⟨⟨by decide, by decide⟩, show _ ≤ 284929 from Nat.le_trans hc (by decide), show _ ≤ 8247460 from Nat.le_trans hs (by decide)⟩ (x_rv C hTH157 (ci := 10) rfl gb rg_112) rfl hl.1 rfl (Nat.le_of_ble_eq_true rfl) dL_law_1070 hSH157 (AE_new hN hSH157.1) (fun vH196 H196 locsH196 pH196 zH196 kH196 hSH196 => ?_)
    obtain ⟨x197, hvH196, g198, g199, g200, g201, mf202, hTH196⟩ := pH196
    subst hvH196
    have m203 := (m163).trans (fR_kept (x_lt hTH157 kH196 ga (by decide))).symm
    have m204 := (m164).trans (fI_kept (x_lt hTH157 kH196 ga (by decide))).symm
    have m205 := (m166).trans (fI_kept (x_lt hTH157 kH196 gw (by decide))).symm
    have m206 := (m168).trans (fI_kept (x_lt hTH157 kH196 gw (by decide))).symm
    have m207 := (m170).trans (fI_kept (x_lt hTH157 kH196 gw (by decide))).symm
    have m208 := (m172).trans (fI_kept (x_lt hTH157 kH196 gw (by decide))).symm
    have m209 := (m174).trans (fI_kept (x_lt hTH157 kH196 gw (by decide))).symm
    have m210 := (m176).trans (fI_kept (x_lt hTH157 kH196 gw (by decide))).symm
    have m211 := (fV_kept (x_lt hTH157 kH196 ga (by decide))).trans m179
    have m212 := (m181).trans (fI_kept (x_lt hTH157 kH196 gkq (by decide))).symm
    have m213 := (m182).trans (fI_kept (x_lt hTH157 kH196 giq (by decide))).symm
    have m214 := (m183).trans (fI_kept (x_lt hTH157 kH196 gkq (by decide))).symm
    have m215 := (m184).trans (fI_kept (x_lt hTH157 kH196 giq (by decide))).symm
    have m216 := (m185).trans (fI_kept (x_lt hTH157 kH196 gkq (by decide))).symm
    have m217 := (m186).trans (fI_kept (x_lt hTH157 kH196 giq (by decide))).symm
    have m218 := (m187).trans (fI_kept (x_lt hTH157 kH196 gkq (by decide))).symm
    have m219 := (m188).trans (fI_kept (x_lt hTH157 kH196 giq (by decide))).symm
    have m220 := (m189).trans (fI_kept (x_lt hTH157 kH196 gkq (by decide))).symm
    have m221 := (m190).trans (fI_kept (x_lt hTH157 kH196 giq (by decide))).symm
    have m222 := (m191).trans (fI_kept (x_lt hTH157 kH196 gkq (by decide))).symm
    have m223 := (m192).trans (fI_kept (x_lt hTH157 kH196 giq (by decide))).symm
    have m224 := (m165).trans (MF.i mf202 (k := 18) (by decide) (by decide)).symm
    have m225 := (m167).trans (MF.i mf202 (k := 1) (by decide) (by decide)).symm
    have m226 := (m169).trans (MF.i mf202 (k := 2) (by decide) (by decide)).symm
    have m227 := (m171).trans (MF.i mf202 (k := 3) (by decide) (by decide)).symm
    have m228 := (m173).trans (MF.i mf202 (k := 59) (by decide) (by decide)).symm
    have m229 := (m175).trans (MF.i mf202 (k := 62) (by decide) (by decide)).symm
    have m230 := (m177).trans (MF.i mf202 (k := 65) (by decide) (by decide)).symm
    have m231 := (m178).trans (MF.i mf202 (k := 70) (by decide) (by decide)).symm
    have m232 := (m180).trans (MF.r mf202 (k := 73) (by decide) (by decide)).symm
    refine W.eq (g2 := F0 m 1073 ls [.int x197]) rfl ?_
    refine lv_pop hx hb dL_law_1073 rfl ?_
    refine lv_goto (tgt := 1509) hx hb dL_law_1074 (by decide) ?_
    exact nx G H196 locsH196 _ _ ls ⟨hTH196, hN, ga, gb, g198, g199, g200, g201, ⟨(by rw [← m204, ← m224]; exact rt), (by rw [← m203, ← m205, ← m225]; exact r1), (by rw [← m203, ← m206, ← m226]; exact r4), (by rw [← m203, ← m207, ← m227]; exact r5), (by rw [← m203, ← m208, ← m228]; exact r10), (by rw [← m203, ← m209, ← m229]; exact r13), (by rw [← m203, ← m210, ← m230]; exact r16)⟩, Or.inr ⟨kq, m211, gkq, (by rw [← m231]; exact h70), (by rw [← m212, ← m232, ← m213]; exact q1), (by rw [← m214, ← m232, ← m215]; exact q4), (by rw [← m216, ← m232, ← m217]; exact q5), (by rw [← m218, ← m232, ← m219]; exact q10), (by rw [← m220, ← m232, ← m221]; exact q13), (by rw [← m222, ← m232, ← m223]; exact q16)⟩, hSH196⟩ hl ⟨hc, hs, fun h => by have h1 := h.symm.trans m211; cases h1⟩
set_option maxRecDepth 100000 in
set_option maxHeartbeats 1000000 in
theorem lw_c23 {p : Program} {l : Launch} {e : Env} {s : State} {m : MethodId} {below : List Frame} {meth : Method} {c : Code} {K : KE} {b0 L : Nat} {xs : Nat → Int32} {G : Nat → Option Nat} {H : Heap} {locs : List Loc} {a b : Nat} {cells slots : Nat} {ls : Array Slot} {i : Int32} {n : Nat} (D : LC p K s m meth c b0 L xs) (S : SX K s G H locs a b) (hl : lv_has ls 4 [(3, .int i), (2, .ref b), (1, .ref a), (0, .ref b0)]) (hi : 0 ≤ i.toInt ∧ i.toInt + 6 ≤ L) (hn : n ≤ 511) (hB : BD K H a cells slots) (nx : ∀ (G : Nat → Option Nat) (H : Heap) (locs : List Loc) (cells slots : Nat) (ls : Array Slot), SX K s G H locs a b → lv_has ls 4 [(3, .int i), (2, .ref b), (1, .ref a), (0, .ref b0)] → BD K H a cells slots → W p l e room_1 s m #[Value.ref b0] below meth c H locs cells slots (lw_Z below #[Value.ref b0] s) (F0 m 1509 ls [])) : W p l e room_1 s m #[Value.ref b0] below meth c H locs cells slots (lw_Z below #[Value.ref b0] s) (F0 m 1077 ls []) := by
  have hI := hi
  obtain ⟨C, hX, hbl, hL⟩ := id D
  obtain ⟨hx, hb, hml, hown, hts, hKT, hr, hlocks, hnm⟩ := id C
  obtain ⟨hT, hN, ga, gb, cg, tu, wd, im, ⟨rt, r1, r4, r5, r10, r13, r16⟩, hk, hS⟩ := S
  obtain ⟨hc, hs, hB0⟩ := hB
  have n_1 : (1 : Int32).toInt = 1 := rfl
  have n_2 : (2 : Int32).toInt = 2 := rfl
  have n_3 : (3 : Int32).toInt = 3 := rfl
  obtain ⟨w, ew⟩ : ∃ z : Nat, z = fR H a (K.1.2 9 0) := ⟨_, rfl⟩
  have gw := ty_fr (q := w) (k := 0) (u := 0) ew hT ga rg_68 rfl
  rw [← ew] at r1 r4 r5 r10 r13 r16
  obtain ⟨ta, eta⟩ : ∃ z : Int32, z = fI H a (K.1.2 9 3) := ⟨_, rfl⟩
  rw [← eta] at rt
  obtain ⟨tb, etb⟩ : ∃ z : Int32, z = fI H b (K.1.2 10 18) := ⟨_, rfl⟩
  rw [← etb] at rt
  obtain ⟨s1, es1⟩ : ∃ z : Int32, z = fI H w (K.1.2 8 1) := ⟨_, rfl⟩
  rw [← es1] at r1
  obtain ⟨y1, ey1⟩ : ∃ z : Int32, z = fI H b (K.1.2 10 1) := ⟨_, rfl⟩
  rw [← ey1] at r1
  obtain ⟨s4, es4⟩ : ∃ z : Int32, z = fI H w (K.1.2 8 4) := ⟨_, rfl⟩
  rw [← es4] at r4
  obtain ⟨y4, ey4⟩ : ∃ z : Int32, z = fI H b (K.1.2 10 2) := ⟨_, rfl⟩
  rw [← ey4] at r4
  obtain ⟨s5, es5⟩ : ∃ z : Int32, z = fI H w (K.1.2 8 5) := ⟨_, rfl⟩
  rw [← es5] at r5
  obtain ⟨y5, ey5⟩ : ∃ z : Int32, z = fI H b (K.1.2 10 3) := ⟨_, rfl⟩
  rw [← ey5] at r5
  obtain ⟨s10, es10⟩ : ∃ z : Int32, z = fI H w (K.1.2 8 10) := ⟨_, rfl⟩
  rw [← es10] at r10
  obtain ⟨y10, ey10⟩ : ∃ z : Int32, z = fI H b (K.1.2 10 59) := ⟨_, rfl⟩
  rw [← ey10] at r10
  obtain ⟨s13, es13⟩ : ∃ z : Int32, z = fI H w (K.1.2 8 13) := ⟨_, rfl⟩
  rw [← es13] at r13
  obtain ⟨y13, ey13⟩ : ∃ z : Int32, z = fI H b (K.1.2 10 62) := ⟨_, rfl⟩
  rw [← ey13] at r13
  obtain ⟨s16, es16⟩ : ∃ z : Int32, z = fI H w (K.1.2 8 16) := ⟨_, rfl⟩
  rw [← es16] at r16
  obtain ⟨y16, ey16⟩ : ∃ z : Int32, z = fI H b (K.1.2 10 65) := ⟨_, rfl⟩
  rw [← ey16] at r16
  rcases hk with ⟨kn, h70⟩ | ⟨kq, kn, gkq, h70, q1, q4, q5, q10, q13, q16⟩
  · skip
    obtain ⟨hi, ehi⟩ : ∃ z : Int32, z = fI H b (K.1.2 10 70) := ⟨_, rfl⟩
    rw [← ehi] at h70
    obtain ⟨hc0, hs0⟩ := hB0 kn
    refine lv_aload_n hx hb dL_law_1077 rfl (lv_at hl 2 rfl) ?_
    refine lv_aload_n hx hb dL_law_1078 rfl (lv_at hl 3 rfl) ?_
    refine lv_iload_n hx hb dL_law_1079 rfl (lv_at hl 0 rfl) ?_
    refine lv_iconst (v := 1) hx hb dL_law_1080 (by decide) ?_
    refine lv_iadd hx hb dL_law_1081 ?_
    refine lv_topi (fun x101 ex101 => ?_)
    obtain ⟨tx101, ejx101, evx101⟩ := lw_ix (k := 1) ex101 hI hL rfl (by decide)
    clear tx101
    refine va_sld hx hb hX hbl (Nat.not_le.mpr hbl) hS (vp_in_iff.mpr evx101) dL_law_1082 ?_
    refine W.eq (g2 := F0 m 1083 ls [.int (xs (i.toNatClampNeg + 1)), .ref a]) (congrArg (fun z => F0 m 1083 ls [.int (xs z), .ref a]) ejx101) ?_
    refine lv_aload_n hx hb dL_law_1083 rfl (lv_at hl 3 rfl) ?_
    refine lv_iload_n hx hb dL_law_1084 rfl (lv_at hl 0 rfl) ?_
    refine lv_iconst (v := 2) hx hb dL_law_1085 (by decide) ?_
    refine lv_iadd hx hb dL_law_1086 ?_
    refine lv_topi (fun x102 ex102 => ?_)
    obtain ⟨tx102, ejx102, evx102⟩ := lw_ix (k := 2) ex102 hI hL rfl (by decide)
    clear tx102
    refine va_sld hx hb hX hbl (Nat.not_le.mpr hbl) hS (vp_in_iff.mpr evx102) dL_law_1087 ?_
    refine W.eq (g2 := F0 m 1088 ls [.int (xs (i.toNatClampNeg + 2)), .int (xs (i.toNatClampNeg + 1)), .ref a]) (congrArg (fun z => F0 m 1088 ls [.int (xs z), .int (xs (i.toNatClampNeg + 1)), .ref a]) ejx102) ?_
    refine lv_aload_n hx hb dL_law_1088 rfl (lv_at hl 3 rfl) ?_
    refine lv_iload_n hx hb dL_law_1089 rfl (lv_at hl 0 rfl) ?_
    refine lv_iconst (v := 3) hx hb dL_law_1090 (by decide) ?_
    refine lv_iadd hx hb dL_law_1091 ?_
    refine lv_topi (fun x103 ex103 => ?_)
    obtain ⟨tx103, ejx103, evx103⟩ := lw_ix (k := 3) ex103 hI hL rfl (by decide)
    clear tx103
    refine va_sld hx hb hX hbl (Nat.not_le.mpr hbl) hS (vp_in_iff.mpr evx103) dL_law_1092 ?_
    refine W.eq (g2 := F0 m 1093 ls [.int (xs (i.toNatClampNeg + 3)), .int (xs (i.toNatClampNeg + 2)), .int (xs (i.toNatClampNeg + 1)), .ref a]) (congrArg (fun z => F0 m 1093 ls [.int (xs z), .int (xs (i.toNatClampNeg + 2)), .int (xs (i.toNatClampNeg + 1)), .ref a]) ejx103) ?_
    refine x_V (As := [.int (xs (i.toNatClampNeg + 1)), .int (xs (i.toNatClampNeg + 2)), .int (xs (i.toNatClampNeg + 3))]) (rest := []) C (a_X9_holes l K G H ((xs (i.toNatClampNeg + 1))) ((xs (i.toNatClampNeg + 2))) ((xs (i.toNatClampNeg + 3))) hT ga) yo_X9_holes wM_L_113 ⟨⟨by decide, by decide⟩, show _ ≤ 284929 from Nat.le_trans hc (by decide), show _ ≤ 8247460 from Nat.le_trans hs (by decide)⟩ (x_rv C hT (ci := 9) rfl ga rg_68) rfl hl.1 rfl (Nat.le_of_ble_eq_true rfl) dL_law_1093 hS (AE_new hN hS.1) (fun vH104 H104 locsH104 pH104 zH104 kH104 hSH104 => ?_)
    obtain ⟨x105, hvH104, bx105, hTH104⟩ := pH104
    subst hvH104
    have g106 : CG (avw K H104 b) := CG.congr (fun k hk j => av_eff hT kH104 gb (by decide) (CG_eff [1] (by decide) k hk)) cg
    have g107 : TU (avw K H104 b) (svw K H104 b) := TU.congr (fun k hk j => av_eff hT kH104 gb (by decide) (TU_eff [1] (by decide) k hk)) (fun k hk => sv_eff hT kH104 gb (by decide)) tu
    have g108 : WD (avw K H104 b) := WD.congr (fun k hk j => av_eff hT kH104 gb (by decide) (WD_eff [1] (by decide) k hk)) wd
    have g109 : IM (avw K H104 b) := IM.congr (fun k hk j => av_eff hT kH104 gb (by decide) (IM_eff [1] (by decide) k hk)) im
    have m110 := (ew).trans (fR_kept (x_lt hT kH104 ga (by decide))).symm
    have m111 := (eta).trans (fI_kept (x_lt hT kH104 ga (by decide))).symm
    have m112 := (etb).trans (fI_kept (x_lt hT kH104 gb (by decide))).symm
    have m113 := (es1).trans (fI_kept (x_lt hT kH104 gw (by decide))).symm
    have m114 := (ey1).trans (fI_kept (x_lt hT kH104 gb (by decide))).symm
    have m115 := (es4).trans (fI_kept (x_lt hT kH104 gw (by decide))).symm
    have m116 := (ey4).trans (fI_kept (x_lt hT kH104 gb (by decide))).symm
    have m117 := (es5).trans (fI_kept (x_lt hT kH104 gw (by decide))).symm
    have m118 := (ey5).trans (fI_kept (x_lt hT kH104 gb (by decide))).symm
    have m119 := (es10).trans (fI_kept (x_lt hT kH104 gw (by decide))).symm
    have m120 := (ey10).trans (fI_kept (x_lt hT kH104 gb (by decide))).symm
    have m121 := (es13).trans (fI_kept (x_lt hT kH104 gw (by decide))).symm
    have m122 := (ey13).trans (fI_kept (x_lt hT kH104 gb (by decide))).symm
    have m123 := (es16).trans (fI_kept (x_lt hT kH104 gw (by decide))).symm
    have m124 := (ey16).trans (fI_kept (x_lt hT kH104 gb (by decide))).symm
    have m125 := (ehi).trans (fI_kept (x_lt hT kH104 gb (by decide))).symm
    have m126 := (fV_kept (x_lt hT kH104 ga (by decide))).trans kn
    refine W.eq (g2 := F0 m 1096 ls [.int x105]) rfl ?_
    refine lv_pop hx hb dL_law_1096 rfl ?_
    refine lv_aload_n hx hb dL_law_1097 rfl (lv_at hl 1 rfl) ?_
    refine lv_aload_n hx hb dL_law_1098 rfl (lv_at hl 3 rfl) ?_
    refine lv_iload_n hx hb dL_law_1099 rfl (lv_at hl 0 rfl) ?_
    refine lv_iconst (v := 1) hx hb dL_law_1100 (by decide) ?_
    refine lv_iadd hx hb dL_law_1101 ?_
    refine lv_topi (fun x127 ex127 => ?_)
    obtain ⟨tx127, ejx127, evx127⟩ := lw_ix (k := 1) ex127 hI hL rfl (by decide)
    clear tx127
    refine va_sld hx hb hX hbl (Nat.not_le.mpr hbl) hSH104 (vp_in_iff.mpr evx127) dL_law_1102 ?_
    refine W.eq (g2 := F0 m 1103 ls [.int (xs (i.toNatClampNeg + 1)), .ref b]) (congrArg (fun z => F0 m 1103 ls [.int (xs z), .ref b]) ejx127) ?_
    refine lv_aload_n hx hb dL_law_1103 rfl (lv_at hl 3 rfl) ?_
    refine lv_iload_n hx hb dL_law_1104 rfl (lv_at hl 0 rfl) ?_
    refine lv_iconst (v := 2) hx hb dL_law_1105 (by decide) ?_
    refine lv_iadd hx hb dL_law_1106 ?_
    refine lv_topi (fun x128 ex128 => ?_)
    obtain ⟨tx128, ejx128, evx128⟩ := lw_ix (k := 2) ex128 hI hL rfl (by decide)
    clear tx128
    refine va_sld hx hb hX hbl (Nat.not_le.mpr hbl) hSH104 (vp_in_iff.mpr evx128) dL_law_1107 ?_
    refine W.eq (g2 := F0 m 1108 ls [.int (xs (i.toNatClampNeg + 2)), .int (xs (i.toNatClampNeg + 1)), .ref b]) (congrArg (fun z => F0 m 1108 ls [.int (xs z), .int (xs (i.toNatClampNeg + 1)), .ref b]) ejx128) ?_
    refine lv_aload_n hx hb dL_law_1108 rfl (lv_at hl 3 rfl) ?_
    refine lv_iload_n hx hb dL_law_1109 rfl (lv_at hl 0 rfl) ?_
    refine lv_iconst (v := 3) hx hb dL_law_1110 (by decide) ?_
    refine lv_iadd hx hb dL_law_1111 ?_
    refine lv_topi (fun x129 ex129 => ?_)
    obtain ⟨tx129, ejx129, evx129⟩ := lw_ix (k := 3) ex129 hI hL rfl (by decide)
    clear tx129
    refine va_sld hx hb hX hbl (Nat.not_le.mpr hbl) hSH104 (vp_in_iff.mpr evx129) dL_law_1112 ?_
    refine W.eq (g2 := F0 m 1113 ls [.int (xs (i.toNatClampNeg + 3)), .int (xs (i.toNatClampNeg + 2)), .int (xs (i.toNatClampNeg + 1)), .ref b]) (congrArg (fun z => F0 m 1113 ls [.int (xs z), .int (xs (i.toNatClampNeg + 2)), .int (xs (i.toNatClampNeg + 1)), .ref b]) ejx129) ?_
    refine x_V (As := [.int (xs (i.toNatClampNeg + 1)), .int (xs (i.toNatClampNeg + 2)), .int (xs (i.toNatClampNeg + 3))]) (rest := []) C (a_X10_holes l K G H104 ((xs (i.toNatClampNeg + 1))) ((xs (i.toNatClampNeg + 2))) ((xs (i.toNatClampNeg + 3))) hTH104 gb g106 g107 g108 g109) yo_X10_holes wM_L_116 ⟨⟨by decide, by decide⟩, show _ ≤ 284929 from Nat.le_trans hc (by decide), show _ ≤ 8247460 from Nat.le_trans hs (by decide)⟩ (x_rv C hTH104 (ci := 10) rfl gb rg_112) rfl hl.1 rfl (Nat.le_of_ble_eq_true rfl) dL_law_1113 hSH104 (AE_new hN hSH104.1) (fun vH130 H130 locsH130 pH130 zH130 kH130 hSH130 => ?_)
    obtain ⟨x131, hvH130, bx131, g132, g133, g134, g135, mf136, hTH130⟩ := pH130
    subst hvH130
    have m137 := (m110).trans (fR_kept (x_lt hTH104 kH130 ga (by decide))).symm
    have m138 := (m111).trans (fI_kept (x_lt hTH104 kH130 ga (by decide))).symm
    have m139 := (m113).trans (fI_kept (x_lt hTH104 kH130 gw (by decide))).symm
    have m140 := (m115).trans (fI_kept (x_lt hTH104 kH130 gw (by decide))).symm
    have m141 := (m117).trans (fI_kept (x_lt hTH104 kH130 gw (by decide))).symm
    have m142 := (m119).trans (fI_kept (x_lt hTH104 kH130 gw (by decide))).symm
    have m143 := (m121).trans (fI_kept (x_lt hTH104 kH130 gw (by decide))).symm
    have m144 := (m123).trans (fI_kept (x_lt hTH104 kH130 gw (by decide))).symm
    have m145 := (fV_kept (x_lt hTH104 kH130 ga (by decide))).trans m126
    have m146 := (m112).trans (MF.i mf136 (k := 18) (by decide) (by decide)).symm
    have m147 := (m114).trans (MF.i mf136 (k := 1) (by decide) (by decide)).symm
    have m148 := (m116).trans (MF.i mf136 (k := 2) (by decide) (by decide)).symm
    have m149 := (m118).trans (MF.i mf136 (k := 3) (by decide) (by decide)).symm
    have m150 := (m120).trans (MF.i mf136 (k := 59) (by decide) (by decide)).symm
    have m151 := (m122).trans (MF.i mf136 (k := 62) (by decide) (by decide)).symm
    have m152 := (m124).trans (MF.i mf136 (k := 65) (by decide) (by decide)).symm
    have m153 := (m125).trans (MF.i mf136 (k := 70) (by decide) (by decide)).symm
    refine W.eq (g2 := F0 m 1116 ls [.int x131]) rfl ?_
    refine lv_pop hx hb dL_law_1116 rfl ?_
    refine lv_goto (tgt := 1509) hx hb dL_law_1117 (by decide) ?_
    exact nx G H130 locsH130 _ _ ls ⟨hTH130, hN, ga, gb, g132, g133, g134, g135, ⟨(by rw [← m138, ← m146]; exact rt), (by rw [← m137, ← m139, ← m147]; exact r1), (by rw [← m137, ← m140, ← m148]; exact r4), (by rw [← m137, ← m141, ← m149]; exact r5), (by rw [← m137, ← m142, ← m150]; exact r10), (by rw [← m137, ← m143, ← m151]; exact r13), (by rw [← m137, ← m144, ← m152]; exact r16)⟩, Or.inl ⟨m145, (by rw [← m153]; exact h70)⟩, hSH130⟩ hl ⟨hc, hs, fun _ => ⟨hc0, hs0⟩⟩
  · skip
    obtain ⟨hi, ehi⟩ : ∃ z : Int32, z = fI H b (K.1.2 10 70) := ⟨_, rfl⟩
    rw [← ehi] at h70
    obtain ⟨iq, eiq⟩ : ∃ z : Nat, z = fR H b (K.1.2 10 73) := ⟨_, rfl⟩
    have giq := ty_fr (q := iq) (k := 73) (u := 162) eiq hT gb rg_112 rfl
    rw [← eiq] at q1 q4 q5 q10 q13 q16
    obtain ⟨k1, ek1⟩ : ∃ z : Int32, z = fI H kq (K.1.2 8 1) := ⟨_, rfl⟩
    rw [← ek1] at q1
    obtain ⟨i1, ei1⟩ : ∃ z : Int32, z = fI H iq ((0 : Int32).toNatClampNeg) := ⟨_, rfl⟩
    rw [← ei1] at q1
    obtain ⟨k4, ek4⟩ : ∃ z : Int32, z = fI H kq (K.1.2 8 4) := ⟨_, rfl⟩
    rw [← ek4] at q4
    obtain ⟨i4, ei4⟩ : ∃ z : Int32, z = fI H iq ((1 : Int32).toNatClampNeg) := ⟨_, rfl⟩
    rw [← ei4] at q4
    obtain ⟨k5, ek5⟩ : ∃ z : Int32, z = fI H kq (K.1.2 8 5) := ⟨_, rfl⟩
    rw [← ek5] at q5
    obtain ⟨i5, ei5⟩ : ∃ z : Int32, z = fI H iq ((2 : Int32).toNatClampNeg) := ⟨_, rfl⟩
    rw [← ei5] at q5
    obtain ⟨k10, ek10⟩ : ∃ z : Int32, z = fI H kq (K.1.2 8 10) := ⟨_, rfl⟩
    rw [← ek10] at q10
    obtain ⟨i10, ei10⟩ : ∃ z : Int32, z = fI H iq ((3 : Int32).toNatClampNeg) := ⟨_, rfl⟩
    rw [← ei10] at q10
    obtain ⟨k13, ek13⟩ : ∃ z : Int32, z = fI H kq (K.1.2 8 13) := ⟨_, rfl⟩
    rw [← ek13] at q13
    obtain ⟨i13, ei13⟩ : ∃ z : Int32, z = fI H iq ((4 : Int32).toNatClampNeg) := ⟨_, rfl⟩
    rw [← ei13] at q13
    obtain ⟨k16, ek16⟩ : ∃ z : Int32, z = fI H kq (K.1.2 8 16) := ⟨_, rfl⟩
    rw [← ek16] at q16
    obtain ⟨i16, ei16⟩ : ∃ z : Int32, z = fI H iq ((5 : Int32).toNatClampNeg) := ⟨_, rfl⟩
    rw [← ei16] at q16
    refine lv_aload_n hx hb dL_law_1077 rfl (lv_at hl 2 rfl) ?_
    refine lv_aload_n hx hb dL_law_1078 rfl (lv_at hl 3 rfl) ?_
    refine lv_iload_n hx hb dL_law_1079 rfl (lv_at hl 0 rfl) ?_
    refine lv_iconst (v := 1) hx hb dL_law_1080 (by decide) ?_
    refine lv_iadd hx hb dL_law_1081 ?_
    refine lv_topi (fun x154 ex154 => ?_)
    obtain ⟨tx154, ejx154, evx154⟩ := lw_ix (k := 1) ex154 hI hL rfl (by decide)
    clear tx154
    refine va_sld hx hb hX hbl (Nat.not_le.mpr hbl) hS (vp_in_iff.mpr evx154) dL_law_1082 ?_
    refine W.eq (g2 := F0 m 1083 ls [.int (xs (i.toNatClampNeg + 1)), .ref a]) (congrArg (fun z => F0 m 1083 ls [.int (xs z), .ref a]) ejx154) ?_
    refine lv_aload_n hx hb dL_law_1083 rfl (lv_at hl 3 rfl) ?_
    refine lv_iload_n hx hb dL_law_1084 rfl (lv_at hl 0 rfl) ?_
    refine lv_iconst (v := 2) hx hb dL_law_1085 (by decide) ?_
    refine lv_iadd hx hb dL_law_1086 ?_
    refine lv_topi (fun x155 ex155 => ?_)
    obtain ⟨tx155, ejx155, evx155⟩ := lw_ix (k := 2) ex155 hI hL rfl (by decide)
    clear tx155
    refine va_sld hx hb hX hbl (Nat.not_le.mpr hbl) hS (vp_in_iff.mpr evx155) dL_law_1087 ?_
    refine W.eq (g2 := F0 m 1088 ls [.int (xs (i.toNatClampNeg + 2)), .int (xs (i.toNatClampNeg + 1)), .ref a]) (congrArg (fun z => F0 m 1088 ls [.int (xs z), .int (xs (i.toNatClampNeg + 1)), .ref a]) ejx155) ?_
    refine lv_aload_n hx hb dL_law_1088 rfl (lv_at hl 3 rfl) ?_
    refine lv_iload_n hx hb dL_law_1089 rfl (lv_at hl 0 rfl) ?_
    refine lv_iconst (v := 3) hx hb dL_law_1090 (by decide) ?_
    refine lv_iadd hx hb dL_law_1091 ?_
    refine lv_topi (fun x156 ex156 => ?_)
    obtain ⟨tx156, ejx156, evx156⟩ := lw_ix (k := 3) ex156 hI hL rfl (by decide)
    clear tx156
    refine va_sld hx hb hX hbl (Nat.not_le.mpr hbl) hS (vp_in_iff.mpr evx156) dL_law_1092 ?_
    refine W.eq (g2 := F0 m 1093 ls [.int (xs (i.toNatClampNeg + 3)), .int (xs (i.toNatClampNeg + 2)), .int (xs (i.toNatClampNeg + 1)), .ref a]) (congrArg (fun z => F0 m 1093 ls [.int (xs z), .int (xs (i.toNatClampNeg + 2)), .int (xs (i.toNatClampNeg + 1)), .ref a]) ejx156) ?_
    refine x_V (As := [.int (xs (i.toNatClampNeg + 1)), .int (xs (i.toNatClampNeg + 2)), .int (xs (i.toNatClampNeg + 3))]) (rest := []) C (a_X9_holes l K G H ((xs (i.toNatClampNeg + 1))) ((xs (i.toNatClampNeg + 2))) ((xs (i.toNatClampNeg + 3))) hT ga) yo_X9_holes wM_L_113 ⟨⟨by decide, by decide⟩, show _ ≤ 284929 from Nat.le_trans hc (by decide), show _ ≤ 8247460 from Nat.le_trans hs (by decide)⟩ (x_rv C hT (ci := 9) rfl ga rg_68) rfl hl.1 rfl (Nat.le_of_ble_eq_true rfl) dL_law_1093 hS (AE_new hN hS.1) (fun vH157 H157 locsH157 pH157 zH157 kH157 hSH157 => ?_)
    obtain ⟨x158, hvH157, bx158, hTH157⟩ := pH157
    subst hvH157
    have g159 : CG (avw K H157 b) := CG.congr (fun k hk j => av_eff hT kH157 gb (by decide) (CG_eff [1] (by decide) k hk)) cg
    have g160 : TU (avw K H157 b) (svw K H157 b) := TU.congr (fun k hk j => av_eff hT kH157 gb (by decide) (TU_eff [1] (by decide) k hk)) (fun k hk => sv_eff hT kH157 gb (by decide)) tu
    have g161 : WD (avw K H157 b) := WD.congr (fun k hk j => av_eff hT kH157 gb (by decide) (WD_eff [1] (by decide) k hk)) wd
    have g162 : IM (avw K H157 b) := IM.congr (fun k hk j => av_eff hT kH157 gb (by decide) (IM_eff [1] (by decide) k hk)) im
    have m163 := (ew).trans (fR_kept (x_lt hT kH157 ga (by decide))).symm
    have m164 := (eta).trans (fI_kept (x_lt hT kH157 ga (by decide))).symm
    have m165 := (etb).trans (fI_kept (x_lt hT kH157 gb (by decide))).symm
    have m166 := (es1).trans (fI_kept (x_lt hT kH157 gw (by decide))).symm
    have m167 := (ey1).trans (fI_kept (x_lt hT kH157 gb (by decide))).symm
    have m168 := (es4).trans (fI_kept (x_lt hT kH157 gw (by decide))).symm
    have m169 := (ey4).trans (fI_kept (x_lt hT kH157 gb (by decide))).symm
    have m170 := (es5).trans (fI_kept (x_lt hT kH157 gw (by decide))).symm
    have m171 := (ey5).trans (fI_kept (x_lt hT kH157 gb (by decide))).symm
    have m172 := (es10).trans (fI_kept (x_lt hT kH157 gw (by decide))).symm
    have m173 := (ey10).trans (fI_kept (x_lt hT kH157 gb (by decide))).symm
    have m174 := (es13).trans (fI_kept (x_lt hT kH157 gw (by decide))).symm
    have m175 := (ey13).trans (fI_kept (x_lt hT kH157 gb (by decide))).symm
    have m176 := (es16).trans (fI_kept (x_lt hT kH157 gw (by decide))).symm
    have m177 := (ey16).trans (fI_kept (x_lt hT kH157 gb (by decide))).symm
    have m178 := (ehi).trans (fI_kept (x_lt hT kH157 gb (by decide))).symm
    have m179 := (fV_kept (x_lt hT kH157 ga (by decide))).trans kn
    have m180 := (eiq).trans (fR_kept (x_lt hT kH157 gb (by decide))).symm
    have m181 := (ek1).trans (fI_kept (x_lt hT kH157 gkq (by decide))).symm
    have m182 := (ei1).trans (fI_kept (x_lt hT kH157 giq (by decide))).symm
    have m183 := (ek4).trans (fI_kept (x_lt hT kH157 gkq (by decide))).symm
    have m184 := (ei4).trans (fI_kept (x_lt hT kH157 giq (by decide))).symm
    have m185 := (ek5).trans (fI_kept (x_lt hT kH157 gkq (by decide))).symm
    have m186 := (ei5).trans (fI_kept (x_lt hT kH157 giq (by decide))).symm
    have m187 := (ek10).trans (fI_kept (x_lt hT kH157 gkq (by decide))).symm
    have m188 := (ei10).trans (fI_kept (x_lt hT kH157 giq (by decide))).symm
    have m189 := (ek13).trans (fI_kept (x_lt hT kH157 gkq (by decide))).symm
    have m190 := (ei13).trans (fI_kept (x_lt hT kH157 giq (by decide))).symm
    have m191 := (ek16).trans (fI_kept (x_lt hT kH157 gkq (by decide))).symm
    have m192 := (ei16).trans (fI_kept (x_lt hT kH157 giq (by decide))).symm
    refine W.eq (g2 := F0 m 1096 ls [.int x158]) rfl ?_
    refine lv_pop hx hb dL_law_1096 rfl ?_
    refine lv_aload_n hx hb dL_law_1097 rfl (lv_at hl 1 rfl) ?_
    refine lv_aload_n hx hb dL_law_1098 rfl (lv_at hl 3 rfl) ?_
    refine lv_iload_n hx hb dL_law_1099 rfl (lv_at hl 0 rfl) ?_
    refine lv_iconst (v := 1) hx hb dL_law_1100 (by decide) ?_
    refine lv_iadd hx hb dL_law_1101 ?_
    refine lv_topi (fun x193 ex193 => ?_)
    obtain ⟨tx193, ejx193, evx193⟩ := lw_ix (k := 1) ex193 hI hL rfl (by decide)
    clear tx193
    refine va_sld hx hb hX hbl (Nat.not_le.mpr hbl) hSH157 (vp_in_iff.mpr evx193) dL_law_1102 ?_
    refine W.eq (g2 := F0 m 1103 ls [.int (xs (i.toNatClampNeg + 1)), .ref b]) (congrArg (fun z => F0 m 1103 ls [.int (xs z), .ref b]) ejx193) ?_
    refine lv_aload_n hx hb dL_law_1103 rfl (lv_at hl 3 rfl) ?_
    refine lv_iload_n hx hb dL_law_1104 rfl (lv_at hl 0 rfl) ?_
    refine lv_iconst (v := 2) hx hb dL_law_1105 (by decide) ?_
    refine lv_iadd hx hb dL_law_1106 ?_
    refine lv_topi (fun x194 ex194 => ?_)
    obtain ⟨tx194, ejx194, evx194⟩ := lw_ix (k := 2) ex194 hI hL rfl (by decide)
    clear tx194
    refine va_sld hx hb hX hbl (Nat.not_le.mpr hbl) hSH157 (vp_in_iff.mpr evx194) dL_law_1107 ?_
    refine W.eq (g2 := F0 m 1108 ls [.int (xs (i.toNatClampNeg + 2)), .int (xs (i.toNatClampNeg + 1)), .ref b]) (congrArg (fun z => F0 m 1108 ls [.int (xs z), .int (xs (i.toNatClampNeg + 1)), .ref b]) ejx194) ?_
    refine lv_aload_n hx hb dL_law_1108 rfl (lv_at hl 3 rfl) ?_
    refine lv_iload_n hx hb dL_law_1109 rfl (lv_at hl 0 rfl) ?_
    refine lv_iconst (v := 3) hx hb dL_law_1110 (by decide) ?_
    refine lv_iadd hx hb dL_law_1111 ?_
    refine lv_topi (fun x195 ex195 => ?_)
    obtain ⟨tx195, ejx195, evx195⟩ := lw_ix (k := 3) ex195 hI hL rfl (by decide)
    clear tx195
    refine va_sld hx hb hX hbl (Nat.not_le.mpr hbl) hSH157 (vp_in_iff.mpr evx195) dL_law_1112 ?_
    refine W.eq (g2 := F0 m 1113 ls [.int (xs (i.toNatClampNeg + 3)), .int (xs (i.toNatClampNeg + 2)), .int (xs (i.toNatClampNeg + 1)), .ref b]) (congrArg (fun z => F0 m 1113 ls [.int (xs z), .int (xs (i.toNatClampNeg + 2)), .int (xs (i.toNatClampNeg + 1)), .ref b]) ejx195) ?_
    refine x_V (As := [.int (xs (i.toNatClampNeg + 1)), .int (xs (i.toNatClampNeg + 2)), .int (xs (i.toNatClampNeg + 3))]) (rest := []) C (a_X10_holes l K G H157 ((xs (i.toNatClampNeg + 1))) ((xs (i.toNatClampNeg + 2))) ((xs (i.toNatClampNeg + 3))) hTH157 gb g159 g160 g161 g162) yo_X10_holes wM_L_116 ⟨⟨by decide, by decide⟩, show _ ≤ 284929 from Nat.le_trans hc (by decide), show _ ≤ 8247460 from Nat.le_trans hs (by decide)⟩ (x_rv C hTH157 (ci := 10) rfl gb rg_112) rfl hl.1 rfl (Nat.le_of_ble_eq_true rfl) dL_law_1113 hSH157 (AE_new hN hSH157.1) (fun vH196 H196 locsH196 pH196 zH196 kH196 hSH196 => ?_)
    obtain ⟨x197, hvH196, bx197, g198, g199, g200, g201, mf202, hTH196⟩ := pH196
    subst hvH196
    have m203 := (m163).trans (fR_kept (x_lt hTH157 kH196 ga (by decide))).symm
    have m204 := (m164).trans (fI_kept (x_lt hTH157 kH196 ga (by decide))).symm
    have m205 := (m166).trans (fI_kept (x_lt hTH157 kH196 gw (by decide))).symm
    have m206 := (m168).trans (fI_kept (x_lt hTH157 kH196 gw (by decide))).symm
    have m207 := (m170).trans (fI_kept (x_lt hTH157 kH196 gw (by decide))).symm
    have m208 := (m172).trans (fI_kept (x_lt hTH157 kH196 gw (by decide))).symm
    have m209 := (m174).trans (fI_kept (x_lt hTH157 kH196 gw (by decide))).symm
    have m210 := (m176).trans (fI_kept (x_lt hTH157 kH196 gw (by decide))).symm
    have m211 := (fV_kept (x_lt hTH157 kH196 ga (by decide))).trans m179
    have m212 := (m181).trans (fI_kept (x_lt hTH157 kH196 gkq (by decide))).symm
    have m213 := (m182).trans (fI_kept (x_lt hTH157 kH196 giq (by decide))).symm
    have m214 := (m183).trans (fI_kept (x_lt hTH157 kH196 gkq (by decide))).symm
    have m215 := (m184).trans (fI_kept (x_lt hTH157 kH196 giq (by decide))).symm
    have m216 := (m185).trans (fI_kept (x_lt hTH157 kH196 gkq (by decide))).symm
    have m217 := (m186).trans (fI_kept (x_lt hTH157 kH196 giq (by decide))).symm
    have m218 := (m187).trans (fI_kept (x_lt hTH157 kH196 gkq (by decide))).symm
    have m219 := (m188).trans (fI_kept (x_lt hTH157 kH196 giq (by decide))).symm
    have m220 := (m189).trans (fI_kept (x_lt hTH157 kH196 gkq (by decide))).symm
    have m221 := (m190).trans (fI_kept (x_lt hTH157 kH196 giq (by decide))).symm
    have m222 := (m191).trans (fI_kept (x_lt hTH157 kH196 gkq (by decide))).symm
    have m223 := (m192).trans (fI_kept (x_lt hTH157 kH196 giq (by decide))).symm
    have m224 := (m165).trans (MF.i mf202 (k := 18) (by decide) (by decide)).symm
    have m225 := (m167).trans (MF.i mf202 (k := 1) (by decide) (by decide)).symm
    have m226 := (m169).trans (MF.i mf202 (k := 2) (by decide) (by decide)).symm
    have m227 := (m171).trans (MF.i mf202 (k := 3) (by decide) (by decide)).symm
    have m228 := (m173).trans (MF.i mf202 (k := 59) (by decide) (by decide)).symm
    have m229 := (m175).trans (MF.i mf202 (k := 62) (by decide) (by decide)).symm
    have m230 := (m177).trans (MF.i mf202 (k := 65) (by decide) (by decide)).symm
    have m231 := (m178).trans (MF.i mf202 (k := 70) (by decide) (by decide)).symm
    have m232 := (m180).trans (MF.r mf202 (k := 73) (by decide) (by decide)).symm
    refine W.eq (g2 := F0 m 1116 ls [.int x197]) rfl ?_
    refine lv_pop hx hb dL_law_1116 rfl ?_
    refine lv_goto (tgt := 1509) hx hb dL_law_1117 (by decide) ?_
    exact nx G H196 locsH196 _ _ ls ⟨hTH196, hN, ga, gb, g198, g199, g200, g201, ⟨(by rw [← m204, ← m224]; exact rt), (by rw [← m203, ← m205, ← m225]; exact r1), (by rw [← m203, ← m206, ← m226]; exact r4), (by rw [← m203, ← m207, ← m227]; exact r5), (by rw [← m203, ← m208, ← m228]; exact r10), (by rw [← m203, ← m209, ← m229]; exact r13), (by rw [← m203, ← m210, ← m230]; exact r16)⟩, Or.inr ⟨kq, m211, gkq, (by rw [← m231]; exact h70), (by rw [← m212, ← m232, ← m213]; exact q1), (by rw [← m214, ← m232, ← m215]; exact q4), (by rw [← m216, ← m232, ← m217]; exact q5), (by rw [← m218, ← m232, ← m219]; exact q10), (by rw [← m220, ← m232, ← m221]; exact q13), (by rw [← m222, ← m232, ← m223]; exact q16)⟩, hSH196⟩ hl ⟨hc, hs, fun h => by have h1 := h.symm.trans m211; cases h1⟩