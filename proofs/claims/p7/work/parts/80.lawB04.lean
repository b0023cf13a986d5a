set_option maxRecDepth 100000 in
set_option maxHeartbeats 1000000 in
theorem lw_c24 {p : Program} {l : Launch} {e : Env} {s : State} {m : MethodId} {below : List Frame} {meth : Method} {c : Code} {K : KE} {b0 L : Nat} {xs : Nat → Int32} {G : Nat → Option Nat} {H : Heap} {locs : List Loc} {a b : Nat} {cells slots : Nat} {ls : Array Slot} {i : Int32} {n : Nat} (D : LC p K s m meth c b0 L xs) (S : SX K s G H locs a b) (hl : lv_has ls 4 [(3, .int i), (2, .ref b), (1, .ref a), (0, .ref b0)]) (hi : 0 ≤ i.toInt ∧ i.toInt + 6 ≤ L) (hn : n ≤ 511) (hc : cells ≤ 10000 + 434 * n) (hs : slots ≤ 200000 + 13027 * n) (nx : ∀ (G : Nat → Option Nat) (H : Heap) (locs : List Loc) (cells slots : Nat) (ls : Array Slot), SX K s G H locs a b → lv_has ls 4 [(3, .int i), (2, .ref b), (1, .ref a), (0, .ref b0)] → cells ≤ 10000 + 434 * (n + 1) → slots ≤ 200000 + 13027 * (n + 1) → W p l e room_1 s m #[Value.ref b0] below meth c H locs cells slots (lw_Z below #[Value.ref b0] s) (F0 m 1509 ls [])) : W p l e room_1 s m #[Value.ref b0] below meth c H locs cells slots (lw_Z below #[Value.ref b0] s) (F0 m 1120 ls []) := by
  obtain ⟨C, hX, hbl, hL⟩ := id D
  obtain ⟨hx, hb, hml, hown, hts, hKT, hr, hlocks, hnm⟩ := id C
  obtain ⟨hT, hN, ga, gb, cg, tu, wd, im, rt, hS⟩ := S
  have n_1 : (1 : Int32).toInt = 1 := rfl
  have n_2 : (2 : Int32).toInt = 2 := rfl
  have n_3 : (3 : Int32).toInt = 3 := rfl
  obtain ⟨ta, eta⟩ : ∃ z : Int32, z = fI H a (K.1.2 9 3) := ⟨_, rfl⟩
  obtain ⟨tb, etb⟩ : ∃ z : Int32, z = fI H b (K.1.2 10 18) := ⟨_, rfl⟩
  rw [← eta, ← etb] at rt
  refine lv_aload_n hx hb dL_law_1120 rfl (lv_at hl 2 rfl) ?_
  refine lv_aload_n hx hb dL_law_1121 rfl (lv_at hl 3 rfl) ?_
  refine lv_iload_n hx hb dL_law_1122 rfl (lv_at hl 0 rfl) ?_
  refine lv_iconst (v := 1) hx hb dL_law_1123 (by decide) ?_
  refine lv_iadd hx hb dL_law_1124 ?_
  refine lv_topi (fun x101 ex101 => ?_)
  have tx101 := i_add ex101 (by omega)
  have ejx101 : x101.toNatClampNeg = i.toNatClampNeg + 1 := by have h1 := i_cl (x := x101) (by omega); have h2 := i_cl (x := i) (by omega); omega
  refine va_sld hx hb hX hbl (Nat.not_le.mpr hbl) hS (vp_in_iff.mpr (by omega)) dL_law_1125 ?_
  refine W.eq (g2 := F0 m 1126 ls [.int (xs (i.toNatClampNeg + 1)), .ref a]) (congrArg (fun z => F0 m 1126 ls [.int (xs z), .ref a]) ejx101) ?_
  refine lv_aload_n hx hb dL_law_1126 rfl (lv_at hl 3 rfl) ?_
  refine lv_iload_n hx hb dL_law_1127 rfl (lv_at hl 0 rfl) ?_
  refine lv_iconst (v := 2) hx hb dL_law_1128 (by decide) ?_
  refine lv_iadd hx hb dL_law_1129 ?_
  refine lv_topi (fun x102 ex102 => ?_)
  have tx102 := i_add ex102 (by omega)
  have ejx102 : x102.toNatClampNeg = i.toNatClampNeg + 2 := by have h1 := i_cl (x := x102) (by omega); have h2 := i_cl (x := i) (by omega); omega
  refine va_sld hx hb hX hbl (Nat.not_le.mpr hbl) hS (vp_in_iff.mpr (by omega)) dL_law_1130 ?_
  refine W.eq (g2 := F0 m 1131 ls [.int (xs (i.toNatClampNeg + 2)), .int (xs (i.toNatClampNeg + 1)), .ref a]) (congrArg (fun z => F0 m 1131 ls [.int (xs z), .int (xs (i.toNatClampNeg + 1)), .ref a]) ejx102) ?_
  refine lv_aload_n hx hb dL_law_1131 rfl (lv_at hl 3 rfl) ?_
  refine lv_iload_n hx hb dL_law_1132 rfl (lv_at hl 0 rfl) ?_
  refine lv_iconst (v := 3) hx hb dL_law_1133 (by decide) ?_
  refine lv_iadd hx hb dL_law_1134 ?_
  refine lv_topi (fun x103 ex103 => ?_)
  have tx103 := i_add ex103 (by omega)
  have ejx103 : x103.toNatClampNeg = i.toNatClampNeg + 3 := by have h1 := i_cl (x := x103) (by omega); have h2 := i_cl (x := i) (by omega); omega
  refine va_sld hx hb hX hbl (Nat.not_le.mpr hbl) hS (vp_in_iff.mpr (by omega)) dL_law_1135 ?_
  refine W.eq (g2 := F0 m 1136 ls [.int (xs (i.toNatClampNeg + 3)), .int (xs (i.toNatClampNeg + 2)), .int (xs (i.toNatClampNeg + 1)), .ref a]) (congrArg (fun z => F0 m 1136 ls [.int (xs z), .int (xs (i.toNatClampNeg + 2)), .int (xs (i.toNatClampNeg + 1)), .ref a]) ejx103) ?_
  refine x_V (As := [.int (xs (i.toNatClampNeg + 1)), .int (xs (i.toNatClampNeg + 2)), .int (xs (i.toNatClampNeg + 3))]) (rest := []) C (a_X9_tube l K G H ((xs (i.toNatClampNeg + 1))) ((xs (i.toNatClampNeg + 2))) ((xs (i.toNatClampNeg + 3))) hT ga) yo_X9_tube wM_L_117 ⟨⟨by decide, by decide⟩, show _ ≤ 284929 by omega, show _ ≤ 8247460 by omega⟩ (x_rv C hT (ci := 9) rfl ga rg_68) rfl hl.1 rfl (Nat.le_of_ble_eq_true rfl) dL_law_1136 hS (AE_new hN hS.1) (fun vH104 H104 locsH104 pH104 zH104 kH104 hSH104 => ?_)
  obtain ⟨x105, hvH104, bx105, hTH104⟩ := pH104
  subst hvH104
  have g106 : CG (avw K H104 b) := CG.congr (fun k hk j => av_eff hT kH104 gb (by decide) (CG_eff [15] (by decide) k hk)) cg
  have g107 : TU (avw K H104 b) (svw K H104 b) := TU.congr (fun k hk j => av_eff hT kH104 gb (by decide) (TU_eff [15] (by decide) k hk)) (fun k hk => sv_eff hT kH104 gb (by decide)) tu
  have g108 : WD (avw K H104 b) := WD.congr (fun k hk j => av_eff hT kH104 gb (by decide) (WD_eff [15] (by decide) k hk)) wd
  have g109 : IM (avw K H104 b) := IM.congr (fun k hk j => av_eff hT kH104 gb (by decide) (IM_eff [15] (by decide) k hk)) im
  have m110 := (eta).trans (fI_kept (x_lt hT kH104 ga (by decide))).symm
  have m111 := (etb).trans (fI_kept (x_lt hT kH104 gb (by decide))).symm
  refine W.eq (g2 := F0 m 1139 ls [.int x105]) rfl ?_
  refine lv_pop hx hb dL_law_1139 rfl ?_
  refine lv_aload_n hx hb dL_law_1140 rfl (lv_at hl 1 rfl) ?_
  refine lv_aload_n hx hb dL_law_1141 rfl (lv_at hl 3 rfl) ?_
  refine lv_iload_n hx hb dL_law_1142 rfl (lv_at hl 0 rfl) ?_
  refine lv_iconst (v := 1) hx hb dL_law_1143 (by decide) ?_
  refine lv_iadd hx hb dL_law_1144 ?_
  refine lv_topi (fun x112 ex112 => ?_)
  have tx112 := i_add ex112 (by omega)
  have ejx112 : x112.toNatClampNeg = i.toNatClampNeg + 1 := by have h1 := i_cl (x := x112) (by omega); have h2 := i_cl (x := i) (by omega); omega
  refine va_sld hx hb hX hbl (Nat.not_le.mpr hbl) hSH104 (vp_in_iff.mpr (by omega)) dL_law_1145 ?_
  refine W.eq (g2 := F0 m 1146 ls [.int (xs (i.toNatClampNeg + 1)), .ref b]) (congrArg (fun z => F0 m 1146 ls [.int (xs z), .ref b]) ejx112) ?_
  refine lv_aload_n hx hb dL_law_1146 rfl (lv_at hl 3 rfl) ?_
  refine lv_iload_n hx hb dL_law_1147 rfl (lv_at hl 0 rfl) ?_
  refine lv_iconst (v := 2) hx hb dL_law_1148 (by decide) ?_
  refine lv_iadd hx hb dL_law_1149 ?_
  refine lv_topi (fun x113 ex113 => ?_)
  have tx113 := i_add ex113 (by omega)
  have ejx113 : x113.toNatClampNeg = i.toNatClampNeg + 2 := by have h1 := i_cl (x := x113) (by omega); have h2 := i_cl (x := i) (by omega); omega
  refine va_sld hx hb hX hbl (Nat.not_le.mpr hbl) hSH104 (vp_in_iff.mpr (by omega)) dL_law_1150 ?_
  refine W.eq (g2 := F0 m 1151 ls [.int (xs (i.toNatClampNeg + 2)), .int (xs (i.toNatClampNeg + 1)), .ref b]) (congrArg (fun z => F0 m 1151 ls [.int (xs z), .int (xs (i.toNatClampNeg + 1)), .ref b]) ejx113) ?_
  refine lv_aload_n hx hb dL_law_1151 rfl (lv_at hl 3 rfl) ?_
  refine lv_iload_n hx hb dL_law_1152 rfl (lv_at hl 0 rfl) ?_
  refine lv_iconst (v := 3) hx hb dL_law_1153 (by decide) ?_
  refine lv_iadd hx hb dL_law_1154 ?_
  refine lv_topi (fun x114 ex114 => ?_)
  have tx114 := i_add ex114 (by omega)
  have ejx114 : x114.toNatClampNeg = i.toNatClampNeg + 3 := by have h1 := i_cl (x := x114) (by omega); have h2 := i_cl (x := i) (by omega); omega
  refine va_sld hx hb hX hbl (Nat.not_le.mpr hbl) hSH104 (vp_in_iff.mpr (by omega)) dL_law_1155 ?_
  refine W.eq (g2 := F0 m 1156 ls [.int (xs (i.toNatClampNeg + 3)), .int (xs (i.toNatClampNeg + 2)), .int (xs (i.toNatClampNeg + 1)), .ref b]) (congrArg (fun z => F0 m 1156 ls [.int (xs z), .int (xs (i.toNatClampNeg + 2)), .int (xs (i.toNatClampNeg + 1)), .ref b]) ejx114) ?_
  refine x_V (As := [.int (xs (i.toNatClampNeg + 1)), .int (xs (i.toNatClampNeg + 2)), .int (xs (i.toNatClampNeg + 3))]) (rest := []) C (a_X10_tube l K G H104 ((xs (i.toNatClampNeg + 1))) ((xs (i.toNatClampNeg + 2))) ((xs (i.toNatClampNeg + 3))) hTH104 gb g106 g107 g108 g109) yo_X10_tube wM_L_120 ⟨⟨by decide, by decide⟩, show _ ≤ 284929 by omega, show _ ≤ 8247460 by omega⟩ (x_rv C hTH104 (ci := 10) rfl gb rg_112) rfl hl.1 rfl (Nat.le_of_ble_eq_true rfl) dL_law_1156 hSH104 (AE_new hN hSH104.1) (fun vH115 H115 locsH115 pH115 zH115 kH115 hSH115 => ?_)
  obtain ⟨x116, hvH115, bx116, g117, g118, g119, g120, mf121, hTH115⟩ := pH115
  subst hvH115
  have m122 := (m110).trans (fI_kept (x_lt hTH104 kH115 ga (by decide))).symm
  have m123 := (m111).trans (MF.i mf121 (k := 18) (by decide) (by decide)).symm
  refine W.eq (g2 := F0 m 1159 ls [.int x116]) rfl ?_
  refine lv_pop hx hb dL_law_1159 rfl ?_
  refine lv_goto (tgt := 1509) hx hb dL_law_1160 (by decide) ?_
  exact nx G H115 locsH115 _ _ ls ⟨hTH115, hN, ga, gb, g117, g118, g119, g120, (by rw [← m122, ← m123]; omega), hSH115⟩ hl (by omega) (by omega)
set_option maxRecDepth 100000 in
set_option maxHeartbeats 1000000 in
theorem lw_c25 {p : Program} {l : Launch} {e : Env} {s : State} {m : MethodId} {below : List Frame} {meth : Method} {c : Code} {K : KE} {b0 L : Nat} {xs : Nat → Int32} {G : Nat → Option Nat} {H : Heap} {locs : List Loc} {a b : Nat} {cells slots : Nat} {ls : Array Slot} {i : Int32} {n : Nat} (D : LC p K s m meth c b0 L xs) (S : SX K s G H locs a b) (hl : lv_has ls 4 [(3, .int i), (2, .ref b), (1, .ref a), (0, .ref b0)]) (hi : 0 ≤ i.toInt ∧ i.toInt + 6 ≤ L) (hn : n ≤ 511) (hc : cells ≤ 10000 + 434 * n) (hs : slots ≤ 200000 + 13027 * n) (nx : ∀ (G : Nat → Option Nat) (H : Heap) (locs : List Loc) (cells slots : Nat) (ls : Array Slot), SX K s G H locs a b → lv_has ls 4 [(3, .int i), (2, .ref b), (1, .ref a), (0, .ref b0)] → cells ≤ 10000 + 434 * (n + 1) → slots ≤ 200000 + 13027 * (n + 1) → W p l e room_1 s m #[Value.ref b0] below meth c H locs cells slots (lw_Z below #[Value.ref b0] s) (F0 m 1509 ls [])) : W p l e room_1 s m #[Value.ref b0] below meth c H locs cells slots (lw_Z below #[Value.ref b0] s) (F0 m 1163 ls []) := by
  obtain ⟨C, hX, hbl, hL⟩ := id D
  obtain ⟨hx, hb, hml, hown, hts, hKT, hr, hlocks, hnm⟩ := id C
  obtain ⟨hT, hN, ga, gb, cg, tu, wd, im, rt, hS⟩ := S
  have n_1 : (1 : Int32).toInt = 1 := rfl
  have n_2 : (2 : Int32).toInt = 2 := rfl
  have n_3 : (3 : Int32).toInt = 3 := rfl
  have n_4 : (4 : Int32).toInt = 4 := rfl
  obtain ⟨ta, eta⟩ : ∃ z : Int32, z = fI H a (K.1.2 9 3) := ⟨_, rfl⟩
  obtain ⟨tb, etb⟩ : ∃ z : Int32, z = fI H b (K.1.2 10 18) := ⟨_, rfl⟩
  rw [← eta, ← etb] at rt
  refine lv_aload_n hx hb dL_law_1163 rfl (lv_at hl 2 rfl) ?_
  refine lv_aload_n hx hb dL_law_1164 rfl (lv_at hl 3 rfl) ?_
  refine lv_iload_n hx hb dL_law_1165 rfl (lv_at hl 0 rfl) ?_
  refine lv_iconst (v := 1) hx hb dL_law_1166 (by decide) ?_
  refine lv_iadd hx hb dL_law_1167 ?_
  refine lv_topi (fun x101 ex101 => ?_)
  have tx101 := i_add ex101 (by omega)
  have ejx101 : x101.toNatClampNeg = i.toNatClampNeg + 1 := by have h1 := i_cl (x := x101) (by omega); have h2 := i_cl (x := i) (by omega); omega
  refine va_sld hx hb hX hbl (Nat.not_le.mpr hbl) hS (vp_in_iff.mpr (by omega)) dL_law_1168 ?_
  refine W.eq (g2 := F0 m 1169 ls [.int (xs (i.toNatClampNeg + 1)), .ref a]) (congrArg (fun z => F0 m 1169 ls [.int (xs z), .ref a]) ejx101) ?_
  refine lv_aload_n hx hb dL_law_1169 rfl (lv_at hl 3 rfl) ?_
  refine lv_iload_n hx hb dL_law_1170 rfl (lv_at hl 0 rfl) ?_
  refine lv_iconst (v := 2) hx hb dL_law_1171 (by decide) ?_
  refine lv_iadd hx hb dL_law_1172 ?_
  refine lv_topi (fun x102 ex102 => ?_)
  have tx102 := i_add ex102 (by omega)
  have ejx102 : x102.toNatClampNeg = i.toNatClampNeg + 2 := by have h1 := i_cl (x := x102) (by omega); have h2 := i_cl (x := i) (by omega); omega
  refine va_sld hx hb hX hbl (Nat.not_le.mpr hbl) hS (vp_in_iff.mpr (by omega)) dL_law_1173 ?_
  refine W.eq (g2 := F0 m 1174 ls [.int (xs (i.toNatClampNeg + 2)), .int (xs (i.toNatClampNeg + 1)), .ref a]) (congrArg (fun z => F0 m 1174 ls [.int (xs z), .int (xs (i.toNatClampNeg + 1)), .ref a]) ejx102) ?_
  refine lv_aload_n hx hb dL_law_1174 rfl (lv_at hl 3 rfl) ?_
  refine lv_iload_n hx hb dL_law_1175 rfl (lv_at hl 0 rfl) ?_
  refine lv_iconst (v := 3) hx hb dL_law_1176 (by decide) ?_
  refine lv_iadd hx hb dL_law_1177 ?_
  refine lv_topi (fun x103 ex103 => ?_)
  have tx103 := i_add ex103 (by omega)
  have ejx103 : x103.toNatClampNeg = i.toNatClampNeg + 3 := by have h1 := i_cl (x := x103) (by omega); have h2 := i_cl (x := i) (by omega); omega
  refine va_sld hx hb hX hbl (Nat.not_le.mpr hbl) hS (vp_in_iff.mpr (by omega)) dL_law_1178 ?_
  refine W.eq (g2 := F0 m 1179 ls [.int (xs (i.toNatClampNeg + 3)), .int (xs (i.toNatClampNeg + 2)), .int (xs (i.toNatClampNeg + 1)), .ref a]) (congrArg (fun z => F0 m 1179 ls [.int (xs z), .int (xs (i.toNatClampNeg + 2)), .int (xs (i.toNatClampNeg + 1)), .ref a]) ejx103) ?_
  refine lv_aload_n hx hb dL_law_1179 rfl (lv_at hl 3 rfl) ?_
  refine lv_iload_n hx hb dL_law_1180 rfl (lv_at hl 0 rfl) ?_
  refine lv_iconst (v := 4) hx hb dL_law_1181 (by decide) ?_
  refine lv_iadd hx hb dL_law_1182 ?_
  refine lv_topi (fun x104 ex104 => ?_)
  have tx104 := i_add ex104 (by omega)
  have ejx104 : x104.toNatClampNeg = i.toNatClampNeg + 4 := by have h1 := i_cl (x := x104) (by omega); have h2 := i_cl (x := i) (by omega); omega
  refine va_sld hx hb hX hbl (Nat.not_le.mpr hbl) hS (vp_in_iff.mpr (by omega)) dL_law_1183 ?_
  refine W.eq (g2 := F0 m 1184 ls [.int (xs (i.toNatClampNeg + 4)), .int (xs (i.toNatClampNeg + 3)), .int (xs (i.toNatClampNeg + 2)), .int (xs (i.toNatClampNeg + 1)), .ref a]) (congrArg (fun z => F0 m 1184 ls [.int (xs z), .int (xs (i.toNatClampNeg + 3)), .int (xs (i.toNatClampNeg + 2)), .int (xs (i.toNatClampNeg + 1)), .ref a]) ejx104) ?_
  refine x_V (As := [.int (xs (i.toNatClampNeg + 1)), .int (xs (i.toNatClampNeg + 2)), .int (xs (i.toNatClampNeg + 3)), .int (xs (i.toNatClampNeg + 4))]) (rest := []) C (a_X9_in l K G H ((xs (i.toNatClampNeg + 1))) ((xs (i.toNatClampNeg + 2))) ((xs (i.toNatClampNeg + 3))) ((xs (i.toNatClampNeg + 4))) hT ga) yo_X9_in wM_L_121 ⟨⟨by decide, by decide⟩, show _ ≤ 284929 by omega, show _ ≤ 8247460 by omega⟩ (x_rv C hT (ci := 9) rfl ga rg_68) rfl hl.1 rfl (Nat.le_of_ble_eq_true rfl) dL_law_1184 hS (AE_new hN hS.1) (fun vH105 H105 locsH105 pH105 zH105 kH105 hSH105 => ?_)
  obtain ⟨x106, hvH105, hTH105⟩ := pH105
  subst hvH105
  have g107 : CG (avw K H105 b) := CG.congr (fun k hk j => av_eff hT kH105 gb (by decide) (CG_eff [83, 84] (by decide) k hk)) cg
  have g108 : TU (avw K H105 b) (svw K H105 b) := TU.congr (fun k hk j => av_eff hT kH105 gb (by decide) (TU_eff [83, 84] (by decide) k hk)) (fun k hk => sv_eff hT kH105 gb (by decide)) tu
  have g109 : WD (avw K H105 b) := WD.congr (fun k hk j => av_eff hT kH105 gb (by decide) (WD_eff [83, 84] (by decide) k hk)) wd
  have g110 : IM (avw K H105 b) := IM.congr (fun k hk j => av_eff hT kH105 gb (by decide) (IM_eff [83, 84] (by decide) k hk)) im
  have m111 := (eta).trans (fI_kept (x_lt hT kH105 ga (by decide))).symm
  have m112 := (etb).trans (fI_kept (x_lt hT kH105 gb (by decide))).symm
  refine W.eq (g2 := F0 m 1187 ls [.int x106]) rfl ?_
  refine lv_pop hx hb dL_law_1187 rfl ?_
  refine lv_aload_n hx hb dL_law_1188 rfl (lv_at hl 1 rfl) ?_
  refine lv_aload_n hx hb dL_law_1189 rfl (lv_at hl 3 rfl) ?_
  refine lv_iload_n hx hb dL_law_1190 rfl (lv_at hl 0 rfl) ?_
  refine lv_iconst (v := 1) hx hb dL_law_1191 (by decide) ?_
  refine lv_iadd hx hb dL_law_1192 ?_
  refine lv_topi (fun x113 ex113 => ?_)
  have tx113 := i_add ex113 (by omega)
  have ejx113 : x113.toNatClampNeg = i.toNatClampNeg + 1 := by have h1 := i_cl (x := x113) (by omega); have h2 := i_cl (x := i) (by omega); omega
  refine va_sld hx hb hX hbl (Nat.not_le.mpr hbl) hSH105 (vp_in_iff.mpr (by omega)) dL_law_1193 ?_
  refine W.eq (g2 := F0 m 1194 ls [.int (xs (i.toNatClampNeg + 1)), .ref b]) (congrArg (fun z => F0 m 1194 ls [.int (xs z), .ref b]) ejx113) ?_
  refine lv_aload_n hx hb dL_law_1194 rfl (lv_at hl 3 rfl) ?_
  refine lv_iload_n hx hb dL_law_1195 rfl (lv_at hl 0 rfl) ?_
  refine lv_iconst (v := 2) hx hb dL_law_1196 (by decide) ?_
  refine lv_iadd hx hb dL_law_1197 ?_
  refine lv_topi (fun x114 ex114 => ?_)
  have tx114 := i_add ex114 (by omega)
  have ejx114 : x114.toNatClampNeg = i.toNatClampNeg + 2 := by have h1 := i_cl (x := x114) (by omega); have h2 := i_cl (x := i) (by omega); omega
  refine va_sld hx hb hX hbl (Nat.not_le.mpr hbl) hSH105 (vp_in_iff.mpr (by omega)) dL_law_1198 ?_
  refine W.eq (g2 := F0 m 1199 ls [.int (xs (i.toNatClampNeg + 2)), .int (xs (i.toNatClampNeg + 1)), .ref b]) (congrArg (fun z => F0 m 1199 ls [.int (xs z), .int (xs (i.toNatClampNeg + 1)), .ref b]) ejx114) ?_
  refine lv_aload_n hx hb dL_law_1199 rfl (lv_at hl 3 rfl) ?_
  refine lv_iload_n hx hb dL_law_1200 rfl (lv_at hl 0 rfl) ?_
  refine lv_iconst (v := 3) hx hb dL_law_1201 (by decide) ?_
  refine lv_iadd hx hb dL_law_1202 ?_
  refine lv_topi (fun x115 ex115 => ?_)
  have tx115 := i_add ex115 (by omega)
  have ejx115 : x115.toNatClampNeg = i.toNatClampNeg + 3 := by have h1 := i_cl (x := x115) (by omega); have h2 := i_cl (x := i) (by omega); omega
  refine va_sld hx hb hX hbl (Nat.not_le.mpr hbl) hSH105 (vp_in_iff.mpr (by omega)) dL_law_1203 ?_
  refine W.eq (g2 := F0 m 1204 ls [.int (xs (i.toNatClampNeg + 3)), .int (xs (i.toNatClampNeg + 2)), .int (xs (i.toNatClampNeg + 1)), .ref b]) (congrArg (fun z => F0 m 1204 ls [.int (xs z), .int (xs (i.toNatClampNeg + 2)), .int (xs (i.toNatClampNeg + 1)), .ref b]) ejx115) ?_
  refine lv_aload_n hx hb dL_law_1204 rfl (lv_at hl 3 rfl) ?_
  refine lv_iload_n hx hb dL_law_1205 rfl (lv_at hl 0 rfl) ?_
  refine lv_iconst (v := 4) hx hb dL_law_1206 (by decide) ?_
  refine lv_iadd hx hb dL_law_1207 ?_
  refine lv_topi (fun x116 ex116 => ?_)
  have tx116 := i_add ex116 (by omega)
  have ejx116 : x116.toNatClampNeg = i.toNatClampNeg + 4 := by have h1 := i_cl (x := x116) (by omega); have h2 := i_cl (x := i) (by omega); omega
  refine va_sld hx hb hX hbl (Nat.not_le.mpr hbl) hSH105 (vp_in_iff.mpr (by omega)) dL_law_1208 ?_
  refine W.eq (g2 := F0 m 1209 ls [.int (xs (i.toNatClampNeg + 4)), .int (xs (i.toNatClampNeg + 3)), .int (xs (i.toNatClampNeg + 2)), .int (xs (i.toNatClampNeg + 1)), .ref b]) (congrArg (fun z => F0 m 1209 ls [.int (xs z), .int (xs (i.toNatClampNeg + 3)), .int (xs (i.toNatClampNeg + 2)), .int (xs (i.toNatClampNeg + 1)), .ref b]) ejx116) ?_
  obtain ⟨x117, ex117⟩ : ∃ z : Int32, z = fI H105 b (K.1.2 10 1) := ⟨_, rfl⟩
  have bx117 := ty_fi (x := x117) (k := 1) ex117 hTH105 gb rg_112 rfl
  refine x_V (As := [.int (xs (i.toNatClampNeg + 1)), .int (xs (i.toNatClampNeg + 2)), .int (xs (i.toNatClampNeg + 3)), .int (xs (i.toNatClampNeg + 4))]) (rest := []) C (a_X10_in l K G H105 ((xs (i.toNatClampNeg + 1))) ((xs (i.toNatClampNeg + 2))) ((xs (i.toNatClampNeg + 3))) ((xs (i.toNatClampNeg + 4))) (x117) hTH105 gb ex117 g107 g108 g109 g110) yo_X10_in wM_L_124 ⟨⟨by decide, by decide⟩, show _ ≤ 284929 by omega, show _ ≤ 8247460 by omega⟩ (x_rv C hTH105 (ci := 10) rfl gb rg_112) rfl hl.1 rfl (Nat.le_of_ble_eq_true rfl) dL_law_1209 hSH105 (AE_new hN hSH105.1) (fun vH118 H118 locsH118 pH118 zH118 kH118 hSH118 => ?_)
  obtain ⟨x119, hvH118, g120, g121, g122, g123, mf124, hTH118⟩ := pH118
  subst hvH118
  have m125 := (m111).trans (fI_kept (x_lt hTH105 kH118 ga (by decide))).symm
  have m126 := (m112).trans (MF.i mf124 (k := 18) (by decide) (by decide)).symm
  have m127 := (ex117).trans (MF.i mf124 (k := 1) (by decide) (by decide)).symm
  refine W.eq (g2 := F0 m 1212 ls [.int x119]) rfl ?_
  refine lv_pop hx hb dL_law_1212 rfl ?_
  refine lv_goto (tgt := 1509) hx hb dL_law_1213 (by decide) ?_
  exact nx G H118 locsH118 _ _ ls ⟨hTH118, hN, ga, gb, g120, g121, g122, g123, (by rw [← m125, ← m126]; omega), hSH118⟩ hl (by omega) (by omega)
set_option maxRecDepth 100000 in
set_option maxHeartbeats 1000000 in
theorem lw_c26 {p : Program} {l : Launch} {e : Env} {s : State} {m : MethodId} {below : List Frame} {meth : Method} {c : Code} {K : KE} {b0 L : Nat} {xs : Nat → Int32} {G : Nat → Option Nat} {H : Heap} {locs : List Loc} {a b : Nat} {cells slots : Nat} {ls : Array Slot} {i : Int32} {n : Nat} (D : LC p K s m meth c b0 L xs) (S : SX K s G H locs a b) (hl : lv_has ls 4 [(3, .int i), (2, .ref b), (1, .ref a), (0, .ref b0)]) (hi : 0 ≤ i.toInt ∧ i.toInt + 6 ≤ L) (hn : n ≤ 511) (hc : cells ≤ 10000 + 434 * n) (hs : slots ≤ 200000 + 13027 * n) (nx : ∀ (G : Nat → Option Nat) (H : Heap) (locs : List Loc) (cells slots : Nat) (ls : Array Slot), SX K s G H locs a b → lv_has ls 4 [(3, .int i), (2, .ref b), (1, .ref a), (0, .ref b0)] → cells ≤ 10000 + 434 * (n + 1) → slots ≤ 200000 + 13027 * (n + 1) → W p l e room_1 s m #[Value.ref b0] below meth c H locs cells slots (lw_Z below #[Value.ref b0] s) (F0 m 1509 ls [])) : W p l e room_1 s m #[Value.ref b0] below meth c H locs cells slots (lw_Z below #[Value.ref b0] s) (F0 m 1216 ls []) := by
  obtain ⟨C, hX, hbl, hL⟩ := id D
  obtain ⟨hx, hb, hml, hown, hts, hKT, hr, hlocks, hnm⟩ := id C
  obtain ⟨hT, hN, ga, gb, cg, tu, wd, im, rt, hS⟩ := S
  have n_1 : (1 : Int32).toInt = 1 := rfl
  have n_2 : (2 : Int32).toInt = 2 := rfl
  obtain ⟨ta, eta⟩ : ∃ z : Int32, z = fI H a (K.1.2 9 3) := ⟨_, rfl⟩
  obtain ⟨tb, etb⟩ : ∃ z : Int32, z = fI H b (K.1.2 10 18) := ⟨_, rfl⟩
  rw [← eta, ← etb] at rt
  refine lv_aload_n hx hb dL_law_1216 rfl (lv_at hl 2 rfl) ?_
  refine lv_aload_n hx hb dL_law_1217 rfl (lv_at hl 3 rfl) ?_
  refine lv_iload_n hx hb dL_law_1218 rfl (lv_at hl 0 rfl) ?_
  refine lv_iconst (v := 1) hx hb dL_law_1219 (by decide) ?_
  refine lv_iadd hx hb dL_law_1220 ?_
  refine lv_topi (fun x101 ex101 => ?_)
  have tx101 := i_add ex101 (by omega)
  have ejx101 : x101.toNatClampNeg = i.toNatClampNeg + 1 := by have h1 := i_cl (x := x101) (by omega); have h2 := i_cl (x := i) (by omega); omega
  refine va_sld hx hb hX hbl (Nat.not_le.mpr hbl) hS (vp_in_iff.mpr (by omega)) dL_law_1221 ?_
  refine W.eq (g2 := F0 m 1222 ls [.int (xs (i.toNatClampNeg + 1)), .ref a]) (congrArg (fun z => F0 m 1222 ls [.int (xs z), .ref a]) ejx101) ?_
  refine lv_aload_n hx hb dL_law_1222 rfl (lv_at hl 3 rfl) ?_
  refine lv_iload_n hx hb dL_law_1223 rfl (lv_at hl 0 rfl) ?_
  refine lv_iconst (v := 2) hx hb dL_law_1224 (by decide) ?_
  refine lv_iadd hx hb dL_law_1225 ?_
  refine lv_topi (fun x102 ex102 => ?_)
  have tx102 := i_add ex102 (by omega)
  have ejx102 : x102.toNatClampNeg = i.toNatClampNeg + 2 := by have h1 := i_cl (x := x102) (by omega); have h2 := i_cl (x := i) (by omega); omega
  refine va_sld hx hb hX hbl (Nat.not_le.mpr hbl) hS (vp_in_iff.mpr (by omega)) dL_law_1226 ?_
  refine W.eq (g2 := F0 m 1227 ls [.int (xs (i.toNatClampNeg + 2)), .int (xs (i.toNatClampNeg + 1)), .ref a]) (congrArg (fun z => F0 m 1227 ls [.int (xs z), .int (xs (i.toNatClampNeg + 1)), .ref a]) ejx102) ?_
  refine x_V (As := [.int (xs (i.toNatClampNeg + 1)), .int (xs (i.toNatClampNeg + 2))]) (rest := []) C (a_X9_night l K G H ((xs (i.toNatClampNeg + 1))) ((xs (i.toNatClampNeg + 2))) hT ga) yo_X9_night wM_L_125 ⟨⟨by decide, by decide⟩, show _ ≤ 284929 by omega, show _ ≤ 8247460 by omega⟩ (x_rv C hT (ci := 9) rfl ga rg_68) rfl hl.1 rfl (Nat.le_of_ble_eq_true rfl) dL_law_1227 hS (AE_new hN hS.1) (fun vH103 H103 locsH103 pH103 zH103 kH103 hSH103 => ?_)
  obtain ⟨x104, hvH103, hTH103⟩ := pH103
  subst hvH103
  have g105 : CG (avw K H103 b) := CG.congr (fun k hk j => av_eff hT kH103 gb (by decide) (CG_eff [0, 28, 29] (by decide) k hk)) cg
  have g106 : TU (avw K H103 b) (svw K H103 b) := TU.congr (fun k hk j => av_eff hT kH103 gb (by decide) (TU_eff [0, 28, 29] (by decide) k hk)) (fun k hk => sv_eff hT kH103 gb (by decide)) tu
  have g107 : WD (avw K H103 b) := WD.congr (fun k hk j => av_eff hT kH103 gb (by decide) (WD_eff [0, 28, 29] (by decide) k hk)) wd
  have g108 : IM (avw K H103 b) := IM.congr (fun k hk j => av_eff hT kH103 gb (by decide) (IM_eff [0, 28, 29] (by decide) k hk)) im
  have m109 := (eta).trans (fI_kept (x_lt hT kH103 ga (by decide))).symm
  have m110 := (etb).trans (fI_kept (x_lt hT kH103 gb (by decide))).symm
  refine W.eq (g2 := F0 m 1230 ls [.int x104]) rfl ?_
  refine lv_pop hx hb dL_law_1230 rfl ?_
  refine lv_aload_n hx hb dL_law_1231 rfl (lv_at hl 1 rfl) ?_
  refine lv_aload_n hx hb dL_law_1232 rfl (lv_at hl 3 rfl) ?_
  refine lv_iload_n hx hb dL_law_1233 rfl (lv_at hl 0 rfl) ?_
  refine lv_iconst (v := 1) hx hb dL_law_1234 (by decide) ?_
  refine lv_iadd hx hb dL_law_1235 ?_
  refine lv_topi (fun x111 ex111 => ?_)
  have tx111 := i_add ex111 (by omega)
  have ejx111 : x111.toNatClampNeg = i.toNatClampNeg + 1 := by have h1 := i_cl (x := x111) (by omega); have h2 := i_cl (x := i) (by omega); omega
  refine va_sld hx hb hX hbl (Nat.not_le.mpr hbl) hSH103 (vp_in_iff.mpr (by omega)) dL_law_1236 ?_
  refine W.eq (g2 := F0 m 1237 ls [.int (xs (i.toNatClampNeg + 1)), .ref b]) (congrArg (fun z => F0 m 1237 ls [.int (xs z), .ref b]) ejx111) ?_
  refine lv_aload_n hx hb dL_law_1237 rfl (lv_at hl 3 rfl) ?_
  refine lv_iload_n hx hb dL_law_1238 rfl (lv_at hl 0 rfl) ?_
  refine lv_iconst (v := 2) hx hb dL_law_1239 (by decide) ?_
  refine lv_iadd hx hb dL_law_1240 ?_
  refine lv_topi (fun x112 ex112 => ?_)
  have tx112 := i_add ex112 (by omega)
  have ejx112 : x112.toNatClampNeg = i.toNatClampNeg + 2 := by have h1 := i_cl (x := x112) (by omega); have h2 := i_cl (x := i) (by omega); omega
  refine va_sld hx hb hX hbl (Nat.not_le.mpr hbl) hSH103 (vp_in_iff.mpr (by omega)) dL_law_1241 ?_
  refine W.eq (g2 := F0 m 1242 ls [.int (xs (i.toNatClampNeg + 2)), .int (xs (i.toNatClampNeg + 1)), .ref b]) (congrArg (fun z => F0 m 1242 ls [.int (xs z), .int (xs (i.toNatClampNeg + 1)), .ref b]) ejx112) ?_
  refine x_V (As := [.int (xs (i.toNatClampNeg + 1)), .int (xs (i.toNatClampNeg + 2))]) (rest := []) C (a_X10_night l K G H103 ((xs (i.toNatClampNeg + 1))) ((xs (i.toNatClampNeg + 2))) hTH103 gb g105 g106 g107 g108) yo_X10_night wM_L_128 ⟨⟨by decide, by decide⟩, show _ ≤ 284929 by omega, show _ ≤ 8247460 by omega⟩ (x_rv C hTH103 (ci := 10) rfl gb rg_112) rfl hl.1 rfl (Nat.le_of_ble_eq_true rfl) dL_law_1242 hSH103 (AE_new hN hSH103.1) (fun vH113 H113 locsH113 pH113 zH113 kH113 hSH113 => ?_)
  obtain ⟨x114, hvH113, g115, g116, g117, g118, mf119, hTH113⟩ := pH113
  subst hvH113
  have m120 := (m109).trans (fI_kept (x_lt hTH103 kH113 ga (by decide))).symm
  have m121 := (m110).trans (MF.i mf119 (k := 18) (by decide) (by decide)).symm
  refine W.eq (g2 := F0 m 1245 ls [.int x114]) rfl ?_
  refine lv_pop hx hb dL_law_1245 rfl ?_
  refine lv_goto (tgt := 1509) hx hb dL_law_1246 (by decide) ?_
  exact nx G H113 locsH113 _ _ ls ⟨hTH113, hN, ga, gb, g115, g116, g117, g118, (by rw [← m120, ← m121]; omega), hSH113⟩ hl (by omega) (by omega)
set_option maxRecDepth 100000 in
set_option maxHeartbeats 1000000 in
theorem lw_c27 {p : Program} {l : Launch} {e : Env} {s : State} {m : MethodId} {below : List Frame} {meth : Method} {c : Code} {K : KE} {b0 L : Nat} {xs : Nat → Int32} {G : Nat → Option Nat} {H : Heap} {locs : List Loc} {a b : Nat} {cells slots : Nat} {ls : Array Slot} {i : Int32} {n : Nat} (D : LC p K s m meth c b0 L xs) (S : SX K s G H locs a b) (hl : lv_has ls 4 [(3, .int i), (2, .ref b), (1, .ref a), (0, .ref b0)]) (hi : 0 ≤ i.toInt ∧ i.toInt + 6 ≤ L) (hn : n ≤ 511) (hc : cells ≤ 10000 + 434 * n) (hs : slots ≤ 200000 + 13027 * n) (nx : ∀ (G : Nat → Option Nat) (H : Heap) (locs : List Loc) (cells slots : Nat) (ls : Array Slot), SX K s G H locs a b → lv_has ls 4 [(3, .int i), (2, .ref b), (1, .ref a), (0, .ref b0)] → cells ≤ 10000 + 434 * (n + 1) → slots ≤ 200000 + 13027 * (n + 1) → W p l e room_1 s m #[Value.ref b0] below meth c H locs cells slots (lw_Z below #[Value.ref b0] s) (F0 m 1509 ls [])) : W p l e room_1 s m #[Value.ref b0] below meth c H locs cells slots (lw_Z below #[Value.ref b0] s) (F0 m 1249 ls []) := by
  obtain ⟨C, hX, hbl, hL⟩ := id D
  obtain ⟨hx, hb, hml, hown, hts, hKT, hr, hlocks, hnm⟩ := id C
  obtain ⟨hT, hN, ga, gb, cg, tu, wd, im, rt, hS⟩ := S
  have n_1 : (1 : Int32).toInt = 1 := rfl
  have n_2 : (2 : Int32).toInt = 2 := rfl
  obtain ⟨ta, eta⟩ : ∃ z : Int32, z = fI H a (K.1.2 9 3) := ⟨_, rfl⟩
  obtain ⟨tb, etb⟩ : ∃ z : Int32, z = fI H b (K.1.2 10 18) := ⟨_, rfl⟩
  rw [← eta, ← etb] at rt
  refine lv_aload_n hx hb dL_law_1249 rfl (lv_at hl 2 rfl) ?_
  refine lv_aload_n hx hb dL_law_1250 rfl (lv_at hl 3 rfl) ?_
  refine lv_iload_n hx hb dL_law_1251 rfl (lv_at hl 0 rfl) ?_
  refine lv_iconst (v := 1) hx hb dL_law_1252 (by decide) ?_
  refine lv_iadd hx hb dL_law_1253 ?_
  refine lv_topi (fun x101 ex101 => ?_)
  have tx101 := i_add ex101 (by omega)
  have ejx101 : x101.toNatClampNeg = i.toNatClampNeg + 1 := by have h1 := i_cl (x := x101) (by omega); have h2 := i_cl (x := i) (by omega); omega
  refine va_sld hx hb hX hbl (Nat.not_le.mpr hbl) hS (vp_in_iff.mpr (by omega)) dL_law_1254 ?_
  refine W.eq (g2 := F0 m 1255 ls [.int (xs (i.toNatClampNeg + 1)), .ref a]) (congrArg (fun z => F0 m 1255 ls [.int (xs z), .ref a]) ejx101) ?_
  refine lv_aload_n hx hb dL_law_1255 rfl (lv_at hl 3 rfl) ?_
  refine lv_iload_n hx hb dL_law_1256 rfl (lv_at hl 0 rfl) ?_
  refine lv_iconst (v := 2) hx hb dL_law_1257 (by decide) ?_
  refine lv_iadd hx hb dL_law_1258 ?_
  refine lv_topi (fun x102 ex102 => ?_)
  have tx102 := i_add ex102 (by omega)
  have ejx102 : x102.toNatClampNeg = i.toNatClampNeg + 2 := by have h1 := i_cl (x := x102) (by omega); have h2 := i_cl (x := i) (by omega); omega
  refine va_sld hx hb hX hbl (Nat.not_le.mpr hbl) hS (vp_in_iff.mpr (by omega)) dL_law_1259 ?_
  refine W.eq (g2 := F0 m 1260 ls [.int (xs (i.toNatClampNeg + 2)), .int (xs (i.toNatClampNeg + 1)), .ref a]) (congrArg (fun z => F0 m 1260 ls [.int (xs z), .int (xs (i.toNatClampNeg + 1)), .ref a]) ejx102) ?_
  refine x_V (As := [.int (xs (i.toNatClampNeg + 1)), .int (xs (i.toNatClampNeg + 2))]) (rest := []) C (a_X9_nights l K G H ((xs (i.toNatClampNeg + 1))) ((xs (i.toNatClampNeg + 2))) hT ga) yo_X9_nights wM_L_129 ⟨⟨by decide, by decide⟩, show _ ≤ 284929 by omega, show _ ≤ 8247460 by omega⟩ (x_rv C hT (ci := 9) rfl ga rg_68) rfl hl.1 rfl (Nat.le_of_ble_eq_true rfl) dL_law_1260 hS (AE_new hN hS.1) (fun vH103 H103 locsH103 pH103 zH103 kH103 hSH103 => ?_)
  obtain ⟨x104, hvH103, hTH103⟩ := pH103
  subst hvH103
  have g105 : CG (avw K H103 b) := CG.congr (fun k hk j => av_eff hT kH103 gb (by decide) (CG_eff [83, 84, 109] (by decide) k hk)) cg
  have g106 : TU (avw K H103 b) (svw K H103 b) := TU.congr (fun k hk j => av_eff hT kH103 gb (by decide) (TU_eff [83, 84, 109] (by decide) k hk)) (fun k hk => sv_eff hT kH103 gb (by decide)) tu
  have g107 : WD (avw K H103 b) := WD.congr (fun k hk j => av_eff hT kH103 gb (by decide) (WD_eff [83, 84, 109] (by decide) k hk)) wd
  have g108 : IM (avw K H103 b) := IM.congr (fun k hk j => av_eff hT kH103 gb (by decide) (IM_eff [83, 84, 109] (by decide) k hk)) im
  have m109 := (eta).trans (fI_kept (x_lt hT kH103 ga (by decide))).symm
  have m110 := (etb).trans (fI_kept (x_lt hT kH103 gb (by decide))).symm
  refine W.eq (g2 := F0 m 1263 ls [.int x104]) rfl ?_
  refine lv_pop hx hb dL_law_1263 rfl ?_
  refine lv_aload_n hx hb dL_law_1264 rfl (lv_at hl 1 rfl) ?_
  refine lv_aload_n hx hb dL_law_1265 rfl (lv_at hl 3 rfl) ?_
  refine lv_iload_n hx hb dL_law_1266 rfl (lv_at hl 0 rfl) ?_
  refine lv_iconst (v := 1) hx hb dL_law_1267 (by decide) ?_
  refine lv_iadd hx hb dL_law_1268 ?_
  refine lv_topi (fun x111 ex111 => ?_)
  have tx111 := i_add ex111 (by omega)
  have ejx111 : x111.toNatClampNeg = i.toNatClampNeg + 1 := by have h1 := i_cl (x := x111) (by omega); have h2 := i_cl (x := i) (by omega); omega
  refine va_sld hx hb hX hbl (Nat.not_le.mpr hbl) hSH103 (vp_in_iff.mpr (by omega)) dL_law_1269 ?_
  refine W.eq (g2 := F0 m 1270 ls [.int (xs (i.toNatClampNeg + 1)), .ref b]) (congrArg (fun z => F0 m 1270 ls [.int (xs z), .ref b]) ejx111) ?_
  refine lv_aload_n hx hb dL_law_1270 rfl (lv_at hl 3 rfl) ?_
  refine lv_iload_n hx hb dL_law_1271 rfl (lv_at hl 0 rfl) ?_
  refine lv_iconst (v := 2) hx hb dL_law_1272 (by decide) ?_
  refine lv_iadd hx hb dL_law_1273 ?_
  refine lv_topi (fun x112 ex112 => ?_)
  have tx112 := i_add ex112 (by omega)
  have ejx112 : x112.toNatClampNeg = i.toNatClampNeg + 2 := by have h1 := i_cl (x := x112) (by omega); have h2 := i_cl (x := i) (by omega); omega
  refine va_sld hx hb hX hbl (Nat.not_le.mpr hbl) hSH103 (vp_in_iff.mpr (by omega)) dL_law_1274 ?_
  refine W.eq (g2 := F0 m 1275 ls [.int (xs (i.toNatClampNeg + 2)), .int (xs (i.toNatClampNeg + 1)), .ref b]) (congrArg (fun z => F0 m 1275 ls [.int (xs z), .int (xs (i.toNatClampNeg + 1)), .ref b]) ejx112) ?_
  refine x_V (As := [.int (xs (i.toNatClampNeg + 1)), .int (xs (i.toNatClampNeg + 2))]) (rest := []) C (a_X10_nights l K G H103 ((xs (i.toNatClampNeg + 1))) ((xs (i.toNatClampNeg + 2))) hTH103 gb g105 g106 g107 g108) yo_X10_nights wM_L_132 ⟨⟨by decide, by decide⟩, show _ ≤ 284929 by omega, show _ ≤ 8247460 by omega⟩ (x_rv C hTH103 (ci := 10) rfl gb rg_112) rfl hl.1 rfl (Nat.le_of_ble_eq_true rfl) dL_law_1275 hSH103 (AE_new hN hSH103.1) (fun vH113 H113 locsH113 pH113 zH113 kH113 hSH113 => ?_)
  obtain ⟨x114, hvH113, g115, g116, g117, g118, mf119, hTH113⟩ := pH113
  subst hvH113
  have m120 := (m109).trans (fI_kept (x_lt hTH103 kH113 ga (by decide))).symm
  have m121 := (m110).trans (MF.i mf119 (k := 18) (by decide) (by decide)).symm
  refine W.eq (g2 := F0 m 1278 ls [.int x114]) rfl ?_
  refine lv_pop hx hb dL_law_1278 rfl ?_
  refine lv_goto (tgt := 1509) hx hb dL_law_1279 (by decide) ?_
  exact nx G H113 locsH113 _ _ ls ⟨hTH113, hN, ga, gb, g115, g116, g117, g118, (by rw [← m120, ← m121]; omega), hSH113⟩ hl (by omega) (by omega)
set_option maxRecDepth 100000 in
set_option maxHeartbeats 1000000 in
theorem lw_c28 {p : Program} {l : Launch} {e : Env} {s : State} {m : MethodId} {below : List Frame} {meth : Method} {c : Code} {K : KE} {b0 L : Nat} {xs : Nat → Int32} {G : Nat → Option Nat} {H : Heap} {locs : List Loc} {a b : Nat} {cells slots : Nat} {ls : Array Slot} {i : Int32} {n : Nat} (D : LC p K s m meth c b0 L xs) (S : SX K s G H locs a b) (hl : lv_has ls 4 [(3, .int i), (2, .ref b), (1, .ref a), (0, .ref b0)]) (hi : 0 ≤ i.toInt ∧ i.toInt + 6 ≤ L) (hn : n ≤ 511) (hc : cells ≤ 10000 + 434 * n) (hs : slots ≤ 200000 + 13027 * n) (nx : ∀ (G : Nat → Option Nat) (H : Heap) (locs : List Loc) (cells slots : Nat) (ls : Array Slot), SX K s G H locs a b → lv_has ls 4 [(3, .int i), (2, .ref b), (1, .ref a), (0, .ref b0)] → cells ≤ 10000 + 434 * (n + 1) → slots ≤ 200000 + 13027 * (n + 1) → W p l e room_1 s m #[Value.ref b0] below meth c H locs cells slots (lw_Z below #[Value.ref b0] s) (F0 m 1509 ls [])) : W p l e room_1 s m #[Value.ref b0] below meth c H locs cells slots (lw_Z below #[Value.ref b0] s) (F0 m 1282 ls []) := by
  obtain ⟨C, hX, hbl, hL⟩ := id D
  obtain ⟨hx, hb, hml, hown, hts, hKT, hr, hlocks, hnm⟩ := id C
  obtain ⟨hT, hN, ga, gb, cg, tu, wd, im, rt, hS⟩ := S
  have n_1 : (1 : Int32).toInt = 1 := rfl
  have n_2 : (2 : Int32).toInt = 2 := rfl
  obtain ⟨ta, eta⟩ : ∃ z : Int32, z = fI H a (K.1.2 9 3) := ⟨_, rfl⟩
  obtain ⟨tb, etb⟩ : ∃ z : Int32, z = fI H b (K.1.2 10 18) := ⟨_, rfl⟩
  rw [← eta, ← etb] at rt
  refine lv_aload_n hx hb dL_law_1282 rfl (lv_at hl 2 rfl) ?_
  refine lv_aload_n hx hb dL_law_1283 rfl (lv_at hl 3 rfl) ?_
  refine lv_iload_n hx hb dL_law_1284 rfl (lv_at hl 0 rfl) ?_
  refine lv_iconst (v := 1) hx hb dL_law_1285 (by decide) ?_
  refine lv_iadd hx hb dL_law_1286 ?_
  refine lv_topi (fun x101 ex101 => ?_)
  have tx101 := i_add ex101 (by omega)
  have ejx101 : x101.toNatClampNeg = i.toNatClampNeg + 1 := by have h1 := i_cl (x := x101) (by omega); have h2 := i_cl (x := i) (by omega); omega
  refine va_sld hx hb hX hbl (Nat.not_le.mpr hbl) hS (vp_in_iff.mpr (by omega)) dL_law_1287 ?_
  refine W.eq (g2 := F0 m 1288 ls [.int (xs (i.toNatClampNeg + 1)), .ref a]) (congrArg (fun z => F0 m 1288 ls [.int (xs z), .ref a]) ejx101) ?_
  refine lv_aload_n hx hb dL_law_1288 rfl (lv_at hl 3 rfl) ?_
  refine lv_iload_n hx hb dL_law_1289 rfl (lv_at hl 0 rfl) ?_
  refine lv_iconst (v := 2) hx hb dL_law_1290 (by decide) ?_
  refine lv_iadd hx hb dL_law_1291 ?_
  refine lv_topi (fun x102 ex102 => ?_)
  have tx102 := i_add ex102 (by omega)
  have ejx102 : x102.toNatClampNeg = i.toNatClampNeg + 2 := by have h1 := i_cl (x := x102) (by omega); have h2 := i_cl (x := i) (by omega); omega
  refine va_sld hx hb hX hbl (Nat.not_le.mpr hbl) hS (vp_in_iff.mpr (by omega)) dL_law_1292 ?_
  refine W.eq (g2 := F0 m 1293 ls [.int (xs (i.toNatClampNeg + 2)), .int (xs (i.toNatClampNeg + 1)), .ref a]) (congrArg (fun z => F0 m 1293 ls [.int (xs z), .int (xs (i.toNatClampNeg + 1)), .ref a]) ejx102) ?_
  refine x_V (As := [.int (xs (i.toNatClampNeg + 1)), .int (xs (i.toNatClampNeg + 2))]) (rest := []) C (a_X9_note l K G H ((xs (i.toNatClampNeg + 1))) ((xs (i.toNatClampNeg + 2))) hT ga) yo_X9_note wM_L_133 ⟨⟨by decide, by decide⟩, show _ ≤ 284929 by omega, show _ ≤ 8247460 by omega⟩ (x_rv C hT (ci := 9) rfl ga rg_68) rfl hl.1 rfl (Nat.le_of_ble_eq_true rfl) dL_law_1293 hS (AE_new hN hS.1) (fun vH103 H103 locsH103 pH103 zH103 kH103 hSH103 => ?_)
  obtain ⟨x104, hvH103, hTH103⟩ := pH103
  subst hvH103
  have g105 : CG (avw K H103 b) := CG.congr (fun k hk j => av_eff hT kH103 gb (by decide) (CG_eff [0, 30, 31] (by decide) k hk)) cg
  have g106 : TU (avw K H103 b) (svw K H103 b) := TU.congr (fun k hk j => av_eff hT kH103 gb (by decide) (TU_eff [0, 30, 31] (by decide) k hk)) (fun k hk => sv_eff hT kH103 gb (by decide)) tu
  have g107 : WD (avw K H103 b) := WD.congr (fun k hk j => av_eff hT kH103 gb (by decide) (WD_eff [0, 30, 31] (by decide) k hk)) wd
  have g108 : IM (avw K H103 b) := IM.congr (fun k hk j => av_eff hT kH103 gb (by decide) (IM_eff [0, 30, 31] (by decide) k hk)) im
  have m109 := (eta).trans (fI_kept (x_lt hT kH103 ga (by decide))).symm
  have m110 := (etb).trans (fI_kept (x_lt hT kH103 gb (by decide))).symm
  refine W.eq (g2 := F0 m 1296 ls [.int x104]) rfl ?_
  refine lv_pop hx hb dL_law_1296 rfl ?_
  refine lv_aload_n hx hb dL_law_1297 rfl (lv_at hl 1 rfl) ?_
  refine lv_aload_n hx hb dL_law_1298 rfl (lv_at hl 3 rfl) ?_
  refine lv_iload_n hx hb dL_law_1299 rfl (lv_at hl 0 rfl) ?_
  refine lv_iconst (v := 1) hx hb dL_law_1300 (by decide) ?_
  refine lv_iadd hx hb dL_law_1301 ?_
  refine lv_topi (fun x111 ex111 => ?_)
  have tx111 := i_add ex111 (by omega)
  have ejx111 : x111.toNatClampNeg = i.toNatClampNeg + 1 := by have h1 := i_cl (x := x111) (by omega); have h2 := i_cl (x := i) (by omega); omega
  refine va_sld hx hb hX hbl (Nat.not_le.mpr hbl) hSH103 (vp_in_iff.mpr (by omega)) dL_law_1302 ?_
  refine W.eq (g2 := F0 m 1303 ls [.int (xs (i.toNatClampNeg + 1)), .ref b]) (congrArg (fun z => F0 m 1303 ls [.int (xs z), .ref b]) ejx111) ?_
  refine lv_aload_n hx hb dL_law_1303 rfl (lv_at hl 3 rfl) ?_
  refine lv_iload_n hx hb dL_law_1304 rfl (lv_at hl 0 rfl) ?_
  refine lv_iconst (v := 2) hx hb dL_law_1305 (by decide) ?_
  refine lv_iadd hx hb dL_law_1306 ?_
  refine lv_topi (fun x112 ex112 => ?_)
  have tx112 := i_add ex112 (by omega)
  have ejx112 : x112.toNatClampNeg = i.toNatClampNeg + 2 := by have h1 := i_cl (x := x112) (by omega); have h2 := i_cl (x := i) (by omega); omega
  refine va_sld hx hb hX hbl (Nat.not_le.mpr hbl) hSH103 (vp_in_iff.mpr (by omega)) dL_law_1307 ?_
  refine W.eq (g2 := F0 m 1308 ls [.int (xs (i.toNatClampNeg + 2)), .int (xs (i.toNatClampNeg + 1)), .ref b]) (congrArg (fun z => F0 m 1308 ls [.int (xs z), .int (xs (i.toNatClampNeg + 1)), .ref b]) ejx112) ?_
  refine x_V (As := [.int (xs (i.toNatClampNeg + 1)), .int (xs (i.toNatClampNeg + 2))]) (rest := []) C (a_X10_note l K G H103 ((xs (i.toNatClampNeg + 1))) ((xs (i.toNatClampNeg + 2))) hTH103 gb g105 g106 g107 g108) yo_X10_note wM_L_136 ⟨⟨by decide, by decide⟩, show _ ≤ 284929 by omega, show _ ≤ 8247460 by omega⟩ (x_rv C hTH103 (ci := 10) rfl gb rg_112) rfl hl.1 rfl (Nat.le_of_ble_eq_true rfl) dL_law_1308 hSH103 (AE_new hN hSH103.1) (fun vH113 H113 locsH113 pH113 zH113 kH113 hSH113 => ?_)
  obtain ⟨x114, hvH113, g115, g116, g117, g118, mf119, hTH113⟩ := pH113
  subst hvH113
  have m120 := (m109).trans (fI_kept (x_lt hTH103 kH113 ga (by decide))).symm
  have m121 := (m110).trans (MF.i mf119 (k := 18) (by decide) (by decide)).symm
  refine W.eq (g2 := F0 m 1311 ls [.int x114]) rfl ?_
  refine lv_pop hx hb dL_law_1311 rfl ?_
  refine lv_goto (tgt := 1509) hx hb dL_law_1312 (by decide) ?_
  exact nx G H113 locsH113 _ _ ls ⟨hTH113, hN, ga, gb, g115, g116, g117, g118, (by rw [← m120, ← m121]; omega), hSH113⟩ hl (by omega) (by omega)
set_option maxRecDepth 100000 in
set_option maxHeartbeats 1000000 in
theorem lw_c29 {p : Program} {l : Launch} {e : Env} {s : State} {m : MethodId} {below : List Frame} {meth : Method} {c : Code} {K : KE} {b0 L : Nat} {xs : Nat → Int32} {G : Nat → Option Nat} {H : Heap} {locs : List Loc} {a b : Nat} {cells slots : Nat} {ls : Array Slot} {i : Int32} {n : Nat} (D : LC p K s m meth c b0 L xs) (S : SX K s G H locs a b) (hl : lv_has ls 4 [(3, .int i), (2, .ref b), (1, .ref a), (0, .ref b0)]) (hi : 0 ≤ i.toInt ∧ i.toInt + 6 ≤ L) (hn : n ≤ 511) (hc : cells ≤ 10000 + 434 * n) (hs : slots ≤ 200000 + 13027 * n) (nx : ∀ (G : Nat → Option Nat) (H : Heap) (locs : List Loc) (cells slots : Nat) (ls : Array Slot), SX K s G H locs a b → lv_has ls 4 [(3, .int i), (2, .ref b), (1, .ref a), (0, .ref b0)] → cells ≤ 10000 + 434 * (n + 1) → slots ≤ 200000 + 13027 * (n + 1) → W p l e room_1 s m #[Value.ref b0] below meth c H locs cells slots (lw_Z below #[Value.ref b0] s) (F0 m 1509 ls [])) : W p l e room_1 s m #[Value.ref b0] below meth c H locs cells slots (lw_Z below #[Value.ref b0] s) (F0 m 1315 ls []) := by
  obtain ⟨C, hX, hbl, hL⟩ := id D
  obtain ⟨hx, hb, hml, hown, hts, hKT, hr, hlocks, hnm⟩ := id C
  obtain ⟨hT, hN, ga, gb, cg, tu, wd, im, rt, hS⟩ := S
  have n_1 : (1 : Int32).toInt = 1 := rfl
  have n_2 : (2 : Int32).toInt = 2 := rfl
  obtain ⟨ta, eta⟩ : ∃ z : Int32, z = fI H a (K.1.2 9 3) := ⟨_, rfl⟩
  obtain ⟨tb, etb⟩ : ∃ z : Int32, z = fI H b (K.1.2 10 18) := ⟨_, rfl⟩
  rw [← eta, ← etb] at rt
  refine lv_aload_n hx hb dL_law_1315 rfl (lv_at hl 2 rfl) ?_
  refine lv_aload_n hx hb dL_law_1316 rfl (lv_at hl 3 rfl) ?_
  refine lv_iload_n hx hb dL_law_1317 rfl (lv_at hl 0 rfl) ?_
  refine lv_iconst (v := 1) hx hb dL_law_1318 (by decide) ?_
  refine lv_iadd hx hb dL_law_1319 ?_
  refine lv_topi (fun x101 ex101 => ?_)
  have tx101 := i_add ex101 (by omega)
  have ejx101 : x101.toNatClampNeg = i.toNatClampNeg + 1 := by have h1 := i_cl (x := x101) (by omega); have h2 := i_cl (x := i) (by omega); omega
  refine va_sld hx hb hX hbl (Nat.not_le.mpr hbl) hS (vp_in_iff.mpr (by omega)) dL_law_1320 ?_
  refine W.eq (g2 := F0 m 1321 ls [.int (xs (i.toNatClampNeg + 1)), .ref a]) (congrArg (fun z => F0 m 1321 ls [.int (xs z), .ref a]) ejx101) ?_
  refine lv_aload_n hx hb dL_law_1321 rfl (lv_at hl 3 rfl) ?_
  refine lv_iload_n hx hb dL_law_1322 rfl (lv_at hl 0 rfl) ?_
  refine lv_iconst (v := 2) hx hb dL_law_1323 (by decide) ?_
  refine lv_iadd hx hb dL_law_1324 ?_
  refine lv_topi (fun x102 ex102 => ?_)
  have tx102 := i_add ex102 (by omega)
  have ejx102 : x102.toNatClampNeg = i.toNatClampNeg + 2 := by have h1 := i_cl (x := x102) (by omega); have h2 := i_cl (x := i) (by omega); omega
  refine va_sld hx hb hX hbl (Nat.not_le.mpr hbl) hS (vp_in_iff.mpr (by omega)) dL_law_1325 ?_
  refine W.eq (g2 := F0 m 1326 ls [.int (xs (i.toNatClampNeg + 2)), .int (xs (i.toNatClampNeg + 1)), .ref a]) (congrArg (fun z => F0 m 1326 ls [.int (xs z), .int (xs (i.toNatClampNeg + 1)), .ref a]) ejx102) ?_
  refine x_V (As := [.int (xs (i.toNatClampNeg + 1)), .int (xs (i.toNatClampNeg + 2))]) (rest := []) C (a_X9_blank l K G H ((xs (i.toNatClampNeg + 1))) ((xs (i.toNatClampNeg + 2))) hT ga) yo_X9_blank wM_L_137 ⟨⟨by decide, by decide⟩, show _ ≤ 284929 by omega, show _ ≤ 8247460 by omega⟩ (x_rv C hT (ci := 9) rfl ga rg_68) rfl hl.1 rfl (Nat.le_of_ble_eq_true rfl) dL_law_1326 hS (AE_new hN hS.1) (fun vH103 H103 locsH103 pH103 zH103 kH103 hSH103 => ?_)
  obtain ⟨x104, hvH103, hTH103⟩ := pH103
  subst hvH103
  have g105 : CG (avw K H103 b) := CG.congr (fun k hk j => av_eff hT kH103 gb (by decide) (CG_eff [0, 32, 33] (by decide) k hk)) cg
  have g106 : TU (avw K H103 b) (svw K H103 b) := TU.congr (fun k hk j => av_eff hT kH103 gb (by decide) (TU_eff [0, 32, 33] (by decide) k hk)) (fun k hk => sv_eff hT kH103 gb (by decide)) tu
  have g107 : WD (avw K H103 b) := WD.congr (fun k hk j => av_eff hT kH103 gb (by decide) (WD_eff [0, 32, 33] (by decide) k hk)) wd
  have g108 : IM (avw K H103 b) := IM.congr (fun k hk j => av_eff hT kH103 gb (by decide) (IM_eff [0, 32, 33] (by decide) k hk)) im
  have m109 := (eta).trans (fI_kept (x_lt hT kH103 ga (by decide))).symm
  have m110 := (etb).trans (fI_kept (x_lt hT kH103 gb (by decide))).symm
  refine W.eq (g2 := F0 m 1329 ls [.int x104]) rfl ?_
  refine lv_pop hx hb dL_law_1329 rfl ?_
  refine lv_aload_n hx hb dL_law_1330 rfl (lv_at hl 1 rfl) ?_
  refine lv_aload_n hx hb dL_law_1331 rfl (lv_at hl 3 rfl) ?_
  refine lv_iload_n hx hb dL_law_1332 rfl (lv_at hl 0 rfl) ?_
  refine lv_iconst (v := 1) hx hb dL_law_1333 (by decide) ?_
  refine lv_iadd hx hb dL_law_1334 ?_
  refine lv_topi (fun x111 ex111 => ?_)
  have tx111 := i_add ex111 (by omega)
  have ejx111 : x111.toNatClampNeg = i.toNatClampNeg + 1 := by have h1 := i_cl (x := x111) (by omega); have h2 := i_cl (x := i) (by omega); omega
  refine va_sld hx hb hX hbl (Nat.not_le.mpr hbl) hSH103 (vp_in_iff.mpr (by omega)) dL_law_1335 ?_
  refine W.eq (g2 := F0 m 1336 ls [.int (xs (i.toNatClampNeg + 1)), .ref b]) (congrArg (fun z => F0 m 1336 ls [.int (xs z), .ref b]) ejx111) ?_
  refine lv_aload_n hx hb dL_law_1336 rfl (lv_at hl 3 rfl) ?_
  refine lv_iload_n hx hb dL_law_1337 rfl (lv_at hl 0 rfl) ?_
  refine lv_iconst (v := 2) hx hb dL_law_1338 (by decide) ?_
  refine lv_iadd hx hb dL_law_1339 ?_
  refine lv_topi (fun x112 ex112 => ?_)
  have tx112 := i_add ex112 (by omega)
  have ejx112 : x112.toNatClampNeg = i.toNatClampNeg + 2 := by have h1 := i_cl (x := x112) (by omega); have h2 := i_cl (x := i) (by omega); omega
  refine va_sld hx hb hX hbl (Nat.not_le.mpr hbl) hSH103 (vp_in_iff.mpr (by omega)) dL_law_1340 ?_
  refine W.eq (g2 := F0 m 1341 ls [.int (xs (i.toNatClampNeg + 2)), .int (xs (i.toNatClampNeg + 1)), .ref b]) (congrArg (fun z => F0 m 1341 ls [.int (xs z), .int (xs (i.toNatClampNeg + 1)), .ref b]) ejx112) ?_
  refine x_V (As := [.int (xs (i.toNatClampNeg + 1)), .int (xs (i.toNatClampNeg + 2))]) (rest := []) C (a_X10_blank l K G H103 ((xs (i.toNatClampNeg + 1))) ((xs (i.toNatClampNeg + 2))) hTH103 gb g105 g106 g107 g108) yo_X10_blank wM_L_140 ⟨⟨by decide, by decide⟩, show _ ≤ 284929 by omega, show _ ≤ 8247460 by omega⟩ (x_rv C hTH103 (ci := 10) rfl gb rg_112) rfl hl.1 rfl (Nat.le_of_ble_eq_true rfl) dL_law_1341 hSH103 (AE_new hN hSH103.1) (fun vH113 H113 locsH113 pH113 zH113 kH113 hSH113 => ?_)
  obtain ⟨x114, hvH113, g115, g116, g117, g118, mf119, hTH113⟩ := pH113
  subst hvH113
  have m120 := (m109).trans (fI_kept (x_lt hTH103 kH113 ga (by decide))).symm
  have m121 := (m110).trans (MF.i mf119 (k := 18) (by decide) (by decide)).symm
  refine W.eq (g2 := F0 m 1344 ls [.int x114]) rfl ?_
  refine lv_pop hx hb dL_law_1344 rfl ?_
  refine lv_goto (tgt := 1509) hx hb dL_law_1345 (by decide) ?_
  exact nx G H113 locsH113 _ _ ls ⟨hTH113, hN, ga, gb, g115, g116, g117, g118, (by rw [← m120, ← m121]; omega), hSH113⟩ hl (by omega) (by omega)