set_option maxRecDepth 100000 in
set_option maxHeartbeats 1000000 in
theorem lw_c0 {p : Program} {l : Launch} {e : Env} {s : State} {m : MethodId} {below : List Frame} {meth : Method} {c : Code} {K : KE} {b0 L : Nat} {xs : Nat → Int32} {G : Nat → Option Nat} {H : Heap} {locs : List Loc} {a b : Nat} {cells slots : Nat} {ls : Array Slot} {i : Int32} {n : Nat} (D : LC p K s m meth c b0 L xs) (S : SX K s G H locs a b) (hl : lv_has ls 4 [(3, .int i), (2, .ref b), (1, .ref a), (0, .ref b0)]) (hi : 0 ≤ i.toInt ∧ i.toInt + 6 ≤ L) (hn : n ≤ 511) (hc : cells ≤ 10000 + 434 * n) (hs : slots ≤ 200000 + 13027 * n) (nx : ∀ (G : Nat → Option Nat) (H : Heap) (locs : List Loc) (cells slots : Nat) (ls : Array Slot), SX K s G H locs a b → lv_has ls 4 [(3, .int i), (2, .ref b), (1, .ref a), (0, .ref b0)] → cells ≤ 10000 + 434 * (n + 1) → slots ≤ 200000 + 13027 * (n + 1) → W p l e room_1 s m #[Value.ref b0] below meth c H locs cells slots (lw_Z below #[Value.ref b0] s) (F0 m 1509 ls [])) : W p l e room_1 s m #[Value.ref b0] below meth c H locs cells slots (lw_Z below #[Value.ref b0] s) (F0 m 188 ls []) := by
  obtain ⟨C, hX, hbl, hL⟩ := id D
  obtain ⟨hx, hb, hml, hown, hts, hKT, hr, hlocks, hnm⟩ := id C
  obtain ⟨hT, hN, ga, gb, cg, tu, wd, im, rt, hS⟩ := S
  have n_1 : (1 : Int32).toInt = 1 := rfl
  obtain ⟨ta, eta⟩ : ∃ z : Int32, z = fI H a (K.1.2 9 3) := ⟨_, rfl⟩
  obtain ⟨tb, etb⟩ : ∃ z : Int32, z = fI H b (K.1.2 10 18) := ⟨_, rfl⟩
  rw [← eta, ← etb] at rt
  refine lv_aload_n hx hb dL_law_188 rfl (lv_at hl 2 rfl) ?_
  refine lv_aload_n hx hb dL_law_189 rfl (lv_at hl 3 rfl) ?_
  refine lv_iload_n hx hb dL_law_190 rfl (lv_at hl 0 rfl) ?_
  refine lv_iconst (v := 1) hx hb dL_law_191 (by decide) ?_
  refine lv_iadd hx hb dL_law_192 ?_
  refine lv_topi (fun x101 ex101 => ?_)
  have tx101 := i_add ex101 (by omega)
  have ejx101 : x101.toNatClampNeg = i.toNatClampNeg + 1 := by have h1 := i_cl (x := x101) (by omega); have h2 := i_cl (x := i) (by omega); omega
  refine va_sld hx hb hX hbl (Nat.not_le.mpr hbl) hS (vp_in_iff.mpr (by omega)) dL_law_193 ?_
  refine W.eq (g2 := F0 m 194 ls [.int (xs (i.toNatClampNeg + 1)), .ref a]) (congrArg (fun z => F0 m 194 ls [.int (xs z), .ref a]) ejx101) ?_
  refine x_V (As := [.int (xs (i.toNatClampNeg + 1))]) (rest := []) C (a_X9_bar l K G H ((xs (i.toNatClampNeg + 1))) hT ga) yo_X9_bar wM_L_13 ⟨⟨by decide, by decide⟩, show _ ≤ 284929 by omega, show _ ≤ 8247460 by omega⟩ (x_rv C hT (ci := 9) rfl ga rg_68) rfl hl.1 rfl (Nat.le_of_ble_eq_true rfl) dL_law_194 hS (AE_new hN hS.1) (fun vH102 H102 locsH102 pH102 zH102 kH102 hSH102 => ?_)
  obtain ⟨x103, hvH102, hTH102⟩ := pH102
  subst hvH102
  have g104 : CG (avw K H102 b) := CG.congr (fun k hk j => av_eff hT kH102 gb (by decide) (CG_eff [0, 1, 2, 3, 4, 5, 6, 15] (by decide) k hk)) cg
  have g105 : TU (avw K H102 b) (svw K H102 b) := TU.congr (fun k hk j => av_eff hT kH102 gb (by decide) (TU_eff [0, 1, 2, 3, 4, 5, 6, 15] (by decide) k hk)) (fun k hk => sv_eff hT kH102 gb (by decide)) tu
  have g106 : WD (avw K H102 b) := WD.congr (fun k hk j => av_eff hT kH102 gb (by decide) (WD_eff [0, 1, 2, 3, 4, 5, 6, 15] (by decide) k hk)) wd
  have g107 : IM (avw K H102 b) := IM.congr (fun k hk j => av_eff hT kH102 gb (by decide) (IM_eff [0, 1, 2, 3, 4, 5, 6, 15] (by decide) k hk)) im
  have m108 := (eta).trans (fI_kept (x_lt hT kH102 ga (by decide))).symm
  have m109 := (etb).trans (fI_kept (x_lt hT kH102 gb (by decide))).symm
  refine W.eq (g2 := F0 m 197 ls [.int x103]) rfl ?_
  refine lv_pop hx hb dL_law_197 rfl ?_
  refine lv_aload_n hx hb dL_law_198 rfl (lv_at hl 1 rfl) ?_
  refine lv_aload_n hx hb dL_law_199 rfl (lv_at hl 3 rfl) ?_
  refine lv_iload_n hx hb dL_law_200 rfl (lv_at hl 0 rfl) ?_
  refine lv_iconst (v := 1) hx hb dL_law_201 (by decide) ?_
  refine lv_iadd hx hb dL_law_202 ?_
  refine lv_topi (fun x110 ex110 => ?_)
  have tx110 := i_add ex110 (by omega)
  have ejx110 : x110.toNatClampNeg = i.toNatClampNeg + 1 := by have h1 := i_cl (x := x110) (by omega); have h2 := i_cl (x := i) (by omega); omega
  refine va_sld hx hb hX hbl (Nat.not_le.mpr hbl) hSH102 (vp_in_iff.mpr (by omega)) dL_law_203 ?_
  refine W.eq (g2 := F0 m 204 ls [.int (xs (i.toNatClampNeg + 1)), .ref b]) (congrArg (fun z => F0 m 204 ls [.int (xs z), .ref b]) ejx110) ?_
  obtain ⟨q111, eq111⟩ : ∃ z : Nat, z = fR H102 b (K.1.2 10 4) := ⟨_, rfl⟩
  have gq111 := ty_fr (q := q111) (k := 4) (u := 113) eq111 hTH102 gb rg_112 rfl
  obtain ⟨q112, eq112⟩ : ∃ z : Nat, z = fR H102 b (K.1.2 10 16) := ⟨_, rfl⟩
  have gq112 := ty_fr (q := q112) (k := 16) (u := 125) eq112 hTH102 gb rg_112 rfl
  obtain ⟨x113, ex113⟩ : ∃ z : Int32, z = fI H102 b (K.1.2 10 1) := ⟨_, rfl⟩
  have bx113 := ty_fi (x := x113) (k := 1) ex113 hTH102 gb rg_112 rfl
  refine x_V (As := [.int (xs (i.toNatClampNeg + 1))]) (rest := []) C (a_X10_bar l K G H102 ((xs (i.toNatClampNeg + 1))) (x113) hTH102 gb gq111 eq111 gq112 eq112 ex113 g104 g105 g106 g107) yo_X10_bar wM_L_17 ⟨⟨by decide, by decide⟩, show _ ≤ 284929 by omega, show _ ≤ 8247460 by omega⟩ (x_rv C hTH102 (ci := 10) rfl gb rg_112) rfl hl.1 rfl (Nat.le_of_ble_eq_true rfl) dL_law_204 hSH102 (AE_new hN hSH102.1) (fun vH114 H114 locsH114 pH114 zH114 kH114 hSH114 => ?_)
  obtain ⟨x115, x116, hvH114, ex116, m117, m118, g119, g120, g121, g122, mf123, hTH114⟩ := pH114
  subst hvH114
  have m124 := (m108).trans (fI_kept (x_lt hTH102 kH114 ga (by decide))).symm
  have m125 := (m109).trans (MF.i mf123 (k := 18) (by decide) (by decide)).symm
  have m126 := (eq111).trans (MF.r mf123 (k := 4) (by decide) (by decide)).symm
  have m127 := (eq112).trans (MF.r mf123 (k := 16) (by decide) (by decide)).symm
  have bx116 := ty_fi (x := x116) (k := 1) ex116 hTH114 gb rg_112 rfl
  refine W.eq (g2 := F0 m 207 ls [.int x115]) rfl ?_
  refine lv_pop hx hb dL_law_207 rfl ?_
  refine lv_goto (tgt := 1509) hx hb dL_law_208 (by decide) ?_
  exact nx G H114 locsH114 _ _ ls ⟨hTH114, hN, ga, gb, g119, g120, g121, g122, (by rw [← m124, ← m125]; omega), hSH114⟩ hl (by omega) (by omega)
set_option maxRecDepth 100000 in
set_option maxHeartbeats 1000000 in
theorem lw_c1 {p : Program} {l : Launch} {e : Env} {s : State} {m : MethodId} {below : List Frame} {meth : Method} {c : Code} {K : KE} {b0 L : Nat} {xs : Nat → Int32} {G : Nat → Option Nat} {H : Heap} {locs : List Loc} {a b : Nat} {cells slots : Nat} {ls : Array Slot} {i : Int32} {n : Nat} (D : LC p K s m meth c b0 L xs) (S : SX K s G H locs a b) (hl : lv_has ls 4 [(3, .int i), (2, .ref b), (1, .ref a), (0, .ref b0)]) (hi : 0 ≤ i.toInt ∧ i.toInt + 6 ≤ L) (hn : n ≤ 511) (hc : cells ≤ 10000 + 434 * n) (hs : slots ≤ 200000 + 13027 * n) (nx : ∀ (G : Nat → Option Nat) (H : Heap) (locs : List Loc) (cells slots : Nat) (ls : Array Slot), SX K s G H locs a b → lv_has ls 4 [(3, .int i), (2, .ref b), (1, .ref a), (0, .ref b0)] → cells ≤ 10000 + 434 * (n + 1) → slots ≤ 200000 + 13027 * (n + 1) → W p l e room_1 s m #[Value.ref b0] below meth c H locs cells slots (lw_Z below #[Value.ref b0] s) (F0 m 1509 ls [])) : W p l e room_1 s m #[Value.ref b0] below meth c H locs cells slots (lw_Z below #[Value.ref b0] s) (F0 m 211 ls []) := by
  obtain ⟨C, hX, hbl, hL⟩ := id D
  obtain ⟨hx, hb, hml, hown, hts, hKT, hr, hlocks, hnm⟩ := id C
  obtain ⟨hT, hN, ga, gb, cg, tu, wd, im, rt, hS⟩ := S
  have n_1 : (1 : Int32).toInt = 1 := rfl
  have n_2 : (2 : Int32).toInt = 2 := rfl
  have n_3 : (3 : Int32).toInt = 3 := rfl
  have n_4 : (4 : Int32).toInt = 4 := rfl
  have n_5 : (5 : Int32).toInt = 5 := rfl
  obtain ⟨ta, eta⟩ : ∃ z : Int32, z = fI H a (K.1.2 9 3) := ⟨_, rfl⟩
  obtain ⟨tb, etb⟩ : ∃ z : Int32, z = fI H b (K.1.2 10 18) := ⟨_, rfl⟩
  rw [← eta, ← etb] at rt
  refine lv_aload_n hx hb dL_law_211 rfl (lv_at hl 2 rfl) ?_
  refine lv_aload_n hx hb dL_law_212 rfl (lv_at hl 3 rfl) ?_
  refine lv_iload_n hx hb dL_law_213 rfl (lv_at hl 0 rfl) ?_
  refine lv_iconst (v := 1) hx hb dL_law_214 (by decide) ?_
  refine lv_iadd hx hb dL_law_215 ?_
  refine lv_topi (fun x101 ex101 => ?_)
  have tx101 := i_add ex101 (by omega)
  have ejx101 : x101.toNatClampNeg = i.toNatClampNeg + 1 := by have h1 := i_cl (x := x101) (by omega); have h2 := i_cl (x := i) (by omega); omega
  refine va_sld hx hb hX hbl (Nat.not_le.mpr hbl) hS (vp_in_iff.mpr (by omega)) dL_law_216 ?_
  refine W.eq (g2 := F0 m 217 ls [.int (xs (i.toNatClampNeg + 1)), .ref a]) (congrArg (fun z => F0 m 217 ls [.int (xs z), .ref a]) ejx101) ?_
  refine lv_aload_n hx hb dL_law_217 rfl (lv_at hl 3 rfl) ?_
  refine lv_iload_n hx hb dL_law_218 rfl (lv_at hl 0 rfl) ?_
  refine lv_iconst (v := 2) hx hb dL_law_219 (by decide) ?_
  refine lv_iadd hx hb dL_law_220 ?_
  refine lv_topi (fun x102 ex102 => ?_)
  have tx102 := i_add ex102 (by omega)
  have ejx102 : x102.toNatClampNeg = i.toNatClampNeg + 2 := by have h1 := i_cl (x := x102) (by omega); have h2 := i_cl (x := i) (by omega); omega
  refine va_sld hx hb hX hbl (Nat.not_le.mpr hbl) hS (vp_in_iff.mpr (by omega)) dL_law_221 ?_
  refine W.eq (g2 := F0 m 222 ls [.int (xs (i.toNatClampNeg + 2)), .int (xs (i.toNatClampNeg + 1)), .ref a]) (congrArg (fun z => F0 m 222 ls [.int (xs z), .int (xs (i.toNatClampNeg + 1)), .ref a]) ejx102) ?_
  refine lv_aload_n hx hb dL_law_222 rfl (lv_at hl 3 rfl) ?_
  refine lv_iload_n hx hb dL_law_223 rfl (lv_at hl 0 rfl) ?_
  refine lv_iconst (v := 3) hx hb dL_law_224 (by decide) ?_
  refine lv_iadd hx hb dL_law_225 ?_
  refine lv_topi (fun x103 ex103 => ?_)
  have tx103 := i_add ex103 (by omega)
  have ejx103 : x103.toNatClampNeg = i.toNatClampNeg + 3 := by have h1 := i_cl (x := x103) (by omega); have h2 := i_cl (x := i) (by omega); omega
  refine va_sld hx hb hX hbl (Nat.not_le.mpr hbl) hS (vp_in_iff.mpr (by omega)) dL_law_226 ?_
  refine W.eq (g2 := F0 m 227 ls [.int (xs (i.toNatClampNeg + 3)), .int (xs (i.toNatClampNeg + 2)), .int (xs (i.toNatClampNeg + 1)), .ref a]) (congrArg (fun z => F0 m 227 ls [.int (xs z), .int (xs (i.toNatClampNeg + 2)), .int (xs (i.toNatClampNeg + 1)), .ref a]) ejx103) ?_
  refine lv_aload_n hx hb dL_law_227 rfl (lv_at hl 3 rfl) ?_
  refine lv_iload_n hx hb dL_law_228 rfl (lv_at hl 0 rfl) ?_
  refine lv_iconst (v := 4) hx hb dL_law_229 (by decide) ?_
  refine lv_iadd hx hb dL_law_230 ?_
  refine lv_topi (fun x104 ex104 => ?_)
  have tx104 := i_add ex104 (by omega)
  have ejx104 : x104.toNatClampNeg = i.toNatClampNeg + 4 := by have h1 := i_cl (x := x104) (by omega); have h2 := i_cl (x := i) (by omega); omega
  refine va_sld hx hb hX hbl (Nat.not_le.mpr hbl) hS (vp_in_iff.mpr (by omega)) dL_law_231 ?_
  refine W.eq (g2 := F0 m 232 ls [.int (xs (i.toNatClampNeg + 4)), .int (xs (i.toNatClampNeg + 3)), .int (xs (i.toNatClampNeg + 2)), .int (xs (i.toNatClampNeg + 1)), .ref a]) (congrArg (fun z => F0 m 232 ls [.int (xs z), .int (xs (i.toNatClampNeg + 3)), .int (xs (i.toNatClampNeg + 2)), .int (xs (i.toNatClampNeg + 1)), .ref a]) ejx104) ?_
  refine lv_aload_n hx hb dL_law_232 rfl (lv_at hl 3 rfl) ?_
  refine lv_iload_n hx hb dL_law_233 rfl (lv_at hl 0 rfl) ?_
  refine lv_iconst (v := 5) hx hb dL_law_234 (by decide) ?_
  refine lv_iadd hx hb dL_law_235 ?_
  refine lv_topi (fun x105 ex105 => ?_)
  have tx105 := i_add ex105 (by omega)
  have ejx105 : x105.toNatClampNeg = i.toNatClampNeg + 5 := by have h1 := i_cl (x := x105) (by omega); have h2 := i_cl (x := i) (by omega); omega
  refine va_sld hx hb hX hbl (Nat.not_le.mpr hbl) hS (vp_in_iff.mpr (by omega)) dL_law_236 ?_
  refine W.eq (g2 := F0 m 237 ls [.int (xs (i.toNatClampNeg + 5)), .int (xs (i.toNatClampNeg + 4)), .int (xs (i.toNatClampNeg + 3)), .int (xs (i.toNatClampNeg + 2)), .int (xs (i.toNatClampNeg + 1)), .ref a]) (congrArg (fun z => F0 m 237 ls [.int (xs z), .int (xs (i.toNatClampNeg + 4)), .int (xs (i.toNatClampNeg + 3)), .int (xs (i.toNatClampNeg + 2)), .int (xs (i.toNatClampNeg + 1)), .ref a]) ejx105) ?_
  refine x_V (As := [.int (xs (i.toNatClampNeg + 1)), .int (xs (i.toNatClampNeg + 2)), .int (xs (i.toNatClampNeg + 3)), .int (xs (i.toNatClampNeg + 4)), .int (xs (i.toNatClampNeg + 5))]) (rest := []) C (a_X9_slice l K G H ((xs (i.toNatClampNeg + 1))) ((xs (i.toNatClampNeg + 2))) ((xs (i.toNatClampNeg + 3))) ((xs (i.toNatClampNeg + 4))) ((xs (i.toNatClampNeg + 5))) hT ga) yo_X9_slice wM_L_18 ⟨⟨by decide, by decide⟩, show _ ≤ 284929 by omega, show _ ≤ 8247460 by omega⟩ (x_rv C hT (ci := 9) rfl ga rg_68) rfl hl.1 rfl (Nat.le_of_ble_eq_true rfl) dL_law_237 hS (AE_new hN hS.1) (fun vH106 H106 locsH106 pH106 zH106 kH106 hSH106 => ?_)
  obtain ⟨x107, hvH106, bx107, hTH106⟩ := pH106
  subst hvH106
  have g108 : CG (avw K H106 b) := CG.congr (fun k hk j => av_eff hT kH106 gb (by decide) (CG_eff [2, 3, 4] (by decide) k hk)) cg
  have g109 : TU (avw K H106 b) (svw K H106 b) := TU.congr (fun k hk j => av_eff hT kH106 gb (by decide) (TU_eff [2, 3, 4] (by decide) k hk)) (fun k hk => sv_eff hT kH106 gb (by decide)) tu
  have g110 : WD (avw K H106 b) := WD.congr (fun k hk j => av_eff hT kH106 gb (by decide) (WD_eff [2, 3, 4] (by decide) k hk)) wd
  have g111 : IM (avw K H106 b) := IM.congr (fun k hk j => av_eff hT kH106 gb (by decide) (IM_eff [2, 3, 4] (by decide) k hk)) im
  have m112 := (eta).trans (fI_kept (x_lt hT kH106 ga (by decide))).symm
  have m113 := (etb).trans (fI_kept (x_lt hT kH106 gb (by decide))).symm
  refine W.eq (g2 := F0 m 240 ls [.int x107]) rfl ?_
  refine lv_pop hx hb dL_law_240 rfl ?_
  refine lv_aload_n hx hb dL_law_241 rfl (lv_at hl 1 rfl) ?_
  refine lv_aload_n hx hb dL_law_242 rfl (lv_at hl 3 rfl) ?_
  refine lv_iload_n hx hb dL_law_243 rfl (lv_at hl 0 rfl) ?_
  refine lv_iconst (v := 1) hx hb dL_law_244 (by decide) ?_
  refine lv_iadd hx hb dL_law_245 ?_
  refine lv_topi (fun x114 ex114 => ?_)
  have tx114 := i_add ex114 (by omega)
  have ejx114 : x114.toNatClampNeg = i.toNatClampNeg + 1 := by have h1 := i_cl (x := x114) (by omega); have h2 := i_cl (x := i) (by omega); omega
  refine va_sld hx hb hX hbl (Nat.not_le.mpr hbl) hSH106 (vp_in_iff.mpr (by omega)) dL_law_246 ?_
  refine W.eq (g2 := F0 m 247 ls [.int (xs (i.toNatClampNeg + 1)), .ref b]) (congrArg (fun z => F0 m 247 ls [.int (xs z), .ref b]) ejx114) ?_
  refine lv_aload_n hx hb dL_law_247 rfl (lv_at hl 3 rfl) ?_
  refine lv_iload_n hx hb dL_law_248 rfl (lv_at hl 0 rfl) ?_
  refine lv_iconst (v := 2) hx hb dL_law_249 (by decide) ?_
  refine lv_iadd hx hb dL_law_250 ?_
  refine lv_topi (fun x115 ex115 => ?_)
  have tx115 := i_add ex115 (by omega)
  have ejx115 : x115.toNatClampNeg = i.toNatClampNeg + 2 := by have h1 := i_cl (x := x115) (by omega); have h2 := i_cl (x := i) (by omega); omega
  refine va_sld hx hb hX hbl (Nat.not_le.mpr hbl) hSH106 (vp_in_iff.mpr (by omega)) dL_law_251 ?_
  refine W.eq (g2 := F0 m 252 ls [.int (xs (i.toNatClampNeg + 2)), .int (xs (i.toNatClampNeg + 1)), .ref b]) (congrArg (fun z => F0 m 252 ls [.int (xs z), .int (xs (i.toNatClampNeg + 1)), .ref b]) ejx115) ?_
  refine lv_aload_n hx hb dL_law_252 rfl (lv_at hl 3 rfl) ?_
  refine lv_iload_n hx hb dL_law_253 rfl (lv_at hl 0 rfl) ?_
  refine lv_iconst (v := 3) hx hb dL_law_254 (by decide) ?_
  refine lv_iadd hx hb dL_law_255 ?_
  refine lv_topi (fun x116 ex116 => ?_)
  have tx116 := i_add ex116 (by omega)
  have ejx116 : x116.toNatClampNeg = i.toNatClampNeg + 3 := by have h1 := i_cl (x := x116) (by omega); have h2 := i_cl (x := i) (by omega); omega
  refine va_sld hx hb hX hbl (Nat.not_le.mpr hbl) hSH106 (vp_in_iff.mpr (by omega)) dL_law_256 ?_
  refine W.eq (g2 := F0 m 257 ls [.int (xs (i.toNatClampNeg + 3)), .int (xs (i.toNatClampNeg + 2)), .int (xs (i.toNatClampNeg + 1)), .ref b]) (congrArg (fun z => F0 m 257 ls [.int (xs z), .int (xs (i.toNatClampNeg + 2)), .int (xs (i.toNatClampNeg + 1)), .ref b]) ejx116) ?_
  refine lv_aload_n hx hb dL_law_257 rfl (lv_at hl 3 rfl) ?_
  refine lv_iload_n hx hb dL_law_258 rfl (lv_at hl 0 rfl) ?_
  refine lv_iconst (v := 4) hx hb dL_law_259 (by decide) ?_
  refine lv_iadd hx hb dL_law_260 ?_
  refine lv_topi (fun x117 ex117 => ?_)
  have tx117 := i_add ex117 (by omega)
  have ejx117 : x117.toNatClampNeg = i.toNatClampNeg + 4 := by have h1 := i_cl (x := x117) (by omega); have h2 := i_cl (x := i) (by omega); omega
  refine va_sld hx hb hX hbl (Nat.not_le.mpr hbl) hSH106 (vp_in_iff.mpr (by omega)) dL_law_261 ?_
  refine W.eq (g2 := F0 m 262 ls [.int (xs (i.toNatClampNeg + 4)), .int (xs (i.toNatClampNeg + 3)), .int (xs (i.toNatClampNeg + 2)), .int (xs (i.toNatClampNeg + 1)), .ref b]) (congrArg (fun z => F0 m 262 ls [.int (xs z), .int (xs (i.toNatClampNeg + 3)), .int (xs (i.toNatClampNeg + 2)), .int (xs (i.toNatClampNeg + 1)), .ref b]) ejx117) ?_
  refine lv_aload_n hx hb dL_law_262 rfl (lv_at hl 3 rfl) ?_
  refine lv_iload_n hx hb dL_law_263 rfl (lv_at hl 0 rfl) ?_
  refine lv_iconst (v := 5) hx hb dL_law_264 (by decide) ?_
  refine lv_iadd hx hb dL_law_265 ?_
  refine lv_topi (fun x118 ex118 => ?_)
  have tx118 := i_add ex118 (by omega)
  have ejx118 : x118.toNatClampNeg = i.toNatClampNeg + 5 := by have h1 := i_cl (x := x118) (by omega); have h2 := i_cl (x := i) (by omega); omega
  refine va_sld hx hb hX hbl (Nat.not_le.mpr hbl) hSH106 (vp_in_iff.mpr (by omega)) dL_law_266 ?_
  refine W.eq (g2 := F0 m 267 ls [.int (xs (i.toNatClampNeg + 5)), .int (xs (i.toNatClampNeg + 4)), .int (xs (i.toNatClampNeg + 3)), .int (xs (i.toNatClampNeg + 2)), .int (xs (i.toNatClampNeg + 1)), .ref b]) (congrArg (fun z => F0 m 267 ls [.int (xs z), .int (xs (i.toNatClampNeg + 4)), .int (xs (i.toNatClampNeg + 3)), .int (xs (i.toNatClampNeg + 2)), .int (xs (i.toNatClampNeg + 1)), .ref b]) ejx118) ?_
  refine x_V (As := [.int (xs (i.toNatClampNeg + 1)), .int (xs (i.toNatClampNeg + 2)), .int (xs (i.toNatClampNeg + 3)), .int (xs (i.toNatClampNeg + 4)), .int (xs (i.toNatClampNeg + 5))]) (rest := []) C (a_X10_slice l K G H106 ((xs (i.toNatClampNeg + 1))) ((xs (i.toNatClampNeg + 2))) ((xs (i.toNatClampNeg + 3))) ((xs (i.toNatClampNeg + 4))) ((xs (i.toNatClampNeg + 5))) hTH106 gb g108 g109 g110 g111) yo_X10_slice wM_L_22 ⟨⟨by decide, by decide⟩, show _ ≤ 284929 by omega, show _ ≤ 8247460 by omega⟩ (x_rv C hTH106 (ci := 10) rfl gb rg_112) rfl hl.1 rfl (Nat.le_of_ble_eq_true rfl) dL_law_267 hSH106 (AE_new hN hSH106.1) (fun vH119 H119 locsH119 pH119 zH119 kH119 hSH119 => ?_)
  obtain ⟨x120, hvH119, bx120, g121, g122, g123, g124, mf125, hTH119⟩ := pH119
  subst hvH119
  have m126 := (m112).trans (fI_kept (x_lt hTH106 kH119 ga (by decide))).symm
  have m127 := (m113).trans (MF.i mf125 (k := 18) (by decide) (by decide)).symm
  refine W.eq (g2 := F0 m 270 ls [.int x120]) rfl ?_
  refine lv_pop hx hb dL_law_270 rfl ?_
  refine lv_goto (tgt := 1509) hx hb dL_law_271 (by decide) ?_
  exact nx G H119 locsH119 _ _ ls ⟨hTH119, hN, ga, gb, g121, g122, g123, g124, (by rw [← m126, ← m127]; omega), hSH119⟩ hl (by omega) (by omega)
set_option maxRecDepth 100000 in
set_option maxHeartbeats 1000000 in
theorem lw_c2 {p : Program} {l : Launch} {e : Env} {s : State} {m : MethodId} {below : List Frame} {meth : Method} {c : Code} {K : KE} {b0 L : Nat} {xs : Nat → Int32} {G : Nat → Option Nat} {H : Heap} {locs : List Loc} {a b : Nat} {cells slots : Nat} {ls : Array Slot} {i : Int32} {n : Nat} (D : LC p K s m meth c b0 L xs) (S : SX K s G H locs a b) (hl : lv_has ls 4 [(3, .int i), (2, .ref b), (1, .ref a), (0, .ref b0)]) (hi : 0 ≤ i.toInt ∧ i.toInt + 6 ≤ L) (hn : n ≤ 511) (hc : cells ≤ 10000 + 434 * n) (hs : slots ≤ 200000 + 13027 * n) (nx : ∀ (G : Nat → Option Nat) (H : Heap) (locs : List Loc) (cells slots : Nat) (ls : Array Slot), SX K s G H locs a b → lv_has ls 4 [(3, .int i), (2, .ref b), (1, .ref a), (0, .ref b0)] → cells ≤ 10000 + 434 * (n + 1) → slots ≤ 200000 + 13027 * (n + 1) → W p l e room_1 s m #[Value.ref b0] below meth c H locs cells slots (lw_Z below #[Value.ref b0] s) (F0 m 1509 ls [])) : W p l e room_1 s m #[Value.ref b0] below meth c H locs cells slots (lw_Z below #[Value.ref b0] s) (F0 m 274 ls []) := by
  obtain ⟨C, hX, hbl, hL⟩ := id D
  obtain ⟨hx, hb, hml, hown, hts, hKT, hr, hlocks, hnm⟩ := id C
  obtain ⟨hT, hN, ga, gb, cg, tu, wd, im, rt, hS⟩ := S
  have n_1 : (1 : Int32).toInt = 1 := rfl
  have n_2 : (2 : Int32).toInt = 2 := rfl
  have n_3 : (3 : Int32).toInt = 3 := rfl
  obtain ⟨ta, eta⟩ : ∃ z : Int32, z = fI H a (K.1.2 9 3) := ⟨_, rfl⟩
  obtain ⟨tb, etb⟩ : ∃ z : Int32, z = fI H b (K.1.2 10 18) := ⟨_, rfl⟩
  rw [← eta, ← etb] at rt
  refine lv_aload_n hx hb dL_law_274 rfl (lv_at hl 2 rfl) ?_
  refine lv_aload_n hx hb dL_law_275 rfl (lv_at hl 3 rfl) ?_
  refine lv_iload_n hx hb dL_law_276 rfl (lv_at hl 0 rfl) ?_
  refine lv_iconst (v := 1) hx hb dL_law_277 (by decide) ?_
  refine lv_iadd hx hb dL_law_278 ?_
  refine lv_topi (fun x101 ex101 => ?_)
  have tx101 := i_add ex101 (by omega)
  have ejx101 : x101.toNatClampNeg = i.toNatClampNeg + 1 := by have h1 := i_cl (x := x101) (by omega); have h2 := i_cl (x := i) (by omega); omega
  refine va_sld hx hb hX hbl (Nat.not_le.mpr hbl) hS (vp_in_iff.mpr (by omega)) dL_law_279 ?_
  refine W.eq (g2 := F0 m 280 ls [.int (xs (i.toNatClampNeg + 1)), .ref a]) (congrArg (fun z => F0 m 280 ls [.int (xs z), .ref a]) ejx101) ?_
  refine lv_aload_n hx hb dL_law_280 rfl (lv_at hl 3 rfl) ?_
  refine lv_iload_n hx hb dL_law_281 rfl (lv_at hl 0 rfl) ?_
  refine lv_iconst (v := 2) hx hb dL_law_282 (by decide) ?_
  refine lv_iadd hx hb dL_law_283 ?_
  refine lv_topi (fun x102 ex102 => ?_)
  have tx102 := i_add ex102 (by omega)
  have ejx102 : x102.toNatClampNeg = i.toNatClampNeg + 2 := by have h1 := i_cl (x := x102) (by omega); have h2 := i_cl (x := i) (by omega); omega
  refine va_sld hx hb hX hbl (Nat.not_le.mpr hbl) hS (vp_in_iff.mpr (by omega)) dL_law_284 ?_
  refine W.eq (g2 := F0 m 285 ls [.int (xs (i.toNatClampNeg + 2)), .int (xs (i.toNatClampNeg + 1)), .ref a]) (congrArg (fun z => F0 m 285 ls [.int (xs z), .int (xs (i.toNatClampNeg + 1)), .ref a]) ejx102) ?_
  refine lv_aload_n hx hb dL_law_285 rfl (lv_at hl 3 rfl) ?_
  refine lv_iload_n hx hb dL_law_286 rfl (lv_at hl 0 rfl) ?_
  refine lv_iconst (v := 3) hx hb dL_law_287 (by decide) ?_
  refine lv_iadd hx hb dL_law_288 ?_
  refine lv_topi (fun x103 ex103 => ?_)
  have tx103 := i_add ex103 (by omega)
  have ejx103 : x103.toNatClampNeg = i.toNatClampNeg + 3 := by have h1 := i_cl (x := x103) (by omega); have h2 := i_cl (x := i) (by omega); omega
  refine va_sld hx hb hX hbl (Nat.not_le.mpr hbl) hS (vp_in_iff.mpr (by omega)) dL_law_289 ?_
  refine W.eq (g2 := F0 m 290 ls [.int (xs (i.toNatClampNeg + 3)), .int (xs (i.toNatClampNeg + 2)), .int (xs (i.toNatClampNeg + 1)), .ref a]) (congrArg (fun z => F0 m 290 ls [.int (xs z), .int (xs (i.toNatClampNeg + 2)), .int (xs (i.toNatClampNeg + 1)), .ref a]) ejx103) ?_
  refine x_V (As := [.int (xs (i.toNatClampNeg + 1)), .int (xs (i.toNatClampNeg + 2)), .int (xs (i.toNatClampNeg + 3))]) (rest := []) C (a_X9_wax l K G H ((xs (i.toNatClampNeg + 1))) ((xs (i.toNatClampNeg + 2))) ((xs (i.toNatClampNeg + 3))) hT ga) yo_X9_wax wM_L_23 ⟨⟨by decide, by decide⟩, show _ ≤ 284929 by omega, show _ ≤ 8247460 by omega⟩ (x_rv C hT (ci := 9) rfl ga rg_68) rfl hl.1 rfl (Nat.le_of_ble_eq_true rfl) dL_law_290 hS (AE_new hN hS.1) (fun vH104 H104 locsH104 pH104 zH104 kH104 hSH104 => ?_)
  obtain ⟨x105, hvH104, bx105, hTH104⟩ := pH104
  subst hvH104
  have g106 : CG (avw K H104 b) := CG.congr (fun k hk j => av_eff hT kH104 gb (by decide) (CG_eff [5] (by decide) k hk)) cg
  have g107 : TU (avw K H104 b) (svw K H104 b) := TU.congr (fun k hk j => av_eff hT kH104 gb (by decide) (TU_eff [5] (by decide) k hk)) (fun k hk => sv_eff hT kH104 gb (by decide)) tu
  have g108 : WD (avw K H104 b) := WD.congr (fun k hk j => av_eff hT kH104 gb (by decide) (WD_eff [5] (by decide) k hk)) wd
  have g109 : IM (avw K H104 b) := IM.congr (fun k hk j => av_eff hT kH104 gb (by decide) (IM_eff [5] (by decide) k hk)) im
  have m110 := (eta).trans (fI_kept (x_lt hT kH104 ga (by decide))).symm
  have m111 := (etb).trans (fI_kept (x_lt hT kH104 gb (by decide))).symm
  refine W.eq (g2 := F0 m 293 ls [.int x105]) rfl ?_
  refine lv_pop hx hb dL_law_293 rfl ?_
  refine lv_aload_n hx hb dL_law_294 rfl (lv_at hl 1 rfl) ?_
  refine lv_aload_n hx hb dL_law_295 rfl (lv_at hl 3 rfl) ?_
  refine lv_iload_n hx hb dL_law_296 rfl (lv_at hl 0 rfl) ?_
  refine lv_iconst (v := 1) hx hb dL_law_297 (by decide) ?_
  refine lv_iadd hx hb dL_law_298 ?_
  refine lv_topi (fun x112 ex112 => ?_)
  have tx112 := i_add ex112 (by omega)
  have ejx112 : x112.toNatClampNeg = i.toNatClampNeg + 1 := by have h1 := i_cl (x := x112) (by omega); have h2 := i_cl (x := i) (by omega); omega
  refine va_sld hx hb hX hbl (Nat.not_le.mpr hbl) hSH104 (vp_in_iff.mpr (by omega)) dL_law_299 ?_
  refine W.eq (g2 := F0 m 300 ls [.int (xs (i.toNatClampNeg + 1)), .ref b]) (congrArg (fun z => F0 m 300 ls [.int (xs z), .ref b]) ejx112) ?_
  refine lv_aload_n hx hb dL_law_300 rfl (lv_at hl 3 rfl) ?_
  refine lv_iload_n hx hb dL_law_301 rfl (lv_at hl 0 rfl) ?_
  refine lv_iconst (v := 2) hx hb dL_law_302 (by decide) ?_
  refine lv_iadd hx hb dL_law_303 ?_
  refine lv_topi (fun x113 ex113 => ?_)
  have tx113 := i_add ex113 (by omega)
  have ejx113 : x113.toNatClampNeg = i.toNatClampNeg + 2 := by have h1 := i_cl (x := x113) (by omega); have h2 := i_cl (x := i) (by omega); omega
  refine va_sld hx hb hX hbl (Nat.not_le.mpr hbl) hSH104 (vp_in_iff.mpr (by omega)) dL_law_304 ?_
  refine W.eq (g2 := F0 m 305 ls [.int (xs (i.toNatClampNeg + 2)), .int (xs (i.toNatClampNeg + 1)), .ref b]) (congrArg (fun z => F0 m 305 ls [.int (xs z), .int (xs (i.toNatClampNeg + 1)), .ref b]) ejx113) ?_
  refine lv_aload_n hx hb dL_law_305 rfl (lv_at hl 3 rfl) ?_
  refine lv_iload_n hx hb dL_law_306 rfl (lv_at hl 0 rfl) ?_
  refine lv_iconst (v := 3) hx hb dL_law_307 (by decide) ?_
  refine lv_iadd hx hb dL_law_308 ?_
  refine lv_topi (fun x114 ex114 => ?_)
  have tx114 := i_add ex114 (by omega)
  have ejx114 : x114.toNatClampNeg = i.toNatClampNeg + 3 := by have h1 := i_cl (x := x114) (by omega); have h2 := i_cl (x := i) (by omega); omega
  refine va_sld hx hb hX hbl (Nat.not_le.mpr hbl) hSH104 (vp_in_iff.mpr (by omega)) dL_law_309 ?_
  refine W.eq (g2 := F0 m 310 ls [.int (xs (i.toNatClampNeg + 3)), .int (xs (i.toNatClampNeg + 2)), .int (xs (i.toNatClampNeg + 1)), .ref b]) (congrArg (fun z => F0 m 310 ls [.int (xs z), .int (xs (i.toNatClampNeg + 2)), .int (xs (i.toNatClampNeg + 1)), .ref b]) ejx114) ?_
  refine x_V (As := [.int (xs (i.toNatClampNeg + 1)), .int (xs (i.toNatClampNeg + 2)), .int (xs (i.toNatClampNeg + 3))]) (rest := []) C (a_X10_wax l K G H104 ((xs (i.toNatClampNeg + 1))) ((xs (i.toNatClampNeg + 2))) ((xs (i.toNatClampNeg + 3))) hTH104 gb g106 g107 g108 g109) yo_X10_wax wM_L_27 ⟨⟨by decide, by decide⟩, show _ ≤ 284929 by omega, show _ ≤ 8247460 by omega⟩ (x_rv C hTH104 (ci := 10) rfl gb rg_112) rfl hl.1 rfl (Nat.le_of_ble_eq_true rfl) dL_law_310 hSH104 (AE_new hN hSH104.1) (fun vH115 H115 locsH115 pH115 zH115 kH115 hSH115 => ?_)
  obtain ⟨x116, hvH115, bx116, g117, g118, g119, g120, mf121, hTH115⟩ := pH115
  subst hvH115
  have m122 := (m110).trans (fI_kept (x_lt hTH104 kH115 ga (by decide))).symm
  have m123 := (m111).trans (MF.i mf121 (k := 18) (by decide) (by decide)).symm
  refine W.eq (g2 := F0 m 313 ls [.int x116]) rfl ?_
  refine lv_pop hx hb dL_law_313 rfl ?_
  refine lv_goto (tgt := 1509) hx hb dL_law_314 (by decide) ?_
  exact nx G H115 locsH115 _ _ ls ⟨hTH115, hN, ga, gb, g117, g118, g119, g120, (by rw [← m122, ← m123]; omega), hSH115⟩ hl (by omega) (by omega)
set_option maxRecDepth 100000 in
set_option maxHeartbeats 1000000 in
theorem lw_c3 {p : Program} {l : Launch} {e : Env} {s : State} {m : MethodId} {below : List Frame} {meth : Method} {c : Code} {K : KE} {b0 L : Nat} {xs : Nat → Int32} {G : Nat → Option Nat} {H : Heap} {locs : List Loc} {a b : Nat} {cells slots : Nat} {ls : Array Slot} {i : Int32} {n : Nat} (D : LC p K s m meth c b0 L xs) (S : SX K s G H locs a b) (hl : lv_has ls 4 [(3, .int i), (2, .ref b), (1, .ref a), (0, .ref b0)]) (hi : 0 ≤ i.toInt ∧ i.toInt + 6 ≤ L) (hn : n ≤ 511) (hc : cells ≤ 10000 + 434 * n) (hs : slots ≤ 200000 + 13027 * n) (nx : ∀ (G : Nat → Option Nat) (H : Heap) (locs : List Loc) (cells slots : Nat) (ls : Array Slot), SX K s G H locs a b → lv_has ls 4 [(3, .int i), (2, .ref b), (1, .ref a), (0, .ref b0)] → cells ≤ 10000 + 434 * (n + 1) → slots ≤ 200000 + 13027 * (n + 1) → W p l e room_1 s m #[Value.ref b0] below meth c H locs cells slots (lw_Z below #[Value.ref b0] s) (F0 m 1509 ls [])) : W p l e room_1 s m #[Value.ref b0] below meth c H locs cells slots (lw_Z below #[Value.ref b0] s) (F0 m 317 ls []) := by
  obtain ⟨C, hX, hbl, hL⟩ := id D
  obtain ⟨hx, hb, hml, hown, hts, hKT, hr, hlocks, hnm⟩ := id C
  obtain ⟨hT, hN, ga, gb, cg, tu, wd, im, rt, hS⟩ := S
  have n_1 : (1 : Int32).toInt = 1 := rfl
  have n_2 : (2 : Int32).toInt = 2 := rfl
  have n_3 : (3 : Int32).toInt = 3 := rfl
  obtain ⟨ta, eta⟩ : ∃ z : Int32, z = fI H a (K.1.2 9 3) := ⟨_, rfl⟩
  obtain ⟨tb, etb⟩ : ∃ z : Int32, z = fI H b (K.1.2 10 18) := ⟨_, rfl⟩
  rw [← eta, ← etb] at rt
  refine lv_aload_n hx hb dL_law_317 rfl (lv_at hl 2 rfl) ?_
  refine lv_aload_n hx hb dL_law_318 rfl (lv_at hl 3 rfl) ?_
  refine lv_iload_n hx hb dL_law_319 rfl (lv_at hl 0 rfl) ?_
  refine lv_iconst (v := 1) hx hb dL_law_320 (by decide) ?_
  refine lv_iadd hx hb dL_law_321 ?_
  refine lv_topi (fun x101 ex101 => ?_)
  have tx101 := i_add ex101 (by omega)
  have ejx101 : x101.toNatClampNeg = i.toNatClampNeg + 1 := by have h1 := i_cl (x := x101) (by omega); have h2 := i_cl (x := i) (by omega); omega
  refine va_sld hx hb hX hbl (Nat.not_le.mpr hbl) hS (vp_in_iff.mpr (by omega)) dL_law_322 ?_
  refine W.eq (g2 := F0 m 323 ls [.int (xs (i.toNatClampNeg + 1)), .ref a]) (congrArg (fun z => F0 m 323 ls [.int (xs z), .ref a]) ejx101) ?_
  refine lv_aload_n hx hb dL_law_323 rfl (lv_at hl 3 rfl) ?_
  refine lv_iload_n hx hb dL_law_324 rfl (lv_at hl 0 rfl) ?_
  refine lv_iconst (v := 2) hx hb dL_law_325 (by decide) ?_
  refine lv_iadd hx hb dL_law_326 ?_
  refine lv_topi (fun x102 ex102 => ?_)
  have tx102 := i_add ex102 (by omega)
  have ejx102 : x102.toNatClampNeg = i.toNatClampNeg + 2 := by have h1 := i_cl (x := x102) (by omega); have h2 := i_cl (x := i) (by omega); omega
  refine va_sld hx hb hX hbl (Nat.not_le.mpr hbl) hS (vp_in_iff.mpr (by omega)) dL_law_327 ?_
  refine W.eq (g2 := F0 m 328 ls [.int (xs (i.toNatClampNeg + 2)), .int (xs (i.toNatClampNeg + 1)), .ref a]) (congrArg (fun z => F0 m 328 ls [.int (xs z), .int (xs (i.toNatClampNeg + 1)), .ref a]) ejx102) ?_
  refine lv_aload_n hx hb dL_law_328 rfl (lv_at hl 3 rfl) ?_
  refine lv_iload_n hx hb dL_law_329 rfl (lv_at hl 0 rfl) ?_
  refine lv_iconst (v := 3) hx hb dL_law_330 (by decide) ?_
  refine lv_iadd hx hb dL_law_331 ?_
  refine lv_topi (fun x103 ex103 => ?_)
  have tx103 := i_add ex103 (by omega)
  have ejx103 : x103.toNatClampNeg = i.toNatClampNeg + 3 := by have h1 := i_cl (x := x103) (by omega); have h2 := i_cl (x := i) (by omega); omega
  refine va_sld hx hb hX hbl (Nat.not_le.mpr hbl) hS (vp_in_iff.mpr (by omega)) dL_law_332 ?_
  refine W.eq (g2 := F0 m 333 ls [.int (xs (i.toNatClampNeg + 3)), .int (xs (i.toNatClampNeg + 2)), .int (xs (i.toNatClampNeg + 1)), .ref a]) (congrArg (fun z => F0 m 333 ls [.int (xs z), .int (xs (i.toNatClampNeg + 2)), .int (xs (i.toNatClampNeg + 1)), .ref a]) ejx103) ?_
  refine x_V (As := [.int (xs (i.toNatClampNeg + 1)), .int (xs (i.toNatClampNeg + 2)), .int (xs (i.toNatClampNeg + 3))]) (rest := []) C (a_X9_of l K G H ((xs (i.toNatClampNeg + 1))) ((xs (i.toNatClampNeg + 2))) ((xs (i.toNatClampNeg + 3))) hT ga) yo_X9_of wM_L_28 ⟨⟨by decide, by decide⟩, show _ ≤ 284929 by omega, show _ ≤ 8247460 by omega⟩ (x_rv C hT (ci := 9) rfl ga rg_68) rfl hl.1 rfl (Nat.le_of_ble_eq_true rfl) dL_law_333 hS (AE_new hN hS.1) (fun vH104 H104 locsH104 pH104 zH104 kH104 hSH104 => ?_)
  obtain ⟨x105, hvH104, hTH104⟩ := pH104
  subst hvH104
  have g106 : CG (avw K H104 b) := CG.congr (fun k hk j => av_eff hT kH104 gb (by decide) (CG_eff [] (by decide) k hk)) cg
  have g107 : TU (avw K H104 b) (svw K H104 b) := TU.congr (fun k hk j => av_eff hT kH104 gb (by decide) (TU_eff [] (by decide) k hk)) (fun k hk => sv_eff hT kH104 gb (by decide)) tu
  have g108 : WD (avw K H104 b) := WD.congr (fun k hk j => av_eff hT kH104 gb (by decide) (WD_eff [] (by decide) k hk)) wd
  have g109 : IM (avw K H104 b) := IM.congr (fun k hk j => av_eff hT kH104 gb (by decide) (IM_eff [] (by decide) k hk)) im
  have m110 := (eta).trans (fI_kept (x_lt hT kH104 ga (by decide))).symm
  have m111 := (etb).trans (fI_kept (x_lt hT kH104 gb (by decide))).symm
  refine W.eq (g2 := F0 m 336 ls [.int x105]) rfl ?_
  refine lv_pop hx hb dL_law_336 rfl ?_
  refine lv_aload_n hx hb dL_law_337 rfl (lv_at hl 1 rfl) ?_
  refine lv_aload_n hx hb dL_law_338 rfl (lv_at hl 3 rfl) ?_
  refine lv_iload_n hx hb dL_law_339 rfl (lv_at hl 0 rfl) ?_
  refine lv_iconst (v := 1) hx hb dL_law_340 (by decide) ?_
  refine lv_iadd hx hb dL_law_341 ?_
  refine lv_topi (fun x112 ex112 => ?_)
  have tx112 := i_add ex112 (by omega)
  have ejx112 : x112.toNatClampNeg = i.toNatClampNeg + 1 := by have h1 := i_cl (x := x112) (by omega); have h2 := i_cl (x := i) (by omega); omega
  refine va_sld hx hb hX hbl (Nat.not_le.mpr hbl) hSH104 (vp_in_iff.mpr (by omega)) dL_law_342 ?_
  refine W.eq (g2 := F0 m 343 ls [.int (xs (i.toNatClampNeg + 1)), .ref b]) (congrArg (fun z => F0 m 343 ls [.int (xs z), .ref b]) ejx112) ?_
  refine lv_aload_n hx hb dL_law_343 rfl (lv_at hl 3 rfl) ?_
  refine lv_iload_n hx hb dL_law_344 rfl (lv_at hl 0 rfl) ?_
  refine lv_iconst (v := 2) hx hb dL_law_345 (by decide) ?_
  refine lv_iadd hx hb dL_law_346 ?_
  refine lv_topi (fun x113 ex113 => ?_)
  have tx113 := i_add ex113 (by omega)
  have ejx113 : x113.toNatClampNeg = i.toNatClampNeg + 2 := by have h1 := i_cl (x := x113) (by omega); have h2 := i_cl (x := i) (by omega); omega
  refine va_sld hx hb hX hbl (Nat.not_le.mpr hbl) hSH104 (vp_in_iff.mpr (by omega)) dL_law_347 ?_
  refine W.eq (g2 := F0 m 348 ls [.int (xs (i.toNatClampNeg + 2)), .int (xs (i.toNatClampNeg + 1)), .ref b]) (congrArg (fun z => F0 m 348 ls [.int (xs z), .int (xs (i.toNatClampNeg + 1)), .ref b]) ejx113) ?_
  refine lv_aload_n hx hb dL_law_348 rfl (lv_at hl 3 rfl) ?_
  refine lv_iload_n hx hb dL_law_349 rfl (lv_at hl 0 rfl) ?_
  refine lv_iconst (v := 3) hx hb dL_law_350 (by decide) ?_
  refine lv_iadd hx hb dL_law_351 ?_
  refine lv_topi (fun x114 ex114 => ?_)
  have tx114 := i_add ex114 (by omega)
  have ejx114 : x114.toNatClampNeg = i.toNatClampNeg + 3 := by have h1 := i_cl (x := x114) (by omega); have h2 := i_cl (x := i) (by omega); omega
  refine va_sld hx hb hX hbl (Nat.not_le.mpr hbl) hSH104 (vp_in_iff.mpr (by omega)) dL_law_352 ?_
  refine W.eq (g2 := F0 m 353 ls [.int (xs (i.toNatClampNeg + 3)), .int (xs (i.toNatClampNeg + 2)), .int (xs (i.toNatClampNeg + 1)), .ref b]) (congrArg (fun z => F0 m 353 ls [.int (xs z), .int (xs (i.toNatClampNeg + 2)), .int (xs (i.toNatClampNeg + 1)), .ref b]) ejx114) ?_
  refine x_V (As := [.int (xs (i.toNatClampNeg + 1)), .int (xs (i.toNatClampNeg + 2)), .int (xs (i.toNatClampNeg + 3))]) (rest := []) C (a_X10_of l K G H104 ((xs (i.toNatClampNeg + 1))) ((xs (i.toNatClampNeg + 2))) ((xs (i.toNatClampNeg + 3))) hTH104 gb g106 g107 g108 g109) yo_X10_of wM_L_32 ⟨⟨by decide, by decide⟩, show _ ≤ 284929 by omega, show _ ≤ 8247460 by omega⟩ (x_rv C hTH104 (ci := 10) rfl gb rg_112) rfl hl.1 rfl (Nat.le_of_ble_eq_true rfl) dL_law_353 hSH104 (AE_new hN hSH104.1) (fun vH115 H115 locsH115 pH115 zH115 kH115 hSH115 => ?_)
  obtain ⟨x116, hvH115, g117, g118, g119, g120, mf121, hTH115⟩ := pH115
  subst hvH115
  have m122 := (m110).trans (fI_kept (x_lt hTH104 kH115 ga (by decide))).symm
  have m123 := (m111).trans (MF.i mf121 (k := 18) (by decide) (by decide)).symm
  refine W.eq (g2 := F0 m 356 ls [.int x116]) rfl ?_
  refine lv_pop hx hb dL_law_356 rfl ?_
  refine lv_goto (tgt := 1509) hx hb dL_law_357 (by decide) ?_
  exact nx G H115 locsH115 _ _ ls ⟨hTH115, hN, ga, gb, g117, g118, g119, g120, (by rw [← m122, ← m123]; omega), hSH115⟩ hl (by omega) (by omega)
set_option maxRecDepth 100000 in
set_option maxHeartbeats 1000000 in
theorem lw_c4 {p : Program} {l : Launch} {e : Env} {s : State} {m : MethodId} {below : List Frame} {meth : Method} {c : Code} {K : KE} {b0 L : Nat} {xs : Nat → Int32} {G : Nat → Option Nat} {H : Heap} {locs : List Loc} {a b : Nat} {cells slots : Nat} {ls : Array Slot} {i : Int32} {n : Nat} (D : LC p K s m meth c b0 L xs) (S : SX K s G H locs a b) (hl : lv_has ls 4 [(3, .int i), (2, .ref b), (1, .ref a), (0, .ref b0)]) (hi : 0 ≤ i.toInt ∧ i.toInt + 6 ≤ L) (hn : n ≤ 511) (hc : cells ≤ 10000 + 434 * n) (hs : slots ≤ 200000 + 13027 * n) (nx : ∀ (G : Nat → Option Nat) (H : Heap) (locs : List Loc) (cells slots : Nat) (ls : Array Slot), SX K s G H locs a b → lv_has ls 4 [(3, .int i), (2, .ref b), (1, .ref a), (0, .ref b0)] → cells ≤ 10000 + 434 * (n + 1) → slots ≤ 200000 + 13027 * (n + 1) → W p l e room_1 s m #[Value.ref b0] below meth c H locs cells slots (lw_Z below #[Value.ref b0] s) (F0 m 1509 ls [])) : W p l e room_1 s m #[Value.ref b0] below meth c H locs cells slots (lw_Z below #[Value.ref b0] s) (F0 m 360 ls []) := by
  obtain ⟨C, hX, hbl, hL⟩ := id D
  obtain ⟨hx, hb, hml, hown, hts, hKT, hr, hlocks, hnm⟩ := id C
  obtain ⟨hT, hN, ga, gb, cg, tu, wd, im, rt, hS⟩ := S
  have n_1 : (1 : Int32).toInt = 1 := rfl
  have n_2 : (2 : Int32).toInt = 2 := rfl
  have n_3 : (3 : Int32).toInt = 3 := rfl
  have n_4 : (4 : Int32).toInt = 4 := rfl
  have n_5 : (5 : Int32).toInt = 5 := rfl
  obtain ⟨ta, eta⟩ : ∃ z : Int32, z = fI H a (K.1.2 9 3) := ⟨_, rfl⟩
  obtain ⟨tb, etb⟩ : ∃ z : Int32, z = fI H b (K.1.2 10 18) := ⟨_, rfl⟩
  rw [← eta, ← etb] at rt
  refine lv_aload_n hx hb dL_law_360 rfl (lv_at hl 2 rfl) ?_
  refine lv_aload_n hx hb dL_law_361 rfl (lv_at hl 3 rfl) ?_
  refine lv_iload_n hx hb dL_law_362 rfl (lv_at hl 0 rfl) ?_
  refine lv_iconst (v := 1) hx hb dL_law_363 (by decide) ?_
  refine lv_iadd hx hb dL_law_364 ?_
  refine lv_topi (fun x101 ex101 => ?_)
  have tx101 := i_add ex101 (by omega)
  have ejx101 : x101.toNatClampNeg = i.toNatClampNeg + 1 := by have h1 := i_cl (x := x101) (by omega); have h2 := i_cl (x := i) (by omega); omega
  refine va_sld hx hb hX hbl (Nat.not_le.mpr hbl) hS (vp_in_iff.mpr (by omega)) dL_law_365 ?_
  refine W.eq (g2 := F0 m 366 ls [.int (xs (i.toNatClampNeg + 1)), .ref a]) (congrArg (fun z => F0 m 366 ls [.int (xs z), .ref a]) ejx101) ?_
  refine lv_aload_n hx hb dL_law_366 rfl (lv_at hl 3 rfl) ?_
  refine lv_iload_n hx hb dL_law_367 rfl (lv_at hl 0 rfl) ?_
  refine lv_iconst (v := 2) hx hb dL_law_368 (by decide) ?_
  refine lv_iadd hx hb dL_law_369 ?_
  refine lv_topi (fun x102 ex102 => ?_)
  have tx102 := i_add ex102 (by omega)
  have ejx102 : x102.toNatClampNeg = i.toNatClampNeg + 2 := by have h1 := i_cl (x := x102) (by omega); have h2 := i_cl (x := i) (by omega); omega
  refine va_sld hx hb hX hbl (Nat.not_le.mpr hbl) hS (vp_in_iff.mpr (by omega)) dL_law_370 ?_
  refine W.eq (g2 := F0 m 371 ls [.int (xs (i.toNatClampNeg + 2)), .int (xs (i.toNatClampNeg + 1)), .ref a]) (congrArg (fun z => F0 m 371 ls [.int (xs z), .int (xs (i.toNatClampNeg + 1)), .ref a]) ejx102) ?_
  refine lv_aload_n hx hb dL_law_371 rfl (lv_at hl 3 rfl) ?_
  refine lv_iload_n hx hb dL_law_372 rfl (lv_at hl 0 rfl) ?_
  refine lv_iconst (v := 3) hx hb dL_law_373 (by decide) ?_
  refine lv_iadd hx hb dL_law_374 ?_
  refine lv_topi (fun x103 ex103 => ?_)
  have tx103 := i_add ex103 (by omega)
  have ejx103 : x103.toNatClampNeg = i.toNatClampNeg + 3 := by have h1 := i_cl (x := x103) (by omega); have h2 := i_cl (x := i) (by omega); omega
  refine va_sld hx hb hX hbl (Nat.not_le.mpr hbl) hS (vp_in_iff.mpr (by omega)) dL_law_375 ?_
  refine W.eq (g2 := F0 m 376 ls [.int (xs (i.toNatClampNeg + 3)), .int (xs (i.toNatClampNeg + 2)), .int (xs (i.toNatClampNeg + 1)), .ref a]) (congrArg (fun z => F0 m 376 ls [.int (xs z), .int (xs (i.toNatClampNeg + 2)), .int (xs (i.toNatClampNeg + 1)), .ref a]) ejx103) ?_
  refine lv_aload_n hx hb dL_law_376 rfl (lv_at hl 3 rfl) ?_
  refine lv_iload_n hx hb dL_law_377 rfl (lv_at hl 0 rfl) ?_
  refine lv_iconst (v := 4) hx hb dL_law_378 (by decide) ?_
  refine lv_iadd hx hb dL_law_379 ?_
  refine lv_topi (fun x104 ex104 => ?_)
  have tx104 := i_add ex104 (by omega)
  have ejx104 : x104.toNatClampNeg = i.toNatClampNeg + 4 := by have h1 := i_cl (x := x104) (by omega); have h2 := i_cl (x := i) (by omega); omega
  refine va_sld hx hb hX hbl (Nat.not_le.mpr hbl) hS (vp_in_iff.mpr (by omega)) dL_law_380 ?_
  refine W.eq (g2 := F0 m 381 ls [.int (xs (i.toNatClampNeg + 4)), .int (xs (i.toNatClampNeg + 3)), .int (xs (i.toNatClampNeg + 2)), .int (xs (i.toNatClampNeg + 1)), .ref a]) (congrArg (fun z => F0 m 381 ls [.int (xs z), .int (xs (i.toNatClampNeg + 3)), .int (xs (i.toNatClampNeg + 2)), .int (xs (i.toNatClampNeg + 1)), .ref a]) ejx104) ?_
  refine lv_aload_n hx hb dL_law_381 rfl (lv_at hl 3 rfl) ?_
  refine lv_iload_n hx hb dL_law_382 rfl (lv_at hl 0 rfl) ?_
  refine lv_iconst (v := 5) hx hb dL_law_383 (by decide) ?_
  refine lv_iadd hx hb dL_law_384 ?_
  refine lv_topi (fun x105 ex105 => ?_)
  have tx105 := i_add ex105 (by omega)
  have ejx105 : x105.toNatClampNeg = i.toNatClampNeg + 5 := by have h1 := i_cl (x := x105) (by omega); have h2 := i_cl (x := i) (by omega); omega
  refine va_sld hx hb hX hbl (Nat.not_le.mpr hbl) hS (vp_in_iff.mpr (by omega)) dL_law_385 ?_
  refine W.eq (g2 := F0 m 386 ls [.int (xs (i.toNatClampNeg + 5)), .int (xs (i.toNatClampNeg + 4)), .int (xs (i.toNatClampNeg + 3)), .int (xs (i.toNatClampNeg + 2)), .int (xs (i.toNatClampNeg + 1)), .ref a]) (congrArg (fun z => F0 m 386 ls [.int (xs z), .int (xs (i.toNatClampNeg + 4)), .int (xs (i.toNatClampNeg + 3)), .int (xs (i.toNatClampNeg + 2)), .int (xs (i.toNatClampNeg + 1)), .ref a]) ejx105) ?_
  refine x_V (As := [.int (xs (i.toNatClampNeg + 1)), .int (xs (i.toNatClampNeg + 2)), .int (xs (i.toNatClampNeg + 3)), .int (xs (i.toNatClampNeg + 4)), .int (xs (i.toNatClampNeg + 5))]) (rest := []) C (a_X9_feed_t l K G H ((xs (i.toNatClampNeg + 1))) ((xs (i.toNatClampNeg + 2))) ((xs (i.toNatClampNeg + 3))) ((xs (i.toNatClampNeg + 4))) ((xs (i.toNatClampNeg + 5))) (ta) hT ga eta) yo_X9_feed wM_L_33 ⟨⟨by decide, by decide⟩, show _ ≤ 284929 by omega, show _ ≤ 8247460 by omega⟩ (x_rv C hT (ci := 9) rfl ga rg_68) rfl hl.1 rfl (Nat.le_of_ble_eq_true rfl) dL_law_386 hS (AE_new hN hS.1) (fun vH106 H106 locsH106 pH106 zH106 kH106 hSH106 => ?_)
  obtain ⟨x107, x108, hvH106, ex108, hrH106, hTH106⟩ := pH106
  subst hvH106
  have g109 : CG (avw K H106 b) := CG.congr (fun k hk j => av_eff hT kH106 gb (by decide) (CG_eff [68, 108] (by decide) k hk)) cg
  have g110 : TU (avw K H106 b) (svw K H106 b) := TU.congr (fun k hk j => av_eff hT kH106 gb (by decide) (TU_eff [68, 108] (by decide) k hk)) (fun k hk => sv_eff hT kH106 gb (by decide)) tu
  have g111 : WD (avw K H106 b) := WD.congr (fun k hk j => av_eff hT kH106 gb (by decide) (WD_eff [68, 108] (by decide) k hk)) wd
  have g112 : IM (avw K H106 b) := IM.congr (fun k hk j => av_eff hT kH106 gb (by decide) (IM_eff [68, 108] (by decide) k hk)) im
  have m113 := (etb).trans (fI_kept (x_lt hT kH106 gb (by decide))).symm
  have bx108 := ty_fi (x := x108) (k := 3) ex108 hTH106 ga rg_68 rfl
  refine W.eq (g2 := F0 m 389 ls [.int x107]) rfl ?_
  refine lv_pop hx hb dL_law_389 rfl ?_
  refine lv_aload_n hx hb dL_law_390 rfl (lv_at hl 1 rfl) ?_
  refine lv_aload_n hx hb dL_law_391 rfl (lv_at hl 3 rfl) ?_
  refine lv_iload_n hx hb dL_law_392 rfl (lv_at hl 0 rfl) ?_
  refine lv_iconst (v := 1) hx hb dL_law_393 (by decide) ?_
  refine lv_iadd hx hb dL_law_394 ?_
  refine lv_topi (fun x114 ex114 => ?_)
  have tx114 := i_add ex114 (by omega)
  have ejx114 : x114.toNatClampNeg = i.toNatClampNeg + 1 := by have h1 := i_cl (x := x114) (by omega); have h2 := i_cl (x := i) (by omega); omega
  refine va_sld hx hb hX hbl (Nat.not_le.mpr hbl) hSH106 (vp_in_iff.mpr (by omega)) dL_law_395 ?_
  refine W.eq (g2 := F0 m 396 ls [.int (xs (i.toNatClampNeg + 1)), .ref b]) (congrArg (fun z => F0 m 396 ls [.int (xs z), .ref b]) ejx114) ?_
  refine lv_aload_n hx hb dL_law_396 rfl (lv_at hl 3 rfl) ?_
  refine lv_iload_n hx hb dL_law_397 rfl (lv_at hl 0 rfl) ?_
  refine lv_iconst (v := 2) hx hb dL_law_398 (by decide) ?_
  refine lv_iadd hx hb dL_law_399 ?_
  refine lv_topi (fun x115 ex115 => ?_)
  have tx115 := i_add ex115 (by omega)
  have ejx115 : x115.toNatClampNeg = i.toNatClampNeg + 2 := by have h1 := i_cl (x := x115) (by omega); have h2 := i_cl (x := i) (by omega); omega
  refine va_sld hx hb hX hbl (Nat.not_le.mpr hbl) hSH106 (vp_in_iff.mpr (by omega)) dL_law_400 ?_
  refine W.eq (g2 := F0 m 401 ls [.int (xs (i.toNatClampNeg + 2)), .int (xs (i.toNatClampNeg + 1)), .ref b]) (congrArg (fun z => F0 m 401 ls [.int (xs z), .int (xs (i.toNatClampNeg + 1)), .ref b]) ejx115) ?_
  refine lv_aload_n hx hb dL_law_401 rfl (lv_at hl 3 rfl) ?_
  refine lv_iload_n hx hb dL_law_402 rfl (lv_at hl 0 rfl) ?_
  refine lv_iconst (v := 3) hx hb dL_law_403 (by decide) ?_
  refine lv_iadd hx hb dL_law_404 ?_
  refine lv_topi (fun x116 ex116 => ?_)
  have tx116 := i_add ex116 (by omega)
  have ejx116 : x116.toNatClampNeg = i.toNatClampNeg + 3 := by have h1 := i_cl (x := x116) (by omega); have h2 := i_cl (x := i) (by omega); omega
  refine va_sld hx hb hX hbl (Nat.not_le.mpr hbl) hSH106 (vp_in_iff.mpr (by omega)) dL_law_405 ?_
  refine W.eq (g2 := F0 m 406 ls [.int (xs (i.toNatClampNeg + 3)), .int (xs (i.toNatClampNeg + 2)), .int (xs (i.toNatClampNeg + 1)), .ref b]) (congrArg (fun z => F0 m 406 ls [.int (xs z), .int (xs (i.toNatClampNeg + 2)), .int (xs (i.toNatClampNeg + 1)), .ref b]) ejx116) ?_
  refine lv_aload_n hx hb dL_law_406 rfl (lv_at hl 3 rfl) ?_
  refine lv_iload_n hx hb dL_law_407 rfl (lv_at hl 0 rfl) ?_
  refine lv_iconst (v := 4) hx hb dL_law_408 (by decide) ?_
  refine lv_iadd hx hb dL_law_409 ?_
  refine lv_topi (fun x117 ex117 => ?_)
  have tx117 := i_add ex117 (by omega)
  have ejx117 : x117.toNatClampNeg = i.toNatClampNeg + 4 := by have h1 := i_cl (x := x117) (by omega); have h2 := i_cl (x := i) (by omega); omega
  refine va_sld hx hb hX hbl (Nat.not_le.mpr hbl) hSH106 (vp_in_iff.mpr (by omega)) dL_law_410 ?_
  refine W.eq (g2 := F0 m 411 ls [.int (xs (i.toNatClampNeg + 4)), .int (xs (i.toNatClampNeg + 3)), .int (xs (i.toNatClampNeg + 2)), .int (xs (i.toNatClampNeg + 1)), .ref b]) (congrArg (fun z => F0 m 411 ls [.int (xs z), .int (xs (i.toNatClampNeg + 3)), .int (xs (i.toNatClampNeg + 2)), .int (xs (i.toNatClampNeg + 1)), .ref b]) ejx117) ?_
  refine lv_aload_n hx hb dL_law_411 rfl (lv_at hl 3 rfl) ?_
  refine lv_iload_n hx hb dL_law_412 rfl (lv_at hl 0 rfl) ?_
  refine lv_iconst (v := 5) hx hb dL_law_413 (by decide) ?_
  refine lv_iadd hx hb dL_law_414 ?_
  refine lv_topi (fun x118 ex118 => ?_)
  have tx118 := i_add ex118 (by omega)
  have ejx118 : x118.toNatClampNeg = i.toNatClampNeg + 5 := by have h1 := i_cl (x := x118) (by omega); have h2 := i_cl (x := i) (by omega); omega
  refine va_sld hx hb hX hbl (Nat.not_le.mpr hbl) hSH106 (vp_in_iff.mpr (by omega)) dL_law_415 ?_
  refine W.eq (g2 := F0 m 416 ls [.int (xs (i.toNatClampNeg + 5)), .int (xs (i.toNatClampNeg + 4)), .int (xs (i.toNatClampNeg + 3)), .int (xs (i.toNatClampNeg + 2)), .int (xs (i.toNatClampNeg + 1)), .ref b]) (congrArg (fun z => F0 m 416 ls [.int (xs z), .int (xs (i.toNatClampNeg + 4)), .int (xs (i.toNatClampNeg + 3)), .int (xs (i.toNatClampNeg + 2)), .int (xs (i.toNatClampNeg + 1)), .ref b]) ejx118) ?_
  refine x_V (As := [.int (xs (i.toNatClampNeg + 1)), .int (xs (i.toNatClampNeg + 2)), .int (xs (i.toNatClampNeg + 3)), .int (xs (i.toNatClampNeg + 4)), .int (xs (i.toNatClampNeg + 5))]) (rest := []) C (a_X10_feed_t l K G H106 ((xs (i.toNatClampNeg + 1))) ((xs (i.toNatClampNeg + 2))) ((xs (i.toNatClampNeg + 3))) ((xs (i.toNatClampNeg + 4))) ((xs (i.toNatClampNeg + 5))) (tb) hTH106 gb m113 g109 g110 g111 g112) yo_X10_feed wM_L_37 ⟨⟨by decide, by decide⟩, show _ ≤ 284929 by omega, show _ ≤ 8247460 by omega⟩ (x_rv C hTH106 (ci := 10) rfl gb rg_112) rfl hl.1 rfl (Nat.le_of_ble_eq_true rfl) dL_law_416 hSH106 (AE_new hN hSH106.1) (fun vH119 H119 locsH119 pH119 zH119 kH119 hSH119 => ?_)
  obtain ⟨x120, x121, hvH119, ex121, hrH119, g122, g123, g124, g125, mf126, hTH119⟩ := pH119
  subst hvH119
  have m127 := (ex108).trans (fI_kept (x_lt hTH106 kH119 ga (by decide))).symm
  have bx121 := ty_fi (x := x121) (k := 18) ex121 hTH119 gb rg_112 rfl
  refine W.eq (g2 := F0 m 419 ls [.int x120]) rfl ?_
  refine lv_pop hx hb dL_law_419 rfl ?_
  refine lv_goto (tgt := 1509) hx hb dL_law_420 (by decide) ?_
  exact nx G H119 locsH119 _ _ ls ⟨hTH119, hN, ga, gb, g122, g123, g124, g125, (by rw [← m127, ← ex121]; omega), hSH119⟩ hl (by omega) (by omega)
set_option maxRecDepth 100000 in
set_option maxHeartbeats 1000000 in
theorem lw_c5 {p : Program} {l : Launch} {e : Env} {s : State} {m : MethodId} {below : List Frame} {meth : Method} {c : Code} {K : KE} {b0 L : Nat} {xs : Nat → Int32} {G : Nat → Option Nat} {H : Heap} {locs : List Loc} {a b : Nat} {cells slots : Nat} {ls : Array Slot} {i : Int32} {n : Nat} (D : LC p K s m meth c b0 L xs) (S : SX K s G H locs a b) (hl : lv_has ls 4 [(3, .int i), (2, .ref b), (1, .ref a), (0, .ref b0)]) (hi : 0 ≤ i.toInt ∧ i.toInt + 6 ≤ L) (hn : n ≤ 511) (hc : cells ≤ 10000 + 434 * n) (hs : slots ≤ 200000 + 13027 * n) (nx : ∀ (G : Nat → Option Nat) (H : Heap) (locs : List Loc) (cells slots : Nat) (ls : Array Slot), SX K s G H locs a b → lv_has ls 4 [(3, .int i), (2, .ref b), (1, .ref a), (0, .ref b0)] → cells ≤ 10000 + 434 * (n + 1) → slots ≤ 200000 + 13027 * (n + 1) → W p l e room_1 s m #[Value.ref b0] below meth c H locs cells slots (lw_Z below #[Value.ref b0] s) (F0 m 1509 ls [])) : W p l e room_1 s m #[Value.ref b0] below meth c H locs cells slots (lw_Z below #[Value.ref b0] s) (F0 m 423 ls []) := by
  obtain ⟨C, hX, hbl, hL⟩ := id D
  obtain ⟨hx, hb, hml, hown, hts, hKT, hr, hlocks, hnm⟩ := id C
  obtain ⟨hT, hN, ga, gb, cg, tu, wd, im, rt, hS⟩ := S
  have n_1 : (1 : Int32).toInt = 1 := rfl
  obtain ⟨ta, eta⟩ : ∃ z : Int32, z = fI H a (K.1.2 9 3) := ⟨_, rfl⟩
  obtain ⟨tb, etb⟩ : ∃ z : Int32, z = fI H b (K.1.2 10 18) := ⟨_, rfl⟩
  rw [← eta, ← etb] at rt
  refine lv_aload_n hx hb dL_law_423 rfl (lv_at hl 2 rfl) ?_
  refine lv_aload_n hx hb dL_law_424 rfl (lv_at hl 3 rfl) ?_
  refine lv_iload_n hx hb dL_law_425 rfl (lv_at hl 0 rfl) ?_
  refine lv_iconst (v := 1) hx hb dL_law_426 (by decide) ?_
  refine lv_iadd hx hb dL_law_427 ?_
  refine lv_topi (fun x101 ex101 => ?_)
  have tx101 := i_add ex101 (by omega)
  have ejx101 : x101.toNatClampNeg = i.toNatClampNeg + 1 := by have h1 := i_cl (x := x101) (by omega); have h2 := i_cl (x := i) (by omega); omega
  refine va_sld hx hb hX hbl (Nat.not_le.mpr hbl) hS (vp_in_iff.mpr (by omega)) dL_law_428 ?_
  refine W.eq (g2 := F0 m 429 ls [.int (xs (i.toNatClampNeg + 1)), .ref a]) (congrArg (fun z => F0 m 429 ls [.int (xs z), .ref a]) ejx101) ?_
  refine x_V (As := [.int (xs (i.toNatClampNeg + 1))]) (rest := []) C (a_X9_end_t l K G H ((xs (i.toNatClampNeg + 1))) (ta) hT ga eta) yo_X9_end wM_L_38 ⟨⟨by decide, by decide⟩, show _ ≤ 284929 by omega, show _ ≤ 8247460 by omega⟩ (x_rv C hT (ci := 9) rfl ga rg_68) rfl hl.1 rfl (Nat.le_of_ble_eq_true rfl) dL_law_429 hS (AE_new hN hS.1) (fun vH102 H102 locsH102 pH102 zH102 kH102 hSH102 => ?_)
  obtain ⟨x103, x104, hvH102, bx103, ex104, hrH102, hTH102⟩ := pH102
  subst hvH102
  have g105 : CG (avw K H102 b) := CG.congr (fun k hk j => av_eff hT kH102 gb (by decide) (CG_eff [68] (by decide) k hk)) cg
  have g106 : TU (avw K H102 b) (svw K H102 b) := TU.congr (fun k hk j => av_eff hT kH102 gb (by decide) (TU_eff [68] (by decide) k hk)) (fun k hk => sv_eff hT kH102 gb (by decide)) tu
  have g107 : WD (avw K H102 b) := WD.congr (fun k hk j => av_eff hT kH102 gb (by decide) (WD_eff [68] (by decide) k hk)) wd
  have g108 : IM (avw K H102 b) := IM.congr (fun k hk j => av_eff hT kH102 gb (by decide) (IM_eff [68] (by decide) k hk)) im
  have m109 := (etb).trans (fI_kept (x_lt hT kH102 gb (by decide))).symm
  have bx104 := ty_fi (x := x104) (k := 3) ex104 hTH102 ga rg_68 rfl
  refine W.eq (g2 := F0 m 432 ls [.int x103]) rfl ?_
  refine lv_aload_n hx hb dL_law_432 rfl (lv_at hl 1 rfl) ?_
  refine lv_aload_n hx hb dL_law_433 rfl (lv_at hl 3 rfl) ?_
  refine lv_iload_n hx hb dL_law_434 rfl (lv_at hl 0 rfl) ?_
  refine lv_iconst (v := 1) hx hb dL_law_435 (by decide) ?_
  refine lv_iadd hx hb dL_law_436 ?_
  refine lv_topi (fun x110 ex110 => ?_)
  have tx110 := i_add ex110 (by omega)
  have ejx110 : x110.toNatClampNeg = i.toNatClampNeg + 1 := by have h1 := i_cl (x := x110) (by omega); have h2 := i_cl (x := i) (by omega); omega
  refine va_sld hx hb hX hbl (Nat.not_le.mpr hbl) hSH102 (vp_in_iff.mpr (by omega)) dL_law_437 ?_
  refine W.eq (g2 := F0 m 438 ls [.int (xs (i.toNatClampNeg + 1)), .ref b, .int x103]) (congrArg (fun z => F0 m 438 ls [.int (xs z), .ref b, .int x103]) ejx110) ?_
  refine x_V (As := [.int (xs (i.toNatClampNeg + 1))]) (rest := [.int x103]) C (a_X10_end_t l K G H102 ((xs (i.toNatClampNeg + 1))) (tb) hTH102 gb m109 g105 g106 g107 g108) yo_X10_end wM_L_42 ⟨⟨by decide, by decide⟩, show _ ≤ 284929 by omega, show _ ≤ 8247460 by omega⟩ (x_rv C hTH102 (ci := 10) rfl gb rg_112) rfl hl.1 rfl (Nat.le_of_ble_eq_true rfl) dL_law_438 hSH102 (AE_new hN hSH102.1) (fun vH111 H111 locsH111 pH111 zH111 kH111 hSH111 => ?_)
  obtain ⟨x112, x113, hvH111, bx112, ex113, hrH111, g114, g115, g116, g117, mf118, hTH111⟩ := pH111
  subst hvH111
  have m119 := (ex104).trans (fI_kept (x_lt hTH102 kH111 ga (by decide))).symm
  have bx113 := ty_fi (x := x113) (k := 18) ex113 hTH111 gb rg_112 rfl
  refine W.eq (g2 := F0 m 441 ls [.int x112, .int x103]) rfl ?_
  refine lv_icmp_eq (tgt := 1509) hx hb dL_law_441 (by decide) (fun ce => ?_) (fun ce => ?_)
  · skip
    exact nx G H111 locsH111 _ _ ls ⟨hTH111, hN, ga, gb, g114, g115, g116, g117, (by rw [← m119, ← ex113]; omega), hSH111⟩ hl (by omega) (by omega)
  · exfalso
    have := i_ne ce
    omega