set_option maxRecDepth 100000 in
set_option maxHeartbeats 1000000 in
theorem lw_c0 {p : Program} {l : Launch} {e : Env} {s : State} {m : MethodId} {below : List Frame} {meth : Method} {c : Code} {K : KE} {b0 L : Nat} {xs : Nat → Int32} {G : Nat → Option Nat} {H : Heap} {locs : List Loc} {a b : Nat} {cells slots : Nat} {ls : Array Slot} {i : Int32} {n : Nat} (D : LC p K s m meth c b0 L xs) (S : SX K s G H locs a b) (hl : lv_has ls 4 [(3, .int i), (2, .ref b), (1, .ref a), (0, .ref b0)]) (hi : 0 ≤ i.toInt ∧ i.toInt + 6 ≤ L) (hn : n ≤ 511) (hc : cells ≤ 10000 + 434 * n) (hs : slots ≤ 200000 + 13027 * n) (nx : ∀ (G : Nat → Option Nat) (H : Heap) (locs : List Loc) (cells slots : Nat) (ls : Array Slot), SX K s G H locs a b → lv_has ls 4 [(3, .int i), (2, .ref b), (1, .ref a), (0, .ref b0)] → cells ≤ 10000 + 434 * (n + 1) → slots ≤ 200000 + 13027 * (n + 1) → W p l e room_1 s m #[Value.ref b0] below meth c H locs cells slots (lw_Z below #[Value.ref b0] s) (F0 m 1509 ls [])) : W p l e room_1 s m #[Value.ref b0] below meth c H locs cells slots (lw_Z below #[Value.ref b0] s) (F0 m 188 ls []) := by
  obtain ⟨C, hX, hbl, hL⟩ := id D
  obtain ⟨hx, hb, hml, hown, hts, hKT, hr, hlocks, hnm⟩ := id C
  obtain ⟨hT, hN, ga, gb, cg, tu, wd, im, rt, hS⟩ := S
  have n_1 : (1 : Int32).toInt = 1 := rfl
  obtain ⟨ta, eta⟩ : ∃ z : Int32, z = fI H a (K.1.2 9 3) := ⟨_, rfl⟩
  obtain ⟨tb, etb⟩ : ∃ z : Int32, z = fI H b (K.1.2 10 18) := ⟨_, rfl⟩
  rw [← eta, ← etb] at rt
  refine lv_aload_n hx hb dL_law_188 rfl (lv_at hl 2 rfl) ?_
  refine lv_aload_n hx hb dL_law_189 rfl (lv_at hl 3 rfl) ?_
  refine lv_iload_n hx hb dL_law_190 rfl (lv_at hl 0 rfl) ?_
  refine lv_iconst (v := 1) hx hb dL_law_191 (by decide) ?_
  refine lv_iadd hx hb dL_law_192 ?_
  refine lv_topi (fun x101 ex101 => ?_)
  have tx101 := i_add ex101 (by omega)
  have ejx101 : x101.toNatClampNeg = i.toNatClampNeg + 1 := by have h1 := i_cl (x := x101) (by omega); have h2 := i_cl (x := i) (by omega); omega
  refine va_sld hx hb hX hbl (Nat.not_le.mpr hbl) hS (vp_in_iff.mpr (by omega)) dL_law_193 ?_
  refine W.eq (g2 := F0 m 194 ls [.int (xs (i.toNatClampNeg + 1)), .ref a]) (congrArg (fun z => F0 m 194 ls [.int (xs z), .ref a]) ejx101) ?_
  refine x_V (As := [.int (xs (i.toNatClampNeg + 1))]) (rest := []) C (a_X9_bar l K G H ((xs (i.toNatClampNeg + 1))) hT ga) yo_X9_bar wM_L_13 ⟨⟨by decide, by decide⟩, show _ ≤ 284929 by omega, show _ ≤ 8247460 by omega⟩ (x_rv C hT (ci := 9) rfl ga rg_68) rfl hl.1 rfl (Nat.le_of_ble_eq_true rfl) dL_law_194 hS (AE_new hN hS.1) (fun vH102 H102 locsH102 pH102 zH102 kH102 hSH102 => ?_)
  obtain ⟨x103, hvH102, hTH102⟩ := pH102
  subst hvH102
  have g104 : CG (avw K H102 b) := CG.congr (fun k hk j => av_eff hT kH102 gb (by decide) (CG_eff [0, 1, 2, 3, 4, 5, 6, 15] (by decide) k hk)) cg
  have g105 : TU (avw K H102 b) (svw K H102 b) := TU.congr (fun k hk j => av_eff hT kH102 gb (by decide) (TU_eff [0, 1, 2, 3, 4, 5, 6, 15] (by decide) k hk)) (fun k hk => sv_eff hT kH102 gb (by decide)) tu
  have g106 : WD (avw K H102 b) := WD.congr (fun k hk j => av_eff hT kH102 gb (by decide) (WD_eff [0, 1, 2, 3, 4, 5, 6, 15] (by decide) k hk)) wd
  have g107 : IM (avw K H102 b) := IM.congr (fun k hk j => av_eff hT kH102 gb (by decide) (IM_eff [0, 1, 2, 3, 4, 5, 6, 15] (by decide) k hk)) im
  have m108 := (eta).trans (fI_kept (x_lt hT kH102 ga (by decide))).symm
  have m109 := (etb).trans (fI_kept (x_lt hT kH102 gb (by decide))).symm
  refine W.eq (g2 := F0 m 197 ls [.int x103]) rfl ?_
  refine lv_pop hx hb dL_law_197 rfl ?_
  refine lv_aload_n hx hb dL_law_198 rfl (lv_at hl 1 rfl) ?_
  refine lv_aload_n hx hb dL_law_199 rfl (lv_at hl 3 rfl) ?_
  refine lv_iload_n hx hb dL_law_200 rfl (lv_at hl 0 rfl) ?_
  refine lv_iconst (v := 1) hx hb dL_law_201 (by decide) ?_
  refine lv_iadd hx hb dL_law_202 ?_
  refine lv_topi (fun x110 ex110 => ?_)
  have tx110 := i_add ex110 (by omega)
  have ejx110 : x110.toNatClampNeg = i.toNatClampNeg + 1 := by have h1 := i_cl (x := x110) (by omega); have h2 := i_cl (x := i) (by omega); omega
  refine va_sld hx hb hX hbl (Nat.not_le.mpr hbl) hSH102 (vp_in_iff.mpr (by omega)) dL_law_203 ?_
  refine W.eq (g2 := F0 m 204 ls [.int (xs (i.toNatClampNeg + 1)), .ref b]) (congrArg (fun z => F0 m 204 ls [.int (xs z), .ref b]) ejx110) ?_
  obtain ⟨q111, eq111⟩ : ∃ z : Nat, z = fR H102 b (K.1.2 10 4) := ⟨_, rfl⟩
  have gq111 := ty_fr (q := q111) (k := 4) (u := 113) eq111 hTH102 gb rg_112 rfl
  obtain ⟨q112, eq112⟩ : ∃ z : Nat, z = fR H102 b (K.1.2 10 16) := ⟨_, rfl⟩
  have gq112 := ty_fr (q := q112) (k := 16) (u := 125) eq112 hTH102 gb rg_112 rfl
  obtain ⟨x113, ex113⟩ : ∃ z : Int32, z = fI H102 b (K.1.2 10 1) := ⟨_, rfl⟩
  have bx113 := ty_fi (x := x113) (k := 1) ex113 hTH102 gb rg_112 rfl
  refine x_V (As := [.int (xs (i.toNatClampNeg + 1))]) (rest := []) C (a_X10_bar l K G H102 ((xs (i.toNatClampNeg + 1))) (x113) hTH102 gb gq111 eq111 gq112 eq112 ex113 g104 g105 g106 g107) yo_X10_bar wM_L_17 ⟨⟨by decide, by decide⟩, show _ ≤ 284929 by omega, show _ ≤ 8247460 by omega⟩ (x_rv C hTH102 (ci := 10) rfl gb rg_112) rfl hl.1 rfl (Nat.le_of_ble_eq_true rfl) dL_law_204 hSH102 (AE_new hN hSH102.1) (fun vH114 H114 locsH114 pH114 zH114 kH114 hSH114 => ?_)
  obtain ⟨x115, x116, hvH114, ex116, hrH114, m117, m118, g119, g120, g121, g122, mf123, hTH114⟩ := pH114
  subst hvH114
  have m124 := (m108).trans (fI_kept (x_lt hTH102 kH114 ga (by decide))).symm
  have m125 := (m109).trans (MF.i mf123 (k := 18) (by decide) (by decide)).symm
  have m126 := (eq111).trans (MF.r mf123 (k := 4) (by decide) (by decide)).symm
  have m127 := (eq112).trans (MF.r mf123 (k := 16) (by decide) (by decide)).symm
  have bx116 := ty_fi (x := x116) (k := 1) ex116 hTH114 gb rg_112 rfl
  refine W.eq (g2 := F0 m 207 ls [.int x115]) rfl ?_
  refine lv_pop hx hb dL_law_207 rfl ?_
  refine lv_goto (tgt := 1509) hx hb dL_law_208 (by decide) ?_
  exact nx G H114 locsH114 _ _ ls ⟨hTH114, hN, ga, gb, g119, g120, g121, g122, (by rw [← m124, ← m125]; omega), hSH114⟩ hl (by omega) (by omega)
set_option maxRecDepth 100000 in
set_option maxHeartbeats 1000000 in
theorem lw_c1 {p : Program} {l : Launch} {e : Env} {s : State} {m : MethodId} {below : List Frame} {meth : Method} {c : Code} {K : KE} {b0 L : Nat} {xs : Nat → Int32} {G : Nat → Option Nat} {H : Heap} {locs : List Loc} {a b : Nat} {cells slots : Nat} {ls : Array Slot} {i : Int32} {n : Nat} (D : LC p K s m meth c b0 L xs) (S : SX K s G H locs a b) (hl : lv_has ls 4 [(3, .int i), (2, .ref b), (1, .ref a), (0, .ref b0)]) (hi : 0 ≤ i.toInt ∧ i.toInt + 6 ≤ L) (hn : n ≤ 511) (hc : cells ≤ 10000 + 434 * n) (hs : slots ≤ 200000 + 13027 * n) (nx : ∀ (G : Nat → Option Nat) (H : Heap) (locs : List Loc) (cells slots : Nat) (ls : Array Slot), SX K s G H locs a b → lv_has ls 4 [(3, .int i), (2, .ref b), (1, .ref a), (0, .ref b0)] → cells ≤ 10000 + 434 * (n + 1) → slots ≤ 200000 + 13027 * (n + 1) → W p l e room_1 s m #[Value.ref b0] below meth c H locs cells slots (lw_Z below #[Value.ref b0] s) (F0 m 1509 ls [])) : W p l e room_1 s m #[Value.ref b0] below meth c H locs cells slots (lw_Z below #[Value.ref b0] s) (F0 m 211 ls []) := by
  obtain ⟨C, hX, hbl, hL⟩ := id D
  obtain ⟨hx, hb, hml, hown, hts, hKT, hr, hlocks, hnm⟩ := id C
  obtain ⟨hT, hN, ga, gb, cg, tu, wd, im, rt, hS⟩ := S
  have n_1 : (1 : Int32).toInt = 1 := rfl
  have n_2 : (2 : Int32).toInt = 2 := rfl
  have n_3 : (3 : Int32).toInt = 3 := rfl
  have n_4 : (4 : Int32).toInt = 4 := rfl
  have n_5 : (5 : Int32).toInt = 5 := rfl
  obtain ⟨ta, eta⟩ : ∃ z : Int32, z = fI H a (K.1.2 9 3) := ⟨_, rfl⟩
  obtain ⟨tb, etb⟩ : ∃ z : Int32, z = fI H b (K.1.2 10 18) := ⟨_, rfl⟩
  rw [← eta, ← etb] at rt
  refine lv_aload_n hx hb dL_law_211 rfl (lv_at hl 2 rfl) ?_
  refine lv_aload_n hx hb dL_law_212 rfl (lv_at hl 3 rfl) ?_
  refine lv_iload_n hx hb dL_law_213 rfl (lv_at hl 0 rfl) ?_
  refine lv_iconst (v := 1) hx hb dL_law_214 (by decide) ?_
  refine lv_iadd hx hb dL_law_215 ?_
  refine lv_topi (fun x101 ex101 => ?_)
  have tx101 := i_add ex101 (by omega)
  have ejx101 : x101.toNatClampNeg = i.toNatClampNeg + 1 := by have h1 := i_cl (x := x101) (by omega); have h2 := i_cl (x := i) (by omega); omega
  refine va_sld hx hb hX hbl (Nat.not_le.mpr hbl) hS (vp_in_iff.mpr (by omega)) dL_law_216 ?_
  refine W.eq (g2 := F0 m 217 ls [.int (xs (i.toNatClampNeg + 1)), .ref a]) (congrArg (fun z => F0 m 217 ls [.int (xs z), .ref a]) ejx101) ?_
  refine lv_aload_n hx hb dL_law_217 rfl (lv_at hl 3 rfl) ?_
  refine lv_iload_n hx hb dL_law_218 rfl (lv_at hl 0 rfl) ?_
  refine lv_iconst (v := 2) hx hb dL_law_219 (by decide) ?_
  refine lv_iadd hx hb dL_law_220 ?_
  refine lv_topi (fun x102 ex102 => ?_)
  have tx102 := i_add ex102 (by omega)
  have ejx102 : x102.toNatClampNeg = i.toNatClampNeg + 2 := by have h1 := i_cl (x := x102) (by omega); have h2 := i_cl (x := i) (by omega); omega
  refine va_sld hx hb hX hbl (Nat.not_le.mpr hbl) hS (vp_in_iff.mpr (by omega)) dL_law_221 ?_
  refine W.eq (g2 := F0 m 222 ls [.int (xs (i.toNatClampNeg + 2)), .int (xs (i.toNatClampNeg + 1)), .ref a]) (congrArg (fun z => F0 m 222 ls [.int (xs z), .int (xs (i.toNatClampNeg + 1)), .ref a]) ejx102) ?_
  refine lv_aload_n hx hb dL_law_222 rfl (lv_at hl 3 rfl) ?_
  refine lv_iload_n hx hb dL_law_223 rfl (lv_at hl 0 rfl) ?_
  refine lv_iconst (v := 3) hx hb dL_law_224 (by decide) ?_
  refine lv_iadd hx hb dL_law_225 ?_
  refine lv_topi (fun x103 ex103 => ?_)
  have tx103 := i_add ex103 (by omega)
  have ejx103 : x103.toNatClampNeg = i.toNatClampNeg + 3 := by have h1 := i_cl (x := x103) (by omega); have h2 := i_cl (x := i) (by omega); omega
  refine va_sld hx hb hX hbl (Nat.not_le.mpr hbl) hS (vp_in_iff.mpr (by omega)) dL_law_226 ?_
  refine W.eq (g2 := F0 m 227 ls [.int (xs (i.toNatClampNeg + 3)), .int (xs (i.toNatClampNeg + 2)), .int (xs (i.toNatClampNeg + 1)), .ref a]) (congrArg (fun z => F0 m 227 ls [.int (xs z), .int (xs (i.toNatClampNeg + 2)), .int (xs (i.toNatClampNeg + 1)), .ref a]) ejx103) ?_
  refine lv_aload_n hx hb dL_law_227 rfl (lv_at hl 3 rfl) ?_
  refine lv_iload_n hx hb dL_law_228 rfl (lv_at hl 0 rfl) ?_
  refine lv_iconst (v := 4) hx hb dL_law_229 (by decide) ?_
  refine lv_iadd hx hb dL_law_230 ?_
  refine lv_topi (fun x104 ex104 => ?_)
  have tx104 := i_add ex104 (by omega)
  have ejx104 : x104.toNatClampNeg = i.toNatClampNeg + 4 := by have h1 := i_cl (x := x104) (by omega); have h2 := i_cl (x := i) (by omega); omega
  refine va_sld hx hb hX hbl (Nat.not_le.mpr hbl) hS (vp_in_iff.mpr (by omega)) dL_law_231 ?_
  refine W.eq (g2 := F0 m 232 ls [.int (xs (i.toNatClampNeg + 4)), .int (xs (i.toNatClampNeg + 3)), .int (xs (i.toNatClampNeg + 2)), .int (xs (i.toNatClampNeg + 1)), .ref a]) (congrArg (fun z => F0 m 232 ls [.int (xs z), .int (xs (i.toNatClampNeg + 3)), .int (xs (i.toNatClampNeg + 2)), .int (xs (i.toNatClampNeg + 1)), .ref a]) ejx104) ?_
  refine lv_aload_n hx hb dL_law_232 rfl (lv_at hl 3 rfl) ?_
  refine lv_iload_n hx hb dL_law_233 rfl (lv_at hl 0 rfl) ?_
  refine lv_iconst (v := 5) hx hb dL_law_234 (by decide) ?_
  refine lv_iadd hx hb dL_law_235 ?_
  refine lv_topi (fun x105 ex105 => ?_)
  have tx105 := i_add ex105 (by omega)
  have ejx105 : x105.toNatClampNeg = i.toNatClampNeg + 5 := by have h1 := i_cl (x := x105) (by omega); have h2 := i_cl (x := i) (by omega); omega
  refine va_sld hx hb hX hbl (Nat.not_le.mpr hbl) hS (vp_in_iff.mpr (by omega)) dL_law_236 ?_
  refine W.eq (g2 := F0 m 237 ls [.int (xs (i.toNatClampNeg + 5)), .int (xs (i.toNatClampNeg + 4)), .int (xs (i.toNatClampNeg + 3)), .int (xs (i.toNatClampNeg + 2)), .int (xs (i.toNatClampNeg + 1)), .ref a]) (congrArg (fun z => F0 m 237 ls [.int (xs z), .int (xs (i.toNatClampNeg + 4)), .int (xs (i.toNatClampNeg + 3)), .int (xs (i.toNatClampNeg + 2)), .int (xs (i.toNatClampNeg + 1)), .ref a]) ejx105) ?_
  refine x_V (As := [.int (xs (i.toNatClampNeg + 1)), .int (xs (i.toNatClampNeg + 2)), .int (xs (i.toNatClampNeg + 3)), .int (xs (i.toNatClampNeg + 4)), .int (xs (i.toNatClampNeg + 5))]) (rest := []) C (a_X9_slice l K G H ((xs (i.toNatClampNeg + 1))) ((xs (i.toNatClampNeg + 2))) ((xs (i.toNatClampNeg + 3))) ((xs (i.toNatClampNeg + 4))) ((xs (i.toNatClampNeg + 5))) hT ga) yo_X9_slice wM_L_18 ⟨⟨by decide, by decide⟩, show _ ≤ 284929 by omega, show _ ≤ 8247460 by omega⟩ (x_rv C hT (ci := 9) rfl ga rg_68) rfl hl.1 rfl (Nat.le_of_ble_eq_true rfl) dL_law_237 hS (AE_new hN hS.1) (fun vH106 H106 locsH106 pH106 zH106 kH106 hSH106 => ?_)
  obtain ⟨x107, hvH106, bx107, hTH106⟩ := pH106
  subst hvH106
  have g108 : CG (avw K H106 b) := CG.congr (fun k hk j => av_eff hT kH106 gb (by decide) (CG_eff [2, 3, 4] (by decide) k hk)) cg
  have g109 : TU (avw K H106 b) (svw K H106 b) := TU.congr (fun k hk j => av_eff hT kH106 gb (by decide) (TU_eff [2, 3, 4] (by decide) k hk)) (fun k hk => sv_eff hT kH106 gb (by decide)) tu
  have g110 : WD (avw K H106 b) := WD.congr (fun k hk j => av_eff hT kH106 gb (by decide) (WD_eff [2, 3, 4] (by decide) k hk)) wd
  have g111 : IM (avw K H106 b) := IM.congr (fun k hk j => av_eff hT kH106 gb (by decide) (IM_eff [2, 3, 4] (by decide) k hk)) im
  have m112 := (eta).trans (fI_kept (x_lt hT kH106 ga (by decide))).symm
  have m113 := (etb).trans (fI_kept (x_lt hT kH106 gb (by decide))).symm
  refine W.eq (g2 := F0 m 240 ls [.int x107]) rfl ?_
  refine lv_pop hx hb dL_law_240 rfl ?_
  refine lv_aload_n hx hb dL_law_241 rfl (lv_at hl 1 rfl) ?_
  refine lv_aload_n hx hb dL_law_242 rfl (lv_at hl 3 rfl) ?_
  refine lv_iload_n hx hb dL_law_243 rfl (lv_at hl 0 rfl) ?_
  refine lv_iconst (v := 1) hx hb dL_law_244 (by decide) ?_
  refine lv_iadd hx hb dL_law_245 ?_
  refine lv_topi (fun x114 ex114 => ?_)
  have tx114 := i_add ex114 (by omega)
  have ejx114 : x114.toNatClampNeg = i.toNatClampNeg + 1 := by have h1 := i_cl (x := x114) (by omega); have h2 := i_cl (x := i) (by omega); omega
  refine va_sld hx hb hX hbl (Nat.not_le.mpr hbl) hSH106 (vp_in_iff.mpr (by omega)) dL_law_246 ?_
  refine W.eq (g2 := F0 m 247 ls [.int (xs (i.toNatClampNeg + 1)), .ref b]) (congrArg (fun z => F0 m 247 ls [.int (xs z), .ref b]) ejx114) ?_
  refine lv_aload_n hx hb dL_law_247 rfl (lv_at hl 3 rfl) ?_
  refine lv_iload_n hx hb dL_law_248 rfl (lv_at hl 0 rfl) ?_
  refine lv_iconst (v := 2) hx hb dL_law_249 (by decide) ?_
  refine lv_iadd hx hb dL_law_250 ?_
  refine lv_topi (fun x115 ex115 => ?_)
  have tx115 := i_add ex115 (by omega)
  have ejx115 : x115.toNatClampNeg = i.toNatClampNeg + 2 := by have h1 := i_cl (x := x115) (by omega); have h2 := i_cl (x := i) (by omega); omega
  refine va_sld hx hb hX hbl (Nat.not_le.mpr hbl) hSH106 (vp_in_iff.mpr (by omega)) dL_law_251 ?_
  refine W.eq (g2 := F0 m 252 ls [.int (xs (i.toNatClampNeg + 2)), .int (xs (i.toNatClampNeg + 1)), .ref b]) (congrArg (fun z => F0 m 252 ls [.int (xs z), .int (xs (i.toNatClampNeg + 1)), .ref b]) ejx115) ?_
  refine lv_aload_n hx hb dL_law_252 rfl (lv_at hl 3 rfl) ?_
  refine lv_iload_n hx hb dL_law_253 rfl (lv_at hl 0 rfl) ?_
  refine lv_iconst (v := 3) hx hb dL_law_254 (by decide) ?_
  refine lv_iadd hx hb dL_law_255 ?_
  refine lv_topi (fun x116 ex116 => ?_)
  have tx116 := i_add ex116 (by omega)
  have ejx116 : x116.toNatClampNeg = i.toNatClampNeg + 3 := by have h1 := i_cl (x := x116) (by omega); have h2 := i_cl (x := i) (by omega); omega
  refine va_sld hx hb hX hbl (Nat.not_le.mpr hbl) hSH106 (vp_in_iff.mpr (by omega)) dL_law_256 ?_
  refine W.eq (g2 := F0 m 257 ls [.int (xs (i.toNatClampNeg + 3)), .int (xs (i.toNatClampNeg + 2)), .int (xs (i.toNatClampNeg + 1)), .ref b]) (congrArg (fun z => F0 m 257 ls [.int (xs z), .int (xs (i.toNatClampNeg + 2)), .int (xs (i.toNatClampNeg + 1)), .ref b]) ejx116) ?_
  refine lv_aload_n hx hb dL_law_257 rfl (lv_at hl 3 rfl) ?_
  refine lv_iload_n hx hb dL_law_258 rfl (lv_at hl 0 rfl) ?_
  refine lv_iconst (v := 4) hx hb dL_law_259 (by decide) ?_
  refine lv_iadd hx hb dL_law_260 ?_
  refine lv_topi (fun x117 ex117 => ?_)
  have tx117 := i_add ex117 (by omega)
  have ejx117 : x117.toNatClampNeg = i.toNatClampNeg + 4 := by have h1 := i_cl (x := x117) (by omega); have h2 := i_cl (x := i) (by omega); omega
  refine va_sld hx hb hX hbl (Nat.not_le.mpr hbl) hSH106 (vp_in_iff.mpr (by omega)) dL_law_261 ?_
  refine W.eq (g2 := F0 m 262 ls [.int (xs (i.toNatClampNeg + 4)), .int (xs (i.toNatClampNeg + 3)), .int (xs (i.toNatClampNeg + 2)), .int (xs (i.toNatClampNeg + 1)), .ref b]) (congrArg (fun z => F0 m 262 ls [.int (xs z), .int (xs (i.toNatClampNeg + 3)), .int (xs (i.toNatClampNeg + 2)), .int (xs (i.toNatClampNeg + 1)), .ref b]) ejx117) ?_
  refine lv_aload_n hx hb dL_law_262 rfl (lv_at hl 3 rfl) ?_
  refine lv_iload_n hx hb dL_law_263 rfl (lv_at hl 0 rfl) ?_
  refine lv_iconst (v := 5) hx hb dL_law_264 (by decide) ?_
  refine lv_iadd hx hb dL_law_265 ?_
  refine lv_topi (fun x118 ex118 => ?_)
  have tx118 := i_add ex118 (by omega)
  have ejx118 : x118.toNatClampNeg = i.toNatClampNeg + 5 := by have h1 := i_cl (x := x118) (by omega); have h2 := i_cl (x := i) (by omega); omega
  refine va_sld hx hb hX hbl (Nat.not_le.mpr hbl) hSH106 (vp_in_iff.mpr (by omega)) dL_law_266 ?_
  refine W.eq (g2 := F0 m 267 ls [.int (xs (i.toNatClampNeg + 5)), .int (xs (i.toNatClampNeg + 4)), .int (xs (i.toNatClampNeg + 3)), .int (xs (i.toNatClampNeg + 2)), .int (xs (i.toNatClampNeg + 1)), .ref b]) (congrArg (fun z => F0 m 267 ls [.int (xs z), .int (xs (i.toNatClampNeg + 4)), .int (xs (i.toNatClampNeg + 3)), .int (xs (i.toNatClampNeg + 2)), .int (xs (i.toNatClampNeg + 1)), .ref b]) ejx118) ?_
  refine x_V (As := [.int (xs (i.toNatClampNeg + 1)), .int (xs (i.toNatClampNeg + 2)), .int (xs (i.toNatClampNeg + 3)), .int (xs (i.toNatClampNeg + 4)), .int (xs (i.toNatClampNeg + 5))]) (rest := []) C (a_X10_slice l K G H106 ((xs (i.toNatClampNeg + 1))) ((xs (i.toNatClampNeg + 2))) ((xs (i.toNatClampNeg + 3))) ((xs (i.toNatClampNeg + 4))) ((xs (i.toNatClampNeg + 5))) hTH106 gb g108 g109 g110 g111) yo_X10_slice wM_L_22 ⟨⟨by decide, by decide⟩, show _ ≤ 284929 by omega, show _ ≤ 8247460 by omega⟩ (x_rv C hTH106 (ci := 10) rfl gb rg_112) rfl hl.1 rfl (Nat.le_of_ble_eq_true rfl) dL_law_267 hSH106 (AE_new hN hSH106.1) (fun vH119 H119 locsH119 pH119 zH119 kH119 hSH119 => ?_)
  obtain ⟨x120, hvH119, bx120, g121, g122, g123, g124, mf125, hTH119⟩ := pH119
  subst hvH119
  have m126 := (m112).trans (fI_kept (x_lt hTH106 kH119 ga (by decide))).symm
  have m127 := (m113).trans (MF.i mf125 (k := 18) (by decide) (by decide)).symm
  refine W.eq (g2 := F0 m 270 ls [.int x120]) rfl ?_
  refine lv_pop hx hb dL_law_270 rfl ?_
  refine lv_goto (tgt := 1509) hx hb dL_law_271 (by decide) ?_
  exact nx G H119 locsH119 _ _ ls ⟨hTH119, hN, ga, gb, g121, g122, g123, g124, (by rw [← m126, ← m127]; omega), hSH119⟩ hl (by omega) (by omega)
set_option maxRecDepth 100000 in
set_option maxHeartbeats 1000000 in
theorem lw_c2 {p : Program} {l : Launch} {e : Env} {s : State} {m : MethodId} {below : List Frame} {meth : Method} {c : Code} {K : KE} {b0 L : Nat} {xs : Nat → Int32} {G : Nat → Option Nat} {H : Heap} {locs : List Loc} {a b : Nat} {cells slots : Nat} {ls : Array Slot} {i : Int32} {n : Nat} (D : LC p K s m meth c b0 L xs) (S : SX K s G H locs a b) (hl : lv_has ls 4 [(3, .int i), (2, .ref b), (1, .ref a), (0, .ref b0)]) (hi : 0 ≤ i.toInt ∧ i.toInt + 6 ≤ L) (hn : n ≤ 511) (hc : cells ≤ 10000 + 434 * n) (hs : slots ≤ 200000 + 13027 * n) (nx : ∀ (G : Nat → Option Nat) (H : Heap) (locs : List Loc) (cells slots : Nat) (ls : Array Slot), SX K s G H locs a b → lv_has ls 4 [(3, .int i), (2, .ref b), (1, .ref a), (0, .ref b0)] → cells ≤ 10000 + 434 * (n + 1) → slots ≤ 200000 + 13027 * (n + 1) → W p l e room_1 s m #[Value.ref b0] below meth c H locs cells slots (lw_Z below #[Value.ref b0] s) (F0 m 1509 ls [])) : W p l e room_1 s m #[Value.ref b0] below meth c H locs cells slots (lw_Z below #[Value.ref b0] s) (F0 m 274 ls []) := by
  obtain ⟨C, hX, hbl, hL⟩ := id D
  obtain ⟨hx, hb, hml, hown, hts, hKT, hr, hlocks, hnm⟩ := id C
  obtain ⟨hT, hN, ga, gb, cg, tu, wd, im, rt, hS⟩ := S
  have n_1 : (1 : Int32).toInt = 1 := rfl
  have n_2 : (2 : Int32).toInt = 2 := rfl
  have n_3 : (3 : Int32).toInt = 3 := rfl
  obtain ⟨ta, eta⟩ : ∃ z : Int32, z = fI H a (K.1.2 9 3) := ⟨_, rfl⟩
  obtain ⟨tb, etb⟩ : ∃ z : Int32, z = fI H b (K.1.2 10 18) := ⟨_, rfl⟩
  rw [← eta, ← etb] at rt
  refine lv_aload_n hx hb dL_law_274 rfl (lv_at hl 2 rfl) ?_
  refine lv_aload_n hx hb dL_law_275 rfl (lv_at hl 3 rfl) ?_
  refine lv_iload_n hx hb dL_law_276 rfl (lv_at hl 0 rfl) ?_
  refine lv_iconst (v := 1) hx hb dL_law_277 (by decide) ?_
  refine lv_iadd hx hb dL_law_278 ?_
  refine lv_topi (fun x101 ex101 => ?_)
  have tx101 := i_add ex101 (by omega)
  have ejx101 : x101.toNatClampNeg = i.toNatClampNeg + 1 := by have h1 := i_cl (x := x101) (by omega); have h2 := i_cl (x := i) (by omega); omega
  refine va_sld hx hb hX hbl (Nat.not_le.mpr hbl) hS (vp_in_iff.mpr (by omega)) dL_law_279 ?_
  refine W.eq (g2 := F0 m 280 ls [.int (xs (i.toNatClampNeg + 1)), .ref a]) (congrArg (fun z => F0 m 280 ls [.int (xs z), .ref a]) ejx101) ?_
  refine lv_aload_n hx hb dL_law_280 rfl (lv_at hl 3 rfl) ?_
  refine lv_iload_n hx hb dL_law_281 rfl (lv_at hl 0 rfl) ?_
  refine lv_iconst (v := 2) hx hb dL_law_282 (by decide) ?_
  refine lv_iadd hx hb dL_law_283 ?_
  refine lv_topi (fun x102 ex102 => ?_)
  have tx102 := i_add ex102 (by omega)
  have ejx102 : x102.toNatClampNeg = i.toNatClampNeg + 2 := by have h1 := i_cl (x := x102) (by omega); have h2 := i_cl (x := i) (by omega); omega
  refine va_sld hx hb hX hbl (Nat.not_le.mpr hbl) hS (vp_in_iff.mpr (by omega)) dL_law_284 ?_
  refine W.eq (g2 := F0 m 285 ls [.int (xs (i.toNatClampNeg + 2)), .int (xs (i.toNatClampNeg + 1)), .ref a]) (congrArg (fun z => F0 m 285 ls [.int (xs z), .int (xs (i.toNatClampNeg + 1)), .ref a]) ejx102) ?_
  refine lv_aload_n hx hb dL_law_285 rfl (lv_at hl 3 rfl) ?_
  refine lv_iload_n hx hb dL_law_286 rfl (lv_at hl 0 rfl) ?_
  refine lv_iconst (v := 3) hx hb dL_law_287 (by decide) ?_
  refine lv_iadd hx hb dL_law_288 ?_
  refine lv_topi (fun x103 ex103 => ?_)
  have tx103 := i_add ex103 (by omega)
  have ejx103 : x103.toNatClampNeg = i.toNatClampNeg + 3 := by have h1 := i_cl (x := x103) (by omega); have h2 := i_cl (x := i) (by omega); omega
  refine va_sld hx hb hX hbl (Nat.not_le.mpr hbl) hS (vp_in_iff.mpr (by omega)) dL_law_289 ?_
  refine W.eq (g2 := F0 m 290 ls [.int (xs (i.toNatClampNeg + 3)), .int (xs (i.toNatClampNeg + 2)), .int (xs (i.toNatClampNeg + 1)), .ref a]) (congrArg (fun z => F0 m 290 ls [.int (xs z), .int (xs (i.toNatClampNeg + 2)), .int (xs (i.toNatClampNeg + 1)), .ref a]) ejx103) ?_
  refine x_V (As := [.int (xs (i.toNatClampNeg + 1)), .int (xs (i.toNatClampNeg + 2)), .int (xs (i.toNatClampNeg + 3))]) (rest := []) C (a_X9_wax l K G H ((xs (i.toNatClampNeg + 1))) ((xs (i.toNatClampNeg + 2))) ((xs (i.toNatClampNeg + 3))) hT ga) yo_X9_wax wM_L_23 ⟨⟨by decide, by decide⟩, show _ ≤ 284929 by omega, show _ ≤ 8247460 by omega⟩ (x_rv C hT (ci := 9) rfl ga rg_68) rfl hl.1 rfl (Nat.le_of_ble_eq_true rfl) dL_law_290 hS (AE_new hN hS.1) (fun vH104 H104 locsH104 pH104 zH104 kH104 hSH104 => ?_)
  obtain ⟨x105, hvH104, bx105, hTH104⟩ := pH104
  subst hvH104
  have g106 : CG (avw K H104 b) := CG.congr (fun k hk j => av_eff hT kH104 gb (by decide) (CG_eff [5] (by decide) k hk)) cg
  have g107 : TU (avw K H104 b) (svw K H104 b) := TU.congr (fun k hk j => av_eff hT kH104 gb (by decide) (TU_eff [5] (by decide) k hk)) (fun k hk => sv_eff hT kH104 gb (by decide)) tu
  have g108 : WD (avw K H104 b) := WD.congr (fun k hk j => av_eff hT kH104 gb (by decide) (WD_eff [5] (by decide) k hk)) wd
  have g109 : IM (avw K H104 b) := IM.congr (fun k hk j => av_eff hT kH104 gb (by decide) (IM_eff [5] (by decide) k hk)) im
  have m110 := (eta).trans (fI_kept (x_lt hT kH104 ga (by decide))).symm
  have m111 := (etb).trans (fI_kept (x_lt hT kH104 gb (by decide))).symm
  refine W.eq (g2 := F0 m 293 ls [.int x105]) rfl ?_
  refine lv_pop hx hb dL_law_293 rfl ?_
  refine lv_aload_n hx hb dL_law_294 rfl (lv_at hl 1 rfl) ?_
  refine lv_aload_n hx hb dL_law_295 rfl (lv_at hl 3 rfl) ?_
  refine lv_iload_n hx hb dL_law_296 rfl (lv_at hl 0 rfl) ?_
  refine lv_iconst (v := 1) hx hb dL_law_297 (by decide) ?_
  refine lv_iadd hx hb dL_law_298 ?_
  refine lv_topi (fun x112 ex112 => ?_)
  have tx112 := i_add ex112 (by omega)
  have ejx112 : x112.toNatClampNeg = i.toNatClampNeg + 1 := by have h1 := i_cl (x := x112) (by omega); have h2 := i_cl (x := i) (by omega); omega
  refine va_sld hx hb hX hbl (Nat.not_le.mpr hbl) hSH104 (vp_in_iff.mpr (by omega)) dL_law_299 ?_
  refine W.eq (g2 := F0 m 300 ls [.int (xs (i.toNatClampNeg + 1)), .ref b]) (congrArg (fun z => F0 m 300 ls [.int (xs z), .ref b]) ejx112) ?_
  refine lv_aload_n hx hb dL_law_300 rfl (lv_at hl 3 rfl) ?_
  refine lv_iload_n hx hb dL_law_301 rfl (lv_at hl 0 rfl) ?_
  refine lv_iconst (v := 2) hx hb dL_law_302 (by decide) ?_
  refine lv_iadd hx hb dL_law_303 ?_
  refine lv_topi (fun x113 ex113 => ?_)
  have tx113 := i_add ex113 (by omega)
  have ejx113 : x113.toNatClampNeg = i.toNatClampNeg + 2 := by have h1 := i_cl (x := x113) (by omega); have h2 := i_cl (x := i) (by omega); omega
  refine va_sld hx hb hX hbl (Nat.not_le.mpr hbl) hSH104 (vp_in_iff.mpr (by omega)) dL_law_304 ?_
  refine W.eq (g2 := F0 m 305 ls [.int (xs (i.toNatClampNeg + 2)), .int (xs (i.toNatClampNeg + 1)), .ref b]) (congrArg (fun z => F0 m 305 ls [.int (xs z), .int (xs (i.toNatClampNeg + 1)), .ref b]) ejx113) ?_
  refine lv_aload_n hx hb dL_law_305 rfl (lv_at hl 3 rfl) ?_
  refine lv_iload_n hx hb dL_law_306 rfl (lv_at hl 0 rfl) ?_
  refine lv_iconst (v := 3) hx hb dL_law_307 (by decide) ?_
  refine lv_iadd hx hb dL_law_308 ?_
  refine lv_topi (fun x114 ex114 => ?_)
  have tx114 := i_add ex114 (by omega)
  have ejx114 : x114.toNatClampNeg = i.toNatClampNeg + 3 := by have h1 := i_cl (x := x114) (by omega); have h2 := i_cl (x := i) (by omega); omega
  refine va_sld hx hb hX hbl (Nat.not_le.mpr hbl) hSH104 (vp_in_iff.mpr (by omega)) dL_law_309 ?_
  refine W.eq (g2 := F0 m 310 ls [.int (xs (i.toNatClampNeg + 3)), .int (xs (i.toNatClampNeg + 2)), .int (xs (i.toNatClampNeg + 1)), .ref b]) (congrArg (fun z => F0 m 310 ls [.int (xs z), .int (xs (i.toNatClampNeg + 2)), .int (xs (i.toNatClampNeg + 1)), .ref b]) ejx114) ?_
  refine x_V (As := [.int (xs (i.toNatClampNeg + 1)), .int (xs (i.toNatClampNeg + 2)), .int (xs (i.toNatClampNeg + 3))]) (rest := []) C (a_X10_wax l K G H104 ((xs (i.toNatClampNeg + 1))) ((xs (i.toNatClampNeg + 2))) ((xs (i.toNatClampNeg + 3))) hTH104 gb g106 g107 g108 g109) yo_X10_wax wM_L_27 ⟨⟨by decide, by decide⟩, show _ ≤ 284929 by omega, show _ ≤ 8247460 by omega⟩ (x_rv C hTH104 (ci := 10) rfl gb rg_112) rfl hl.1 rfl (Nat.le_of_ble_eq_true rfl) dL_law_310 hSH104 (AE_new hN hSH104.1) (fun vH115 H115 locsH115 pH115 zH115 kH115 hSH115 => ?_)
  obtain ⟨x116, hvH115, bx116, g117, g118, g119, g120, mf121, hTH115⟩ := pH115
  subst hvH115
  have m122 := (m110).trans (fI_kept (x_lt hTH104 kH115 ga (by decide))).symm
  have m123 := (m111).trans (MF.i mf121 (k := 18) (by decide) (by decide)).symm
  refine W.eq (g2 := F0 m 313 ls [.int x116]) rfl ?_
  refine lv_pop hx hb dL_law_313 rfl ?_
  refine lv_goto (tgt := 1509) hx hb dL_law_314 (by decide) ?_
  exact nx G H115 locsH115 _ _ ls ⟨hTH115, hN, ga, gb, g117, g118, g119, g120, (by rw [← m122, ← m123]; omega), hSH115⟩ hl (by omega) (by omega)
set_option maxRecDepth 100000 in
set_option maxHeartbeats 1000000 in
theorem lw_c3 {p : Program} {l : Launch} {e : Env} {s : State} {m : MethodId} {below : List Frame} {meth : Method} {c : Code} {K : KE} {b0 L : Nat} {xs : Nat → Int32} {G : Nat → Option Nat} {H : Heap} {locs : List Loc} {a b : Nat} {cells slots : Nat} {ls : Array Slot} {i : Int32} {n : Nat} (D : LC p K s m meth c b0 L xs) (S : SX K s G H locs a b) (hl : lv_has ls 4 [(3, .int i), (2, .ref b), (1, .ref a), (0, .ref b0)]) (hi : 0 ≤ i.toInt ∧ i.toInt + 6 ≤ L) (hn : n ≤ 511) (hc : cells ≤ 10000 + 434 * n) (hs : slots ≤ 200000 + 13027 * n) (nx : ∀ (G : Nat → Option Nat) (H : Heap) (locs : List Loc) (cells slots : Nat) (ls : Array Slot), SX K s G H locs a b → lv_has ls 4 [(3, .int i), (2, .ref b), (1, .ref a), (0, .ref b0)] → cells ≤ 10000 + 434 * (n + 1) → slots ≤ 200000 + 13027 * (n + 1) → W p l e room_1 s m #[Value.ref b0] below meth c H locs cells slots (lw_Z below #[Value.ref b0] s) (F0 m 1509 ls [])) : W p l e room_1 s m #[Value.ref b0] below meth c H locs cells slots (lw_Z below #[Value.ref b0] s) (F0 m 317 ls []) := by
  obtain ⟨C, hX, hbl, hL⟩ := id D
  obtain ⟨hx, hb, hml, hown, hts, hKT, hr, hlocks, hnm⟩ := id C
  obtain ⟨hT, hN, ga, gb, cg, tu, wd, im, rt, hS⟩ := S
  have n_1 : (1 : Int32).toInt = 1 := rfl
  have n_2 : (2 : Int32).toInt = 2 := rfl
  have n_3 : (3 : Int32).toInt = 3 := rfl
  obtain ⟨ta, eta⟩ : ∃ z : Int32, z = fI H a (K.1.2 9 3) := ⟨_, rfl⟩
  obtain ⟨tb, etb⟩ : ∃ z : Int32, z = fI H b (K.1.2 10 18) := ⟨_, rfl⟩
  rw [← eta, ← etb] at rt
  refine lv_aload_n hx hb dL_law_317 rfl (lv_at hl 2 rfl) ?_
  refine lv_aload_n hx hb dL_law_318 rfl (lv_at hl 3 rfl) ?_
  refine lv_iload_n hx hb dL_law_319 rfl (lv_at hl 0 rfl) ?_
  refine lv_iconst (v := 1) hx hb dL_law_320 (by decide) ?_
  refine lv_iadd hx hb dL_law_321 ?_
  refine lv_topi (fun x101 ex101 => ?_)
  have tx101 := i_add ex101 (by omega)
  have ejx101 : x101.toNatClampNeg = i.toNatClampNeg + 1 := by have h1 := i_cl (x := x101) (by omega); have h2 := i_cl (x := i) (by omega); omega
  refine va_sld hx hb hX hbl (Nat.not_le.mpr hbl) hS (vp_in_iff.mpr (by omega)) dL_law_322 ?_
  refine W.eq (g2 := F0 m 323 ls [.int (xs (i.toNatClampNeg + 1)), .ref a]) (congrArg (fun z => F0 m 323 ls [.int (xs z), .ref a]) ejx101) ?_
  refine lv_aload_n hx hb dL_law_323 rfl (lv_at hl 3 rfl) ?_
  refine lv_iload_n hx hb dL_law_324 rfl (lv_at hl 0 rfl) ?_
  refine lv_iconst (v := 2) hx hb dL_law_325 (by decide) ?_
  refine lv_iadd hx hb dL_law_326 ?_
  refine lv_topi (fun x102 ex102 => ?_)
  have tx102 := i_add ex102 (by omega)
  have ejx102 : x102.toNatClampNeg = i.toNatClampNeg + 2 := by have h1 := i_cl (x := x102) (by omega); have h2 := i_cl (x := i) (by omega); omega
  refine va_sld hx hb hX hbl (Nat.not_le.mpr hbl) hS (vp_in_iff.mpr (by omega)) dL_law_327 ?_
  refine W.eq (g2 := F0 m 328 ls [.int (xs (i.toNatClampNeg + 2)), .int (xs (i.toNatClampNeg + 1)), .ref a]) (congrArg (fun z => F0 m 328 ls [.int (xs z), .int (xs (i.toNatClampNeg + 1)), .ref a]) ejx102) ?_
  refine lv_aload_n hx hb dL_law_328 rfl (lv_at hl 3 rfl) ?_
  refine lv_iload_n hx hb dL_law_329 rfl (lv_at hl 0 rfl) ?_
  refine lv_iconst (v := 3) hx hb dL_law_330 (by decide) ?_
  refine lv_iadd hx hb dL_law_331 ?_
  refine lv_topi (fun x103 ex103 => ?_)
  have tx103 := i_add ex103 (by omega)
  have ejx103 : x103.toNatClampNeg = i.toNatClampNeg + 3 := by have h1 := i_cl (x := x103) (by omega); have h2 := i_cl (x := i) (by omega); omega
  refine va_sld hx hb hX hbl (Nat.not_le.mpr hbl) hS (vp_in_iff.mpr (by omega)) dL_law_332 ?_
  refine W.eq (g2 := F0 m 333 ls [.int (xs (i.toNatClampNeg + 3)), .int (xs (i.toNatClampNeg + 2)), .int (xs (i.toNatClampNeg + 1)), .ref a]) (congrArg (fun z => F0 m 333 ls [.int (xs z), .int (xs (i.toNatClampNeg + 2)), .int (xs (i.toNatClampNeg + 1)), .ref a]) ejx103) ?_
  refine x_V (As := [.int (xs (i.toNatClampNeg + 1)), .int (xs (i.toNatClampNeg + 2)), .int (xs (i.toNatClampNeg + 3))]) (rest := []) C (a_X9_of l K G H ((xs (i.toNatClampNeg + 1))) ((xs (i.toNatClampNeg + 2))) ((xs (i.toNatClampNeg + 3))) hT ga) yo_X9_of wM_L_28 ⟨⟨by decide, by decide⟩, show _ ≤ 284929 by omega, show _ ≤ 8247460 by omega⟩ (x_rv C hT (ci := 9) rfl ga rg_68) rfl hl.1 rfl (Nat.le_of_ble_eq_true rfl) dL_law_333 hS (AE_new hN hS.1) (fun vH104 H104 locsH104 pH104 zH104 kH104 hSH104 => ?_)
  obtain ⟨x105, hvH104, hTH104⟩ := pH104
  subst hvH104
  have g106 : CG (avw K H104 b) := CG.congr (fun k hk j => av_eff hT kH104 gb (by decide) (CG_eff [] (by decide) k hk)) cg
  have g107 : TU (avw K H104 b) (svw K H104 b) := TU.congr (fun k hk j => av_eff hT kH104 gb (by decide) (TU_eff [] (by decide) k hk)) (fun k hk => sv_eff hT kH104 gb (by decide)) tu
  have g108 : WD (avw K H104 b) := WD.congr (fun k hk j => av_eff hT kH104 gb (by decide) (WD_eff [] (by decide) k hk)) wd
  have g109 : IM (avw K H104 b) := IM.congr (fun k hk j => av_eff hT kH104 gb (by decide) (IM_eff [] (by decide) k hk)) im
  have m110 := (eta).trans (fI_kept (x_lt hT kH104 ga (by decide))).symm
  have m111 := (etb).trans (fI_kept (x_lt hT kH104 gb (by decide))).symm
  refine W.eq (g2 := F0 m 336 ls [.int x105]) rfl ?_
  refine lv_pop hx hb dL_law_336 rfl ?_
  refine lv_aload_n hx hb dL_law_337 rfl (lv_at hl 1 rfl) ?_
  refine lv_aload_n hx hb dL_law_338 rfl (lv_at hl 3 rfl) ?_
  refine lv_iload_n hx hb dL_law_339 rfl (lv_at hl 0 rfl) ?_
  refine lv_iconst (v := 1) hx hb dL_law_340 (by decide) ?_
  refine lv_iadd hx hb dL_law_341 ?_
  refine lv_topi (fun x112 ex112 => ?_)
  have tx112 := i_add ex112 (by omega)
  have ejx112 : x112.toNatClampNeg = i.toNatClampNeg + 1 := by have h1 := i_cl (x := x112) (by omega); have h2 := i_cl (x := i) (by omega); omega
  refine va_sld hx hb hX hbl (Nat.not_le.mpr hbl) hSH104 (vp_in_iff.mpr (by omega)) dL_law_342 ?_
  refine W.eq (g2 := F0 m 343 ls [.int (xs (i.toNatClampNeg + 1)), .ref b]) (congrArg (fun z => F0 m 343 ls [.int (xs z), .ref b]) ejx112) ?_
  refine lv_aload_n hx hb dL_law_343 rfl (lv_at hl 3 rfl) ?_
  refine lv_iload_n hx hb dL_law_344 rfl (lv_at hl 0 rfl) ?_
  refine lv_iconst (v := 2) hx hb dL_law_345 (by decide) ?_
  refine lv_iadd hx hb dL_law_346 ?_
  refine lv_topi (fun x113 ex113 => ?_)
  have tx113 := i_add ex113 (by omega)
  have ejx113 : x113.toNatClampNeg = i.toNatClampNeg + 2 := by have h1 := i_cl (x := x113) (by omega); have h2 := i_cl (x := i) (by omega); omega
  refine va_sld hx hb hX hbl (Nat.not_le.mpr hbl) hSH104 (vp_in_iff.mpr (by omega)) dL_law_347 ?_
  refine W.eq (g2 := F0 m 348 ls [.int (xs (i.toNatClampNeg + 2)), .int (xs (i.toNatClampNeg + 1)), .ref b]) (congrArg (fun z => F0 m 348 ls [.int (xs z), .int (xs (i.toNatClampNeg + 1)), .ref b]) ejx113) ?_
  refine lv_aload_n hx hb dL_law_348 rfl (lv_at hl 3 rfl) ?_
  refine lv_iload_n hx hb dL_law_349 rfl (lv_at hl 0 rfl) ?_
  refine lv_iconst (v := 3) hx hb dL_law_350 (by decide) ?_
  refine lv_iadd hx hb dL_law_351 ?_
  refine lv_topi (fun x114 ex114 => ?_)
  have tx114 := i_add ex114 (by omega)
  have ejx114 : x114.toNatClampNeg = i.toNatClampNeg + 3 := by have h1 := i_cl (x := x114) (by omega); have h2 := i_cl (x := i) (by omega); omega
  refine va_sld hx hb hX hbl (Nat.not_le.mpr hbl) hSH104 (vp_in_iff.mpr (by omega)) dL_law_352 ?_
  refine W.eq (g2 := F0 m 353 ls [.int (xs (i.toNatClampNeg + 3)), .int (xs (i.toNatClampNeg + 2)), .int (xs (i.toNatClampNeg + 1)), .ref b]) (congrArg (fun z => F0 m 353 ls [.int (xs z), .int (xs (i.toNatClampNeg + 2)), .int (xs (i.toNatClampNeg + 1)), .ref b]) ejx114) ?_
  refine x_V (As := [.int (xs (i.toNatClampNeg + 1)), .int (xs (i.toNatClampNeg + 2)), .int (xs (i.toNatClampNeg + 3))]) (rest := []) C (a_X10_of l K G H104 ((xs (i.toNatClampNeg + 1))) ((xs (i.toNatClampNeg + 2))) ((xs (i.toNatClampNeg + 3))) hTH104 gb g106 g107 g108 g109) yo_X10_of wM_L_32 ⟨⟨by decide, by decide⟩, show _ ≤ 284929 by omega, show _ ≤ 8247460 by omega⟩ (x_rv C hTH104 (ci := 10) rfl gb rg_112) rfl hl.1 rfl (Nat.le_of_ble_eq_true rfl) dL_law_353 hSH104 (AE_new hN hSH104.1) (fun vH115 H115 locsH115 pH115 zH115 kH115 hSH115 => ?_)
  obtain ⟨x116, hvH115, g117, g118, g119, g120, mf121, hTH115⟩ := pH115
  subst hvH115
  have m122 := (m110).trans (fI_kept (x_lt hTH104 kH115 ga (by decide))).symm
  have m123 := (m111).trans (MF.i mf121 (k := 18) (by decide) (by decide)).symm
  refine W.eq (g2 := F0 m 356 ls [.int x116]) rfl ?_
  refine lv_pop hx hb dL_law_356 rfl ?_
  refine lv_goto (tgt := 1509) hx hb dL_law_357 (by decide) ?_
  exact nx G H115 locsH115 _ _ ls ⟨hTH115, hN, ga, gb, g117, g118, g119, g120, (by rw [← m122, ← m123]; omega), hSH115⟩ hl (by omega) (by omega)
set_option maxRecDepth 100000 in
set_option maxHeartbeats 1000000 in
theorem lw_c4 {p : Program} {l : Launch} {e : Env} {s : State} {m : MethodId} {below : List Frame} {meth : Method} {c : Code} {K : KE} {b0 L : Nat} {xs : Nat → Int32} {G : Nat → Option Nat} {H : Heap} {locs : List Loc} {a b : Nat} {cells slots : Nat} {ls : Array Slot} {i : Int32} {n : Nat} (D : LC p K s m meth c b0 L xs) (S : SX K s G H locs a b) (hl : lv_has ls 4 [(3, .int i), (2, .ref b), (1, .ref a), (0, .ref b0)]) (hi : 0 ≤ i.toInt ∧ i.toInt + 6 ≤ L) (hn : n ≤ 511) (hc : cells ≤ 10000 + 434 * n) (hs : slots ≤ 200000 + 13027 * n) (nx : ∀ (G : Nat → Option Nat) (H : Heap) (locs : List Loc) (cells slots : Nat) (ls : Array Slot), SX K s G H locs a b → lv_has ls 4 [(3, .int i), (2, .ref b), (1, .ref a), (0, .ref b0)] → cells ≤ 10000 + 434 * (n + 1) → slots ≤ 200000 + 13027 * (n + 1) → W p l e room_1 s m #[Value.ref b0] below meth c H locs cells slots (lw_Z below #[Value.ref b0] s) (F0 m 1509 ls [])) : W p l e room_1 s m #[Value.ref b0] below meth c H locs cells slots (lw_Z below #[Value.ref b0] s) (F0 m 360 ls []) := by
  obtain ⟨C, hX, hbl, hL⟩ := id D
  obtain ⟨hx, hb, hml, hown, hts, hKT, hr, hlocks, hnm⟩ := id C
  obtain ⟨hT, hN, ga, gb, cg, tu, wd, im, rt, hS⟩ := S
  have n_1 : (1 : Int32).toInt = 1 := rfl
  have n_2 : (2 : Int32).toInt = 2 := rfl
  have n_3 : (3 : Int32).toInt = 3 := rfl
  have n_4 : (4 : Int32).toInt = 4 := rfl
  have n_5 : (5 : Int32).toInt = 5 := rfl
  obtain ⟨ta, eta⟩ : ∃ z : Int32, z = fI H a (K.1.2 9 3) := ⟨_, rfl⟩
  obtain ⟨tb, etb⟩ : ∃ z : Int32, z = fI H b (K.1.2 10 18) := ⟨_, rfl⟩
  rw [← eta, ← etb] at rt
  refine lv_aload_n hx hb dL_law_360 rfl (lv_at hl 2 rfl) ?_
  refine lv_aload_n hx hb dL_law_361 rfl (lv_at hl 3 rfl) ?_
  refine lv_iload_n hx hb dL_law_362 rfl (lv_at hl 0 rfl) ?_
  refine lv_iconst (v := 1) hx hb dL_law_363 (by decide) ?_
  refine lv_iadd hx hb dL_law_364 ?_
  refine lv_topi (fun x101 ex101 => ?_)
  have tx101 := i_add ex101 (by omega)
  have ejx101 : x101.toNatClampNeg = i.toNatClampNeg + 1 := by have h1 := i_cl (x := x101) (by omega); have h2 := i_cl (x := i) (by omega); omega
  refine va_sld hx hb hX hbl (Nat.not_le.mpr hbl) hS (vp_in_iff.mpr (by omega)) dL_law_365 ?_
  refine W.eq (g2 := F0 m 366 ls [.int (xs (i.toNatClampNeg + 1)), .ref a]) (congrArg (fun z => F0 m 366 ls [.int (xs z), .ref a]) ejx101) ?_
  refine lv_aload_n hx hb dL_law_366 rfl (lv_at hl 3 rfl) ?_
  refine lv_iload_n hx hb dL_law_367 rfl (lv_at hl 0 rfl) ?_
  refine lv_iconst (v := 2) hx hb dL_law_368 (by decide) ?_
  refine lv_iadd hx hb dL_law_369 ?_
  refine lv_topi (fun x102 ex102 => ?_)
  have tx102 := i_add ex102 (by omega)
  have ejx102 : x102.toNatClampNeg = i.toNatClampNeg + 2 := by have h1 := i_cl (x := x102) (by omega); have h2 := i_cl (x := i) (by omega); omega
  refine va_sld hx hb hX hbl (Nat.not_le.mpr hbl) hS (vp_in_iff.mpr (by omega)) dL_law_370 ?_
  refine W.eq (g2 := F0 m 371 ls [.int (xs (i.toNatClampNeg + 2)), .int (xs (i.toNatClampNeg + 1)), .ref a]) (congrArg (fun z => F0 m 371 ls [.int (xs z), .int (xs (i.toNatClampNeg + 1)), .ref a]) ejx102) ?_
  refine lv_aload_n hx hb dL_law_371 rfl (lv_at hl 3 rfl) ?_
  refine lv_iload_n hx hb dL_law_372 rfl (lv_at hl 0 rfl) ?_
  refine lv_iconst (v := 3) hx hb dL_law_373 (by decide) ?_
  refine lv_iadd hx hb dL_law_374 ?_
  refine lv_topi (fun x103 ex103 => ?_)
  have tx103 := i_add ex103 (by omega)
  have ejx103 : x103.toNatClampNeg = i.toNatClampNeg + 3 := by have h1 := i_cl (x := x103) (by omega); have h2 := i_cl (x := i) (by omega); omega
  refine va_sld hx hb hX hbl (Nat.not_le.mpr hbl) hS (vp_in_iff.mpr (by omega)) dL_law_375 ?_
  refine W.eq (g2 := F0 m 376 ls [.int (xs (i.toNatClampNeg + 3)), .int (xs (i.toNatClampNeg + 2)), .int (xs (i.toNatClampNeg + 1)), .ref a]) (congrArg (fun z => F0 m 376 ls [.int (xs z), .int (xs (i.toNatClampNeg + 2)), .int (xs (i.toNatClampNeg + 1)), .ref a]) ejx103) ?_
  refine lv_aload_n hx hb dL_law_376 rfl (lv_at hl 3 rfl) ?_
  refine lv_iload_n hx hb dL_law_377 rfl (lv_at hl 0 rfl) ?_
  refine lv_iconst (v := 4) hx hb dL_law_378 (by decide) ?_
  refine lv_iadd hx hb dL_law_379 ?_
  refine lv_topi (fun x104 ex104 => ?_)
  have tx104 := i_add ex104 (by omega)
  have ejx104 : x104.toNatClampNeg = i.toNatClampNeg + 4 := by have h1 := i_cl (x := x104) (by omega); have h2 := i_cl (x := i) (by omega); omega
  refine va_sld hx hb hX hbl (Nat.not_le.mpr hbl) hS (vp_in_iff.mpr (by omega)) dL_law_380 ?_
  refine W.eq (g2 := F0 m 381 ls [.int (xs (i.toNatClampNeg + 4)), .int (xs (i.toNatClampNeg + 3)), .int (xs (i.toNatClampNeg + 2)), .int (xs (i.toNatClampNeg + 1)), .ref a]) (congrArg (fun z => F0 m 381 ls [.int (xs z), .int (xs (i.toNatClampNeg + 3)), .int (xs (i.toNatClampNeg + 2)), .int (xs (i.toNatClampNeg + 1)), .ref a]) ejx104) ?_
  refine lv_aload_n hx hb dL_law_381 rfl (lv_at hl 3 rfl) ?_
  refine lv_iload_n hx hb dL_law_382 rfl (lv_at hl 0 rfl) ?_
  refine lv_iconst (v := 5) hx hb dL_law_383 (by decide) ?_
  refine lv_iadd hx hb dL_law_384 ?_
  refine lv_topi (fun x105 ex105 => ?_)
  have tx105 := i_add ex105 (by omega)
  have ejx105 : x105.toNatClampNeg = i.toNatClampNeg + 5 := by have h1 := i_cl (x := x105) (by omega); have h2 := i_cl (x := i) (by omega); omega
  refine va_sld hx hb hX hbl (Nat.not_le.mpr hbl) hS (vp_in_iff.mpr (by omega)) dL_law_385 ?_
  refine W.eq (g2 := F0 m 386 ls [.int (xs (i.toNatClampNeg + 5)), .int (xs (i.toNatClampNeg + 4)), .int (xs (i.toNatClampNeg + 3)), .int (xs (i.toNatClampNeg + 2)), .int (xs (i.toNatClampNeg + 1)), .ref a]) (congrArg (fun z => F0 m 386 ls [.int (xs z), .int (xs (i.toNatClampNeg + 4)), .int (xs (i.toNatClampNeg + 3)), .int (xs (i.toNatClampNeg + 2)), .int (xs (i.toNatClampNeg + 1)), .ref a]) ejx105) ?_
  refine x_V (As := [.int (xs (i.toNatClampNeg + 1)), .int (xs (i.toNatClampNeg + 2)), .int (xs (i.toNatClampNeg + 3)), .int (xs (i.toNatClampNeg + 4)), .int (xs (i.toNatClampNeg + 5))]) (rest := []) C (a_X9_feed_t l K G H ((xs (i.toNatClampNeg + 1))) ((xs (i.toNatClampNeg + 2))) ((xs (i.toNatClampNeg + 3))) ((xs (i.toNatClampNeg + 4))) ((xs (i.toNatClampNeg + 5))) (ta) hT ga eta) yo_X9_feed wM_L_33 ⟨⟨by decide, by decide⟩, show _ ≤ 284929 by omega, show _ ≤ 8247460 by omega⟩ (x_rv C hT (ci := 9) rfl ga rg_68) rfl hl.1 rfl (Nat.le_of_ble_eq_true rfl) dL_law_386 hS (AE_new hN hS.1) (fun vH106 H106 locsH106 pH106 zH106 kH106 hSH106 => ?_)
  obtain ⟨x107, x108, hvH106, ex108, hrH106, hTH106⟩ := pH106
  subst hvH106
  have g109 : CG (avw K H106 b) := CG.congr (fun k hk j => av_eff hT kH106 gb (by decide) (CG_eff [68, 108] (by decide) k hk)) cg
  have g110 : TU (avw K H106 b) (svw K H106 b) := TU.congr (fun k hk j => av_eff hT kH106 gb (by decide) (TU_eff [68, 108] (by decide) k hk)) (fun k hk => sv_eff hT kH106 gb (by decide)) tu
  have g111 : WD (avw K H106 b) := WD.congr (fun k hk j => av_eff hT kH106 gb (by decide) (WD_eff [68, 108] (by decide) k hk)) wd
  have g112 : IM (avw K H106 b) := IM.congr (fun k hk j => av_eff hT kH106 gb (by decide) (IM_eff [68, 108] (by decide) k hk)) im
  have m113 := (etb).trans (fI_kept (x_lt hT kH106 gb (by decide))).symm
  have bx108 := ty_fi (x := x108) (k := 3) ex108 hTH106 ga rg_68 rfl
  refine W.eq (g2 := F0 m 389 ls [.int x107]) rfl ?_
  refine lv_pop hx hb dL_law_389 rfl ?_
  refine lv_aload_n hx hb dL_law_390 rfl (lv_at hl 1 rfl) ?_
  refine lv_aload_n hx hb dL_law_391 rfl (lv_at hl 3 rfl) ?_
  refine lv_iload_n hx hb dL_law_392 rfl (lv_at hl 0 rfl) ?_
  refine lv_iconst (v := 1) hx hb dL_law_393 (by decide) ?_
  refine lv_iadd hx hb dL_law_394 ?_
  refine lv_topi (fun x114 ex114 => ?_)
  have tx114 := i_add ex114 (by omega)
  have ejx114 : x114.toNatClampNeg = i.toNatClampNeg + 1 := by have h1 := i_cl (x := x114) (by omega); have h2 := i_cl (x := i) (by omega); omega
  refine va_sld hx hb hX hbl (Nat.not_le.mpr hbl) hSH106 (vp_in_iff.mpr (by omega)) dL_law_395 ?_
  refine W.eq (g2 := F0 m 396 ls [.int (xs (i.toNatClampNeg + 1)), .ref b]) (congrArg (fun z => F0 m 396 ls [.int (xs z), .ref b]) ejx114) ?_
  refine lv_aload_n hx hb dL_law_396 rfl (lv_at hl 3 rfl) ?_
  refine lv_iload_n hx hb dL_law_397 rfl (lv_at hl 0 rfl) ?_
  refine lv_iconst (v := 2) hx hb dL_law_398 (by decide) ?_
  refine lv_iadd hx hb dL_law_399 ?_
  refine lv_topi (fun x115 ex115 => ?_)
  have tx115 := i_add ex115 (by omega)
  have ejx115 : x115.toNatClampNeg = i.toNatClampNeg + 2 := by have h1 := i_cl (x := x115) (by omega); have h2 := i_cl (x := i) (by omega); omega
  refine va_sld hx hb hX hbl (Nat.not_le.mpr hbl) hSH106 (vp_in_iff.mpr (by omega)) dL_law_400 ?_
  refine W.eq (g2 := F0 m 401 ls [.int (xs (i.toNatClampNeg + 2)), .int (xs (i.toNatClampNeg + 1)), .ref b]) (congrArg (fun z => F0 m 401 ls [.int (xs z), .int (xs (i.toNatClampNeg + 1)), .ref b]) ejx115) ?_
  refine lv_aload_n hx hb dL_law_401 rfl (lv_at hl 3 rfl) ?_
  refine lv_iload_n hx hb dL_law_402 rfl (lv_at hl 0 rfl) ?_
  refine lv_iconst (v := 3) hx hb dL_law_403 (by decide) ?_
  refine lv_iadd hx hb dL_law_404 ?_
  refine lv_topi (fun x116 ex116 => ?_)
  have tx116 := i_add ex116 (by omega)
  have ejx116 : x116.toNatClampNeg = i.toNatClampNeg + 3 := by have h1 := i_cl (x := x116) (by omega); have h2 := i_cl (x := i) (by omega); omega
  refine va_sld hx hb hX hbl (Nat.not_le.mpr hbl) hSH106 (vp_in_iff.mpr (by omega)) dL_law_405 ?_
  refine W.eq (g2 := F0 m 406 ls [.int (xs (i.toNatClampNeg + 3)), .int (xs (i.toNatClampNeg + 2)), .int (xs (i.toNatClampNeg + 1)), .ref b]) (congrArg (fun z => F0 m 406 ls [.int (xs z), .int (xs (i.toNatClampNeg + 2)), .int (xs (i.toNatClampNeg + 1)), .ref b]) ejx116) ?_
  refine lv_aload_n hx hb dL_law_406 rfl (lv_at hl 3 rfl) ?_
  refine lv_iload_n hx hb dL_law_407 rfl (lv_at hl 0 rfl) ?_
  refine lv_iconst (v := 4) hx hb dL_law_408 (by decide) ?_
  refine lv_iadd hx hb dL_law_409 ?_
  refine lv_topi (fun x117 ex117 => ?_)
  have tx117 := i_add ex117 (by omega)
  have ejx117 : x117.toNatClampNeg = i.toNatClampNeg + 4 := by have h1 := i_cl (x := x117) (by omega); have h2 := i_cl (x := i) (by omega); omega
  refine va_sld hx hb hX hbl (Nat.not_le.mpr hbl) hSH106 (vp_in_iff.mpr (by omega)) dL_law_410 ?_
  refine W.eq (g2 := F0 m 411 ls [.int (xs (i.toNatClampNeg + 4)), .int (xs (i.toNatClampNeg + 3)), .int (xs (i.toNatClampNeg + 2)), .int (xs (i.toNatClampNeg + 1)), .ref b]) (congrArg (fun z => F0 m 411 ls [.int (xs z), .int (xs (i.toNatClampNeg + 3)), .int (xs (i.toNatClampNeg + 2)), .int (xs (i.toNatClampNeg + 1)), .ref b]) ejx117) ?_
  refine lv_aload_n hx hb dL_law_411 rfl (lv_at hl 3 rfl) ?_
  refine lv_iload_n hx hb dL_law_412 rfl (lv_at hl 0 rfl) ?_
  refine lv_iconst (v := 5) hx hb dL_law_413 (by decide) ?_
  refine lv_iadd hx hb dL_law_414 ?_
  refine lv_topi (fun x118 ex118 => ?_)
  have tx118 := i_add ex118 (by omega)
  have ejx118 : x118.toNatClampNeg = i.toNatClampNeg + 5 := by have h1 := i_cl (x := x118) (by omega); have h2 := i_cl (x := i) (by omega); omega
  refine va_sld hx hb hX hbl (Nat.not_le.mpr hbl) hSH106 (vp_in_iff.mpr (by omega)) dL_law_415 ?_
  refine W.eq (g2 := F0 m 416 ls [.int (xs (i.toNatClampNeg + 5)), .int (xs (i.toNatClampNeg + 4)), .int (xs (i.toNatClampNeg + 3)), .int (xs (i.toNatClampNeg + 2)), .int (xs (i.toNatClampNeg + 1)), .ref b]) (congrArg (fun z => F0 m 416 ls [.int (xs z), .int (xs (i.toNatClampNeg + 4)), .int (xs (i.toNatClampNeg + 3)), .int (xs (i.toNatClampNeg + 2)), .int (xs (i.toNatClampNeg + 1)), .ref b]) ejx118) ?_
  refine x_V (As := [.int (xs (i.toNatClampNeg + 1)), .int (xs (i.toNatClampNeg + 2)), .int (xs (i.toNatClampNeg + 3)), .int (xs (i.toNatClampNeg + 4)), .int (xs (i.toNatClampNeg + 5))]) (rest := []) C (a_X10_feed_t l K G H106 ((xs (i.toNatClampNeg + 1))) ((xs (i.toNatClampNeg + 2))) ((xs (i.toNatClampNeg + 3))) ((xs (i.toNatClampNeg + 4))) ((xs (i.toNatClampNeg + 5))) (tb) hTH106 gb m113 g109 g110 g111 g112) yo_X10_feed wM_L_37 ⟨⟨by decide, by decide⟩, show _ ≤ 284929 by omega, show _ ≤ 8247460 by omega⟩ (x_rv C hTH106 (ci := 10) rfl gb rg_112) rfl hl.1 rfl (Nat.le_of_ble_eq_true rfl) dL_law_416 hSH106 (AE_new hN hSH106.1) (fun vH119 H119 locsH119 pH119 zH119 kH119 hSH119 => ?_)
  obtain ⟨x120, x121, hvH119, ex121, hrH119, g122, g123, g124, g125, mf126, hTH119⟩ := pH119
  subst hvH119
  have m127 := (ex108).trans (fI_kept (x_lt hTH106 kH119 ga (by decide))).symm
  have bx121 := ty_fi (x := x121) (k := 18) ex121 hTH119 gb rg_112 rfl
  refine W.eq (g2 := F0 m 419 ls [.int x120]) rfl ?_
  refine lv_pop hx hb dL_law_419 rfl ?_
  refine lv_goto (tgt := 1509) hx hb dL_law_420 (by decide) ?_
  exact nx G H119 locsH119 _ _ ls ⟨hTH119, hN, ga, gb, g122, g123, g124, g125, (by rw [← m127, ← ex121]; omega), hSH119⟩ hl (by omega) (by omega)
set_option maxRecDepth 100000 in
set_option maxHeartbeats 1000000 in
theorem lw_c5 {p : Program} {l : Launch} {e : Env} {s : State} {m : MethodId} {below : List Frame} {meth : Method} {c : Code} {K : KE} {b0 L : Nat} {xs : Nat → Int32} {G : Nat → Option Nat} {H : Heap} {locs : List Loc} {a b : Nat} {cells slots : Nat} {ls : Array Slot} {i : Int32} {n : Nat} (D : LC p K s m meth c b0 L xs) (S : SX K s G H locs a b) (hl : lv_has ls 4 [(3, .int i), (2, .ref b), (1, .ref a), (0, .ref b0)]) (hi : 0 ≤ i.toInt ∧ i.toInt + 6 ≤ L) (hn : n ≤ 511) (hc : cells ≤ 10000 + 434 * n) (hs : slots ≤ 200000 + 13027 * n) (nx : ∀ (G : Nat → Option Nat) (H : Heap) (locs : List Loc) (cells slots : Nat) (ls : Array Slot), SX K s G H locs a b → lv_has ls 4 [(3, .int i), (2, .ref b), (1, .ref a), (0, .ref b0)] → cells ≤ 10000 + 434 * (n + 1) → slots ≤ 200000 + 13027 * (n + 1) → W p l e room_1 s m #[Value.ref b0] below meth c H locs cells slots (lw_Z below #[Value.ref b0] s) (F0 m 1509 ls [])) : W p l e room_1 s m #[Value.ref b0] below meth c H locs cells slots (lw_Z below #[Value.ref b0] s) (F0 m 423 ls []) := by
  obtain ⟨C, hX, hbl, hL⟩ := id D
  obtain ⟨hx, hb, hml, hown, hts, hKT, hr, hlocks, hnm⟩ := id C
  obtain ⟨hT, hN, ga, gb, cg, tu, wd, im, rt, hS⟩ := S
  have n_1 : (1 : Int32).toInt = 1 := rfl
  obtain ⟨ta, eta⟩ : ∃ z : Int32, z = fI H a (K.1.2 9 3) := ⟨_, rfl⟩
  obtain ⟨tb, etb⟩ : ∃ z : Int32, z = fI H b (K.1.2 10 18) := ⟨_, rfl⟩
  rw [← eta, ← etb] at rt
  refine lv_aload_n hx hb dL_law_423 rfl (lv_at hl 2 rfl) ?_
  refine lv_aload_n hx hb dL_law_424 rfl (lv_at hl 3 rfl) ?_
  refine lv_iload_n hx hb dL_law_425 rfl (lv_at hl 0 rfl) ?_
  refine lv_iconst (v := 1) hx hb dL_law_426 (by decide) ?_
  refine lv_iadd hx hb dL_law_427 ?_
  refine lv_topi (fun x101 ex101 => ?_)
  have tx101 := i_add ex101 (by omega)
  have ejx101 : x101.toNatClampNeg = i.toNatClampNeg + 1 := by have h1 := i_cl (x := x101) (by omega); have h2 := i_cl (x := i) (by omega); omega
  refine va_sld hx hb hX hbl (Nat.not_le.mpr hbl) hS (vp_in_iff.mpr (by omega)) dL_law_428 ?_
  refine W.eq (g2 := F0 m 429 ls [.int (xs (i.toNatClampNeg + 1)), .ref a]) (congrArg (fun z => F0 m 429 ls [.int (xs z), .ref a]) ejx101) ?_
  refine x_V (As := [.int (xs (i.toNatClampNeg + 1))]) (rest := []) C (a_X9_end_t l K G H ((xs (i.toNatClampNeg + 1))) (ta) hT ga eta) yo_X9_end wM_L_38 ⟨⟨by decide, by decide⟩, show _ ≤ 284929 by omega, show _ ≤ 8247460 by omega⟩ (x_rv C hT (ci := 9) rfl ga rg_68) rfl hl.1 rfl (Nat.le_of_ble_eq_true rfl) dL_law_429 hS (AE_new hN hS.1) (fun vH102 H102 locsH102 pH102 zH102 kH102 hSH102 => ?_)
  obtain ⟨x103, x104, hvH102, bx103, ex104, hrH102, hTH102⟩ := pH102
  subst hvH102
  have g105 : CG (avw K H102 b) := CG.congr (fun k hk j => av_eff hT kH102 gb (by decide) (CG_eff [68] (by decide) k hk)) cg
  have g106 : TU (avw K H102 b) (svw K H102 b) := TU.congr (fun k hk j => av_eff hT kH102 gb (by decide) (TU_eff [68] (by decide) k hk)) (fun k hk => sv_eff hT kH102 gb (by decide)) tu
  have g107 : WD (avw K H102 b) := WD.congr (fun k hk j => av_eff hT kH102 gb (by decide) (WD_eff [68] (by decide) k hk)) wd
  have g108 : IM (avw K H102 b) := IM.congr (fun k hk j => av_eff hT kH102 gb (by decide) (IM_eff [68] (by decide) k hk)) im
  have m109 := (etb).trans (fI_kept (x_lt hT kH102 gb (by decide))).symm
  have bx104 := ty_fi (x := x104) (k := 3) ex104 hTH102 ga rg_68 rfl
  refine W.eq (g2 := F0 m 432 ls [.int x103]) rfl ?_
  refine lv_aload_n hx hb dL_law_432 rfl (lv_at hl 1 rfl) ?_
  refine lv_aload_n hx hb dL_law_433 rfl (lv_at hl 3 rfl) ?_
  refine lv_iload_n hx hb dL_law_434 rfl (lv_at hl 0 rfl) ?_
  refine lv_iconst (v := 1) hx hb dL_law_435 (by decide) ?_
  refine lv_iadd hx hb dL_law_436 ?_
  refine lv_topi (fun x110 ex110 => ?_)
  have tx110 := i_add ex110 (by omega)
  have ejx110 : x110.toNatClampNeg = i.toNatClampNeg + 1 := by have h1 := i_cl (x := x110) (by omega); have h2 := i_cl (x := i) (by omega); omega
  refine va_sld hx hb hX hbl (Nat.not_le.mpr hbl) hSH102 (vp_in_iff.mpr (by omega)) dL_law_437 ?_
  refine W.eq (g2 := F0 m 438 ls [.int (xs (i.toNatClampNeg + 1)), .ref b, .int x103]) (congrArg (fun z => F0 m 438 ls [.int (xs z), .ref b, .int x103]) ejx110) ?_
  refine x_V (As := [.int (xs (i.toNatClampNeg + 1))]) (rest := [.int x103]) C (a_X10_end_t l K G H102 ((xs (i.toNatClampNeg + 1))) (tb) hTH102 gb m109 g105 g106 g107 g108) yo_X10_end wM_L_42 ⟨⟨by decide, by decide⟩, show _ ≤ 284929 by omega, show _ ≤ 8247460 by omega⟩ (x_rv C hTH102 (ci := 10) rfl gb rg_112) rfl hl.1 rfl (Nat.le_of_ble_eq_true rfl) dL_law_438 hSH102 (AE_new hN hSH102.1) (fun vH111 H111 locsH111 pH111 zH111 kH111 hSH111 => ?_)
  obtain ⟨x112, x113, hvH111, bx112, ex113, hrH111, g114, g115, g116, g117, mf118, hTH111⟩ := pH111
  subst hvH111
  have m119 := (ex104).trans (fI_kept (x_lt hTH102 kH111 ga (by decide))).symm
  have bx113 := ty_fi (x := x113) (k := 18) ex113 hTH111 gb rg_112 rfl
  refine W.eq (g2 := F0 m 441 ls [.int x112, .int x103]) rfl ?_
  refine lv_icmp_eq (tgt := 1509) hx hb dL_law_441 (by decide) (fun ce => ?_) (fun ce => ?_)
  · skip
    exact nx G H111 locsH111 _ _ ls ⟨hTH111, hN, ga, gb, g114, g115, g116, g117, (by rw [← m119, ← ex113]; omega), hSH111⟩ hl (by omega) (by omega)
  · exfalso
    have := i_ne ce
    omega
set_option maxRecDepth 100000 in
set_option maxHeartbeats 1000000 in
theorem lw_c6 {p : Program} {l : Launch} {e : Env} {s : State} {m : MethodId} {below : List Frame} {meth : Method} {c : Code} {K : KE} {b0 L : Nat} {xs : Nat → Int32} {G : Nat → Option Nat} {H : Heap} {locs : List Loc} {a b : Nat} {cells slots : Nat} {ls : Array Slot} {i : Int32} {n : Nat} (D : LC p K s m meth c b0 L xs) (S : SX K s G H locs a b) (hl : lv_has ls 4 [(3, .int i), (2, .ref b), (1, .ref a), (0, .ref b0)]) (hi : 0 ≤ i.toInt ∧ i.toInt + 6 ≤ L) (hn : n ≤ 511) (hc : cells ≤ 10000 + 434 * n) (hs : slots ≤ 200000 + 13027 * n) (nx : ∀ (G : Nat → Option Nat) (H : Heap) (locs : List Loc) (cells slots : Nat) (ls : Array Slot), SX K s G H locs a b → lv_has ls 4 [(3, .int i), (2, .ref b), (1, .ref a), (0, .ref b0)] → cells ≤ 10000 + 434 * (n + 1) → slots ≤ 200000 + 13027 * (n + 1) → W p l e room_1 s m #[Value.ref b0] below meth c H locs cells slots (lw_Z below #[Value.ref b0] s) (F0 m 1509 ls [])) : W p l e room_1 s m #[Value.ref b0] below meth c H locs cells slots (lw_Z below #[Value.ref b0] s) (F0 m 446 ls []) := by
  obtain ⟨C, hX, hbl, hL⟩ := id D
  obtain ⟨hx, hb, hml, hown, hts, hKT, hr, hlocks, hnm⟩ := id C
  obtain ⟨hT, hN, ga, gb, cg, tu, wd, im, rt, hS⟩ := S
  have n_0 : (0 : Int32).toInt = 0 := rfl
  have n_1 : (1 : Int32).toInt = 1 := rfl
  have n_2 : (2 : Int32).toInt = 2 := rfl
  obtain ⟨ta, eta⟩ : ∃ z : Int32, z = fI H a (K.1.2 9 3) := ⟨_, rfl⟩
  obtain ⟨tb, etb⟩ : ∃ z : Int32, z = fI H b (K.1.2 10 18) := ⟨_, rfl⟩
  rw [← eta, ← etb] at rt
  refine lv_aload_n hx hb dL_law_446 rfl (lv_at hl 2 rfl) ?_
  refine lv_aload_n hx hb dL_law_447 rfl (lv_at hl 3 rfl) ?_
  refine lv_iload_n hx hb dL_law_448 rfl (lv_at hl 0 rfl) ?_
  refine lv_iconst (v := 1) hx hb dL_law_449 (by decide) ?_
  refine lv_iadd hx hb dL_law_450 ?_
  refine lv_topi (fun x101 ex101 => ?_)
  have tx101 := i_add ex101 (by omega)
  have ejx101 : x101.toNatClampNeg = i.toNatClampNeg + 1 := by have h1 := i_cl (x := x101) (by omega); have h2 := i_cl (x := i) (by omega); omega
  refine va_sld hx hb hX hbl (Nat.not_le.mpr hbl) hS (vp_in_iff.mpr (by omega)) dL_law_451 ?_
  refine W.eq (g2 := F0 m 452 ls [.int (xs (i.toNatClampNeg + 1)), .ref a]) (congrArg (fun z => F0 m 452 ls [.int (xs z), .ref a]) ejx101) ?_
  refine lv_aload_n hx hb dL_law_452 rfl (lv_at hl 3 rfl) ?_
  refine lv_iload_n hx hb dL_law_453 rfl (lv_at hl 0 rfl) ?_
  refine lv_iconst (v := 2) hx hb dL_law_454 (by decide) ?_
  refine lv_iadd hx hb dL_law_455 ?_
  refine lv_topi (fun x102 ex102 => ?_)
  have tx102 := i_add ex102 (by omega)
  have ejx102 : x102.toNatClampNeg = i.toNatClampNeg + 2 := by have h1 := i_cl (x := x102) (by omega); have h2 := i_cl (x := i) (by omega); omega
  refine va_sld hx hb hX hbl (Nat.not_le.mpr hbl) hS (vp_in_iff.mpr (by omega)) dL_law_456 ?_
  refine W.eq (g2 := F0 m 457 ls [.int (xs (i.toNatClampNeg + 2)), .int (xs (i.toNatClampNeg + 1)), .ref a]) (congrArg (fun z => F0 m 457 ls [.int (xs z), .int (xs (i.toNatClampNeg + 1)), .ref a]) ejx102) ?_
  refine x_V (As := [.int (xs (i.toNatClampNeg + 1)), .int (xs (i.toNatClampNeg + 2))]) (rest := []) C (a_X9_text_t l K G H (xs (i.toNatClampNeg + 1)) (xs (i.toNatClampNeg + 2)) hT ga) yo_X9_text wM_L_43 ⟨⟨by decide, by decide⟩, show _ ≤ 284929 by omega, show _ ≤ 8247460 by omega⟩ (x_rv C hT (ci := 9) rfl ga rg_68) rfl hl.1 rfl (Nat.le_of_ble_eq_true rfl) dL_law_457 hS (AE_new hN hS.1) (fun vH103 H103 locsH103 pH103 zH103 kH103 hSH103 => ?_)
  obtain ⟨x104, hvH103, m105, hTH103⟩ := pH103
  subst hvH103
  have g106 : CG (avw K H103 b) := CG.congr (fun k hk j => av_eff hT kH103 gb (by decide) (CG_eff [68, 0, 78, 79, 80, 81, 69, 70, 71, 72, 73, 74, 75, 76, 77, 16, 17, 18, 19, 20, 21, 22, 23, 24] (by decide) k hk)) cg
  have g107 : TU (avw K H103 b) (svw K H103 b) := TU.congr (fun k hk j => av_eff hT kH103 gb (by decide) (TU_eff [68, 0, 78, 79, 80, 81, 69, 70, 71, 72, 73, 74, 75, 76, 77, 16, 17, 18, 19, 20, 21, 22, 23, 24] (by decide) k hk)) (fun k hk => sv_eff hT kH103 gb (by decide)) tu
  have g108 : WD (avw K H103 b) := WD.congr (fun k hk j => av_eff hT kH103 gb (by decide) (WD_eff [68, 0, 78, 79, 80, 81, 69, 70, 71, 72, 73, 74, 75, 76, 77, 16, 17, 18, 19, 20, 21, 22, 23, 24] (by decide) k hk)) wd
  have g109 : IM (avw K H103 b) := IM.congr (fun k hk j => av_eff hT kH103 gb (by decide) (IM_eff [68, 0, 78, 79, 80, 81, 69, 70, 71, 72, 73, 74, 75, 76, 77, 16, 17, 18, 19, 20, 21, 22, 23, 24] (by decide) k hk)) im
  have m110 := (etb).trans (fI_kept (x_lt hT kH103 gb (by decide))).symm
  refine W.eq (g2 := F0 m 460 ls [.int x104]) rfl ?_
  refine lv_pop hx hb dL_law_460 rfl ?_
  refine lv_aload_n hx hb dL_law_461 rfl (lv_at hl 1 rfl) ?_
  refine lv_aload_n hx hb dL_law_462 rfl (lv_at hl 3 rfl) ?_
  refine lv_iload_n hx hb dL_law_463 rfl (lv_at hl 0 rfl) ?_
  refine lv_iconst (v := 1) hx hb dL_law_464 (by decide) ?_
  refine lv_iadd hx hb dL_law_465 ?_
  refine lv_topi (fun x111 ex111 => ?_)
  have tx111 := i_add ex111 (by omega)
  have ejx111 : x111.toNatClampNeg = i.toNatClampNeg + 1 := by have h1 := i_cl (x := x111) (by omega); have h2 := i_cl (x := i) (by omega); omega
  refine va_sld hx hb hX hbl (Nat.not_le.mpr hbl) hSH103 (vp_in_iff.mpr (by omega)) dL_law_466 ?_
  refine W.eq (g2 := F0 m 467 ls [.int (xs (i.toNatClampNeg + 1)), .ref b]) (congrArg (fun z => F0 m 467 ls [.int (xs z), .ref b]) ejx111) ?_
  refine lv_aload_n hx hb dL_law_467 rfl (lv_at hl 3 rfl) ?_
  refine lv_iload_n hx hb dL_law_468 rfl (lv_at hl 0 rfl) ?_
  refine lv_iconst (v := 2) hx hb dL_law_469 (by decide) ?_
  refine lv_iadd hx hb dL_law_470 ?_
  refine lv_topi (fun x112 ex112 => ?_)
  have tx112 := i_add ex112 (by omega)
  have ejx112 : x112.toNatClampNeg = i.toNatClampNeg + 2 := by have h1 := i_cl (x := x112) (by omega); have h2 := i_cl (x := i) (by omega); omega
  refine va_sld hx hb hX hbl (Nat.not_le.mpr hbl) hSH103 (vp_in_iff.mpr (by omega)) dL_law_471 ?_
  refine W.eq (g2 := F0 m 472 ls [.int (xs (i.toNatClampNeg + 2)), .int (xs (i.toNatClampNeg + 1)), .ref b]) (congrArg (fun z => F0 m 472 ls [.int (xs z), .int (xs (i.toNatClampNeg + 1)), .ref b]) ejx112) ?_
  obtain ⟨q113, eq113⟩ : ∃ z : Nat, z = fR H103 b (K.1.2 10 32) := ⟨_, rfl⟩
  have gq113 := ty_fr (q := q113) (k := 32) (u := 136) eq113 hTH103 gb rg_112 rfl
  obtain ⟨q114, eq114⟩ : ∃ z : Nat, z = fR H103 b (K.1.2 10 33) := ⟨_, rfl⟩
  have gq114 := ty_fr (q := q114) (k := 33) (u := 137) eq114 hTH103 gb rg_112 rfl
  obtain ⟨q115, eq115⟩ : ∃ z : Nat, z = fR H103 b (K.1.2 10 29) := ⟨_, rfl⟩
  have gq115 := ty_fr (q := q115) (k := 29) (u := 133) eq115 hTH103 gb rg_112 rfl
  obtain ⟨q116, eq116⟩ : ∃ z : Nat, z = fR H103 b (K.1.2 10 30) := ⟨_, rfl⟩
  have gq116 := ty_fr (q := q116) (k := 30) (u := 134) eq116 hTH103 gb rg_112 rfl
  obtain ⟨q117, eq117⟩ : ∃ z : Nat, z = fR H103 b (K.1.2 10 31) := ⟨_, rfl⟩
  have gq117 := ty_fr (q := q117) (k := 31) (u := 135) eq117 hTH103 gb rg_112 rfl
  obtain ⟨q118, eq118⟩ : ∃ z : Nat, z = fR H103 b (K.1.2 10 24) := ⟨_, rfl⟩
  have gq118 := ty_fr (q := q118) (k := 24) (u := 128) eq118 hTH103 gb rg_112 rfl
  obtain ⟨x119, ex119⟩ : ∃ z : Int32, z = fI H103 b (K.1.2 10 35) := ⟨_, rfl⟩
  have bx119 := ty_fi (x := x119) (k := 35) ex119 hTH103 gb rg_112 rfl
  refine x_V (As := [.int (xs (i.toNatClampNeg + 1)), .int (xs (i.toNatClampNeg + 2))]) (rest := []) C (a_X10_text l K G H103 ((xs (i.toNatClampNeg + 1))) ((xs (i.toNatClampNeg + 2))) (x119) (tb) hTH103 gb gq113 eq113 gq114 eq114 gq115 eq115 gq116 eq116 gq117 eq117 gq118 eq118 ex119 m110 g106 g107 g108 g109) yo_X10_text wM_L_47 ⟨⟨by decide, by decide⟩, show _ ≤ 284929 by omega, show _ ≤ 8247460 by omega⟩ (x_rv C hTH103 (ci := 10) rfl gb rg_112) rfl hl.1 rfl (Nat.le_of_ble_eq_true rfl) dL_law_472 hSH103 (AE_new hN hSH103.1) (fun vH120 H120 locsH120 pH120 zH120 kH120 hSH120 => ?_)
  obtain ⟨x121, x122, x123, hvH120, ex122, ex123, hrH120, m124, m125, m126, m127, m128, m129, g130, g131, g132, g133, mf134, hTH120⟩ := pH120
  subst hvH120
  have m135 := (fI_kept (x_lt hTH103 kH120 ga (by decide))).trans m105
  have m136 := (eq113).trans (MF.r mf134 (k := 32) (by decide) (by decide)).symm
  have m137 := (eq114).trans (MF.r mf134 (k := 33) (by decide) (by decide)).symm
  have m138 := (eq115).trans (MF.r mf134 (k := 29) (by decide) (by decide)).symm
  have m139 := (eq116).trans (MF.r mf134 (k := 30) (by decide) (by decide)).symm
  have m140 := (eq117).trans (MF.r mf134 (k := 31) (by decide) (by decide)).symm
  have m141 := (eq118).trans (MF.r mf134 (k := 24) (by decide) (by decide)).symm
  have bx122 := ty_fi (x := x122) (k := 35) ex122 hTH120 gb rg_112 rfl
  have bx123 := ty_fi (x := x123) (k := 18) ex123 hTH120 gb rg_112 rfl
  refine W.eq (g2 := F0 m 475 ls [.int x121]) rfl ?_
  refine lv_pop hx hb dL_law_475 rfl ?_
  refine lv_goto (tgt := 1509) hx hb dL_law_476 (by decide) ?_
  exact nx G H120 locsH120 _ _ ls ⟨hTH120, hN, ga, gb, g130, g131, g132, g133, (by rw [m135, ← ex123]; omega), hSH120⟩ hl (by omega) (by omega)
set_option maxRecDepth 100000 in
set_option maxHeartbeats 1000000 in
theorem lw_c7 {p : Program} {l : Launch} {e : Env} {s : State} {m : MethodId} {below : List Frame} {meth : Method} {c : Code} {K : KE} {b0 L : Nat} {xs : Nat → Int32} {G : Nat → Option Nat} {H : Heap} {locs : List Loc} {a b : Nat} {cells slots : Nat} {ls : Array Slot} {i : Int32} {n : Nat} (D : LC p K s m meth c b0 L xs) (S : SX K s G H locs a b) (hl : lv_has ls 4 [(3, .int i), (2, .ref b), (1, .ref a), (0, .ref b0)]) (hi : 0 ≤ i.toInt ∧ i.toInt + 6 ≤ L) (hn : n ≤ 511) (hc : cells ≤ 10000 + 434 * n) (hs : slots ≤ 200000 + 13027 * n) (nx : ∀ (G : Nat → Option Nat) (H : Heap) (locs : List Loc) (cells slots : Nat) (ls : Array Slot), SX K s G H locs a b → lv_has ls 4 [(3, .int i), (2, .ref b), (1, .ref a), (0, .ref b0)] → cells ≤ 10000 + 434 * (n + 1) → slots ≤ 200000 + 13027 * (n + 1) → W p l e room_1 s m #[Value.ref b0] below meth c H locs cells slots (lw_Z below #[Value.ref b0] s) (F0 m 1509 ls [])) : W p l e room_1 s m #[Value.ref b0] below meth c H locs cells slots (lw_Z below #[Value.ref b0] s) (F0 m 479 ls []) := by
  obtain ⟨C, hX, hbl, hL⟩ := id D
  obtain ⟨hx, hb, hml, hown, hts, hKT, hr, hlocks, hnm⟩ := id C
  obtain ⟨hT, hN, ga, gb, cg, tu, wd, im, rt, hS⟩ := S
  have n_1 : (1 : Int32).toInt = 1 := rfl
  obtain ⟨ta, eta⟩ : ∃ z : Int32, z = fI H a (K.1.2 9 3) := ⟨_, rfl⟩
  obtain ⟨tb, etb⟩ : ∃ z : Int32, z = fI H b (K.1.2 10 18) := ⟨_, rfl⟩
  rw [← eta, ← etb] at rt
  refine lv_aload_n hx hb dL_law_479 rfl (lv_at hl 2 rfl) ?_
  refine lv_aload_n hx hb dL_law_480 rfl (lv_at hl 3 rfl) ?_
  refine lv_iload_n hx hb dL_law_481 rfl (lv_at hl 0 rfl) ?_
  refine lv_iconst (v := 1) hx hb dL_law_482 (by decide) ?_
  refine lv_iadd hx hb dL_law_483 ?_
  refine lv_topi (fun x101 ex101 => ?_)
  have tx101 := i_add ex101 (by omega)
  have ejx101 : x101.toNatClampNeg = i.toNatClampNeg + 1 := by have h1 := i_cl (x := x101) (by omega); have h2 := i_cl (x := i) (by omega); omega
  refine va_sld hx hb hX hbl (Nat.not_le.mpr hbl) hS (vp_in_iff.mpr (by omega)) dL_law_484 ?_
  refine W.eq (g2 := F0 m 485 ls [.int (xs (i.toNatClampNeg + 1)), .ref a]) (congrArg (fun z => F0 m 485 ls [.int (xs z), .ref a]) ejx101) ?_
  refine x_V (As := [.int (xs (i.toNatClampNeg + 1))]) (rest := []) C (a_X9_fault l K G H ((xs (i.toNatClampNeg + 1))) hT ga) yo_X9_fault wM_L_48 ⟨⟨by decide, by decide⟩, show _ ≤ 284929 by omega, show _ ≤ 8247460 by omega⟩ (x_rv C hT (ci := 9) rfl ga rg_68) rfl hl.1 rfl (Nat.le_of_ble_eq_true rfl) dL_law_485 hS (AE_new hN hS.1) (fun vH102 H102 locsH102 pH102 zH102 kH102 hSH102 => ?_)
  obtain ⟨x103, hvH102, hTH102⟩ := pH102
  subst hvH102
  have g104 : CG (avw K H102 b) := CG.congr (fun k hk j => av_eff hT kH102 gb (by decide) (CG_eff [] (by decide) k hk)) cg
  have g105 : TU (avw K H102 b) (svw K H102 b) := TU.congr (fun k hk j => av_eff hT kH102 gb (by decide) (TU_eff [] (by decide) k hk)) (fun k hk => sv_eff hT kH102 gb (by decide)) tu
  have g106 : WD (avw K H102 b) := WD.congr (fun k hk j => av_eff hT kH102 gb (by decide) (WD_eff [] (by decide) k hk)) wd
  have g107 : IM (avw K H102 b) := IM.congr (fun k hk j => av_eff hT kH102 gb (by decide) (IM_eff [] (by decide) k hk)) im
  have m108 := (eta).trans (fI_kept (x_lt hT kH102 ga (by decide))).symm
  have m109 := (etb).trans (fI_kept (x_lt hT kH102 gb (by decide))).symm
  refine W.eq (g2 := F0 m 488 ls [.int x103]) rfl ?_
  refine lv_pop hx hb dL_law_488 rfl ?_
  refine lv_aload_n hx hb dL_law_489 rfl (lv_at hl 1 rfl) ?_
  refine lv_aload_n hx hb dL_law_490 rfl (lv_at hl 3 rfl) ?_
  refine lv_iload_n hx hb dL_law_491 rfl (lv_at hl 0 rfl) ?_
  refine lv_iconst (v := 1) hx hb dL_law_492 (by decide) ?_
  refine lv_iadd hx hb dL_law_493 ?_
  refine lv_topi (fun x110 ex110 => ?_)
  have tx110 := i_add ex110 (by omega)
  have ejx110 : x110.toNatClampNeg = i.toNatClampNeg + 1 := by have h1 := i_cl (x := x110) (by omega); have h2 := i_cl (x := i) (by omega); omega
  refine va_sld hx hb hX hbl (Nat.not_le.mpr hbl) hSH102 (vp_in_iff.mpr (by omega)) dL_law_494 ?_
  refine W.eq (g2 := F0 m 495 ls [.int (xs (i.toNatClampNeg + 1)), .ref b]) (congrArg (fun z => F0 m 495 ls [.int (xs z), .ref b]) ejx110) ?_
  refine x_V (As := [.int (xs (i.toNatClampNeg + 1))]) (rest := []) C (a_X10_fault l K G H102 ((xs (i.toNatClampNeg + 1))) hTH102 gb g104 g105 g106 g107) yo_X10_fault wM_L_51 ⟨⟨by decide, by decide⟩, show _ ≤ 284929 by omega, show _ ≤ 8247460 by omega⟩ (x_rv C hTH102 (ci := 10) rfl gb rg_112) rfl hl.1 rfl (Nat.le_of_ble_eq_true rfl) dL_law_495 hSH102 (AE_new hN hSH102.1) (fun vH111 H111 locsH111 pH111 zH111 kH111 hSH111 => ?_)
  obtain ⟨x112, hvH111, g113, g114, g115, g116, mf117, hTH111⟩ := pH111
  subst hvH111
  have m118 := (m108).trans (fI_kept (x_lt hTH102 kH111 ga (by decide))).symm
  have m119 := (m109).trans (MF.i mf117 (k := 18) (by decide) (by decide)).symm
  refine W.eq (g2 := F0 m 498 ls [.int x112]) rfl ?_
  refine lv_pop hx hb dL_law_498 rfl ?_
  refine lv_goto (tgt := 1509) hx hb dL_law_499 (by decide) ?_
  exact nx G H111 locsH111 _ _ ls ⟨hTH111, hN, ga, gb, g113, g114, g115, g116, (by rw [← m118, ← m119]; omega), hSH111⟩ hl (by omega) (by omega)
set_option maxRecDepth 100000 in
set_option maxHeartbeats 1000000 in
theorem lw_c8 {p : Program} {l : Launch} {e : Env} {s : State} {m : MethodId} {below : List Frame} {meth : Method} {c : Code} {K : KE} {b0 L : Nat} {xs : Nat → Int32} {G : Nat → Option Nat} {H : Heap} {locs : List Loc} {a b : Nat} {cells slots : Nat} {ls : Array Slot} {i : Int32} {n : Nat} (D : LC p K s m meth c b0 L xs) (S : SX K s G H locs a b) (hl : lv_has ls 4 [(3, .int i), (2, .ref b), (1, .ref a), (0, .ref b0)]) (hi : 0 ≤ i.toInt ∧ i.toInt + 6 ≤ L) (hn : n ≤ 511) (hc : cells ≤ 10000 + 434 * n) (hs : slots ≤ 200000 + 13027 * n) (nx : ∀ (G : Nat → Option Nat) (H : Heap) (locs : List Loc) (cells slots : Nat) (ls : Array Slot), SX K s G H locs a b → lv_has ls 4 [(3, .int i), (2, .ref b), (1, .ref a), (0, .ref b0)] → cells ≤ 10000 + 434 * (n + 1) → slots ≤ 200000 + 13027 * (n + 1) → W p l e room_1 s m #[Value.ref b0] below meth c H locs cells slots (lw_Z below #[Value.ref b0] s) (F0 m 1509 ls [])) : W p l e room_1 s m #[Value.ref b0] below meth c H locs cells slots (lw_Z below #[Value.ref b0] s) (F0 m 502 ls []) := by
  obtain ⟨C, hX, hbl, hL⟩ := id D
  obtain ⟨hx, hb, hml, hown, hts, hKT, hr, hlocks, hnm⟩ := id C
  obtain ⟨hT, hN, ga, gb, cg, tu, wd, im, rt, hS⟩ := S
  have n_1 : (1 : Int32).toInt = 1 := rfl
  obtain ⟨ta, eta⟩ : ∃ z : Int32, z = fI H a (K.1.2 9 3) := ⟨_, rfl⟩
  obtain ⟨tb, etb⟩ : ∃ z : Int32, z = fI H b (K.1.2 10 18) := ⟨_, rfl⟩
  rw [← eta, ← etb] at rt
  refine lv_aload_n hx hb dL_law_502 rfl (lv_at hl 2 rfl) ?_
  refine lv_aload_n hx hb dL_law_503 rfl (lv_at hl 3 rfl) ?_
  refine lv_iload_n hx hb dL_law_504 rfl (lv_at hl 0 rfl) ?_
  refine lv_iconst (v := 1) hx hb dL_law_505 (by decide) ?_
  refine lv_iadd hx hb dL_law_506 ?_
  refine lv_topi (fun x101 ex101 => ?_)
  have tx101 := i_add ex101 (by omega)
  have ejx101 : x101.toNatClampNeg = i.toNatClampNeg + 1 := by have h1 := i_cl (x := x101) (by omega); have h2 := i_cl (x := i) (by omega); omega
  refine va_sld hx hb hX hbl (Nat.not_le.mpr hbl) hS (vp_in_iff.mpr (by omega)) dL_law_507 ?_
  refine W.eq (g2 := F0 m 508 ls [.int (xs (i.toNatClampNeg + 1)), .ref a]) (congrArg (fun z => F0 m 508 ls [.int (xs z), .ref a]) ejx101) ?_
  refine x_V (As := [.int (xs (i.toNatClampNeg + 1))]) (rest := []) C (a_X9_force l K G H ((xs (i.toNatClampNeg + 1))) hT ga) yo_X9_force wM_L_52 ⟨⟨by decide, by decide⟩, show _ ≤ 284929 by omega, show _ ≤ 8247460 by omega⟩ (x_rv C hT (ci := 9) rfl ga rg_68) rfl hl.1 rfl (Nat.le_of_ble_eq_true rfl) dL_law_508 hS (AE_new hN hS.1) (fun vH102 H102 locsH102 pH102 zH102 kH102 hSH102 => ?_)
  obtain ⟨x103, hvH102, hTH102⟩ := pH102
  subst hvH102
  have g104 : CG (avw K H102 b) := CG.congr (fun k hk j => av_eff hT kH102 gb (by decide) (CG_eff [0] (by decide) k hk)) cg
  have g105 : TU (avw K H102 b) (svw K H102 b) := TU.congr (fun k hk j => av_eff hT kH102 gb (by decide) (TU_eff [0] (by decide) k hk)) (fun k hk => sv_eff hT kH102 gb (by decide)) tu
  have g106 : WD (avw K H102 b) := WD.congr (fun k hk j => av_eff hT kH102 gb (by decide) (WD_eff [0] (by decide) k hk)) wd
  have g107 : IM (avw K H102 b) := IM.congr (fun k hk j => av_eff hT kH102 gb (by decide) (IM_eff [0] (by decide) k hk)) im
  have m108 := (eta).trans (fI_kept (x_lt hT kH102 ga (by decide))).symm
  have m109 := (etb).trans (fI_kept (x_lt hT kH102 gb (by decide))).symm
  refine W.eq (g2 := F0 m 511 ls [.int x103]) rfl ?_
  refine lv_pop hx hb dL_law_511 rfl ?_
  refine lv_aload_n hx hb dL_law_512 rfl (lv_at hl 1 rfl) ?_
  refine lv_aload_n hx hb dL_law_513 rfl (lv_at hl 3 rfl) ?_
  refine lv_iload_n hx hb dL_law_514 rfl (lv_at hl 0 rfl) ?_
  refine lv_iconst (v := 1) hx hb dL_law_515 (by decide) ?_
  refine lv_iadd hx hb dL_law_516 ?_
  refine lv_topi (fun x110 ex110 => ?_)
  have tx110 := i_add ex110 (by omega)
  have ejx110 : x110.toNatClampNeg = i.toNatClampNeg + 1 := by have h1 := i_cl (x := x110) (by omega); have h2 := i_cl (x := i) (by omega); omega
  refine va_sld hx hb hX hbl (Nat.not_le.mpr hbl) hSH102 (vp_in_iff.mpr (by omega)) dL_law_517 ?_
  refine W.eq (g2 := F0 m 518 ls [.int (xs (i.toNatClampNeg + 1)), .ref b]) (congrArg (fun z => F0 m 518 ls [.int (xs z), .ref b]) ejx110) ?_
  refine x_V (As := [.int (xs (i.toNatClampNeg + 1))]) (rest := []) C (a_X10_force l K G H102 ((xs (i.toNatClampNeg + 1))) hTH102 gb g104 g105 g106 g107) yo_X10_force wM_L_55 ⟨⟨by decide, by decide⟩, show _ ≤ 284929 by omega, show _ ≤ 8247460 by omega⟩ (x_rv C hTH102 (ci := 10) rfl gb rg_112) rfl hl.1 rfl (Nat.le_of_ble_eq_true rfl) dL_law_518 hSH102 (AE_new hN hSH102.1) (fun vH111 H111 locsH111 pH111 zH111 kH111 hSH111 => ?_)
  obtain ⟨x112, hvH111, g113, g114, g115, g116, mf117, hTH111⟩ := pH111
  subst hvH111
  have m118 := (m108).trans (fI_kept (x_lt hTH102 kH111 ga (by decide))).symm
  have m119 := (m109).trans (MF.i mf117 (k := 18) (by decide) (by decide)).symm
  refine W.eq (g2 := F0 m 521 ls [.int x112]) rfl ?_
  refine lv_pop hx hb dL_law_521 rfl ?_
  refine lv_goto (tgt := 1509) hx hb dL_law_522 (by decide) ?_
  exact nx G H111 locsH111 _ _ ls ⟨hTH111, hN, ga, gb, g113, g114, g115, g116, (by rw [← m118, ← m119]; omega), hSH111⟩ hl (by omega) (by omega)
set_option maxRecDepth 100000 in
set_option maxHeartbeats 1000000 in
theorem lw_c9 {p : Program} {l : Launch} {e : Env} {s : State} {m : MethodId} {below : List Frame} {meth : Method} {c : Code} {K : KE} {b0 L : Nat} {xs : Nat → Int32} {G : Nat → Option Nat} {H : Heap} {locs : List Loc} {a b : Nat} {cells slots : Nat} {ls : Array Slot} {i : Int32} {n : Nat} (D : LC p K s m meth c b0 L xs) (S : SX K s G H locs a b) (hl : lv_has ls 4 [(3, .int i), (2, .ref b), (1, .ref a), (0, .ref b0)]) (hi : 0 ≤ i.toInt ∧ i.toInt + 6 ≤ L) (hn : n ≤ 511) (hc : cells ≤ 10000 + 434 * n) (hs : slots ≤ 200000 + 13027 * n) (nx : ∀ (G : Nat → Option Nat) (H : Heap) (locs : List Loc) (cells slots : Nat) (ls : Array Slot), SX K s G H locs a b → lv_has ls 4 [(3, .int i), (2, .ref b), (1, .ref a), (0, .ref b0)] → cells ≤ 10000 + 434 * (n + 1) → slots ≤ 200000 + 13027 * (n + 1) → W p l e room_1 s m #[Value.ref b0] below meth c H locs cells slots (lw_Z below #[Value.ref b0] s) (F0 m 1509 ls [])) : W p l e room_1 s m #[Value.ref b0] below meth c H locs cells slots (lw_Z below #[Value.ref b0] s) (F0 m 525 ls []) := by
  obtain ⟨C, hX, hbl, hL⟩ := id D
  obtain ⟨hx, hb, hml, hown, hts, hKT, hr, hlocks, hnm⟩ := id C
  obtain ⟨hT, hN, ga, gb, cg, tu, wd, im, rt, hS⟩ := S
  have n_1 : (1 : Int32).toInt = 1 := rfl
  have n_2 : (2 : Int32).toInt = 2 := rfl
  have n_3 : (3 : Int32).toInt = 3 := rfl
  have n_4 : (4 : Int32).toInt = 4 := rfl
  have n_5 : (5 : Int32).toInt = 5 := rfl
  obtain ⟨ta, eta⟩ : ∃ z : Int32, z = fI H a (K.1.2 9 3) := ⟨_, rfl⟩
  obtain ⟨tb, etb⟩ : ∃ z : Int32, z = fI H b (K.1.2 10 18) := ⟨_, rfl⟩
  rw [← eta, ← etb] at rt
  refine lv_aload_n hx hb dL_law_525 rfl (lv_at hl 2 rfl) ?_
  refine lv_aload_n hx hb dL_law_526 rfl (lv_at hl 3 rfl) ?_
  refine lv_iload_n hx hb dL_law_527 rfl (lv_at hl 0 rfl) ?_
  refine lv_iconst (v := 1) hx hb dL_law_528 (by decide) ?_
  refine lv_iadd hx hb dL_law_529 ?_
  refine lv_topi (fun x101 ex101 => ?_)
  have tx101 := i_add ex101 (by omega)
  have ejx101 : x101.toNatClampNeg = i.toNatClampNeg + 1 := by have h1 := i_cl (x := x101) (by omega); have h2 := i_cl (x := i) (by omega); omega
  refine va_sld hx hb hX hbl (Nat.not_le.mpr hbl) hS (vp_in_iff.mpr (by omega)) dL_law_530 ?_
  refine W.eq (g2 := F0 m 531 ls [.int (xs (i.toNatClampNeg + 1)), .ref a]) (congrArg (fun z => F0 m 531 ls [.int (xs z), .ref a]) ejx101) ?_
  refine lv_aload_n hx hb dL_law_531 rfl (lv_at hl 3 rfl) ?_
  refine lv_iload_n hx hb dL_law_532 rfl (lv_at hl 0 rfl) ?_
  refine lv_iconst (v := 2) hx hb dL_law_533 (by decide) ?_
  refine lv_iadd hx hb dL_law_534 ?_
  refine lv_topi (fun x102 ex102 => ?_)
  have tx102 := i_add ex102 (by omega)
  have ejx102 : x102.toNatClampNeg = i.toNatClampNeg + 2 := by have h1 := i_cl (x := x102) (by omega); have h2 := i_cl (x := i) (by omega); omega
  refine va_sld hx hb hX hbl (Nat.not_le.mpr hbl) hS (vp_in_iff.mpr (by omega)) dL_law_535 ?_
  refine W.eq (g2 := F0 m 536 ls [.int (xs (i.toNatClampNeg + 2)), .int (xs (i.toNatClampNeg + 1)), .ref a]) (congrArg (fun z => F0 m 536 ls [.int (xs z), .int (xs (i.toNatClampNeg + 1)), .ref a]) ejx102) ?_
  refine lv_aload_n hx hb dL_law_536 rfl (lv_at hl 3 rfl) ?_
  refine lv_iload_n hx hb dL_law_537 rfl (lv_at hl 0 rfl) ?_
  refine lv_iconst (v := 3) hx hb dL_law_538 (by decide) ?_
  refine lv_iadd hx hb dL_law_539 ?_
  refine lv_topi (fun x103 ex103 => ?_)
  have tx103 := i_add ex103 (by omega)
  have ejx103 : x103.toNatClampNeg = i.toNatClampNeg + 3 := by have h1 := i_cl (x := x103) (by omega); have h2 := i_cl (x := i) (by omega); omega
  refine va_sld hx hb hX hbl (Nat.not_le.mpr hbl) hS (vp_in_iff.mpr (by omega)) dL_law_540 ?_
  refine W.eq (g2 := F0 m 541 ls [.int (xs (i.toNatClampNeg + 3)), .int (xs (i.toNatClampNeg + 2)), .int (xs (i.toNatClampNeg + 1)), .ref a]) (congrArg (fun z => F0 m 541 ls [.int (xs z), .int (xs (i.toNatClampNeg + 2)), .int (xs (i.toNatClampNeg + 1)), .ref a]) ejx103) ?_
  refine lv_aload_n hx hb dL_law_541 rfl (lv_at hl 3 rfl) ?_
  refine lv_iload_n hx hb dL_law_542 rfl (lv_at hl 0 rfl) ?_
  refine lv_iconst (v := 4) hx hb dL_law_543 (by decide) ?_
  refine lv_iadd hx hb dL_law_544 ?_
  refine lv_topi (fun x104 ex104 => ?_)
  have tx104 := i_add ex104 (by omega)
  have ejx104 : x104.toNatClampNeg = i.toNatClampNeg + 4 := by have h1 := i_cl (x := x104) (by omega); have h2 := i_cl (x := i) (by omega); omega
  refine va_sld hx hb hX hbl (Nat.not_le.mpr hbl) hS (vp_in_iff.mpr (by omega)) dL_law_545 ?_
  refine W.eq (g2 := F0 m 546 ls [.int (xs (i.toNatClampNeg + 4)), .int (xs (i.toNatClampNeg + 3)), .int (xs (i.toNatClampNeg + 2)), .int (xs (i.toNatClampNeg + 1)), .ref a]) (congrArg (fun z => F0 m 546 ls [.int (xs z), .int (xs (i.toNatClampNeg + 3)), .int (xs (i.toNatClampNeg + 2)), .int (xs (i.toNatClampNeg + 1)), .ref a]) ejx104) ?_
  refine lv_aload_n hx hb dL_law_546 rfl (lv_at hl 3 rfl) ?_
  refine lv_iload_n hx hb dL_law_547 rfl (lv_at hl 0 rfl) ?_
  refine lv_iconst (v := 5) hx hb dL_law_548 (by decide) ?_
  refine lv_iadd hx hb dL_law_549 ?_
  refine lv_topi (fun x105 ex105 => ?_)
  have tx105 := i_add ex105 (by omega)
  have ejx105 : x105.toNatClampNeg = i.toNatClampNeg + 5 := by have h1 := i_cl (x := x105) (by omega); have h2 := i_cl (x := i) (by omega); omega
  refine va_sld hx hb hX hbl (Nat.not_le.mpr hbl) hS (vp_in_iff.mpr (by omega)) dL_law_550 ?_
  refine W.eq (g2 := F0 m 551 ls [.int (xs (i.toNatClampNeg + 5)), .int (xs (i.toNatClampNeg + 4)), .int (xs (i.toNatClampNeg + 3)), .int (xs (i.toNatClampNeg + 2)), .int (xs (i.toNatClampNeg + 1)), .ref a]) (congrArg (fun z => F0 m 551 ls [.int (xs z), .int (xs (i.toNatClampNeg + 4)), .int (xs (i.toNatClampNeg + 3)), .int (xs (i.toNatClampNeg + 2)), .int (xs (i.toNatClampNeg + 1)), .ref a]) ejx105) ?_
  refine x_V (As := [.int (xs (i.toNatClampNeg + 1)), .int (xs (i.toNatClampNeg + 2)), .int (xs (i.toNatClampNeg + 3)), .int (xs (i.toNatClampNeg + 4)), .int (xs (i.toNatClampNeg + 5))]) (rest := []) C (a_X9_tells l K G H ((xs (i.toNatClampNeg + 1))) ((xs (i.toNatClampNeg + 2))) ((xs (i.toNatClampNeg + 3))) ((xs (i.toNatClampNeg + 4))) ((xs (i.toNatClampNeg + 5))) hT ga) yo_X9_tells wM_L_56 ⟨⟨by decide, by decide⟩, show _ ≤ 284929 by omega, show _ ≤ 8247460 by omega⟩ (x_rv C hT (ci := 9) rfl ga rg_68) rfl hl.1 rfl (Nat.le_of_ble_eq_true rfl) dL_law_551 hS (AE_new hN hS.1) (fun vH106 H106 locsH106 pH106 zH106 kH106 hSH106 => ?_)
  obtain ⟨x107, hvH106, hTH106⟩ := pH106
  subst hvH106
  have g108 : CG (avw K H106 b) := CG.congr (fun k hk j => av_eff hT kH106 gb (by decide) (CG_eff [83, 84] (by decide) k hk)) cg
  have g109 : TU (avw K H106 b) (svw K H106 b) := TU.congr (fun k hk j => av_eff hT kH106 gb (by decide) (TU_eff [83, 84] (by decide) k hk)) (fun k hk => sv_eff hT kH106 gb (by decide)) tu
  have g110 : WD (avw K H106 b) := WD.congr (fun k hk j => av_eff hT kH106 gb (by decide) (WD_eff [83, 84] (by decide) k hk)) wd
  have g111 : IM (avw K H106 b) := IM.congr (fun k hk j => av_eff hT kH106 gb (by decide) (IM_eff [83, 84] (by decide) k hk)) im
  have m112 := (eta).trans (fI_kept (x_lt hT kH106 ga (by decide))).symm
  have m113 := (etb).trans (fI_kept (x_lt hT kH106 gb (by decide))).symm
  refine W.eq (g2 := F0 m 554 ls [.int x107]) rfl ?_
  refine lv_pop hx hb dL_law_554 rfl ?_
  refine lv_aload_n hx hb dL_law_555 rfl (lv_at hl 1 rfl) ?_
  refine lv_aload_n hx hb dL_law_556 rfl (lv_at hl 3 rfl) ?_
  refine lv_iload_n hx hb dL_law_557 rfl (lv_at hl 0 rfl) ?_
  refine lv_iconst (v := 1) hx hb dL_law_558 (by decide) ?_
  refine lv_iadd hx hb dL_law_559 ?_
  refine lv_topi (fun x114 ex114 => ?_)
  have tx114 := i_add ex114 (by omega)
  have ejx114 : x114.toNatClampNeg = i.toNatClampNeg + 1 := by have h1 := i_cl (x := x114) (by omega); have h2 := i_cl (x := i) (by omega); omega
  refine va_sld hx hb hX hbl (Nat.not_le.mpr hbl) hSH106 (vp_in_iff.mpr (by omega)) dL_law_560 ?_
  refine W.eq (g2 := F0 m 561 ls [.int (xs (i.toNatClampNeg + 1)), .ref b]) (congrArg (fun z => F0 m 561 ls [.int (xs z), .ref b]) ejx114) ?_
  refine lv_aload_n hx hb dL_law_561 rfl (lv_at hl 3 rfl) ?_
  refine lv_iload_n hx hb dL_law_562 rfl (lv_at hl 0 rfl) ?_
  refine lv_iconst (v := 2) hx hb dL_law_563 (by decide) ?_
  refine lv_iadd hx hb dL_law_564 ?_
  refine lv_topi (fun x115 ex115 => ?_)
  have tx115 := i_add ex115 (by omega)
  have ejx115 : x115.toNatClampNeg = i.toNatClampNeg + 2 := by have h1 := i_cl (x := x115) (by omega); have h2 := i_cl (x := i) (by omega); omega
  refine va_sld hx hb hX hbl (Nat.not_le.mpr hbl) hSH106 (vp_in_iff.mpr (by omega)) dL_law_565 ?_
  refine W.eq (g2 := F0 m 566 ls [.int (xs (i.toNatClampNeg + 2)), .int (xs (i.toNatClampNeg + 1)), .ref b]) (congrArg (fun z => F0 m 566 ls [.int (xs z), .int (xs (i.toNatClampNeg + 1)), .ref b]) ejx115) ?_
  refine lv_aload_n hx hb dL_law_566 rfl (lv_at hl 3 rfl) ?_
  refine lv_iload_n hx hb dL_law_567 rfl (lv_at hl 0 rfl) ?_
  refine lv_iconst (v := 3) hx hb dL_law_568 (by decide) ?_
  refine lv_iadd hx hb dL_law_569 ?_
  refine lv_topi (fun x116 ex116 => ?_)
  have tx116 := i_add ex116 (by omega)
  have ejx116 : x116.toNatClampNeg = i.toNatClampNeg + 3 := by have h1 := i_cl (x := x116) (by omega); have h2 := i_cl (x := i) (by omega); omega
  refine va_sld hx hb hX hbl (Nat.not_le.mpr hbl) hSH106 (vp_in_iff.mpr (by omega)) dL_law_570 ?_
  refine W.eq (g2 := F0 m 571 ls [.int (xs (i.toNatClampNeg + 3)), .int (xs (i.toNatClampNeg + 2)), .int (xs (i.toNatClampNeg + 1)), .ref b]) (congrArg (fun z => F0 m 571 ls [.int (xs z), .int (xs (i.toNatClampNeg + 2)), .int (xs (i.toNatClampNeg + 1)), .ref b]) ejx116) ?_
  refine lv_aload_n hx hb dL_law_571 rfl (lv_at hl 3 rfl) ?_
  refine lv_iload_n hx hb dL_law_572 rfl (lv_at hl 0 rfl) ?_
  refine lv_iconst (v := 4) hx hb dL_law_573 (by decide) ?_
  refine lv_iadd hx hb dL_law_574 ?_
  refine lv_topi (fun x117 ex117 => ?_)
  have tx117 := i_add ex117 (by omega)
  have ejx117 : x117.toNatClampNeg = i.toNatClampNeg + 4 := by have h1 := i_cl (x := x117) (by omega); have h2 := i_cl (x := i) (by omega); omega
  refine va_sld hx hb hX hbl (Nat.not_le.mpr hbl) hSH106 (vp_in_iff.mpr (by omega)) dL_law_575 ?_
  refine W.eq (g2 := F0 m 576 ls [.int (xs (i.toNatClampNeg + 4)), .int (xs (i.toNatClampNeg + 3)), .int (xs (i.toNatClampNeg + 2)), .int (xs (i.toNatClampNeg + 1)), .ref b]) (congrArg (fun z => F0 m 576 ls [.int (xs z), .int (xs (i.toNatClampNeg + 3)), .int (xs (i.toNatClampNeg + 2)), .int (xs (i.toNatClampNeg + 1)), .ref b]) ejx117) ?_
  refine lv_aload_n hx hb dL_law_576 rfl (lv_at hl 3 rfl) ?_
  refine lv_iload_n hx hb dL_law_577 rfl (lv_at hl 0 rfl) ?_
  refine lv_iconst (v := 5) hx hb dL_law_578 (by decide) ?_
  refine lv_iadd hx hb dL_law_579 ?_
  refine lv_topi (fun x118 ex118 => ?_)
  have tx118 := i_add ex118 (by omega)
  have ejx118 : x118.toNatClampNeg = i.toNatClampNeg + 5 := by have h1 := i_cl (x := x118) (by omega); have h2 := i_cl (x := i) (by omega); omega
  refine va_sld hx hb hX hbl (Nat.not_le.mpr hbl) hSH106 (vp_in_iff.mpr (by omega)) dL_law_580 ?_
  refine W.eq (g2 := F0 m 581 ls [.int (xs (i.toNatClampNeg + 5)), .int (xs (i.toNatClampNeg + 4)), .int (xs (i.toNatClampNeg + 3)), .int (xs (i.toNatClampNeg + 2)), .int (xs (i.toNatClampNeg + 1)), .ref b]) (congrArg (fun z => F0 m 581 ls [.int (xs z), .int (xs (i.toNatClampNeg + 4)), .int (xs (i.toNatClampNeg + 3)), .int (xs (i.toNatClampNeg + 2)), .int (xs (i.toNatClampNeg + 1)), .ref b]) ejx118) ?_
  refine x_V (As := [.int (xs (i.toNatClampNeg + 1)), .int (xs (i.toNatClampNeg + 2)), .int (xs (i.toNatClampNeg + 3)), .int (xs (i.toNatClampNeg + 4)), .int (xs (i.toNatClampNeg + 5))]) (rest := []) C (a_X10_tells l K G H106 ((xs (i.toNatClampNeg + 1))) ((xs (i.toNatClampNeg + 2))) ((xs (i.toNatClampNeg + 3))) ((xs (i.toNatClampNeg + 4))) ((xs (i.toNatClampNeg + 5))) hTH106 gb g108 g109 g110 g111) yo_X10_tells wM_L_59 ⟨⟨by decide, by decide⟩, show _ ≤ 284929 by omega, show _ ≤ 8247460 by omega⟩ (x_rv C hTH106 (ci := 10) rfl gb rg_112) rfl hl.1 rfl (Nat.le_of_ble_eq_true rfl) dL_law_581 hSH106 (AE_new hN hSH106.1) (fun vH119 H119 locsH119 pH119 zH119 kH119 hSH119 => ?_)
  obtain ⟨x120, hvH119, g121, g122, g123, g124, mf125, hTH119⟩ := pH119
  subst hvH119
  have m126 := (m112).trans (fI_kept (x_lt hTH106 kH119 ga (by decide))).symm
  have m127 := (m113).trans (MF.i mf125 (k := 18) (by decide) (by decide)).symm
  refine W.eq (g2 := F0 m 584 ls [.int x120]) rfl ?_
  refine lv_pop hx hb dL_law_584 rfl ?_
  refine lv_goto (tgt := 1509) hx hb dL_law_585 (by decide) ?_
  exact nx G H119 locsH119 _ _ ls ⟨hTH119, hN, ga, gb, g121, g122, g123, g124, (by rw [← m126, ← m127]; omega), hSH119⟩ hl (by omega) (by omega)
set_option maxRecDepth 100000 in
set_option maxHeartbeats 1000000 in
theorem lw_c10 {p : Program} {l : Launch} {e : Env} {s : State} {m : MethodId} {below : List Frame} {meth : Method} {c : Code} {K : KE} {b0 L : Nat} {xs : Nat → Int32} {G : Nat → Option Nat} {H : Heap} {locs : List Loc} {a b : Nat} {cells slots : Nat} {ls : Array Slot} {i : Int32} {n : Nat} (D : LC p K s m meth c b0 L xs) (S : SX K s G H locs a b) (hl : lv_has ls 4 [(3, .int i), (2, .ref b), (1, .ref a), (0, .ref b0)]) (hi : 0 ≤ i.toInt ∧ i.toInt + 6 ≤ L) (hn : n ≤ 511) (hc : cells ≤ 10000 + 434 * n) (hs : slots ≤ 200000 + 13027 * n) (nx : ∀ (G : Nat → Option Nat) (H : Heap) (locs : List Loc) (cells slots : Nat) (ls : Array Slot), SX K s G H locs a b → lv_has ls 4 [(3, .int i), (2, .ref b), (1, .ref a), (0, .ref b0)] → cells ≤ 10000 + 434 * (n + 1) → slots ≤ 200000 + 13027 * (n + 1) → W p l e room_1 s m #[Value.ref b0] below meth c H locs cells slots (lw_Z below #[Value.ref b0] s) (F0 m 1509 ls [])) : W p l e room_1 s m #[Value.ref b0] below meth c H locs cells slots (lw_Z below #[Value.ref b0] s) (F0 m 588 ls []) := by
  obtain ⟨C, hX, hbl, hL⟩ := id D
  obtain ⟨hx, hb, hml, hown, hts, hKT, hr, hlocks, hnm⟩ := id C
  obtain ⟨hT, hN, ga, gb, cg, tu, wd, im, rt, hS⟩ := S
  have n_1 : (1 : Int32).toInt = 1 := rfl
  have n_2 : (2 : Int32).toInt = 2 := rfl
  obtain ⟨ta, eta⟩ : ∃ z : Int32, z = fI H a (K.1.2 9 3) := ⟨_, rfl⟩
  obtain ⟨tb, etb⟩ : ∃ z : Int32, z = fI H b (K.1.2 10 18) := ⟨_, rfl⟩
  rw [← eta, ← etb] at rt
  refine lv_aload_n hx hb dL_law_588 rfl (lv_at hl 2 rfl) ?_
  refine lv_aload_n hx hb dL_law_589 rfl (lv_at hl 3 rfl) ?_
  refine lv_iload_n hx hb dL_law_590 rfl (lv_at hl 0 rfl) ?_
  refine lv_iconst (v := 1) hx hb dL_law_591 (by decide) ?_
  refine lv_iadd hx hb dL_law_592 ?_
  refine lv_topi (fun x101 ex101 => ?_)
  have tx101 := i_add ex101 (by omega)
  have ejx101 : x101.toNatClampNeg = i.toNatClampNeg + 1 := by have h1 := i_cl (x := x101) (by omega); have h2 := i_cl (x := i) (by omega); omega
  refine va_sld hx hb hX hbl (Nat.not_le.mpr hbl) hS (vp_in_iff.mpr (by omega)) dL_law_593 ?_
  refine W.eq (g2 := F0 m 594 ls [.int (xs (i.toNatClampNeg + 1)), .ref a]) (congrArg (fun z => F0 m 594 ls [.int (xs z), .ref a]) ejx101) ?_
  refine lv_aload_n hx hb dL_law_594 rfl (lv_at hl 3 rfl) ?_
  refine lv_iload_n hx hb dL_law_595 rfl (lv_at hl 0 rfl) ?_
  refine lv_iconst (v := 2) hx hb dL_law_596 (by decide) ?_
  refine lv_iadd hx hb dL_law_597 ?_
  refine lv_topi (fun x102 ex102 => ?_)
  have tx102 := i_add ex102 (by omega)
  have ejx102 : x102.toNatClampNeg = i.toNatClampNeg + 2 := by have h1 := i_cl (x := x102) (by omega); have h2 := i_cl (x := i) (by omega); omega
  refine va_sld hx hb hX hbl (Nat.not_le.mpr hbl) hS (vp_in_iff.mpr (by omega)) dL_law_598 ?_
  refine W.eq (g2 := F0 m 599 ls [.int (xs (i.toNatClampNeg + 2)), .int (xs (i.toNatClampNeg + 1)), .ref a]) (congrArg (fun z => F0 m 599 ls [.int (xs z), .int (xs (i.toNatClampNeg + 1)), .ref a]) ejx102) ?_
  refine x_V (As := [.int (xs (i.toNatClampNeg + 1)), .int (xs (i.toNatClampNeg + 2))]) (rest := []) C (a_X9_tone l K G H ((xs (i.toNatClampNeg + 1))) ((xs (i.toNatClampNeg + 2))) hT ga) yo_X9_tone wM_L_60 ⟨⟨by decide, by decide⟩, show _ ≤ 284929 by omega, show _ ≤ 8247460 by omega⟩ (x_rv C hT (ci := 9) rfl ga rg_68) rfl hl.1 rfl (Nat.le_of_ble_eq_true rfl) dL_law_599 hS (AE_new hN hS.1) (fun vH103 H103 locsH103 pH103 zH103 kH103 hSH103 => ?_)
  obtain ⟨x104, hvH103, hTH103⟩ := pH103
  subst hvH103
  have g105 : CG (avw K H103 b) := CG.congr (fun k hk j => av_eff hT kH103 gb (by decide) (CG_eff [83, 84] (by decide) k hk)) cg
  have g106 : TU (avw K H103 b) (svw K H103 b) := TU.congr (fun k hk j => av_eff hT kH103 gb (by decide) (TU_eff [83, 84] (by decide) k hk)) (fun k hk => sv_eff hT kH103 gb (by decide)) tu
  have g107 : WD (avw K H103 b) := WD.congr (fun k hk j => av_eff hT kH103 gb (by decide) (WD_eff [83, 84] (by decide) k hk)) wd
  have g108 : IM (avw K H103 b) := IM.congr (fun k hk j => av_eff hT kH103 gb (by decide) (IM_eff [83, 84] (by decide) k hk)) im
  have m109 := (eta).trans (fI_kept (x_lt hT kH103 ga (by decide))).symm
  have m110 := (etb).trans (fI_kept (x_lt hT kH103 gb (by decide))).symm
  refine W.eq (g2 := F0 m 602 ls [.int x104]) rfl ?_
  refine lv_pop hx hb dL_law_602 rfl ?_
  refine lv_aload_n hx hb dL_law_603 rfl (lv_at hl 1 rfl) ?_
  refine lv_aload_n hx hb dL_law_604 rfl (lv_at hl 3 rfl) ?_
  refine lv_iload_n hx hb dL_law_605 rfl (lv_at hl 0 rfl) ?_
  refine lv_iconst (v := 1) hx hb dL_law_606 (by decide) ?_
  refine lv_iadd hx hb dL_law_607 ?_
  refine lv_topi (fun x111 ex111 => ?_)
  have tx111 := i_add ex111 (by omega)
  have ejx111 : x111.toNatClampNeg = i.toNatClampNeg + 1 := by have h1 := i_cl (x := x111) (by omega); have h2 := i_cl (x := i) (by omega); omega
  refine va_sld hx hb hX hbl (Nat.not_le.mpr hbl) hSH103 (vp_in_iff.mpr (by omega)) dL_law_608 ?_
  refine W.eq (g2 := F0 m 609 ls [.int (xs (i.toNatClampNeg + 1)), .ref b]) (congrArg (fun z => F0 m 609 ls [.int (xs z), .ref b]) ejx111) ?_
  refine lv_aload_n hx hb dL_law_609 rfl (lv_at hl 3 rfl) ?_
  refine lv_iload_n hx hb dL_law_610 rfl (lv_at hl 0 rfl) ?_
  refine lv_iconst (v := 2) hx hb dL_law_611 (by decide) ?_
  refine lv_iadd hx hb dL_law_612 ?_
  refine lv_topi (fun x112 ex112 => ?_)
  have tx112 := i_add ex112 (by omega)
  have ejx112 : x112.toNatClampNeg = i.toNatClampNeg + 2 := by have h1 := i_cl (x := x112) (by omega); have h2 := i_cl (x := i) (by omega); omega
  refine va_sld hx hb hX hbl (Nat.not_le.mpr hbl) hSH103 (vp_in_iff.mpr (by omega)) dL_law_613 ?_
  refine W.eq (g2 := F0 m 614 ls [.int (xs (i.toNatClampNeg + 2)), .int (xs (i.toNatClampNeg + 1)), .ref b]) (congrArg (fun z => F0 m 614 ls [.int (xs z), .int (xs (i.toNatClampNeg + 1)), .ref b]) ejx112) ?_
  refine x_V (As := [.int (xs (i.toNatClampNeg + 1)), .int (xs (i.toNatClampNeg + 2))]) (rest := []) C (a_X10_tone l K G H103 ((xs (i.toNatClampNeg + 1))) ((xs (i.toNatClampNeg + 2))) hTH103 gb g105 g106 g107 g108) yo_X10_tone wM_L_63 ⟨⟨by decide, by decide⟩, show _ ≤ 284929 by omega, show _ ≤ 8247460 by omega⟩ (x_rv C hTH103 (ci := 10) rfl gb rg_112) rfl hl.1 rfl (Nat.le_of_ble_eq_true rfl) dL_law_614 hSH103 (AE_new hN hSH103.1) (fun vH113 H113 locsH113 pH113 zH113 kH113 hSH113 => ?_)
  obtain ⟨x114, hvH113, g115, g116, g117, g118, mf119, hTH113⟩ := pH113
  subst hvH113
  have m120 := (m109).trans (fI_kept (x_lt hTH103 kH113 ga (by decide))).symm
  have m121 := (m110).trans (MF.i mf119 (k := 18) (by decide) (by decide)).symm
  refine W.eq (g2 := F0 m 617 ls [.int x114]) rfl ?_
  refine lv_pop hx hb dL_law_617 rfl ?_
  refine lv_goto (tgt := 1509) hx hb dL_law_618 (by decide) ?_
  exact nx G H113 locsH113 _ _ ls ⟨hTH113, hN, ga, gb, g115, g116, g117, g118, (by rw [← m120, ← m121]; omega), hSH113⟩ hl (by omega) (by omega)
set_option maxRecDepth 100000 in
set_option maxHeartbeats 1000000 in
theorem lw_c11 {p : Program} {l : Launch} {e : Env} {s : State} {m : MethodId} {below : List Frame} {meth : Method} {c : Code} {K : KE} {b0 L : Nat} {xs : Nat → Int32} {G : Nat → Option Nat} {H : Heap} {locs : List Loc} {a b : Nat} {cells slots : Nat} {ls : Array Slot} {i : Int32} {n : Nat} (D : LC p K s m meth c b0 L xs) (S : SX K s G H locs a b) (hl : lv_has ls 4 [(3, .int i), (2, .ref b), (1, .ref a), (0, .ref b0)]) (hi : 0 ≤ i.toInt ∧ i.toInt + 6 ≤ L) (hn : n ≤ 511) (hc : cells ≤ 10000 + 434 * n) (hs : slots ≤ 200000 + 13027 * n) (nx : ∀ (G : Nat → Option Nat) (H : Heap) (locs : List Loc) (cells slots : Nat) (ls : Array Slot), SX K s G H locs a b → lv_has ls 4 [(3, .int i), (2, .ref b), (1, .ref a), (0, .ref b0)] → cells ≤ 10000 + 434 * (n + 1) → slots ≤ 200000 + 13027 * (n + 1) → W p l e room_1 s m #[Value.ref b0] below meth c H locs cells slots (lw_Z below #[Value.ref b0] s) (F0 m 1509 ls [])) : W p l e room_1 s m #[Value.ref b0] below meth c H locs cells slots (lw_Z below #[Value.ref b0] s) (F0 m 621 ls []) := by
  obtain ⟨C, hX, hbl, hL⟩ := id D
  obtain ⟨hx, hb, hml, hown, hts, hKT, hr, hlocks, hnm⟩ := id C
  obtain ⟨hT, hN, ga, gb, cg, tu, wd, im, rt, hS⟩ := S
  have n_1 : (1 : Int32).toInt = 1 := rfl
  have n_2 : (2 : Int32).toInt = 2 := rfl
  have n_3 : (3 : Int32).toInt = 3 := rfl
  obtain ⟨ta, eta⟩ : ∃ z : Int32, z = fI H a (K.1.2 9 3) := ⟨_, rfl⟩
  obtain ⟨tb, etb⟩ : ∃ z : Int32, z = fI H b (K.1.2 10 18) := ⟨_, rfl⟩
  rw [← eta, ← etb] at rt
  refine lv_aload_n hx hb dL_law_621 rfl (lv_at hl 2 rfl) ?_
  refine lv_aload_n hx hb dL_law_622 rfl (lv_at hl 3 rfl) ?_
  refine lv_iload_n hx hb dL_law_623 rfl (lv_at hl 0 rfl) ?_
  refine lv_iconst (v := 1) hx hb dL_law_624 (by decide) ?_
  refine lv_iadd hx hb dL_law_625 ?_
  refine lv_topi (fun x101 ex101 => ?_)
  have tx101 := i_add ex101 (by omega)
  have ejx101 : x101.toNatClampNeg = i.toNatClampNeg + 1 := by have h1 := i_cl (x := x101) (by omega); have h2 := i_cl (x := i) (by omega); omega
  refine va_sld hx hb hX hbl (Nat.not_le.mpr hbl) hS (vp_in_iff.mpr (by omega)) dL_law_626 ?_
  refine W.eq (g2 := F0 m 627 ls [.int (xs (i.toNatClampNeg + 1)), .ref a]) (congrArg (fun z => F0 m 627 ls [.int (xs z), .ref a]) ejx101) ?_
  refine lv_aload_n hx hb dL_law_627 rfl (lv_at hl 3 rfl) ?_
  refine lv_iload_n hx hb dL_law_628 rfl (lv_at hl 0 rfl) ?_
  refine lv_iconst (v := 2) hx hb dL_law_629 (by decide) ?_
  refine lv_iadd hx hb dL_law_630 ?_
  refine lv_topi (fun x102 ex102 => ?_)
  have tx102 := i_add ex102 (by omega)
  have ejx102 : x102.toNatClampNeg = i.toNatClampNeg + 2 := by have h1 := i_cl (x := x102) (by omega); have h2 := i_cl (x := i) (by omega); omega
  refine va_sld hx hb hX hbl (Nat.not_le.mpr hbl) hS (vp_in_iff.mpr (by omega)) dL_law_631 ?_
  refine W.eq (g2 := F0 m 632 ls [.int (xs (i.toNatClampNeg + 2)), .int (xs (i.toNatClampNeg + 1)), .ref a]) (congrArg (fun z => F0 m 632 ls [.int (xs z), .int (xs (i.toNatClampNeg + 1)), .ref a]) ejx102) ?_
  refine lv_aload_n hx hb dL_law_632 rfl (lv_at hl 3 rfl) ?_
  refine lv_iload_n hx hb dL_law_633 rfl (lv_at hl 0 rfl) ?_
  refine lv_iconst (v := 3) hx hb dL_law_634 (by decide) ?_
  refine lv_iadd hx hb dL_law_635 ?_
  refine lv_topi (fun x103 ex103 => ?_)
  have tx103 := i_add ex103 (by omega)
  have ejx103 : x103.toNatClampNeg = i.toNatClampNeg + 3 := by have h1 := i_cl (x := x103) (by omega); have h2 := i_cl (x := i) (by omega); omega
  refine va_sld hx hb hX hbl (Nat.not_le.mpr hbl) hS (vp_in_iff.mpr (by omega)) dL_law_636 ?_
  refine W.eq (g2 := F0 m 637 ls [.int (xs (i.toNatClampNeg + 3)), .int (xs (i.toNatClampNeg + 2)), .int (xs (i.toNatClampNeg + 1)), .ref a]) (congrArg (fun z => F0 m 637 ls [.int (xs z), .int (xs (i.toNatClampNeg + 2)), .int (xs (i.toNatClampNeg + 1)), .ref a]) ejx103) ?_
  refine x_V (As := [.int (xs (i.toNatClampNeg + 1)), .int (xs (i.toNatClampNeg + 2)), .int (xs (i.toNatClampNeg + 3))]) (rest := []) C (a_X9_shave l K G H ((xs (i.toNatClampNeg + 1))) ((xs (i.toNatClampNeg + 2))) ((xs (i.toNatClampNeg + 3))) hT ga) yo_X9_shave wM_L_64 ⟨⟨by decide, by decide⟩, show _ ≤ 284929 by omega, show _ ≤ 8247460 by omega⟩ (x_rv C hT (ci := 9) rfl ga rg_68) rfl hl.1 rfl (Nat.le_of_ble_eq_true rfl) dL_law_637 hS (AE_new hN hS.1) (fun vH104 H104 locsH104 pH104 zH104 kH104 hSH104 => ?_)
  obtain ⟨x105, hvH104, hTH104⟩ := pH104
  subst hvH104
  have g106 : CG (avw K H104 b) := CG.congr (fun k hk j => av_eff hT kH104 gb (by decide) (CG_eff [1, 2, 7, 8, 83, 84] (by decide) k hk)) cg
  have g107 : TU (avw K H104 b) (svw K H104 b) := TU.congr (fun k hk j => av_eff hT kH104 gb (by decide) (TU_eff [1, 2, 7, 8, 83, 84] (by decide) k hk)) (fun k hk => sv_eff hT kH104 gb (by decide)) tu
  have g108 : WD (avw K H104 b) := WD.congr (fun k hk j => av_eff hT kH104 gb (by decide) (WD_eff [1, 2, 7, 8, 83, 84] (by decide) k hk)) wd
  have g109 : IM (avw K H104 b) := IM.congr (fun k hk j => av_eff hT kH104 gb (by decide) (IM_eff [1, 2, 7, 8, 83, 84] (by decide) k hk)) im
  have m110 := (eta).trans (fI_kept (x_lt hT kH104 ga (by decide))).symm
  have m111 := (etb).trans (fI_kept (x_lt hT kH104 gb (by decide))).symm
  refine W.eq (g2 := F0 m 640 ls [.int x105]) rfl ?_
  refine lv_pop hx hb dL_law_640 rfl ?_
  refine lv_aload_n hx hb dL_law_641 rfl (lv_at hl 1 rfl) ?_
  refine lv_aload_n hx hb dL_law_642 rfl (lv_at hl 3 rfl) ?_
  refine lv_iload_n hx hb dL_law_643 rfl (lv_at hl 0 rfl) ?_
  refine lv_iconst (v := 1) hx hb dL_law_644 (by decide) ?_
  refine lv_iadd hx hb dL_law_645 ?_
  refine lv_topi (fun x112 ex112 => ?_)
  have tx112 := i_add ex112 (by omega)
  have ejx112 : x112.toNatClampNeg = i.toNatClampNeg + 1 := by have h1 := i_cl (x := x112) (by omega); have h2 := i_cl (x := i) (by omega); omega
  refine va_sld hx hb hX hbl (Nat.not_le.mpr hbl) hSH104 (vp_in_iff.mpr (by omega)) dL_law_646 ?_
  refine W.eq (g2 := F0 m 647 ls [.int (xs (i.toNatClampNeg + 1)), .ref b]) (congrArg (fun z => F0 m 647 ls [.int (xs z), .ref b]) ejx112) ?_
  refine lv_aload_n hx hb dL_law_647 rfl (lv_at hl 3 rfl) ?_
  refine lv_iload_n hx hb dL_law_648 rfl (lv_at hl 0 rfl) ?_
  refine lv_iconst (v := 2) hx hb dL_law_649 (by decide) ?_
  refine lv_iadd hx hb dL_law_650 ?_
  refine lv_topi (fun x113 ex113 => ?_)
  have tx113 := i_add ex113 (by omega)
  have ejx113 : x113.toNatClampNeg = i.toNatClampNeg + 2 := by have h1 := i_cl (x := x113) (by omega); have h2 := i_cl (x := i) (by omega); omega
  refine va_sld hx hb hX hbl (Nat.not_le.mpr hbl) hSH104 (vp_in_iff.mpr (by omega)) dL_law_651 ?_
  refine W.eq (g2 := F0 m 652 ls [.int (xs (i.toNatClampNeg + 2)), .int (xs (i.toNatClampNeg + 1)), .ref b]) (congrArg (fun z => F0 m 652 ls [.int (xs z), .int (xs (i.toNatClampNeg + 1)), .ref b]) ejx113) ?_
  refine lv_aload_n hx hb dL_law_652 rfl (lv_at hl 3 rfl) ?_
  refine lv_iload_n hx hb dL_law_653 rfl (lv_at hl 0 rfl) ?_
  refine lv_iconst (v := 3) hx hb dL_law_654 (by decide) ?_
  refine lv_iadd hx hb dL_law_655 ?_
  refine lv_topi (fun x114 ex114 => ?_)
  have tx114 := i_add ex114 (by omega)
  have ejx114 : x114.toNatClampNeg = i.toNatClampNeg + 3 := by have h1 := i_cl (x := x114) (by omega); have h2 := i_cl (x := i) (by omega); omega
  refine va_sld hx hb hX hbl (Nat.not_le.mpr hbl) hSH104 (vp_in_iff.mpr (by omega)) dL_law_656 ?_
  refine W.eq (g2 := F0 m 657 ls [.int (xs (i.toNatClampNeg + 3)), .int (xs (i.toNatClampNeg + 2)), .int (xs (i.toNatClampNeg + 1)), .ref b]) (congrArg (fun z => F0 m 657 ls [.int (xs z), .int (xs (i.toNatClampNeg + 2)), .int (xs (i.toNatClampNeg + 1)), .ref b]) ejx114) ?_
  refine x_V (As := [.int (xs (i.toNatClampNeg + 1)), .int (xs (i.toNatClampNeg + 2)), .int (xs (i.toNatClampNeg + 3))]) (rest := []) C (a_X10_shave l K G H104 ((xs (i.toNatClampNeg + 1))) ((xs (i.toNatClampNeg + 2))) ((xs (i.toNatClampNeg + 3))) hTH104 gb g106 g107 g108 g109) yo_X10_shave wM_L_67 ⟨⟨by decide, by decide⟩, show _ ≤ 284929 by omega, show _ ≤ 8247460 by omega⟩ (x_rv C hTH104 (ci := 10) rfl gb rg_112) rfl hl.1 rfl (Nat.le_of_ble_eq_true rfl) dL_law_657 hSH104 (AE_new hN hSH104.1) (fun vH115 H115 locsH115 pH115 zH115 kH115 hSH115 => ?_)
  obtain ⟨x116, hvH115, g117, g118, g119, g120, mf121, hTH115⟩ := pH115
  subst hvH115
  have m122 := (m110).trans (fI_kept (x_lt hTH104 kH115 ga (by decide))).symm
  have m123 := (m111).trans (MF.i mf121 (k := 18) (by decide) (by decide)).symm
  refine W.eq (g2 := F0 m 660 ls [.int x116]) rfl ?_
  refine lv_pop hx hb dL_law_660 rfl ?_
  refine lv_goto (tgt := 1509) hx hb dL_law_661 (by decide) ?_
  exact nx G H115 locsH115 _ _ ls ⟨hTH115, hN, ga, gb, g117, g118, g119, g120, (by rw [← m122, ← m123]; omega), hSH115⟩ hl (by omega) (by omega)
set_option maxRecDepth 100000 in
set_option maxHeartbeats 1000000 in
theorem lw_c12 {p : Program} {l : Launch} {e : Env} {s : State} {m : MethodId} {below : List Frame} {meth : Method} {c : Code} {K : KE} {b0 L : Nat} {xs : Nat → Int32} {G : Nat → Option Nat} {H : Heap} {locs : List Loc} {a b : Nat} {cells slots : Nat} {ls : Array Slot} {i : Int32} {n : Nat} (D : LC p K s m meth c b0 L xs) (S : SX K s G H locs a b) (hl : lv_has ls 4 [(3, .int i), (2, .ref b), (1, .ref a), (0, .ref b0)]) (hi : 0 ≤ i.toInt ∧ i.toInt + 6 ≤ L) (hn : n ≤ 511) (hc : cells ≤ 10000 + 434 * n) (hs : slots ≤ 200000 + 13027 * n) (nx : ∀ (G : Nat → Option Nat) (H : Heap) (locs : List Loc) (cells slots : Nat) (ls : Array Slot), SX K s G H locs a b → lv_has ls 4 [(3, .int i), (2, .ref b), (1, .ref a), (0, .ref b0)] → cells ≤ 10000 + 434 * (n + 1) → slots ≤ 200000 + 13027 * (n + 1) → W p l e room_1 s m #[Value.ref b0] below meth c H locs cells slots (lw_Z below #[Value.ref b0] s) (F0 m 1509 ls [])) : W p l e room_1 s m #[Value.ref b0] below meth c H locs cells slots (lw_Z below #[Value.ref b0] s) (F0 m 664 ls []) := by
  obtain ⟨C, hX, hbl, hL⟩ := id D
  obtain ⟨hx, hb, hml, hown, hts, hKT, hr, hlocks, hnm⟩ := id C
  obtain ⟨hT, hN, ga, gb, cg, tu, wd, im, rt, hS⟩ := S
  have n_1 : (1 : Int32).toInt = 1 := rfl
  have n_2 : (2 : Int32).toInt = 2 := rfl
  have n_3 : (3 : Int32).toInt = 3 := rfl
  obtain ⟨ta, eta⟩ : ∃ z : Int32, z = fI H a (K.1.2 9 3) := ⟨_, rfl⟩
  obtain ⟨tb, etb⟩ : ∃ z : Int32, z = fI H b (K.1.2 10 18) := ⟨_, rfl⟩
  rw [← eta, ← etb] at rt
  refine lv_aload_n hx hb dL_law_664 rfl (lv_at hl 2 rfl) ?_
  refine lv_aload_n hx hb dL_law_665 rfl (lv_at hl 3 rfl) ?_
  refine lv_iload_n hx hb dL_law_666 rfl (lv_at hl 0 rfl) ?_
  refine lv_iconst (v := 1) hx hb dL_law_667 (by decide) ?_
  refine lv_iadd hx hb dL_law_668 ?_
  refine lv_topi (fun x101 ex101 => ?_)
  have tx101 := i_add ex101 (by omega)
  have ejx101 : x101.toNatClampNeg = i.toNatClampNeg + 1 := by have h1 := i_cl (x := x101) (by omega); have h2 := i_cl (x := i) (by omega); omega
  refine va_sld hx hb hX hbl (Nat.not_le.mpr hbl) hS (vp_in_iff.mpr (by omega)) dL_law_669 ?_
  refine W.eq (g2 := F0 m 670 ls [.int (xs (i.toNatClampNeg + 1)), .ref a]) (congrArg (fun z => F0 m 670 ls [.int (xs z), .ref a]) ejx101) ?_
  refine lv_aload_n hx hb dL_law_670 rfl (lv_at hl 3 rfl) ?_
  refine lv_iload_n hx hb dL_law_671 rfl (lv_at hl 0 rfl) ?_
  refine lv_iconst (v := 2) hx hb dL_law_672 (by decide) ?_
  refine lv_iadd hx hb dL_law_673 ?_
  refine lv_topi (fun x102 ex102 => ?_)
  have tx102 := i_add ex102 (by omega)
  have ejx102 : x102.toNatClampNeg = i.toNatClampNeg + 2 := by have h1 := i_cl (x := x102) (by omega); have h2 := i_cl (x := i) (by omega); omega
  refine va_sld hx hb hX hbl (Nat.not_le.mpr hbl) hS (vp_in_iff.mpr (by omega)) dL_law_674 ?_
  refine W.eq (g2 := F0 m 675 ls [.int (xs (i.toNatClampNeg + 2)), .int (xs (i.toNatClampNeg + 1)), .ref a]) (congrArg (fun z => F0 m 675 ls [.int (xs z), .int (xs (i.toNatClampNeg + 1)), .ref a]) ejx102) ?_
  refine lv_aload_n hx hb dL_law_675 rfl (lv_at hl 3 rfl) ?_
  refine lv_iload_n hx hb dL_law_676 rfl (lv_at hl 0 rfl) ?_
  refine lv_iconst (v := 3) hx hb dL_law_677 (by decide) ?_
  refine lv_iadd hx hb dL_law_678 ?_
  refine lv_topi (fun x103 ex103 => ?_)
  have tx103 := i_add ex103 (by omega)
  have ejx103 : x103.toNatClampNeg = i.toNatClampNeg + 3 := by have h1 := i_cl (x := x103) (by omega); have h2 := i_cl (x := i) (by omega); omega
  refine va_sld hx hb hX hbl (Nat.not_le.mpr hbl) hS (vp_in_iff.mpr (by omega)) dL_law_679 ?_
  refine W.eq (g2 := F0 m 680 ls [.int (xs (i.toNatClampNeg + 3)), .int (xs (i.toNatClampNeg + 2)), .int (xs (i.toNatClampNeg + 1)), .ref a]) (congrArg (fun z => F0 m 680 ls [.int (xs z), .int (xs (i.toNatClampNeg + 2)), .int (xs (i.toNatClampNeg + 1)), .ref a]) ejx103) ?_
  refine x_V (As := [.int (xs (i.toNatClampNeg + 1)), .int (xs (i.toNatClampNeg + 2)), .int (xs (i.toNatClampNeg + 3))]) (rest := []) C (a_X9_pass l K G H ((xs (i.toNatClampNeg + 1))) ((xs (i.toNatClampNeg + 2))) ((xs (i.toNatClampNeg + 3))) hT ga) yo_X9_pass wM_L_68 ⟨⟨by decide, by decide⟩, show _ ≤ 284929 by omega, show _ ≤ 8247460 by omega⟩ (x_rv C hT (ci := 9) rfl ga rg_68) rfl hl.1 rfl (Nat.le_of_ble_eq_true rfl) dL_law_680 hS (AE_new hN hS.1) (fun vH104 H104 locsH104 pH104 zH104 kH104 hSH104 => ?_)
  obtain ⟨x105, hvH104, hTH104⟩ := pH104
  subst hvH104
  have g106 : CG (avw K H104 b) := CG.congr (fun k hk j => av_eff hT kH104 gb (by decide) (CG_eff [] (by decide) k hk)) cg
  have g107 : TU (avw K H104 b) (svw K H104 b) := TU.congr (fun k hk j => av_eff hT kH104 gb (by decide) (TU_eff [] (by decide) k hk)) (fun k hk => sv_eff hT kH104 gb (by decide)) tu
  have g108 : WD (avw K H104 b) := WD.congr (fun k hk j => av_eff hT kH104 gb (by decide) (WD_eff [] (by decide) k hk)) wd
  have g109 : IM (avw K H104 b) := IM.congr (fun k hk j => av_eff hT kH104 gb (by decide) (IM_eff [] (by decide) k hk)) im
  have m110 := (eta).trans (fI_kept (x_lt hT kH104 ga (by decide))).symm
  have m111 := (etb).trans (fI_kept (x_lt hT kH104 gb (by decide))).symm
  refine W.eq (g2 := F0 m 683 ls [.int x105]) rfl ?_
  refine lv_pop hx hb dL_law_683 rfl ?_
  refine lv_aload_n hx hb dL_law_684 rfl (lv_at hl 1 rfl) ?_
  refine lv_aload_n hx hb dL_law_685 rfl (lv_at hl 3 rfl) ?_
  refine lv_iload_n hx hb dL_law_686 rfl (lv_at hl 0 rfl) ?_
  refine lv_iconst (v := 1) hx hb dL_law_687 (by decide) ?_
  refine lv_iadd hx hb dL_law_688 ?_
  refine lv_topi (fun x112 ex112 => ?_)
  have tx112 := i_add ex112 (by omega)
  have ejx112 : x112.toNatClampNeg = i.toNatClampNeg + 1 := by have h1 := i_cl (x := x112) (by omega); have h2 := i_cl (x := i) (by omega); omega
  refine va_sld hx hb hX hbl (Nat.not_le.mpr hbl) hSH104 (vp_in_iff.mpr (by omega)) dL_law_689 ?_
  refine W.eq (g2 := F0 m 690 ls [.int (xs (i.toNatClampNeg + 1)), .ref b]) (congrArg (fun z => F0 m 690 ls [.int (xs z), .ref b]) ejx112) ?_
  refine lv_aload_n hx hb dL_law_690 rfl (lv_at hl 3 rfl) ?_
  refine lv_iload_n hx hb dL_law_691 rfl (lv_at hl 0 rfl) ?_
  refine lv_iconst (v := 2) hx hb dL_law_692 (by decide) ?_
  refine lv_iadd hx hb dL_law_693 ?_
  refine lv_topi (fun x113 ex113 => ?_)
  have tx113 := i_add ex113 (by omega)
  have ejx113 : x113.toNatClampNeg = i.toNatClampNeg + 2 := by have h1 := i_cl (x := x113) (by omega); have h2 := i_cl (x := i) (by omega); omega
  refine va_sld hx hb hX hbl (Nat.not_le.mpr hbl) hSH104 (vp_in_iff.mpr (by omega)) dL_law_694 ?_
  refine W.eq (g2 := F0 m 695 ls [.int (xs (i.toNatClampNeg + 2)), .int (xs (i.toNatClampNeg + 1)), .ref b]) (congrArg (fun z => F0 m 695 ls [.int (xs z), .int (xs (i.toNatClampNeg + 1)), .ref b]) ejx113) ?_
  refine lv_aload_n hx hb dL_law_695 rfl (lv_at hl 3 rfl) ?_
  refine lv_iload_n hx hb dL_law_696 rfl (lv_at hl 0 rfl) ?_
  refine lv_iconst (v := 3) hx hb dL_law_697 (by decide) ?_
  refine lv_iadd hx hb dL_law_698 ?_
  refine lv_topi (fun x114 ex114 => ?_)
  have tx114 := i_add ex114 (by omega)
  have ejx114 : x114.toNatClampNeg = i.toNatClampNeg + 3 := by have h1 := i_cl (x := x114) (by omega); have h2 := i_cl (x := i) (by omega); omega
  refine va_sld hx hb hX hbl (Nat.not_le.mpr hbl) hSH104 (vp_in_iff.mpr (by omega)) dL_law_699 ?_
  refine W.eq (g2 := F0 m 700 ls [.int (xs (i.toNatClampNeg + 3)), .int (xs (i.toNatClampNeg + 2)), .int (xs (i.toNatClampNeg + 1)), .ref b]) (congrArg (fun z => F0 m 700 ls [.int (xs z), .int (xs (i.toNatClampNeg + 2)), .int (xs (i.toNatClampNeg + 1)), .ref b]) ejx114) ?_
  refine x_V (As := [.int (xs (i.toNatClampNeg + 1)), .int (xs (i.toNatClampNeg + 2)), .int (xs (i.toNatClampNeg + 3))]) (rest := []) C (a_X10_pass l K G H104 ((xs (i.toNatClampNeg + 1))) ((xs (i.toNatClampNeg + 2))) ((xs (i.toNatClampNeg + 3))) hTH104 gb g106 g107 g108 g109) yo_X10_pass wM_L_71 ⟨⟨by decide, by decide⟩, show _ ≤ 284929 by omega, show _ ≤ 8247460 by omega⟩ (x_rv C hTH104 (ci := 10) rfl gb rg_112) rfl hl.1 rfl (Nat.le_of_ble_eq_true rfl) dL_law_700 hSH104 (AE_new hN hSH104.1) (fun vH115 H115 locsH115 pH115 zH115 kH115 hSH115 => ?_)
  obtain ⟨x116, hvH115, g117, g118, g119, g120, mf121, hTH115⟩ := pH115
  subst hvH115
  have m122 := (m110).trans (fI_kept (x_lt hTH104 kH115 ga (by decide))).symm
  have m123 := (m111).trans (MF.i mf121 (k := 18) (by decide) (by decide)).symm
  refine W.eq (g2 := F0 m 703 ls [.int x116]) rfl ?_
  refine lv_pop hx hb dL_law_703 rfl ?_
  refine lv_goto (tgt := 1509) hx hb dL_law_704 (by decide) ?_
  exact nx G H115 locsH115 _ _ ls ⟨hTH115, hN, ga, gb, g117, g118, g119, g120, (by rw [← m122, ← m123]; omega), hSH115⟩ hl (by omega) (by omega)
set_option maxRecDepth 100000 in
set_option maxHeartbeats 1000000 in
theorem lw_c13 {p : Program} {l : Launch} {e : Env} {s : State} {m : MethodId} {below : List Frame} {meth : Method} {c : Code} {K : KE} {b0 L : Nat} {xs : Nat → Int32} {G : Nat → Option Nat} {H : Heap} {locs : List Loc} {a b : Nat} {cells slots : Nat} {ls : Array Slot} {i : Int32} {n : Nat} (D : LC p K s m meth c b0 L xs) (S : SX K s G H locs a b) (hl : lv_has ls 4 [(3, .int i), (2, .ref b), (1, .ref a), (0, .ref b0)]) (hi : 0 ≤ i.toInt ∧ i.toInt + 6 ≤ L) (hn : n ≤ 511) (hc : cells ≤ 10000 + 434 * n) (hs : slots ≤ 200000 + 13027 * n) (nx : ∀ (G : Nat → Option Nat) (H : Heap) (locs : List Loc) (cells slots : Nat) (ls : Array Slot), SX K s G H locs a b → lv_has ls 4 [(3, .int i), (2, .ref b), (1, .ref a), (0, .ref b0)] → cells ≤ 10000 + 434 * (n + 1) → slots ≤ 200000 + 13027 * (n + 1) → W p l e room_1 s m #[Value.ref b0] below meth c H locs cells slots (lw_Z below #[Value.ref b0] s) (F0 m 1509 ls [])) : W p l e room_1 s m #[Value.ref b0] below meth c H locs cells slots (lw_Z below #[Value.ref b0] s) (F0 m 707 ls []) := by
  obtain ⟨C, hX, hbl, hL⟩ := id D
  obtain ⟨hx, hb, hml, hown, hts, hKT, hr, hlocks, hnm⟩ := id C
  obtain ⟨hT, hN, ga, gb, cg, tu, wd, im, rt, hS⟩ := S
  have n_1 : (1 : Int32).toInt = 1 := rfl
  have n_2 : (2 : Int32).toInt = 2 := rfl
  have n_3 : (3 : Int32).toInt = 3 := rfl
  obtain ⟨ta, eta⟩ : ∃ z : Int32, z = fI H a (K.1.2 9 3) := ⟨_, rfl⟩
  obtain ⟨tb, etb⟩ : ∃ z : Int32, z = fI H b (K.1.2 10 18) := ⟨_, rfl⟩
  rw [← eta, ← etb] at rt
  refine lv_aload_n hx hb dL_law_707 rfl (lv_at hl 2 rfl) ?_
  refine lv_aload_n hx hb dL_law_708 rfl (lv_at hl 3 rfl) ?_
  refine lv_iload_n hx hb dL_law_709 rfl (lv_at hl 0 rfl) ?_
  refine lv_iconst (v := 1) hx hb dL_law_710 (by decide) ?_
  refine lv_iadd hx hb dL_law_711 ?_
  refine lv_topi (fun x101 ex101 => ?_)
  have tx101 := i_add ex101 (by omega)
  have ejx101 : x101.toNatClampNeg = i.toNatClampNeg + 1 := by have h1 := i_cl (x := x101) (by omega); have h2 := i_cl (x := i) (by omega); omega
  refine va_sld hx hb hX hbl (Nat.not_le.mpr hbl) hS (vp_in_iff.mpr (by omega)) dL_law_712 ?_
  refine W.eq (g2 := F0 m 713 ls [.int (xs (i.toNatClampNeg + 1)), .ref a]) (congrArg (fun z => F0 m 713 ls [.int (xs z), .ref a]) ejx101) ?_
  refine lv_aload_n hx hb dL_law_713 rfl (lv_at hl 3 rfl) ?_
  refine lv_iload_n hx hb dL_law_714 rfl (lv_at hl 0 rfl) ?_
  refine lv_iconst (v := 2) hx hb dL_law_715 (by decide) ?_
  refine lv_iadd hx hb dL_law_716 ?_
  refine lv_topi (fun x102 ex102 => ?_)
  have tx102 := i_add ex102 (by omega)
  have ejx102 : x102.toNatClampNeg = i.toNatClampNeg + 2 := by have h1 := i_cl (x := x102) (by omega); have h2 := i_cl (x := i) (by omega); omega
  refine va_sld hx hb hX hbl (Nat.not_le.mpr hbl) hS (vp_in_iff.mpr (by omega)) dL_law_717 ?_
  refine W.eq (g2 := F0 m 718 ls [.int (xs (i.toNatClampNeg + 2)), .int (xs (i.toNatClampNeg + 1)), .ref a]) (congrArg (fun z => F0 m 718 ls [.int (xs z), .int (xs (i.toNatClampNeg + 1)), .ref a]) ejx102) ?_
  refine lv_aload_n hx hb dL_law_718 rfl (lv_at hl 3 rfl) ?_
  refine lv_iload_n hx hb dL_law_719 rfl (lv_at hl 0 rfl) ?_
  refine lv_iconst (v := 3) hx hb dL_law_720 (by decide) ?_
  refine lv_iadd hx hb dL_law_721 ?_
  refine lv_topi (fun x103 ex103 => ?_)
  have tx103 := i_add ex103 (by omega)
  have ejx103 : x103.toNatClampNeg = i.toNatClampNeg + 3 := by have h1 := i_cl (x := x103) (by omega); have h2 := i_cl (x := i) (by omega); omega
  refine va_sld hx hb hX hbl (Nat.not_le.mpr hbl) hS (vp_in_iff.mpr (by omega)) dL_law_722 ?_
  refine W.eq (g2 := F0 m 723 ls [.int (xs (i.toNatClampNeg + 3)), .int (xs (i.toNatClampNeg + 2)), .int (xs (i.toNatClampNeg + 1)), .ref a]) (congrArg (fun z => F0 m 723 ls [.int (xs z), .int (xs (i.toNatClampNeg + 2)), .int (xs (i.toNatClampNeg + 1)), .ref a]) ejx103) ?_
  refine x_V (As := [.int (xs (i.toNatClampNeg + 1)), .int (xs (i.toNatClampNeg + 2)), .int (xs (i.toNatClampNeg + 3))]) (rest := []) C (a_X9_goal l K G H ((xs (i.toNatClampNeg + 1))) ((xs (i.toNatClampNeg + 2))) ((xs (i.toNatClampNeg + 3))) hT ga) yo_X9_goal wM_L_72 ⟨⟨by decide, by decide⟩, show _ ≤ 284929 by omega, show _ ≤ 8247460 by omega⟩ (x_rv C hT (ci := 9) rfl ga rg_68) rfl hl.1 rfl (Nat.le_of_ble_eq_true rfl) dL_law_723 hS (AE_new hN hS.1) (fun vH104 H104 locsH104 pH104 zH104 kH104 hSH104 => ?_)
  obtain ⟨x105, hvH104, bx105, hTH104⟩ := pH104
  subst hvH104
  have g106 : CG (avw K H104 b) := CG.congr (fun k hk j => av_eff hT kH104 gb (by decide) (CG_eff [6] (by decide) k hk)) cg
  have g107 : TU (avw K H104 b) (svw K H104 b) := TU.congr (fun k hk j => av_eff hT kH104 gb (by decide) (TU_eff [6] (by decide) k hk)) (fun k hk => sv_eff hT kH104 gb (by decide)) tu
  have g108 : WD (avw K H104 b) := WD.congr (fun k hk j => av_eff hT kH104 gb (by decide) (WD_eff [6] (by decide) k hk)) wd
  have g109 : IM (avw K H104 b) := IM.congr (fun k hk j => av_eff hT kH104 gb (by decide) (IM_eff [6] (by decide) k hk)) im
  have m110 := (eta).trans (fI_kept (x_lt hT kH104 ga (by decide))).symm
  have m111 := (etb).trans (fI_kept (x_lt hT kH104 gb (by decide))).symm
  refine W.eq (g2 := F0 m 726 ls [.int x105]) rfl ?_
  refine lv_pop hx hb dL_law_726 rfl ?_
  refine lv_aload_n hx hb dL_law_727 rfl (lv_at hl 1 rfl) ?_
  refine lv_aload_n hx hb dL_law_728 rfl (lv_at hl 3 rfl) ?_
  refine lv_iload_n hx hb dL_law_729 rfl (lv_at hl 0 rfl) ?_
  refine lv_iconst (v := 1) hx hb dL_law_730 (by decide) ?_
  refine lv_iadd hx hb dL_law_731 ?_
  refine lv_topi (fun x112 ex112 => ?_)
  have tx112 := i_add ex112 (by omega)
  have ejx112 : x112.toNatClampNeg = i.toNatClampNeg + 1 := by have h1 := i_cl (x := x112) (by omega); have h2 := i_cl (x := i) (by omega); omega
  refine va_sld hx hb hX hbl (Nat.not_le.mpr hbl) hSH104 (vp_in_iff.mpr (by omega)) dL_law_732 ?_
  refine W.eq (g2 := F0 m 733 ls [.int (xs (i.toNatClampNeg + 1)), .ref b]) (congrArg (fun z => F0 m 733 ls [.int (xs z), .ref b]) ejx112) ?_
  refine lv_aload_n hx hb dL_law_733 rfl (lv_at hl 3 rfl) ?_
  refine lv_iload_n hx hb dL_law_734 rfl (lv_at hl 0 rfl) ?_
  refine lv_iconst (v := 2) hx hb dL_law_735 (by decide) ?_
  refine lv_iadd hx hb dL_law_736 ?_
  refine lv_topi (fun x113 ex113 => ?_)
  have tx113 := i_add ex113 (by omega)
  have ejx113 : x113.toNatClampNeg = i.toNatClampNeg + 2 := by have h1 := i_cl (x := x113) (by omega); have h2 := i_cl (x := i) (by omega); omega
  refine va_sld hx hb hX hbl (Nat.not_le.mpr hbl) hSH104 (vp_in_iff.mpr (by omega)) dL_law_737 ?_
  refine W.eq (g2 := F0 m 738 ls [.int (xs (i.toNatClampNeg + 2)), .int (xs (i.toNatClampNeg + 1)), .ref b]) (congrArg (fun z => F0 m 738 ls [.int (xs z), .int (xs (i.toNatClampNeg + 1)), .ref b]) ejx113) ?_
  refine lv_aload_n hx hb dL_law_738 rfl (lv_at hl 3 rfl) ?_
  refine lv_iload_n hx hb dL_law_739 rfl (lv_at hl 0 rfl) ?_
  refine lv_iconst (v := 3) hx hb dL_law_740 (by decide) ?_
  refine lv_iadd hx hb dL_law_741 ?_
  refine lv_topi (fun x114 ex114 => ?_)
  have tx114 := i_add ex114 (by omega)
  have ejx114 : x114.toNatClampNeg = i.toNatClampNeg + 3 := by have h1 := i_cl (x := x114) (by omega); have h2 := i_cl (x := i) (by omega); omega
  refine va_sld hx hb hX hbl (Nat.not_le.mpr hbl) hSH104 (vp_in_iff.mpr (by omega)) dL_law_742 ?_
  refine W.eq (g2 := F0 m 743 ls [.int (xs (i.toNatClampNeg + 3)), .int (xs (i.toNatClampNeg + 2)), .int (xs (i.toNatClampNeg + 1)), .ref b]) (congrArg (fun z => F0 m 743 ls [.int (xs z), .int (xs (i.toNatClampNeg + 2)), .int (xs (i.toNatClampNeg + 1)), .ref b]) ejx114) ?_
  refine x_V (As := [.int (xs (i.toNatClampNeg + 1)), .int (xs (i.toNatClampNeg + 2)), .int (xs (i.toNatClampNeg + 3))]) (rest := []) C (a_X10_goal l K G H104 ((xs (i.toNatClampNeg + 1))) ((xs (i.toNatClampNeg + 2))) ((xs (i.toNatClampNeg + 3))) hTH104 gb g106 g107 g108 g109) yo_X10_goal wM_L_75 ⟨⟨by decide, by decide⟩, show _ ≤ 284929 by omega, show _ ≤ 8247460 by omega⟩ (x_rv C hTH104 (ci := 10) rfl gb rg_112) rfl hl.1 rfl (Nat.le_of_ble_eq_true rfl) dL_law_743 hSH104 (AE_new hN hSH104.1) (fun vH115 H115 locsH115 pH115 zH115 kH115 hSH115 => ?_)
  obtain ⟨x116, hvH115, bx116, g117, g118, g119, g120, mf121, hTH115⟩ := pH115
  subst hvH115
  have m122 := (m110).trans (fI_kept (x_lt hTH104 kH115 ga (by decide))).symm
  have m123 := (m111).trans (MF.i mf121 (k := 18) (by decide) (by decide)).symm
  refine W.eq (g2 := F0 m 746 ls [.int x116]) rfl ?_
  refine lv_pop hx hb dL_law_746 rfl ?_
  refine lv_goto (tgt := 1509) hx hb dL_law_747 (by decide) ?_
  exact nx G H115 locsH115 _ _ ls ⟨hTH115, hN, ga, gb, g117, g118, g119, g120, (by rw [← m122, ← m123]; omega), hSH115⟩ hl (by omega) (by omega)
set_option maxRecDepth 100000 in
set_option maxHeartbeats 1000000 in
theorem lw_c14 {p : Program} {l : Launch} {e : Env} {s : State} {m : MethodId} {below : List Frame} {meth : Method} {c : Code} {K : KE} {b0 L : Nat} {xs : Nat → Int32} {G : Nat → Option Nat} {H : Heap} {locs : List Loc} {a b : Nat} {cells slots : Nat} {ls : Array Slot} {i : Int32} {n : Nat} (D : LC p K s m meth c b0 L xs) (S : SX K s G H locs a b) (hl : lv_has ls 4 [(3, .int i), (2, .ref b), (1, .ref a), (0, .ref b0)]) (hi : 0 ≤ i.toInt ∧ i.toInt + 6 ≤ L) (hn : n ≤ 511) (hc : cells ≤ 10000 + 434 * n) (hs : slots ≤ 200000 + 13027 * n) (nx : ∀ (G : Nat → Option Nat) (H : Heap) (locs : List Loc) (cells slots : Nat) (ls : Array Slot), SX K s G H locs a b → lv_has ls 4 [(3, .int i), (2, .ref b), (1, .ref a), (0, .ref b0)] → cells ≤ 10000 + 434 * (n + 1) → slots ≤ 200000 + 13027 * (n + 1) → W p l e room_1 s m #[Value.ref b0] below meth c H locs cells slots (lw_Z below #[Value.ref b0] s) (F0 m 1509 ls [])) : W p l e room_1 s m #[Value.ref b0] below meth c H locs cells slots (lw_Z below #[Value.ref b0] s) (F0 m 750 ls []) := by
  obtain ⟨C, hX, hbl, hL⟩ := id D
  obtain ⟨hx, hb, hml, hown, hts, hKT, hr, hlocks, hnm⟩ := id C
  obtain ⟨hT, hN, ga, gb, cg, tu, wd, im, rt, hS⟩ := S
  have n_1 : (1 : Int32).toInt = 1 := rfl
  obtain ⟨ta, eta⟩ : ∃ z : Int32, z = fI H a (K.1.2 9 3) := ⟨_, rfl⟩
  obtain ⟨tb, etb⟩ : ∃ z : Int32, z = fI H b (K.1.2 10 18) := ⟨_, rfl⟩
  rw [← eta, ← etb] at rt
  refine lv_aload_n hx hb dL_law_750 rfl (lv_at hl 2 rfl) ?_
  refine lv_aload_n hx hb dL_law_751 rfl (lv_at hl 3 rfl) ?_
  refine lv_iload_n hx hb dL_law_752 rfl (lv_at hl 0 rfl) ?_
  refine lv_iconst (v := 1) hx hb dL_law_753 (by decide) ?_
  refine lv_iadd hx hb dL_law_754 ?_
  refine lv_topi (fun x101 ex101 => ?_)
  have tx101 := i_add ex101 (by omega)
  have ejx101 : x101.toNatClampNeg = i.toNatClampNeg + 1 := by have h1 := i_cl (x := x101) (by omega); have h2 := i_cl (x := i) (by omega); omega
  refine va_sld hx hb hX hbl (Nat.not_le.mpr hbl) hS (vp_in_iff.mpr (by omega)) dL_law_755 ?_
  refine W.eq (g2 := F0 m 756 ls [.int (xs (i.toNatClampNeg + 1)), .ref a]) (congrArg (fun z => F0 m 756 ls [.int (xs z), .ref a]) ejx101) ?_
  refine x_V (As := [.int (xs (i.toNatClampNeg + 1))]) (rest := []) C (a_X9_slack_s l K G H ((xs (i.toNatClampNeg + 1))) hT ga) yo_X9_slack wM_L_76 ⟨⟨by decide, by decide⟩, show _ ≤ 284929 by omega, show _ ≤ 8247460 by omega⟩ (x_rv C hT (ci := 9) rfl ga rg_68) rfl hl.1 rfl (Nat.le_of_ble_eq_true rfl) dL_law_756 hS (AE_new hN hS.1) (fun vH102 H102 locsH102 pH102 zH102 kH102 hSH102 => ?_)
  obtain ⟨x103, hvH102, bx103, hrH102, hTH102⟩ := pH102
  subst hvH102
  have g104 : CG (avw K H102 b) := CG.congr (fun k hk j => av_eff hT kH102 gb (by decide) (CG_eff [0] (by decide) k hk)) cg
  have g105 : TU (avw K H102 b) (svw K H102 b) := TU.congr (fun k hk j => av_eff hT kH102 gb (by decide) (TU_eff [0] (by decide) k hk)) (fun k hk => sv_eff hT kH102 gb (by decide)) tu
  have g106 : WD (avw K H102 b) := WD.congr (fun k hk j => av_eff hT kH102 gb (by decide) (WD_eff [0] (by decide) k hk)) wd
  have g107 : IM (avw K H102 b) := IM.congr (fun k hk j => av_eff hT kH102 gb (by decide) (IM_eff [0] (by decide) k hk)) im
  have m108 := (eta).trans (fI_kept (x_lt hT kH102 ga (by decide))).symm
  have m109 := (etb).trans (fI_kept (x_lt hT kH102 gb (by decide))).symm
  refine W.eq (g2 := F0 m 759 ls [.int x103]) rfl ?_
  refine lv_pop hx hb dL_law_759 rfl ?_
  refine lv_aload_n hx hb dL_law_760 rfl (lv_at hl 1 rfl) ?_
  refine lv_aload_n hx hb dL_law_761 rfl (lv_at hl 3 rfl) ?_
  refine lv_iload_n hx hb dL_law_762 rfl (lv_at hl 0 rfl) ?_
  refine lv_iconst (v := 1) hx hb dL_law_763 (by decide) ?_
  refine lv_iadd hx hb dL_law_764 ?_
  refine lv_topi (fun x110 ex110 => ?_)
  have tx110 := i_add ex110 (by omega)
  have ejx110 : x110.toNatClampNeg = i.toNatClampNeg + 1 := by have h1 := i_cl (x := x110) (by omega); have h2 := i_cl (x := i) (by omega); omega
  refine va_sld hx hb hX hbl (Nat.not_le.mpr hbl) hSH102 (vp_in_iff.mpr (by omega)) dL_law_765 ?_
  refine W.eq (g2 := F0 m 766 ls [.int (xs (i.toNatClampNeg + 1)), .ref b]) (congrArg (fun z => F0 m 766 ls [.int (xs z), .ref b]) ejx110) ?_
  refine x_V (As := [.int (xs (i.toNatClampNeg + 1))]) (rest := []) C (a_X10_slack_s l K G H102 ((xs (i.toNatClampNeg + 1))) hTH102 gb g104 g105 g106 g107) yo_X10_slack wM_L_79 ⟨⟨by decide, by decide⟩, show _ ≤ 284929 by omega, show _ ≤ 8247460 by omega⟩ (x_rv C hTH102 (ci := 10) rfl gb rg_112) rfl hl.1 rfl (Nat.le_of_ble_eq_true rfl) dL_law_766 hSH102 (AE_new hN hSH102.1) (fun vH111 H111 locsH111 pH111 zH111 kH111 hSH111 => ?_)
  obtain ⟨x112, hvH111, bx112, hrH111, g113, g114, g115, g116, mf117, hTH111⟩ := pH111
  subst hvH111
  have m118 := (m108).trans (fI_kept (x_lt hTH102 kH111 ga (by decide))).symm
  have m119 := (m109).trans (MF.i mf117 (k := 18) (by decide) (by decide)).symm
  refine W.eq (g2 := F0 m 769 ls [.int x112]) rfl ?_
  refine lv_pop hx hb dL_law_769 rfl ?_
  refine lv_goto (tgt := 1509) hx hb dL_law_770 (by decide) ?_
  exact nx G H111 locsH111 _ _ ls ⟨hTH111, hN, ga, gb, g113, g114, g115, g116, (by rw [← m118, ← m119]; omega), hSH111⟩ hl (by omega) (by omega)
set_option maxRecDepth 100000 in
set_option maxHeartbeats 1000000 in
theorem lw_c15 {p : Program} {l : Launch} {e : Env} {s : State} {m : MethodId} {below : List Frame} {meth : Method} {c : Code} {K : KE} {b0 L : Nat} {xs : Nat → Int32} {G : Nat → Option Nat} {H : Heap} {locs : List Loc} {a b : Nat} {cells slots : Nat} {ls : Array Slot} {i : Int32} {n : Nat} (D : LC p K s m meth c b0 L xs) (S : SX K s G H locs a b) (hl : lv_has ls 4 [(3, .int i), (2, .ref b), (1, .ref a), (0, .ref b0)]) (hi : 0 ≤ i.toInt ∧ i.toInt + 6 ≤ L) (hn : n ≤ 511) (hc : cells ≤ 10000 + 434 * n) (hs : slots ≤ 200000 + 13027 * n) (nx : ∀ (G : Nat → Option Nat) (H : Heap) (locs : List Loc) (cells slots : Nat) (ls : Array Slot), SX K s G H locs a b → lv_has ls 4 [(3, .int i), (2, .ref b), (1, .ref a), (0, .ref b0)] → cells ≤ 10000 + 434 * (n + 1) → slots ≤ 200000 + 13027 * (n + 1) → W p l e room_1 s m #[Value.ref b0] below meth c H locs cells slots (lw_Z below #[Value.ref b0] s) (F0 m 1509 ls [])) : W p l e room_1 s m #[Value.ref b0] below meth c H locs cells slots (lw_Z below #[Value.ref b0] s) (F0 m 773 ls []) := by
  obtain ⟨C, hX, hbl, hL⟩ := id D
  obtain ⟨hx, hb, hml, hown, hts, hKT, hr, hlocks, hnm⟩ := id C
  obtain ⟨hT, hN, ga, gb, cg, tu, wd, im, rt, hS⟩ := S
  have n_1 : (1 : Int32).toInt = 1 := rfl
  have n_2 : (2 : Int32).toInt = 2 := rfl
  obtain ⟨ta, eta⟩ : ∃ z : Int32, z = fI H a (K.1.2 9 3) := ⟨_, rfl⟩
  obtain ⟨tb, etb⟩ : ∃ z : Int32, z = fI H b (K.1.2 10 18) := ⟨_, rfl⟩
  rw [← eta, ← etb] at rt
  refine lv_aload_n hx hb dL_law_773 rfl (lv_at hl 2 rfl) ?_
  refine lv_aload_n hx hb dL_law_774 rfl (lv_at hl 3 rfl) ?_
  refine lv_iload_n hx hb dL_law_775 rfl (lv_at hl 0 rfl) ?_
  refine lv_iconst (v := 1) hx hb dL_law_776 (by decide) ?_
  refine lv_iadd hx hb dL_law_777 ?_
  refine lv_topi (fun x101 ex101 => ?_)
  have tx101 := i_add ex101 (by omega)
  have ejx101 : x101.toNatClampNeg = i.toNatClampNeg + 1 := by have h1 := i_cl (x := x101) (by omega); have h2 := i_cl (x := i) (by omega); omega
  refine va_sld hx hb hX hbl (Nat.not_le.mpr hbl) hS (vp_in_iff.mpr (by omega)) dL_law_778 ?_
  refine W.eq (g2 := F0 m 779 ls [.int (xs (i.toNatClampNeg + 1)), .ref a]) (congrArg (fun z => F0 m 779 ls [.int (xs z), .ref a]) ejx101) ?_
  refine lv_aload_n hx hb dL_law_779 rfl (lv_at hl 3 rfl) ?_
  refine lv_iload_n hx hb dL_law_780 rfl (lv_at hl 0 rfl) ?_
  refine lv_iconst (v := 2) hx hb dL_law_781 (by decide) ?_
  refine lv_iadd hx hb dL_law_782 ?_
  refine lv_topi (fun x102 ex102 => ?_)
  have tx102 := i_add ex102 (by omega)
  have ejx102 : x102.toNatClampNeg = i.toNatClampNeg + 2 := by have h1 := i_cl (x := x102) (by omega); have h2 := i_cl (x := i) (by omega); omega
  refine va_sld hx hb hX hbl (Nat.not_le.mpr hbl) hS (vp_in_iff.mpr (by omega)) dL_law_783 ?_
  refine W.eq (g2 := F0 m 784 ls [.int (xs (i.toNatClampNeg + 2)), .int (xs (i.toNatClampNeg + 1)), .ref a]) (congrArg (fun z => F0 m 784 ls [.int (xs z), .int (xs (i.toNatClampNeg + 1)), .ref a]) ejx102) ?_
  refine x_V (As := [.int (xs (i.toNatClampNeg + 1)), .int (xs (i.toNatClampNeg + 2))]) (rest := []) C (a_X9_state l K G H ((xs (i.toNatClampNeg + 1))) ((xs (i.toNatClampNeg + 2))) hT ga) yo_X9_state wM_L_80 ⟨⟨by decide, by decide⟩, show _ ≤ 284929 by omega, show _ ≤ 8247460 by omega⟩ (x_rv C hT (ci := 9) rfl ga rg_68) rfl hl.1 rfl (Nat.le_of_ble_eq_true rfl) dL_law_784 hS (AE_new hN hS.1) (fun vH103 H103 locsH103 pH103 zH103 kH103 hSH103 => ?_)
  obtain ⟨x104, hvH103, hTH103⟩ := pH103
  subst hvH103
  have g105 : CG (avw K H103 b) := CG.congr (fun k hk j => av_eff hT kH103 gb (by decide) (CG_eff [83, 84, 110] (by decide) k hk)) cg
  have g106 : TU (avw K H103 b) (svw K H103 b) := TU.congr (fun k hk j => av_eff hT kH103 gb (by decide) (TU_eff [83, 84, 110] (by decide) k hk)) (fun k hk => sv_eff hT kH103 gb (by decide)) tu
  have g107 : WD (avw K H103 b) := WD.congr (fun k hk j => av_eff hT kH103 gb (by decide) (WD_eff [83, 84, 110] (by decide) k hk)) wd
  have g108 : IM (avw K H103 b) := IM.congr (fun k hk j => av_eff hT kH103 gb (by decide) (IM_eff [83, 84, 110] (by decide) k hk)) im
  have m109 := (eta).trans (fI_kept (x_lt hT kH103 ga (by decide))).symm
  have m110 := (etb).trans (fI_kept (x_lt hT kH103 gb (by decide))).symm
  refine W.eq (g2 := F0 m 787 ls [.int x104]) rfl ?_
  refine lv_pop hx hb dL_law_787 rfl ?_
  refine lv_aload_n hx hb dL_law_788 rfl (lv_at hl 1 rfl) ?_
  refine lv_aload_n hx hb dL_law_789 rfl (lv_at hl 3 rfl) ?_
  refine lv_iload_n hx hb dL_law_790 rfl (lv_at hl 0 rfl) ?_
  refine lv_iconst (v := 1) hx hb dL_law_791 (by decide) ?_
  refine lv_iadd hx hb dL_law_792 ?_
  refine lv_topi (fun x111 ex111 => ?_)
  have tx111 := i_add ex111 (by omega)
  have ejx111 : x111.toNatClampNeg = i.toNatClampNeg + 1 := by have h1 := i_cl (x := x111) (by omega); have h2 := i_cl (x := i) (by omega); omega
  refine va_sld hx hb hX hbl (Nat.not_le.mpr hbl) hSH103 (vp_in_iff.mpr (by omega)) dL_law_793 ?_
  refine W.eq (g2 := F0 m 794 ls [.int (xs (i.toNatClampNeg + 1)), .ref b]) (congrArg (fun z => F0 m 794 ls [.int (xs z), .ref b]) ejx111) ?_
  refine lv_aload_n hx hb dL_law_794 rfl (lv_at hl 3 rfl) ?_
  refine lv_iload_n hx hb dL_law_795 rfl (lv_at hl 0 rfl) ?_
  refine lv_iconst (v := 2) hx hb dL_law_796 (by decide) ?_
  refine lv_iadd hx hb dL_law_797 ?_
  refine lv_topi (fun x112 ex112 => ?_)
  have tx112 := i_add ex112 (by omega)
  have ejx112 : x112.toNatClampNeg = i.toNatClampNeg + 2 := by have h1 := i_cl (x := x112) (by omega); have h2 := i_cl (x := i) (by omega); omega
  refine va_sld hx hb hX hbl (Nat.not_le.mpr hbl) hSH103 (vp_in_iff.mpr (by omega)) dL_law_798 ?_
  refine W.eq (g2 := F0 m 799 ls [.int (xs (i.toNatClampNeg + 2)), .int (xs (i.toNatClampNeg + 1)), .ref b]) (congrArg (fun z => F0 m 799 ls [.int (xs z), .int (xs (i.toNatClampNeg + 1)), .ref b]) ejx112) ?_
  refine x_V (As := [.int (xs (i.toNatClampNeg + 1)), .int (xs (i.toNatClampNeg + 2))]) (rest := []) C (a_X10_state l K G H103 ((xs (i.toNatClampNeg + 1))) ((xs (i.toNatClampNeg + 2))) hTH103 gb g105 g106 g107 g108) yo_X10_state wM_L_83 ⟨⟨by decide, by decide⟩, show _ ≤ 284929 by omega, show _ ≤ 8247460 by omega⟩ (x_rv C hTH103 (ci := 10) rfl gb rg_112) rfl hl.1 rfl (Nat.le_of_ble_eq_true rfl) dL_law_799 hSH103 (AE_new hN hSH103.1) (fun vH113 H113 locsH113 pH113 zH113 kH113 hSH113 => ?_)
  obtain ⟨x114, hvH113, g115, g116, g117, g118, mf119, hTH113⟩ := pH113
  subst hvH113
  have m120 := (m109).trans (fI_kept (x_lt hTH103 kH113 ga (by decide))).symm
  have m121 := (m110).trans (MF.i mf119 (k := 18) (by decide) (by decide)).symm
  refine W.eq (g2 := F0 m 802 ls [.int x114]) rfl ?_
  refine lv_pop hx hb dL_law_802 rfl ?_
  refine lv_goto (tgt := 1509) hx hb dL_law_803 (by decide) ?_
  exact nx G H113 locsH113 _ _ ls ⟨hTH113, hN, ga, gb, g115, g116, g117, g118, (by rw [← m120, ← m121]; omega), hSH113⟩ hl (by omega) (by omega)
set_option maxRecDepth 100000 in
set_option maxHeartbeats 1000000 in
theorem lw_c16 {p : Program} {l : Launch} {e : Env} {s : State} {m : MethodId} {below : List Frame} {meth : Method} {c : Code} {K : KE} {b0 L : Nat} {xs : Nat → Int32} {G : Nat → Option Nat} {H : Heap} {locs : List Loc} {a b : Nat} {cells slots : Nat} {ls : Array Slot} {i : Int32} {n : Nat} (D : LC p K s m meth c b0 L xs) (S : SX K s G H locs a b) (hl : lv_has ls 4 [(3, .int i), (2, .ref b), (1, .ref a), (0, .ref b0)]) (hi : 0 ≤ i.toInt ∧ i.toInt + 6 ≤ L) (hn : n ≤ 511) (hc : cells ≤ 10000 + 434 * n) (hs : slots ≤ 200000 + 13027 * n) (nx : ∀ (G : Nat → Option Nat) (H : Heap) (locs : List Loc) (cells slots : Nat) (ls : Array Slot), SX K s G H locs a b → lv_has ls 4 [(3, .int i), (2, .ref b), (1, .ref a), (0, .ref b0)] → cells ≤ 10000 + 434 * (n + 1) → slots ≤ 200000 + 13027 * (n + 1) → W p l e room_1 s m #[Value.ref b0] below meth c H locs cells slots (lw_Z below #[Value.ref b0] s) (F0 m 1509 ls [])) : W p l e room_1 s m #[Value.ref b0] below meth c H locs cells slots (lw_Z below #[Value.ref b0] s) (F0 m 806 ls []) := by
  obtain ⟨C, hX, hbl, hL⟩ := id D
  obtain ⟨hx, hb, hml, hown, hts, hKT, hr, hlocks, hnm⟩ := id C
  obtain ⟨hT, hN, ga, gb, cg, tu, wd, im, rt, hS⟩ := S
  have n_1 : (1 : Int32).toInt = 1 := rfl
  have n_2 : (2 : Int32).toInt = 2 := rfl
  have n_3 : (3 : Int32).toInt = 3 := rfl
  obtain ⟨ta, eta⟩ : ∃ z : Int32, z = fI H a (K.1.2 9 3) := ⟨_, rfl⟩
  obtain ⟨tb, etb⟩ : ∃ z : Int32, z = fI H b (K.1.2 10 18) := ⟨_, rfl⟩
  rw [← eta, ← etb] at rt
  refine lv_aload_n hx hb dL_law_806 rfl (lv_at hl 2 rfl) ?_
  refine lv_aload_n hx hb dL_law_807 rfl (lv_at hl 3 rfl) ?_
  refine lv_iload_n hx hb dL_law_808 rfl (lv_at hl 0 rfl) ?_
  refine lv_iconst (v := 1) hx hb dL_law_809 (by decide) ?_
  refine lv_iadd hx hb dL_law_810 ?_
  refine lv_topi (fun x101 ex101 => ?_)
  have tx101 := i_add ex101 (by omega)
  have ejx101 : x101.toNatClampNeg = i.toNatClampNeg + 1 := by have h1 := i_cl (x := x101) (by omega); have h2 := i_cl (x := i) (by omega); omega
  refine va_sld hx hb hX hbl (Nat.not_le.mpr hbl) hS (vp_in_iff.mpr (by omega)) dL_law_811 ?_
  refine W.eq (g2 := F0 m 812 ls [.int (xs (i.toNatClampNeg + 1)), .ref a]) (congrArg (fun z => F0 m 812 ls [.int (xs z), .ref a]) ejx101) ?_
  refine lv_aload_n hx hb dL_law_812 rfl (lv_at hl 3 rfl) ?_
  refine lv_iload_n hx hb dL_law_813 rfl (lv_at hl 0 rfl) ?_
  refine lv_iconst (v := 2) hx hb dL_law_814 (by decide) ?_
  refine lv_iadd hx hb dL_law_815 ?_
  refine lv_topi (fun x102 ex102 => ?_)
  have tx102 := i_add ex102 (by omega)
  have ejx102 : x102.toNatClampNeg = i.toNatClampNeg + 2 := by have h1 := i_cl (x := x102) (by omega); have h2 := i_cl (x := i) (by omega); omega
  refine va_sld hx hb hX hbl (Nat.not_le.mpr hbl) hS (vp_in_iff.mpr (by omega)) dL_law_816 ?_
  refine W.eq (g2 := F0 m 817 ls [.int (xs (i.toNatClampNeg + 2)), .int (xs (i.toNatClampNeg + 1)), .ref a]) (congrArg (fun z => F0 m 817 ls [.int (xs z), .int (xs (i.toNatClampNeg + 1)), .ref a]) ejx102) ?_
  refine lv_aload_n hx hb dL_law_817 rfl (lv_at hl 3 rfl) ?_
  refine lv_iload_n hx hb dL_law_818 rfl (lv_at hl 0 rfl) ?_
  refine lv_iconst (v := 3) hx hb dL_law_819 (by decide) ?_
  refine lv_iadd hx hb dL_law_820 ?_
  refine lv_topi (fun x103 ex103 => ?_)
  have tx103 := i_add ex103 (by omega)
  have ejx103 : x103.toNatClampNeg = i.toNatClampNeg + 3 := by have h1 := i_cl (x := x103) (by omega); have h2 := i_cl (x := i) (by omega); omega
  refine va_sld hx hb hX hbl (Nat.not_le.mpr hbl) hS (vp_in_iff.mpr (by omega)) dL_law_821 ?_
  refine W.eq (g2 := F0 m 822 ls [.int (xs (i.toNatClampNeg + 3)), .int (xs (i.toNatClampNeg + 2)), .int (xs (i.toNatClampNeg + 1)), .ref a]) (congrArg (fun z => F0 m 822 ls [.int (xs z), .int (xs (i.toNatClampNeg + 2)), .int (xs (i.toNatClampNeg + 1)), .ref a]) ejx103) ?_
  refine x_V (As := [.int (xs (i.toNatClampNeg + 1)), .int (xs (i.toNatClampNeg + 2)), .int (xs (i.toNatClampNeg + 3))]) (rest := []) C (a_X9_takes l K G H ((xs (i.toNatClampNeg + 1))) ((xs (i.toNatClampNeg + 2))) ((xs (i.toNatClampNeg + 3))) hT ga) yo_X9_takes wM_L_84 ⟨⟨by decide, by decide⟩, show _ ≤ 284929 by omega, show _ ≤ 8247460 by omega⟩ (x_rv C hT (ci := 9) rfl ga rg_68) rfl hl.1 rfl (Nat.le_of_ble_eq_true rfl) dL_law_822 hS (AE_new hN hS.1) (fun vH104 H104 locsH104 pH104 zH104 kH104 hSH104 => ?_)
  obtain ⟨x105, hvH104, hTH104⟩ := pH104
  subst hvH104
  have g106 : CG (avw K H104 b) := CG.congr (fun k hk j => av_eff hT kH104 gb (by decide) (CG_eff [111, 83, 84] (by decide) k hk)) cg
  have g107 : TU (avw K H104 b) (svw K H104 b) := TU.congr (fun k hk j => av_eff hT kH104 gb (by decide) (TU_eff [111, 83, 84] (by decide) k hk)) (fun k hk => sv_eff hT kH104 gb (by decide)) tu
  have g108 : WD (avw K H104 b) := WD.congr (fun k hk j => av_eff hT kH104 gb (by decide) (WD_eff [111, 83, 84] (by decide) k hk)) wd
  have g109 : IM (avw K H104 b) := IM.congr (fun k hk j => av_eff hT kH104 gb (by decide) (IM_eff [111, 83, 84] (by decide) k hk)) im
  have m110 := (eta).trans (fI_kept (x_lt hT kH104 ga (by decide))).symm
  have m111 := (etb).trans (fI_kept (x_lt hT kH104 gb (by decide))).symm
  refine W.eq (g2 := F0 m 825 ls [.int x105]) rfl ?_
  refine lv_pop hx hb dL_law_825 rfl ?_
  refine lv_aload_n hx hb dL_law_826 rfl (lv_at hl 1 rfl) ?_
  refine lv_aload_n hx hb dL_law_827 rfl (lv_at hl 3 rfl) ?_
  refine lv_iload_n hx hb dL_law_828 rfl (lv_at hl 0 rfl) ?_
  refine lv_iconst (v := 1) hx hb dL_law_829 (by decide) ?_
  refine lv_iadd hx hb dL_law_830 ?_
  refine lv_topi (fun x112 ex112 => ?_)
  have tx112 := i_add ex112 (by omega)
  have ejx112 : x112.toNatClampNeg = i.toNatClampNeg + 1 := by have h1 := i_cl (x := x112) (by omega); have h2 := i_cl (x := i) (by omega); omega
  refine va_sld hx hb hX hbl (Nat.not_le.mpr hbl) hSH104 (vp_in_iff.mpr (by omega)) dL_law_831 ?_
  refine W.eq (g2 := F0 m 832 ls [.int (xs (i.toNatClampNeg + 1)), .ref b]) (congrArg (fun z => F0 m 832 ls [.int (xs z), .ref b]) ejx112) ?_
  refine lv_aload_n hx hb dL_law_832 rfl (lv_at hl 3 rfl) ?_
  refine lv_iload_n hx hb dL_law_833 rfl (lv_at hl 0 rfl) ?_
  refine lv_iconst (v := 2) hx hb dL_law_834 (by decide) ?_
  refine lv_iadd hx hb dL_law_835 ?_
  refine lv_topi (fun x113 ex113 => ?_)
  have tx113 := i_add ex113 (by omega)
  have ejx113 : x113.toNatClampNeg = i.toNatClampNeg + 2 := by have h1 := i_cl (x := x113) (by omega); have h2 := i_cl (x := i) (by omega); omega
  refine va_sld hx hb hX hbl (Nat.not_le.mpr hbl) hSH104 (vp_in_iff.mpr (by omega)) dL_law_836 ?_
  refine W.eq (g2 := F0 m 837 ls [.int (xs (i.toNatClampNeg + 2)), .int (xs (i.toNatClampNeg + 1)), .ref b]) (congrArg (fun z => F0 m 837 ls [.int (xs z), .int (xs (i.toNatClampNeg + 1)), .ref b]) ejx113) ?_
  refine lv_aload_n hx hb dL_law_837 rfl (lv_at hl 3 rfl) ?_
  refine lv_iload_n hx hb dL_law_838 rfl (lv_at hl 0 rfl) ?_
  refine lv_iconst (v := 3) hx hb dL_law_839 (by decide) ?_
  refine lv_iadd hx hb dL_law_840 ?_
  refine lv_topi (fun x114 ex114 => ?_)
  have tx114 := i_add ex114 (by omega)
  have ejx114 : x114.toNatClampNeg = i.toNatClampNeg + 3 := by have h1 := i_cl (x := x114) (by omega); have h2 := i_cl (x := i) (by omega); omega
  refine va_sld hx hb hX hbl (Nat.not_le.mpr hbl) hSH104 (vp_in_iff.mpr (by omega)) dL_law_841 ?_
  refine W.eq (g2 := F0 m 842 ls [.int (xs (i.toNatClampNeg + 3)), .int (xs (i.toNatClampNeg + 2)), .int (xs (i.toNatClampNeg + 1)), .ref b]) (congrArg (fun z => F0 m 842 ls [.int (xs z), .int (xs (i.toNatClampNeg + 2)), .int (xs (i.toNatClampNeg + 1)), .ref b]) ejx114) ?_
  refine x_V (As := [.int (xs (i.toNatClampNeg + 1)), .int (xs (i.toNatClampNeg + 2)), .int (xs (i.toNatClampNeg + 3))]) (rest := []) C (a_X10_takes l K G H104 ((xs (i.toNatClampNeg + 1))) ((xs (i.toNatClampNeg + 2))) ((xs (i.toNatClampNeg + 3))) hTH104 gb g106 g107 g108 g109) yo_X10_takes wM_L_87 ⟨⟨by decide, by decide⟩, show _ ≤ 284929 by omega, show _ ≤ 8247460 by omega⟩ (x_rv C hTH104 (ci := 10) rfl gb rg_112) rfl hl.1 rfl (Nat.le_of_ble_eq_true rfl) dL_law_842 hSH104 (AE_new hN hSH104.1) (fun vH115 H115 locsH115 pH115 zH115 kH115 hSH115 => ?_)
  obtain ⟨x116, hvH115, g117, g118, g119, g120, mf121, hTH115⟩ := pH115
  subst hvH115
  have m122 := (m110).trans (fI_kept (x_lt hTH104 kH115 ga (by decide))).symm
  have m123 := (m111).trans (MF.i mf121 (k := 18) (by decide) (by decide)).symm
  refine W.eq (g2 := F0 m 845 ls [.int x116]) rfl ?_
  refine lv_pop hx hb dL_law_845 rfl ?_
  refine lv_goto (tgt := 1509) hx hb dL_law_846 (by decide) ?_
  exact nx G H115 locsH115 _ _ ls ⟨hTH115, hN, ga, gb, g117, g118, g119, g120, (by rw [← m122, ← m123]; omega), hSH115⟩ hl (by omega) (by omega)
set_option maxRecDepth 100000 in
set_option maxHeartbeats 1000000 in
theorem lw_c17 {p : Program} {l : Launch} {e : Env} {s : State} {m : MethodId} {below : List Frame} {meth : Method} {c : Code} {K : KE} {b0 L : Nat} {xs : Nat → Int32} {G : Nat → Option Nat} {H : Heap} {locs : List Loc} {a b : Nat} {cells slots : Nat} {ls : Array Slot} {i : Int32} {n : Nat} (D : LC p K s m meth c b0 L xs) (S : SX K s G H locs a b) (hl : lv_has ls 4 [(3, .int i), (2, .ref b), (1, .ref a), (0, .ref b0)]) (hi : 0 ≤ i.toInt ∧ i.toInt + 6 ≤ L) (hn : n ≤ 511) (hc : cells ≤ 10000 + 434 * n) (hs : slots ≤ 200000 + 13027 * n) (nx : ∀ (G : Nat → Option Nat) (H : Heap) (locs : List Loc) (cells slots : Nat) (ls : Array Slot), SX K s G H locs a b → lv_has ls 4 [(3, .int i), (2, .ref b), (1, .ref a), (0, .ref b0)] → cells ≤ 10000 + 434 * (n + 1) → slots ≤ 200000 + 13027 * (n + 1) → W p l e room_1 s m #[Value.ref b0] below meth c H locs cells slots (lw_Z below #[Value.ref b0] s) (F0 m 1509 ls [])) : W p l e room_1 s m #[Value.ref b0] below meth c H locs cells slots (lw_Z below #[Value.ref b0] s) (F0 m 849 ls []) := by
  obtain ⟨C, hX, hbl, hL⟩ := id D
  obtain ⟨hx, hb, hml, hown, hts, hKT, hr, hlocks, hnm⟩ := id C
  obtain ⟨hT, hN, ga, gb, cg, tu, wd, im, rt, hS⟩ := S
  have n_1 : (1 : Int32).toInt = 1 := rfl
  have n_2 : (2 : Int32).toInt = 2 := rfl
  obtain ⟨ta, eta⟩ : ∃ z : Int32, z = fI H a (K.1.2 9 3) := ⟨_, rfl⟩
  obtain ⟨tb, etb⟩ : ∃ z : Int32, z = fI H b (K.1.2 10 18) := ⟨_, rfl⟩
  rw [← eta, ← etb] at rt
  refine lv_aload_n hx hb dL_law_849 rfl (lv_at hl 2 rfl) ?_
  refine lv_aload_n hx hb dL_law_850 rfl (lv_at hl 3 rfl) ?_
  refine lv_iload_n hx hb dL_law_851 rfl (lv_at hl 0 rfl) ?_
  refine lv_iconst (v := 1) hx hb dL_law_852 (by decide) ?_
  refine lv_iadd hx hb dL_law_853 ?_
  refine lv_topi (fun x101 ex101 => ?_)
  have tx101 := i_add ex101 (by omega)
  have ejx101 : x101.toNatClampNeg = i.toNatClampNeg + 1 := by have h1 := i_cl (x := x101) (by omega); have h2 := i_cl (x := i) (by omega); omega
  refine va_sld hx hb hX hbl (Nat.not_le.mpr hbl) hS (vp_in_iff.mpr (by omega)) dL_law_854 ?_
  refine W.eq (g2 := F0 m 855 ls [.int (xs (i.toNatClampNeg + 1)), .ref a]) (congrArg (fun z => F0 m 855 ls [.int (xs z), .ref a]) ejx101) ?_
  refine lv_aload_n hx hb dL_law_855 rfl (lv_at hl 3 rfl) ?_
  refine lv_iload_n hx hb dL_law_856 rfl (lv_at hl 0 rfl) ?_
  refine lv_iconst (v := 2) hx hb dL_law_857 (by decide) ?_
  refine lv_iadd hx hb dL_law_858 ?_
  refine lv_topi (fun x102 ex102 => ?_)
  have tx102 := i_add ex102 (by omega)
  have ejx102 : x102.toNatClampNeg = i.toNatClampNeg + 2 := by have h1 := i_cl (x := x102) (by omega); have h2 := i_cl (x := i) (by omega); omega
  refine va_sld hx hb hX hbl (Nat.not_le.mpr hbl) hS (vp_in_iff.mpr (by omega)) dL_law_859 ?_
  refine W.eq (g2 := F0 m 860 ls [.int (xs (i.toNatClampNeg + 2)), .int (xs (i.toNatClampNeg + 1)), .ref a]) (congrArg (fun z => F0 m 860 ls [.int (xs z), .int (xs (i.toNatClampNeg + 1)), .ref a]) ejx102) ?_
  refine x_V (As := [.int (xs (i.toNatClampNeg + 1)), .int (xs (i.toNatClampNeg + 2))]) (rest := []) C (a_X9_job l K G H ((xs (i.toNatClampNeg + 1))) ((xs (i.toNatClampNeg + 2))) hT ga) yo_X9_job wM_L_88 ⟨⟨by decide, by decide⟩, show _ ≤ 284929 by omega, show _ ≤ 8247460 by omega⟩ (x_rv C hT (ci := 9) rfl ga rg_68) rfl hl.1 rfl (Nat.le_of_ble_eq_true rfl) dL_law_860 hS (AE_new hN hS.1) (fun vH103 H103 locsH103 pH103 zH103 kH103 hSH103 => ?_)
  obtain ⟨x104, hvH103, hTH103⟩ := pH103
  subst hvH103
  have g105 : CG (avw K H103 b) := CG.congr (fun k hk j => av_eff hT kH103 gb (by decide) (CG_eff [1, 2, 7, 8, 83, 84, 5] (by decide) k hk)) cg
  have g106 : TU (avw K H103 b) (svw K H103 b) := TU.congr (fun k hk j => av_eff hT kH103 gb (by decide) (TU_eff [1, 2, 7, 8, 83, 84, 5] (by decide) k hk)) (fun k hk => sv_eff hT kH103 gb (by decide)) tu
  have g107 : WD (avw K H103 b) := WD.congr (fun k hk j => av_eff hT kH103 gb (by decide) (WD_eff [1, 2, 7, 8, 83, 84, 5] (by decide) k hk)) wd
  have g108 : IM (avw K H103 b) := IM.congr (fun k hk j => av_eff hT kH103 gb (by decide) (IM_eff [1, 2, 7, 8, 83, 84, 5] (by decide) k hk)) im
  have m109 := (eta).trans (fI_kept (x_lt hT kH103 ga (by decide))).symm
  have m110 := (etb).trans (fI_kept (x_lt hT kH103 gb (by decide))).symm
  refine W.eq (g2 := F0 m 863 ls [.int x104]) rfl ?_
  refine lv_pop hx hb dL_law_863 rfl ?_
  refine lv_aload_n hx hb dL_law_864 rfl (lv_at hl 1 rfl) ?_
  refine lv_aload_n hx hb dL_law_865 rfl (lv_at hl 3 rfl) ?_
  refine lv_iload_n hx hb dL_law_866 rfl (lv_at hl 0 rfl) ?_
  refine lv_iconst (v := 1) hx hb dL_law_867 (by decide) ?_
  refine lv_iadd hx hb dL_law_868 ?_
  refine lv_topi (fun x111 ex111 => ?_)
  have tx111 := i_add ex111 (by omega)
  have ejx111 : x111.toNatClampNeg = i.toNatClampNeg + 1 := by have h1 := i_cl (x := x111) (by omega); have h2 := i_cl (x := i) (by omega); omega
  refine va_sld hx hb hX hbl (Nat.not_le.mpr hbl) hSH103 (vp_in_iff.mpr (by omega)) dL_law_869 ?_
  refine W.eq (g2 := F0 m 870 ls [.int (xs (i.toNatClampNeg + 1)), .ref b]) (congrArg (fun z => F0 m 870 ls [.int (xs z), .ref b]) ejx111) ?_
  refine lv_aload_n hx hb dL_law_870 rfl (lv_at hl 3 rfl) ?_
  refine lv_iload_n hx hb dL_law_871 rfl (lv_at hl 0 rfl) ?_
  refine lv_iconst (v := 2) hx hb dL_law_872 (by decide) ?_
  refine lv_iadd hx hb dL_law_873 ?_
  refine lv_topi (fun x112 ex112 => ?_)
  have tx112 := i_add ex112 (by omega)
  have ejx112 : x112.toNatClampNeg = i.toNatClampNeg + 2 := by have h1 := i_cl (x := x112) (by omega); have h2 := i_cl (x := i) (by omega); omega
  refine va_sld hx hb hX hbl (Nat.not_le.mpr hbl) hSH103 (vp_in_iff.mpr (by omega)) dL_law_874 ?_
  refine W.eq (g2 := F0 m 875 ls [.int (xs (i.toNatClampNeg + 2)), .int (xs (i.toNatClampNeg + 1)), .ref b]) (congrArg (fun z => F0 m 875 ls [.int (xs z), .int (xs (i.toNatClampNeg + 1)), .ref b]) ejx112) ?_
  refine x_V (As := [.int (xs (i.toNatClampNeg + 1)), .int (xs (i.toNatClampNeg + 2))]) (rest := []) C (a_X10_job l K G H103 ((xs (i.toNatClampNeg + 1))) ((xs (i.toNatClampNeg + 2))) hTH103 gb g105 g106 g107 g108) yo_X10_job wM_L_91 ⟨⟨by decide, by decide⟩, show _ ≤ 284929 by omega, show _ ≤ 8247460 by omega⟩ (x_rv C hTH103 (ci := 10) rfl gb rg_112) rfl hl.1 rfl (Nat.le_of_ble_eq_true rfl) dL_law_875 hSH103 (AE_new hN hSH103.1) (fun vH113 H113 locsH113 pH113 zH113 kH113 hSH113 => ?_)
  obtain ⟨x114, hvH113, g115, g116, g117, g118, mf119, hTH113⟩ := pH113
  subst hvH113
  have m120 := (m109).trans (fI_kept (x_lt hTH103 kH113 ga (by decide))).symm
  have m121 := (m110).trans (MF.i mf119 (k := 18) (by decide) (by decide)).symm
  refine W.eq (g2 := F0 m 878 ls [.int x114]) rfl ?_
  refine lv_pop hx hb dL_law_878 rfl ?_
  refine lv_goto (tgt := 1509) hx hb dL_law_879 (by decide) ?_
  exact nx G H113 locsH113 _ _ ls ⟨hTH113, hN, ga, gb, g115, g116, g117, g118, (by rw [← m120, ← m121]; omega), hSH113⟩ hl (by omega) (by omega)
set_option maxRecDepth 100000 in
set_option maxHeartbeats 1000000 in
theorem lw_c18 {p : Program} {l : Launch} {e : Env} {s : State} {m : MethodId} {below : List Frame} {meth : Method} {c : Code} {K : KE} {b0 L : Nat} {xs : Nat → Int32} {G : Nat → Option Nat} {H : Heap} {locs : List Loc} {a b : Nat} {cells slots : Nat} {ls : Array Slot} {i : Int32} {n : Nat} (D : LC p K s m meth c b0 L xs) (S : SX K s G H locs a b) (hl : lv_has ls 4 [(3, .int i), (2, .ref b), (1, .ref a), (0, .ref b0)]) (hi : 0 ≤ i.toInt ∧ i.toInt + 6 ≤ L) (hn : n ≤ 511) (hc : cells ≤ 10000 + 434 * n) (hs : slots ≤ 200000 + 13027 * n) (nx : ∀ (G : Nat → Option Nat) (H : Heap) (locs : List Loc) (cells slots : Nat) (ls : Array Slot), SX K s G H locs a b → lv_has ls 4 [(3, .int i), (2, .ref b), (1, .ref a), (0, .ref b0)] → cells ≤ 10000 + 434 * (n + 1) → slots ≤ 200000 + 13027 * (n + 1) → W p l e room_1 s m #[Value.ref b0] below meth c H locs cells slots (lw_Z below #[Value.ref b0] s) (F0 m 1509 ls [])) : W p l e room_1 s m #[Value.ref b0] below meth c H locs cells slots (lw_Z below #[Value.ref b0] s) (F0 m 882 ls []) := by
  obtain ⟨C, hX, hbl, hL⟩ := id D
  obtain ⟨hx, hb, hml, hown, hts, hKT, hr, hlocks, hnm⟩ := id C
  obtain ⟨hT, hN, ga, gb, cg, tu, wd, im, rt, hS⟩ := S
  have n_1 : (1 : Int32).toInt = 1 := rfl
  have n_2 : (2 : Int32).toInt = 2 := rfl
  obtain ⟨ta, eta⟩ : ∃ z : Int32, z = fI H a (K.1.2 9 3) := ⟨_, rfl⟩
  obtain ⟨tb, etb⟩ : ∃ z : Int32, z = fI H b (K.1.2 10 18) := ⟨_, rfl⟩
  rw [← eta, ← etb] at rt
  refine lv_aload_n hx hb dL_law_882 rfl (lv_at hl 2 rfl) ?_
  refine lv_aload_n hx hb dL_law_883 rfl (lv_at hl 3 rfl) ?_
  refine lv_iload_n hx hb dL_law_884 rfl (lv_at hl 0 rfl) ?_
  refine lv_iconst (v := 1) hx hb dL_law_885 (by decide) ?_
  refine lv_iadd hx hb dL_law_886 ?_
  refine lv_topi (fun x101 ex101 => ?_)
  have tx101 := i_add ex101 (by omega)
  have ejx101 : x101.toNatClampNeg = i.toNatClampNeg + 1 := by have h1 := i_cl (x := x101) (by omega); have h2 := i_cl (x := i) (by omega); omega
  refine va_sld hx hb hX hbl (Nat.not_le.mpr hbl) hS (vp_in_iff.mpr (by omega)) dL_law_887 ?_
  refine W.eq (g2 := F0 m 888 ls [.int (xs (i.toNatClampNeg + 1)), .ref a]) (congrArg (fun z => F0 m 888 ls [.int (xs z), .ref a]) ejx101) ?_
  refine lv_aload_n hx hb dL_law_888 rfl (lv_at hl 3 rfl) ?_
  refine lv_iload_n hx hb dL_law_889 rfl (lv_at hl 0 rfl) ?_
  refine lv_iconst (v := 2) hx hb dL_law_890 (by decide) ?_
  refine lv_iadd hx hb dL_law_891 ?_
  refine lv_topi (fun x102 ex102 => ?_)
  have tx102 := i_add ex102 (by omega)
  have ejx102 : x102.toNatClampNeg = i.toNatClampNeg + 2 := by have h1 := i_cl (x := x102) (by omega); have h2 := i_cl (x := i) (by omega); omega
  refine va_sld hx hb hX hbl (Nat.not_le.mpr hbl) hS (vp_in_iff.mpr (by omega)) dL_law_892 ?_
  refine W.eq (g2 := F0 m 893 ls [.int (xs (i.toNatClampNeg + 2)), .int (xs (i.toNatClampNeg + 1)), .ref a]) (congrArg (fun z => F0 m 893 ls [.int (xs z), .int (xs (i.toNatClampNeg + 1)), .ref a]) ejx102) ?_
  refine x_V (As := [.int (xs (i.toNatClampNeg + 1)), .int (xs (i.toNatClampNeg + 2))]) (rest := []) C (a_X9_fewest l K G H ((xs (i.toNatClampNeg + 1))) ((xs (i.toNatClampNeg + 2))) hT ga) yo_X9_fewest wM_L_92 ⟨⟨by decide, by decide⟩, show _ ≤ 284929 by omega, show _ ≤ 8247460 by omega⟩ (x_rv C hT (ci := 9) rfl ga rg_68) rfl hl.1 rfl (Nat.le_of_ble_eq_true rfl) dL_law_893 hS (AE_new hN hS.1) (fun vH103 H103 locsH103 pH103 zH103 kH103 hSH103 => ?_)
  obtain ⟨x104, hvH103, hTH103⟩ := pH103
  subst hvH103
  have g105 : CG (avw K H103 b) := CG.congr (fun k hk j => av_eff hT kH103 gb (by decide) (CG_eff [89, 91, 92, 93, 94, 95, 96, 97, 90, 85, 86, 83, 84] (by decide) k hk)) cg
  have g106 : TU (avw K H103 b) (svw K H103 b) := TU.congr (fun k hk j => av_eff hT kH103 gb (by decide) (TU_eff [89, 91, 92, 93, 94, 95, 96, 97, 90, 85, 86, 83, 84] (by decide) k hk)) (fun k hk => sv_eff hT kH103 gb (by decide)) tu
  have g107 : WD (avw K H103 b) := WD.congr (fun k hk j => av_eff hT kH103 gb (by decide) (WD_eff [89, 91, 92, 93, 94, 95, 96, 97, 90, 85, 86, 83, 84] (by decide) k hk)) wd
  have g108 : IM (avw K H103 b) := IM.congr (fun k hk j => av_eff hT kH103 gb (by decide) (IM_eff [89, 91, 92, 93, 94, 95, 96, 97, 90, 85, 86, 83, 84] (by decide) k hk)) im
  have m109 := (eta).trans (fI_kept (x_lt hT kH103 ga (by decide))).symm
  have m110 := (etb).trans (fI_kept (x_lt hT kH103 gb (by decide))).symm
  refine W.eq (g2 := F0 m 896 ls [.int x104]) rfl ?_
  refine lv_pop hx hb dL_law_896 rfl ?_
  refine lv_aload_n hx hb dL_law_897 rfl (lv_at hl 1 rfl) ?_
  refine lv_aload_n hx hb dL_law_898 rfl (lv_at hl 3 rfl) ?_
  refine lv_iload_n hx hb dL_law_899 rfl (lv_at hl 0 rfl) ?_
  refine lv_iconst (v := 1) hx hb dL_law_900 (by decide) ?_
  refine lv_iadd hx hb dL_law_901 ?_
  refine lv_topi (fun x111 ex111 => ?_)
  have tx111 := i_add ex111 (by omega)
  have ejx111 : x111.toNatClampNeg = i.toNatClampNeg + 1 := by have h1 := i_cl (x := x111) (by omega); have h2 := i_cl (x := i) (by omega); omega
  refine va_sld hx hb hX hbl (Nat.not_le.mpr hbl) hSH103 (vp_in_iff.mpr (by omega)) dL_law_902 ?_
  refine W.eq (g2 := F0 m 903 ls [.int (xs (i.toNatClampNeg + 1)), .ref b]) (congrArg (fun z => F0 m 903 ls [.int (xs z), .ref b]) ejx111) ?_
  refine lv_aload_n hx hb dL_law_903 rfl (lv_at hl 3 rfl) ?_
  refine lv_iload_n hx hb dL_law_904 rfl (lv_at hl 0 rfl) ?_
  refine lv_iconst (v := 2) hx hb dL_law_905 (by decide) ?_
  refine lv_iadd hx hb dL_law_906 ?_
  refine lv_topi (fun x112 ex112 => ?_)
  have tx112 := i_add ex112 (by omega)
  have ejx112 : x112.toNatClampNeg = i.toNatClampNeg + 2 := by have h1 := i_cl (x := x112) (by omega); have h2 := i_cl (x := i) (by omega); omega
  refine va_sld hx hb hX hbl (Nat.not_le.mpr hbl) hSH103 (vp_in_iff.mpr (by omega)) dL_law_907 ?_
  refine W.eq (g2 := F0 m 908 ls [.int (xs (i.toNatClampNeg + 2)), .int (xs (i.toNatClampNeg + 1)), .ref b]) (congrArg (fun z => F0 m 908 ls [.int (xs z), .int (xs (i.toNatClampNeg + 1)), .ref b]) ejx112) ?_
  refine x_V (As := [.int (xs (i.toNatClampNeg + 1)), .int (xs (i.toNatClampNeg + 2))]) (rest := []) C (a_X10_fewest l K G H103 ((xs (i.toNatClampNeg + 1))) ((xs (i.toNatClampNeg + 2))) hTH103 gb g105 g106 g107 g108) yo_X10_fewest wM_L_95 ⟨⟨by decide, by decide⟩, show _ ≤ 284929 by omega, show _ ≤ 8247460 by omega⟩ (x_rv C hTH103 (ci := 10) rfl gb rg_112) rfl hl.1 rfl (Nat.le_of_ble_eq_true rfl) dL_law_908 hSH103 (AE_new hN hSH103.1) (fun vH113 H113 locsH113 pH113 zH113 kH113 hSH113 => ?_)
  obtain ⟨x114, hvH113, g115, g116, g117, g118, mf119, hTH113⟩ := pH113
  subst hvH113
  have m120 := (m109).trans (fI_kept (x_lt hTH103 kH113 ga (by decide))).symm
  have m121 := (m110).trans (MF.i mf119 (k := 18) (by decide) (by decide)).symm
  refine W.eq (g2 := F0 m 911 ls [.int x114]) rfl ?_
  refine lv_pop hx hb dL_law_911 rfl ?_
  refine lv_goto (tgt := 1509) hx hb dL_law_912 (by decide) ?_
  exact nx G H113 locsH113 _ _ ls ⟨hTH113, hN, ga, gb, g115, g116, g117, g118, (by rw [← m120, ← m121]; omega), hSH113⟩ hl (by omega) (by omega)
set_option maxRecDepth 100000 in
set_option maxHeartbeats 1000000 in
theorem lw_c19 {p : Program} {l : Launch} {e : Env} {s : State} {m : MethodId} {below : List Frame} {meth : Method} {c : Code} {K : KE} {b0 L : Nat} {xs : Nat → Int32} {G : Nat → Option Nat} {H : Heap} {locs : List Loc} {a b : Nat} {cells slots : Nat} {ls : Array Slot} {i : Int32} {n : Nat} (D : LC p K s m meth c b0 L xs) (S : SX K s G H locs a b) (hl : lv_has ls 4 [(3, .int i), (2, .ref b), (1, .ref a), (0, .ref b0)]) (hi : 0 ≤ i.toInt ∧ i.toInt + 6 ≤ L) (hn : n ≤ 511) (hc : cells ≤ 10000 + 434 * n) (hs : slots ≤ 200000 + 13027 * n) (nx : ∀ (G : Nat → Option Nat) (H : Heap) (locs : List Loc) (cells slots : Nat) (ls : Array Slot), SX K s G H locs a b → lv_has ls 4 [(3, .int i), (2, .ref b), (1, .ref a), (0, .ref b0)] → cells ≤ 10000 + 434 * (n + 1) → slots ≤ 200000 + 13027 * (n + 1) → W p l e room_1 s m #[Value.ref b0] below meth c H locs cells slots (lw_Z below #[Value.ref b0] s) (F0 m 1509 ls [])) : W p l e room_1 s m #[Value.ref b0] below meth c H locs cells slots (lw_Z below #[Value.ref b0] s) (F0 m 915 ls []) := by
  obtain ⟨C, hX, hbl, hL⟩ := id D
  obtain ⟨hx, hb, hml, hown, hts, hKT, hr, hlocks, hnm⟩ := id C
  obtain ⟨hT, hN, ga, gb, cg, tu, wd, im, rt, hS⟩ := S
  have n_1 : (1 : Int32).toInt = 1 := rfl
  have n_2 : (2 : Int32).toInt = 2 := rfl
  have n_3 : (3 : Int32).toInt = 3 := rfl
  obtain ⟨ta, eta⟩ : ∃ z : Int32, z = fI H a (K.1.2 9 3) := ⟨_, rfl⟩
  obtain ⟨tb, etb⟩ : ∃ z : Int32, z = fI H b (K.1.2 10 18) := ⟨_, rfl⟩
  rw [← eta, ← etb] at rt
  refine lv_aload_n hx hb dL_law_915 rfl (lv_at hl 2 rfl) ?_
  refine lv_aload_n hx hb dL_law_916 rfl (lv_at hl 3 rfl) ?_
  refine lv_iload_n hx hb dL_law_917 rfl (lv_at hl 0 rfl) ?_
  refine lv_iconst (v := 1) hx hb dL_law_918 (by decide) ?_
  refine lv_iadd hx hb dL_law_919 ?_
  refine lv_topi (fun x101 ex101 => ?_)
  have tx101 := i_add ex101 (by omega)
  have ejx101 : x101.toNatClampNeg = i.toNatClampNeg + 1 := by have h1 := i_cl (x := x101) (by omega); have h2 := i_cl (x := i) (by omega); omega
  refine va_sld hx hb hX hbl (Nat.not_le.mpr hbl) hS (vp_in_iff.mpr (by omega)) dL_law_920 ?_
  refine W.eq (g2 := F0 m 921 ls [.int (xs (i.toNatClampNeg + 1)), .ref a]) (congrArg (fun z => F0 m 921 ls [.int (xs z), .ref a]) ejx101) ?_
  refine lv_aload_n hx hb dL_law_921 rfl (lv_at hl 3 rfl) ?_
  refine lv_iload_n hx hb dL_law_922 rfl (lv_at hl 0 rfl) ?_
  refine lv_iconst (v := 2) hx hb dL_law_923 (by decide) ?_
  refine lv_iadd hx hb dL_law_924 ?_
  refine lv_topi (fun x102 ex102 => ?_)
  have tx102 := i_add ex102 (by omega)
  have ejx102 : x102.toNatClampNeg = i.toNatClampNeg + 2 := by have h1 := i_cl (x := x102) (by omega); have h2 := i_cl (x := i) (by omega); omega
  refine va_sld hx hb hX hbl (Nat.not_le.mpr hbl) hS (vp_in_iff.mpr (by omega)) dL_law_925 ?_
  refine W.eq (g2 := F0 m 926 ls [.int (xs (i.toNatClampNeg + 2)), .int (xs (i.toNatClampNeg + 1)), .ref a]) (congrArg (fun z => F0 m 926 ls [.int (xs z), .int (xs (i.toNatClampNeg + 1)), .ref a]) ejx102) ?_
  refine lv_aload_n hx hb dL_law_926 rfl (lv_at hl 3 rfl) ?_
  refine lv_iload_n hx hb dL_law_927 rfl (lv_at hl 0 rfl) ?_
  refine lv_iconst (v := 3) hx hb dL_law_928 (by decide) ?_
  refine lv_iadd hx hb dL_law_929 ?_
  refine lv_topi (fun x103 ex103 => ?_)
  have tx103 := i_add ex103 (by omega)
  have ejx103 : x103.toNatClampNeg = i.toNatClampNeg + 3 := by have h1 := i_cl (x := x103) (by omega); have h2 := i_cl (x := i) (by omega); omega
  refine va_sld hx hb hX hbl (Nat.not_le.mpr hbl) hS (vp_in_iff.mpr (by omega)) dL_law_930 ?_
  refine W.eq (g2 := F0 m 931 ls [.int (xs (i.toNatClampNeg + 3)), .int (xs (i.toNatClampNeg + 2)), .int (xs (i.toNatClampNeg + 1)), .ref a]) (congrArg (fun z => F0 m 931 ls [.int (xs z), .int (xs (i.toNatClampNeg + 2)), .int (xs (i.toNatClampNeg + 1)), .ref a]) ejx103) ?_
  refine x_V (As := [.int (xs (i.toNatClampNeg + 1)), .int (xs (i.toNatClampNeg + 2)), .int (xs (i.toNatClampNeg + 3))]) (rest := []) C (a_X9_tap l K G H ((xs (i.toNatClampNeg + 1))) ((xs (i.toNatClampNeg + 2))) ((xs (i.toNatClampNeg + 3))) hT ga) yo_X9_tap wM_L_96 ⟨⟨by decide, by decide⟩, show _ ≤ 284929 by omega, show _ ≤ 8247460 by omega⟩ (x_rv C hT (ci := 9) rfl ga rg_68) rfl hl.1 rfl (Nat.le_of_ble_eq_true rfl) dL_law_931 hS (AE_new hN hS.1) (fun vH104 H104 locsH104 pH104 zH104 kH104 hSH104 => ?_)
  obtain ⟨x105, hvH104, hTH104⟩ := pH104
  subst hvH104
  have g106 : CG (avw K H104 b) := CG.congr (fun k hk j => av_eff hT kH104 gb (by decide) (CG_eff [1, 9, 10, 12, 14] (by decide) k hk)) cg
  have g107 : TU (avw K H104 b) (svw K H104 b) := TU.congr (fun k hk j => av_eff hT kH104 gb (by decide) (TU_eff [1, 9, 10, 12, 14] (by decide) k hk)) (fun k hk => sv_eff hT kH104 gb (by decide)) tu
  have g108 : WD (avw K H104 b) := WD.congr (fun k hk j => av_eff hT kH104 gb (by decide) (WD_eff [1, 9, 10, 12, 14] (by decide) k hk)) wd
  have g109 : IM (avw K H104 b) := IM.congr (fun k hk j => av_eff hT kH104 gb (by decide) (IM_eff [1, 9, 10, 12, 14] (by decide) k hk)) im
  have m110 := (eta).trans (fI_kept (x_lt hT kH104 ga (by decide))).symm
  have m111 := (etb).trans (fI_kept (x_lt hT kH104 gb (by decide))).symm
  refine W.eq (g2 := F0 m 934 ls [.int x105]) rfl ?_
  refine lv_pop hx hb dL_law_934 rfl ?_
  refine lv_aload_n hx hb dL_law_935 rfl (lv_at hl 1 rfl) ?_
  refine lv_aload_n hx hb dL_law_936 rfl (lv_at hl 3 rfl) ?_
  refine lv_iload_n hx hb dL_law_937 rfl (lv_at hl 0 rfl) ?_
  refine lv_iconst (v := 1) hx hb dL_law_938 (by decide) ?_
  refine lv_iadd hx hb dL_law_939 ?_
  refine lv_topi (fun x112 ex112 => ?_)
  have tx112 := i_add ex112 (by omega)
  have ejx112 : x112.toNatClampNeg = i.toNatClampNeg + 1 := by have h1 := i_cl (x := x112) (by omega); have h2 := i_cl (x := i) (by omega); omega
  refine va_sld hx hb hX hbl (Nat.not_le.mpr hbl) hSH104 (vp_in_iff.mpr (by omega)) dL_law_940 ?_
  refine W.eq (g2 := F0 m 941 ls [.int (xs (i.toNatClampNeg + 1)), .ref b]) (congrArg (fun z => F0 m 941 ls [.int (xs z), .ref b]) ejx112) ?_
  refine lv_aload_n hx hb dL_law_941 rfl (lv_at hl 3 rfl) ?_
  refine lv_iload_n hx hb dL_law_942 rfl (lv_at hl 0 rfl) ?_
  refine lv_iconst (v := 2) hx hb dL_law_943 (by decide) ?_
  refine lv_iadd hx hb dL_law_944 ?_
  refine lv_topi (fun x113 ex113 => ?_)
  have tx113 := i_add ex113 (by omega)
  have ejx113 : x113.toNatClampNeg = i.toNatClampNeg + 2 := by have h1 := i_cl (x := x113) (by omega); have h2 := i_cl (x := i) (by omega); omega
  refine va_sld hx hb hX hbl (Nat.not_le.mpr hbl) hSH104 (vp_in_iff.mpr (by omega)) dL_law_945 ?_
  refine W.eq (g2 := F0 m 946 ls [.int (xs (i.toNatClampNeg + 2)), .int (xs (i.toNatClampNeg + 1)), .ref b]) (congrArg (fun z => F0 m 946 ls [.int (xs z), .int (xs (i.toNatClampNeg + 1)), .ref b]) ejx113) ?_
  refine lv_aload_n hx hb dL_law_946 rfl (lv_at hl 3 rfl) ?_
  refine lv_iload_n hx hb dL_law_947 rfl (lv_at hl 0 rfl) ?_
  refine lv_iconst (v := 3) hx hb dL_law_948 (by decide) ?_
  refine lv_iadd hx hb dL_law_949 ?_
  refine lv_topi (fun x114 ex114 => ?_)
  have tx114 := i_add ex114 (by omega)
  have ejx114 : x114.toNatClampNeg = i.toNatClampNeg + 3 := by have h1 := i_cl (x := x114) (by omega); have h2 := i_cl (x := i) (by omega); omega
  refine va_sld hx hb hX hbl (Nat.not_le.mpr hbl) hSH104 (vp_in_iff.mpr (by omega)) dL_law_950 ?_
  refine W.eq (g2 := F0 m 951 ls [.int (xs (i.toNatClampNeg + 3)), .int (xs (i.toNatClampNeg + 2)), .int (xs (i.toNatClampNeg + 1)), .ref b]) (congrArg (fun z => F0 m 951 ls [.int (xs z), .int (xs (i.toNatClampNeg + 2)), .int (xs (i.toNatClampNeg + 1)), .ref b]) ejx114) ?_
  obtain ⟨q115, eq115⟩ : ∃ z : Nat, z = fR H104 b (K.1.2 10 50) := ⟨_, rfl⟩
  have gq115 := ty_fr (q := q115) (k := 50) (u := 146) eq115 hTH104 gb rg_112 rfl
  refine x_V (As := [.int (xs (i.toNatClampNeg + 1)), .int (xs (i.toNatClampNeg + 2)), .int (xs (i.toNatClampNeg + 3))]) (rest := []) C (a_X10_tap l K G H104 ((xs (i.toNatClampNeg + 1))) ((xs (i.toNatClampNeg + 2))) ((xs (i.toNatClampNeg + 3))) hTH104 gb gq115 eq115 g106 g107 g108 g109) yo_X10_tap wM_L_99 ⟨⟨by decide, by decide⟩, show _ ≤ 284929 by omega, show _ ≤ 8247460 by omega⟩ (x_rv C hTH104 (ci := 10) rfl gb rg_112) rfl hl.1 rfl (Nat.le_of_ble_eq_true rfl) dL_law_951 hSH104 (AE_new hN hSH104.1) (fun vH116 H116 locsH116 pH116 zH116 kH116 hSH116 => ?_)
  obtain ⟨x117, hvH116, m118, g119, g120, g121, g122, mf123, hTH116⟩ := pH116
  subst hvH116
  have m124 := (m110).trans (fI_kept (x_lt hTH104 kH116 ga (by decide))).symm
  have m125 := (m111).trans (MF.i mf123 (k := 18) (by decide) (by decide)).symm
  have m126 := (eq115).trans (MF.r mf123 (k := 50) (by decide) (by decide)).symm
  refine W.eq (g2 := F0 m 954 ls [.int x117]) rfl ?_
  refine lv_pop hx hb dL_law_954 rfl ?_
  refine lv_goto (tgt := 1509) hx hb dL_law_955 (by decide) ?_
  exact nx G H116 locsH116 _ _ ls ⟨hTH116, hN, ga, gb, g119, g120, g121, g122, (by rw [← m124, ← m125]; omega), hSH116⟩ hl (by omega) (by omega)
set_option maxRecDepth 100000 in
set_option maxHeartbeats 1000000 in
theorem lw_c20 {p : Program} {l : Launch} {e : Env} {s : State} {m : MethodId} {below : List Frame} {meth : Method} {c : Code} {K : KE} {b0 L : Nat} {xs : Nat → Int32} {G : Nat → Option Nat} {H : Heap} {locs : List Loc} {a b : Nat} {cells slots : Nat} {ls : Array Slot} {i : Int32} {n : Nat} (D : LC p K s m meth c b0 L xs) (S : SX K s G H locs a b) (hl : lv_has ls 4 [(3, .int i), (2, .ref b), (1, .ref a), (0, .ref b0)]) (hi : 0 ≤ i.toInt ∧ i.toInt + 6 ≤ L) (hn : n ≤ 511) (hc : cells ≤ 10000 + 434 * n) (hs : slots ≤ 200000 + 13027 * n) (nx : ∀ (G : Nat → Option Nat) (H : Heap) (locs : List Loc) (cells slots : Nat) (ls : Array Slot), SX K s G H locs a b → lv_has ls 4 [(3, .int i), (2, .ref b), (1, .ref a), (0, .ref b0)] → cells ≤ 10000 + 434 * (n + 1) → slots ≤ 200000 + 13027 * (n + 1) → W p l e room_1 s m #[Value.ref b0] below meth c H locs cells slots (lw_Z below #[Value.ref b0] s) (F0 m 1509 ls [])) : W p l e room_1 s m #[Value.ref b0] below meth c H locs cells slots (lw_Z below #[Value.ref b0] s) (F0 m 958 ls []) := by
  obtain ⟨C, hX, hbl, hL⟩ := id D
  obtain ⟨hx, hb, hml, hown, hts, hKT, hr, hlocks, hnm⟩ := id C
  obtain ⟨hT, hN, ga, gb, cg, tu, wd, im, rt, hS⟩ := S
  have n_1 : (1 : Int32).toInt = 1 := rfl
  have n_2 : (2 : Int32).toInt = 2 := rfl
  have n_3 : (3 : Int32).toInt = 3 := rfl
  have n_4 : (4 : Int32).toInt = 4 := rfl
  obtain ⟨ta, eta⟩ : ∃ z : Int32, z = fI H a (K.1.2 9 3) := ⟨_, rfl⟩
  obtain ⟨tb, etb⟩ : ∃ z : Int32, z = fI H b (K.1.2 10 18) := ⟨_, rfl⟩
  rw [← eta, ← etb] at rt
  refine lv_aload_n hx hb dL_law_958 rfl (lv_at hl 2 rfl) ?_
  refine lv_aload_n hx hb dL_law_959 rfl (lv_at hl 3 rfl) ?_
  refine lv_iload_n hx hb dL_law_960 rfl (lv_at hl 0 rfl) ?_
  refine lv_iconst (v := 1) hx hb dL_law_961 (by decide) ?_
  refine lv_iadd hx hb dL_law_962 ?_
  refine lv_topi (fun x101 ex101 => ?_)
  have tx101 := i_add ex101 (by omega)
  have ejx101 : x101.toNatClampNeg = i.toNatClampNeg + 1 := by have h1 := i_cl (x := x101) (by omega); have h2 := i_cl (x := i) (by omega); omega
  refine va_sld hx hb hX hbl (Nat.not_le.mpr hbl) hS (vp_in_iff.mpr (by omega)) dL_law_963 ?_
  refine W.eq (g2 := F0 m 964 ls [.int (xs (i.toNatClampNeg + 1)), .ref a]) (congrArg (fun z => F0 m 964 ls [.int (xs z), .ref a]) ejx101) ?_
  refine lv_aload_n hx hb dL_law_964 rfl (lv_at hl 3 rfl) ?_
  refine lv_iload_n hx hb dL_law_965 rfl (lv_at hl 0 rfl) ?_
  refine lv_iconst (v := 2) hx hb dL_law_966 (by decide) ?_
  refine lv_iadd hx hb dL_law_967 ?_
  refine lv_topi (fun x102 ex102 => ?_)
  have tx102 := i_add ex102 (by omega)
  have ejx102 : x102.toNatClampNeg = i.toNatClampNeg + 2 := by have h1 := i_cl (x := x102) (by omega); have h2 := i_cl (x := i) (by omega); omega
  refine va_sld hx hb hX hbl (Nat.not_le.mpr hbl) hS (vp_in_iff.mpr (by omega)) dL_law_968 ?_
  refine W.eq (g2 := F0 m 969 ls [.int (xs (i.toNatClampNeg + 2)), .int (xs (i.toNatClampNeg + 1)), .ref a]) (congrArg (fun z => F0 m 969 ls [.int (xs z), .int (xs (i.toNatClampNeg + 1)), .ref a]) ejx102) ?_
  refine lv_aload_n hx hb dL_law_969 rfl (lv_at hl 3 rfl) ?_
  refine lv_iload_n hx hb dL_law_970 rfl (lv_at hl 0 rfl) ?_
  refine lv_iconst (v := 3) hx hb dL_law_971 (by decide) ?_
  refine lv_iadd hx hb dL_law_972 ?_
  refine lv_topi (fun x103 ex103 => ?_)
  have tx103 := i_add ex103 (by omega)
  have ejx103 : x103.toNatClampNeg = i.toNatClampNeg + 3 := by have h1 := i_cl (x := x103) (by omega); have h2 := i_cl (x := i) (by omega); omega
  refine va_sld hx hb hX hbl (Nat.not_le.mpr hbl) hS (vp_in_iff.mpr (by omega)) dL_law_973 ?_
  refine W.eq (g2 := F0 m 974 ls [.int (xs (i.toNatClampNeg + 3)), .int (xs (i.toNatClampNeg + 2)), .int (xs (i.toNatClampNeg + 1)), .ref a]) (congrArg (fun z => F0 m 974 ls [.int (xs z), .int (xs (i.toNatClampNeg + 2)), .int (xs (i.toNatClampNeg + 1)), .ref a]) ejx103) ?_
  refine lv_aload_n hx hb dL_law_974 rfl (lv_at hl 3 rfl) ?_
  refine lv_iload_n hx hb dL_law_975 rfl (lv_at hl 0 rfl) ?_
  refine lv_iconst (v := 4) hx hb dL_law_976 (by decide) ?_
  refine lv_iadd hx hb dL_law_977 ?_
  refine lv_topi (fun x104 ex104 => ?_)
  have tx104 := i_add ex104 (by omega)
  have ejx104 : x104.toNatClampNeg = i.toNatClampNeg + 4 := by have h1 := i_cl (x := x104) (by omega); have h2 := i_cl (x := i) (by omega); omega
  refine va_sld hx hb hX hbl (Nat.not_le.mpr hbl) hS (vp_in_iff.mpr (by omega)) dL_law_978 ?_
  refine W.eq (g2 := F0 m 979 ls [.int (xs (i.toNatClampNeg + 4)), .int (xs (i.toNatClampNeg + 3)), .int (xs (i.toNatClampNeg + 2)), .int (xs (i.toNatClampNeg + 1)), .ref a]) (congrArg (fun z => F0 m 979 ls [.int (xs z), .int (xs (i.toNatClampNeg + 3)), .int (xs (i.toNatClampNeg + 2)), .int (xs (i.toNatClampNeg + 1)), .ref a]) ejx104) ?_
  refine x_V (As := [.int (xs (i.toNatClampNeg + 1)), .int (xs (i.toNatClampNeg + 2)), .int (xs (i.toNatClampNeg + 3)), .int (xs (i.toNatClampNeg + 4))]) (rest := []) C (a_X9_fits l K G H ((xs (i.toNatClampNeg + 1))) ((xs (i.toNatClampNeg + 2))) ((xs (i.toNatClampNeg + 3))) ((xs (i.toNatClampNeg + 4))) hT ga) yo_X9_fits wM_L_100 ⟨⟨by decide, by decide⟩, show _ ≤ 284929 by omega, show _ ≤ 8247460 by omega⟩ (x_rv C hT (ci := 9) rfl ga rg_68) rfl hl.1 rfl (Nat.le_of_ble_eq_true rfl) dL_law_979 hS (AE_new hN hS.1) (fun vH105 H105 locsH105 pH105 zH105 kH105 hSH105 => ?_)
  obtain ⟨x106, hvH105, hTH105⟩ := pH105
  subst hvH105
  have g107 : CG (avw K H105 b) := CG.congr (fun k hk j => av_eff hT kH105 gb (by decide) (CG_eff [98, 101, 102, 103, 87, 88, 101, 99, 100, 83, 84] (by decide) k hk)) cg
  have g108 : TU (avw K H105 b) (svw K H105 b) := TU.congr (fun k hk j => av_eff hT kH105 gb (by decide) (TU_eff [98, 101, 102, 103, 87, 88, 101, 99, 100, 83, 84] (by decide) k hk)) (fun k hk => sv_eff hT kH105 gb (by decide)) tu
  have g109 : WD (avw K H105 b) := WD.congr (fun k hk j => av_eff hT kH105 gb (by decide) (WD_eff [98, 101, 102, 103, 87, 88, 101, 99, 100, 83, 84] (by decide) k hk)) wd
  have g110 : IM (avw K H105 b) := IM.congr (fun k hk j => av_eff hT kH105 gb (by decide) (IM_eff [98, 101, 102, 103, 87, 88, 101, 99, 100, 83, 84] (by decide) k hk)) im
  have m111 := (eta).trans (fI_kept (x_lt hT kH105 ga (by decide))).symm
  have m112 := (etb).trans (fI_kept (x_lt hT kH105 gb (by decide))).symm
  refine W.eq (g2 := F0 m 982 ls [.int x106]) rfl ?_
  refine lv_pop hx hb dL_law_982 rfl ?_
  refine lv_aload_n hx hb dL_law_983 rfl (lv_at hl 1 rfl) ?_
  refine lv_aload_n hx hb dL_law_984 rfl (lv_at hl 3 rfl) ?_
  refine lv_iload_n hx hb dL_law_985 rfl (lv_at hl 0 rfl) ?_
  refine lv_iconst (v := 1) hx hb dL_law_986 (by decide) ?_
  refine lv_iadd hx hb dL_law_987 ?_
  refine lv_topi (fun x113 ex113 => ?_)
  have tx113 := i_add ex113 (by omega)
  have ejx113 : x113.toNatClampNeg = i.toNatClampNeg + 1 := by have h1 := i_cl (x := x113) (by omega); have h2 := i_cl (x := i) (by omega); omega
  refine va_sld hx hb hX hbl (Nat.not_le.mpr hbl) hSH105 (vp_in_iff.mpr (by omega)) dL_law_988 ?_
  refine W.eq (g2 := F0 m 989 ls [.int (xs (i.toNatClampNeg + 1)), .ref b]) (congrArg (fun z => F0 m 989 ls [.int (xs z), .ref b]) ejx113) ?_
  refine lv_aload_n hx hb dL_law_989 rfl (lv_at hl 3 rfl) ?_
  refine lv_iload_n hx hb dL_law_990 rfl (lv_at hl 0 rfl) ?_
  refine lv_iconst (v := 2) hx hb dL_law_991 (by decide) ?_
  refine lv_iadd hx hb dL_law_992 ?_
  refine lv_topi (fun x114 ex114 => ?_)
  have tx114 := i_add ex114 (by omega)
  have ejx114 : x114.toNatClampNeg = i.toNatClampNeg + 2 := by have h1 := i_cl (x := x114) (by omega); have h2 := i_cl (x := i) (by omega); omega
  refine va_sld hx hb hX hbl (Nat.not_le.mpr hbl) hSH105 (vp_in_iff.mpr (by omega)) dL_law_993 ?_
  refine W.eq (g2 := F0 m 994 ls [.int (xs (i.toNatClampNeg + 2)), .int (xs (i.toNatClampNeg + 1)), .ref b]) (congrArg (fun z => F0 m 994 ls [.int (xs z), .int (xs (i.toNatClampNeg + 1)), .ref b]) ejx114) ?_
  refine lv_aload_n hx hb dL_law_994 rfl (lv_at hl 3 rfl) ?_
  refine lv_iload_n hx hb dL_law_995 rfl (lv_at hl 0 rfl) ?_
  refine lv_iconst (v := 3) hx hb dL_law_996 (by decide) ?_
  refine lv_iadd hx hb dL_law_997 ?_
  refine lv_topi (fun x115 ex115 => ?_)
  have tx115 := i_add ex115 (by omega)
  have ejx115 : x115.toNatClampNeg = i.toNatClampNeg + 3 := by have h1 := i_cl (x := x115) (by omega); have h2 := i_cl (x := i) (by omega); omega
  refine va_sld hx hb hX hbl (Nat.not_le.mpr hbl) hSH105 (vp_in_iff.mpr (by omega)) dL_law_998 ?_
  refine W.eq (g2 := F0 m 999 ls [.int (xs (i.toNatClampNeg + 3)), .int (xs (i.toNatClampNeg + 2)), .int (xs (i.toNatClampNeg + 1)), .ref b]) (congrArg (fun z => F0 m 999 ls [.int (xs z), .int (xs (i.toNatClampNeg + 2)), .int (xs (i.toNatClampNeg + 1)), .ref b]) ejx115) ?_
  refine lv_aload_n hx hb dL_law_999 rfl (lv_at hl 3 rfl) ?_
  refine lv_iload_n hx hb dL_law_1000 rfl (lv_at hl 0 rfl) ?_
  refine lv_iconst (v := 4) hx hb dL_law_1001 (by decide) ?_
  refine lv_iadd hx hb dL_law_1002 ?_
  refine lv_topi (fun x116 ex116 => ?_)
  have tx116 := i_add ex116 (by omega)
  have ejx116 : x116.toNatClampNeg = i.toNatClampNeg + 4 := by have h1 := i_cl (x := x116) (by omega); have h2 := i_cl (x := i) (by omega); omega
  refine va_sld hx hb hX hbl (Nat.not_le.mpr hbl) hSH105 (vp_in_iff.mpr (by omega)) dL_law_1003 ?_
  refine W.eq (g2 := F0 m 1004 ls [.int (xs (i.toNatClampNeg + 4)), .int (xs (i.toNatClampNeg + 3)), .int (xs (i.toNatClampNeg + 2)), .int (xs (i.toNatClampNeg + 1)), .ref b]) (congrArg (fun z => F0 m 1004 ls [.int (xs z), .int (xs (i.toNatClampNeg + 3)), .int (xs (i.toNatClampNeg + 2)), .int (xs (i.toNatClampNeg + 1)), .ref b]) ejx116) ?_
  obtain ⟨q117, eq117⟩ : ∃ z : Nat, z = fR H105 b (K.1.2 10 4) := ⟨_, rfl⟩
  have gq117 := ty_fr (q := q117) (k := 4) (u := 113) eq117 hTH105 gb rg_112 rfl
  refine x_V (As := [.int (xs (i.toNatClampNeg + 1)), .int (xs (i.toNatClampNeg + 2)), .int (xs (i.toNatClampNeg + 3)), .int (xs (i.toNatClampNeg + 4))]) (rest := []) C (a_X10_fits l K G H105 ((xs (i.toNatClampNeg + 1))) ((xs (i.toNatClampNeg + 2))) ((xs (i.toNatClampNeg + 3))) ((xs (i.toNatClampNeg + 4))) hTH105 gb gq117 eq117 g107 g108 g109 g110) yo_X10_fits wM_L_104 ⟨⟨by decide, by decide⟩, show _ ≤ 284929 by omega, show _ ≤ 8247460 by omega⟩ (x_rv C hTH105 (ci := 10) rfl gb rg_112) rfl hl.1 rfl (Nat.le_of_ble_eq_true rfl) dL_law_1004 hSH105 (AE_new hN hSH105.1) (fun vH118 H118 locsH118 pH118 zH118 kH118 hSH118 => ?_)
  obtain ⟨x119, hvH118, m120, g121, g122, g123, g124, mf125, hTH118⟩ := pH118
  subst hvH118
  have m126 := (m111).trans (fI_kept (x_lt hTH105 kH118 ga (by decide))).symm
  have m127 := (m112).trans (MF.i mf125 (k := 18) (by decide) (by decide)).symm
  have m128 := (eq117).trans (MF.r mf125 (k := 4) (by decide) (by decide)).symm
  refine W.eq (g2 := F0 m 1007 ls [.int x119]) rfl ?_
  refine lv_pop hx hb dL_law_1007 rfl ?_
  refine lv_goto (tgt := 1509) hx hb dL_law_1008 (by decide) ?_
  exact nx G H118 locsH118 _ _ ls ⟨hTH118, hN, ga, gb, g121, g122, g123, g124, (by rw [← m126, ← m127]; omega), hSH118⟩ hl (by omega) (by omega)
set_option maxRecDepth 100000 in
set_option maxHeartbeats 1000000 in
theorem lw_c21 {p : Program} {l : Launch} {e : Env} {s : State} {m : MethodId} {below : List Frame} {meth : Method} {c : Code} {K : KE} {b0 L : Nat} {xs : Nat → Int32} {G : Nat → Option Nat} {H : Heap} {locs : List Loc} {a b : Nat} {cells slots : Nat} {ls : Array Slot} {i : Int32} {n : Nat} (D : LC p K s m meth c b0 L xs) (S : SX K s G H locs a b) (hl : lv_has ls 4 [(3, .int i), (2, .ref b), (1, .ref a), (0, .ref b0)]) (hi : 0 ≤ i.toInt ∧ i.toInt + 6 ≤ L) (hn : n ≤ 511) (hc : cells ≤ 10000 + 434 * n) (hs : slots ≤ 200000 + 13027 * n) (nx : ∀ (G : Nat → Option Nat) (H : Heap) (locs : List Loc) (cells slots : Nat) (ls : Array Slot), SX K s G H locs a b → lv_has ls 4 [(3, .int i), (2, .ref b), (1, .ref a), (0, .ref b0)] → cells ≤ 10000 + 434 * (n + 1) → slots ≤ 200000 + 13027 * (n + 1) → W p l e room_1 s m #[Value.ref b0] below meth c H locs cells slots (lw_Z below #[Value.ref b0] s) (F0 m 1509 ls [])) : W p l e room_1 s m #[Value.ref b0] below meth c H locs cells slots (lw_Z below #[Value.ref b0] s) (F0 m 1011 ls []) := by
  obtain ⟨C, hX, hbl, hL⟩ := id D
  obtain ⟨hx, hb, hml, hown, hts, hKT, hr, hlocks, hnm⟩ := id C
  obtain ⟨hT, hN, ga, gb, cg, tu, wd, im, rt, hS⟩ := S
  have n_1 : (1 : Int32).toInt = 1 := rfl
  obtain ⟨ta, eta⟩ : ∃ z : Int32, z = fI H a (K.1.2 9 3) := ⟨_, rfl⟩
  obtain ⟨tb, etb⟩ : ∃ z : Int32, z = fI H b (K.1.2 10 18) := ⟨_, rfl⟩
  rw [← eta, ← etb] at rt
  refine lv_aload_n hx hb dL_law_1011 rfl (lv_at hl 2 rfl) ?_
  refine lv_aload_n hx hb dL_law_1012 rfl (lv_at hl 3 rfl) ?_
  refine lv_iload_n hx hb dL_law_1013 rfl (lv_at hl 0 rfl) ?_
  refine lv_iconst (v := 1) hx hb dL_law_1014 (by decide) ?_
  refine lv_iadd hx hb dL_law_1015 ?_
  refine lv_topi (fun x101 ex101 => ?_)
  have tx101 := i_add ex101 (by omega)
  have ejx101 : x101.toNatClampNeg = i.toNatClampNeg + 1 := by have h1 := i_cl (x := x101) (by omega); have h2 := i_cl (x := i) (by omega); omega
  refine va_sld hx hb hX hbl (Nat.not_le.mpr hbl) hS (vp_in_iff.mpr (by omega)) dL_law_1016 ?_
  refine W.eq (g2 := F0 m 1017 ls [.int (xs (i.toNatClampNeg + 1)), .ref a]) (congrArg (fun z => F0 m 1017 ls [.int (xs z), .ref a]) ejx101) ?_
  refine x_V (As := [.int (xs (i.toNatClampNeg + 1))]) (rest := []) C (a_X9_off l K G H ((xs (i.toNatClampNeg + 1))) hT ga) yo_X9_off wM_L_105 ⟨⟨by decide, by decide⟩, show _ ≤ 284929 by omega, show _ ≤ 8247460 by omega⟩ (x_rv C hT (ci := 9) rfl ga rg_68) rfl hl.1 rfl (Nat.le_of_ble_eq_true rfl) dL_law_1017 hS (AE_new hN hS.1) (fun vH102 H102 locsH102 pH102 zH102 kH102 hSH102 => ?_)
  obtain ⟨x103, hvH102, hTH102⟩ := pH102
  subst hvH102
  have g104 : CG (avw K H102 b) := CG.congr (fun k hk j => av_eff hT kH102 gb (by decide) (CG_eff [83, 84] (by decide) k hk)) cg
  have g105 : TU (avw K H102 b) (svw K H102 b) := TU.congr (fun k hk j => av_eff hT kH102 gb (by decide) (TU_eff [83, 84] (by decide) k hk)) (fun k hk => sv_eff hT kH102 gb (by decide)) tu
  have g106 : WD (avw K H102 b) := WD.congr (fun k hk j => av_eff hT kH102 gb (by decide) (WD_eff [83, 84] (by decide) k hk)) wd
  have g107 : IM (avw K H102 b) := IM.congr (fun k hk j => av_eff hT kH102 gb (by decide) (IM_eff [83, 84] (by decide) k hk)) im
  have m108 := (eta).trans (fI_kept (x_lt hT kH102 ga (by decide))).symm
  have m109 := (etb).trans (fI_kept (x_lt hT kH102 gb (by decide))).symm
  refine W.eq (g2 := F0 m 1020 ls [.int x103]) rfl ?_
  refine lv_pop hx hb dL_law_1020 rfl ?_
  refine lv_aload_n hx hb dL_law_1021 rfl (lv_at hl 1 rfl) ?_
  refine lv_aload_n hx hb dL_law_1022 rfl (lv_at hl 3 rfl) ?_
  refine lv_iload_n hx hb dL_law_1023 rfl (lv_at hl 0 rfl) ?_
  refine lv_iconst (v := 1) hx hb dL_law_1024 (by decide) ?_
  refine lv_iadd hx hb dL_law_1025 ?_
  refine lv_topi (fun x110 ex110 => ?_)
  have tx110 := i_add ex110 (by omega)
  have ejx110 : x110.toNatClampNeg = i.toNatClampNeg + 1 := by have h1 := i_cl (x := x110) (by omega); have h2 := i_cl (x := i) (by omega); omega
  refine va_sld hx hb hX hbl (Nat.not_le.mpr hbl) hSH102 (vp_in_iff.mpr (by omega)) dL_law_1026 ?_
  refine W.eq (g2 := F0 m 1027 ls [.int (xs (i.toNatClampNeg + 1)), .ref b]) (congrArg (fun z => F0 m 1027 ls [.int (xs z), .ref b]) ejx110) ?_
  refine x_V (As := [.int (xs (i.toNatClampNeg + 1))]) (rest := []) C (a_X10_off l K G H102 ((xs (i.toNatClampNeg + 1))) hTH102 gb g104 g105 g106 g107) yo_X10_off wM_L_108 ⟨⟨by decide, by decide⟩, show _ ≤ 284929 by omega, show _ ≤ 8247460 by omega⟩ (x_rv C hTH102 (ci := 10) rfl gb rg_112) rfl hl.1 rfl (Nat.le_of_ble_eq_true rfl) dL_law_1027 hSH102 (AE_new hN hSH102.1) (fun vH111 H111 locsH111 pH111 zH111 kH111 hSH111 => ?_)
  obtain ⟨x112, hvH111, g113, g114, g115, g116, mf117, hTH111⟩ := pH111
  subst hvH111
  have m118 := (m108).trans (fI_kept (x_lt hTH102 kH111 ga (by decide))).symm
  have m119 := (m109).trans (MF.i mf117 (k := 18) (by decide) (by decide)).symm
  refine W.eq (g2 := F0 m 1030 ls [.int x112]) rfl ?_
  refine lv_pop hx hb dL_law_1030 rfl ?_
  refine lv_goto (tgt := 1509) hx hb dL_law_1031 (by decide) ?_
  exact nx G H111 locsH111 _ _ ls ⟨hTH111, hN, ga, gb, g113, g114, g115, g116, (by rw [← m118, ← m119]; omega), hSH111⟩ hl (by omega) (by omega)
set_option maxRecDepth 100000 in
set_option maxHeartbeats 1000000 in
theorem lw_c22 {p : Program} {l : Launch} {e : Env} {s : State} {m : MethodId} {below : List Frame} {meth : Method} {c : Code} {K : KE} {b0 L : Nat} {xs : Nat → Int32} {G : Nat → Option Nat} {H : Heap} {locs : List Loc} {a b : Nat} {cells slots : Nat} {ls : Array Slot} {i : Int32} {n : Nat} (D : LC p K s m meth c b0 L xs) (S : SX K s G H locs a b) (hl : lv_has ls 4 [(3, .int i), (2, .ref b), (1, .ref a), (0, .ref b0)]) (hi : 0 ≤ i.toInt ∧ i.toInt + 6 ≤ L) (hn : n ≤ 511) (hc : cells ≤ 10000 + 434 * n) (hs : slots ≤ 200000 + 13027 * n) (nx : ∀ (G : Nat → Option Nat) (H : Heap) (locs : List Loc) (cells slots : Nat) (ls : Array Slot), SX K s G H locs a b → lv_has ls 4 [(3, .int i), (2, .ref b), (1, .ref a), (0, .ref b0)] → cells ≤ 10000 + 434 * (n + 1) → slots ≤ 200000 + 13027 * (n + 1) → W p l e room_1 s m #[Value.ref b0] below meth c H locs cells slots (lw_Z below #[Value.ref b0] s) (F0 m 1509 ls [])) : W p l e room_1 s m #[Value.ref b0] below meth c H locs cells slots (lw_Z below #[Value.ref b0] s) (F0 m 1034 ls []) := by
  obtain ⟨C, hX, hbl, hL⟩ := id D
  obtain ⟨hx, hb, hml, hown, hts, hKT, hr, hlocks, hnm⟩ := id C
  obtain ⟨hT, hN, ga, gb, cg, tu, wd, im, rt, hS⟩ := S
  have n_1 : (1 : Int32).toInt = 1 := rfl
  have n_2 : (2 : Int32).toInt = 2 := rfl
  have n_3 : (3 : Int32).toInt = 3 := rfl
  obtain ⟨ta, eta⟩ : ∃ z : Int32, z = fI H a (K.1.2 9 3) := ⟨_, rfl⟩
  obtain ⟨tb, etb⟩ : ∃ z : Int32, z = fI H b (K.1.2 10 18) := ⟨_, rfl⟩
  rw [← eta, ← etb] at rt
  refine lv_aload_n hx hb dL_law_1034 rfl (lv_at hl 2 rfl) ?_
  refine lv_aload_n hx hb dL_law_1035 rfl (lv_at hl 3 rfl) ?_
  refine lv_iload_n hx hb dL_law_1036 rfl (lv_at hl 0 rfl) ?_
  refine lv_iconst (v := 1) hx hb dL_law_1037 (by decide) ?_
  refine lv_iadd hx hb dL_law_1038 ?_
  refine lv_topi (fun x101 ex101 => ?_)
  have tx101 := i_add ex101 (by omega)
  have ejx101 : x101.toNatClampNeg = i.toNatClampNeg + 1 := by have h1 := i_cl (x := x101) (by omega); have h2 := i_cl (x := i) (by omega); omega
  refine va_sld hx hb hX hbl (Nat.not_le.mpr hbl) hS (vp_in_iff.mpr (by omega)) dL_law_1039 ?_
  refine W.eq (g2 := F0 m 1040 ls [.int (xs (i.toNatClampNeg + 1)), .ref a]) (congrArg (fun z => F0 m 1040 ls [.int (xs z), .ref a]) ejx101) ?_
  refine lv_aload_n hx hb dL_law_1040 rfl (lv_at hl 3 rfl) ?_
  refine lv_iload_n hx hb dL_law_1041 rfl (lv_at hl 0 rfl) ?_
  refine lv_iconst (v := 2) hx hb dL_law_1042 (by decide) ?_
  refine lv_iadd hx hb dL_law_1043 ?_
  refine lv_topi (fun x102 ex102 => ?_)
  have tx102 := i_add ex102 (by omega)
  have ejx102 : x102.toNatClampNeg = i.toNatClampNeg + 2 := by have h1 := i_cl (x := x102) (by omega); have h2 := i_cl (x := i) (by omega); omega
  refine va_sld hx hb hX hbl (Nat.not_le.mpr hbl) hS (vp_in_iff.mpr (by omega)) dL_law_1044 ?_
  refine W.eq (g2 := F0 m 1045 ls [.int (xs (i.toNatClampNeg + 2)), .int (xs (i.toNatClampNeg + 1)), .ref a]) (congrArg (fun z => F0 m 1045 ls [.int (xs z), .int (xs (i.toNatClampNeg + 1)), .ref a]) ejx102) ?_
  refine lv_aload_n hx hb dL_law_1045 rfl (lv_at hl 3 rfl) ?_
  refine lv_iload_n hx hb dL_law_1046 rfl (lv_at hl 0 rfl) ?_
  refine lv_iconst (v := 3) hx hb dL_law_1047 (by decide) ?_
  refine lv_iadd hx hb dL_law_1048 ?_
  refine lv_topi (fun x103 ex103 => ?_)
  have tx103 := i_add ex103 (by omega)
  have ejx103 : x103.toNatClampNeg = i.toNatClampNeg + 3 := by have h1 := i_cl (x := x103) (by omega); have h2 := i_cl (x := i) (by omega); omega
  refine va_sld hx hb hX hbl (Nat.not_le.mpr hbl) hS (vp_in_iff.mpr (by omega)) dL_law_1049 ?_
  refine W.eq (g2 := F0 m 1050 ls [.int (xs (i.toNatClampNeg + 3)), .int (xs (i.toNatClampNeg + 2)), .int (xs (i.toNatClampNeg + 1)), .ref a]) (congrArg (fun z => F0 m 1050 ls [.int (xs z), .int (xs (i.toNatClampNeg + 2)), .int (xs (i.toNatClampNeg + 1)), .ref a]) ejx103) ?_
  refine x_V (As := [.int (xs (i.toNatClampNeg + 1)), .int (xs (i.toNatClampNeg + 2)), .int (xs (i.toNatClampNeg + 3))]) (rest := []) C (a_X9_still l K G H ((xs (i.toNatClampNeg + 1))) ((xs (i.toNatClampNeg + 2))) ((xs (i.toNatClampNeg + 3))) hT ga) yo_X9_still wM_L_109 ⟨⟨by decide, by decide⟩, show _ ≤ 284929 by omega, show _ ≤ 8247460 by omega⟩ (x_rv C hT (ci := 9) rfl ga rg_68) rfl hl.1 rfl (Nat.le_of_ble_eq_true rfl) dL_law_1050 hS (AE_new hN hS.1) (fun vH104 H104 locsH104 pH104 zH104 kH104 hSH104 => ?_)
  obtain ⟨x105, hvH104, hTH104⟩ := pH104
  subst hvH104
  have g106 : CG (avw K H104 b) := CG.congr (fun k hk j => av_eff hT kH104 gb (by decide) (CG_eff [83, 84, 110] (by decide) k hk)) cg
  have g107 : TU (avw K H104 b) (svw K H104 b) := TU.congr (fun k hk j => av_eff hT kH104 gb (by decide) (TU_eff [83, 84, 110] (by decide) k hk)) (fun k hk => sv_eff hT kH104 gb (by decide)) tu
  have g108 : WD (avw K H104 b) := WD.congr (fun k hk j => av_eff hT kH104 gb (by decide) (WD_eff [83, 84, 110] (by decide) k hk)) wd
  have g109 : IM (avw K H104 b) := IM.congr (fun k hk j => av_eff hT kH104 gb (by decide) (IM_eff [83, 84, 110] (by decide) k hk)) im
  have m110 := (eta).trans (fI_kept (x_lt hT kH104 ga (by decide))).symm
  have m111 := (etb).trans (fI_kept (x_lt hT kH104 gb (by decide))).symm
  refine W.eq (g2 := F0 m 1053 ls [.int x105]) rfl ?_
  refine lv_pop hx hb dL_law_1053 rfl ?_
  refine lv_aload_n hx hb dL_law_1054 rfl (lv_at hl 1 rfl) ?_
  refine lv_aload_n hx hb dL_law_1055 rfl (lv_at hl 3 rfl) ?_
  refine lv_iload_n hx hb dL_law_1056 rfl (lv_at hl 0 rfl) ?_
  refine lv_iconst (v := 1) hx hb dL_law_1057 (by decide) ?_
  refine lv_iadd hx hb dL_law_1058 ?_
  refine lv_topi (fun x112 ex112 => ?_)
  have tx112 := i_add ex112 (by omega)
  have ejx112 : x112.toNatClampNeg = i.toNatClampNeg + 1 := by have h1 := i_cl (x := x112) (by omega); have h2 := i_cl (x := i) (by omega); omega
  refine va_sld hx hb hX hbl (Nat.not_le.mpr hbl) hSH104 (vp_in_iff.mpr (by omega)) dL_law_1059 ?_
  refine W.eq (g2 := F0 m 1060 ls [.int (xs (i.toNatClampNeg + 1)), .ref b]) (congrArg (fun z => F0 m 1060 ls [.int (xs z), .ref b]) ejx112) ?_
  refine lv_aload_n hx hb dL_law_1060 rfl (lv_at hl 3 rfl) ?_
  refine lv_iload_n hx hb dL_law_1061 rfl (lv_at hl 0 rfl) ?_
  refine lv_iconst (v := 2) hx hb dL_law_1062 (by decide) ?_
  refine lv_iadd hx hb dL_law_1063 ?_
  refine lv_topi (fun x113 ex113 => ?_)
  have tx113 := i_add ex113 (by omega)
  have ejx113 : x113.toNatClampNeg = i.toNatClampNeg + 2 := by have h1 := i_cl (x := x113) (by omega); have h2 := i_cl (x := i) (by omega); omega
  refine va_sld hx hb hX hbl (Nat.not_le.mpr hbl) hSH104 (vp_in_iff.mpr (by omega)) dL_law_1064 ?_
  refine W.eq (g2 := F0 m 1065 ls [.int (xs (i.toNatClampNeg + 2)), .int (xs (i.toNatClampNeg + 1)), .ref b]) (congrArg (fun z => F0 m 1065 ls [.int (xs z), .int (xs (i.toNatClampNeg + 1)), .ref b]) ejx113) ?_
  refine lv_aload_n hx hb dL_law_1065 rfl (lv_at hl 3 rfl) ?_
  refine lv_iload_n hx hb dL_law_1066 rfl (lv_at hl 0 rfl) ?_
  refine lv_iconst (v := 3) hx hb dL_law_1067 (by decide) ?_
  refine lv_iadd hx hb dL_law_1068 ?_
  refine lv_topi (fun x114 ex114 => ?_)
  have tx114 := i_add ex114 (by omega)
  have ejx114 : x114.toNatClampNeg = i.toNatClampNeg + 3 := by have h1 := i_cl (x := x114) (by omega); have h2 := i_cl (x := i) (by omega); omega
  refine va_sld hx hb hX hbl (Nat.not_le.mpr hbl) hSH104 (vp_in_iff.mpr (by omega)) dL_law_1069 ?_
  refine W.eq (g2 := F0 m 1070 ls [.int (xs (i.toNatClampNeg + 3)), .int (xs (i.toNatClampNeg + 2)), .int (xs (i.toNatClampNeg + 1)), .ref b]) (congrArg (fun z => F0 m 1070 ls [.int (xs z), .int (xs (i.toNatClampNeg + 2)), .int (xs (i.toNatClampNeg + 1)), .ref b]) ejx114) ?_
  refine x_V (As := [.int (xs (i.toNatClampNeg + 1)), .int (xs (i.toNatClampNeg + 2)), .int (xs (i.toNatClampNeg + 3))]) (rest := []) C (a_X10_still l K G H104 ((xs (i.toNatClampNeg + 1))) ((xs (i.toNatClampNeg + 2))) ((xs (i.toNatClampNeg + 3))) hTH104 gb g106 g107 g108 g109) yo_X10_still wM_L_112 ⟨⟨by decide, by decide⟩, show _ ≤ 284929 by omega, show _ ≤ 8247460 by omega⟩ (x_rv C hTH104 (ci := 10) rfl gb rg_112) rfl hl.1 rfl (Nat.le_of_ble_eq_true rfl) dL_law_1070 hSH104 (AE_new hN hSH104.1) (fun vH115 H115 locsH115 pH115 zH115 kH115 hSH115 => ?_)
  obtain ⟨x116, hvH115, g117, g118, g119, g120, mf121, hTH115⟩ := pH115
  subst hvH115
  have m122 := (m110).trans (fI_kept (x_lt hTH104 kH115 ga (by decide))).symm
  have m123 := (m111).trans (MF.i mf121 (k := 18) (by decide) (by decide)).symm
  refine W.eq (g2 := F0 m 1073 ls [.int x116]) rfl ?_
  refine lv_pop hx hb dL_law_1073 rfl ?_
  refine lv_goto (tgt := 1509) hx hb dL_law_1074 (by decide) ?_
  exact nx G H115 locsH115 _ _ ls ⟨hTH115, hN, ga, gb, g117, g118, g119, g120, (by rw [← m122, ← m123]; omega), hSH115⟩ hl (by omega) (by omega)
set_option maxRecDepth 100000 in
set_option maxHeartbeats 1000000 in
theorem lw_c23 {p : Program} {l : Launch} {e : Env} {s : State} {m : MethodId} {below : List Frame} {meth : Method} {c : Code} {K : KE} {b0 L : Nat} {xs : Nat → Int32} {G : Nat → Option Nat} {H : Heap} {locs : List Loc} {a b : Nat} {cells slots : Nat} {ls : Array Slot} {i : Int32} {n : Nat} (D : LC p K s m meth c b0 L xs) (S : SX K s G H locs a b) (hl : lv_has ls 4 [(3, .int i), (2, .ref b), (1, .ref a), (0, .ref b0)]) (hi : 0 ≤ i.toInt ∧ i.toInt + 6 ≤ L) (hn : n ≤ 511) (hc : cells ≤ 10000 + 434 * n) (hs : slots ≤ 200000 + 13027 * n) (nx : ∀ (G : Nat → Option Nat) (H : Heap) (locs : List Loc) (cells slots : Nat) (ls : Array Slot), SX K s G H locs a b → lv_has ls 4 [(3, .int i), (2, .ref b), (1, .ref a), (0, .ref b0)] → cells ≤ 10000 + 434 * (n + 1) → slots ≤ 200000 + 13027 * (n + 1) → W p l e room_1 s m #[Value.ref b0] below meth c H locs cells slots (lw_Z below #[Value.ref b0] s) (F0 m 1509 ls [])) : W p l e room_1 s m #[Value.ref b0] below meth c H locs cells slots (lw_Z below #[Value.ref b0] s) (F0 m 1077 ls []) := by
  obtain ⟨C, hX, hbl, hL⟩ := id D
  obtain ⟨hx, hb, hml, hown, hts, hKT, hr, hlocks, hnm⟩ := id C
  obtain ⟨hT, hN, ga, gb, cg, tu, wd, im, rt, hS⟩ := S
  have n_1 : (1 : Int32).toInt = 1 := rfl
  have n_2 : (2 : Int32).toInt = 2 := rfl
  have n_3 : (3 : Int32).toInt = 3 := rfl
  obtain ⟨ta, eta⟩ : ∃ z : Int32, z = fI H a (K.1.2 9 3) := ⟨_, rfl⟩
  obtain ⟨tb, etb⟩ : ∃ z : Int32, z = fI H b (K.1.2 10 18) := ⟨_, rfl⟩
  rw [← eta, ← etb] at rt
  refine lv_aload_n hx hb dL_law_1077 rfl (lv_at hl 2 rfl) ?_
  refine lv_aload_n hx hb dL_law_1078 rfl (lv_at hl 3 rfl) ?_
  refine lv_iload_n hx hb dL_law_1079 rfl (lv_at hl 0 rfl) ?_
  refine lv_iconst (v := 1) hx hb dL_law_1080 (by decide) ?_
  refine lv_iadd hx hb dL_law_1081 ?_
  refine lv_topi (fun x101 ex101 => ?_)
  have tx101 := i_add ex101 (by omega)
  have ejx101 : x101.toNatClampNeg = i.toNatClampNeg + 1 := by have h1 := i_cl (x := x101) (by omega); have h2 := i_cl (x := i) (by omega); omega
  refine va_sld hx hb hX hbl (Nat.not_le.mpr hbl) hS (vp_in_iff.mpr (by omega)) dL_law_1082 ?_
  refine W.eq (g2 := F0 m 1083 ls [.int (xs (i.toNatClampNeg + 1)), .ref a]) (congrArg (fun z => F0 m 1083 ls [.int (xs z), .ref a]) ejx101) ?_
  refine lv_aload_n hx hb dL_law_1083 rfl (lv_at hl 3 rfl) ?_
  refine lv_iload_n hx hb dL_law_1084 rfl (lv_at hl 0 rfl) ?_
  refine lv_iconst (v := 2) hx hb dL_law_1085 (by decide) ?_
  refine lv_iadd hx hb dL_law_1086 ?_
  refine lv_topi (fun x102 ex102 => ?_)
  have tx102 := i_add ex102 (by omega)
  have ejx102 : x102.toNatClampNeg = i.toNatClampNeg + 2 := by have h1 := i_cl (x := x102) (by omega); have h2 := i_cl (x := i) (by omega); omega
  refine va_sld hx hb hX hbl (Nat.not_le.mpr hbl) hS (vp_in_iff.mpr (by omega)) dL_law_1087 ?_
  refine W.eq (g2 := F0 m 1088 ls [.int (xs (i.toNatClampNeg + 2)), .int (xs (i.toNatClampNeg + 1)), .ref a]) (congrArg (fun z => F0 m 1088 ls [.int (xs z), .int (xs (i.toNatClampNeg + 1)), .ref a]) ejx102) ?_
  refine lv_aload_n hx hb dL_law_1088 rfl (lv_at hl 3 rfl) ?_
  refine lv_iload_n hx hb dL_law_1089 rfl (lv_at hl 0 rfl) ?_
  refine lv_iconst (v := 3) hx hb dL_law_1090 (by decide) ?_
  refine lv_iadd hx hb dL_law_1091 ?_
  refine lv_topi (fun x103 ex103 => ?_)
  have tx103 := i_add ex103 (by omega)
  have ejx103 : x103.toNatClampNeg = i.toNatClampNeg + 3 := by have h1 := i_cl (x := x103) (by omega); have h2 := i_cl (x := i) (by omega); omega
  refine va_sld hx hb hX hbl (Nat.not_le.mpr hbl) hS (vp_in_iff.mpr (by omega)) dL_law_1092 ?_
  refine W.eq (g2 := F0 m 1093 ls [.int (xs (i.toNatClampNeg + 3)), .int (xs (i.toNatClampNeg + 2)), .int (xs (i.toNatClampNeg + 1)), .ref a]) (congrArg (fun z => F0 m 1093 ls [.int (xs z), .int (xs (i.toNatClampNeg + 2)), .int (xs (i.toNatClampNeg + 1)), .ref a]) ejx103) ?_
  refine x_V (As := [.int (xs (i.toNatClampNeg + 1)), .int (xs (i.toNatClampNeg + 2)), .int (xs (i.toNatClampNeg + 3))]) (rest := []) C (a_X9_holes l K G H ((xs (i.toNatClampNeg + 1))) ((xs (i.toNatClampNeg + 2))) ((xs (i.toNatClampNeg + 3))) hT ga) yo_X9_holes wM_L_113 ⟨⟨by decide, by decide⟩, show _ ≤ 284929 by omega, show _ ≤ 8247460 by omega⟩ (x_rv C hT (ci := 9) rfl ga rg_68) rfl hl.1 rfl (Nat.le_of_ble_eq_true rfl) dL_law_1093 hS (AE_new hN hS.1) (fun vH104 H104 locsH104 pH104 zH104 kH104 hSH104 => ?_)
  obtain ⟨x105, hvH104, bx105, hTH104⟩ := pH104
  subst hvH104
  have g106 : CG (avw K H104 b) := CG.congr (fun k hk j => av_eff hT kH104 gb (by decide) (CG_eff [1] (by decide) k hk)) cg
  have g107 : TU (avw K H104 b) (svw K H104 b) := TU.congr (fun k hk j => av_eff hT kH104 gb (by decide) (TU_eff [1] (by decide) k hk)) (fun k hk => sv_eff hT kH104 gb (by decide)) tu
  have g108 : WD (avw K H104 b) := WD.congr (fun k hk j => av_eff hT kH104 gb (by decide) (WD_eff [1] (by decide) k hk)) wd
  have g109 : IM (avw K H104 b) := IM.congr (fun k hk j => av_eff hT kH104 gb (by decide) (IM_eff [1] (by decide) k hk)) im
  have m110 := (eta).trans (fI_kept (x_lt hT kH104 ga (by decide))).symm
  have m111 := (etb).trans (fI_kept (x_lt hT kH104 gb (by decide))).symm
  refine W.eq (g2 := F0 m 1096 ls [.int x105]) rfl ?_
  refine lv_pop hx hb dL_law_1096 rfl ?_
  refine lv_aload_n hx hb dL_law_1097 rfl (lv_at hl 1 rfl) ?_
  refine lv_aload_n hx hb dL_law_1098 rfl (lv_at hl 3 rfl) ?_
  refine lv_iload_n hx hb dL_law_1099 rfl (lv_at hl 0 rfl) ?_
  refine lv_iconst (v := 1) hx hb dL_law_1100 (by decide) ?_
  refine lv_iadd hx hb dL_law_1101 ?_
  refine lv_topi (fun x112 ex112 => ?_)
  have tx112 := i_add ex112 (by omega)
  have ejx112 : x112.toNatClampNeg = i.toNatClampNeg + 1 := by have h1 := i_cl (x := x112) (by omega); have h2 := i_cl (x := i) (by omega); omega
  refine va_sld hx hb hX hbl (Nat.not_le.mpr hbl) hSH104 (vp_in_iff.mpr (by omega)) dL_law_1102 ?_
  refine W.eq (g2 := F0 m 1103 ls [.int (xs (i.toNatClampNeg + 1)), .ref b]) (congrArg (fun z => F0 m 1103 ls [.int (xs z), .ref b]) ejx112) ?_
  refine lv_aload_n hx hb dL_law_1103 rfl (lv_at hl 3 rfl) ?_
  refine lv_iload_n hx hb dL_law_1104 rfl (lv_at hl 0 rfl) ?_
  refine lv_iconst (v := 2) hx hb dL_law_1105 (by decide) ?_
  refine lv_iadd hx hb dL_law_1106 ?_
  refine lv_topi (fun x113 ex113 => ?_)
  have tx113 := i_add ex113 (by omega)
  have ejx113 : x113.toNatClampNeg = i.toNatClampNeg + 2 := by have h1 := i_cl (x := x113) (by omega); have h2 := i_cl (x := i) (by omega); omega
  refine va_sld hx hb hX hbl (Nat.not_le.mpr hbl) hSH104 (vp_in_iff.mpr (by omega)) dL_law_1107 ?_
  refine W.eq (g2 := F0 m 1108 ls [.int (xs (i.toNatClampNeg + 2)), .int (xs (i.toNatClampNeg + 1)), .ref b]) (congrArg (fun z => F0 m 1108 ls [.int (xs z), .int (xs (i.toNatClampNeg + 1)), .ref b]) ejx113) ?_
  refine lv_aload_n hx hb dL_law_1108 rfl (lv_at hl 3 rfl) ?_
  refine lv_iload_n hx hb dL_law_1109 rfl (lv_at hl 0 rfl) ?_
  refine lv_iconst (v := 3) hx hb dL_law_1110 (by decide) ?_
  refine lv_iadd hx hb dL_law_1111 ?_
  refine lv_topi (fun x114 ex114 => ?_)
  have tx114 := i_add ex114 (by omega)
  have ejx114 : x114.toNatClampNeg = i.toNatClampNeg + 3 := by have h1 := i_cl (x := x114) (by omega); have h2 := i_cl (x := i) (by omega); omega
  refine va_sld hx hb hX hbl (Nat.not_le.mpr hbl) hSH104 (vp_in_iff.mpr (by omega)) dL_law_1112 ?_
  refine W.eq (g2 := F0 m 1113 ls [.int (xs (i.toNatClampNeg + 3)), .int (xs (i.toNatClampNeg + 2)), .int (xs (i.toNatClampNeg + 1)), .ref b]) (congrArg (fun z => F0 m 1113 ls [.int (xs z), .int (xs (i.toNatClampNeg + 2)), .int (xs (i.toNatClampNeg + 1)), .ref b]) ejx114) ?_
  refine x_V (As := [.int (xs (i.toNatClampNeg + 1)), .int (xs (i.toNatClampNeg + 2)), .int (xs (i.toNatClampNeg + 3))]) (rest := []) C (a_X10_holes l K G H104 ((xs (i.toNatClampNeg + 1))) ((xs (i.toNatClampNeg + 2))) ((xs (i.toNatClampNeg + 3))) hTH104 gb g106 g107 g108 g109) yo_X10_holes wM_L_116 ⟨⟨by decide, by decide⟩, show _ ≤ 284929 by omega, show _ ≤ 8247460 by omega⟩ (x_rv C hTH104 (ci := 10) rfl gb rg_112) rfl hl.1 rfl (Nat.le_of_ble_eq_true rfl) dL_law_1113 hSH104 (AE_new hN hSH104.1) (fun vH115 H115 locsH115 pH115 zH115 kH115 hSH115 => ?_)
  obtain ⟨x116, hvH115, bx116, g117, g118, g119, g120, mf121, hTH115⟩ := pH115
  subst hvH115
  have m122 := (m110).trans (fI_kept (x_lt hTH104 kH115 ga (by decide))).symm
  have m123 := (m111).trans (MF.i mf121 (k := 18) (by decide) (by decide)).symm
  refine W.eq (g2 := F0 m 1116 ls [.int x116]) rfl ?_
  refine lv_pop hx hb dL_law_1116 rfl ?_
  refine lv_goto (tgt := 1509) hx hb dL_law_1117 (by decide) ?_
  exact nx G H115 locsH115 _ _ ls ⟨hTH115, hN, ga, gb, g117, g118, g119, g120, (by rw [← m122, ← m123]; omega), hSH115⟩ hl (by omega) (by omega)
set_option maxRecDepth 100000 in
set_option maxHeartbeats 1000000 in
theorem lw_c24 {p : Program} {l : Launch} {e : Env} {s : State} {m : MethodId} {below : List Frame} {meth : Method} {c : Code} {K : KE} {b0 L : Nat} {xs : Nat → Int32} {G : Nat → Option Nat} {H : Heap} {locs : List Loc} {a b : Nat} {cells slots : Nat} {ls : Array Slot} {i : Int32} {n : Nat} (D : LC p K s m meth c b0 L xs) (S : SX K s G H locs a b) (hl : lv_has ls 4 [(3, .int i), (2, .ref b), (1, .ref a), (0, .ref b0)]) (hi : 0 ≤ i.toInt ∧ i.toInt + 6 ≤ L) (hn : n ≤ 511) (hc : cells ≤ 10000 + 434 * n) (hs : slots ≤ 200000 + 13027 * n) (nx : ∀ (G : Nat → Option Nat) (H : Heap) (locs : List Loc) (cells slots : Nat) (ls : Array Slot), SX K s G H locs a b → lv_has ls 4 [(3, .int i), (2, .ref b), (1, .ref a), (0, .ref b0)] → cells ≤ 10000 + 434 * (n + 1) → slots ≤ 200000 + 13027 * (n + 1) → W p l e room_1 s m #[Value.ref b0] below meth c H locs cells slots (lw_Z below #[Value.ref b0] s) (F0 m 1509 ls [])) : W p l e room_1 s m #[Value.ref b0] below meth c H locs cells slots (lw_Z below #[Value.ref b0] s) (F0 m 1120 ls []) := by
  obtain ⟨C, hX, hbl, hL⟩ := id D
  obtain ⟨hx, hb, hml, hown, hts, hKT, hr, hlocks, hnm⟩ := id C
  obtain ⟨hT, hN, ga, gb, cg, tu, wd, im, rt, hS⟩ := S
  have n_1 : (1 : Int32).toInt = 1 := rfl
  have n_2 : (2 : Int32).toInt = 2 := rfl
  have n_3 : (3 : Int32).toInt = 3 := rfl
  obtain ⟨ta, eta⟩ : ∃ z : Int32, z = fI H a (K.1.2 9 3) := ⟨_, rfl⟩
  obtain ⟨tb, etb⟩ : ∃ z : Int32, z = fI H b (K.1.2 10 18) := ⟨_, rfl⟩
  rw [← eta, ← etb] at rt
  refine lv_aload_n hx hb dL_law_1120 rfl (lv_at hl 2 rfl) ?_
  refine lv_aload_n hx hb dL_law_1121 rfl (lv_at hl 3 rfl) ?_
  refine lv_iload_n hx hb dL_law_1122 rfl (lv_at hl 0 rfl) ?_
  refine lv_iconst (v := 1) hx hb dL_law_1123 (by decide) ?_
  refine lv_iadd hx hb dL_law_1124 ?_
  refine lv_topi (fun x101 ex101 => ?_)
  have tx101 := i_add ex101 (by omega)
  have ejx101 : x101.toNatClampNeg = i.toNatClampNeg + 1 := by have h1 := i_cl (x := x101) (by omega); have h2 := i_cl (x := i) (by omega); omega
  refine va_sld hx hb hX hbl (Nat.not_le.mpr hbl) hS (vp_in_iff.mpr (by omega)) dL_law_1125 ?_
  refine W.eq (g2 := F0 m 1126 ls [.int (xs (i.toNatClampNeg + 1)), .ref a]) (congrArg (fun z => F0 m 1126 ls [.int (xs z), .ref a]) ejx101) ?_
  refine lv_aload_n hx hb dL_law_1126 rfl (lv_at hl 3 rfl) ?_
  refine lv_iload_n hx hb dL_law_1127 rfl (lv_at hl 0 rfl) ?_
  refine lv_iconst (v := 2) hx hb dL_law_1128 (by decide) ?_
  refine lv_iadd hx hb dL_law_1129 ?_
  refine lv_topi (fun x102 ex102 => ?_)
  have tx102 := i_add ex102 (by omega)
  have ejx102 : x102.toNatClampNeg = i.toNatClampNeg + 2 := by have h1 := i_cl (x := x102) (by omega); have h2 := i_cl (x := i) (by omega); omega
  refine va_sld hx hb hX hbl (Nat.not_le.mpr hbl) hS (vp_in_iff.mpr (by omega)) dL_law_1130 ?_
  refine W.eq (g2 := F0 m 1131 ls [.int (xs (i.toNatClampNeg + 2)), .int (xs (i.toNatClampNeg + 1)), .ref a]) (congrArg (fun z => F0 m 1131 ls [.int (xs z), .int (xs (i.toNatClampNeg + 1)), .ref a]) ejx102) ?_
  refine lv_aload_n hx hb dL_law_1131 rfl (lv_at hl 3 rfl) ?_
  refine lv_iload_n hx hb dL_law_1132 rfl (lv_at hl 0 rfl) ?_
  refine lv_iconst (v := 3) hx hb dL_law_1133 (by decide) ?_
  refine lv_iadd hx hb dL_law_1134 ?_
  refine lv_topi (fun x103 ex103 => ?_)
  have tx103 := i_add ex103 (by omega)
  have ejx103 : x103.toNatClampNeg = i.toNatClampNeg + 3 := by have h1 := i_cl (x := x103) (by omega); have h2 := i_cl (x := i) (by omega); omega
  refine va_sld hx hb hX hbl (Nat.not_le.mpr hbl) hS (vp_in_iff.mpr (by omega)) dL_law_1135 ?_
  refine W.eq (g2 := F0 m 1136 ls [.int (xs (i.toNatClampNeg + 3)), .int (xs (i.toNatClampNeg + 2)), .int (xs (i.toNatClampNeg + 1)), .ref a]) (congrArg (fun z => F0 m 1136 ls [.int (xs z), .int (xs (i.toNatClampNeg + 2)), .int (xs (i.toNatClampNeg + 1)), .ref a]) ejx103) ?_
  refine x_V (As := [.int (xs (i.toNatClampNeg + 1)), .int (xs (i.toNatClampNeg + 2)), .int (xs (i.toNatClampNeg + 3))]) (rest := []) C (a_X9_tube l K G H ((xs (i.toNatClampNeg + 1))) ((xs (i.toNatClampNeg + 2))) ((xs (i.toNatClampNeg + 3))) hT ga) yo_X9_tube wM_L_117 ⟨⟨by decide, by decide⟩, show _ ≤ 284929 by omega, show _ ≤ 8247460 by omega⟩ (x_rv C hT (ci := 9) rfl ga rg_68) rfl hl.1 rfl (Nat.le_of_ble_eq_true rfl) dL_law_1136 hS (AE_new hN hS.1) (fun vH104 H104 locsH104 pH104 zH104 kH104 hSH104 => ?_)
  obtain ⟨x105, hvH104, bx105, hTH104⟩ := pH104
  subst hvH104
  have g106 : CG (avw K H104 b) := CG.congr (fun k hk j => av_eff hT kH104 gb (by decide) (CG_eff [15] (by decide) k hk)) cg
  have g107 : TU (avw K H104 b) (svw K H104 b) := TU.congr (fun k hk j => av_eff hT kH104 gb (by decide) (TU_eff [15] (by decide) k hk)) (fun k hk => sv_eff hT kH104 gb (by decide)) tu
  have g108 : WD (avw K H104 b) := WD.congr (fun k hk j => av_eff hT kH104 gb (by decide) (WD_eff [15] (by decide) k hk)) wd
  have g109 : IM (avw K H104 b) := IM.congr (fun k hk j => av_eff hT kH104 gb (by decide) (IM_eff [15] (by decide) k hk)) im
  have m110 := (eta).trans (fI_kept (x_lt hT kH104 ga (by decide))).symm
  have m111 := (etb).trans (fI_kept (x_lt hT kH104 gb (by decide))).symm
  refine W.eq (g2 := F0 m 1139 ls [.int x105]) rfl ?_
  refine lv_pop hx hb dL_law_1139 rfl ?_
  refine lv_aload_n hx hb dL_law_1140 rfl (lv_at hl 1 rfl) ?_
  refine lv_aload_n hx hb dL_law_1141 rfl (lv_at hl 3 rfl) ?_
  refine lv_iload_n hx hb dL_law_1142 rfl (lv_at hl 0 rfl) ?_
  refine lv_iconst (v := 1) hx hb dL_law_1143 (by decide) ?_
  refine lv_iadd hx hb dL_law_1144 ?_
  refine lv_topi (fun x112 ex112 => ?_)
  have tx112 := i_add ex112 (by omega)
  have ejx112 : x112.toNatClampNeg = i.toNatClampNeg + 1 := by have h1 := i_cl (x := x112) (by omega); have h2 := i_cl (x := i) (by omega); omega
  refine va_sld hx hb hX hbl (Nat.not_le.mpr hbl) hSH104 (vp_in_iff.mpr (by omega)) dL_law_1145 ?_
  refine W.eq (g2 := F0 m 1146 ls [.int (xs (i.toNatClampNeg + 1)), .ref b]) (congrArg (fun z => F0 m 1146 ls [.int (xs z), .ref b]) ejx112) ?_
  refine lv_aload_n hx hb dL_law_1146 rfl (lv_at hl 3 rfl) ?_
  refine lv_iload_n hx hb dL_law_1147 rfl (lv_at hl 0 rfl) ?_
  refine lv_iconst (v := 2) hx hb dL_law_1148 (by decide) ?_
  refine lv_iadd hx hb dL_law_1149 ?_
  refine lv_topi (fun x113 ex113 => ?_)
  have tx113 := i_add ex113 (by omega)
  have ejx113 : x113.toNatClampNeg = i.toNatClampNeg + 2 := by have h1 := i_cl (x := x113) (by omega); have h2 := i_cl (x := i) (by omega); omega
  refine va_sld hx hb hX hbl (Nat.not_le.mpr hbl) hSH104 (vp_in_iff.mpr (by omega)) dL_law_1150 ?_
  refine W.eq (g2 := F0 m 1151 ls [.int (xs (i.toNatClampNeg + 2)), .int (xs (i.toNatClampNeg + 1)), .ref b]) (congrArg (fun z => F0 m 1151 ls [.int (xs z), .int (xs (i.toNatClampNeg + 1)), .ref b]) ejx113) ?_
  refine lv_aload_n hx hb dL_law_1151 rfl (lv_at hl 3 rfl) ?_
  refine lv_iload_n hx hb dL_law_1152 rfl (lv_at hl 0 rfl) ?_
  refine lv_iconst (v := 3) hx hb dL_law_1153 (by decide) ?_
  refine lv_iadd hx hb dL_law_1154 ?_
  refine lv_topi (fun x114 ex114 => ?_)
  have tx114 := i_add ex114 (by omega)
  have ejx114 : x114.toNatClampNeg = i.toNatClampNeg + 3 := by have h1 := i_cl (x := x114) (by omega); have h2 := i_cl (x := i) (by omega); omega
  refine va_sld hx hb hX hbl (Nat.not_le.mpr hbl) hSH104 (vp_in_iff.mpr (by omega)) dL_law_1155 ?_
  refine W.eq (g2 := F0 m 1156 ls [.int (xs (i.toNatClampNeg + 3)), .int (xs (i.toNatClampNeg + 2)), .int (xs (i.toNatClampNeg + 1)), .ref b]) (congrArg (fun z => F0 m 1156 ls [.int (xs z), .int (xs (i.toNatClampNeg + 2)), .int (xs (i.toNatClampNeg + 1)), .ref b]) ejx114) ?_
  refine x_V (As := [.int (xs (i.toNatClampNeg + 1)), .int (xs (i.toNatClampNeg + 2)), .int (xs (i.toNatClampNeg + 3))]) (rest := []) C (a_X10_tube l K G H104 ((xs (i.toNatClampNeg + 1))) ((xs (i.toNatClampNeg + 2))) ((xs (i.toNatClampNeg + 3))) hTH104 gb g106 g107 g108 g109) yo_X10_tube wM_L_120 ⟨⟨by decide, by decide⟩, show _ ≤ 284929 by omega, show _ ≤ 8247460 by omega⟩ (x_rv C hTH104 (ci := 10) rfl gb rg_112) rfl hl.1 rfl (Nat.le_of_ble_eq_true rfl) dL_law_1156 hSH104 (AE_new hN hSH104.1) (fun vH115 H115 locsH115 pH115 zH115 kH115 hSH115 => ?_)
  obtain ⟨x116, hvH115, bx116, g117, g118, g119, g120, mf121, hTH115⟩ := pH115
  subst hvH115
  have m122 := (m110).trans (fI_kept (x_lt hTH104 kH115 ga (by decide))).symm
  have m123 := (m111).trans (MF.i mf121 (k := 18) (by decide) (by decide)).symm
  refine W.eq (g2 := F0 m 1159 ls [.int x116]) rfl ?_
  refine lv_pop hx hb dL_law_1159 rfl ?_
  refine lv_goto (tgt := 1509) hx hb dL_law_1160 (by decide) ?_
  exact nx G H115 locsH115 _ _ ls ⟨hTH115, hN, ga, gb, g117, g118, g119, g120, (by rw [← m122, ← m123]; omega), hSH115⟩ hl (by omega) (by omega)
set_option maxRecDepth 100000 in
set_option maxHeartbeats 1000000 in
theorem lw_c25 {p : Program} {l : Launch} {e : Env} {s : State} {m : MethodId} {below : List Frame} {meth : Method} {c : Code} {K : KE} {b0 L : Nat} {xs : Nat → Int32} {G : Nat → Option Nat} {H : Heap} {locs : List Loc} {a b : Nat} {cells slots : Nat} {ls : Array Slot} {i : Int32} {n : Nat} (D : LC p K s m meth c b0 L xs) (S : SX K s G H locs a b) (hl : lv_has ls 4 [(3, .int i), (2, .ref b), (1, .ref a), (0, .ref b0)]) (hi : 0 ≤ i.toInt ∧ i.toInt + 6 ≤ L) (hn : n ≤ 511) (hc : cells ≤ 10000 + 434 * n) (hs : slots ≤ 200000 + 13027 * n) (nx : ∀ (G : Nat → Option Nat) (H : Heap) (locs : List Loc) (cells slots : Nat) (ls : Array Slot), SX K s G H locs a b → lv_has ls 4 [(3, .int i), (2, .ref b), (1, .ref a), (0, .ref b0)] → cells ≤ 10000 + 434 * (n + 1) → slots ≤ 200000 + 13027 * (n + 1) → W p l e room_1 s m #[Value.ref b0] below meth c H locs cells slots (lw_Z below #[Value.ref b0] s) (F0 m 1509 ls [])) : W p l e room_1 s m #[Value.ref b0] below meth c H locs cells slots (lw_Z below #[Value.ref b0] s) (F0 m 1163 ls []) := by
  obtain ⟨C, hX, hbl, hL⟩ := id D
  obtain ⟨hx, hb, hml, hown, hts, hKT, hr, hlocks, hnm⟩ := id C
  obtain ⟨hT, hN, ga, gb, cg, tu, wd, im, rt, hS⟩ := S
  have n_1 : (1 : Int32).toInt = 1 := rfl
  have n_2 : (2 : Int32).toInt = 2 := rfl
  have n_3 : (3 : Int32).toInt = 3 := rfl
  have n_4 : (4 : Int32).toInt = 4 := rfl
  obtain ⟨ta, eta⟩ : ∃ z : Int32, z = fI H a (K.1.2 9 3) := ⟨_, rfl⟩
  obtain ⟨tb, etb⟩ : ∃ z : Int32, z = fI H b (K.1.2 10 18) := ⟨_, rfl⟩
  rw [← eta, ← etb] at rt
  refine lv_aload_n hx hb dL_law_1163 rfl (lv_at hl 2 rfl) ?_
  refine lv_aload_n hx hb dL_law_1164 rfl (lv_at hl 3 rfl) ?_
  refine lv_iload_n hx hb dL_law_1165 rfl (lv_at hl 0 rfl) ?_
  refine lv_iconst (v := 1) hx hb dL_law_1166 (by decide) ?_
  refine lv_iadd hx hb dL_law_1167 ?_
  refine lv_topi (fun x101 ex101 => ?_)
  have tx101 := i_add ex101 (by omega)
  have ejx101 : x101.toNatClampNeg = i.toNatClampNeg + 1 := by have h1 := i_cl (x := x101) (by omega); have h2 := i_cl (x := i) (by omega); omega
  refine va_sld hx hb hX hbl (Nat.not_le.mpr hbl) hS (vp_in_iff.mpr (by omega)) dL_law_1168 ?_
  refine W.eq (g2 := F0 m 1169 ls [.int (xs (i.toNatClampNeg + 1)), .ref a]) (congrArg (fun z => F0 m 1169 ls [.int (xs z), .ref a]) ejx101) ?_
  refine lv_aload_n hx hb dL_law_1169 rfl (lv_at hl 3 rfl) ?_
  refine lv_iload_n hx hb dL_law_1170 rfl (lv_at hl 0 rfl) ?_
  refine lv_iconst (v := 2) hx hb dL_law_1171 (by decide) ?_
  refine lv_iadd hx hb dL_law_1172 ?_
  refine lv_topi (fun x102 ex102 => ?_)
  have tx102 := i_add ex102 (by omega)
  have ejx102 : x102.toNatClampNeg = i.toNatClampNeg + 2 := by have h1 := i_cl (x := x102) (by omega); have h2 := i_cl (x := i) (by omega); omega
  refine va_sld hx hb hX hbl (Nat.not_le.mpr hbl) hS (vp_in_iff.mpr (by omega)) dL_law_1173 ?_
  refine W.eq (g2 := F0 m 1174 ls [.int (xs (i.toNatClampNeg + 2)), .int (xs (i.toNatClampNeg + 1)), .ref a]) (congrArg (fun z => F0 m 1174 ls [.int (xs z), .int (xs (i.toNatClampNeg + 1)), .ref a]) ejx102) ?_
  refine lv_aload_n hx hb dL_law_1174 rfl (lv_at hl 3 rfl) ?_
  refine lv_iload_n hx hb dL_law_1175 rfl (lv_at hl 0 rfl) ?_
  refine lv_iconst (v := 3) hx hb dL_law_1176 (by decide) ?_
  refine lv_iadd hx hb dL_law_1177 ?_
  refine lv_topi (fun x103 ex103 => ?_)
  have tx103 := i_add ex103 (by omega)
  have ejx103 : x103.toNatClampNeg = i.toNatClampNeg + 3 := by have h1 := i_cl (x := x103) (by omega); have h2 := i_cl (x := i) (by omega); omega
  refine va_sld hx hb hX hbl (Nat.not_le.mpr hbl) hS (vp_in_iff.mpr (by omega)) dL_law_1178 ?_
  refine W.eq (g2 := F0 m 1179 ls [.int (xs (i.toNatClampNeg + 3)), .int (xs (i.toNatClampNeg + 2)), .int (xs (i.toNatClampNeg + 1)), .ref a]) (congrArg (fun z => F0 m 1179 ls [.int (xs z), .int (xs (i.toNatClampNeg + 2)), .int (xs (i.toNatClampNeg + 1)), .ref a]) ejx103) ?_
  refine lv_aload_n hx hb dL_law_1179 rfl (lv_at hl 3 rfl) ?_
  refine lv_iload_n hx hb dL_law_1180 rfl (lv_at hl 0 rfl) ?_
  refine lv_iconst (v := 4) hx hb dL_law_1181 (by decide) ?_
  refine lv_iadd hx hb dL_law_1182 ?_
  refine lv_topi (fun x104 ex104 => ?_)
  have tx104 := i_add ex104 (by omega)
  have ejx104 : x104.toNatClampNeg = i.toNatClampNeg + 4 := by have h1 := i_cl (x := x104) (by omega); have h2 := i_cl (x := i) (by omega); omega
  refine va_sld hx hb hX hbl (Nat.not_le.mpr hbl) hS (vp_in_iff.mpr (by omega)) dL_law_1183 ?_
  refine W.eq (g2 := F0 m 1184 ls [.int (xs (i.toNatClampNeg + 4)), .int (xs (i.toNatClampNeg + 3)), .int (xs (i.toNatClampNeg + 2)), .int (xs (i.toNatClampNeg + 1)), .ref a]) (congrArg (fun z => F0 m 1184 ls [.int (xs z), .int (xs (i.toNatClampNeg + 3)), .int (xs (i.toNatClampNeg + 2)), .int (xs (i.toNatClampNeg + 1)), .ref a]) ejx104) ?_
  refine x_V (As := [.int (xs (i.toNatClampNeg + 1)), .int (xs (i.toNatClampNeg + 2)), .int (xs (i.toNatClampNeg + 3)), .int (xs (i.toNatClampNeg + 4))]) (rest := []) C (a_X9_in l K G H ((xs (i.toNatClampNeg + 1))) ((xs (i.toNatClampNeg + 2))) ((xs (i.toNatClampNeg + 3))) ((xs (i.toNatClampNeg + 4))) hT ga) yo_X9_in wM_L_121 ⟨⟨by decide, by decide⟩, show _ ≤ 284929 by omega, show _ ≤ 8247460 by omega⟩ (x_rv C hT (ci := 9) rfl ga rg_68) rfl hl.1 rfl (Nat.le_of_ble_eq_true rfl) dL_law_1184 hS (AE_new hN hS.1) (fun vH105 H105 locsH105 pH105 zH105 kH105 hSH105 => ?_)
  obtain ⟨x106, hvH105, hTH105⟩ := pH105
  subst hvH105
  have g107 : CG (avw K H105 b) := CG.congr (fun k hk j => av_eff hT kH105 gb (by decide) (CG_eff [83, 84] (by decide) k hk)) cg
  have g108 : TU (avw K H105 b) (svw K H105 b) := TU.congr (fun k hk j => av_eff hT kH105 gb (by decide) (TU_eff [83, 84] (by decide) k hk)) (fun k hk => sv_eff hT kH105 gb (by decide)) tu
  have g109 : WD (avw K H105 b) := WD.congr (fun k hk j => av_eff hT kH105 gb (by decide) (WD_eff [83, 84] (by decide) k hk)) wd
  have g110 : IM (avw K H105 b) := IM.congr (fun k hk j => av_eff hT kH105 gb (by decide) (IM_eff [83, 84] (by decide) k hk)) im
  have m111 := (eta).trans (fI_kept (x_lt hT kH105 ga (by decide))).symm
  have m112 := (etb).trans (fI_kept (x_lt hT kH105 gb (by decide))).symm
  refine W.eq (g2 := F0 m 1187 ls [.int x106]) rfl ?_
  refine lv_pop hx hb dL_law_1187 rfl ?_
  refine lv_aload_n hx hb dL_law_1188 rfl (lv_at hl 1 rfl) ?_
  refine lv_aload_n hx hb dL_law_1189 rfl (lv_at hl 3 rfl) ?_
  refine lv_iload_n hx hb dL_law_1190 rfl (lv_at hl 0 rfl) ?_
  refine lv_iconst (v := 1) hx hb dL_law_1191 (by decide) ?_
  refine lv_iadd hx hb dL_law_1192 ?_
  refine lv_topi (fun x113 ex113 => ?_)
  have tx113 := i_add ex113 (by omega)
  have ejx113 : x113.toNatClampNeg = i.toNatClampNeg + 1 := by have h1 := i_cl (x := x113) (by omega); have h2 := i_cl (x := i) (by omega); omega
  refine va_sld hx hb hX hbl (Nat.not_le.mpr hbl) hSH105 (vp_in_iff.mpr (by omega)) dL_law_1193 ?_
  refine W.eq (g2 := F0 m 1194 ls [.int (xs (i.toNatClampNeg + 1)), .ref b]) (congrArg (fun z => F0 m 1194 ls [.int (xs z), .ref b]) ejx113) ?_
  refine lv_aload_n hx hb dL_law_1194 rfl (lv_at hl 3 rfl) ?_
  refine lv_iload_n hx hb dL_law_1195 rfl (lv_at hl 0 rfl) ?_
  refine lv_iconst (v := 2) hx hb dL_law_1196 (by decide) ?_
  refine lv_iadd hx hb dL_law_1197 ?_
  refine lv_topi (fun x114 ex114 => ?_)
  have tx114 := i_add ex114 (by omega)
  have ejx114 : x114.toNatClampNeg = i.toNatClampNeg + 2 := by have h1 := i_cl (x := x114) (by omega); have h2 := i_cl (x := i) (by omega); omega
  refine va_sld hx hb hX hbl (Nat.not_le.mpr hbl) hSH105 (vp_in_iff.mpr (by omega)) dL_law_1198 ?_
  refine W.eq (g2 := F0 m 1199 ls [.int (xs (i.toNatClampNeg + 2)), .int (xs (i.toNatClampNeg + 1)), .ref b]) (congrArg (fun z => F0 m 1199 ls [.int (xs z), .int (xs (i.toNatClampNeg + 1)), .ref b]) ejx114) ?_
  refine lv_aload_n hx hb dL_law_1199 rfl (lv_at hl 3 rfl) ?_
  refine lv_iload_n hx hb dL_law_1200 rfl (lv_at hl 0 rfl) ?_
  refine lv_iconst (v := 3) hx hb dL_law_1201 (by decide) ?_
  refine lv_iadd hx hb dL_law_1202 ?_
  refine lv_topi (fun x115 ex115 => ?_)
  have tx115 := i_add ex115 (by omega)
  have ejx115 : x115.toNatClampNeg = i.toNatClampNeg + 3 := by have h1 := i_cl (x := x115) (by omega); have h2 := i_cl (x := i) (by omega); omega
  refine va_sld hx hb hX hbl (Nat.not_le.mpr hbl) hSH105 (vp_in_iff.mpr (by omega)) dL_law_1203 ?_
  refine W.eq (g2 := F0 m 1204 ls [.int (xs (i.toNatClampNeg + 3)), .int (xs (i.toNatClampNeg + 2)), .int (xs (i.toNatClampNeg + 1)), .ref b]) (congrArg (fun z => F0 m 1204 ls [.int (xs z), .int (xs (i.toNatClampNeg + 2)), .int (xs (i.toNatClampNeg + 1)), .ref b]) ejx115) ?_
  refine lv_aload_n hx hb dL_law_1204 rfl (lv_at hl 3 rfl) ?_
  refine lv_iload_n hx hb dL_law_1205 rfl (lv_at hl 0 rfl) ?_
  refine lv_iconst (v := 4) hx hb dL_law_1206 (by decide) ?_
  refine lv_iadd hx hb dL_law_1207 ?_
  refine lv_topi (fun x116 ex116 => ?_)
  have tx116 := i_add ex116 (by omega)
  have ejx116 : x116.toNatClampNeg = i.toNatClampNeg + 4 := by have h1 := i_cl (x := x116) (by omega); have h2 := i_cl (x := i) (by omega); omega
  refine va_sld hx hb hX hbl (Nat.not_le.mpr hbl) hSH105 (vp_in_iff.mpr (by omega)) dL_law_1208 ?_
  refine W.eq (g2 := F0 m 1209 ls [.int (xs (i.toNatClampNeg + 4)), .int (xs (i.toNatClampNeg + 3)), .int (xs (i.toNatClampNeg + 2)), .int (xs (i.toNatClampNeg + 1)), .ref b]) (congrArg (fun z => F0 m 1209 ls [.int (xs z), .int (xs (i.toNatClampNeg + 3)), .int (xs (i.toNatClampNeg + 2)), .int (xs (i.toNatClampNeg + 1)), .ref b]) ejx116) ?_
  obtain ⟨x117, ex117⟩ : ∃ z : Int32, z = fI H105 b (K.1.2 10 1) := ⟨_, rfl⟩
  have bx117 := ty_fi (x := x117) (k := 1) ex117 hTH105 gb rg_112 rfl
  refine x_V (As := [.int (xs (i.toNatClampNeg + 1)), .int (xs (i.toNatClampNeg + 2)), .int (xs (i.toNatClampNeg + 3)), .int (xs (i.toNatClampNeg + 4))]) (rest := []) C (a_X10_in l K G H105 ((xs (i.toNatClampNeg + 1))) ((xs (i.toNatClampNeg + 2))) ((xs (i.toNatClampNeg + 3))) ((xs (i.toNatClampNeg + 4))) (x117) hTH105 gb ex117 g107 g108 g109 g110) yo_X10_in wM_L_124 ⟨⟨by decide, by decide⟩, show _ ≤ 284929 by omega, show _ ≤ 8247460 by omega⟩ (x_rv C hTH105 (ci := 10) rfl gb rg_112) rfl hl.1 rfl (Nat.le_of_ble_eq_true rfl) dL_law_1209 hSH105 (AE_new hN hSH105.1) (fun vH118 H118 locsH118 pH118 zH118 kH118 hSH118 => ?_)
  obtain ⟨x119, hvH118, g120, g121, g122, g123, mf124, hTH118⟩ := pH118
  subst hvH118
  have m125 := (m111).trans (fI_kept (x_lt hTH105 kH118 ga (by decide))).symm
  have m126 := (m112).trans (MF.i mf124 (k := 18) (by decide) (by decide)).symm
  have m127 := (ex117).trans (MF.i mf124 (k := 1) (by decide) (by decide)).symm
  refine W.eq (g2 := F0 m 1212 ls [.int x119]) rfl ?_
  refine lv_pop hx hb dL_law_1212 rfl ?_
  refine lv_goto (tgt := 1509) hx hb dL_law_1213 (by decide) ?_
  exact nx G H118 locsH118 _ _ ls ⟨hTH118, hN, ga, gb, g120, g121, g122, g123, (by rw [← m125, ← m126]; omega), hSH118⟩ hl (by omega) (by omega)
set_option maxRecDepth 100000 in
set_option maxHeartbeats 1000000 in
theorem lw_c26 {p : Program} {l : Launch} {e : Env} {s : State} {m : MethodId} {below : List Frame} {meth : Method} {c : Code} {K : KE} {b0 L : Nat} {xs : Nat → Int32} {G : Nat → Option Nat} {H : Heap} {locs : List Loc} {a b : Nat} {cells slots : Nat} {ls : Array Slot} {i : Int32} {n : Nat} (D : LC p K s m meth c b0 L xs) (S : SX K s G H locs a b) (hl : lv_has ls 4 [(3, .int i), (2, .ref b), (1, .ref a), (0, .ref b0)]) (hi : 0 ≤ i.toInt ∧ i.toInt + 6 ≤ L) (hn : n ≤ 511) (hc : cells ≤ 10000 + 434 * n) (hs : slots ≤ 200000 + 13027 * n) (nx : ∀ (G : Nat → Option Nat) (H : Heap) (locs : List Loc) (cells slots : Nat) (ls : Array Slot), SX K s G H locs a b → lv_has ls 4 [(3, .int i), (2, .ref b), (1, .ref a), (0, .ref b0)] → cells ≤ 10000 + 434 * (n + 1) → slots ≤ 200000 + 13027 * (n + 1) → W p l e room_1 s m #[Value.ref b0] below meth c H locs cells slots (lw_Z below #[Value.ref b0] s) (F0 m 1509 ls [])) : W p l e room_1 s m #[Value.ref b0] below meth c H locs cells slots (lw_Z below #[Value.ref b0] s) (F0 m 1216 ls []) := by
  obtain ⟨C, hX, hbl, hL⟩ := id D
  obtain ⟨hx, hb, hml, hown, hts, hKT, hr, hlocks, hnm⟩ := id C
  obtain ⟨hT, hN, ga, gb, cg, tu, wd, im, rt, hS⟩ := S
  have n_1 : (1 : Int32).toInt = 1 := rfl
  have n_2 : (2 : Int32).toInt = 2 := rfl
  obtain ⟨ta, eta⟩ : ∃ z : Int32, z = fI H a (K.1.2 9 3) := ⟨_, rfl⟩
  obtain ⟨tb, etb⟩ : ∃ z : Int32, z = fI H b (K.1.2 10 18) := ⟨_, rfl⟩
  rw [← eta, ← etb] at rt
  refine lv_aload_n hx hb dL_law_1216 rfl (lv_at hl 2 rfl) ?_
  refine lv_aload_n hx hb dL_law_1217 rfl (lv_at hl 3 rfl) ?_
  refine lv_iload_n hx hb dL_law_1218 rfl (lv_at hl 0 rfl) ?_
  refine lv_iconst (v := 1) hx hb dL_law_1219 (by decide) ?_
  refine lv_iadd hx hb dL_law_1220 ?_
  refine lv_topi (fun x101 ex101 => ?_)
  have tx101 := i_add ex101 (by omega)
  have ejx101 : x101.toNatClampNeg = i.toNatClampNeg + 1 := by have h1 := i_cl (x := x101) (by omega); have h2 := i_cl (x := i) (by omega); omega
  refine va_sld hx hb hX hbl (Nat.not_le.mpr hbl) hS (vp_in_iff.mpr (by omega)) dL_law_1221 ?_
  refine W.eq (g2 := F0 m 1222 ls [.int (xs (i.toNatClampNeg + 1)), .ref a]) (congrArg (fun z => F0 m 1222 ls [.int (xs z), .ref a]) ejx101) ?_
  refine lv_aload_n hx hb dL_law_1222 rfl (lv_at hl 3 rfl) ?_
  refine lv_iload_n hx hb dL_law_1223 rfl (lv_at hl 0 rfl) ?_
  refine lv_iconst (v := 2) hx hb dL_law_1224 (by decide) ?_
  refine lv_iadd hx hb dL_law_1225 ?_
  refine lv_topi (fun x102 ex102 => ?_)
  have tx102 := i_add ex102 (by omega)
  have ejx102 : x102.toNatClampNeg = i.toNatClampNeg + 2 := by have h1 := i_cl (x := x102) (by omega); have h2 := i_cl (x := i) (by omega); omega
  refine va_sld hx hb hX hbl (Nat.not_le.mpr hbl) hS (vp_in_iff.mpr (by omega)) dL_law_1226 ?_
  refine W.eq (g2 := F0 m 1227 ls [.int (xs (i.toNatClampNeg + 2)), .int (xs (i.toNatClampNeg + 1)), .ref a]) (congrArg (fun z => F0 m 1227 ls [.int (xs z), .int (xs (i.toNatClampNeg + 1)), .ref a]) ejx102) ?_
  refine x_V (As := [.int (xs (i.toNatClampNeg + 1)), .int (xs (i.toNatClampNeg + 2))]) (rest := []) C (a_X9_night l K G H ((xs (i.toNatClampNeg + 1))) ((xs (i.toNatClampNeg + 2))) hT ga) yo_X9_night wM_L_125 ⟨⟨by decide, by decide⟩, show _ ≤ 284929 by omega, show _ ≤ 8247460 by omega⟩ (x_rv C hT (ci := 9) rfl ga rg_68) rfl hl.1 rfl (Nat.le_of_ble_eq_true rfl) dL_law_1227 hS (AE_new hN hS.1) (fun vH103 H103 locsH103 pH103 zH103 kH103 hSH103 => ?_)
  obtain ⟨x104, hvH103, hTH103⟩ := pH103
  subst hvH103
  have g105 : CG (avw K H103 b) := CG.congr (fun k hk j => av_eff hT kH103 gb (by decide) (CG_eff [0, 28, 29] (by decide) k hk)) cg
  have g106 : TU (avw K H103 b) (svw K H103 b) := TU.congr (fun k hk j => av_eff hT kH103 gb (by decide) (TU_eff [0, 28, 29] (by decide) k hk)) (fun k hk => sv_eff hT kH103 gb (by decide)) tu
  have g107 : WD (avw K H103 b) := WD.congr (fun k hk j => av_eff hT kH103 gb (by decide) (WD_eff [0, 28, 29] (by decide) k hk)) wd
  have g108 : IM (avw K H103 b) := IM.congr (fun k hk j => av_eff hT kH103 gb (by decide) (IM_eff [0, 28, 29] (by decide) k hk)) im
  have m109 := (eta).trans (fI_kept (x_lt hT kH103 ga (by decide))).symm
  have m110 := (etb).trans (fI_kept (x_lt hT kH103 gb (by decide))).symm
  refine W.eq (g2 := F0 m 1230 ls [.int x104]) rfl ?_
  refine lv_pop hx hb dL_law_1230 rfl ?_
  refine lv_aload_n hx hb dL_law_1231 rfl (lv_at hl 1 rfl) ?_
  refine lv_aload_n hx hb dL_law_1232 rfl (lv_at hl 3 rfl) ?_
  refine lv_iload_n hx hb dL_law_1233 rfl (lv_at hl 0 rfl) ?_
  refine lv_iconst (v := 1) hx hb dL_law_1234 (by decide) ?_
  refine lv_iadd hx hb dL_law_1235 ?_
  refine lv_topi (fun x111 ex111 => ?_)
  have tx111 := i_add ex111 (by omega)
  have ejx111 : x111.toNatClampNeg = i.toNatClampNeg + 1 := by have h1 := i_cl (x := x111) (by omega); have h2 := i_cl (x := i) (by omega); omega
  refine va_sld hx hb hX hbl (Nat.not_le.mpr hbl) hSH103 (vp_in_iff.mpr (by omega)) dL_law_1236 ?_
  refine W.eq (g2 := F0 m 1237 ls [.int (xs (i.toNatClampNeg + 1)), .ref b]) (congrArg (fun z => F0 m 1237 ls [.int (xs z), .ref b]) ejx111) ?_
  refine lv_aload_n hx hb dL_law_1237 rfl (lv_at hl 3 rfl) ?_
  refine lv_iload_n hx hb dL_law_1238 rfl (lv_at hl 0 rfl) ?_
  refine lv_iconst (v := 2) hx hb dL_law_1239 (by decide) ?_
  refine lv_iadd hx hb dL_law_1240 ?_
  refine lv_topi (fun x112 ex112 => ?_)
  have tx112 := i_add ex112 (by omega)
  have ejx112 : x112.toNatClampNeg = i.toNatClampNeg + 2 := by have h1 := i_cl (x := x112) (by omega); have h2 := i_cl (x := i) (by omega); omega
  refine va_sld hx hb hX hbl (Nat.not_le.mpr hbl) hSH103 (vp_in_iff.mpr (by omega)) dL_law_1241 ?_
  refine W.eq (g2 := F0 m 1242 ls [.int (xs (i.toNatClampNeg + 2)), .int (xs (i.toNatClampNeg + 1)), .ref b]) (congrArg (fun z => F0 m 1242 ls [.int (xs z), .int (xs (i.toNatClampNeg + 1)), .ref b]) ejx112) ?_
  refine x_V (As := [.int (xs (i.toNatClampNeg + 1)), .int (xs (i.toNatClampNeg + 2))]) (rest := []) C (a_X10_night l K G H103 ((xs (i.toNatClampNeg + 1))) ((xs (i.toNatClampNeg + 2))) hTH103 gb g105 g106 g107 g108) yo_X10_night wM_L_128 ⟨⟨by decide, by decide⟩, show _ ≤ 284929 by omega, show _ ≤ 8247460 by omega⟩ (x_rv C hTH103 (ci := 10) rfl gb rg_112) rfl hl.1 rfl (Nat.le_of_ble_eq_true rfl) dL_law_1242 hSH103 (AE_new hN hSH103.1) (fun vH113 H113 locsH113 pH113 zH113 kH113 hSH113 => ?_)
  obtain ⟨x114, hvH113, g115, g116, g117, g118, mf119, hTH113⟩ := pH113
  subst hvH113
  have m120 := (m109).trans (fI_kept (x_lt hTH103 kH113 ga (by decide))).symm
  have m121 := (m110).trans (MF.i mf119 (k := 18) (by decide) (by decide)).symm
  refine W.eq (g2 := F0 m 1245 ls [.int x114]) rfl ?_
  refine lv_pop hx hb dL_law_1245 rfl ?_
  refine lv_goto (tgt := 1509) hx hb dL_law_1246 (by decide) ?_
  exact nx G H113 locsH113 _ _ ls ⟨hTH113, hN, ga, gb, g115, g116, g117, g118, (by rw [← m120, ← m121]; omega), hSH113⟩ hl (by omega) (by omega)
set_option maxRecDepth 100000 in
set_option maxHeartbeats 1000000 in
theorem lw_c27 {p : Program} {l : Launch} {e : Env} {s : State} {m : MethodId} {below : List Frame} {meth : Method} {c : Code} {K : KE} {b0 L : Nat} {xs : Nat → Int32} {G : Nat → Option Nat} {H : Heap} {locs : List Loc} {a b : Nat} {cells slots : Nat} {ls : Array Slot} {i : Int32} {n : Nat} (D : LC p K s m meth c b0 L xs) (S : SX K s G H locs a b) (hl : lv_has ls 4 [(3, .int i), (2, .ref b), (1, .ref a), (0, .ref b0)]) (hi : 0 ≤ i.toInt ∧ i.toInt + 6 ≤ L) (hn : n ≤ 511) (hc : cells ≤ 10000 + 434 * n) (hs : slots ≤ 200000 + 13027 * n) (nx : ∀ (G : Nat → Option Nat) (H : Heap) (locs : List Loc) (cells slots : Nat) (ls : Array Slot), SX K s G H locs a b → lv_has ls 4 [(3, .int i), (2, .ref b), (1, .ref a), (0, .ref b0)] → cells ≤ 10000 + 434 * (n + 1) → slots ≤ 200000 + 13027 * (n + 1) → W p l e room_1 s m #[Value.ref b0] below meth c H locs cells slots (lw_Z below #[Value.ref b0] s) (F0 m 1509 ls [])) : W p l e room_1 s m #[Value.ref b0] below meth c H locs cells slots (lw_Z below #[Value.ref b0] s) (F0 m 1249 ls []) := by
  obtain ⟨C, hX, hbl, hL⟩ := id D
  obtain ⟨hx, hb, hml, hown, hts, hKT, hr, hlocks, hnm⟩ := id C
  obtain ⟨hT, hN, ga, gb, cg, tu, wd, im, rt, hS⟩ := S
  have n_1 : (1 : Int32).toInt = 1 := rfl
  have n_2 : (2 : Int32).toInt = 2 := rfl
  obtain ⟨ta, eta⟩ : ∃ z : Int32, z = fI H a (K.1.2 9 3) := ⟨_, rfl⟩
  obtain ⟨tb, etb⟩ : ∃ z : Int32, z = fI H b (K.1.2 10 18) := ⟨_, rfl⟩
  rw [← eta, ← etb] at rt
  refine lv_aload_n hx hb dL_law_1249 rfl (lv_at hl 2 rfl) ?_
  refine lv_aload_n hx hb dL_law_1250 rfl (lv_at hl 3 rfl) ?_
  refine lv_iload_n hx hb dL_law_1251 rfl (lv_at hl 0 rfl) ?_
  refine lv_iconst (v := 1) hx hb dL_law_1252 (by decide) ?_
  refine lv_iadd hx hb dL_law_1253 ?_
  refine lv_topi (fun x101 ex101 => ?_)
  have tx101 := i_add ex101 (by omega)
  have ejx101 : x101.toNatClampNeg = i.toNatClampNeg + 1 := by have h1 := i_cl (x := x101) (by omega); have h2 := i_cl (x := i) (by omega); omega
  refine va_sld hx hb hX hbl (Nat.not_le.mpr hbl) hS (vp_in_iff.mpr (by omega)) dL_law_1254 ?_
  refine W.eq (g2 := F0 m 1255 ls [.int (xs (i.toNatClampNeg + 1)), .ref a]) (congrArg (fun z => F0 m 1255 ls [.int (xs z), .ref a]) ejx101) ?_
  refine lv_aload_n hx hb dL_law_1255 rfl (lv_at hl 3 rfl) ?_
  refine lv_iload_n hx hb dL_law_1256 rfl (lv_at hl 0 rfl) ?_
  refine lv_iconst (v := 2) hx hb dL_law_1257 (by decide) ?_
  refine lv_iadd hx hb dL_law_1258 ?_
  refine lv_topi (fun x102 ex102 => ?_)
  have tx102 := i_add ex102 (by omega)
  have ejx102 : x102.toNatClampNeg = i.toNatClampNeg + 2 := by have h1 := i_cl (x := x102) (by omega); have h2 := i_cl (x := i) (by omega); omega
  refine va_sld hx hb hX hbl (Nat.not_le.mpr hbl) hS (vp_in_iff.mpr (by omega)) dL_law_1259 ?_
  refine W.eq (g2 := F0 m 1260 ls [.int (xs (i.toNatClampNeg + 2)), .int (xs (i.toNatClampNeg + 1)), .ref a]) (congrArg (fun z => F0 m 1260 ls [.int (xs z), .int (xs (i.toNatClampNeg + 1)), .ref a]) ejx102) ?_
  refine x_V (As := [.int (xs (i.toNatClampNeg + 1)), .int (xs (i.toNatClampNeg + 2))]) (rest := []) C (a_X9_nights l K G H ((xs (i.toNatClampNeg + 1))) ((xs (i.toNatClampNeg + 2))) hT ga) yo_X9_nights wM_L_129 ⟨⟨by decide, by decide⟩, show _ ≤ 284929 by omega, show _ ≤ 8247460 by omega⟩ (x_rv C hT (ci := 9) rfl ga rg_68) rfl hl.1 rfl (Nat.le_of_ble_eq_true rfl) dL_law_1260 hS (AE_new hN hS.1) (fun vH103 H103 locsH103 pH103 zH103 kH103 hSH103 => ?_)
  obtain ⟨x104, hvH103, hTH103⟩ := pH103
  subst hvH103
  have g105 : CG (avw K H103 b) := CG.congr (fun k hk j => av_eff hT kH103 gb (by decide) (CG_eff [83, 84, 109] (by decide) k hk)) cg
  have g106 : TU (avw K H103 b) (svw K H103 b) := TU.congr (fun k hk j => av_eff hT kH103 gb (by decide) (TU_eff [83, 84, 109] (by decide) k hk)) (fun k hk => sv_eff hT kH103 gb (by decide)) tu
  have g107 : WD (avw K H103 b) := WD.congr (fun k hk j => av_eff hT kH103 gb (by decide) (WD_eff [83, 84, 109] (by decide) k hk)) wd
  have g108 : IM (avw K H103 b) := IM.congr (fun k hk j => av_eff hT kH103 gb (by decide) (IM_eff [83, 84, 109] (by decide) k hk)) im
  have m109 := (eta).trans (fI_kept (x_lt hT kH103 ga (by decide))).symm
  have m110 := (etb).trans (fI_kept (x_lt hT kH103 gb (by decide))).symm
  refine W.eq (g2 := F0 m 1263 ls [.int x104]) rfl ?_
  refine lv_pop hx hb dL_law_1263 rfl ?_
  refine lv_aload_n hx hb dL_law_1264 rfl (lv_at hl 1 rfl) ?_
  refine lv_aload_n hx hb dL_law_1265 rfl (lv_at hl 3 rfl) ?_
  refine lv_iload_n hx hb dL_law_1266 rfl (lv_at hl 0 rfl) ?_
  refine lv_iconst (v := 1) hx hb dL_law_1267 (by decide) ?_
  refine lv_iadd hx hb dL_law_1268 ?_
  refine lv_topi (fun x111 ex111 => ?_)
  have tx111 := i_add ex111 (by omega)
  have ejx111 : x111.toNatClampNeg = i.toNatClampNeg + 1 := by have h1 := i_cl (x := x111) (by omega); have h2 := i_cl (x := i) (by omega); omega
  refine va_sld hx hb hX hbl (Nat.not_le.mpr hbl) hSH103 (vp_in_iff.mpr (by omega)) dL_law_1269 ?_
  refine W.eq (g2 := F0 m 1270 ls [.int (xs (i.toNatClampNeg + 1)), .ref b]) (congrArg (fun z => F0 m 1270 ls [.int (xs z), .ref b]) ejx111) ?_
  refine lv_aload_n hx hb dL_law_1270 rfl (lv_at hl 3 rfl) ?_
  refine lv_iload_n hx hb dL_law_1271 rfl (lv_at hl 0 rfl) ?_
  refine lv_iconst (v := 2) hx hb dL_law_1272 (by decide) ?_
  refine lv_iadd hx hb dL_law_1273 ?_
  refine lv_topi (fun x112 ex112 => ?_)
  have tx112 := i_add ex112 (by omega)
  have ejx112 : x112.toNatClampNeg = i.toNatClampNeg + 2 := by have h1 := i_cl (x := x112) (by omega); have h2 := i_cl (x := i) (by omega); omega
  refine va_sld hx hb hX hbl (Nat.not_le.mpr hbl) hSH103 (vp_in_iff.mpr (by omega)) dL_law_1274 ?_
  refine W.eq (g2 := F0 m 1275 ls [.int (xs (i.toNatClampNeg + 2)), .int (xs (i.toNatClampNeg + 1)), .ref b]) (congrArg (fun z => F0 m 1275 ls [.int (xs z), .int (xs (i.toNatClampNeg + 1)), .ref b]) ejx112) ?_
  refine x_V (As := [.int (xs (i.toNatClampNeg + 1)), .int (xs (i.toNatClampNeg + 2))]) (rest := []) C (a_X10_nights l K G H103 ((xs (i.toNatClampNeg + 1))) ((xs (i.toNatClampNeg + 2))) hTH103 gb g105 g106 g107 g108) yo_X10_nights wM_L_132 ⟨⟨by decide, by decide⟩, show _ ≤ 284929 by omega, show _ ≤ 8247460 by omega⟩ (x_rv C hTH103 (ci := 10) rfl gb rg_112) rfl hl.1 rfl (Nat.le_of_ble_eq_true rfl) dL_law_1275 hSH103 (AE_new hN hSH103.1) (fun vH113 H113 locsH113 pH113 zH113 kH113 hSH113 => ?_)
  obtain ⟨x114, hvH113, g115, g116, g117, g118, mf119, hTH113⟩ := pH113
  subst hvH113
  have m120 := (m109).trans (fI_kept (x_lt hTH103 kH113 ga (by decide))).symm
  have m121 := (m110).trans (MF.i mf119 (k := 18) (by decide) (by decide)).symm
  refine W.eq (g2 := F0 m 1278 ls [.int x114]) rfl ?_
  refine lv_pop hx hb dL_law_1278 rfl ?_
  refine lv_goto (tgt := 1509) hx hb dL_law_1279 (by decide) ?_
  exact nx G H113 locsH113 _ _ ls ⟨hTH113, hN, ga, gb, g115, g116, g117, g118, (by rw [← m120, ← m121]; omega), hSH113⟩ hl (by omega) (by omega)
set_option maxRecDepth 100000 in
set_option maxHeartbeats 1000000 in
theorem lw_c28 {p : Program} {l : Launch} {e : Env} {s : State} {m : MethodId} {below : List Frame} {meth : Method} {c : Code} {K : KE} {b0 L : Nat} {xs : Nat → Int32} {G : Nat → Option Nat} {H : Heap} {locs : List Loc} {a b : Nat} {cells slots : Nat} {ls : Array Slot} {i : Int32} {n : Nat} (D : LC p K s m meth c b0 L xs) (S : SX K s G H locs a b) (hl : lv_has ls 4 [(3, .int i), (2, .ref b), (1, .ref a), (0, .ref b0)]) (hi : 0 ≤ i.toInt ∧ i.toInt + 6 ≤ L) (hn : n ≤ 511) (hc : cells ≤ 10000 + 434 * n) (hs : slots ≤ 200000 + 13027 * n) (nx : ∀ (G : Nat → Option Nat) (H : Heap) (locs : List Loc) (cells slots : Nat) (ls : Array Slot), SX K s G H locs a b → lv_has ls 4 [(3, .int i), (2, .ref b), (1, .ref a), (0, .ref b0)] → cells ≤ 10000 + 434 * (n + 1) → slots ≤ 200000 + 13027 * (n + 1) → W p l e room_1 s m #[Value.ref b0] below meth c H locs cells slots (lw_Z below #[Value.ref b0] s) (F0 m 1509 ls [])) : W p l e room_1 s m #[Value.ref b0] below meth c H locs cells slots (lw_Z below #[Value.ref b0] s) (F0 m 1282 ls []) := by
  obtain ⟨C, hX, hbl, hL⟩ := id D
  obtain ⟨hx, hb, hml, hown, hts, hKT, hr, hlocks, hnm⟩ := id C
  obtain ⟨hT, hN, ga, gb, cg, tu, wd, im, rt, hS⟩ := S
  have n_1 : (1 : Int32).toInt = 1 := rfl
  have n_2 : (2 : Int32).toInt = 2 := rfl
  obtain ⟨ta, eta⟩ : ∃ z : Int32, z = fI H a (K.1.2 9 3) := ⟨_, rfl⟩
  obtain ⟨tb, etb⟩ : ∃ z : Int32, z = fI H b (K.1.2 10 18) := ⟨_, rfl⟩
  rw [← eta, ← etb] at rt
  refine lv_aload_n hx hb dL_law_1282 rfl (lv_at hl 2 rfl) ?_
  refine lv_aload_n hx hb dL_law_1283 rfl (lv_at hl 3 rfl) ?_
  refine lv_iload_n hx hb dL_law_1284 rfl (lv_at hl 0 rfl) ?_
  refine lv_iconst (v := 1) hx hb dL_law_1285 (by decide) ?_
  refine lv_iadd hx hb dL_law_1286 ?_
  refine lv_topi (fun x101 ex101 => ?_)
  have tx101 := i_add ex101 (by omega)
  have ejx101 : x101.toNatClampNeg = i.toNatClampNeg + 1 := by have h1 := i_cl (x := x101) (by omega); have h2 := i_cl (x := i) (by omega); omega
  refine va_sld hx hb hX hbl (Nat.not_le.mpr hbl) hS (vp_in_iff.mpr (by omega)) dL_law_1287 ?_
  refine W.eq (g2 := F0 m 1288 ls [.int (xs (i.toNatClampNeg + 1)), .ref a]) (congrArg (fun z => F0 m 1288 ls [.int (xs z), .ref a]) ejx101) ?_
  refine lv_aload_n hx hb dL_law_1288 rfl (lv_at hl 3 rfl) ?_
  refine lv_iload_n hx hb dL_law_1289 rfl (lv_at hl 0 rfl) ?_
  refine lv_iconst (v := 2) hx hb dL_law_1290 (by decide) ?_
  refine lv_iadd hx hb dL_law_1291 ?_
  refine lv_topi (fun x102 ex102 => ?_)
  have tx102 := i_add ex102 (by omega)
  have ejx102 : x102.toNatClampNeg = i.toNatClampNeg + 2 := by have h1 := i_cl (x := x102) (by omega); have h2 := i_cl (x := i) (by omega); omega
  refine va_sld hx hb hX hbl (Nat.not_le.mpr hbl) hS (vp_in_iff.mpr (by omega)) dL_law_1292 ?_
  refine W.eq (g2 := F0 m 1293 ls [.int (xs (i.toNatClampNeg + 2)), .int (xs (i.toNatClampNeg + 1)), .ref a]) (congrArg (fun z => F0 m 1293 ls [.int (xs z), .int (xs (i.toNatClampNeg + 1)), .ref a]) ejx102) ?_
  refine x_V (As := [.int (xs (i.toNatClampNeg + 1)), .int (xs (i.toNatClampNeg + 2))]) (rest := []) C (a_X9_note l K G H ((xs (i.toNatClampNeg + 1))) ((xs (i.toNatClampNeg + 2))) hT ga) yo_X9_note wM_L_133 ⟨⟨by decide, by decide⟩, show _ ≤ 284929 by omega, show _ ≤ 8247460 by omega⟩ (x_rv C hT (ci := 9) rfl ga rg_68) rfl hl.1 rfl (Nat.le_of_ble_eq_true rfl) dL_law_1293 hS (AE_new hN hS.1) (fun vH103 H103 locsH103 pH103 zH103 kH103 hSH103 => ?_)
  obtain ⟨x104, hvH103, hTH103⟩ := pH103
  subst hvH103
  have g105 : CG (avw K H103 b) := CG.congr (fun k hk j => av_eff hT kH103 gb (by decide) (CG_eff [0, 30, 31] (by decide) k hk)) cg
  have g106 : TU (avw K H103 b) (svw K H103 b) := TU.congr (fun k hk j => av_eff hT kH103 gb (by decide) (TU_eff [0, 30, 31] (by decide) k hk)) (fun k hk => sv_eff hT kH103 gb (by decide)) tu
  have g107 : WD (avw K H103 b) := WD.congr (fun k hk j => av_eff hT kH103 gb (by decide) (WD_eff [0, 30, 31] (by decide) k hk)) wd
  have g108 : IM (avw K H103 b) := IM.congr (fun k hk j => av_eff hT kH103 gb (by decide) (IM_eff [0, 30, 31] (by decide) k hk)) im
  have m109 := (eta).trans (fI_kept (x_lt hT kH103 ga (by decide))).symm
  have m110 := (etb).trans (fI_kept (x_lt hT kH103 gb (by decide))).symm
  refine W.eq (g2 := F0 m 1296 ls [.int x104]) rfl ?_
  refine lv_pop hx hb dL_law_1296 rfl ?_
  refine lv_aload_n hx hb dL_law_1297 rfl (lv_at hl 1 rfl) ?_
  refine lv_aload_n hx hb dL_law_1298 rfl (lv_at hl 3 rfl) ?_
  refine lv_iload_n hx hb dL_law_1299 rfl (lv_at hl 0 rfl) ?_
  refine lv_iconst (v := 1) hx hb dL_law_1300 (by decide) ?_
  refine lv_iadd hx hb dL_law_1301 ?_
  refine lv_topi (fun x111 ex111 => ?_)
  have tx111 := i_add ex111 (by omega)
  have ejx111 : x111.toNatClampNeg = i.toNatClampNeg + 1 := by have h1 := i_cl (x := x111) (by omega); have h2 := i_cl (x := i) (by omega); omega
  refine va_sld hx hb hX hbl (Nat.not_le.mpr hbl) hSH103 (vp_in_iff.mpr (by omega)) dL_law_1302 ?_
  refine W.eq (g2 := F0 m 1303 ls [.int (xs (i.toNatClampNeg + 1)), .ref b]) (congrArg (fun z => F0 m 1303 ls [.int (xs z), .ref b]) ejx111) ?_
  refine lv_aload_n hx hb dL_law_1303 rfl (lv_at hl 3 rfl) ?_
  refine lv_iload_n hx hb dL_law_1304 rfl (lv_at hl 0 rfl) ?_
  refine lv_iconst (v := 2) hx hb dL_law_1305 (by decide) ?_
  refine lv_iadd hx hb dL_law_1306 ?_
  refine lv_topi (fun x112 ex112 => ?_)
  have tx112 := i_add ex112 (by omega)
  have ejx112 : x112.toNatClampNeg = i.toNatClampNeg + 2 := by have h1 := i_cl (x := x112) (by omega); have h2 := i_cl (x := i) (by omega); omega
  refine va_sld hx hb hX hbl (Nat.not_le.mpr hbl) hSH103 (vp_in_iff.mpr (by omega)) dL_law_1307 ?_
  refine W.eq (g2 := F0 m 1308 ls [.int (xs (i.toNatClampNeg + 2)), .int (xs (i.toNatClampNeg + 1)), .ref b]) (congrArg (fun z => F0 m 1308 ls [.int (xs z), .int (xs (i.toNatClampNeg + 1)), .ref b]) ejx112) ?_
  refine x_V (As := [.int (xs (i.toNatClampNeg + 1)), .int (xs (i.toNatClampNeg + 2))]) (rest := []) C (a_X10_note l K G H103 ((xs (i.toNatClampNeg + 1))) ((xs (i.toNatClampNeg + 2))) hTH103 gb g105 g106 g107 g108) yo_X10_note wM_L_136 ⟨⟨by decide, by decide⟩, show _ ≤ 284929 by omega, show _ ≤ 8247460 by omega⟩ (x_rv C hTH103 (ci := 10) rfl gb rg_112) rfl hl.1 rfl (Nat.le_of_ble_eq_true rfl) dL_law_1308 hSH103 (AE_new hN hSH103.1) (fun vH113 H113 locsH113 pH113 zH113 kH113 hSH113 => ?_)
  obtain ⟨x114, hvH113, g115, g116, g117, g118, mf119, hTH113⟩ := pH113
  subst hvH113
  have m120 := (m109).trans (fI_kept (x_lt hTH103 kH113 ga (by decide))).symm
  have m121 := (m110).trans (MF.i mf119 (k := 18) (by decide) (by decide)).symm
  refine W.eq (g2 := F0 m 1311 ls [.int x114]) rfl ?_
  refine lv_pop hx hb dL_law_1311 rfl ?_
  refine lv_goto (tgt := 1509) hx hb dL_law_1312 (by decide) ?_
  exact nx G H113 locsH113 _ _ ls ⟨hTH113, hN, ga, gb, g115, g116, g117, g118, (by rw [← m120, ← m121]; omega), hSH113⟩ hl (by omega) (by omega)
set_option maxRecDepth 100000 in
set_option maxHeartbeats 1000000 in
theorem lw_c29 {p : Program} {l : Launch} {e : Env} {s : State} {m : MethodId} {below : List Frame} {meth : Method} {c : Code} {K : KE} {b0 L : Nat} {xs : Nat → Int32} {G : Nat → Option Nat} {H : Heap} {locs : List Loc} {a b : Nat} {cells slots : Nat} {ls : Array Slot} {i : Int32} {n : Nat} (D : LC p K s m meth c b0 L xs) (S : SX K s G H locs a b) (hl : lv_has ls 4 [(3, .int i), (2, .ref b), (1, .ref a), (0, .ref b0)]) (hi : 0 ≤ i.toInt ∧ i.toInt + 6 ≤ L) (hn : n ≤ 511) (hc : cells ≤ 10000 + 434 * n) (hs : slots ≤ 200000 + 13027 * n) (nx : ∀ (G : Nat → Option Nat) (H : Heap) (locs : List Loc) (cells slots : Nat) (ls : Array Slot), SX K s G H locs a b → lv_has ls 4 [(3, .int i), (2, .ref b), (1, .ref a), (0, .ref b0)] → cells ≤ 10000 + 434 * (n + 1) → slots ≤ 200000 + 13027 * (n + 1) → W p l e room_1 s m #[Value.ref b0] below meth c H locs cells slots (lw_Z below #[Value.ref b0] s) (F0 m 1509 ls [])) : W p l e room_1 s m #[Value.ref b0] below meth c H locs cells slots (lw_Z below #[Value.ref b0] s) (F0 m 1315 ls []) := by
  obtain ⟨C, hX, hbl, hL⟩ := id D
  obtain ⟨hx, hb, hml, hown, hts, hKT, hr, hlocks, hnm⟩ := id C
  obtain ⟨hT, hN, ga, gb, cg, tu, wd, im, rt, hS⟩ := S
  have n_1 : (1 : Int32).toInt = 1 := rfl
  have n_2 : (2 : Int32).toInt = 2 := rfl
  obtain ⟨ta, eta⟩ : ∃ z : Int32, z = fI H a (K.1.2 9 3) := ⟨_, rfl⟩
  obtain ⟨tb, etb⟩ : ∃ z : Int32, z = fI H b (K.1.2 10 18) := ⟨_, rfl⟩
  rw [← eta, ← etb] at rt
  refine lv_aload_n hx hb dL_law_1315 rfl (lv_at hl 2 rfl) ?_
  refine lv_aload_n hx hb dL_law_1316 rfl (lv_at hl 3 rfl) ?_
  refine lv_iload_n hx hb dL_law_1317 rfl (lv_at hl 0 rfl) ?_
  refine lv_iconst (v := 1) hx hb dL_law_1318 (by decide) ?_
  refine lv_iadd hx hb dL_law_1319 ?_
  refine lv_topi (fun x101 ex101 => ?_)
  have tx101 := i_add ex101 (by omega)
  have ejx101 : x101.toNatClampNeg = i.toNatClampNeg + 1 := by have h1 := i_cl (x := x101) (by omega); have h2 := i_cl (x := i) (by omega); omega
  refine va_sld hx hb hX hbl (Nat.not_le.mpr hbl) hS (vp_in_iff.mpr (by omega)) dL_law_1320 ?_
  refine W.eq (g2 := F0 m 1321 ls [.int (xs (i.toNatClampNeg + 1)), .ref a]) (congrArg (fun z => F0 m 1321 ls [.int (xs z), .ref a]) ejx101) ?_
  refine lv_aload_n hx hb dL_law_1321 rfl (lv_at hl 3 rfl) ?_
  refine lv_iload_n hx hb dL_law_1322 rfl (lv_at hl 0 rfl) ?_
  refine lv_iconst (v := 2) hx hb dL_law_1323 (by decide) ?_
  refine lv_iadd hx hb dL_law_1324 ?_
  refine lv_topi (fun x102 ex102 => ?_)
  have tx102 := i_add ex102 (by omega)
  have ejx102 : x102.toNatClampNeg = i.toNatClampNeg + 2 := by have h1 := i_cl (x := x102) (by omega); have h2 := i_cl (x := i) (by omega); omega
  refine va_sld hx hb hX hbl (Nat.not_le.mpr hbl) hS (vp_in_iff.mpr (by omega)) dL_law_1325 ?_
  refine W.eq (g2 := F0 m 1326 ls [.int (xs (i.toNatClampNeg + 2)), .int (xs (i.toNatClampNeg + 1)), .ref a]) (congrArg (fun z => F0 m 1326 ls [.int (xs z), .int (xs (i.toNatClampNeg + 1)), .ref a]) ejx102) ?_
  refine x_V (As := [.int (xs (i.toNatClampNeg + 1)), .int (xs (i.toNatClampNeg + 2))]) (rest := []) C (a_X9_blank l K G H ((xs (i.toNatClampNeg + 1))) ((xs (i.toNatClampNeg + 2))) hT ga) yo_X9_blank wM_L_137 ⟨⟨by decide, by decide⟩, show _ ≤ 284929 by omega, show _ ≤ 8247460 by omega⟩ (x_rv C hT (ci := 9) rfl ga rg_68) rfl hl.1 rfl (Nat.le_of_ble_eq_true rfl) dL_law_1326 hS (AE_new hN hS.1) (fun vH103 H103 locsH103 pH103 zH103 kH103 hSH103 => ?_)
  obtain ⟨x104, hvH103, hTH103⟩ := pH103
  subst hvH103
  have g105 : CG (avw K H103 b) := CG.congr (fun k hk j => av_eff hT kH103 gb (by decide) (CG_eff [0, 32, 33] (by decide) k hk)) cg
  have g106 : TU (avw K H103 b) (svw K H103 b) := TU.congr (fun k hk j => av_eff hT kH103 gb (by decide) (TU_eff [0, 32, 33] (by decide) k hk)) (fun k hk => sv_eff hT kH103 gb (by decide)) tu
  have g107 : WD (avw K H103 b) := WD.congr (fun k hk j => av_eff hT kH103 gb (by decide) (WD_eff [0, 32, 33] (by decide) k hk)) wd
  have g108 : IM (avw K H103 b) := IM.congr (fun k hk j => av_eff hT kH103 gb (by decide) (IM_eff [0, 32, 33] (by decide) k hk)) im
  have m109 := (eta).trans (fI_kept (x_lt hT kH103 ga (by decide))).symm
  have m110 := (etb).trans (fI_kept (x_lt hT kH103 gb (by decide))).symm
  refine W.eq (g2 := F0 m 1329 ls [.int x104]) rfl ?_
  refine lv_pop hx hb dL_law_1329 rfl ?_
  refine lv_aload_n hx hb dL_law_1330 rfl (lv_at hl 1 rfl) ?_
  refine lv_aload_n hx hb dL_law_1331 rfl (lv_at hl 3 rfl) ?_
  refine lv_iload_n hx hb dL_law_1332 rfl (lv_at hl 0 rfl) ?_
  refine lv_iconst (v := 1) hx hb dL_law_1333 (by decide) ?_
  refine lv_iadd hx hb dL_law_1334 ?_
  refine lv_topi (fun x111 ex111 => ?_)
  have tx111 := i_add ex111 (by omega)
  have ejx111 : x111.toNatClampNeg = i.toNatClampNeg + 1 := by have h1 := i_cl (x := x111) (by omega); have h2 := i_cl (x := i) (by omega); omega
  refine va_sld hx hb hX hbl (Nat.not_le.mpr hbl) hSH103 (vp_in_iff.mpr (by omega)) dL_law_1335 ?_
  refine W.eq (g2 := F0 m 1336 ls [.int (xs (i.toNatClampNeg + 1)), .ref b]) (congrArg (fun z => F0 m 1336 ls [.int (xs z), .ref b]) ejx111) ?_
  refine lv_aload_n hx hb dL_law_1336 rfl (lv_at hl 3 rfl) ?_
  refine lv_iload_n hx hb dL_law_1337 rfl (lv_at hl 0 rfl) ?_
  refine lv_iconst (v := 2) hx hb dL_law_1338 (by decide) ?_
  refine lv_iadd hx hb dL_law_1339 ?_
  refine lv_topi (fun x112 ex112 => ?_)
  have tx112 := i_add ex112 (by omega)
  have ejx112 : x112.toNatClampNeg = i.toNatClampNeg + 2 := by have h1 := i_cl (x := x112) (by omega); have h2 := i_cl (x := i) (by omega); omega
  refine va_sld hx hb hX hbl (Nat.not_le.mpr hbl) hSH103 (vp_in_iff.mpr (by omega)) dL_law_1340 ?_
  refine W.eq (g2 := F0 m 1341 ls [.int (xs (i.toNatClampNeg + 2)), .int (xs (i.toNatClampNeg + 1)), .ref b]) (congrArg (fun z => F0 m 1341 ls [.int (xs z), .int (xs (i.toNatClampNeg + 1)), .ref b]) ejx112) ?_
  refine x_V (As := [.int (xs (i.toNatClampNeg + 1)), .int (xs (i.toNatClampNeg + 2))]) (rest := []) C (a_X10_blank l K G H103 ((xs (i.toNatClampNeg + 1))) ((xs (i.toNatClampNeg + 2))) hTH103 gb g105 g106 g107 g108) yo_X10_blank wM_L_140 ⟨⟨by decide, by decide⟩, show _ ≤ 284929 by omega, show _ ≤ 8247460 by omega⟩ (x_rv C hTH103 (ci := 10) rfl gb rg_112) rfl hl.1 rfl (Nat.le_of_ble_eq_true rfl) dL_law_1341 hSH103 (AE_new hN hSH103.1) (fun vH113 H113 locsH113 pH113 zH113 kH113 hSH113 => ?_)
  obtain ⟨x114, hvH113, g115, g116, g117, g118, mf119, hTH113⟩ := pH113
  subst hvH113
  have m120 := (m109).trans (fI_kept (x_lt hTH103 kH113 ga (by decide))).symm
  have m121 := (m110).trans (MF.i mf119 (k := 18) (by decide) (by decide)).symm
  refine W.eq (g2 := F0 m 1344 ls [.int x114]) rfl ?_
  refine lv_pop hx hb dL_law_1344 rfl ?_
  refine lv_goto (tgt := 1509) hx hb dL_law_1345 (by decide) ?_
  exact nx G H113 locsH113 _ _ ls ⟨hTH113, hN, ga, gb, g115, g116, g117, g118, (by rw [← m120, ← m121]; omega), hSH113⟩ hl (by omega) (by omega)
set_option maxRecDepth 100000 in
set_option maxHeartbeats 1000000 in
theorem lw_c30 {p : Program} {l : Launch} {e : Env} {s : State} {m : MethodId} {below : List Frame} {meth : Method} {c : Code} {K : KE} {b0 L : Nat} {xs : Nat → Int32} {G : Nat → Option Nat} {H : Heap} {locs : List Loc} {a b : Nat} {cells slots : Nat} {ls : Array Slot} {i : Int32} {n : Nat} (D : LC p K s m meth c b0 L xs) (S : SX K s G H locs a b) (hl : lv_has ls 4 [(3, .int i), (2, .ref b), (1, .ref a), (0, .ref b0)]) (hi : 0 ≤ i.toInt ∧ i.toInt + 6 ≤ L) (hn : n ≤ 511) (hc : cells ≤ 10000 + 434 * n) (hs : slots ≤ 200000 + 13027 * n) (nx : ∀ (G : Nat → Option Nat) (H : Heap) (locs : List Loc) (cells slots : Nat) (ls : Array Slot), SX K s G H locs a b → lv_has ls 4 [(3, .int i), (2, .ref b), (1, .ref a), (0, .ref b0)] → cells ≤ 10000 + 434 * (n + 1) → slots ≤ 200000 + 13027 * (n + 1) → W p l e room_1 s m #[Value.ref b0] below meth c H locs cells slots (lw_Z below #[Value.ref b0] s) (F0 m 1509 ls [])) : W p l e room_1 s m #[Value.ref b0] below meth c H locs cells slots (lw_Z below #[Value.ref b0] s) (F0 m 1348 ls []) := by
  obtain ⟨C, hX, hbl, hL⟩ := id D
  obtain ⟨hx, hb, hml, hown, hts, hKT, hr, hlocks, hnm⟩ := id C
  obtain ⟨hT, hN, ga, gb, cg, tu, wd, im, rt, hS⟩ := S
  have n_1 : (1 : Int32).toInt = 1 := rfl
  have n_2 : (2 : Int32).toInt = 2 := rfl
  obtain ⟨ta, eta⟩ : ∃ z : Int32, z = fI H a (K.1.2 9 3) := ⟨_, rfl⟩
  obtain ⟨tb, etb⟩ : ∃ z : Int32, z = fI H b (K.1.2 10 18) := ⟨_, rfl⟩
  rw [← eta, ← etb] at rt
  refine lv_aload_n hx hb dL_law_1348 rfl (lv_at hl 2 rfl) ?_
  refine lv_aload_n hx hb dL_law_1349 rfl (lv_at hl 3 rfl) ?_
  refine lv_iload_n hx hb dL_law_1350 rfl (lv_at hl 0 rfl) ?_
  refine lv_iconst (v := 1) hx hb dL_law_1351 (by decide) ?_
  refine lv_iadd hx hb dL_law_1352 ?_
  refine lv_topi (fun x101 ex101 => ?_)
  have tx101 := i_add ex101 (by omega)
  have ejx101 : x101.toNatClampNeg = i.toNatClampNeg + 1 := by have h1 := i_cl (x := x101) (by omega); have h2 := i_cl (x := i) (by omega); omega
  refine va_sld hx hb hX hbl (Nat.not_le.mpr hbl) hS (vp_in_iff.mpr (by omega)) dL_law_1353 ?_
  refine W.eq (g2 := F0 m 1354 ls [.int (xs (i.toNatClampNeg + 1)), .ref a]) (congrArg (fun z => F0 m 1354 ls [.int (xs z), .ref a]) ejx101) ?_
  refine lv_aload_n hx hb dL_law_1354 rfl (lv_at hl 3 rfl) ?_
  refine lv_iload_n hx hb dL_law_1355 rfl (lv_at hl 0 rfl) ?_
  refine lv_iconst (v := 2) hx hb dL_law_1356 (by decide) ?_
  refine lv_iadd hx hb dL_law_1357 ?_
  refine lv_topi (fun x102 ex102 => ?_)
  have tx102 := i_add ex102 (by omega)
  have ejx102 : x102.toNatClampNeg = i.toNatClampNeg + 2 := by have h1 := i_cl (x := x102) (by omega); have h2 := i_cl (x := i) (by omega); omega
  refine va_sld hx hb hX hbl (Nat.not_le.mpr hbl) hS (vp_in_iff.mpr (by omega)) dL_law_1358 ?_
  refine W.eq (g2 := F0 m 1359 ls [.int (xs (i.toNatClampNeg + 2)), .int (xs (i.toNatClampNeg + 1)), .ref a]) (congrArg (fun z => F0 m 1359 ls [.int (xs z), .int (xs (i.toNatClampNeg + 1)), .ref a]) ejx102) ?_
  refine x_V (As := [.int (xs (i.toNatClampNeg + 1)), .int (xs (i.toNatClampNeg + 2))]) (rest := []) C (a_X9_set l K G H ((xs (i.toNatClampNeg + 1))) ((xs (i.toNatClampNeg + 2))) hT ga) yo_X9_set wM_L_141 ⟨⟨by decide, by decide⟩, show _ ≤ 284929 by omega, show _ ≤ 8247460 by omega⟩ (x_rv C hT (ci := 9) rfl ga rg_68) rfl hl.1 rfl (Nat.le_of_ble_eq_true rfl) dL_law_1359 hS (AE_new hN hS.1) (fun vH103 H103 locsH103 pH103 zH103 kH103 hSH103 => ?_)
  obtain ⟨x104, hvH103, hTH103⟩ := pH103
  subst hvH103
  have g105 : CG (avw K H103 b) := CG.congr (fun k hk j => av_eff hT kH103 gb (by decide) (CG_eff [104, 105, 106, 107] (by decide) k hk)) cg
  have g106 : TU (avw K H103 b) (svw K H103 b) := TU.congr (fun k hk j => av_eff hT kH103 gb (by decide) (TU_eff [104, 105, 106, 107] (by decide) k hk)) (fun k hk => sv_eff hT kH103 gb (by decide)) tu
  have g107 : WD (avw K H103 b) := WD.congr (fun k hk j => av_eff hT kH103 gb (by decide) (WD_eff [104, 105, 106, 107] (by decide) k hk)) wd
  have g108 : IM (avw K H103 b) := IM.congr (fun k hk j => av_eff hT kH103 gb (by decide) (IM_eff [104, 105, 106, 107] (by decide) k hk)) im
  have m109 := (eta).trans (fI_kept (x_lt hT kH103 ga (by decide))).symm
  have m110 := (etb).trans (fI_kept (x_lt hT kH103 gb (by decide))).symm
  refine W.eq (g2 := F0 m 1362 ls [.int x104]) rfl ?_
  refine lv_pop hx hb dL_law_1362 rfl ?_
  refine lv_aload_n hx hb dL_law_1363 rfl (lv_at hl 1 rfl) ?_
  refine lv_aload_n hx hb dL_law_1364 rfl (lv_at hl 3 rfl) ?_
  refine lv_iload_n hx hb dL_law_1365 rfl (lv_at hl 0 rfl) ?_
  refine lv_iconst (v := 1) hx hb dL_law_1366 (by decide) ?_
  refine lv_iadd hx hb dL_law_1367 ?_
  refine lv_topi (fun x111 ex111 => ?_)
  have tx111 := i_add ex111 (by omega)
  have ejx111 : x111.toNatClampNeg = i.toNatClampNeg + 1 := by have h1 := i_cl (x := x111) (by omega); have h2 := i_cl (x := i) (by omega); omega
  refine va_sld hx hb hX hbl (Nat.not_le.mpr hbl) hSH103 (vp_in_iff.mpr (by omega)) dL_law_1368 ?_
  refine W.eq (g2 := F0 m 1369 ls [.int (xs (i.toNatClampNeg + 1)), .ref b]) (congrArg (fun z => F0 m 1369 ls [.int (xs z), .ref b]) ejx111) ?_
  refine lv_aload_n hx hb dL_law_1369 rfl (lv_at hl 3 rfl) ?_
  refine lv_iload_n hx hb dL_law_1370 rfl (lv_at hl 0 rfl) ?_
  refine lv_iconst (v := 2) hx hb dL_law_1371 (by decide) ?_
  refine lv_iadd hx hb dL_law_1372 ?_
  refine lv_topi (fun x112 ex112 => ?_)
  have tx112 := i_add ex112 (by omega)
  have ejx112 : x112.toNatClampNeg = i.toNatClampNeg + 2 := by have h1 := i_cl (x := x112) (by omega); have h2 := i_cl (x := i) (by omega); omega
  refine va_sld hx hb hX hbl (Nat.not_le.mpr hbl) hSH103 (vp_in_iff.mpr (by omega)) dL_law_1373 ?_
  refine W.eq (g2 := F0 m 1374 ls [.int (xs (i.toNatClampNeg + 2)), .int (xs (i.toNatClampNeg + 1)), .ref b]) (congrArg (fun z => F0 m 1374 ls [.int (xs z), .int (xs (i.toNatClampNeg + 1)), .ref b]) ejx112) ?_
  refine x_V (As := [.int (xs (i.toNatClampNeg + 1)), .int (xs (i.toNatClampNeg + 2))]) (rest := []) C (a_X10_set l K G H103 ((xs (i.toNatClampNeg + 1))) ((xs (i.toNatClampNeg + 2))) hTH103 gb g105 g106 g107 g108) yo_X10_set wM_L_144 ⟨⟨by decide, by decide⟩, show _ ≤ 284929 by omega, show _ ≤ 8247460 by omega⟩ (x_rv C hTH103 (ci := 10) rfl gb rg_112) rfl hl.1 rfl (Nat.le_of_ble_eq_true rfl) dL_law_1374 hSH103 (AE_new hN hSH103.1) (fun vH113 H113 locsH113 pH113 zH113 kH113 hSH113 => ?_)
  obtain ⟨x114, hvH113, g115, g116, g117, g118, mf119, hTH113⟩ := pH113
  subst hvH113
  have m120 := (m109).trans (fI_kept (x_lt hTH103 kH113 ga (by decide))).symm
  have m121 := (m110).trans (MF.i mf119 (k := 18) (by decide) (by decide)).symm
  refine W.eq (g2 := F0 m 1377 ls [.int x114]) rfl ?_
  refine lv_pop hx hb dL_law_1377 rfl ?_
  refine lv_goto (tgt := 1509) hx hb dL_law_1378 (by decide) ?_
  exact nx G H113 locsH113 _ _ ls ⟨hTH113, hN, ga, gb, g115, g116, g117, g118, (by rw [← m120, ← m121]; omega), hSH113⟩ hl (by omega) (by omega)
set_option maxRecDepth 100000 in
set_option maxHeartbeats 1000000 in
theorem lw_c31 {p : Program} {l : Launch} {e : Env} {s : State} {m : MethodId} {below : List Frame} {meth : Method} {c : Code} {K : KE} {b0 L : Nat} {xs : Nat → Int32} {G : Nat → Option Nat} {H : Heap} {locs : List Loc} {a b : Nat} {cells slots : Nat} {ls : Array Slot} {i : Int32} {n : Nat} (D : LC p K s m meth c b0 L xs) (S : SX K s G H locs a b) (hl : lv_has ls 4 [(3, .int i), (2, .ref b), (1, .ref a), (0, .ref b0)]) (hi : 0 ≤ i.toInt ∧ i.toInt + 6 ≤ L) (hn : n ≤ 511) (hc : cells ≤ 10000 + 434 * n) (hs : slots ≤ 200000 + 13027 * n) (nx : ∀ (G : Nat → Option Nat) (H : Heap) (locs : List Loc) (cells slots : Nat) (ls : Array Slot), SX K s G H locs a b → lv_has ls 4 [(3, .int i), (2, .ref b), (1, .ref a), (0, .ref b0)] → cells ≤ 10000 + 434 * (n + 1) → slots ≤ 200000 + 13027 * (n + 1) → W p l e room_1 s m #[Value.ref b0] below meth c H locs cells slots (lw_Z below #[Value.ref b0] s) (F0 m 1509 ls [])) : W p l e room_1 s m #[Value.ref b0] below meth c H locs cells slots (lw_Z below #[Value.ref b0] s) (F0 m 1381 ls []) := by
  obtain ⟨C, hX, hbl, hL⟩ := id D
  obtain ⟨hx, hb, hml, hown, hts, hKT, hr, hlocks, hnm⟩ := id C
  obtain ⟨hT, hN, ga, gb, cg, tu, wd, im, rt, hS⟩ := S
  have n_1 : (1 : Int32).toInt = 1 := rfl
  obtain ⟨ta, eta⟩ : ∃ z : Int32, z = fI H a (K.1.2 9 3) := ⟨_, rfl⟩
  obtain ⟨tb, etb⟩ : ∃ z : Int32, z = fI H b (K.1.2 10 18) := ⟨_, rfl⟩
  rw [← eta, ← etb] at rt
  refine lv_aload_n hx hb dL_law_1381 rfl (lv_at hl 2 rfl) ?_
  refine lv_aload_n hx hb dL_law_1382 rfl (lv_at hl 3 rfl) ?_
  refine lv_iload_n hx hb dL_law_1383 rfl (lv_at hl 0 rfl) ?_
  refine lv_iconst (v := 1) hx hb dL_law_1384 (by decide) ?_
  refine lv_iadd hx hb dL_law_1385 ?_
  refine lv_topi (fun x101 ex101 => ?_)
  have tx101 := i_add ex101 (by omega)
  have ejx101 : x101.toNatClampNeg = i.toNatClampNeg + 1 := by have h1 := i_cl (x := x101) (by omega); have h2 := i_cl (x := i) (by omega); omega
  refine va_sld hx hb hX hbl (Nat.not_le.mpr hbl) hS (vp_in_iff.mpr (by omega)) dL_law_1386 ?_
  refine W.eq (g2 := F0 m 1387 ls [.int (xs (i.toNatClampNeg + 1)), .ref a]) (congrArg (fun z => F0 m 1387 ls [.int (xs z), .ref a]) ejx101) ?_
  refine x_V (As := [.int (xs (i.toNatClampNeg + 1))]) (rest := []) C (a_X9_down l K G H ((xs (i.toNatClampNeg + 1))) hT ga) yo_X9_down wM_L_145 ⟨⟨by decide, by decide⟩, show _ ≤ 284929 by omega, show _ ≤ 8247460 by omega⟩ (x_rv C hT (ci := 9) rfl ga rg_68) rfl hl.1 rfl (Nat.le_of_ble_eq_true rfl) dL_law_1387 hS (AE_new hN hS.1) (fun vH102 H102 locsH102 pH102 zH102 kH102 hSH102 => ?_)
  obtain ⟨x103, hvH102, hTH102⟩ := pH102
  subst hvH102
  have g104 : CG (avw K H102 b) := CG.congr (fun k hk j => av_eff hT kH102 gb (by decide) (CG_eff [83, 84] (by decide) k hk)) cg
  have g105 : TU (avw K H102 b) (svw K H102 b) := TU.congr (fun k hk j => av_eff hT kH102 gb (by decide) (TU_eff [83, 84] (by decide) k hk)) (fun k hk => sv_eff hT kH102 gb (by decide)) tu
  have g106 : WD (avw K H102 b) := WD.congr (fun k hk j => av_eff hT kH102 gb (by decide) (WD_eff [83, 84] (by decide) k hk)) wd
  have g107 : IM (avw K H102 b) := IM.congr (fun k hk j => av_eff hT kH102 gb (by decide) (IM_eff [83, 84] (by decide) k hk)) im
  have m108 := (eta).trans (fI_kept (x_lt hT kH102 ga (by decide))).symm
  have m109 := (etb).trans (fI_kept (x_lt hT kH102 gb (by decide))).symm
  refine W.eq (g2 := F0 m 1390 ls [.int x103]) rfl ?_
  refine lv_pop hx hb dL_law_1390 rfl ?_
  refine lv_aload_n hx hb dL_law_1391 rfl (lv_at hl 1 rfl) ?_
  refine lv_aload_n hx hb dL_law_1392 rfl (lv_at hl 3 rfl) ?_
  refine lv_iload_n hx hb dL_law_1393 rfl (lv_at hl 0 rfl) ?_
  refine lv_iconst (v := 1) hx hb dL_law_1394 (by decide) ?_
  refine lv_iadd hx hb dL_law_1395 ?_
  refine lv_topi (fun x110 ex110 => ?_)
  have tx110 := i_add ex110 (by omega)
  have ejx110 : x110.toNatClampNeg = i.toNatClampNeg + 1 := by have h1 := i_cl (x := x110) (by omega); have h2 := i_cl (x := i) (by omega); omega
  refine va_sld hx hb hX hbl (Nat.not_le.mpr hbl) hSH102 (vp_in_iff.mpr (by omega)) dL_law_1396 ?_
  refine W.eq (g2 := F0 m 1397 ls [.int (xs (i.toNatClampNeg + 1)), .ref b]) (congrArg (fun z => F0 m 1397 ls [.int (xs z), .ref b]) ejx110) ?_
  refine x_V (As := [.int (xs (i.toNatClampNeg + 1))]) (rest := []) C (a_X10_down l K G H102 ((xs (i.toNatClampNeg + 1))) hTH102 gb g104 g105 g106 g107) yo_X10_down wM_L_148 ⟨⟨by decide, by decide⟩, show _ ≤ 284929 by omega, show _ ≤ 8247460 by omega⟩ (x_rv C hTH102 (ci := 10) rfl gb rg_112) rfl hl.1 rfl (Nat.le_of_ble_eq_true rfl) dL_law_1397 hSH102 (AE_new hN hSH102.1) (fun vH111 H111 locsH111 pH111 zH111 kH111 hSH111 => ?_)
  obtain ⟨x112, hvH111, g113, g114, g115, g116, mf117, hTH111⟩ := pH111
  subst hvH111
  have m118 := (m108).trans (fI_kept (x_lt hTH102 kH111 ga (by decide))).symm
  have m119 := (m109).trans (MF.i mf117 (k := 18) (by decide) (by decide)).symm
  refine W.eq (g2 := F0 m 1400 ls [.int x112]) rfl ?_
  refine lv_pop hx hb dL_law_1400 rfl ?_
  refine lv_goto (tgt := 1509) hx hb dL_law_1401 (by decide) ?_
  exact nx G H111 locsH111 _ _ ls ⟨hTH111, hN, ga, gb, g113, g114, g115, g116, (by rw [← m118, ← m119]; omega), hSH111⟩ hl (by omega) (by omega)
set_option maxRecDepth 100000 in
set_option maxHeartbeats 1000000 in
theorem lw_c32 {p : Program} {l : Launch} {e : Env} {s : State} {m : MethodId} {below : List Frame} {meth : Method} {c : Code} {K : KE} {b0 L : Nat} {xs : Nat → Int32} {G : Nat → Option Nat} {H : Heap} {locs : List Loc} {a b : Nat} {cells slots : Nat} {ls : Array Slot} {i : Int32} {n : Nat} (D : LC p K s m meth c b0 L xs) (S : SX K s G H locs a b) (hl : lv_has ls 4 [(3, .int i), (2, .ref b), (1, .ref a), (0, .ref b0)]) (hi : 0 ≤ i.toInt ∧ i.toInt + 6 ≤ L) (hn : n ≤ 511) (hc : cells ≤ 10000 + 434 * n) (hs : slots ≤ 200000 + 13027 * n) (nx : ∀ (G : Nat → Option Nat) (H : Heap) (locs : List Loc) (cells slots : Nat) (ls : Array Slot), SX K s G H locs a b → lv_has ls 4 [(3, .int i), (2, .ref b), (1, .ref a), (0, .ref b0)] → cells ≤ 10000 + 434 * (n + 1) → slots ≤ 200000 + 13027 * (n + 1) → W p l e room_1 s m #[Value.ref b0] below meth c H locs cells slots (lw_Z below #[Value.ref b0] s) (F0 m 1509 ls [])) : W p l e room_1 s m #[Value.ref b0] below meth c H locs cells slots (lw_Z below #[Value.ref b0] s) (F0 m 1404 ls []) := by
  obtain ⟨C, hX, hbl, hL⟩ := id D
  obtain ⟨hx, hb, hml, hown, hts, hKT, hr, hlocks, hnm⟩ := id C
  obtain ⟨hT, hN, ga, gb, cg, tu, wd, im, rt, hS⟩ := S
  have n_1 : (1 : Int32).toInt = 1 := rfl
  have n_2 : (2 : Int32).toInt = 2 := rfl
  have n_3 : (3 : Int32).toInt = 3 := rfl
  obtain ⟨ta, eta⟩ : ∃ z : Int32, z = fI H a (K.1.2 9 3) := ⟨_, rfl⟩
  obtain ⟨tb, etb⟩ : ∃ z : Int32, z = fI H b (K.1.2 10 18) := ⟨_, rfl⟩
  rw [← eta, ← etb] at rt
  refine lv_aload_n hx hb dL_law_1404 rfl (lv_at hl 2 rfl) ?_
  refine lv_aload_n hx hb dL_law_1405 rfl (lv_at hl 3 rfl) ?_
  refine lv_iload_n hx hb dL_law_1406 rfl (lv_at hl 0 rfl) ?_
  refine lv_iconst (v := 1) hx hb dL_law_1407 (by decide) ?_
  refine lv_iadd hx hb dL_law_1408 ?_
  refine lv_topi (fun x101 ex101 => ?_)
  have tx101 := i_add ex101 (by omega)
  have ejx101 : x101.toNatClampNeg = i.toNatClampNeg + 1 := by have h1 := i_cl (x := x101) (by omega); have h2 := i_cl (x := i) (by omega); omega
  refine va_sld hx hb hX hbl (Nat.not_le.mpr hbl) hS (vp_in_iff.mpr (by omega)) dL_law_1409 ?_
  refine W.eq (g2 := F0 m 1410 ls [.int (xs (i.toNatClampNeg + 1)), .ref a]) (congrArg (fun z => F0 m 1410 ls [.int (xs z), .ref a]) ejx101) ?_
  refine lv_aload_n hx hb dL_law_1410 rfl (lv_at hl 3 rfl) ?_
  refine lv_iload_n hx hb dL_law_1411 rfl (lv_at hl 0 rfl) ?_
  refine lv_iconst (v := 2) hx hb dL_law_1412 (by decide) ?_
  refine lv_iadd hx hb dL_law_1413 ?_
  refine lv_topi (fun x102 ex102 => ?_)
  have tx102 := i_add ex102 (by omega)
  have ejx102 : x102.toNatClampNeg = i.toNatClampNeg + 2 := by have h1 := i_cl (x := x102) (by omega); have h2 := i_cl (x := i) (by omega); omega
  refine va_sld hx hb hX hbl (Nat.not_le.mpr hbl) hS (vp_in_iff.mpr (by omega)) dL_law_1414 ?_
  refine W.eq (g2 := F0 m 1415 ls [.int (xs (i.toNatClampNeg + 2)), .int (xs (i.toNatClampNeg + 1)), .ref a]) (congrArg (fun z => F0 m 1415 ls [.int (xs z), .int (xs (i.toNatClampNeg + 1)), .ref a]) ejx102) ?_
  refine lv_aload_n hx hb dL_law_1415 rfl (lv_at hl 3 rfl) ?_
  refine lv_iload_n hx hb dL_law_1416 rfl (lv_at hl 0 rfl) ?_
  refine lv_iconst (v := 3) hx hb dL_law_1417 (by decide) ?_
  refine lv_iadd hx hb dL_law_1418 ?_
  refine lv_topi (fun x103 ex103 => ?_)
  have tx103 := i_add ex103 (by omega)
  have ejx103 : x103.toNatClampNeg = i.toNatClampNeg + 3 := by have h1 := i_cl (x := x103) (by omega); have h2 := i_cl (x := i) (by omega); omega
  refine va_sld hx hb hX hbl (Nat.not_le.mpr hbl) hS (vp_in_iff.mpr (by omega)) dL_law_1419 ?_
  refine W.eq (g2 := F0 m 1420 ls [.int (xs (i.toNatClampNeg + 3)), .int (xs (i.toNatClampNeg + 2)), .int (xs (i.toNatClampNeg + 1)), .ref a]) (congrArg (fun z => F0 m 1420 ls [.int (xs z), .int (xs (i.toNatClampNeg + 2)), .int (xs (i.toNatClampNeg + 1)), .ref a]) ejx103) ?_
  refine x_V (As := [.int (xs (i.toNatClampNeg + 1)), .int (xs (i.toNatClampNeg + 2)), .int (xs (i.toNatClampNeg + 3))]) (rest := []) C (a_X9_enough l K G H ((xs (i.toNatClampNeg + 1))) ((xs (i.toNatClampNeg + 2))) ((xs (i.toNatClampNeg + 3))) hT ga) yo_X9_enough wM_L_149 ⟨⟨by decide, by decide⟩, show _ ≤ 284929 by omega, show _ ≤ 8247460 by omega⟩ (x_rv C hT (ci := 9) rfl ga rg_68) rfl hl.1 rfl (Nat.le_of_ble_eq_true rfl) dL_law_1420 hS (AE_new hN hS.1) (fun vH104 H104 locsH104 pH104 zH104 kH104 hSH104 => ?_)
  obtain ⟨x105, hvH104, hTH104⟩ := pH104
  subst hvH104
  have g106 : CG (avw K H104 b) := CG.congr (fun k hk j => av_eff hT kH104 gb (by decide) (CG_eff [83, 84] (by decide) k hk)) cg
  have g107 : TU (avw K H104 b) (svw K H104 b) := TU.congr (fun k hk j => av_eff hT kH104 gb (by decide) (TU_eff [83, 84] (by decide) k hk)) (fun k hk => sv_eff hT kH104 gb (by decide)) tu
  have g108 : WD (avw K H104 b) := WD.congr (fun k hk j => av_eff hT kH104 gb (by decide) (WD_eff [83, 84] (by decide) k hk)) wd
  have g109 : IM (avw K H104 b) := IM.congr (fun k hk j => av_eff hT kH104 gb (by decide) (IM_eff [83, 84] (by decide) k hk)) im
  have m110 := (eta).trans (fI_kept (x_lt hT kH104 ga (by decide))).symm
  have m111 := (etb).trans (fI_kept (x_lt hT kH104 gb (by decide))).symm
  refine W.eq (g2 := F0 m 1423 ls [.int x105]) rfl ?_
  refine lv_pop hx hb dL_law_1423 rfl ?_
  refine lv_aload_n hx hb dL_law_1424 rfl (lv_at hl 1 rfl) ?_
  refine lv_aload_n hx hb dL_law_1425 rfl (lv_at hl 3 rfl) ?_
  refine lv_iload_n hx hb dL_law_1426 rfl (lv_at hl 0 rfl) ?_
  refine lv_iconst (v := 1) hx hb dL_law_1427 (by decide) ?_
  refine lv_iadd hx hb dL_law_1428 ?_
  refine lv_topi (fun x112 ex112 => ?_)
  have tx112 := i_add ex112 (by omega)
  have ejx112 : x112.toNatClampNeg = i.toNatClampNeg + 1 := by have h1 := i_cl (x := x112) (by omega); have h2 := i_cl (x := i) (by omega); omega
  refine va_sld hx hb hX hbl (Nat.not_le.mpr hbl) hSH104 (vp_in_iff.mpr (by omega)) dL_law_1429 ?_
  refine W.eq (g2 := F0 m 1430 ls [.int (xs (i.toNatClampNeg + 1)), .ref b]) (congrArg (fun z => F0 m 1430 ls [.int (xs z), .ref b]) ejx112) ?_
  refine lv_aload_n hx hb dL_law_1430 rfl (lv_at hl 3 rfl) ?_
  refine lv_iload_n hx hb dL_law_1431 rfl (lv_at hl 0 rfl) ?_
  refine lv_iconst (v := 2) hx hb dL_law_1432 (by decide) ?_
  refine lv_iadd hx hb dL_law_1433 ?_
  refine lv_topi (fun x113 ex113 => ?_)
  have tx113 := i_add ex113 (by omega)
  have ejx113 : x113.toNatClampNeg = i.toNatClampNeg + 2 := by have h1 := i_cl (x := x113) (by omega); have h2 := i_cl (x := i) (by omega); omega
  refine va_sld hx hb hX hbl (Nat.not_le.mpr hbl) hSH104 (vp_in_iff.mpr (by omega)) dL_law_1434 ?_
  refine W.eq (g2 := F0 m 1435 ls [.int (xs (i.toNatClampNeg + 2)), .int (xs (i.toNatClampNeg + 1)), .ref b]) (congrArg (fun z => F0 m 1435 ls [.int (xs z), .int (xs (i.toNatClampNeg + 1)), .ref b]) ejx113) ?_
  refine lv_aload_n hx hb dL_law_1435 rfl (lv_at hl 3 rfl) ?_
  refine lv_iload_n hx hb dL_law_1436 rfl (lv_at hl 0 rfl) ?_
  refine lv_iconst (v := 3) hx hb dL_law_1437 (by decide) ?_
  refine lv_iadd hx hb dL_law_1438 ?_
  refine lv_topi (fun x114 ex114 => ?_)
  have tx114 := i_add ex114 (by omega)
  have ejx114 : x114.toNatClampNeg = i.toNatClampNeg + 3 := by have h1 := i_cl (x := x114) (by omega); have h2 := i_cl (x := i) (by omega); omega
  refine va_sld hx hb hX hbl (Nat.not_le.mpr hbl) hSH104 (vp_in_iff.mpr (by omega)) dL_law_1439 ?_
  refine W.eq (g2 := F0 m 1440 ls [.int (xs (i.toNatClampNeg + 3)), .int (xs (i.toNatClampNeg + 2)), .int (xs (i.toNatClampNeg + 1)), .ref b]) (congrArg (fun z => F0 m 1440 ls [.int (xs z), .int (xs (i.toNatClampNeg + 2)), .int (xs (i.toNatClampNeg + 1)), .ref b]) ejx114) ?_
  refine x_V (As := [.int (xs (i.toNatClampNeg + 1)), .int (xs (i.toNatClampNeg + 2)), .int (xs (i.toNatClampNeg + 3))]) (rest := []) C (a_X10_enough l K G H104 ((xs (i.toNatClampNeg + 1))) ((xs (i.toNatClampNeg + 2))) ((xs (i.toNatClampNeg + 3))) hTH104 gb g106 g107 g108 g109) yo_X10_enough wM_L_152 ⟨⟨by decide, by decide⟩, show _ ≤ 284929 by omega, show _ ≤ 8247460 by omega⟩ (x_rv C hTH104 (ci := 10) rfl gb rg_112) rfl hl.1 rfl (Nat.le_of_ble_eq_true rfl) dL_law_1440 hSH104 (AE_new hN hSH104.1) (fun vH115 H115 locsH115 pH115 zH115 kH115 hSH115 => ?_)
  obtain ⟨x116, hvH115, g117, g118, g119, g120, mf121, hTH115⟩ := pH115
  subst hvH115
  have m122 := (m110).trans (fI_kept (x_lt hTH104 kH115 ga (by decide))).symm
  have m123 := (m111).trans (MF.i mf121 (k := 18) (by decide) (by decide)).symm
  refine W.eq (g2 := F0 m 1443 ls [.int x116]) rfl ?_
  refine lv_pop hx hb dL_law_1443 rfl ?_
  refine lv_goto (tgt := 1509) hx hb dL_law_1444 (by decide) ?_
  exact nx G H115 locsH115 _ _ ls ⟨hTH115, hN, ga, gb, g117, g118, g119, g120, (by rw [← m122, ← m123]; omega), hSH115⟩ hl (by omega) (by omega)
set_option maxRecDepth 100000 in
set_option maxHeartbeats 1000000 in
theorem lw_c33 {p : Program} {l : Launch} {e : Env} {s : State} {m : MethodId} {below : List Frame} {meth : Method} {c : Code} {K : KE} {b0 L : Nat} {xs : Nat → Int32} {G : Nat → Option Nat} {H : Heap} {locs : List Loc} {a b : Nat} {cells slots : Nat} {ls : Array Slot} {i : Int32} {n : Nat} (D : LC p K s m meth c b0 L xs) (S : SX K s G H locs a b) (hl : lv_has ls 4 [(3, .int i), (2, .ref b), (1, .ref a), (0, .ref b0)]) (hi : 0 ≤ i.toInt ∧ i.toInt + 6 ≤ L) (hn : n ≤ 511) (hc : cells ≤ 10000 + 434 * n) (hs : slots ≤ 200000 + 13027 * n) (nx : ∀ (G : Nat → Option Nat) (H : Heap) (locs : List Loc) (cells slots : Nat) (ls : Array Slot), SX K s G H locs a b → lv_has ls 4 [(3, .int i), (2, .ref b), (1, .ref a), (0, .ref b0)] → cells ≤ 10000 + 434 * (n + 1) → slots ≤ 200000 + 13027 * (n + 1) → W p l e room_1 s m #[Value.ref b0] below meth c H locs cells slots (lw_Z below #[Value.ref b0] s) (F0 m 1509 ls [])) : W p l e room_1 s m #[Value.ref b0] below meth c H locs cells slots (lw_Z below #[Value.ref b0] s) (F0 m 1447 ls []) := by
  obtain ⟨C, hX, hbl, hL⟩ := id D
  obtain ⟨hx, hb, hml, hown, hts, hKT, hr, hlocks, hnm⟩ := id C
  obtain ⟨hT, hN, ga, gb, cg, tu, wd, im, rt, hS⟩ := S
  have n_0 : (0 : Int32).toInt = 0 := rfl
  have n_1 : (1 : Int32).toInt = 1 := rfl
  obtain ⟨ta, eta⟩ : ∃ z : Int32, z = fI H a (K.1.2 9 3) := ⟨_, rfl⟩
  obtain ⟨tb, etb⟩ : ∃ z : Int32, z = fI H b (K.1.2 10 18) := ⟨_, rfl⟩
  rw [← eta, ← etb] at rt
  refine lv_aload_n hx hb dL_law_1447 rfl (lv_at hl 2 rfl) ?_
  refine lv_aload_n hx hb dL_law_1448 rfl (lv_at hl 3 rfl) ?_
  refine lv_iload_n hx hb dL_law_1449 rfl (lv_at hl 0 rfl) ?_
  refine lv_iconst (v := 1) hx hb dL_law_1450 (by decide) ?_
  refine lv_iadd hx hb dL_law_1451 ?_
  refine lv_topi (fun x101 ex101 => ?_)
  have tx101 := i_add ex101 (by omega)
  have ejx101 : x101.toNatClampNeg = i.toNatClampNeg + 1 := by have h1 := i_cl (x := x101) (by omega); have h2 := i_cl (x := i) (by omega); omega
  refine va_sld hx hb hX hbl (Nat.not_le.mpr hbl) hS (vp_in_iff.mpr (by omega)) dL_law_1452 ?_
  refine W.eq (g2 := F0 m 1453 ls [.int (xs (i.toNatClampNeg + 1)), .ref a]) (congrArg (fun z => F0 m 1453 ls [.int (xs z), .ref a]) ejx101) ?_
  refine lv_if_eq (tgt := 1460) hx hb dL_law_1453 (by decide) (fun c1453 => ?_) (fun c1453 => ?_)
  · skip
    refine lv_iconst (v := 0) hx hb dL_law_1460 (by decide) ?_
    refine x_V (As := [.int 0]) (rest := []) C (a_X9_image_t0 l K G H ta hT ga eta) yo_X9_image wM_L_153 ⟨⟨by decide, by decide⟩, show _ ≤ 284929 by omega, show _ ≤ 8247460 by omega⟩ (x_rv C hT (ci := 9) rfl ga rg_68) rfl hl.1 rfl (Nat.le_of_ble_eq_true rfl) dL_law_1461 hS (AE_new hN hS.1) (fun vH102 H102 locsH102 pH102 zH102 kH102 hSH102 => ?_)
    obtain ⟨x103, hvH102, bx103, G105, mH102, m104, hTH102⟩ := pH102
    subst hvH102
    have g106 : CG (avw K H102 b) := CG.congr (fun k hk j => av_eff hT kH102 gb (by decide) (CG_eff [68, 34, 35, 36, 37, 38, 39, 40, 41, 42, 43, 44, 46, 48, 49, 50, 51, 52, 53, 54, 55, 56, 57, 58, 62, 63, 64, 65, 66, 67, 0, 1, 2, 3, 4, 5, 6, 7, 8, 9, 10, 12, 14, 15, 16, 17, 18, 19, 20, 21, 22, 23, 24, 28, 29, 30, 31, 32, 33] (by decide) k hk)) cg
    have g107 : TU (avw K H102 b) (svw K H102 b) := TU.congr (fun k hk j => av_eff hT kH102 gb (by decide) (TU_eff [68, 34, 35, 36, 37, 38, 39, 40, 41, 42, 43, 44, 46, 48, 49, 50, 51, 52, 53, 54, 55, 56, 57, 58, 62, 63, 64, 65, 66, 67, 0, 1, 2, 3, 4, 5, 6, 7, 8, 9, 10, 12, 14, 15, 16, 17, 18, 19, 20, 21, 22, 23, 24, 28, 29, 30, 31, 32, 33] (by decide) k hk)) (fun k hk => sv_eff hT kH102 gb (by decide)) tu
    have g108 : WD (avw K H102 b) := WD.congr (fun k hk j => av_eff hT kH102 gb (by decide) (WD_eff [68, 34, 35, 36, 37, 38, 39, 40, 41, 42, 43, 44, 46, 48, 49, 50, 51, 52, 53, 54, 55, 56, 57, 58, 62, 63, 64, 65, 66, 67, 0, 1, 2, 3, 4, 5, 6, 7, 8, 9, 10, 12, 14, 15, 16, 17, 18, 19, 20, 21, 22, 23, 24, 28, 29, 30, 31, 32, 33] (by decide) k hk)) wd
    have g109 : IM (avw K H102 b) := IM.congr (fun k hk j => av_eff hT kH102 gb (by decide) (IM_eff [68, 34, 35, 36, 37, 38, 39, 40, 41, 42, 43, 44, 46, 48, 49, 50, 51, 52, 53, 54, 55, 56, 57, 58, 62, 63, 64, 65, 66, 67, 0, 1, 2, 3, 4, 5, 6, 7, 8, 9, 10, 12, 14, 15, 16, 17, 18, 19, 20, 21, 22, 23, 24, 28, 29, 30, 31, 32, 33] (by decide) k hk)) im
    have m110 := (etb).trans (fI_kept (x_lt hT kH102 gb (by decide))).symm
    have gaH102 := (mH102 a (hT.lt ga)).trans ga
    have gbH102 := (mH102 b (hT.lt gb)).trans gb
    have hNH102 : ∀ q, q < s.heap.size → G105 q = none := fun q hq => (mH102 q (Nat.lt_of_lt_of_le hq hS.1)).trans (hN q hq)
    refine W.eq (g2 := F0 m 1464 ls [.int x103]) rfl ?_
    refine lv_pop hx hb dL_law_1464 rfl ?_
    refine lv_aload_n hx hb dL_law_1465 rfl (lv_at hl 1 rfl) ?_
    refine lv_aload_n hx hb dL_law_1466 rfl (lv_at hl 3 rfl) ?_
    refine lv_iload_n hx hb dL_law_1467 rfl (lv_at hl 0 rfl) ?_
    refine lv_iconst (v := 1) hx hb dL_law_1468 (by decide) ?_
    refine lv_iadd hx hb dL_law_1469 ?_
    refine lv_topi (fun x111 ex111 => ?_)
    have tx111 := i_add ex111 (by omega)
    have ejx111 : x111.toNatClampNeg = i.toNatClampNeg + 1 := by have h1 := i_cl (x := x111) (by omega); have h2 := i_cl (x := i) (by omega); omega
    refine va_sld hx hb hX hbl (Nat.not_le.mpr hbl) hSH102 (vp_in_iff.mpr (by omega)) dL_law_1470 ?_
    refine W.eq (g2 := F0 m 1471 ls [.int (xs (i.toNatClampNeg + 1)), .ref b]) (congrArg (fun z => F0 m 1471 ls [.int (xs z), .ref b]) ejx111) ?_
    refine lv_if_eq (tgt := 1478) hx hb dL_law_1471 (by decide) (fun c1471 => ?_) (fun c1471 => ?_)
    · skip
      refine lv_iconst (v := 0) hx hb dL_law_1478 (by decide) ?_
      obtain ⟨q112, eq112⟩ : ∃ z : Nat, z = fR H102 b (K.1.2 10 73) := ⟨_, rfl⟩
      have gq112 := ty_fr (q := q112) (k := 73) (u := 162) eq112 hTH102 gbH102 rg_112 rfl
      obtain ⟨q113, eq113⟩ : ∃ z : Nat, z = fR H102 b (K.1.2 10 4) := ⟨_, rfl⟩
      have gq113 := ty_fr (q := q113) (k := 4) (u := 113) eq113 hTH102 gbH102 rg_112 rfl
      obtain ⟨q114, eq114⟩ : ∃ z : Nat, z = fR H102 b (K.1.2 10 10) := ⟨_, rfl⟩
      have gq114 := ty_fr (q := q114) (k := 10) (u := 119) eq114 hTH102 gbH102 rg_112 rfl
      obtain ⟨q115, eq115⟩ : ∃ z : Nat, z = fR H102 b (K.1.2 10 16) := ⟨_, rfl⟩
      have gq115 := ty_fr (q := q115) (k := 16) (u := 125) eq115 hTH102 gbH102 rg_112 rfl
      obtain ⟨q116, eq116⟩ : ∃ z : Nat, z = fR H102 b (K.1.2 10 24) := ⟨_, rfl⟩
      have gq116 := ty_fr (q := q116) (k := 24) (u := 128) eq116 hTH102 gbH102 rg_112 rfl
      obtain ⟨q117, eq117⟩ : ∃ z : Nat, z = fR H102 b (K.1.2 10 27) := ⟨_, rfl⟩
      have gq117 := ty_fr (q := q117) (k := 27) (u := 131) eq117 hTH102 gbH102 rg_112 rfl
      obtain ⟨q118, eq118⟩ : ∃ z : Nat, z = fR H102 b (K.1.2 10 29) := ⟨_, rfl⟩
      have gq118 := ty_fr (q := q118) (k := 29) (u := 133) eq118 hTH102 gbH102 rg_112 rfl
      obtain ⟨q119, eq119⟩ : ∃ z : Nat, z = fR H102 b (K.1.2 10 30) := ⟨_, rfl⟩
      have gq119 := ty_fr (q := q119) (k := 30) (u := 134) eq119 hTH102 gbH102 rg_112 rfl
      obtain ⟨q120, eq120⟩ : ∃ z : Nat, z = fR H102 b (K.1.2 10 31) := ⟨_, rfl⟩
      have gq120 := ty_fr (q := q120) (k := 31) (u := 135) eq120 hTH102 gbH102 rg_112 rfl
      obtain ⟨q121, eq121⟩ : ∃ z : Nat, z = fR H102 b (K.1.2 10 32) := ⟨_, rfl⟩
      have gq121 := ty_fr (q := q121) (k := 32) (u := 136) eq121 hTH102 gbH102 rg_112 rfl
      obtain ⟨q122, eq122⟩ : ∃ z : Nat, z = fR H102 b (K.1.2 10 33) := ⟨_, rfl⟩
      have gq122 := ty_fr (q := q122) (k := 33) (u := 137) eq122 hTH102 gbH102 rg_112 rfl
      obtain ⟨q123, eq123⟩ : ∃ z : Nat, z = fR H102 b (K.1.2 10 50) := ⟨_, rfl⟩
      have gq123 := ty_fr (q := q123) (k := 50) (u := 146) eq123 hTH102 gbH102 rg_112 rfl
      obtain ⟨x124, ex124⟩ : ∃ z : Int32, z = fI H102 b (K.1.2 10 70) := ⟨_, rfl⟩
      have bx124 := ty_fi (x := x124) (k := 70) ex124 hTH102 gbH102 rg_112 rfl
      obtain ⟨x125, ex125⟩ : ∃ z : Int32, z = fI H102 b (K.1.2 10 1) := ⟨_, rfl⟩
      have bx125 := ty_fi (x := x125) (k := 1) ex125 hTH102 gbH102 rg_112 rfl
      obtain ⟨x126, ex126⟩ : ∃ z : Int32, z = fI H102 b (K.1.2 10 2) := ⟨_, rfl⟩
      have bx126 := ty_fi (x := x126) (k := 2) ex126 hTH102 gbH102 rg_112 rfl
      obtain ⟨x127, ex127⟩ : ∃ z : Int32, z = fI H102 b (K.1.2 10 3) := ⟨_, rfl⟩
      have bx127 := ty_fi (x := x127) (k := 3) ex127 hTH102 gbH102 rg_112 rfl
      obtain ⟨x128, ex128⟩ : ∃ z : Int32, z = fI H102 b (K.1.2 10 59) := ⟨_, rfl⟩
      have bx128 := ty_fi (x := x128) (k := 59) ex128 hTH102 gbH102 rg_112 rfl
      obtain ⟨x129, ex129⟩ : ∃ z : Int32, z = fI H102 b (K.1.2 10 62) := ⟨_, rfl⟩
      have bx129 := ty_fi (x := x129) (k := 62) ex129 hTH102 gbH102 rg_112 rfl
      obtain ⟨x130, ex130⟩ : ∃ z : Int32, z = fI H102 b (K.1.2 10 65) := ⟨_, rfl⟩
      have bx130 := ty_fi (x := x130) (k := 65) ex130 hTH102 gbH102 rg_112 rfl
      refine x_V (As := [.int 0]) (rest := []) C (a_X10_image l K G105 H102 (0) (x124) (x125) (x126) (x127) (x128) (x129) (x130) hTH102 gbH102 (by decide) gq112 eq112 gq113 eq113 gq114 eq114 gq115 eq115 gq116 eq116 gq117 eq117 gq118 eq118 gq119 eq119 gq120 eq120 gq121 eq121 gq122 eq122 gq123 eq123 ex124 ex125 ex126 ex127 ex128 ex129 ex130 g106 g107 g108 g109) yo_X10_image wM_L_157 ⟨⟨by decide, by decide⟩, show _ ≤ 284929 by omega, show _ ≤ 8247460 by omega⟩ (x_rv C hTH102 (ci := 10) rfl gbH102 rg_112) rfl hl.1 rfl (Nat.le_of_ble_eq_true rfl) dL_law_1479 hSH102 (AE_new hNH102 hSH102.1) (fun vH131 H131 locsH131 pH131 zH131 kH131 hSH131 => ?_)
      obtain ⟨x132, x133, x134, x135, x136, x137, x138, x139, hvH131, bx132, ex133, ex134, ex135, ex136, ex137, ex138, ex139, hrH131, m140, m141, m142, m143, m144, m145, m146, m147, m148, m149, m150, m151, g152, g153, g154, g155, mf156, m157, m158, m159, hTH131⟩ := pH131
      subst hvH131
      have m160 := (m104).trans (fI_kept (x_lt hTH102 kH131 gaH102 (by decide))).symm
      have m161 := (m110).trans (MF.i mf156 (k := 18) (by decide) (by decide)).symm
      have m162 := (eq112).trans (MF.r mf156 (k := 73) (by decide) (by decide)).symm
      have m163 := (eq113).trans (MF.r mf156 (k := 4) (by decide) (by decide)).symm
      have m164 := (eq114).trans (MF.r mf156 (k := 10) (by decide) (by decide)).symm
      have m165 := (eq115).trans (MF.r mf156 (k := 16) (by decide) (by decide)).symm
      have m166 := (eq116).trans (MF.r mf156 (k := 24) (by decide) (by decide)).symm
      have m167 := (eq117).trans (MF.r mf156 (k := 27) (by decide) (by decide)).symm
      have m168 := (eq118).trans (MF.r mf156 (k := 29) (by decide) (by decide)).symm
      have m169 := (eq119).trans (MF.r mf156 (k := 30) (by decide) (by decide)).symm
      have m170 := (eq120).trans (MF.r mf156 (k := 31) (by decide) (by decide)).symm
      have m171 := (eq121).trans (MF.r mf156 (k := 32) (by decide) (by decide)).symm
      have m172 := (eq122).trans (MF.r mf156 (k := 33) (by decide) (by decide)).symm
      have m173 := (eq123).trans (MF.r mf156 (k := 50) (by decide) (by decide)).symm
      have bx133 := ty_fi (x := x133) (k := 70) ex133 hTH131 gbH102 rg_112 rfl
      have bx134 := ty_fi (x := x134) (k := 1) ex134 hTH131 gbH102 rg_112 rfl
      have bx135 := ty_fi (x := x135) (k := 2) ex135 hTH131 gbH102 rg_112 rfl
      have bx136 := ty_fi (x := x136) (k := 3) ex136 hTH131 gbH102 rg_112 rfl
      have bx137 := ty_fi (x := x137) (k := 59) ex137 hTH131 gbH102 rg_112 rfl
      have bx138 := ty_fi (x := x138) (k := 62) ex138 hTH131 gbH102 rg_112 rfl
      have bx139 := ty_fi (x := x139) (k := 65) ex139 hTH131 gbH102 rg_112 rfl
      refine W.eq (g2 := F0 m 1482 ls [.int x132]) rfl ?_
      refine lv_pop hx hb dL_law_1482 rfl ?_
      refine lv_goto (tgt := 1509) hx hb dL_law_1483 (by decide) ?_
      exact nx G105 H131 locsH131 _ _ ls ⟨hTH131, hNH102, gaH102, gbH102, g152, g153, g154, g155, (by rw [← m160, ← m161]; omega), hSH131⟩ hl (by omega) (by omega)
    · skip
      exact absurd c1453 c1471
  · skip
    refine lv_iconst (v := 1) hx hb dL_law_1456 (by decide) ?_
    refine lv_goto (tgt := 1461) hx hb dL_law_1457 (by decide) ?_
    refine x_V (As := [.int 1]) (rest := []) C (a_X9_image_t1 l K G H ta hT ga eta) yo_X9_image wM_L_153 ⟨⟨by decide, by decide⟩, show _ ≤ 284929 by omega, show _ ≤ 8247460 by omega⟩ (x_rv C hT (ci := 9) rfl ga rg_68) rfl hl.1 rfl (Nat.le_of_ble_eq_true rfl) dL_law_1461 hS (AE_new hN hS.1) (fun vH174 H174 locsH174 pH174 zH174 kH174 hSH174 => ?_)
    obtain ⟨x175, hvH174, bx175, G177, mH174, m176, hTH174⟩ := pH174
    subst hvH174
    have g178 : CG (avw K H174 b) := CG.congr (fun k hk j => av_eff hT kH174 gb (by decide) (CG_eff [68, 34, 35, 36, 37, 38, 39, 40, 41, 42, 43, 44, 46, 48, 49, 50, 51, 52, 53, 54, 55, 56, 57, 58, 62, 63, 64, 65, 66, 67, 0, 1, 2, 3, 4, 5, 6, 7, 8, 9, 10, 12, 14, 15, 16, 17, 18, 19, 20, 21, 22, 23, 24, 28, 29, 30, 31, 32, 33] (by decide) k hk)) cg
    have g179 : TU (avw K H174 b) (svw K H174 b) := TU.congr (fun k hk j => av_eff hT kH174 gb (by decide) (TU_eff [68, 34, 35, 36, 37, 38, 39, 40, 41, 42, 43, 44, 46, 48, 49, 50, 51, 52, 53, 54, 55, 56, 57, 58, 62, 63, 64, 65, 66, 67, 0, 1, 2, 3, 4, 5, 6, 7, 8, 9, 10, 12, 14, 15, 16, 17, 18, 19, 20, 21, 22, 23, 24, 28, 29, 30, 31, 32, 33] (by decide) k hk)) (fun k hk => sv_eff hT kH174 gb (by decide)) tu
    have g180 : WD (avw K H174 b) := WD.congr (fun k hk j => av_eff hT kH174 gb (by decide) (WD_eff [68, 34, 35, 36, 37, 38, 39, 40, 41, 42, 43, 44, 46, 48, 49, 50, 51, 52, 53, 54, 55, 56, 57, 58, 62, 63, 64, 65, 66, 67, 0, 1, 2, 3, 4, 5, 6, 7, 8, 9, 10, 12, 14, 15, 16, 17, 18, 19, 20, 21, 22, 23, 24, 28, 29, 30, 31, 32, 33] (by decide) k hk)) wd
    have g181 : IM (avw K H174 b) := IM.congr (fun k hk j => av_eff hT kH174 gb (by decide) (IM_eff [68, 34, 35, 36, 37, 38, 39, 40, 41, 42, 43, 44, 46, 48, 49, 50, 51, 52, 53, 54, 55, 56, 57, 58, 62, 63, 64, 65, 66, 67, 0, 1, 2, 3, 4, 5, 6, 7, 8, 9, 10, 12, 14, 15, 16, 17, 18, 19, 20, 21, 22, 23, 24, 28, 29, 30, 31, 32, 33] (by decide) k hk)) im
    have m182 := (etb).trans (fI_kept (x_lt hT kH174 gb (by decide))).symm
    have gaH174 := (mH174 a (hT.lt ga)).trans ga
    have gbH174 := (mH174 b (hT.lt gb)).trans gb
    have hNH174 : ∀ q, q < s.heap.size → G177 q = none := fun q hq => (mH174 q (Nat.lt_of_lt_of_le hq hS.1)).trans (hN q hq)
    refine W.eq (g2 := F0 m 1464 ls [.int x175]) rfl ?_
    refine lv_pop hx hb dL_law_1464 rfl ?_
    refine lv_aload_n hx hb dL_law_1465 rfl (lv_at hl 1 rfl) ?_
    refine lv_aload_n hx hb dL_law_1466 rfl (lv_at hl 3 rfl) ?_
    refine lv_iload_n hx hb dL_law_1467 rfl (lv_at hl 0 rfl) ?_
    refine lv_iconst (v := 1) hx hb dL_law_1468 (by decide) ?_
    refine lv_iadd hx hb dL_law_1469 ?_
    refine lv_topi (fun x183 ex183 => ?_)
    have tx183 := i_add ex183 (by omega)
    have ejx183 : x183.toNatClampNeg = i.toNatClampNeg + 1 := by have h1 := i_cl (x := x183) (by omega); have h2 := i_cl (x := i) (by omega); omega
    refine va_sld hx hb hX hbl (Nat.not_le.mpr hbl) hSH174 (vp_in_iff.mpr (by omega)) dL_law_1470 ?_
    refine W.eq (g2 := F0 m 1471 ls [.int (xs (i.toNatClampNeg + 1)), .ref b]) (congrArg (fun z => F0 m 1471 ls [.int (xs z), .ref b]) ejx183) ?_
    refine lv_if_eq (tgt := 1478) hx hb dL_law_1471 (by decide) (fun c1471 => ?_) (fun c1471 => ?_)
    · skip
      exact absurd c1471 c1453
    · skip
      refine lv_iconst (v := 1) hx hb dL_law_1474 (by decide) ?_
      refine lv_goto (tgt := 1479) hx hb dL_law_1475 (by decide) ?_
      obtain ⟨q184, eq184⟩ : ∃ z : Nat, z = fR H174 b (K.1.2 10 73) := ⟨_, rfl⟩
      have gq184 := ty_fr (q := q184) (k := 73) (u := 162) eq184 hTH174 gbH174 rg_112 rfl
      obtain ⟨q185, eq185⟩ : ∃ z : Nat, z = fR H174 b (K.1.2 10 4) := ⟨_, rfl⟩
      have gq185 := ty_fr (q := q185) (k := 4) (u := 113) eq185 hTH174 gbH174 rg_112 rfl
      obtain ⟨q186, eq186⟩ : ∃ z : Nat, z = fR H174 b (K.1.2 10 10) := ⟨_, rfl⟩
      have gq186 := ty_fr (q := q186) (k := 10) (u := 119) eq186 hTH174 gbH174 rg_112 rfl
      obtain ⟨q187, eq187⟩ : ∃ z : Nat, z = fR H174 b (K.1.2 10 16) := ⟨_, rfl⟩
      have gq187 := ty_fr (q := q187) (k := 16) (u := 125) eq187 hTH174 gbH174 rg_112 rfl
      obtain ⟨q188, eq188⟩ : ∃ z : Nat, z = fR H174 b (K.1.2 10 24) := ⟨_, rfl⟩
      have gq188 := ty_fr (q := q188) (k := 24) (u := 128) eq188 hTH174 gbH174 rg_112 rfl
      obtain ⟨q189, eq189⟩ : ∃ z : Nat, z = fR H174 b (K.1.2 10 27) := ⟨_, rfl⟩
      have gq189 := ty_fr (q := q189) (k := 27) (u := 131) eq189 hTH174 gbH174 rg_112 rfl
      obtain ⟨q190, eq190⟩ : ∃ z : Nat, z = fR H174 b (K.1.2 10 29) := ⟨_, rfl⟩
      have gq190 := ty_fr (q := q190) (k := 29) (u := 133) eq190 hTH174 gbH174 rg_112 rfl
      obtain ⟨q191, eq191⟩ : ∃ z : Nat, z = fR H174 b (K.1.2 10 30) := ⟨_, rfl⟩
      have gq191 := ty_fr (q := q191) (k := 30) (u := 134) eq191 hTH174 gbH174 rg_112 rfl
      obtain ⟨q192, eq192⟩ : ∃ z : Nat, z = fR H174 b (K.1.2 10 31) := ⟨_, rfl⟩
      have gq192 := ty_fr (q := q192) (k := 31) (u := 135) eq192 hTH174 gbH174 rg_112 rfl
      obtain ⟨q193, eq193⟩ : ∃ z : Nat, z = fR H174 b (K.1.2 10 32) := ⟨_, rfl⟩
      have gq193 := ty_fr (q := q193) (k := 32) (u := 136) eq193 hTH174 gbH174 rg_112 rfl
      obtain ⟨q194, eq194⟩ : ∃ z : Nat, z = fR H174 b (K.1.2 10 33) := ⟨_, rfl⟩
      have gq194 := ty_fr (q := q194) (k := 33) (u := 137) eq194 hTH174 gbH174 rg_112 rfl
      obtain ⟨q195, eq195⟩ : ∃ z : Nat, z = fR H174 b (K.1.2 10 50) := ⟨_, rfl⟩
      have gq195 := ty_fr (q := q195) (k := 50) (u := 146) eq195 hTH174 gbH174 rg_112 rfl
      obtain ⟨x196, ex196⟩ : ∃ z : Int32, z = fI H174 b (K.1.2 10 70) := ⟨_, rfl⟩
      have bx196 := ty_fi (x := x196) (k := 70) ex196 hTH174 gbH174 rg_112 rfl
      obtain ⟨x197, ex197⟩ : ∃ z : Int32, z = fI H174 b (K.1.2 10 1) := ⟨_, rfl⟩
      have bx197 := ty_fi (x := x197) (k := 1) ex197 hTH174 gbH174 rg_112 rfl
      obtain ⟨x198, ex198⟩ : ∃ z : Int32, z = fI H174 b (K.1.2 10 2) := ⟨_, rfl⟩
      have bx198 := ty_fi (x := x198) (k := 2) ex198 hTH174 gbH174 rg_112 rfl
      obtain ⟨x199, ex199⟩ : ∃ z : Int32, z = fI H174 b (K.1.2 10 3) := ⟨_, rfl⟩
      have bx199 := ty_fi (x := x199) (k := 3) ex199 hTH174 gbH174 rg_112 rfl
      obtain ⟨x200, ex200⟩ : ∃ z : Int32, z = fI H174 b (K.1.2 10 59) := ⟨_, rfl⟩
      have bx200 := ty_fi (x := x200) (k := 59) ex200 hTH174 gbH174 rg_112 rfl
      obtain ⟨x201, ex201⟩ : ∃ z : Int32, z = fI H174 b (K.1.2 10 62) := ⟨_, rfl⟩
      have bx201 := ty_fi (x := x201) (k := 62) ex201 hTH174 gbH174 rg_112 rfl
      obtain ⟨x202, ex202⟩ : ∃ z : Int32, z = fI H174 b (K.1.2 10 65) := ⟨_, rfl⟩
      have bx202 := ty_fi (x := x202) (k := 65) ex202 hTH174 gbH174 rg_112 rfl
      refine x_V (As := [.int 1]) (rest := []) C (a_X10_image l K G177 H174 (1) (x196) (x197) (x198) (x199) (x200) (x201) (x202) hTH174 gbH174 (by decide) gq184 eq184 gq185 eq185 gq186 eq186 gq187 eq187 gq188 eq188 gq189 eq189 gq190 eq190 gq191 eq191 gq192 eq192 gq193 eq193 gq194 eq194 gq195 eq195 ex196 ex197 ex198 ex199 ex200 ex201 ex202 g178 g179 g180 g181) yo_X10_image wM_L_157 ⟨⟨by decide, by decide⟩, show _ ≤ 284929 by omega, show _ ≤ 8247460 by omega⟩ (x_rv C hTH174 (ci := 10) rfl gbH174 rg_112) rfl hl.1 rfl (Nat.le_of_ble_eq_true rfl) dL_law_1479 hSH174 (AE_new hNH174 hSH174.1) (fun vH203 H203 locsH203 pH203 zH203 kH203 hSH203 => ?_)
      obtain ⟨x204, x205, x206, x207, x208, x209, x210, x211, hvH203, bx204, ex205, ex206, ex207, ex208, ex209, ex210, ex211, hrH203, m212, m213, m214, m215, m216, m217, m218, m219, m220, m221, m222, m223, g224, g225, g226, g227, mf228, m229, m230, m231, hTH203⟩ := pH203
      subst hvH203
      have m232 := (m176).trans (fI_kept (x_lt hTH174 kH203 gaH174 (by decide))).symm
      have m233 := (m182).trans (MF.i mf228 (k := 18) (by decide) (by decide)).symm
      have m234 := (eq184).trans (MF.r mf228 (k := 73) (by decide) (by decide)).symm
      have m235 := (eq185).trans (MF.r mf228 (k := 4) (by decide) (by decide)).symm
      have m236 := (eq186).trans (MF.r mf228 (k := 10) (by decide) (by decide)).symm
      have m237 := (eq187).trans (MF.r mf228 (k := 16) (by decide) (by decide)).symm
      have m238 := (eq188).trans (MF.r mf228 (k := 24) (by decide) (by decide)).symm
      have m239 := (eq189).trans (MF.r mf228 (k := 27) (by decide) (by decide)).symm
      have m240 := (eq190).trans (MF.r mf228 (k := 29) (by decide) (by decide)).symm
      have m241 := (eq191).trans (MF.r mf228 (k := 30) (by decide) (by decide)).symm
      have m242 := (eq192).trans (MF.r mf228 (k := 31) (by decide) (by decide)).symm
      have m243 := (eq193).trans (MF.r mf228 (k := 32) (by decide) (by decide)).symm
      have m244 := (eq194).trans (MF.r mf228 (k := 33) (by decide) (by decide)).symm
      have m245 := (eq195).trans (MF.r mf228 (k := 50) (by decide) (by decide)).symm
      have bx205 := ty_fi (x := x205) (k := 70) ex205 hTH203 gbH174 rg_112 rfl
      have bx206 := ty_fi (x := x206) (k := 1) ex206 hTH203 gbH174 rg_112 rfl
      have bx207 := ty_fi (x := x207) (k := 2) ex207 hTH203 gbH174 rg_112 rfl
      have bx208 := ty_fi (x := x208) (k := 3) ex208 hTH203 gbH174 rg_112 rfl
      have bx209 := ty_fi (x := x209) (k := 59) ex209 hTH203 gbH174 rg_112 rfl
      have bx210 := ty_fi (x := x210) (k := 62) ex210 hTH203 gbH174 rg_112 rfl
      have bx211 := ty_fi (x := x211) (k := 65) ex211 hTH203 gbH174 rg_112 rfl
      refine W.eq (g2 := F0 m 1482 ls [.int x204]) rfl ?_
      refine lv_pop hx hb dL_law_1482 rfl ?_
      refine lv_goto (tgt := 1509) hx hb dL_law_1483 (by decide) ?_
      exact nx G177 H203 locsH203 _ _ ls ⟨hTH203, hNH174, gaH174, gbH174, g224, g225, g226, g227, (by rw [← m232, ← m233]; omega), hSH203⟩ hl (by omega) (by omega)
set_option maxRecDepth 100000 in
set_option maxHeartbeats 1000000 in
theorem lw_c34 {p : Program} {l : Launch} {e : Env} {s : State} {m : MethodId} {below : List Frame} {meth : Method} {c : Code} {K : KE} {b0 L : Nat} {xs : Nat → Int32} {G : Nat → Option Nat} {H : Heap} {locs : List Loc} {a b : Nat} {cells slots : Nat} {ls : Array Slot} {i : Int32} {n : Nat} (D : LC p K s m meth c b0 L xs) (S : SX K s G H locs a b) (hl : lv_has ls 4 [(3, .int i), (2, .ref b), (1, .ref a), (0, .ref b0)]) (hi : 0 ≤ i.toInt ∧ i.toInt + 6 ≤ L) (hn : n ≤ 511) (hc : cells ≤ 10000 + 434 * n) (hs : slots ≤ 200000 + 13027 * n) (nx : ∀ (G : Nat → Option Nat) (H : Heap) (locs : List Loc) (cells slots : Nat) (ls : Array Slot), SX K s G H locs a b → lv_has ls 4 [(3, .int i), (2, .ref b), (1, .ref a), (0, .ref b0)] → cells ≤ 10000 + 434 * (n + 1) → slots ≤ 200000 + 13027 * (n + 1) → W p l e room_1 s m #[Value.ref b0] below meth c H locs cells slots (lw_Z below #[Value.ref b0] s) (F0 m 1509 ls [])) : W p l e room_1 s m #[Value.ref b0] below meth c H locs cells slots (lw_Z below #[Value.ref b0] s) (F0 m 1486 ls []) := by
  obtain ⟨C, hX, hbl, hL⟩ := id D
  obtain ⟨hx, hb, hml, hown, hts, hKT, hr, hlocks, hnm⟩ := id C
  obtain ⟨hT, hN, ga, gb, cg, tu, wd, im, rt, hS⟩ := S
  have n_1 : (1 : Int32).toInt = 1 := rfl
  obtain ⟨ta, eta⟩ : ∃ z : Int32, z = fI H a (K.1.2 9 3) := ⟨_, rfl⟩
  obtain ⟨tb, etb⟩ : ∃ z : Int32, z = fI H b (K.1.2 10 18) := ⟨_, rfl⟩
  rw [← eta, ← etb] at rt
  refine lv_aload_n hx hb dL_law_1486 rfl (lv_at hl 2 rfl) ?_
  refine lv_aload_n hx hb dL_law_1487 rfl (lv_at hl 3 rfl) ?_
  refine lv_iload_n hx hb dL_law_1488 rfl (lv_at hl 0 rfl) ?_
  refine lv_iconst (v := 1) hx hb dL_law_1489 (by decide) ?_
  refine lv_iadd hx hb dL_law_1490 ?_
  refine lv_topi (fun x101 ex101 => ?_)
  have tx101 := i_add ex101 (by omega)
  have ejx101 : x101.toNatClampNeg = i.toNatClampNeg + 1 := by have h1 := i_cl (x := x101) (by omega); have h2 := i_cl (x := i) (by omega); omega
  refine va_sld hx hb hX hbl (Nat.not_le.mpr hbl) hS (vp_in_iff.mpr (by omega)) dL_law_1491 ?_
  refine W.eq (g2 := F0 m 1492 ls [.int (xs (i.toNatClampNeg + 1)), .ref a]) (congrArg (fun z => F0 m 1492 ls [.int (xs z), .ref a]) ejx101) ?_
  refine x_V (As := [.int (xs (i.toNatClampNeg + 1))]) (rest := []) C (a_X9_look l K G H ((xs (i.toNatClampNeg + 1))) hT ga) yo_X9_look wM_L_158 ⟨⟨by decide, by decide⟩, show _ ≤ 284929 by omega, show _ ≤ 8247460 by omega⟩ (x_rv C hT (ci := 9) rfl ga rg_68) rfl hl.1 rfl (Nat.le_of_ble_eq_true rfl) dL_law_1492 hS (AE_new hN hS.1) (fun vH102 H102 locsH102 pH102 zH102 kH102 hSH102 => ?_)
  obtain ⟨x103, hvH102, hTH102⟩ := pH102
  subst hvH102
  have g104 : CG (avw K H102 b) := CG.congr (fun k hk j => av_eff hT kH102 gb (by decide) (CG_eff [83, 84] (by decide) k hk)) cg
  have g105 : TU (avw K H102 b) (svw K H102 b) := TU.congr (fun k hk j => av_eff hT kH102 gb (by decide) (TU_eff [83, 84] (by decide) k hk)) (fun k hk => sv_eff hT kH102 gb (by decide)) tu
  have g106 : WD (avw K H102 b) := WD.congr (fun k hk j => av_eff hT kH102 gb (by decide) (WD_eff [83, 84] (by decide) k hk)) wd
  have g107 : IM (avw K H102 b) := IM.congr (fun k hk j => av_eff hT kH102 gb (by decide) (IM_eff [83, 84] (by decide) k hk)) im
  have m108 := (eta).trans (fI_kept (x_lt hT kH102 ga (by decide))).symm
  have m109 := (etb).trans (fI_kept (x_lt hT kH102 gb (by decide))).symm
  refine W.eq (g2 := F0 m 1495 ls [.int x103]) rfl ?_
  refine lv_pop hx hb dL_law_1495 rfl ?_
  refine lv_aload_n hx hb dL_law_1496 rfl (lv_at hl 1 rfl) ?_
  refine lv_aload_n hx hb dL_law_1497 rfl (lv_at hl 3 rfl) ?_
  refine lv_iload_n hx hb dL_law_1498 rfl (lv_at hl 0 rfl) ?_
  refine lv_iconst (v := 1) hx hb dL_law_1499 (by decide) ?_
  refine lv_iadd hx hb dL_law_1500 ?_
  refine lv_topi (fun x110 ex110 => ?_)
  have tx110 := i_add ex110 (by omega)
  have ejx110 : x110.toNatClampNeg = i.toNatClampNeg + 1 := by have h1 := i_cl (x := x110) (by omega); have h2 := i_cl (x := i) (by omega); omega
  refine va_sld hx hb hX hbl (Nat.not_le.mpr hbl) hSH102 (vp_in_iff.mpr (by omega)) dL_law_1501 ?_
  refine W.eq (g2 := F0 m 1502 ls [.int (xs (i.toNatClampNeg + 1)), .ref b]) (congrArg (fun z => F0 m 1502 ls [.int (xs z), .ref b]) ejx110) ?_
  refine x_V (As := [.int (xs (i.toNatClampNeg + 1))]) (rest := []) C (a_X10_look l K G H102 ((xs (i.toNatClampNeg + 1))) hTH102 gb g104 g105 g106 g107) yo_X10_look wM_L_161 ⟨⟨by decide, by decide⟩, show _ ≤ 284929 by omega, show _ ≤ 8247460 by omega⟩ (x_rv C hTH102 (ci := 10) rfl gb rg_112) rfl hl.1 rfl (Nat.le_of_ble_eq_true rfl) dL_law_1502 hSH102 (AE_new hN hSH102.1) (fun vH111 H111 locsH111 pH111 zH111 kH111 hSH111 => ?_)
  obtain ⟨x112, hvH111, g113, g114, g115, g116, mf117, hTH111⟩ := pH111
  subst hvH111
  have m118 := (m108).trans (fI_kept (x_lt hTH102 kH111 ga (by decide))).symm
  have m119 := (m109).trans (MF.i mf117 (k := 18) (by decide) (by decide)).symm
  refine W.eq (g2 := F0 m 1505 ls [.int x112]) rfl ?_
  refine lv_pop hx hb dL_law_1505 rfl ?_
  refine lv_goto (tgt := 1509) hx hb dL_law_1506 (by decide) ?_
  exact nx G H111 locsH111 _ _ ls ⟨hTH111, hN, ga, gb, g113, g114, g115, g116, (by rw [← m118, ← m119]; omega), hSH111⟩ hl (by omega) (by omega)