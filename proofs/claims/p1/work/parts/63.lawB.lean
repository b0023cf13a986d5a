set_option maxRecDepth 100000 in
set_option maxHeartbeats 1000000 in
theorem lw_c0 {p : Program} {l : Launch} {e : Env} {s : State} {m : MethodId} {below : List Frame} {meth : Method} {c : Code} {K : KE} {b0 : Nat} {xs : Nat → Int32} {G : Nat → Option Nat} {H : Heap} {locs : List Loc} {a w b : Nat} {cells slots : Nat} {ls : Array Slot} (D : LC p K s m meth c b0 6 xs) (S : SX K s G H locs a w b) (hl : lv_has ls 4 [(3, .int 0), (2, .ref b), (1, .ref a), (0, .ref b0)]) (hc : cells ≤ 300000) (hs : slots ≤ 3000000) : W p l e room_1 s m #[Value.ref b0] below meth c H locs cells slots (lw_Z below #[Value.ref b0] s) (F0 m 188 ls []) := by
  obtain ⟨C, hX, hbl⟩ := id D
  obtain ⟨hx, hb, hml, hown, hts, hKT, hr, hlocks, hnm⟩ := id C
  obtain ⟨hT, hN, ga, gw, gb, fx, fm, hS⟩ := S
  refine lv_aload_n hx hb dL_law_188 rfl (lv_at hl 2 rfl) ?_
  refine lv_aload_n hx hb dL_law_189 rfl (lv_at hl 3 rfl) ?_
  refine lv_iload_n hx hb dL_law_190 rfl (lv_at hl 0 rfl) ?_
  refine lv_iconst (v := 1) hx hb dL_law_191 (by decide) ?_
  refine lv_iadd hx hb dL_law_192 ?_
  refine W.eq (g2 := F0 m 193 ls [.int 1, .ref b0, .ref a]) rfl ?_
  refine va_sld hx hb hX hbl (Nat.not_le.mpr hbl) hS (vp_in_iff.mpr (by decide)) dL_law_193 ?_
  refine W.eq (g2 := F0 m 194 ls [.int (xs 1), .ref a]) rfl ?_
  refine x_V (As := [.int (xs 1)]) (rest := []) C (f_X9_bar l K G H (xs 1) hT ga gw fx) yo_X9_bar wM_L_13 ⟨⟨by decide, by decide⟩, show _ ≤ 600000 by omega, show _ ≤ 7302250 by omega⟩ (x_rv C hT (ci := 9) rfl ga rg_68) rfl hl.1 rfl (Nat.le_of_ble_eq_true rfl) dL_law_194 hS (AE_new hN hS.1) (fun v1 H1 locs1 p1 z1 k1 hS1 => ?_)
  obtain ⟨⟨r1, hv1, q1⟩, G1, m1, hT1⟩ := p1
  subst hv1
  refine W.eq (g2 := F0 m 197 ls [.int r1]) rfl ?_
  have gb1 := (m1 b (hT.lt gb)).trans gb
  have fm1 := fm.kept (x_lt hT k1 gb (by decide))
  have hN1 : ∀ q, q < s.heap.size → G1 q = none := fun q hq => (m1 q (Nat.lt_of_lt_of_le hq hS.1)).trans (hN q hq)
  refine lv_aload_n hx hb dL_law_197 rfl (lv_at hl 1 rfl) ?_
  refine lv_aload_n hx hb dL_law_198 rfl (lv_at hl 3 rfl) ?_
  refine lv_iload_n hx hb dL_law_199 rfl (lv_at hl 0 rfl) ?_
  refine lv_iconst (v := 1) hx hb dL_law_200 (by decide) ?_
  refine lv_iadd hx hb dL_law_201 ?_
  refine W.eq (g2 := F0 m 202 ls [.int 1, .ref b0, .ref b, .int r1]) rfl ?_
  refine va_sld hx hb hX hbl (Nat.not_le.mpr hbl) hS1 (vp_in_iff.mpr (by decide)) dL_law_202 ?_
  refine W.eq (g2 := F0 m 203 ls [.int (xs 1), .ref b, .int r1]) rfl ?_
  refine x_V (As := [.int (xs 1)]) (rest := [.int r1]) C (f_X10_bar l K G1 H1 (xs 1) hT1 gb1 fm1) yo_X10_bar wM_L_17 ⟨⟨by decide, by decide⟩, show _ ≤ 600000 by omega, show _ ≤ 7302250 by omega⟩ (x_rv C hT1 (ci := 10) rfl gb1 rg_112) rfl hl.1 rfl (Nat.le_of_ble_eq_true rfl) dL_law_203 hS1 (AE_new hN1 hS1.1) (fun v2 H2 locs2 p2 z2 k2 hS2 => ?_)
  obtain ⟨⟨r2, hv2, q2⟩, G2, m2, hT2⟩ := p2
  subst hv2
  refine W.eq (g2 := F0 m 206 ls [.int r2, .int r1]) rfl ?_
  refine lv_icmp_eq (tgt := 1509) hx hb dL_law_206 (by decide) (fun ce => ?_) (fun ce => ?_)
  · exact lw_tail D hS2 hl (by omega) (by omega)
  · exfalso
    have := i_ne ce
    omega
set_option maxRecDepth 100000 in
set_option maxHeartbeats 1000000 in
theorem lw_c1 {p : Program} {l : Launch} {e : Env} {s : State} {m : MethodId} {below : List Frame} {meth : Method} {c : Code} {K : KE} {b0 : Nat} {xs : Nat → Int32} {G : Nat → Option Nat} {H : Heap} {locs : List Loc} {a w b : Nat} {cells slots : Nat} {ls : Array Slot} (D : LC p K s m meth c b0 6 xs) (S : SX K s G H locs a w b) (hl : lv_has ls 4 [(3, .int 0), (2, .ref b), (1, .ref a), (0, .ref b0)]) (hc : cells ≤ 300000) (hs : slots ≤ 3000000) : W p l e room_1 s m #[Value.ref b0] below meth c H locs cells slots (lw_Z below #[Value.ref b0] s) (F0 m 211 ls []) := by
  obtain ⟨C, hX, hbl⟩ := id D
  obtain ⟨hx, hb, hml, hown, hts, hKT, hr, hlocks, hnm⟩ := id C
  obtain ⟨hT, hN, ga, gw, gb, fx, fm, hS⟩ := S
  refine lv_aload_n hx hb dL_law_211 rfl (lv_at hl 2 rfl) ?_
  refine lv_aload_n hx hb dL_law_212 rfl (lv_at hl 3 rfl) ?_
  refine lv_iload_n hx hb dL_law_213 rfl (lv_at hl 0 rfl) ?_
  refine lv_iconst (v := 1) hx hb dL_law_214 (by decide) ?_
  refine lv_iadd hx hb dL_law_215 ?_
  refine W.eq (g2 := F0 m 216 ls [.int 1, .ref b0, .ref a]) rfl ?_
  refine va_sld hx hb hX hbl (Nat.not_le.mpr hbl) hS (vp_in_iff.mpr (by decide)) dL_law_216 ?_
  refine W.eq (g2 := F0 m 217 ls [.int (xs 1), .ref a]) rfl ?_
  refine lv_aload_n hx hb dL_law_217 rfl (lv_at hl 3 rfl) ?_
  refine lv_iload_n hx hb dL_law_218 rfl (lv_at hl 0 rfl) ?_
  refine lv_iconst (v := 2) hx hb dL_law_219 (by decide) ?_
  refine lv_iadd hx hb dL_law_220 ?_
  refine W.eq (g2 := F0 m 221 ls [.int 2, .ref b0, .int (xs 1), .ref a]) rfl ?_
  refine va_sld hx hb hX hbl (Nat.not_le.mpr hbl) hS (vp_in_iff.mpr (by decide)) dL_law_221 ?_
  refine W.eq (g2 := F0 m 222 ls [.int (xs 2), .int (xs 1), .ref a]) rfl ?_
  refine lv_aload_n hx hb dL_law_222 rfl (lv_at hl 3 rfl) ?_
  refine lv_iload_n hx hb dL_law_223 rfl (lv_at hl 0 rfl) ?_
  refine lv_iconst (v := 3) hx hb dL_law_224 (by decide) ?_
  refine lv_iadd hx hb dL_law_225 ?_
  refine W.eq (g2 := F0 m 226 ls [.int 3, .ref b0, .int (xs 2), .int (xs 1), .ref a]) rfl ?_
  refine va_sld hx hb hX hbl (Nat.not_le.mpr hbl) hS (vp_in_iff.mpr (by decide)) dL_law_226 ?_
  refine W.eq (g2 := F0 m 227 ls [.int (xs 3), .int (xs 2), .int (xs 1), .ref a]) rfl ?_
  refine lv_aload_n hx hb dL_law_227 rfl (lv_at hl 3 rfl) ?_
  refine lv_iload_n hx hb dL_law_228 rfl (lv_at hl 0 rfl) ?_
  refine lv_iconst (v := 4) hx hb dL_law_229 (by decide) ?_
  refine lv_iadd hx hb dL_law_230 ?_
  refine W.eq (g2 := F0 m 231 ls [.int 4, .ref b0, .int (xs 3), .int (xs 2), .int (xs 1), .ref a]) rfl ?_
  refine va_sld hx hb hX hbl (Nat.not_le.mpr hbl) hS (vp_in_iff.mpr (by decide)) dL_law_231 ?_
  refine W.eq (g2 := F0 m 232 ls [.int (xs 4), .int (xs 3), .int (xs 2), .int (xs 1), .ref a]) rfl ?_
  refine lv_aload_n hx hb dL_law_232 rfl (lv_at hl 3 rfl) ?_
  refine lv_iload_n hx hb dL_law_233 rfl (lv_at hl 0 rfl) ?_
  refine lv_iconst (v := 5) hx hb dL_law_234 (by decide) ?_
  refine lv_iadd hx hb dL_law_235 ?_
  refine W.eq (g2 := F0 m 236 ls [.int 5, .ref b0, .int (xs 4), .int (xs 3), .int (xs 2), .int (xs 1), .ref a]) rfl ?_
  refine va_sld hx hb hX hbl (Nat.not_le.mpr hbl) hS (vp_in_iff.mpr (by decide)) dL_law_236 ?_
  refine W.eq (g2 := F0 m 237 ls [.int (xs 5), .int (xs 4), .int (xs 3), .int (xs 2), .int (xs 1), .ref a]) rfl ?_
  refine x_V (As := [.int (xs 1), .int (xs 2), .int (xs 3), .int (xs 4), .int (xs 5)]) (rest := []) C (f_X9_slice l K G H (xs 1) (xs 2) (xs 3) (xs 4) (xs 5) hT ga gw fx) yo_X9_slice wM_L_18 ⟨⟨by decide, by decide⟩, show _ ≤ 600000 by omega, show _ ≤ 7302250 by omega⟩ (x_rv C hT (ci := 9) rfl ga rg_68) rfl hl.1 rfl (Nat.le_of_ble_eq_true rfl) dL_law_237 hS (AE_new hN hS.1) (fun v1 H1 locs1 p1 z1 k1 hS1 => ?_)
  obtain ⟨⟨r1, hv1, q1⟩, G1, m1, hT1⟩ := p1
  subst hv1
  refine W.eq (g2 := F0 m 240 ls [.int r1]) rfl ?_
  have gb1 := (m1 b (hT.lt gb)).trans gb
  have fm1 := fm.kept (x_lt hT k1 gb (by decide))
  have hN1 : ∀ q, q < s.heap.size → G1 q = none := fun q hq => (m1 q (Nat.lt_of_lt_of_le hq hS.1)).trans (hN q hq)
  refine lv_aload_n hx hb dL_law_240 rfl (lv_at hl 1 rfl) ?_
  refine lv_aload_n hx hb dL_law_241 rfl (lv_at hl 3 rfl) ?_
  refine lv_iload_n hx hb dL_law_242 rfl (lv_at hl 0 rfl) ?_
  refine lv_iconst (v := 1) hx hb dL_law_243 (by decide) ?_
  refine lv_iadd hx hb dL_law_244 ?_
  refine W.eq (g2 := F0 m 245 ls [.int 1, .ref b0, .ref b, .int r1]) rfl ?_
  refine va_sld hx hb hX hbl (Nat.not_le.mpr hbl) hS1 (vp_in_iff.mpr (by decide)) dL_law_245 ?_
  refine W.eq (g2 := F0 m 246 ls [.int (xs 1), .ref b, .int r1]) rfl ?_
  refine lv_aload_n hx hb dL_law_246 rfl (lv_at hl 3 rfl) ?_
  refine lv_iload_n hx hb dL_law_247 rfl (lv_at hl 0 rfl) ?_
  refine lv_iconst (v := 2) hx hb dL_law_248 (by decide) ?_
  refine lv_iadd hx hb dL_law_249 ?_
  refine W.eq (g2 := F0 m 250 ls [.int 2, .ref b0, .int (xs 1), .ref b, .int r1]) rfl ?_
  refine va_sld hx hb hX hbl (Nat.not_le.mpr hbl) hS1 (vp_in_iff.mpr (by decide)) dL_law_250 ?_
  refine W.eq (g2 := F0 m 251 ls [.int (xs 2), .int (xs 1), .ref b, .int r1]) rfl ?_
  refine lv_aload_n hx hb dL_law_251 rfl (lv_at hl 3 rfl) ?_
  refine lv_iload_n hx hb dL_law_252 rfl (lv_at hl 0 rfl) ?_
  refine lv_iconst (v := 3) hx hb dL_law_253 (by decide) ?_
  refine lv_iadd hx hb dL_law_254 ?_
  refine W.eq (g2 := F0 m 255 ls [.int 3, .ref b0, .int (xs 2), .int (xs 1), .ref b, .int r1]) rfl ?_
  refine va_sld hx hb hX hbl (Nat.not_le.mpr hbl) hS1 (vp_in_iff.mpr (by decide)) dL_law_255 ?_
  refine W.eq (g2 := F0 m 256 ls [.int (xs 3), .int (xs 2), .int (xs 1), .ref b, .int r1]) rfl ?_
  refine lv_aload_n hx hb dL_law_256 rfl (lv_at hl 3 rfl) ?_
  refine lv_iload_n hx hb dL_law_257 rfl (lv_at hl 0 rfl) ?_
  refine lv_iconst (v := 4) hx hb dL_law_258 (by decide) ?_
  refine lv_iadd hx hb dL_law_259 ?_
  refine W.eq (g2 := F0 m 260 ls [.int 4, .ref b0, .int (xs 3), .int (xs 2), .int (xs 1), .ref b, .int r1]) rfl ?_
  refine va_sld hx hb hX hbl (Nat.not_le.mpr hbl) hS1 (vp_in_iff.mpr (by decide)) dL_law_260 ?_
  refine W.eq (g2 := F0 m 261 ls [.int (xs 4), .int (xs 3), .int (xs 2), .int (xs 1), .ref b, .int r1]) rfl ?_
  refine lv_aload_n hx hb dL_law_261 rfl (lv_at hl 3 rfl) ?_
  refine lv_iload_n hx hb dL_law_262 rfl (lv_at hl 0 rfl) ?_
  refine lv_iconst (v := 5) hx hb dL_law_263 (by decide) ?_
  refine lv_iadd hx hb dL_law_264 ?_
  refine W.eq (g2 := F0 m 265 ls [.int 5, .ref b0, .int (xs 4), .int (xs 3), .int (xs 2), .int (xs 1), .ref b, .int r1]) rfl ?_
  refine va_sld hx hb hX hbl (Nat.not_le.mpr hbl) hS1 (vp_in_iff.mpr (by decide)) dL_law_265 ?_
  refine W.eq (g2 := F0 m 266 ls [.int (xs 5), .int (xs 4), .int (xs 3), .int (xs 2), .int (xs 1), .ref b, .int r1]) rfl ?_
  refine x_V (As := [.int (xs 1), .int (xs 2), .int (xs 3), .int (xs 4), .int (xs 5)]) (rest := [.int r1]) C (f_X10_slice l K G1 H1 (xs 1) (xs 2) (xs 3) (xs 4) (xs 5) hT1 gb1 fm1) yo_X10_slice wM_L_22 ⟨⟨by decide, by decide⟩, show _ ≤ 600000 by omega, show _ ≤ 7302250 by omega⟩ (x_rv C hT1 (ci := 10) rfl gb1 rg_112) rfl hl.1 rfl (Nat.le_of_ble_eq_true rfl) dL_law_266 hS1 (AE_new hN1 hS1.1) (fun v2 H2 locs2 p2 z2 k2 hS2 => ?_)
  obtain ⟨⟨r2, hv2, q2⟩, G2, m2, hT2⟩ := p2
  subst hv2
  refine W.eq (g2 := F0 m 269 ls [.int r2, .int r1]) rfl ?_
  refine lv_icmp_eq (tgt := 1509) hx hb dL_law_269 (by decide) (fun ce => ?_) (fun ce => ?_)
  · exact lw_tail D hS2 hl (by omega) (by omega)
  · exfalso
    have := i_ne ce
    omega
set_option maxRecDepth 100000 in
set_option maxHeartbeats 1000000 in
theorem lw_c2 {p : Program} {l : Launch} {e : Env} {s : State} {m : MethodId} {below : List Frame} {meth : Method} {c : Code} {K : KE} {b0 : Nat} {xs : Nat → Int32} {G : Nat → Option Nat} {H : Heap} {locs : List Loc} {a w b : Nat} {cells slots : Nat} {ls : Array Slot} (D : LC p K s m meth c b0 6 xs) (S : SX K s G H locs a w b) (hl : lv_has ls 4 [(3, .int 0), (2, .ref b), (1, .ref a), (0, .ref b0)]) (hc : cells ≤ 300000) (hs : slots ≤ 3000000) : W p l e room_1 s m #[Value.ref b0] below meth c H locs cells slots (lw_Z below #[Value.ref b0] s) (F0 m 274 ls []) := by
  obtain ⟨C, hX, hbl⟩ := id D
  obtain ⟨hx, hb, hml, hown, hts, hKT, hr, hlocks, hnm⟩ := id C
  obtain ⟨hT, hN, ga, gw, gb, fx, fm, hS⟩ := S
  refine lv_aload_n hx hb dL_law_274 rfl (lv_at hl 2 rfl) ?_
  refine lv_aload_n hx hb dL_law_275 rfl (lv_at hl 3 rfl) ?_
  refine lv_iload_n hx hb dL_law_276 rfl (lv_at hl 0 rfl) ?_
  refine lv_iconst (v := 1) hx hb dL_law_277 (by decide) ?_
  refine lv_iadd hx hb dL_law_278 ?_
  refine W.eq (g2 := F0 m 279 ls [.int 1, .ref b0, .ref a]) rfl ?_
  refine va_sld hx hb hX hbl (Nat.not_le.mpr hbl) hS (vp_in_iff.mpr (by decide)) dL_law_279 ?_
  refine W.eq (g2 := F0 m 280 ls [.int (xs 1), .ref a]) rfl ?_
  refine lv_aload_n hx hb dL_law_280 rfl (lv_at hl 3 rfl) ?_
  refine lv_iload_n hx hb dL_law_281 rfl (lv_at hl 0 rfl) ?_
  refine lv_iconst (v := 2) hx hb dL_law_282 (by decide) ?_
  refine lv_iadd hx hb dL_law_283 ?_
  refine W.eq (g2 := F0 m 284 ls [.int 2, .ref b0, .int (xs 1), .ref a]) rfl ?_
  refine va_sld hx hb hX hbl (Nat.not_le.mpr hbl) hS (vp_in_iff.mpr (by decide)) dL_law_284 ?_
  refine W.eq (g2 := F0 m 285 ls [.int (xs 2), .int (xs 1), .ref a]) rfl ?_
  refine lv_aload_n hx hb dL_law_285 rfl (lv_at hl 3 rfl) ?_
  refine lv_iload_n hx hb dL_law_286 rfl (lv_at hl 0 rfl) ?_
  refine lv_iconst (v := 3) hx hb dL_law_287 (by decide) ?_
  refine lv_iadd hx hb dL_law_288 ?_
  refine W.eq (g2 := F0 m 289 ls [.int 3, .ref b0, .int (xs 2), .int (xs 1), .ref a]) rfl ?_
  refine va_sld hx hb hX hbl (Nat.not_le.mpr hbl) hS (vp_in_iff.mpr (by decide)) dL_law_289 ?_
  refine W.eq (g2 := F0 m 290 ls [.int (xs 3), .int (xs 2), .int (xs 1), .ref a]) rfl ?_
  refine x_V (As := [.int (xs 1), .int (xs 2), .int (xs 3)]) (rest := []) C (f_X9_wax l K G H (xs 1) (xs 2) (xs 3) hT ga gw fx) yo_X9_wax wM_L_23 ⟨⟨by decide, by decide⟩, show _ ≤ 600000 by omega, show _ ≤ 7302250 by omega⟩ (x_rv C hT (ci := 9) rfl ga rg_68) rfl hl.1 rfl (Nat.le_of_ble_eq_true rfl) dL_law_290 hS (AE_new hN hS.1) (fun v1 H1 locs1 p1 z1 k1 hS1 => ?_)
  obtain ⟨⟨r1, hv1, q1⟩, G1, m1, hT1⟩ := p1
  subst hv1
  refine W.eq (g2 := F0 m 293 ls [.int r1]) rfl ?_
  have gb1 := (m1 b (hT.lt gb)).trans gb
  have fm1 := fm.kept (x_lt hT k1 gb (by decide))
  have hN1 : ∀ q, q < s.heap.size → G1 q = none := fun q hq => (m1 q (Nat.lt_of_lt_of_le hq hS.1)).trans (hN q hq)
  refine lv_aload_n hx hb dL_law_293 rfl (lv_at hl 1 rfl) ?_
  refine lv_aload_n hx hb dL_law_294 rfl (lv_at hl 3 rfl) ?_
  refine lv_iload_n hx hb dL_law_295 rfl (lv_at hl 0 rfl) ?_
  refine lv_iconst (v := 1) hx hb dL_law_296 (by decide) ?_
  refine lv_iadd hx hb dL_law_297 ?_
  refine W.eq (g2 := F0 m 298 ls [.int 1, .ref b0, .ref b, .int r1]) rfl ?_
  refine va_sld hx hb hX hbl (Nat.not_le.mpr hbl) hS1 (vp_in_iff.mpr (by decide)) dL_law_298 ?_
  refine W.eq (g2 := F0 m 299 ls [.int (xs 1), .ref b, .int r1]) rfl ?_
  refine lv_aload_n hx hb dL_law_299 rfl (lv_at hl 3 rfl) ?_
  refine lv_iload_n hx hb dL_law_300 rfl (lv_at hl 0 rfl) ?_
  refine lv_iconst (v := 2) hx hb dL_law_301 (by decide) ?_
  refine lv_iadd hx hb dL_law_302 ?_
  refine W.eq (g2 := F0 m 303 ls [.int 2, .ref b0, .int (xs 1), .ref b, .int r1]) rfl ?_
  refine va_sld hx hb hX hbl (Nat.not_le.mpr hbl) hS1 (vp_in_iff.mpr (by decide)) dL_law_303 ?_
  refine W.eq (g2 := F0 m 304 ls [.int (xs 2), .int (xs 1), .ref b, .int r1]) rfl ?_
  refine lv_aload_n hx hb dL_law_304 rfl (lv_at hl 3 rfl) ?_
  refine lv_iload_n hx hb dL_law_305 rfl (lv_at hl 0 rfl) ?_
  refine lv_iconst (v := 3) hx hb dL_law_306 (by decide) ?_
  refine lv_iadd hx hb dL_law_307 ?_
  refine W.eq (g2 := F0 m 308 ls [.int 3, .ref b0, .int (xs 2), .int (xs 1), .ref b, .int r1]) rfl ?_
  refine va_sld hx hb hX hbl (Nat.not_le.mpr hbl) hS1 (vp_in_iff.mpr (by decide)) dL_law_308 ?_
  refine W.eq (g2 := F0 m 309 ls [.int (xs 3), .int (xs 2), .int (xs 1), .ref b, .int r1]) rfl ?_
  refine x_V (As := [.int (xs 1), .int (xs 2), .int (xs 3)]) (rest := [.int r1]) C (f_X10_wax l K G1 H1 (xs 1) (xs 2) (xs 3) hT1 gb1 fm1) yo_X10_wax wM_L_27 ⟨⟨by decide, by decide⟩, show _ ≤ 600000 by omega, show _ ≤ 7302250 by omega⟩ (x_rv C hT1 (ci := 10) rfl gb1 rg_112) rfl hl.1 rfl (Nat.le_of_ble_eq_true rfl) dL_law_309 hS1 (AE_new hN1 hS1.1) (fun v2 H2 locs2 p2 z2 k2 hS2 => ?_)
  obtain ⟨⟨r2, hv2, q2⟩, G2, m2, hT2⟩ := p2
  subst hv2
  refine W.eq (g2 := F0 m 312 ls [.int r2, .int r1]) rfl ?_
  refine lv_icmp_eq (tgt := 1509) hx hb dL_law_312 (by decide) (fun ce => ?_) (fun ce => ?_)
  · exact lw_tail D hS2 hl (by omega) (by omega)
  · exfalso
    have := i_ne ce
    omega
set_option maxRecDepth 100000 in
set_option maxHeartbeats 1000000 in
theorem lw_c3 {p : Program} {l : Launch} {e : Env} {s : State} {m : MethodId} {below : List Frame} {meth : Method} {c : Code} {K : KE} {b0 : Nat} {xs : Nat → Int32} {G : Nat → Option Nat} {H : Heap} {locs : List Loc} {a w b : Nat} {cells slots : Nat} {ls : Array Slot} (D : LC p K s m meth c b0 6 xs) (S : SX K s G H locs a w b) (hl : lv_has ls 4 [(3, .int 0), (2, .ref b), (1, .ref a), (0, .ref b0)]) (hc : cells ≤ 300000) (hs : slots ≤ 3000000) : W p l e room_1 s m #[Value.ref b0] below meth c H locs cells slots (lw_Z below #[Value.ref b0] s) (F0 m 317 ls []) := by
  obtain ⟨C, hX, hbl⟩ := id D
  obtain ⟨hx, hb, hml, hown, hts, hKT, hr, hlocks, hnm⟩ := id C
  obtain ⟨hT, hN, ga, gw, gb, fx, fm, hS⟩ := S
  refine lv_aload_n hx hb dL_law_317 rfl (lv_at hl 2 rfl) ?_
  refine lv_aload_n hx hb dL_law_318 rfl (lv_at hl 3 rfl) ?_
  refine lv_iload_n hx hb dL_law_319 rfl (lv_at hl 0 rfl) ?_
  refine lv_iconst (v := 1) hx hb dL_law_320 (by decide) ?_
  refine lv_iadd hx hb dL_law_321 ?_
  refine W.eq (g2 := F0 m 322 ls [.int 1, .ref b0, .ref a]) rfl ?_
  refine va_sld hx hb hX hbl (Nat.not_le.mpr hbl) hS (vp_in_iff.mpr (by decide)) dL_law_322 ?_
  refine W.eq (g2 := F0 m 323 ls [.int (xs 1), .ref a]) rfl ?_
  refine lv_aload_n hx hb dL_law_323 rfl (lv_at hl 3 rfl) ?_
  refine lv_iload_n hx hb dL_law_324 rfl (lv_at hl 0 rfl) ?_
  refine lv_iconst (v := 2) hx hb dL_law_325 (by decide) ?_
  refine lv_iadd hx hb dL_law_326 ?_
  refine W.eq (g2 := F0 m 327 ls [.int 2, .ref b0, .int (xs 1), .ref a]) rfl ?_
  refine va_sld hx hb hX hbl (Nat.not_le.mpr hbl) hS (vp_in_iff.mpr (by decide)) dL_law_327 ?_
  refine W.eq (g2 := F0 m 328 ls [.int (xs 2), .int (xs 1), .ref a]) rfl ?_
  refine lv_aload_n hx hb dL_law_328 rfl (lv_at hl 3 rfl) ?_
  refine lv_iload_n hx hb dL_law_329 rfl (lv_at hl 0 rfl) ?_
  refine lv_iconst (v := 3) hx hb dL_law_330 (by decide) ?_
  refine lv_iadd hx hb dL_law_331 ?_
  refine W.eq (g2 := F0 m 332 ls [.int 3, .ref b0, .int (xs 2), .int (xs 1), .ref a]) rfl ?_
  refine va_sld hx hb hX hbl (Nat.not_le.mpr hbl) hS (vp_in_iff.mpr (by decide)) dL_law_332 ?_
  refine W.eq (g2 := F0 m 333 ls [.int (xs 3), .int (xs 2), .int (xs 1), .ref a]) rfl ?_
  refine x_V (As := [.int (xs 1), .int (xs 2), .int (xs 3)]) (rest := []) C (f_X9_of l K G H (xs 1) (xs 2) (xs 3) hT ga gw fx) yo_X9_of wM_L_28 ⟨⟨by decide, by decide⟩, show _ ≤ 600000 by omega, show _ ≤ 7302250 by omega⟩ (x_rv C hT (ci := 9) rfl ga rg_68) rfl hl.1 rfl (Nat.le_of_ble_eq_true rfl) dL_law_333 hS (AE_new hN hS.1) (fun v1 H1 locs1 p1 z1 k1 hS1 => ?_)
  obtain ⟨⟨r1, hv1, q1⟩, G1, m1, hT1⟩ := p1
  subst hv1
  refine W.eq (g2 := F0 m 336 ls [.int r1]) rfl ?_
  have gb1 := (m1 b (hT.lt gb)).trans gb
  have fm1 := fm.kept (x_lt hT k1 gb (by decide))
  have hN1 : ∀ q, q < s.heap.size → G1 q = none := fun q hq => (m1 q (Nat.lt_of_lt_of_le hq hS.1)).trans (hN q hq)
  refine lv_aload_n hx hb dL_law_336 rfl (lv_at hl 1 rfl) ?_
  refine lv_aload_n hx hb dL_law_337 rfl (lv_at hl 3 rfl) ?_
  refine lv_iload_n hx hb dL_law_338 rfl (lv_at hl 0 rfl) ?_
  refine lv_iconst (v := 1) hx hb dL_law_339 (by decide) ?_
  refine lv_iadd hx hb dL_law_340 ?_
  refine W.eq (g2 := F0 m 341 ls [.int 1, .ref b0, .ref b, .int r1]) rfl ?_
  refine va_sld hx hb hX hbl (Nat.not_le.mpr hbl) hS1 (vp_in_iff.mpr (by decide)) dL_law_341 ?_
  refine W.eq (g2 := F0 m 342 ls [.int (xs 1), .ref b, .int r1]) rfl ?_
  refine lv_aload_n hx hb dL_law_342 rfl (lv_at hl 3 rfl) ?_
  refine lv_iload_n hx hb dL_law_343 rfl (lv_at hl 0 rfl) ?_
  refine lv_iconst (v := 2) hx hb dL_law_344 (by decide) ?_
  refine lv_iadd hx hb dL_law_345 ?_
  refine W.eq (g2 := F0 m 346 ls [.int 2, .ref b0, .int (xs 1), .ref b, .int r1]) rfl ?_
  refine va_sld hx hb hX hbl (Nat.not_le.mpr hbl) hS1 (vp_in_iff.mpr (by decide)) dL_law_346 ?_
  refine W.eq (g2 := F0 m 347 ls [.int (xs 2), .int (xs 1), .ref b, .int r1]) rfl ?_
  refine lv_aload_n hx hb dL_law_347 rfl (lv_at hl 3 rfl) ?_
  refine lv_iload_n hx hb dL_law_348 rfl (lv_at hl 0 rfl) ?_
  refine lv_iconst (v := 3) hx hb dL_law_349 (by decide) ?_
  refine lv_iadd hx hb dL_law_350 ?_
  refine W.eq (g2 := F0 m 351 ls [.int 3, .ref b0, .int (xs 2), .int (xs 1), .ref b, .int r1]) rfl ?_
  refine va_sld hx hb hX hbl (Nat.not_le.mpr hbl) hS1 (vp_in_iff.mpr (by decide)) dL_law_351 ?_
  refine W.eq (g2 := F0 m 352 ls [.int (xs 3), .int (xs 2), .int (xs 1), .ref b, .int r1]) rfl ?_
  refine x_V (As := [.int (xs 1), .int (xs 2), .int (xs 3)]) (rest := [.int r1]) C (f_X10_of l K G1 H1 (xs 1) (xs 2) (xs 3) hT1 gb1 fm1) yo_X10_of wM_L_32 ⟨⟨by decide, by decide⟩, show _ ≤ 600000 by omega, show _ ≤ 7302250 by omega⟩ (x_rv C hT1 (ci := 10) rfl gb1 rg_112) rfl hl.1 rfl (Nat.le_of_ble_eq_true rfl) dL_law_352 hS1 (AE_new hN1 hS1.1) (fun v2 H2 locs2 p2 z2 k2 hS2 => ?_)
  obtain ⟨⟨r2, hv2, q2⟩, G2, m2, hT2⟩ := p2
  subst hv2
  refine W.eq (g2 := F0 m 355 ls [.int r2, .int r1]) rfl ?_
  refine lv_icmp_eq (tgt := 1509) hx hb dL_law_355 (by decide) (fun ce => ?_) (fun ce => ?_)
  · exact lw_tail D hS2 hl (by omega) (by omega)
  · exfalso
    have := i_ne ce
    omega
set_option maxRecDepth 100000 in
set_option maxHeartbeats 1000000 in
theorem lw_c4 {p : Program} {l : Launch} {e : Env} {s : State} {m : MethodId} {below : List Frame} {meth : Method} {c : Code} {K : KE} {b0 : Nat} {xs : Nat → Int32} {G : Nat → Option Nat} {H : Heap} {locs : List Loc} {a w b : Nat} {cells slots : Nat} {ls : Array Slot} (D : LC p K s m meth c b0 6 xs) (S : SX K s G H locs a w b) (hl : lv_has ls 4 [(3, .int 0), (2, .ref b), (1, .ref a), (0, .ref b0)]) (hc : cells ≤ 300000) (hs : slots ≤ 3000000) : W p l e room_1 s m #[Value.ref b0] below meth c H locs cells slots (lw_Z below #[Value.ref b0] s) (F0 m 360 ls []) := by
  obtain ⟨C, hX, hbl⟩ := id D
  obtain ⟨hx, hb, hml, hown, hts, hKT, hr, hlocks, hnm⟩ := id C
  obtain ⟨hT, hN, ga, gw, gb, fx, fm, hS⟩ := S
  refine lv_aload_n hx hb dL_law_360 rfl (lv_at hl 2 rfl) ?_
  refine lv_aload_n hx hb dL_law_361 rfl (lv_at hl 3 rfl) ?_
  refine lv_iload_n hx hb dL_law_362 rfl (lv_at hl 0 rfl) ?_
  refine lv_iconst (v := 1) hx hb dL_law_363 (by decide) ?_
  refine lv_iadd hx hb dL_law_364 ?_
  refine W.eq (g2 := F0 m 365 ls [.int 1, .ref b0, .ref a]) rfl ?_
  refine va_sld hx hb hX hbl (Nat.not_le.mpr hbl) hS (vp_in_iff.mpr (by decide)) dL_law_365 ?_
  refine W.eq (g2 := F0 m 366 ls [.int (xs 1), .ref a]) rfl ?_
  refine lv_aload_n hx hb dL_law_366 rfl (lv_at hl 3 rfl) ?_
  refine lv_iload_n hx hb dL_law_367 rfl (lv_at hl 0 rfl) ?_
  refine lv_iconst (v := 2) hx hb dL_law_368 (by decide) ?_
  refine lv_iadd hx hb dL_law_369 ?_
  refine W.eq (g2 := F0 m 370 ls [.int 2, .ref b0, .int (xs 1), .ref a]) rfl ?_
  refine va_sld hx hb hX hbl (Nat.not_le.mpr hbl) hS (vp_in_iff.mpr (by decide)) dL_law_370 ?_
  refine W.eq (g2 := F0 m 371 ls [.int (xs 2), .int (xs 1), .ref a]) rfl ?_
  refine lv_aload_n hx hb dL_law_371 rfl (lv_at hl 3 rfl) ?_
  refine lv_iload_n hx hb dL_law_372 rfl (lv_at hl 0 rfl) ?_
  refine lv_iconst (v := 3) hx hb dL_law_373 (by decide) ?_
  refine lv_iadd hx hb dL_law_374 ?_
  refine W.eq (g2 := F0 m 375 ls [.int 3, .ref b0, .int (xs 2), .int (xs 1), .ref a]) rfl ?_
  refine va_sld hx hb hX hbl (Nat.not_le.mpr hbl) hS (vp_in_iff.mpr (by decide)) dL_law_375 ?_
  refine W.eq (g2 := F0 m 376 ls [.int (xs 3), .int (xs 2), .int (xs 1), .ref a]) rfl ?_
  refine lv_aload_n hx hb dL_law_376 rfl (lv_at hl 3 rfl) ?_
  refine lv_iload_n hx hb dL_law_377 rfl (lv_at hl 0 rfl) ?_
  refine lv_iconst (v := 4) hx hb dL_law_378 (by decide) ?_
  refine lv_iadd hx hb dL_law_379 ?_
  refine W.eq (g2 := F0 m 380 ls [.int 4, .ref b0, .int (xs 3), .int (xs 2), .int (xs 1), .ref a]) rfl ?_
  refine va_sld hx hb hX hbl (Nat.not_le.mpr hbl) hS (vp_in_iff.mpr (by decide)) dL_law_380 ?_
  refine W.eq (g2 := F0 m 381 ls [.int (xs 4), .int (xs 3), .int (xs 2), .int (xs 1), .ref a]) rfl ?_
  refine lv_aload_n hx hb dL_law_381 rfl (lv_at hl 3 rfl) ?_
  refine lv_iload_n hx hb dL_law_382 rfl (lv_at hl 0 rfl) ?_
  refine lv_iconst (v := 5) hx hb dL_law_383 (by decide) ?_
  refine lv_iadd hx hb dL_law_384 ?_
  refine W.eq (g2 := F0 m 385 ls [.int 5, .ref b0, .int (xs 4), .int (xs 3), .int (xs 2), .int (xs 1), .ref a]) rfl ?_
  refine va_sld hx hb hX hbl (Nat.not_le.mpr hbl) hS (vp_in_iff.mpr (by decide)) dL_law_385 ?_
  refine W.eq (g2 := F0 m 386 ls [.int (xs 5), .int (xs 4), .int (xs 3), .int (xs 2), .int (xs 1), .ref a]) rfl ?_
  refine x_V (As := [.int (xs 1), .int (xs 2), .int (xs 3), .int (xs 4), .int (xs 5)]) (rest := []) C (f_X9_feed l K G H (xs 1) (xs 2) (xs 3) (xs 4) (xs 5) hT ga gw fx) yo_X9_feed wM_L_33 ⟨⟨by decide, by decide⟩, show _ ≤ 600000 by omega, show _ ≤ 7302250 by omega⟩ (x_rv C hT (ci := 9) rfl ga rg_68) rfl hl.1 rfl (Nat.le_of_ble_eq_true rfl) dL_law_386 hS (AE_new hN hS.1) (fun v1 H1 locs1 p1 z1 k1 hS1 => ?_)
  obtain ⟨⟨r1, hv1, q1⟩, G1, m1, hT1⟩ := p1
  subst hv1
  refine W.eq (g2 := F0 m 389 ls [.int r1]) rfl ?_
  have gb1 := (m1 b (hT.lt gb)).trans gb
  have fm1 := fm.kept (x_lt hT k1 gb (by decide))
  have hN1 : ∀ q, q < s.heap.size → G1 q = none := fun q hq => (m1 q (Nat.lt_of_lt_of_le hq hS.1)).trans (hN q hq)
  refine lv_aload_n hx hb dL_law_389 rfl (lv_at hl 1 rfl) ?_
  refine lv_aload_n hx hb dL_law_390 rfl (lv_at hl 3 rfl) ?_
  refine lv_iload_n hx hb dL_law_391 rfl (lv_at hl 0 rfl) ?_
  refine lv_iconst (v := 1) hx hb dL_law_392 (by decide) ?_
  refine lv_iadd hx hb dL_law_393 ?_
  refine W.eq (g2 := F0 m 394 ls [.int 1, .ref b0, .ref b, .int r1]) rfl ?_
  refine va_sld hx hb hX hbl (Nat.not_le.mpr hbl) hS1 (vp_in_iff.mpr (by decide)) dL_law_394 ?_
  refine W.eq (g2 := F0 m 395 ls [.int (xs 1), .ref b, .int r1]) rfl ?_
  refine lv_aload_n hx hb dL_law_395 rfl (lv_at hl 3 rfl) ?_
  refine lv_iload_n hx hb dL_law_396 rfl (lv_at hl 0 rfl) ?_
  refine lv_iconst (v := 2) hx hb dL_law_397 (by decide) ?_
  refine lv_iadd hx hb dL_law_398 ?_
  refine W.eq (g2 := F0 m 399 ls [.int 2, .ref b0, .int (xs 1), .ref b, .int r1]) rfl ?_
  refine va_sld hx hb hX hbl (Nat.not_le.mpr hbl) hS1 (vp_in_iff.mpr (by decide)) dL_law_399 ?_
  refine W.eq (g2 := F0 m 400 ls [.int (xs 2), .int (xs 1), .ref b, .int r1]) rfl ?_
  refine lv_aload_n hx hb dL_law_400 rfl (lv_at hl 3 rfl) ?_
  refine lv_iload_n hx hb dL_law_401 rfl (lv_at hl 0 rfl) ?_
  refine lv_iconst (v := 3) hx hb dL_law_402 (by decide) ?_
  refine lv_iadd hx hb dL_law_403 ?_
  refine W.eq (g2 := F0 m 404 ls [.int 3, .ref b0, .int (xs 2), .int (xs 1), .ref b, .int r1]) rfl ?_
  refine va_sld hx hb hX hbl (Nat.not_le.mpr hbl) hS1 (vp_in_iff.mpr (by decide)) dL_law_404 ?_
  refine W.eq (g2 := F0 m 405 ls [.int (xs 3), .int (xs 2), .int (xs 1), .ref b, .int r1]) rfl ?_
  refine lv_aload_n hx hb dL_law_405 rfl (lv_at hl 3 rfl) ?_
  refine lv_iload_n hx hb dL_law_406 rfl (lv_at hl 0 rfl) ?_
  refine lv_iconst (v := 4) hx hb dL_law_407 (by decide) ?_
  refine lv_iadd hx hb dL_law_408 ?_
  refine W.eq (g2 := F0 m 409 ls [.int 4, .ref b0, .int (xs 3), .int (xs 2), .int (xs 1), .ref b, .int r1]) rfl ?_
  refine va_sld hx hb hX hbl (Nat.not_le.mpr hbl) hS1 (vp_in_iff.mpr (by decide)) dL_law_409 ?_
  refine W.eq (g2 := F0 m 410 ls [.int (xs 4), .int (xs 3), .int (xs 2), .int (xs 1), .ref b, .int r1]) rfl ?_
  refine lv_aload_n hx hb dL_law_410 rfl (lv_at hl 3 rfl) ?_
  refine lv_iload_n hx hb dL_law_411 rfl (lv_at hl 0 rfl) ?_
  refine lv_iconst (v := 5) hx hb dL_law_412 (by decide) ?_
  refine lv_iadd hx hb dL_law_413 ?_
  refine W.eq (g2 := F0 m 414 ls [.int 5, .ref b0, .int (xs 4), .int (xs 3), .int (xs 2), .int (xs 1), .ref b, .int r1]) rfl ?_
  refine va_sld hx hb hX hbl (Nat.not_le.mpr hbl) hS1 (vp_in_iff.mpr (by decide)) dL_law_414 ?_
  refine W.eq (g2 := F0 m 415 ls [.int (xs 5), .int (xs 4), .int (xs 3), .int (xs 2), .int (xs 1), .ref b, .int r1]) rfl ?_
  refine x_V (As := [.int (xs 1), .int (xs 2), .int (xs 3), .int (xs 4), .int (xs 5)]) (rest := [.int r1]) C (f_X10_feed l K G1 H1 (xs 1) (xs 2) (xs 3) (xs 4) (xs 5) hT1 gb1 fm1) yo_X10_feed wM_L_37 ⟨⟨by decide, by decide⟩, show _ ≤ 600000 by omega, show _ ≤ 7302250 by omega⟩ (x_rv C hT1 (ci := 10) rfl gb1 rg_112) rfl hl.1 rfl (Nat.le_of_ble_eq_true rfl) dL_law_415 hS1 (AE_new hN1 hS1.1) (fun v2 H2 locs2 p2 z2 k2 hS2 => ?_)
  obtain ⟨⟨r2, hv2, q2⟩, G2, m2, hT2⟩ := p2
  subst hv2
  refine W.eq (g2 := F0 m 418 ls [.int r2, .int r1]) rfl ?_
  refine lv_icmp_eq (tgt := 1509) hx hb dL_law_418 (by decide) (fun ce => ?_) (fun ce => ?_)
  · exact lw_tail D hS2 hl (by omega) (by omega)
  · exfalso
    have := i_ne ce
    omega
set_option maxRecDepth 100000 in
set_option maxHeartbeats 1000000 in
theorem lw_c5 {p : Program} {l : Launch} {e : Env} {s : State} {m : MethodId} {below : List Frame} {meth : Method} {c : Code} {K : KE} {b0 : Nat} {xs : Nat → Int32} {G : Nat → Option Nat} {H : Heap} {locs : List Loc} {a w b : Nat} {cells slots : Nat} {ls : Array Slot} (D : LC p K s m meth c b0 6 xs) (S : SX K s G H locs a w b) (hl : lv_has ls 4 [(3, .int 0), (2, .ref b), (1, .ref a), (0, .ref b0)]) (hc : cells ≤ 300000) (hs : slots ≤ 3000000) : W p l e room_1 s m #[Value.ref b0] below meth c H locs cells slots (lw_Z below #[Value.ref b0] s) (F0 m 423 ls []) := by
  obtain ⟨C, hX, hbl⟩ := id D
  obtain ⟨hx, hb, hml, hown, hts, hKT, hr, hlocks, hnm⟩ := id C
  obtain ⟨hT, hN, ga, gw, gb, fx, fm, hS⟩ := S
  refine lv_aload_n hx hb dL_law_423 rfl (lv_at hl 2 rfl) ?_
  refine lv_aload_n hx hb dL_law_424 rfl (lv_at hl 3 rfl) ?_
  refine lv_iload_n hx hb dL_law_425 rfl (lv_at hl 0 rfl) ?_
  refine lv_iconst (v := 1) hx hb dL_law_426 (by decide) ?_
  refine lv_iadd hx hb dL_law_427 ?_
  refine W.eq (g2 := F0 m 428 ls [.int 1, .ref b0, .ref a]) rfl ?_
  refine va_sld hx hb hX hbl (Nat.not_le.mpr hbl) hS (vp_in_iff.mpr (by decide)) dL_law_428 ?_
  refine W.eq (g2 := F0 m 429 ls [.int (xs 1), .ref a]) rfl ?_
  refine x_V (As := [.int (xs 1)]) (rest := []) C (f_X9_end l K G H (xs 1) hT ga gw fx) yo_X9_end wM_L_38 ⟨⟨by decide, by decide⟩, show _ ≤ 600000 by omega, show _ ≤ 7302250 by omega⟩ (x_rv C hT (ci := 9) rfl ga rg_68) rfl hl.1 rfl (Nat.le_of_ble_eq_true rfl) dL_law_429 hS (AE_new hN hS.1) (fun v1 H1 locs1 p1 z1 k1 hS1 => ?_)
  obtain ⟨⟨r1, hv1, q1⟩, G1, m1, hT1⟩ := p1
  subst hv1
  refine W.eq (g2 := F0 m 432 ls [.int r1]) rfl ?_
  have gb1 := (m1 b (hT.lt gb)).trans gb
  have fm1 := fm.kept (x_lt hT k1 gb (by decide))
  have hN1 : ∀ q, q < s.heap.size → G1 q = none := fun q hq => (m1 q (Nat.lt_of_lt_of_le hq hS.1)).trans (hN q hq)
  refine lv_aload_n hx hb dL_law_432 rfl (lv_at hl 1 rfl) ?_
  refine lv_aload_n hx hb dL_law_433 rfl (lv_at hl 3 rfl) ?_
  refine lv_iload_n hx hb dL_law_434 rfl (lv_at hl 0 rfl) ?_
  refine lv_iconst (v := 1) hx hb dL_law_435 (by decide) ?_
  refine lv_iadd hx hb dL_law_436 ?_
  refine W.eq (g2 := F0 m 437 ls [.int 1, .ref b0, .ref b, .int r1]) rfl ?_
  refine va_sld hx hb hX hbl (Nat.not_le.mpr hbl) hS1 (vp_in_iff.mpr (by decide)) dL_law_437 ?_
  refine W.eq (g2 := F0 m 438 ls [.int (xs 1), .ref b, .int r1]) rfl ?_
  refine x_V (As := [.int (xs 1)]) (rest := [.int r1]) C (f_X10_end l K G1 H1 (xs 1) hT1 gb1 fm1) yo_X10_end wM_L_42 ⟨⟨by decide, by decide⟩, show _ ≤ 600000 by omega, show _ ≤ 7302250 by omega⟩ (x_rv C hT1 (ci := 10) rfl gb1 rg_112) rfl hl.1 rfl (Nat.le_of_ble_eq_true rfl) dL_law_438 hS1 (AE_new hN1 hS1.1) (fun v2 H2 locs2 p2 z2 k2 hS2 => ?_)
  obtain ⟨⟨r2, hv2, q2⟩, G2, m2, hT2⟩ := p2
  subst hv2
  refine W.eq (g2 := F0 m 441 ls [.int r2, .int r1]) rfl ?_
  refine lv_icmp_eq (tgt := 1509) hx hb dL_law_441 (by decide) (fun ce => ?_) (fun ce => ?_)
  · exact lw_tail D hS2 hl (by omega) (by omega)
  · exfalso
    have := i_ne ce
    omega
set_option maxRecDepth 100000 in
set_option maxHeartbeats 1000000 in
theorem lw_c6 {p : Program} {l : Launch} {e : Env} {s : State} {m : MethodId} {below : List Frame} {meth : Method} {c : Code} {K : KE} {b0 : Nat} {xs : Nat → Int32} {G : Nat → Option Nat} {H : Heap} {locs : List Loc} {a w b : Nat} {cells slots : Nat} {ls : Array Slot} (D : LC p K s m meth c b0 6 xs) (S : SX K s G H locs a w b) (hl : lv_has ls 4 [(3, .int 0), (2, .ref b), (1, .ref a), (0, .ref b0)]) (hc : cells ≤ 300000) (hs : slots ≤ 3000000) : W p l e room_1 s m #[Value.ref b0] below meth c H locs cells slots (lw_Z below #[Value.ref b0] s) (F0 m 446 ls []) := by
  obtain ⟨C, hX, hbl⟩ := id D
  obtain ⟨hx, hb, hml, hown, hts, hKT, hr, hlocks, hnm⟩ := id C
  obtain ⟨hT, hN, ga, gw, gb, fx, fm, hS⟩ := S
  refine lv_aload_n hx hb dL_law_446 rfl (lv_at hl 2 rfl) ?_
  refine lv_aload_n hx hb dL_law_447 rfl (lv_at hl 3 rfl) ?_
  refine lv_iload_n hx hb dL_law_448 rfl (lv_at hl 0 rfl) ?_
  refine lv_iconst (v := 1) hx hb dL_law_449 (by decide) ?_
  refine lv_iadd hx hb dL_law_450 ?_
  refine W.eq (g2 := F0 m 451 ls [.int 1, .ref b0, .ref a]) rfl ?_
  refine va_sld hx hb hX hbl (Nat.not_le.mpr hbl) hS (vp_in_iff.mpr (by decide)) dL_law_451 ?_
  refine W.eq (g2 := F0 m 452 ls [.int (xs 1), .ref a]) rfl ?_
  refine lv_aload_n hx hb dL_law_452 rfl (lv_at hl 3 rfl) ?_
  refine lv_iload_n hx hb dL_law_453 rfl (lv_at hl 0 rfl) ?_
  refine lv_iconst (v := 2) hx hb dL_law_454 (by decide) ?_
  refine lv_iadd hx hb dL_law_455 ?_
  refine W.eq (g2 := F0 m 456 ls [.int 2, .ref b0, .int (xs 1), .ref a]) rfl ?_
  refine va_sld hx hb hX hbl (Nat.not_le.mpr hbl) hS (vp_in_iff.mpr (by decide)) dL_law_456 ?_
  refine W.eq (g2 := F0 m 457 ls [.int (xs 2), .int (xs 1), .ref a]) rfl ?_
  refine x_V (As := [.int (xs 1), .int (xs 2)]) (rest := []) C (f_X9_text l K G H (xs 1) (xs 2) hT ga gw fx) yo_X9_text wM_L_43 ⟨⟨by decide, by decide⟩, show _ ≤ 600000 by omega, show _ ≤ 7302250 by omega⟩ (x_rv C hT (ci := 9) rfl ga rg_68) rfl hl.1 rfl (Nat.le_of_ble_eq_true rfl) dL_law_457 hS (AE_new hN hS.1) (fun v1 H1 locs1 p1 z1 k1 hS1 => ?_)
  obtain ⟨⟨r1, hv1, q1⟩, G1, m1, hT1⟩ := p1
  subst hv1
  refine W.eq (g2 := F0 m 460 ls [.int r1]) rfl ?_
  have gb1 := (m1 b (hT.lt gb)).trans gb
  have fm1 := fm.kept (x_lt hT k1 gb (by decide))
  have hN1 : ∀ q, q < s.heap.size → G1 q = none := fun q hq => (m1 q (Nat.lt_of_lt_of_le hq hS.1)).trans (hN q hq)
  refine lv_aload_n hx hb dL_law_460 rfl (lv_at hl 1 rfl) ?_
  refine lv_aload_n hx hb dL_law_461 rfl (lv_at hl 3 rfl) ?_
  refine lv_iload_n hx hb dL_law_462 rfl (lv_at hl 0 rfl) ?_
  refine lv_iconst (v := 1) hx hb dL_law_463 (by decide) ?_
  refine lv_iadd hx hb dL_law_464 ?_
  refine W.eq (g2 := F0 m 465 ls [.int 1, .ref b0, .ref b, .int r1]) rfl ?_
  refine va_sld hx hb hX hbl (Nat.not_le.mpr hbl) hS1 (vp_in_iff.mpr (by decide)) dL_law_465 ?_
  refine W.eq (g2 := F0 m 466 ls [.int (xs 1), .ref b, .int r1]) rfl ?_
  refine lv_aload_n hx hb dL_law_466 rfl (lv_at hl 3 rfl) ?_
  refine lv_iload_n hx hb dL_law_467 rfl (lv_at hl 0 rfl) ?_
  refine lv_iconst (v := 2) hx hb dL_law_468 (by decide) ?_
  refine lv_iadd hx hb dL_law_469 ?_
  refine W.eq (g2 := F0 m 470 ls [.int 2, .ref b0, .int (xs 1), .ref b, .int r1]) rfl ?_
  refine va_sld hx hb hX hbl (Nat.not_le.mpr hbl) hS1 (vp_in_iff.mpr (by decide)) dL_law_470 ?_
  refine W.eq (g2 := F0 m 471 ls [.int (xs 2), .int (xs 1), .ref b, .int r1]) rfl ?_
  refine x_V (As := [.int (xs 1), .int (xs 2)]) (rest := [.int r1]) C (f_X10_text l K G1 H1 (xs 1) (xs 2) hT1 gb1 fm1) yo_X10_text wM_L_47 ⟨⟨by decide, by decide⟩, show _ ≤ 600000 by omega, show _ ≤ 7302250 by omega⟩ (x_rv C hT1 (ci := 10) rfl gb1 rg_112) rfl hl.1 rfl (Nat.le_of_ble_eq_true rfl) dL_law_471 hS1 (AE_new hN1 hS1.1) (fun v2 H2 locs2 p2 z2 k2 hS2 => ?_)
  obtain ⟨⟨r2, hv2, q2⟩, G2, m2, hT2⟩ := p2
  subst hv2
  refine W.eq (g2 := F0 m 474 ls [.int r2, .int r1]) rfl ?_
  refine lv_icmp_eq (tgt := 1509) hx hb dL_law_474 (by decide) (fun ce => ?_) (fun ce => ?_)
  · exact lw_tail D hS2 hl (by omega) (by omega)
  · exfalso
    have := i_ne ce
    omega
set_option maxRecDepth 100000 in
set_option maxHeartbeats 1000000 in
theorem lw_c7 {p : Program} {l : Launch} {e : Env} {s : State} {m : MethodId} {below : List Frame} {meth : Method} {c : Code} {K : KE} {b0 : Nat} {xs : Nat → Int32} {G : Nat → Option Nat} {H : Heap} {locs : List Loc} {a w b : Nat} {cells slots : Nat} {ls : Array Slot} (D : LC p K s m meth c b0 6 xs) (S : SX K s G H locs a w b) (hl : lv_has ls 4 [(3, .int 0), (2, .ref b), (1, .ref a), (0, .ref b0)]) (hc : cells ≤ 300000) (hs : slots ≤ 3000000) : W p l e room_1 s m #[Value.ref b0] below meth c H locs cells slots (lw_Z below #[Value.ref b0] s) (F0 m 479 ls []) := by
  obtain ⟨C, hX, hbl⟩ := id D
  obtain ⟨hx, hb, hml, hown, hts, hKT, hr, hlocks, hnm⟩ := id C
  obtain ⟨hT, hN, ga, gw, gb, fx, fm, hS⟩ := S
  refine lv_aload_n hx hb dL_law_479 rfl (lv_at hl 2 rfl) ?_
  refine lv_aload_n hx hb dL_law_480 rfl (lv_at hl 3 rfl) ?_
  refine lv_iload_n hx hb dL_law_481 rfl (lv_at hl 0 rfl) ?_
  refine lv_iconst (v := 1) hx hb dL_law_482 (by decide) ?_
  refine lv_iadd hx hb dL_law_483 ?_
  refine W.eq (g2 := F0 m 484 ls [.int 1, .ref b0, .ref a]) rfl ?_
  refine va_sld hx hb hX hbl (Nat.not_le.mpr hbl) hS (vp_in_iff.mpr (by decide)) dL_law_484 ?_
  refine W.eq (g2 := F0 m 485 ls [.int (xs 1), .ref a]) rfl ?_
  refine x_V (As := [.int (xs 1)]) (rest := []) C (f_X9_fault l K G H (xs 1) hT ga gw fx) yo_X9_fault wM_L_48 ⟨⟨by decide, by decide⟩, show _ ≤ 600000 by omega, show _ ≤ 7302250 by omega⟩ (x_rv C hT (ci := 9) rfl ga rg_68) rfl hl.1 rfl (Nat.le_of_ble_eq_true rfl) dL_law_485 hS (AE_new hN hS.1) (fun v1 H1 locs1 p1 z1 k1 hS1 => ?_)
  obtain ⟨⟨r1, hv1, q1⟩, G1, m1, hT1⟩ := p1
  subst hv1
  refine W.eq (g2 := F0 m 488 ls [.int r1]) rfl ?_
  have gb1 := (m1 b (hT.lt gb)).trans gb
  have fm1 := fm.kept (x_lt hT k1 gb (by decide))
  have hN1 : ∀ q, q < s.heap.size → G1 q = none := fun q hq => (m1 q (Nat.lt_of_lt_of_le hq hS.1)).trans (hN q hq)
  refine lv_aload_n hx hb dL_law_488 rfl (lv_at hl 1 rfl) ?_
  refine lv_aload_n hx hb dL_law_489 rfl (lv_at hl 3 rfl) ?_
  refine lv_iload_n hx hb dL_law_490 rfl (lv_at hl 0 rfl) ?_
  refine lv_iconst (v := 1) hx hb dL_law_491 (by decide) ?_
  refine lv_iadd hx hb dL_law_492 ?_
  refine W.eq (g2 := F0 m 493 ls [.int 1, .ref b0, .ref b, .int r1]) rfl ?_
  refine va_sld hx hb hX hbl (Nat.not_le.mpr hbl) hS1 (vp_in_iff.mpr (by decide)) dL_law_493 ?_
  refine W.eq (g2 := F0 m 494 ls [.int (xs 1), .ref b, .int r1]) rfl ?_
  refine x_V (As := [.int (xs 1)]) (rest := [.int r1]) C (f_X10_fault l K G1 H1 (xs 1) hT1 gb1 fm1) yo_X10_fault wM_L_51 ⟨⟨by decide, by decide⟩, show _ ≤ 600000 by omega, show _ ≤ 7302250 by omega⟩ (x_rv C hT1 (ci := 10) rfl gb1 rg_112) rfl hl.1 rfl (Nat.le_of_ble_eq_true rfl) dL_law_494 hS1 (AE_new hN1 hS1.1) (fun v2 H2 locs2 p2 z2 k2 hS2 => ?_)
  obtain ⟨⟨r2, hv2, q2⟩, G2, m2, hT2⟩ := p2
  subst hv2
  refine W.eq (g2 := F0 m 497 ls [.int r2, .int r1]) rfl ?_
  refine lv_icmp_eq (tgt := 1509) hx hb dL_law_497 (by decide) (fun ce => ?_) (fun ce => ?_)
  · exact lw_tail D hS2 hl (by omega) (by omega)
  · exfalso
    have := i_ne ce
    omega
set_option maxRecDepth 100000 in
set_option maxHeartbeats 1000000 in
theorem lw_c8 {p : Program} {l : Launch} {e : Env} {s : State} {m : MethodId} {below : List Frame} {meth : Method} {c : Code} {K : KE} {b0 : Nat} {xs : Nat → Int32} {G : Nat → Option Nat} {H : Heap} {locs : List Loc} {a w b : Nat} {cells slots : Nat} {ls : Array Slot} (D : LC p K s m meth c b0 6 xs) (S : SX K s G H locs a w b) (hl : lv_has ls 4 [(3, .int 0), (2, .ref b), (1, .ref a), (0, .ref b0)]) (hc : cells ≤ 300000) (hs : slots ≤ 3000000) : W p l e room_1 s m #[Value.ref b0] below meth c H locs cells slots (lw_Z below #[Value.ref b0] s) (F0 m 502 ls []) := by
  obtain ⟨C, hX, hbl⟩ := id D
  obtain ⟨hx, hb, hml, hown, hts, hKT, hr, hlocks, hnm⟩ := id C
  obtain ⟨hT, hN, ga, gw, gb, fx, fm, hS⟩ := S
  refine lv_aload_n hx hb dL_law_502 rfl (lv_at hl 2 rfl) ?_
  refine lv_aload_n hx hb dL_law_503 rfl (lv_at hl 3 rfl) ?_
  refine lv_iload_n hx hb dL_law_504 rfl (lv_at hl 0 rfl) ?_
  refine lv_iconst (v := 1) hx hb dL_law_505 (by decide) ?_
  refine lv_iadd hx hb dL_law_506 ?_
  refine W.eq (g2 := F0 m 507 ls [.int 1, .ref b0, .ref a]) rfl ?_
  refine va_sld hx hb hX hbl (Nat.not_le.mpr hbl) hS (vp_in_iff.mpr (by decide)) dL_law_507 ?_
  refine W.eq (g2 := F0 m 508 ls [.int (xs 1), .ref a]) rfl ?_
  refine x_V (As := [.int (xs 1)]) (rest := []) C (f_X9_force l K G H (xs 1) hT ga gw fx) yo_X9_force wM_L_52 ⟨⟨by decide, by decide⟩, show _ ≤ 600000 by omega, show _ ≤ 7302250 by omega⟩ (x_rv C hT (ci := 9) rfl ga rg_68) rfl hl.1 rfl (Nat.le_of_ble_eq_true rfl) dL_law_508 hS (AE_new hN hS.1) (fun v1 H1 locs1 p1 z1 k1 hS1 => ?_)
  obtain ⟨⟨r1, hv1, q1⟩, G1, m1, hT1⟩ := p1
  subst hv1
  refine W.eq (g2 := F0 m 511 ls [.int r1]) rfl ?_
  have gb1 := (m1 b (hT.lt gb)).trans gb
  have fm1 := fm.kept (x_lt hT k1 gb (by decide))
  have hN1 : ∀ q, q < s.heap.size → G1 q = none := fun q hq => (m1 q (Nat.lt_of_lt_of_le hq hS.1)).trans (hN q hq)
  refine lv_aload_n hx hb dL_law_511 rfl (lv_at hl 1 rfl) ?_
  refine lv_aload_n hx hb dL_law_512 rfl (lv_at hl 3 rfl) ?_
  refine lv_iload_n hx hb dL_law_513 rfl (lv_at hl 0 rfl) ?_
  refine lv_iconst (v := 1) hx hb dL_law_514 (by decide) ?_
  refine lv_iadd hx hb dL_law_515 ?_
  refine W.eq (g2 := F0 m 516 ls [.int 1, .ref b0, .ref b, .int r1]) rfl ?_
  refine va_sld hx hb hX hbl (Nat.not_le.mpr hbl) hS1 (vp_in_iff.mpr (by decide)) dL_law_516 ?_
  refine W.eq (g2 := F0 m 517 ls [.int (xs 1), .ref b, .int r1]) rfl ?_
  refine x_V (As := [.int (xs 1)]) (rest := [.int r1]) C (f_X10_force l K G1 H1 (xs 1) hT1 gb1 fm1) yo_X10_force wM_L_55 ⟨⟨by decide, by decide⟩, show _ ≤ 600000 by omega, show _ ≤ 7302250 by omega⟩ (x_rv C hT1 (ci := 10) rfl gb1 rg_112) rfl hl.1 rfl (Nat.le_of_ble_eq_true rfl) dL_law_517 hS1 (AE_new hN1 hS1.1) (fun v2 H2 locs2 p2 z2 k2 hS2 => ?_)
  obtain ⟨⟨r2, hv2, q2⟩, G2, m2, hT2⟩ := p2
  subst hv2
  refine W.eq (g2 := F0 m 520 ls [.int r2, .int r1]) rfl ?_
  refine lv_icmp_eq (tgt := 1509) hx hb dL_law_520 (by decide) (fun ce => ?_) (fun ce => ?_)
  · exact lw_tail D hS2 hl (by omega) (by omega)
  · exfalso
    have := i_ne ce
    omega
set_option maxRecDepth 100000 in
set_option maxHeartbeats 1000000 in
theorem lw_c9 {p : Program} {l : Launch} {e : Env} {s : State} {m : MethodId} {below : List Frame} {meth : Method} {c : Code} {K : KE} {b0 : Nat} {xs : Nat → Int32} {G : Nat → Option Nat} {H : Heap} {locs : List Loc} {a w b : Nat} {cells slots : Nat} {ls : Array Slot} (D : LC p K s m meth c b0 6 xs) (S : SX K s G H locs a w b) (hl : lv_has ls 4 [(3, .int 0), (2, .ref b), (1, .ref a), (0, .ref b0)]) (hc : cells ≤ 300000) (hs : slots ≤ 3000000) : W p l e room_1 s m #[Value.ref b0] below meth c H locs cells slots (lw_Z below #[Value.ref b0] s) (F0 m 525 ls []) := by
  obtain ⟨C, hX, hbl⟩ := id D
  obtain ⟨hx, hb, hml, hown, hts, hKT, hr, hlocks, hnm⟩ := id C
  obtain ⟨hT, hN, ga, gw, gb, fx, fm, hS⟩ := S
  refine lv_aload_n hx hb dL_law_525 rfl (lv_at hl 2 rfl) ?_
  refine lv_aload_n hx hb dL_law_526 rfl (lv_at hl 3 rfl) ?_
  refine lv_iload_n hx hb dL_law_527 rfl (lv_at hl 0 rfl) ?_
  refine lv_iconst (v := 1) hx hb dL_law_528 (by decide) ?_
  refine lv_iadd hx hb dL_law_529 ?_
  refine W.eq (g2 := F0 m 530 ls [.int 1, .ref b0, .ref a]) rfl ?_
  refine va_sld hx hb hX hbl (Nat.not_le.mpr hbl) hS (vp_in_iff.mpr (by decide)) dL_law_530 ?_
  refine W.eq (g2 := F0 m 531 ls [.int (xs 1), .ref a]) rfl ?_
  refine lv_aload_n hx hb dL_law_531 rfl (lv_at hl 3 rfl) ?_
  refine lv_iload_n hx hb dL_law_532 rfl (lv_at hl 0 rfl) ?_
  refine lv_iconst (v := 2) hx hb dL_law_533 (by decide) ?_
  refine lv_iadd hx hb dL_law_534 ?_
  refine W.eq (g2 := F0 m 535 ls [.int 2, .ref b0, .int (xs 1), .ref a]) rfl ?_
  refine va_sld hx hb hX hbl (Nat.not_le.mpr hbl) hS (vp_in_iff.mpr (by decide)) dL_law_535 ?_
  refine W.eq (g2 := F0 m 536 ls [.int (xs 2), .int (xs 1), .ref a]) rfl ?_
  refine lv_aload_n hx hb dL_law_536 rfl (lv_at hl 3 rfl) ?_
  refine lv_iload_n hx hb dL_law_537 rfl (lv_at hl 0 rfl) ?_
  refine lv_iconst (v := 3) hx hb dL_law_538 (by decide) ?_
  refine lv_iadd hx hb dL_law_539 ?_
  refine W.eq (g2 := F0 m 540 ls [.int 3, .ref b0, .int (xs 2), .int (xs 1), .ref a]) rfl ?_
  refine va_sld hx hb hX hbl (Nat.not_le.mpr hbl) hS (vp_in_iff.mpr (by decide)) dL_law_540 ?_
  refine W.eq (g2 := F0 m 541 ls [.int (xs 3), .int (xs 2), .int (xs 1), .ref a]) rfl ?_
  refine lv_aload_n hx hb dL_law_541 rfl (lv_at hl 3 rfl) ?_
  refine lv_iload_n hx hb dL_law_542 rfl (lv_at hl 0 rfl) ?_
  refine lv_iconst (v := 4) hx hb dL_law_543 (by decide) ?_
  refine lv_iadd hx hb dL_law_544 ?_
  refine W.eq (g2 := F0 m 545 ls [.int 4, .ref b0, .int (xs 3), .int (xs 2), .int (xs 1), .ref a]) rfl ?_
  refine va_sld hx hb hX hbl (Nat.not_le.mpr hbl) hS (vp_in_iff.mpr (by decide)) dL_law_545 ?_
  refine W.eq (g2 := F0 m 546 ls [.int (xs 4), .int (xs 3), .int (xs 2), .int (xs 1), .ref a]) rfl ?_
  refine lv_aload_n hx hb dL_law_546 rfl (lv_at hl 3 rfl) ?_
  refine lv_iload_n hx hb dL_law_547 rfl (lv_at hl 0 rfl) ?_
  refine lv_iconst (v := 5) hx hb dL_law_548 (by decide) ?_
  refine lv_iadd hx hb dL_law_549 ?_
  refine W.eq (g2 := F0 m 550 ls [.int 5, .ref b0, .int (xs 4), .int (xs 3), .int (xs 2), .int (xs 1), .ref a]) rfl ?_
  refine va_sld hx hb hX hbl (Nat.not_le.mpr hbl) hS (vp_in_iff.mpr (by decide)) dL_law_550 ?_
  refine W.eq (g2 := F0 m 551 ls [.int (xs 5), .int (xs 4), .int (xs 3), .int (xs 2), .int (xs 1), .ref a]) rfl ?_
  refine x_V (As := [.int (xs 1), .int (xs 2), .int (xs 3), .int (xs 4), .int (xs 5)]) (rest := []) C (f_X9_tells l K G H (xs 1) (xs 2) (xs 3) (xs 4) (xs 5) hT ga gw fx) yo_X9_tells wM_L_56 ⟨⟨by decide, by decide⟩, show _ ≤ 600000 by omega, show _ ≤ 7302250 by omega⟩ (x_rv C hT (ci := 9) rfl ga rg_68) rfl hl.1 rfl (Nat.le_of_ble_eq_true rfl) dL_law_551 hS (AE_new hN hS.1) (fun v1 H1 locs1 p1 z1 k1 hS1 => ?_)
  obtain ⟨⟨r1, hv1, q1⟩, G1, m1, hT1⟩ := p1
  subst hv1
  refine W.eq (g2 := F0 m 554 ls [.int r1]) rfl ?_
  have gb1 := (m1 b (hT.lt gb)).trans gb
  have fm1 := fm.kept (x_lt hT k1 gb (by decide))
  have hN1 : ∀ q, q < s.heap.size → G1 q = none := fun q hq => (m1 q (Nat.lt_of_lt_of_le hq hS.1)).trans (hN q hq)
  refine lv_aload_n hx hb dL_law_554 rfl (lv_at hl 1 rfl) ?_
  refine lv_aload_n hx hb dL_law_555 rfl (lv_at hl 3 rfl) ?_
  refine lv_iload_n hx hb dL_law_556 rfl (lv_at hl 0 rfl) ?_
  refine lv_iconst (v := 1) hx hb dL_law_557 (by decide) ?_
  refine lv_iadd hx hb dL_law_558 ?_
  refine W.eq (g2 := F0 m 559 ls [.int 1, .ref b0, .ref b, .int r1]) rfl ?_
  refine va_sld hx hb hX hbl (Nat.not_le.mpr hbl) hS1 (vp_in_iff.mpr (by decide)) dL_law_559 ?_
  refine W.eq (g2 := F0 m 560 ls [.int (xs 1), .ref b, .int r1]) rfl ?_
  refine lv_aload_n hx hb dL_law_560 rfl (lv_at hl 3 rfl) ?_
  refine lv_iload_n hx hb dL_law_561 rfl (lv_at hl 0 rfl) ?_
  refine lv_iconst (v := 2) hx hb dL_law_562 (by decide) ?_
  refine lv_iadd hx hb dL_law_563 ?_
  refine W.eq (g2 := F0 m 564 ls [.int 2, .ref b0, .int (xs 1), .ref b, .int r1]) rfl ?_
  refine va_sld hx hb hX hbl (Nat.not_le.mpr hbl) hS1 (vp_in_iff.mpr (by decide)) dL_law_564 ?_
  refine W.eq (g2 := F0 m 565 ls [.int (xs 2), .int (xs 1), .ref b, .int r1]) rfl ?_
  refine lv_aload_n hx hb dL_law_565 rfl (lv_at hl 3 rfl) ?_
  refine lv_iload_n hx hb dL_law_566 rfl (lv_at hl 0 rfl) ?_
  refine lv_iconst (v := 3) hx hb dL_law_567 (by decide) ?_
  refine lv_iadd hx hb dL_law_568 ?_
  refine W.eq (g2 := F0 m 569 ls [.int 3, .ref b0, .int (xs 2), .int (xs 1), .ref b, .int r1]) rfl ?_
  refine va_sld hx hb hX hbl (Nat.not_le.mpr hbl) hS1 (vp_in_iff.mpr (by decide)) dL_law_569 ?_
  refine W.eq (g2 := F0 m 570 ls [.int (xs 3), .int (xs 2), .int (xs 1), .ref b, .int r1]) rfl ?_
  refine lv_aload_n hx hb dL_law_570 rfl (lv_at hl 3 rfl) ?_
  refine lv_iload_n hx hb dL_law_571 rfl (lv_at hl 0 rfl) ?_
  refine lv_iconst (v := 4) hx hb dL_law_572 (by decide) ?_
  refine lv_iadd hx hb dL_law_573 ?_
  refine W.eq (g2 := F0 m 574 ls [.int 4, .ref b0, .int (xs 3), .int (xs 2), .int (xs 1), .ref b, .int r1]) rfl ?_
  refine va_sld hx hb hX hbl (Nat.not_le.mpr hbl) hS1 (vp_in_iff.mpr (by decide)) dL_law_574 ?_
  refine W.eq (g2 := F0 m 575 ls [.int (xs 4), .int (xs 3), .int (xs 2), .int (xs 1), .ref b, .int r1]) rfl ?_
  refine lv_aload_n hx hb dL_law_575 rfl (lv_at hl 3 rfl) ?_
  refine lv_iload_n hx hb dL_law_576 rfl (lv_at hl 0 rfl) ?_
  refine lv_iconst (v := 5) hx hb dL_law_577 (by decide) ?_
  refine lv_iadd hx hb dL_law_578 ?_
  refine W.eq (g2 := F0 m 579 ls [.int 5, .ref b0, .int (xs 4), .int (xs 3), .int (xs 2), .int (xs 1), .ref b, .int r1]) rfl ?_
  refine va_sld hx hb hX hbl (Nat.not_le.mpr hbl) hS1 (vp_in_iff.mpr (by decide)) dL_law_579 ?_
  refine W.eq (g2 := F0 m 580 ls [.int (xs 5), .int (xs 4), .int (xs 3), .int (xs 2), .int (xs 1), .ref b, .int r1]) rfl ?_
  refine x_V (As := [.int (xs 1), .int (xs 2), .int (xs 3), .int (xs 4), .int (xs 5)]) (rest := [.int r1]) C (f_X10_tells l K G1 H1 (xs 1) (xs 2) (xs 3) (xs 4) (xs 5) hT1 gb1 fm1) yo_X10_tells wM_L_59 ⟨⟨by decide, by decide⟩, show _ ≤ 600000 by omega, show _ ≤ 7302250 by omega⟩ (x_rv C hT1 (ci := 10) rfl gb1 rg_112) rfl hl.1 rfl (Nat.le_of_ble_eq_true rfl) dL_law_580 hS1 (AE_new hN1 hS1.1) (fun v2 H2 locs2 p2 z2 k2 hS2 => ?_)
  obtain ⟨⟨r2, hv2, q2⟩, G2, m2, hT2⟩ := p2
  subst hv2
  refine W.eq (g2 := F0 m 583 ls [.int r2, .int r1]) rfl ?_
  refine lv_icmp_eq (tgt := 1509) hx hb dL_law_583 (by decide) (fun ce => ?_) (fun ce => ?_)
  · exact lw_tail D hS2 hl (by omega) (by omega)
  · exfalso
    have := i_ne ce
    omega
set_option maxRecDepth 100000 in
set_option maxHeartbeats 1000000 in
theorem lw_c10 {p : Program} {l : Launch} {e : Env} {s : State} {m : MethodId} {below : List Frame} {meth : Method} {c : Code} {K : KE} {b0 : Nat} {xs : Nat → Int32} {G : Nat → Option Nat} {H : Heap} {locs : List Loc} {a w b : Nat} {cells slots : Nat} {ls : Array Slot} (D : LC p K s m meth c b0 6 xs) (S : SX K s G H locs a w b) (hl : lv_has ls 4 [(3, .int 0), (2, .ref b), (1, .ref a), (0, .ref b0)]) (hc : cells ≤ 300000) (hs : slots ≤ 3000000) : W p l e room_1 s m #[Value.ref b0] below meth c H locs cells slots (lw_Z below #[Value.ref b0] s) (F0 m 588 ls []) := by
  obtain ⟨C, hX, hbl⟩ := id D
  obtain ⟨hx, hb, hml, hown, hts, hKT, hr, hlocks, hnm⟩ := id C
  obtain ⟨hT, hN, ga, gw, gb, fx, fm, hS⟩ := S
  refine lv_aload_n hx hb dL_law_588 rfl (lv_at hl 2 rfl) ?_
  refine lv_aload_n hx hb dL_law_589 rfl (lv_at hl 3 rfl) ?_
  refine lv_iload_n hx hb dL_law_590 rfl (lv_at hl 0 rfl) ?_
  refine lv_iconst (v := 1) hx hb dL_law_591 (by decide) ?_
  refine lv_iadd hx hb dL_law_592 ?_
  refine W.eq (g2 := F0 m 593 ls [.int 1, .ref b0, .ref a]) rfl ?_
  refine va_sld hx hb hX hbl (Nat.not_le.mpr hbl) hS (vp_in_iff.mpr (by decide)) dL_law_593 ?_
  refine W.eq (g2 := F0 m 594 ls [.int (xs 1), .ref a]) rfl ?_
  refine lv_aload_n hx hb dL_law_594 rfl (lv_at hl 3 rfl) ?_
  refine lv_iload_n hx hb dL_law_595 rfl (lv_at hl 0 rfl) ?_
  refine lv_iconst (v := 2) hx hb dL_law_596 (by decide) ?_
  refine lv_iadd hx hb dL_law_597 ?_
  refine W.eq (g2 := F0 m 598 ls [.int 2, .ref b0, .int (xs 1), .ref a]) rfl ?_
  refine va_sld hx hb hX hbl (Nat.not_le.mpr hbl) hS (vp_in_iff.mpr (by decide)) dL_law_598 ?_
  refine W.eq (g2 := F0 m 599 ls [.int (xs 2), .int (xs 1), .ref a]) rfl ?_
  refine x_V (As := [.int (xs 1), .int (xs 2)]) (rest := []) C (f_X9_tone l K G H (xs 1) (xs 2) hT ga gw fx) yo_X9_tone wM_L_60 ⟨⟨by decide, by decide⟩, show _ ≤ 600000 by omega, show _ ≤ 7302250 by omega⟩ (x_rv C hT (ci := 9) rfl ga rg_68) rfl hl.1 rfl (Nat.le_of_ble_eq_true rfl) dL_law_599 hS (AE_new hN hS.1) (fun v1 H1 locs1 p1 z1 k1 hS1 => ?_)
  obtain ⟨⟨r1, hv1, q1⟩, G1, m1, hT1⟩ := p1
  subst hv1
  refine W.eq (g2 := F0 m 602 ls [.int r1]) rfl ?_
  have gb1 := (m1 b (hT.lt gb)).trans gb
  have fm1 := fm.kept (x_lt hT k1 gb (by decide))
  have hN1 : ∀ q, q < s.heap.size → G1 q = none := fun q hq => (m1 q (Nat.lt_of_lt_of_le hq hS.1)).trans (hN q hq)
  refine lv_aload_n hx hb dL_law_602 rfl (lv_at hl 1 rfl) ?_
  refine lv_aload_n hx hb dL_law_603 rfl (lv_at hl 3 rfl) ?_
  refine lv_iload_n hx hb dL_law_604 rfl (lv_at hl 0 rfl) ?_
  refine lv_iconst (v := 1) hx hb dL_law_605 (by decide) ?_
  refine lv_iadd hx hb dL_law_606 ?_
  refine W.eq (g2 := F0 m 607 ls [.int 1, .ref b0, .ref b, .int r1]) rfl ?_
  refine va_sld hx hb hX hbl (Nat.not_le.mpr hbl) hS1 (vp_in_iff.mpr (by decide)) dL_law_607 ?_
  refine W.eq (g2 := F0 m 608 ls [.int (xs 1), .ref b, .int r1]) rfl ?_
  refine lv_aload_n hx hb dL_law_608 rfl (lv_at hl 3 rfl) ?_
  refine lv_iload_n hx hb dL_law_609 rfl (lv_at hl 0 rfl) ?_
  refine lv_iconst (v := 2) hx hb dL_law_610 (by decide) ?_
  refine lv_iadd hx hb dL_law_611 ?_
  refine W.eq (g2 := F0 m 612 ls [.int 2, .ref b0, .int (xs 1), .ref b, .int r1]) rfl ?_
  refine va_sld hx hb hX hbl (Nat.not_le.mpr hbl) hS1 (vp_in_iff.mpr (by decide)) dL_law_612 ?_
  refine W.eq (g2 := F0 m 613 ls [.int (xs 2), .int (xs 1), .ref b, .int r1]) rfl ?_
  refine x_V (As := [.int (xs 1), .int (xs 2)]) (rest := [.int r1]) C (f_X10_tone l K G1 H1 (xs 1) (xs 2) hT1 gb1 fm1) yo_X10_tone wM_L_63 ⟨⟨by decide, by decide⟩, show _ ≤ 600000 by omega, show _ ≤ 7302250 by omega⟩ (x_rv C hT1 (ci := 10) rfl gb1 rg_112) rfl hl.1 rfl (Nat.le_of_ble_eq_true rfl) dL_law_613 hS1 (AE_new hN1 hS1.1) (fun v2 H2 locs2 p2 z2 k2 hS2 => ?_)
  obtain ⟨⟨r2, hv2, q2⟩, G2, m2, hT2⟩ := p2
  subst hv2
  refine W.eq (g2 := F0 m 616 ls [.int r2, .int r1]) rfl ?_
  refine lv_icmp_eq (tgt := 1509) hx hb dL_law_616 (by decide) (fun ce => ?_) (fun ce => ?_)
  · exact lw_tail D hS2 hl (by omega) (by omega)
  · exfalso
    have := i_ne ce
    omega
set_option maxRecDepth 100000 in
set_option maxHeartbeats 1000000 in
theorem lw_c11 {p : Program} {l : Launch} {e : Env} {s : State} {m : MethodId} {below : List Frame} {meth : Method} {c : Code} {K : KE} {b0 : Nat} {xs : Nat → Int32} {G : Nat → Option Nat} {H : Heap} {locs : List Loc} {a w b : Nat} {cells slots : Nat} {ls : Array Slot} (D : LC p K s m meth c b0 6 xs) (S : SX K s G H locs a w b) (hl : lv_has ls 4 [(3, .int 0), (2, .ref b), (1, .ref a), (0, .ref b0)]) (hc : cells ≤ 300000) (hs : slots ≤ 3000000) : W p l e room_1 s m #[Value.ref b0] below meth c H locs cells slots (lw_Z below #[Value.ref b0] s) (F0 m 621 ls []) := by
  obtain ⟨C, hX, hbl⟩ := id D
  obtain ⟨hx, hb, hml, hown, hts, hKT, hr, hlocks, hnm⟩ := id C
  obtain ⟨hT, hN, ga, gw, gb, fx, fm, hS⟩ := S
  refine lv_aload_n hx hb dL_law_621 rfl (lv_at hl 2 rfl) ?_
  refine lv_aload_n hx hb dL_law_622 rfl (lv_at hl 3 rfl) ?_
  refine lv_iload_n hx hb dL_law_623 rfl (lv_at hl 0 rfl) ?_
  refine lv_iconst (v := 1) hx hb dL_law_624 (by decide) ?_
  refine lv_iadd hx hb dL_law_625 ?_
  refine W.eq (g2 := F0 m 626 ls [.int 1, .ref b0, .ref a]) rfl ?_
  refine va_sld hx hb hX hbl (Nat.not_le.mpr hbl) hS (vp_in_iff.mpr (by decide)) dL_law_626 ?_
  refine W.eq (g2 := F0 m 627 ls [.int (xs 1), .ref a]) rfl ?_
  refine lv_aload_n hx hb dL_law_627 rfl (lv_at hl 3 rfl) ?_
  refine lv_iload_n hx hb dL_law_628 rfl (lv_at hl 0 rfl) ?_
  refine lv_iconst (v := 2) hx hb dL_law_629 (by decide) ?_
  refine lv_iadd hx hb dL_law_630 ?_
  refine W.eq (g2 := F0 m 631 ls [.int 2, .ref b0, .int (xs 1), .ref a]) rfl ?_
  refine va_sld hx hb hX hbl (Nat.not_le.mpr hbl) hS (vp_in_iff.mpr (by decide)) dL_law_631 ?_
  refine W.eq (g2 := F0 m 632 ls [.int (xs 2), .int (xs 1), .ref a]) rfl ?_
  refine lv_aload_n hx hb dL_law_632 rfl (lv_at hl 3 rfl) ?_
  refine lv_iload_n hx hb dL_law_633 rfl (lv_at hl 0 rfl) ?_
  refine lv_iconst (v := 3) hx hb dL_law_634 (by decide) ?_
  refine lv_iadd hx hb dL_law_635 ?_
  refine W.eq (g2 := F0 m 636 ls [.int 3, .ref b0, .int (xs 2), .int (xs 1), .ref a]) rfl ?_
  refine va_sld hx hb hX hbl (Nat.not_le.mpr hbl) hS (vp_in_iff.mpr (by decide)) dL_law_636 ?_
  refine W.eq (g2 := F0 m 637 ls [.int (xs 3), .int (xs 2), .int (xs 1), .ref a]) rfl ?_
  refine x_V (As := [.int (xs 1), .int (xs 2), .int (xs 3)]) (rest := []) C (f_X9_shave l K G H (xs 1) (xs 2) (xs 3) hT ga gw fx) yo_X9_shave wM_L_64 ⟨⟨by decide, by decide⟩, show _ ≤ 600000 by omega, show _ ≤ 7302250 by omega⟩ (x_rv C hT (ci := 9) rfl ga rg_68) rfl hl.1 rfl (Nat.le_of_ble_eq_true rfl) dL_law_637 hS (AE_new hN hS.1) (fun v1 H1 locs1 p1 z1 k1 hS1 => ?_)
  obtain ⟨⟨r1, hv1, q1⟩, G1, m1, hT1⟩ := p1
  subst hv1
  refine W.eq (g2 := F0 m 640 ls [.int r1]) rfl ?_
  have gb1 := (m1 b (hT.lt gb)).trans gb
  have fm1 := fm.kept (x_lt hT k1 gb (by decide))
  have hN1 : ∀ q, q < s.heap.size → G1 q = none := fun q hq => (m1 q (Nat.lt_of_lt_of_le hq hS.1)).trans (hN q hq)
  refine lv_aload_n hx hb dL_law_640 rfl (lv_at hl 1 rfl) ?_
  refine lv_aload_n hx hb dL_law_641 rfl (lv_at hl 3 rfl) ?_
  refine lv_iload_n hx hb dL_law_642 rfl (lv_at hl 0 rfl) ?_
  refine lv_iconst (v := 1) hx hb dL_law_643 (by decide) ?_
  refine lv_iadd hx hb dL_law_644 ?_
  refine W.eq (g2 := F0 m 645 ls [.int 1, .ref b0, .ref b, .int r1]) rfl ?_
  refine va_sld hx hb hX hbl (Nat.not_le.mpr hbl) hS1 (vp_in_iff.mpr (by decide)) dL_law_645 ?_
  refine W.eq (g2 := F0 m 646 ls [.int (xs 1), .ref b, .int r1]) rfl ?_
  refine lv_aload_n hx hb dL_law_646 rfl (lv_at hl 3 rfl) ?_
  refine lv_iload_n hx hb dL_law_647 rfl (lv_at hl 0 rfl) ?_
  refine lv_iconst (v := 2) hx hb dL_law_648 (by decide) ?_
  refine lv_iadd hx hb dL_law_649 ?_
  refine W.eq (g2 := F0 m 650 ls [.int 2, .ref b0, .int (xs 1), .ref b, .int r1]) rfl ?_
  refine va_sld hx hb hX hbl (Nat.not_le.mpr hbl) hS1 (vp_in_iff.mpr (by decide)) dL_law_650 ?_
  refine W.eq (g2 := F0 m 651 ls [.int (xs 2), .int (xs 1), .ref b, .int r1]) rfl ?_
  refine lv_aload_n hx hb dL_law_651 rfl (lv_at hl 3 rfl) ?_
  refine lv_iload_n hx hb dL_law_652 rfl (lv_at hl 0 rfl) ?_
  refine lv_iconst (v := 3) hx hb dL_law_653 (by decide) ?_
  refine lv_iadd hx hb dL_law_654 ?_
  refine W.eq (g2 := F0 m 655 ls [.int 3, .ref b0, .int (xs 2), .int (xs 1), .ref b, .int r1]) rfl ?_
  refine va_sld hx hb hX hbl (Nat.not_le.mpr hbl) hS1 (vp_in_iff.mpr (by decide)) dL_law_655 ?_
  refine W.eq (g2 := F0 m 656 ls [.int (xs 3), .int (xs 2), .int (xs 1), .ref b, .int r1]) rfl ?_
  refine x_V (As := [.int (xs 1), .int (xs 2), .int (xs 3)]) (rest := [.int r1]) C (f_X10_shave l K G1 H1 (xs 1) (xs 2) (xs 3) hT1 gb1 fm1) yo_X10_shave wM_L_67 ⟨⟨by decide, by decide⟩, show _ ≤ 600000 by omega, show _ ≤ 7302250 by omega⟩ (x_rv C hT1 (ci := 10) rfl gb1 rg_112) rfl hl.1 rfl (Nat.le_of_ble_eq_true rfl) dL_law_656 hS1 (AE_new hN1 hS1.1) (fun v2 H2 locs2 p2 z2 k2 hS2 => ?_)
  obtain ⟨⟨r2, hv2, q2⟩, G2, m2, hT2⟩ := p2
  subst hv2
  refine W.eq (g2 := F0 m 659 ls [.int r2, .int r1]) rfl ?_
  refine lv_icmp_eq (tgt := 1509) hx hb dL_law_659 (by decide) (fun ce => ?_) (fun ce => ?_)
  · exact lw_tail D hS2 hl (by omega) (by omega)
  · exfalso
    have := i_ne ce
    omega
set_option maxRecDepth 100000 in
set_option maxHeartbeats 1000000 in
theorem lw_c12 {p : Program} {l : Launch} {e : Env} {s : State} {m : MethodId} {below : List Frame} {meth : Method} {c : Code} {K : KE} {b0 : Nat} {xs : Nat → Int32} {G : Nat → Option Nat} {H : Heap} {locs : List Loc} {a w b : Nat} {cells slots : Nat} {ls : Array Slot} (D : LC p K s m meth c b0 6 xs) (S : SX K s G H locs a w b) (hl : lv_has ls 4 [(3, .int 0), (2, .ref b), (1, .ref a), (0, .ref b0)]) (hc : cells ≤ 300000) (hs : slots ≤ 3000000) : W p l e room_1 s m #[Value.ref b0] below meth c H locs cells slots (lw_Z below #[Value.ref b0] s) (F0 m 664 ls []) := by
  obtain ⟨C, hX, hbl⟩ := id D
  obtain ⟨hx, hb, hml, hown, hts, hKT, hr, hlocks, hnm⟩ := id C
  obtain ⟨hT, hN, ga, gw, gb, fx, fm, hS⟩ := S
  refine lv_aload_n hx hb dL_law_664 rfl (lv_at hl 2 rfl) ?_
  refine lv_aload_n hx hb dL_law_665 rfl (lv_at hl 3 rfl) ?_
  refine lv_iload_n hx hb dL_law_666 rfl (lv_at hl 0 rfl) ?_
  refine lv_iconst (v := 1) hx hb dL_law_667 (by decide) ?_
  refine lv_iadd hx hb dL_law_668 ?_
  refine W.eq (g2 := F0 m 669 ls [.int 1, .ref b0, .ref a]) rfl ?_
  refine va_sld hx hb hX hbl (Nat.not_le.mpr hbl) hS (vp_in_iff.mpr (by decide)) dL_law_669 ?_
  refine W.eq (g2 := F0 m 670 ls [.int (xs 1), .ref a]) rfl ?_
  refine lv_aload_n hx hb dL_law_670 rfl (lv_at hl 3 rfl) ?_
  refine lv_iload_n hx hb dL_law_671 rfl (lv_at hl 0 rfl) ?_
  refine lv_iconst (v := 2) hx hb dL_law_672 (by decide) ?_
  refine lv_iadd hx hb dL_law_673 ?_
  refine W.eq (g2 := F0 m 674 ls [.int 2, .ref b0, .int (xs 1), .ref a]) rfl ?_
  refine va_sld hx hb hX hbl (Nat.not_le.mpr hbl) hS (vp_in_iff.mpr (by decide)) dL_law_674 ?_
  refine W.eq (g2 := F0 m 675 ls [.int (xs 2), .int (xs 1), .ref a]) rfl ?_
  refine lv_aload_n hx hb dL_law_675 rfl (lv_at hl 3 rfl) ?_
  refine lv_iload_n hx hb dL_law_676 rfl (lv_at hl 0 rfl) ?_
  refine lv_iconst (v := 3) hx hb dL_law_677 (by decide) ?_
  refine lv_iadd hx hb dL_law_678 ?_
  refine W.eq (g2 := F0 m 679 ls [.int 3, .ref b0, .int (xs 2), .int (xs 1), .ref a]) rfl ?_
  refine va_sld hx hb hX hbl (Nat.not_le.mpr hbl) hS (vp_in_iff.mpr (by decide)) dL_law_679 ?_
  refine W.eq (g2 := F0 m 680 ls [.int (xs 3), .int (xs 2), .int (xs 1), .ref a]) rfl ?_
  refine x_V (As := [.int (xs 1), .int (xs 2), .int (xs 3)]) (rest := []) C (f_X9_pass l K G H (xs 1) (xs 2) (xs 3) hT ga gw fx) yo_X9_pass wM_L_68 ⟨⟨by decide, by decide⟩, show _ ≤ 600000 by omega, show _ ≤ 7302250 by omega⟩ (x_rv C hT (ci := 9) rfl ga rg_68) rfl hl.1 rfl (Nat.le_of_ble_eq_true rfl) dL_law_680 hS (AE_new hN hS.1) (fun v1 H1 locs1 p1 z1 k1 hS1 => ?_)
  obtain ⟨⟨r1, hv1, q1⟩, G1, m1, hT1⟩ := p1
  subst hv1
  refine W.eq (g2 := F0 m 683 ls [.int r1]) rfl ?_
  have gb1 := (m1 b (hT.lt gb)).trans gb
  have fm1 := fm.kept (x_lt hT k1 gb (by decide))
  have hN1 : ∀ q, q < s.heap.size → G1 q = none := fun q hq => (m1 q (Nat.lt_of_lt_of_le hq hS.1)).trans (hN q hq)
  refine lv_aload_n hx hb dL_law_683 rfl (lv_at hl 1 rfl) ?_
  refine lv_aload_n hx hb dL_law_684 rfl (lv_at hl 3 rfl) ?_
  refine lv_iload_n hx hb dL_law_685 rfl (lv_at hl 0 rfl) ?_
  refine lv_iconst (v := 1) hx hb dL_law_686 (by decide) ?_
  refine lv_iadd hx hb dL_law_687 ?_
  refine W.eq (g2 := F0 m 688 ls [.int 1, .ref b0, .ref b, .int r1]) rfl ?_
  refine va_sld hx hb hX hbl (Nat.not_le.mpr hbl) hS1 (vp_in_iff.mpr (by decide)) dL_law_688 ?_
  refine W.eq (g2 := F0 m 689 ls [.int (xs 1), .ref b, .int r1]) rfl ?_
  refine lv_aload_n hx hb dL_law_689 rfl (lv_at hl 3 rfl) ?_
  refine lv_iload_n hx hb dL_law_690 rfl (lv_at hl 0 rfl) ?_
  refine lv_iconst (v := 2) hx hb dL_law_691 (by decide) ?_
  refine lv_iadd hx hb dL_law_692 ?_
  refine W.eq (g2 := F0 m 693 ls [.int 2, .ref b0, .int (xs 1), .ref b, .int r1]) rfl ?_
  refine va_sld hx hb hX hbl (Nat.not_le.mpr hbl) hS1 (vp_in_iff.mpr (by decide)) dL_law_693 ?_
  refine W.eq (g2 := F0 m 694 ls [.int (xs 2), .int (xs 1), .ref b, .int r1]) rfl ?_
  refine lv_aload_n hx hb dL_law_694 rfl (lv_at hl 3 rfl) ?_
  refine lv_iload_n hx hb dL_law_695 rfl (lv_at hl 0 rfl) ?_
  refine lv_iconst (v := 3) hx hb dL_law_696 (by decide) ?_
  refine lv_iadd hx hb dL_law_697 ?_
  refine W.eq (g2 := F0 m 698 ls [.int 3, .ref b0, .int (xs 2), .int (xs 1), .ref b, .int r1]) rfl ?_
  refine va_sld hx hb hX hbl (Nat.not_le.mpr hbl) hS1 (vp_in_iff.mpr (by decide)) dL_law_698 ?_
  refine W.eq (g2 := F0 m 699 ls [.int (xs 3), .int (xs 2), .int (xs 1), .ref b, .int r1]) rfl ?_
  refine x_V (As := [.int (xs 1), .int (xs 2), .int (xs 3)]) (rest := [.int r1]) C (f_X10_pass l K G1 H1 (xs 1) (xs 2) (xs 3) hT1 gb1 fm1) yo_X10_pass wM_L_71 ⟨⟨by decide, by decide⟩, show _ ≤ 600000 by omega, show _ ≤ 7302250 by omega⟩ (x_rv C hT1 (ci := 10) rfl gb1 rg_112) rfl hl.1 rfl (Nat.le_of_ble_eq_true rfl) dL_law_699 hS1 (AE_new hN1 hS1.1) (fun v2 H2 locs2 p2 z2 k2 hS2 => ?_)
  obtain ⟨⟨r2, hv2, q2⟩, G2, m2, hT2⟩ := p2
  subst hv2
  refine W.eq (g2 := F0 m 702 ls [.int r2, .int r1]) rfl ?_
  refine lv_icmp_eq (tgt := 1509) hx hb dL_law_702 (by decide) (fun ce => ?_) (fun ce => ?_)
  · exact lw_tail D hS2 hl (by omega) (by omega)
  · exfalso
    have := i_ne ce
    omega
set_option maxRecDepth 100000 in
set_option maxHeartbeats 1000000 in
theorem lw_c13 {p : Program} {l : Launch} {e : Env} {s : State} {m : MethodId} {below : List Frame} {meth : Method} {c : Code} {K : KE} {b0 : Nat} {xs : Nat → Int32} {G : Nat → Option Nat} {H : Heap} {locs : List Loc} {a w b : Nat} {cells slots : Nat} {ls : Array Slot} (D : LC p K s m meth c b0 6 xs) (S : SX K s G H locs a w b) (hl : lv_has ls 4 [(3, .int 0), (2, .ref b), (1, .ref a), (0, .ref b0)]) (hc : cells ≤ 300000) (hs : slots ≤ 3000000) : W p l e room_1 s m #[Value.ref b0] below meth c H locs cells slots (lw_Z below #[Value.ref b0] s) (F0 m 707 ls []) := by
  obtain ⟨C, hX, hbl⟩ := id D
  obtain ⟨hx, hb, hml, hown, hts, hKT, hr, hlocks, hnm⟩ := id C
  obtain ⟨hT, hN, ga, gw, gb, fx, fm, hS⟩ := S
  refine lv_aload_n hx hb dL_law_707 rfl (lv_at hl 2 rfl) ?_
  refine lv_aload_n hx hb dL_law_708 rfl (lv_at hl 3 rfl) ?_
  refine lv_iload_n hx hb dL_law_709 rfl (lv_at hl 0 rfl) ?_
  refine lv_iconst (v := 1) hx hb dL_law_710 (by decide) ?_
  refine lv_iadd hx hb dL_law_711 ?_
  refine W.eq (g2 := F0 m 712 ls [.int 1, .ref b0, .ref a]) rfl ?_
  refine va_sld hx hb hX hbl (Nat.not_le.mpr hbl) hS (vp_in_iff.mpr (by decide)) dL_law_712 ?_
  refine W.eq (g2 := F0 m 713 ls [.int (xs 1), .ref a]) rfl ?_
  refine lv_aload_n hx hb dL_law_713 rfl (lv_at hl 3 rfl) ?_
  refine lv_iload_n hx hb dL_law_714 rfl (lv_at hl 0 rfl) ?_
  refine lv_iconst (v := 2) hx hb dL_law_715 (by decide) ?_
  refine lv_iadd hx hb dL_law_716 ?_
  refine W.eq (g2 := F0 m 717 ls [.int 2, .ref b0, .int (xs 1), .ref a]) rfl ?_
  refine va_sld hx hb hX hbl (Nat.not_le.mpr hbl) hS (vp_in_iff.mpr (by decide)) dL_law_717 ?_
  refine W.eq (g2 := F0 m 718 ls [.int (xs 2), .int (xs 1), .ref a]) rfl ?_
  refine lv_aload_n hx hb dL_law_718 rfl (lv_at hl 3 rfl) ?_
  refine lv_iload_n hx hb dL_law_719 rfl (lv_at hl 0 rfl) ?_
  refine lv_iconst (v := 3) hx hb dL_law_720 (by decide) ?_
  refine lv_iadd hx hb dL_law_721 ?_
  refine W.eq (g2 := F0 m 722 ls [.int 3, .ref b0, .int (xs 2), .int (xs 1), .ref a]) rfl ?_
  refine va_sld hx hb hX hbl (Nat.not_le.mpr hbl) hS (vp_in_iff.mpr (by decide)) dL_law_722 ?_
  refine W.eq (g2 := F0 m 723 ls [.int (xs 3), .int (xs 2), .int (xs 1), .ref a]) rfl ?_
  refine x_V (As := [.int (xs 1), .int (xs 2), .int (xs 3)]) (rest := []) C (f_X9_goal l K G H (xs 1) (xs 2) (xs 3) hT ga gw fx) yo_X9_goal wM_L_72 ⟨⟨by decide, by decide⟩, show _ ≤ 600000 by omega, show _ ≤ 7302250 by omega⟩ (x_rv C hT (ci := 9) rfl ga rg_68) rfl hl.1 rfl (Nat.le_of_ble_eq_true rfl) dL_law_723 hS (AE_new hN hS.1) (fun v1 H1 locs1 p1 z1 k1 hS1 => ?_)
  obtain ⟨⟨r1, hv1, q1⟩, G1, m1, hT1⟩ := p1
  subst hv1
  refine W.eq (g2 := F0 m 726 ls [.int r1]) rfl ?_
  have gb1 := (m1 b (hT.lt gb)).trans gb
  have fm1 := fm.kept (x_lt hT k1 gb (by decide))
  have hN1 : ∀ q, q < s.heap.size → G1 q = none := fun q hq => (m1 q (Nat.lt_of_lt_of_le hq hS.1)).trans (hN q hq)
  refine lv_aload_n hx hb dL_law_726 rfl (lv_at hl 1 rfl) ?_
  refine lv_aload_n hx hb dL_law_727 rfl (lv_at hl 3 rfl) ?_
  refine lv_iload_n hx hb dL_law_728 rfl (lv_at hl 0 rfl) ?_
  refine lv_iconst (v := 1) hx hb dL_law_729 (by decide) ?_
  refine lv_iadd hx hb dL_law_730 ?_
  refine W.eq (g2 := F0 m 731 ls [.int 1, .ref b0, .ref b, .int r1]) rfl ?_
  refine va_sld hx hb hX hbl (Nat.not_le.mpr hbl) hS1 (vp_in_iff.mpr (by decide)) dL_law_731 ?_
  refine W.eq (g2 := F0 m 732 ls [.int (xs 1), .ref b, .int r1]) rfl ?_
  refine lv_aload_n hx hb dL_law_732 rfl (lv_at hl 3 rfl) ?_
  refine lv_iload_n hx hb dL_law_733 rfl (lv_at hl 0 rfl) ?_
  refine lv_iconst (v := 2) hx hb dL_law_734 (by decide) ?_
  refine lv_iadd hx hb dL_law_735 ?_
  refine W.eq (g2 := F0 m 736 ls [.int 2, .ref b0, .int (xs 1), .ref b, .int r1]) rfl ?_
  refine va_sld hx hb hX hbl (Nat.not_le.mpr hbl) hS1 (vp_in_iff.mpr (by decide)) dL_law_736 ?_
  refine W.eq (g2 := F0 m 737 ls [.int (xs 2), .int (xs 1), .ref b, .int r1]) rfl ?_
  refine lv_aload_n hx hb dL_law_737 rfl (lv_at hl 3 rfl) ?_
  refine lv_iload_n hx hb dL_law_738 rfl (lv_at hl 0 rfl) ?_
  refine lv_iconst (v := 3) hx hb dL_law_739 (by decide) ?_
  refine lv_iadd hx hb dL_law_740 ?_
  refine W.eq (g2 := F0 m 741 ls [.int 3, .ref b0, .int (xs 2), .int (xs 1), .ref b, .int r1]) rfl ?_
  refine va_sld hx hb hX hbl (Nat.not_le.mpr hbl) hS1 (vp_in_iff.mpr (by decide)) dL_law_741 ?_
  refine W.eq (g2 := F0 m 742 ls [.int (xs 3), .int (xs 2), .int (xs 1), .ref b, .int r1]) rfl ?_
  refine x_V (As := [.int (xs 1), .int (xs 2), .int (xs 3)]) (rest := [.int r1]) C (f_X10_goal l K G1 H1 (xs 1) (xs 2) (xs 3) hT1 gb1 fm1) yo_X10_goal wM_L_75 ⟨⟨by decide, by decide⟩, show _ ≤ 600000 by omega, show _ ≤ 7302250 by omega⟩ (x_rv C hT1 (ci := 10) rfl gb1 rg_112) rfl hl.1 rfl (Nat.le_of_ble_eq_true rfl) dL_law_742 hS1 (AE_new hN1 hS1.1) (fun v2 H2 locs2 p2 z2 k2 hS2 => ?_)
  obtain ⟨⟨r2, hv2, q2⟩, G2, m2, hT2⟩ := p2
  subst hv2
  refine W.eq (g2 := F0 m 745 ls [.int r2, .int r1]) rfl ?_
  refine lv_icmp_eq (tgt := 1509) hx hb dL_law_745 (by decide) (fun ce => ?_) (fun ce => ?_)
  · exact lw_tail D hS2 hl (by omega) (by omega)
  · exfalso
    have := i_ne ce
    omega
set_option maxRecDepth 100000 in
set_option maxHeartbeats 1000000 in
theorem lw_c14 {p : Program} {l : Launch} {e : Env} {s : State} {m : MethodId} {below : List Frame} {meth : Method} {c : Code} {K : KE} {b0 : Nat} {xs : Nat → Int32} {G : Nat → Option Nat} {H : Heap} {locs : List Loc} {a w b : Nat} {cells slots : Nat} {ls : Array Slot} (D : LC p K s m meth c b0 6 xs) (S : SX K s G H locs a w b) (hl : lv_has ls 4 [(3, .int 0), (2, .ref b), (1, .ref a), (0, .ref b0)]) (hc : cells ≤ 300000) (hs : slots ≤ 3000000) : W p l e room_1 s m #[Value.ref b0] below meth c H locs cells slots (lw_Z below #[Value.ref b0] s) (F0 m 750 ls []) := by
  obtain ⟨C, hX, hbl⟩ := id D
  obtain ⟨hx, hb, hml, hown, hts, hKT, hr, hlocks, hnm⟩ := id C
  obtain ⟨hT, hN, ga, gw, gb, fx, fm, hS⟩ := S
  refine lv_aload_n hx hb dL_law_750 rfl (lv_at hl 2 rfl) ?_
  refine lv_aload_n hx hb dL_law_751 rfl (lv_at hl 3 rfl) ?_
  refine lv_iload_n hx hb dL_law_752 rfl (lv_at hl 0 rfl) ?_
  refine lv_iconst (v := 1) hx hb dL_law_753 (by decide) ?_
  refine lv_iadd hx hb dL_law_754 ?_
  refine W.eq (g2 := F0 m 755 ls [.int 1, .ref b0, .ref a]) rfl ?_
  refine va_sld hx hb hX hbl (Nat.not_le.mpr hbl) hS (vp_in_iff.mpr (by decide)) dL_law_755 ?_
  refine W.eq (g2 := F0 m 756 ls [.int (xs 1), .ref a]) rfl ?_
  refine x_V (As := [.int (xs 1)]) (rest := []) C (f_X9_slack l K G H (xs 1) hT ga gw fx) yo_X9_slack wM_L_76 ⟨⟨by decide, by decide⟩, show _ ≤ 600000 by omega, show _ ≤ 7302250 by omega⟩ (x_rv C hT (ci := 9) rfl ga rg_68) rfl hl.1 rfl (Nat.le_of_ble_eq_true rfl) dL_law_756 hS (AE_new hN hS.1) (fun v1 H1 locs1 p1 z1 k1 hS1 => ?_)
  obtain ⟨⟨r1, hv1, q1⟩, G1, m1, hT1⟩ := p1
  subst hv1
  refine W.eq (g2 := F0 m 759 ls [.int r1]) rfl ?_
  have gb1 := (m1 b (hT.lt gb)).trans gb
  have fm1 := fm.kept (x_lt hT k1 gb (by decide))
  have hN1 : ∀ q, q < s.heap.size → G1 q = none := fun q hq => (m1 q (Nat.lt_of_lt_of_le hq hS.1)).trans (hN q hq)
  refine lv_aload_n hx hb dL_law_759 rfl (lv_at hl 1 rfl) ?_
  refine lv_aload_n hx hb dL_law_760 rfl (lv_at hl 3 rfl) ?_
  refine lv_iload_n hx hb dL_law_761 rfl (lv_at hl 0 rfl) ?_
  refine lv_iconst (v := 1) hx hb dL_law_762 (by decide) ?_
  refine lv_iadd hx hb dL_law_763 ?_
  refine W.eq (g2 := F0 m 764 ls [.int 1, .ref b0, .ref b, .int r1]) rfl ?_
  refine va_sld hx hb hX hbl (Nat.not_le.mpr hbl) hS1 (vp_in_iff.mpr (by decide)) dL_law_764 ?_
  refine W.eq (g2 := F0 m 765 ls [.int (xs 1), .ref b, .int r1]) rfl ?_
  refine x_V (As := [.int (xs 1)]) (rest := [.int r1]) C (f_X10_slack l K G1 H1 (xs 1) hT1 gb1 fm1) yo_X10_slack wM_L_79 ⟨⟨by decide, by decide⟩, show _ ≤ 600000 by omega, show _ ≤ 7302250 by omega⟩ (x_rv C hT1 (ci := 10) rfl gb1 rg_112) rfl hl.1 rfl (Nat.le_of_ble_eq_true rfl) dL_law_765 hS1 (AE_new hN1 hS1.1) (fun v2 H2 locs2 p2 z2 k2 hS2 => ?_)
  obtain ⟨⟨r2, hv2, q2⟩, G2, m2, hT2⟩ := p2
  subst hv2
  refine W.eq (g2 := F0 m 768 ls [.int r2, .int r1]) rfl ?_
  refine lv_icmp_eq (tgt := 1509) hx hb dL_law_768 (by decide) (fun ce => ?_) (fun ce => ?_)
  · exact lw_tail D hS2 hl (by omega) (by omega)
  · exfalso
    have := i_ne ce
    omega
set_option maxRecDepth 100000 in
set_option maxHeartbeats 1000000 in
theorem lw_c15 {p : Program} {l : Launch} {e : Env} {s : State} {m : MethodId} {below : List Frame} {meth : Method} {c : Code} {K : KE} {b0 : Nat} {xs : Nat → Int32} {G : Nat → Option Nat} {H : Heap} {locs : List Loc} {a w b : Nat} {cells slots : Nat} {ls : Array Slot} (D : LC p K s m meth c b0 6 xs) (S : SX K s G H locs a w b) (hl : lv_has ls 4 [(3, .int 0), (2, .ref b), (1, .ref a), (0, .ref b0)]) (hc : cells ≤ 300000) (hs : slots ≤ 3000000) : W p l e room_1 s m #[Value.ref b0] below meth c H locs cells slots (lw_Z below #[Value.ref b0] s) (F0 m 773 ls []) := by
  obtain ⟨C, hX, hbl⟩ := id D
  obtain ⟨hx, hb, hml, hown, hts, hKT, hr, hlocks, hnm⟩ := id C
  obtain ⟨hT, hN, ga, gw, gb, fx, fm, hS⟩ := S
  refine lv_aload_n hx hb dL_law_773 rfl (lv_at hl 2 rfl) ?_
  refine lv_aload_n hx hb dL_law_774 rfl (lv_at hl 3 rfl) ?_
  refine lv_iload_n hx hb dL_law_775 rfl (lv_at hl 0 rfl) ?_
  refine lv_iconst (v := 1) hx hb dL_law_776 (by decide) ?_
  refine lv_iadd hx hb dL_law_777 ?_
  refine W.eq (g2 := F0 m 778 ls [.int 1, .ref b0, .ref a]) rfl ?_
  refine va_sld hx hb hX hbl (Nat.not_le.mpr hbl) hS (vp_in_iff.mpr (by decide)) dL_law_778 ?_
  refine W.eq (g2 := F0 m 779 ls [.int (xs 1), .ref a]) rfl ?_
  refine lv_aload_n hx hb dL_law_779 rfl (lv_at hl 3 rfl) ?_
  refine lv_iload_n hx hb dL_law_780 rfl (lv_at hl 0 rfl) ?_
  refine lv_iconst (v := 2) hx hb dL_law_781 (by decide) ?_
  refine lv_iadd hx hb dL_law_782 ?_
  refine W.eq (g2 := F0 m 783 ls [.int 2, .ref b0, .int (xs 1), .ref a]) rfl ?_
  refine va_sld hx hb hX hbl (Nat.not_le.mpr hbl) hS (vp_in_iff.mpr (by decide)) dL_law_783 ?_
  refine W.eq (g2 := F0 m 784 ls [.int (xs 2), .int (xs 1), .ref a]) rfl ?_
  refine x_V (As := [.int (xs 1), .int (xs 2)]) (rest := []) C (f_X9_state l K G H (xs 1) (xs 2) hT ga gw fx) yo_X9_state wM_L_80 ⟨⟨by decide, by decide⟩, show _ ≤ 600000 by omega, show _ ≤ 7302250 by omega⟩ (x_rv C hT (ci := 9) rfl ga rg_68) rfl hl.1 rfl (Nat.le_of_ble_eq_true rfl) dL_law_784 hS (AE_new hN hS.1) (fun v1 H1 locs1 p1 z1 k1 hS1 => ?_)
  obtain ⟨⟨r1, hv1, q1⟩, G1, m1, hT1⟩ := p1
  subst hv1
  refine W.eq (g2 := F0 m 787 ls [.int r1]) rfl ?_
  have gb1 := (m1 b (hT.lt gb)).trans gb
  have fm1 := fm.kept (x_lt hT k1 gb (by decide))
  have hN1 : ∀ q, q < s.heap.size → G1 q = none := fun q hq => (m1 q (Nat.lt_of_lt_of_le hq hS.1)).trans (hN q hq)
  refine lv_aload_n hx hb dL_law_787 rfl (lv_at hl 1 rfl) ?_
  refine lv_aload_n hx hb dL_law_788 rfl (lv_at hl 3 rfl) ?_
  refine lv_iload_n hx hb dL_law_789 rfl (lv_at hl 0 rfl) ?_
  refine lv_iconst (v := 1) hx hb dL_law_790 (by decide) ?_
  refine lv_iadd hx hb dL_law_791 ?_
  refine W.eq (g2 := F0 m 792 ls [.int 1, .ref b0, .ref b, .int r1]) rfl ?_
  refine va_sld hx hb hX hbl (Nat.not_le.mpr hbl) hS1 (vp_in_iff.mpr (by decide)) dL_law_792 ?_
  refine W.eq (g2 := F0 m 793 ls [.int (xs 1), .ref b, .int r1]) rfl ?_
  refine lv_aload_n hx hb dL_law_793 rfl (lv_at hl 3 rfl) ?_
  refine lv_iload_n hx hb dL_law_794 rfl (lv_at hl 0 rfl) ?_
  refine lv_iconst (v := 2) hx hb dL_law_795 (by decide) ?_
  refine lv_iadd hx hb dL_law_796 ?_
  refine W.eq (g2 := F0 m 797 ls [.int 2, .ref b0, .int (xs 1), .ref b, .int r1]) rfl ?_
  refine va_sld hx hb hX hbl (Nat.not_le.mpr hbl) hS1 (vp_in_iff.mpr (by decide)) dL_law_797 ?_
  refine W.eq (g2 := F0 m 798 ls [.int (xs 2), .int (xs 1), .ref b, .int r1]) rfl ?_
  refine x_V (As := [.int (xs 1), .int (xs 2)]) (rest := [.int r1]) C (f_X10_state l K G1 H1 (xs 1) (xs 2) hT1 gb1 fm1) yo_X10_state wM_L_83 ⟨⟨by decide, by decide⟩, show _ ≤ 600000 by omega, show _ ≤ 7302250 by omega⟩ (x_rv C hT1 (ci := 10) rfl gb1 rg_112) rfl hl.1 rfl (Nat.le_of_ble_eq_true rfl) dL_law_798 hS1 (AE_new hN1 hS1.1) (fun v2 H2 locs2 p2 z2 k2 hS2 => ?_)
  obtain ⟨⟨r2, hv2, q2⟩, G2, m2, hT2⟩ := p2
  subst hv2
  refine W.eq (g2 := F0 m 801 ls [.int r2, .int r1]) rfl ?_
  refine lv_icmp_eq (tgt := 1509) hx hb dL_law_801 (by decide) (fun ce => ?_) (fun ce => ?_)
  · exact lw_tail D hS2 hl (by omega) (by omega)
  · exfalso
    have := i_ne ce
    omega
set_option maxRecDepth 100000 in
set_option maxHeartbeats 1000000 in
theorem lw_c16 {p : Program} {l : Launch} {e : Env} {s : State} {m : MethodId} {below : List Frame} {meth : Method} {c : Code} {K : KE} {b0 : Nat} {xs : Nat → Int32} {G : Nat → Option Nat} {H : Heap} {locs : List Loc} {a w b : Nat} {cells slots : Nat} {ls : Array Slot} (D : LC p K s m meth c b0 6 xs) (S : SX K s G H locs a w b) (hl : lv_has ls 4 [(3, .int 0), (2, .ref b), (1, .ref a), (0, .ref b0)]) (hc : cells ≤ 300000) (hs : slots ≤ 3000000) : W p l e room_1 s m #[Value.ref b0] below meth c H locs cells slots (lw_Z below #[Value.ref b0] s) (F0 m 806 ls []) := by
  obtain ⟨C, hX, hbl⟩ := id D
  obtain ⟨hx, hb, hml, hown, hts, hKT, hr, hlocks, hnm⟩ := id C
  obtain ⟨hT, hN, ga, gw, gb, fx, fm, hS⟩ := S
  refine lv_aload_n hx hb dL_law_806 rfl (lv_at hl 2 rfl) ?_
  refine lv_aload_n hx hb dL_law_807 rfl (lv_at hl 3 rfl) ?_
  refine lv_iload_n hx hb dL_law_808 rfl (lv_at hl 0 rfl) ?_
  refine lv_iconst (v := 1) hx hb dL_law_809 (by decide) ?_
  refine lv_iadd hx hb dL_law_810 ?_
  refine W.eq (g2 := F0 m 811 ls [.int 1, .ref b0, .ref a]) rfl ?_
  refine va_sld hx hb hX hbl (Nat.not_le.mpr hbl) hS (vp_in_iff.mpr (by decide)) dL_law_811 ?_
  refine W.eq (g2 := F0 m 812 ls [.int (xs 1), .ref a]) rfl ?_
  refine lv_aload_n hx hb dL_law_812 rfl (lv_at hl 3 rfl) ?_
  refine lv_iload_n hx hb dL_law_813 rfl (lv_at hl 0 rfl) ?_
  refine lv_iconst (v := 2) hx hb dL_law_814 (by decide) ?_
  refine lv_iadd hx hb dL_law_815 ?_
  refine W.eq (g2 := F0 m 816 ls [.int 2, .ref b0, .int (xs 1), .ref a]) rfl ?_
  refine va_sld hx hb hX hbl (Nat.not_le.mpr hbl) hS (vp_in_iff.mpr (by decide)) dL_law_816 ?_
  refine W.eq (g2 := F0 m 817 ls [.int (xs 2), .int (xs 1), .ref a]) rfl ?_
  refine lv_aload_n hx hb dL_law_817 rfl (lv_at hl 3 rfl) ?_
  refine lv_iload_n hx hb dL_law_818 rfl (lv_at hl 0 rfl) ?_
  refine lv_iconst (v := 3) hx hb dL_law_819 (by decide) ?_
  refine lv_iadd hx hb dL_law_820 ?_
  refine W.eq (g2 := F0 m 821 ls [.int 3, .ref b0, .int (xs 2), .int (xs 1), .ref a]) rfl ?_
  refine va_sld hx hb hX hbl (Nat.not_le.mpr hbl) hS (vp_in_iff.mpr (by decide)) dL_law_821 ?_
  refine W.eq (g2 := F0 m 822 ls [.int (xs 3), .int (xs 2), .int (xs 1), .ref a]) rfl ?_
  refine x_V (As := [.int (xs 1), .int (xs 2), .int (xs 3)]) (rest := []) C (f_X9_takes l K G H (xs 1) (xs 2) (xs 3) hT ga gw fx) yo_X9_takes wM_L_84 ⟨⟨by decide, by decide⟩, show _ ≤ 600000 by omega, show _ ≤ 7302250 by omega⟩ (x_rv C hT (ci := 9) rfl ga rg_68) rfl hl.1 rfl (Nat.le_of_ble_eq_true rfl) dL_law_822 hS (AE_new hN hS.1) (fun v1 H1 locs1 p1 z1 k1 hS1 => ?_)
  obtain ⟨⟨r1, hv1, q1⟩, G1, m1, hT1⟩ := p1
  subst hv1
  refine W.eq (g2 := F0 m 825 ls [.int r1]) rfl ?_
  have gb1 := (m1 b (hT.lt gb)).trans gb
  have fm1 := fm.kept (x_lt hT k1 gb (by decide))
  have hN1 : ∀ q, q < s.heap.size → G1 q = none := fun q hq => (m1 q (Nat.lt_of_lt_of_le hq hS.1)).trans (hN q hq)
  refine lv_aload_n hx hb dL_law_825 rfl (lv_at hl 1 rfl) ?_
  refine lv_aload_n hx hb dL_law_826 rfl (lv_at hl 3 rfl) ?_
  refine lv_iload_n hx hb dL_law_827 rfl (lv_at hl 0 rfl) ?_
  refine lv_iconst (v := 1) hx hb dL_law_828 (by decide) ?_
  refine lv_iadd hx hb dL_law_829 ?_
  refine W.eq (g2 := F0 m 830 ls [.int 1, .ref b0, .ref b, .int r1]) rfl ?_
  refine va_sld hx hb hX hbl (Nat.not_le.mpr hbl) hS1 (vp_in_iff.mpr (by decide)) dL_law_830 ?_
  refine W.eq (g2 := F0 m 831 ls [.int (xs 1), .ref b, .int r1]) rfl ?_
  refine lv_aload_n hx hb dL_law_831 rfl (lv_at hl 3 rfl) ?_
  refine lv_iload_n hx hb dL_law_832 rfl (lv_at hl 0 rfl) ?_
  refine lv_iconst (v := 2) hx hb dL_law_833 (by decide) ?_
  refine lv_iadd hx hb dL_law_834 ?_
  refine W.eq (g2 := F0 m 835 ls [.int 2, .ref b0, .int (xs 1), .ref b, .int r1]) rfl ?_
  refine va_sld hx hb hX hbl (Nat.not_le.mpr hbl) hS1 (vp_in_iff.mpr (by decide)) dL_law_835 ?_
  refine W.eq (g2 := F0 m 836 ls [.int (xs 2), .int (xs 1), .ref b, .int r1]) rfl ?_
  refine lv_aload_n hx hb dL_law_836 rfl (lv_at hl 3 rfl) ?_
  refine lv_iload_n hx hb dL_law_837 rfl (lv_at hl 0 rfl) ?_
  refine lv_iconst (v := 3) hx hb dL_law_838 (by decide) ?_
  refine lv_iadd hx hb dL_law_839 ?_
  refine W.eq (g2 := F0 m 840 ls [.int 3, .ref b0, .int (xs 2), .int (xs 1), .ref b, .int r1]) rfl ?_
  refine va_sld hx hb hX hbl (Nat.not_le.mpr hbl) hS1 (vp_in_iff.mpr (by decide)) dL_law_840 ?_
  refine W.eq (g2 := F0 m 841 ls [.int (xs 3), .int (xs 2), .int (xs 1), .ref b, .int r1]) rfl ?_
  refine x_V (As := [.int (xs 1), .int (xs 2), .int (xs 3)]) (rest := [.int r1]) C (f_X10_takes l K G1 H1 (xs 1) (xs 2) (xs 3) hT1 gb1 fm1) yo_X10_takes wM_L_87 ⟨⟨by decide, by decide⟩, show _ ≤ 600000 by omega, show _ ≤ 7302250 by omega⟩ (x_rv C hT1 (ci := 10) rfl gb1 rg_112) rfl hl.1 rfl (Nat.le_of_ble_eq_true rfl) dL_law_841 hS1 (AE_new hN1 hS1.1) (fun v2 H2 locs2 p2 z2 k2 hS2 => ?_)
  obtain ⟨⟨r2, hv2, q2⟩, G2, m2, hT2⟩ := p2
  subst hv2
  refine W.eq (g2 := F0 m 844 ls [.int r2, .int r1]) rfl ?_
  refine lv_icmp_eq (tgt := 1509) hx hb dL_law_844 (by decide) (fun ce => ?_) (fun ce => ?_)
  · exact lw_tail D hS2 hl (by omega) (by omega)
  · exfalso
    have := i_ne ce
    omega
set_option maxRecDepth 100000 in
set_option maxHeartbeats 1000000 in
theorem lw_c17 {p : Program} {l : Launch} {e : Env} {s : State} {m : MethodId} {below : List Frame} {meth : Method} {c : Code} {K : KE} {b0 : Nat} {xs : Nat → Int32} {G : Nat → Option Nat} {H : Heap} {locs : List Loc} {a w b : Nat} {cells slots : Nat} {ls : Array Slot} (D : LC p K s m meth c b0 6 xs) (S : SX K s G H locs a w b) (hl : lv_has ls 4 [(3, .int 0), (2, .ref b), (1, .ref a), (0, .ref b0)]) (hc : cells ≤ 300000) (hs : slots ≤ 3000000) : W p l e room_1 s m #[Value.ref b0] below meth c H locs cells slots (lw_Z below #[Value.ref b0] s) (F0 m 849 ls []) := by
  obtain ⟨C, hX, hbl⟩ := id D
  obtain ⟨hx, hb, hml, hown, hts, hKT, hr, hlocks, hnm⟩ := id C
  obtain ⟨hT, hN, ga, gw, gb, fx, fm, hS⟩ := S
  refine lv_aload_n hx hb dL_law_849 rfl (lv_at hl 2 rfl) ?_
  refine lv_aload_n hx hb dL_law_850 rfl (lv_at hl 3 rfl) ?_
  refine lv_iload_n hx hb dL_law_851 rfl (lv_at hl 0 rfl) ?_
  refine lv_iconst (v := 1) hx hb dL_law_852 (by decide) ?_
  refine lv_iadd hx hb dL_law_853 ?_
  refine W.eq (g2 := F0 m 854 ls [.int 1, .ref b0, .ref a]) rfl ?_
  refine va_sld hx hb hX hbl (Nat.not_le.mpr hbl) hS (vp_in_iff.mpr (by decide)) dL_law_854 ?_
  refine W.eq (g2 := F0 m 855 ls [.int (xs 1), .ref a]) rfl ?_
  refine lv_aload_n hx hb dL_law_855 rfl (lv_at hl 3 rfl) ?_
  refine lv_iload_n hx hb dL_law_856 rfl (lv_at hl 0 rfl) ?_
  refine lv_iconst (v := 2) hx hb dL_law_857 (by decide) ?_
  refine lv_iadd hx hb dL_law_858 ?_
  refine W.eq (g2 := F0 m 859 ls [.int 2, .ref b0, .int (xs 1), .ref a]) rfl ?_
  refine va_sld hx hb hX hbl (Nat.not_le.mpr hbl) hS (vp_in_iff.mpr (by decide)) dL_law_859 ?_
  refine W.eq (g2 := F0 m 860 ls [.int (xs 2), .int (xs 1), .ref a]) rfl ?_
  refine x_V (As := [.int (xs 1), .int (xs 2)]) (rest := []) C (f_X9_job l K G H (xs 1) (xs 2) hT ga gw fx) yo_X9_job wM_L_88 ⟨⟨by decide, by decide⟩, show _ ≤ 600000 by omega, show _ ≤ 7302250 by omega⟩ (x_rv C hT (ci := 9) rfl ga rg_68) rfl hl.1 rfl (Nat.le_of_ble_eq_true rfl) dL_law_860 hS (AE_new hN hS.1) (fun v1 H1 locs1 p1 z1 k1 hS1 => ?_)
  obtain ⟨⟨r1, hv1, q1⟩, G1, m1, hT1⟩ := p1
  subst hv1
  refine W.eq (g2 := F0 m 863 ls [.int r1]) rfl ?_
  have gb1 := (m1 b (hT.lt gb)).trans gb
  have fm1 := fm.kept (x_lt hT k1 gb (by decide))
  have hN1 : ∀ q, q < s.heap.size → G1 q = none := fun q hq => (m1 q (Nat.lt_of_lt_of_le hq hS.1)).trans (hN q hq)
  refine lv_aload_n hx hb dL_law_863 rfl (lv_at hl 1 rfl) ?_
  refine lv_aload_n hx hb dL_law_864 rfl (lv_at hl 3 rfl) ?_
  refine lv_iload_n hx hb dL_law_865 rfl (lv_at hl 0 rfl) ?_
  refine lv_iconst (v := 1) hx hb dL_law_866 (by decide) ?_
  refine lv_iadd hx hb dL_law_867 ?_
  refine W.eq (g2 := F0 m 868 ls [.int 1, .ref b0, .ref b, .int r1]) rfl ?_
  refine va_sld hx hb hX hbl (Nat.not_le.mpr hbl) hS1 (vp_in_iff.mpr (by decide)) dL_law_868 ?_
  refine W.eq (g2 := F0 m 869 ls [.int (xs 1), .ref b, .int r1]) rfl ?_
  refine lv_aload_n hx hb dL_law_869 rfl (lv_at hl 3 rfl) ?_
  refine lv_iload_n hx hb dL_law_870 rfl (lv_at hl 0 rfl) ?_
  refine lv_iconst (v := 2) hx hb dL_law_871 (by decide) ?_
  refine lv_iadd hx hb dL_law_872 ?_
  refine W.eq (g2 := F0 m 873 ls [.int 2, .ref b0, .int (xs 1), .ref b, .int r1]) rfl ?_
  refine va_sld hx hb hX hbl (Nat.not_le.mpr hbl) hS1 (vp_in_iff.mpr (by decide)) dL_law_873 ?_
  refine W.eq (g2 := F0 m 874 ls [.int (xs 2), .int (xs 1), .ref b, .int r1]) rfl ?_
  refine x_V (As := [.int (xs 1), .int (xs 2)]) (rest := [.int r1]) C (f_X10_job l K G1 H1 (xs 1) (xs 2) hT1 gb1 fm1) yo_X10_job wM_L_91 ⟨⟨by decide, by decide⟩, show _ ≤ 600000 by omega, show _ ≤ 7302250 by omega⟩ (x_rv C hT1 (ci := 10) rfl gb1 rg_112) rfl hl.1 rfl (Nat.le_of_ble_eq_true rfl) dL_law_874 hS1 (AE_new hN1 hS1.1) (fun v2 H2 locs2 p2 z2 k2 hS2 => ?_)
  obtain ⟨⟨r2, hv2, q2⟩, G2, m2, hT2⟩ := p2
  subst hv2
  refine W.eq (g2 := F0 m 877 ls [.int r2, .int r1]) rfl ?_
  refine lv_icmp_eq (tgt := 1509) hx hb dL_law_877 (by decide) (fun ce => ?_) (fun ce => ?_)
  · exact lw_tail D hS2 hl (by omega) (by omega)
  · exfalso
    have := i_ne ce
    omega
set_option maxRecDepth 100000 in
set_option maxHeartbeats 1000000 in
theorem lw_c18 {p : Program} {l : Launch} {e : Env} {s : State} {m : MethodId} {below : List Frame} {meth : Method} {c : Code} {K : KE} {b0 : Nat} {xs : Nat → Int32} {G : Nat → Option Nat} {H : Heap} {locs : List Loc} {a w b : Nat} {cells slots : Nat} {ls : Array Slot} (D : LC p K s m meth c b0 6 xs) (S : SX K s G H locs a w b) (hl : lv_has ls 4 [(3, .int 0), (2, .ref b), (1, .ref a), (0, .ref b0)]) (hc : cells ≤ 300000) (hs : slots ≤ 3000000) : W p l e room_1 s m #[Value.ref b0] below meth c H locs cells slots (lw_Z below #[Value.ref b0] s) (F0 m 882 ls []) := by
  obtain ⟨C, hX, hbl⟩ := id D
  obtain ⟨hx, hb, hml, hown, hts, hKT, hr, hlocks, hnm⟩ := id C
  obtain ⟨hT, hN, ga, gw, gb, fx, fm, hS⟩ := S
  refine lv_aload_n hx hb dL_law_882 rfl (lv_at hl 2 rfl) ?_
  refine lv_aload_n hx hb dL_law_883 rfl (lv_at hl 3 rfl) ?_
  refine lv_iload_n hx hb dL_law_884 rfl (lv_at hl 0 rfl) ?_
  refine lv_iconst (v := 1) hx hb dL_law_885 (by decide) ?_
  refine lv_iadd hx hb dL_law_886 ?_
  refine W.eq (g2 := F0 m 887 ls [.int 1, .ref b0, .ref a]) rfl ?_
  refine va_sld hx hb hX hbl (Nat.not_le.mpr hbl) hS (vp_in_iff.mpr (by decide)) dL_law_887 ?_
  refine W.eq (g2 := F0 m 888 ls [.int (xs 1), .ref a]) rfl ?_
  refine lv_aload_n hx hb dL_law_888 rfl (lv_at hl 3 rfl) ?_
  refine lv_iload_n hx hb dL_law_889 rfl (lv_at hl 0 rfl) ?_
  refine lv_iconst (v := 2) hx hb dL_law_890 (by decide) ?_
  refine lv_iadd hx hb dL_law_891 ?_
  refine W.eq (g2 := F0 m 892 ls [.int 2, .ref b0, .int (xs 1), .ref a]) rfl ?_
  refine va_sld hx hb hX hbl (Nat.not_le.mpr hbl) hS (vp_in_iff.mpr (by decide)) dL_law_892 ?_
  refine W.eq (g2 := F0 m 893 ls [.int (xs 2), .int (xs 1), .ref a]) rfl ?_
  refine x_V (As := [.int (xs 1), .int (xs 2)]) (rest := []) C (f_X9_fewest l K G H (xs 1) (xs 2) hT ga gw fx) yo_X9_fewest wM_L_92 ⟨⟨by decide, by decide⟩, show _ ≤ 600000 by omega, show _ ≤ 7302250 by omega⟩ (x_rv C hT (ci := 9) rfl ga rg_68) rfl hl.1 rfl (Nat.le_of_ble_eq_true rfl) dL_law_893 hS (AE_new hN hS.1) (fun v1 H1 locs1 p1 z1 k1 hS1 => ?_)
  obtain ⟨⟨r1, hv1, q1⟩, G1, m1, hT1⟩ := p1
  subst hv1
  refine W.eq (g2 := F0 m 896 ls [.int r1]) rfl ?_
  have gb1 := (m1 b (hT.lt gb)).trans gb
  have fm1 := fm.kept (x_lt hT k1 gb (by decide))
  have hN1 : ∀ q, q < s.heap.size → G1 q = none := fun q hq => (m1 q (Nat.lt_of_lt_of_le hq hS.1)).trans (hN q hq)
  refine lv_aload_n hx hb dL_law_896 rfl (lv_at hl 1 rfl) ?_
  refine lv_aload_n hx hb dL_law_897 rfl (lv_at hl 3 rfl) ?_
  refine lv_iload_n hx hb dL_law_898 rfl (lv_at hl 0 rfl) ?_
  refine lv_iconst (v := 1) hx hb dL_law_899 (by decide) ?_
  refine lv_iadd hx hb dL_law_900 ?_
  refine W.eq (g2 := F0 m 901 ls [.int 1, .ref b0, .ref b, .int r1]) rfl ?_
  refine va_sld hx hb hX hbl (Nat.not_le.mpr hbl) hS1 (vp_in_iff.mpr (by decide)) dL_law_901 ?_
  refine W.eq (g2 := F0 m 902 ls [.int (xs 1), .ref b, .int r1]) rfl ?_
  refine lv_aload_n hx hb dL_law_902 rfl (lv_at hl 3 rfl) ?_
  refine lv_iload_n hx hb dL_law_903 rfl (lv_at hl 0 rfl) ?_
  refine lv_iconst (v := 2) hx hb dL_law_904 (by decide) ?_
  refine lv_iadd hx hb dL_law_905 ?_
  refine W.eq (g2 := F0 m 906 ls [.int 2, .ref b0, .int (xs 1), .ref b, .int r1]) rfl ?_
  refine va_sld hx hb hX hbl (Nat.not_le.mpr hbl) hS1 (vp_in_iff.mpr (by decide)) dL_law_906 ?_
  refine W.eq (g2 := F0 m 907 ls [.int (xs 2), .int (xs 1), .ref b, .int r1]) rfl ?_
  refine x_V (As := [.int (xs 1), .int (xs 2)]) (rest := [.int r1]) C (f_X10_fewest l K G1 H1 (xs 1) (xs 2) hT1 gb1 fm1) yo_X10_fewest wM_L_95 ⟨⟨by decide, by decide⟩, show _ ≤ 600000 by omega, show _ ≤ 7302250 by omega⟩ (x_rv C hT1 (ci := 10) rfl gb1 rg_112) rfl hl.1 rfl (Nat.le_of_ble_eq_true rfl) dL_law_907 hS1 (AE_new hN1 hS1.1) (fun v2 H2 locs2 p2 z2 k2 hS2 => ?_)
  obtain ⟨⟨r2, hv2, q2⟩, G2, m2, hT2⟩ := p2
  subst hv2
  refine W.eq (g2 := F0 m 910 ls [.int r2, .int r1]) rfl ?_
  refine lv_icmp_eq (tgt := 1509) hx hb dL_law_910 (by decide) (fun ce => ?_) (fun ce => ?_)
  · exact lw_tail D hS2 hl (by omega) (by omega)
  · exfalso
    have := i_ne ce
    omega
set_option maxRecDepth 100000 in
set_option maxHeartbeats 1000000 in
theorem lw_c19 {p : Program} {l : Launch} {e : Env} {s : State} {m : MethodId} {below : List Frame} {meth : Method} {c : Code} {K : KE} {b0 : Nat} {xs : Nat → Int32} {G : Nat → Option Nat} {H : Heap} {locs : List Loc} {a w b : Nat} {cells slots : Nat} {ls : Array Slot} (D : LC p K s m meth c b0 6 xs) (S : SX K s G H locs a w b) (hl : lv_has ls 4 [(3, .int 0), (2, .ref b), (1, .ref a), (0, .ref b0)]) (hc : cells ≤ 300000) (hs : slots ≤ 3000000) : W p l e room_1 s m #[Value.ref b0] below meth c H locs cells slots (lw_Z below #[Value.ref b0] s) (F0 m 915 ls []) := by
  obtain ⟨C, hX, hbl⟩ := id D
  obtain ⟨hx, hb, hml, hown, hts, hKT, hr, hlocks, hnm⟩ := id C
  obtain ⟨hT, hN, ga, gw, gb, fx, fm, hS⟩ := S
  refine lv_aload_n hx hb dL_law_915 rfl (lv_at hl 2 rfl) ?_
  refine lv_aload_n hx hb dL_law_916 rfl (lv_at hl 3 rfl) ?_
  refine lv_iload_n hx hb dL_law_917 rfl (lv_at hl 0 rfl) ?_
  refine lv_iconst (v := 1) hx hb dL_law_918 (by decide) ?_
  refine lv_iadd hx hb dL_law_919 ?_
  refine W.eq (g2 := F0 m 920 ls [.int 1, .ref b0, .ref a]) rfl ?_
  refine va_sld hx hb hX hbl (Nat.not_le.mpr hbl) hS (vp_in_iff.mpr (by decide)) dL_law_920 ?_
  refine W.eq (g2 := F0 m 921 ls [.int (xs 1), .ref a]) rfl ?_
  refine lv_aload_n hx hb dL_law_921 rfl (lv_at hl 3 rfl) ?_
  refine lv_iload_n hx hb dL_law_922 rfl (lv_at hl 0 rfl) ?_
  refine lv_iconst (v := 2) hx hb dL_law_923 (by decide) ?_
  refine lv_iadd hx hb dL_law_924 ?_
  refine W.eq (g2 := F0 m 925 ls [.int 2, .ref b0, .int (xs 1), .ref a]) rfl ?_
  refine va_sld hx hb hX hbl (Nat.not_le.mpr hbl) hS (vp_in_iff.mpr (by decide)) dL_law_925 ?_
  refine W.eq (g2 := F0 m 926 ls [.int (xs 2), .int (xs 1), .ref a]) rfl ?_
  refine lv_aload_n hx hb dL_law_926 rfl (lv_at hl 3 rfl) ?_
  refine lv_iload_n hx hb dL_law_927 rfl (lv_at hl 0 rfl) ?_
  refine lv_iconst (v := 3) hx hb dL_law_928 (by decide) ?_
  refine lv_iadd hx hb dL_law_929 ?_
  refine W.eq (g2 := F0 m 930 ls [.int 3, .ref b0, .int (xs 2), .int (xs 1), .ref a]) rfl ?_
  refine va_sld hx hb hX hbl (Nat.not_le.mpr hbl) hS (vp_in_iff.mpr (by decide)) dL_law_930 ?_
  refine W.eq (g2 := F0 m 931 ls [.int (xs 3), .int (xs 2), .int (xs 1), .ref a]) rfl ?_
  refine x_V (As := [.int (xs 1), .int (xs 2), .int (xs 3)]) (rest := []) C (f_X9_tap l K G H (xs 1) (xs 2) (xs 3) hT ga gw fx) yo_X9_tap wM_L_96 ⟨⟨by decide, by decide⟩, show _ ≤ 600000 by omega, show _ ≤ 7302250 by omega⟩ (x_rv C hT (ci := 9) rfl ga rg_68) rfl hl.1 rfl (Nat.le_of_ble_eq_true rfl) dL_law_931 hS (AE_new hN hS.1) (fun v1 H1 locs1 p1 z1 k1 hS1 => ?_)
  obtain ⟨⟨r1, hv1, q1⟩, G1, m1, hT1⟩ := p1
  subst hv1
  refine W.eq (g2 := F0 m 934 ls [.int r1]) rfl ?_
  have gb1 := (m1 b (hT.lt gb)).trans gb
  have fm1 := fm.kept (x_lt hT k1 gb (by decide))
  have hN1 : ∀ q, q < s.heap.size → G1 q = none := fun q hq => (m1 q (Nat.lt_of_lt_of_le hq hS.1)).trans (hN q hq)
  refine lv_aload_n hx hb dL_law_934 rfl (lv_at hl 1 rfl) ?_
  refine lv_aload_n hx hb dL_law_935 rfl (lv_at hl 3 rfl) ?_
  refine lv_iload_n hx hb dL_law_936 rfl (lv_at hl 0 rfl) ?_
  refine lv_iconst (v := 1) hx hb dL_law_937 (by decide) ?_
  refine lv_iadd hx hb dL_law_938 ?_
  refine W.eq (g2 := F0 m 939 ls [.int 1, .ref b0, .ref b, .int r1]) rfl ?_
  refine va_sld hx hb hX hbl (Nat.not_le.mpr hbl) hS1 (vp_in_iff.mpr (by decide)) dL_law_939 ?_
  refine W.eq (g2 := F0 m 940 ls [.int (xs 1), .ref b, .int r1]) rfl ?_
  refine lv_aload_n hx hb dL_law_940 rfl (lv_at hl 3 rfl) ?_
  refine lv_iload_n hx hb dL_law_941 rfl (lv_at hl 0 rfl) ?_
  refine lv_iconst (v := 2) hx hb dL_law_942 (by decide) ?_
  refine lv_iadd hx hb dL_law_943 ?_
  refine W.eq (g2 := F0 m 944 ls [.int 2, .ref b0, .int (xs 1), .ref b, .int r1]) rfl ?_
  refine va_sld hx hb hX hbl (Nat.not_le.mpr hbl) hS1 (vp_in_iff.mpr (by decide)) dL_law_944 ?_
  refine W.eq (g2 := F0 m 945 ls [.int (xs 2), .int (xs 1), .ref b, .int r1]) rfl ?_
  refine lv_aload_n hx hb dL_law_945 rfl (lv_at hl 3 rfl) ?_
  refine lv_iload_n hx hb dL_law_946 rfl (lv_at hl 0 rfl) ?_
  refine lv_iconst (v := 3) hx hb dL_law_947 (by decide) ?_
  refine lv_iadd hx hb dL_law_948 ?_
  refine W.eq (g2 := F0 m 949 ls [.int 3, .ref b0, .int (xs 2), .int (xs 1), .ref b, .int r1]) rfl ?_
  refine va_sld hx hb hX hbl (Nat.not_le.mpr hbl) hS1 (vp_in_iff.mpr (by decide)) dL_law_949 ?_
  refine W.eq (g2 := F0 m 950 ls [.int (xs 3), .int (xs 2), .int (xs 1), .ref b, .int r1]) rfl ?_
  refine x_V (As := [.int (xs 1), .int (xs 2), .int (xs 3)]) (rest := [.int r1]) C (f_X10_tap l K G1 H1 (xs 1) (xs 2) (xs 3) hT1 gb1 fm1) yo_X10_tap wM_L_99 ⟨⟨by decide, by decide⟩, show _ ≤ 600000 by omega, show _ ≤ 7302250 by omega⟩ (x_rv C hT1 (ci := 10) rfl gb1 rg_112) rfl hl.1 rfl (Nat.le_of_ble_eq_true rfl) dL_law_950 hS1 (AE_new hN1 hS1.1) (fun v2 H2 locs2 p2 z2 k2 hS2 => ?_)
  obtain ⟨⟨r2, hv2, q2⟩, G2, m2, hT2⟩ := p2
  subst hv2
  refine W.eq (g2 := F0 m 953 ls [.int r2, .int r1]) rfl ?_
  refine lv_icmp_eq (tgt := 1509) hx hb dL_law_953 (by decide) (fun ce => ?_) (fun ce => ?_)
  · exact lw_tail D hS2 hl (by omega) (by omega)
  · exfalso
    have := i_ne ce
    omega
set_option maxRecDepth 100000 in
set_option maxHeartbeats 1000000 in
theorem lw_c20 {p : Program} {l : Launch} {e : Env} {s : State} {m : MethodId} {below : List Frame} {meth : Method} {c : Code} {K : KE} {b0 : Nat} {xs : Nat → Int32} {G : Nat → Option Nat} {H : Heap} {locs : List Loc} {a w b : Nat} {cells slots : Nat} {ls : Array Slot} (D : LC p K s m meth c b0 6 xs) (S : SX K s G H locs a w b) (hl : lv_has ls 4 [(3, .int 0), (2, .ref b), (1, .ref a), (0, .ref b0)]) (hc : cells ≤ 300000) (hs : slots ≤ 3000000) : W p l e room_1 s m #[Value.ref b0] below meth c H locs cells slots (lw_Z below #[Value.ref b0] s) (F0 m 958 ls []) := by
  obtain ⟨C, hX, hbl⟩ := id D
  obtain ⟨hx, hb, hml, hown, hts, hKT, hr, hlocks, hnm⟩ := id C
  obtain ⟨hT, hN, ga, gw, gb, fx, fm, hS⟩ := S
  refine lv_aload_n hx hb dL_law_958 rfl (lv_at hl 2 rfl) ?_
  refine lv_aload_n hx hb dL_law_959 rfl (lv_at hl 3 rfl) ?_
  refine lv_iload_n hx hb dL_law_960 rfl (lv_at hl 0 rfl) ?_
  refine lv_iconst (v := 1) hx hb dL_law_961 (by decide) ?_
  refine lv_iadd hx hb dL_law_962 ?_
  refine W.eq (g2 := F0 m 963 ls [.int 1, .ref b0, .ref a]) rfl ?_
  refine va_sld hx hb hX hbl (Nat.not_le.mpr hbl) hS (vp_in_iff.mpr (by decide)) dL_law_963 ?_
  refine W.eq (g2 := F0 m 964 ls [.int (xs 1), .ref a]) rfl ?_
  refine lv_aload_n hx hb dL_law_964 rfl (lv_at hl 3 rfl) ?_
  refine lv_iload_n hx hb dL_law_965 rfl (lv_at hl 0 rfl) ?_
  refine lv_iconst (v := 2) hx hb dL_law_966 (by decide) ?_
  refine lv_iadd hx hb dL_law_967 ?_
  refine W.eq (g2 := F0 m 968 ls [.int 2, .ref b0, .int (xs 1), .ref a]) rfl ?_
  refine va_sld hx hb hX hbl (Nat.not_le.mpr hbl) hS (vp_in_iff.mpr (by decide)) dL_law_968 ?_
  refine W.eq (g2 := F0 m 969 ls [.int (xs 2), .int (xs 1), .ref a]) rfl ?_
  refine lv_aload_n hx hb dL_law_969 rfl (lv_at hl 3 rfl) ?_
  refine lv_iload_n hx hb dL_law_970 rfl (lv_at hl 0 rfl) ?_
  refine lv_iconst (v := 3) hx hb dL_law_971 (by decide) ?_
  refine lv_iadd hx hb dL_law_972 ?_
  refine W.eq (g2 := F0 m 973 ls [.int 3, .ref b0, .int (xs 2), .int (xs 1), .ref a]) rfl ?_
  refine va_sld hx hb hX hbl (Nat.not_le.mpr hbl) hS (vp_in_iff.mpr (by decide)) dL_law_973 ?_
  refine W.eq (g2 := F0 m 974 ls [.int (xs 3), .int (xs 2), .int (xs 1), .ref a]) rfl ?_
  refine lv_aload_n hx hb dL_law_974 rfl (lv_at hl 3 rfl) ?_
  refine lv_iload_n hx hb dL_law_975 rfl (lv_at hl 0 rfl) ?_
  refine lv_iconst (v := 4) hx hb dL_law_976 (by decide) ?_
  refine lv_iadd hx hb dL_law_977 ?_
  refine W.eq (g2 := F0 m 978 ls [.int 4, .ref b0, .int (xs 3), .int (xs 2), .int (xs 1), .ref a]) rfl ?_
  refine va_sld hx hb hX hbl (Nat.not_le.mpr hbl) hS (vp_in_iff.mpr (by decide)) dL_law_978 ?_
  refine W.eq (g2 := F0 m 979 ls [.int (xs 4), .int (xs 3), .int (xs 2), .int (xs 1), .ref a]) rfl ?_
  refine x_V (As := [.int (xs 1), .int (xs 2), .int (xs 3), .int (xs 4)]) (rest := []) C (f_X9_fits l K G H (xs 1) (xs 2) (xs 3) (xs 4) hT ga gw fx) yo_X9_fits wM_L_100 ⟨⟨by decide, by decide⟩, show _ ≤ 600000 by omega, show _ ≤ 7302250 by omega⟩ (x_rv C hT (ci := 9) rfl ga rg_68) rfl hl.1 rfl (Nat.le_of_ble_eq_true rfl) dL_law_979 hS (AE_new hN hS.1) (fun v1 H1 locs1 p1 z1 k1 hS1 => ?_)
  obtain ⟨⟨r1, hv1, q1⟩, G1, m1, hT1⟩ := p1
  subst hv1
  refine W.eq (g2 := F0 m 982 ls [.int r1]) rfl ?_
  have gb1 := (m1 b (hT.lt gb)).trans gb
  have fm1 := fm.kept (x_lt hT k1 gb (by decide))
  have hN1 : ∀ q, q < s.heap.size → G1 q = none := fun q hq => (m1 q (Nat.lt_of_lt_of_le hq hS.1)).trans (hN q hq)
  refine lv_aload_n hx hb dL_law_982 rfl (lv_at hl 1 rfl) ?_
  refine lv_aload_n hx hb dL_law_983 rfl (lv_at hl 3 rfl) ?_
  refine lv_iload_n hx hb dL_law_984 rfl (lv_at hl 0 rfl) ?_
  refine lv_iconst (v := 1) hx hb dL_law_985 (by decide) ?_
  refine lv_iadd hx hb dL_law_986 ?_
  refine W.eq (g2 := F0 m 987 ls [.int 1, .ref b0, .ref b, .int r1]) rfl ?_
  refine va_sld hx hb hX hbl (Nat.not_le.mpr hbl) hS1 (vp_in_iff.mpr (by decide)) dL_law_987 ?_
  refine W.eq (g2 := F0 m 988 ls [.int (xs 1), .ref b, .int r1]) rfl ?_
  refine lv_aload_n hx hb dL_law_988 rfl (lv_at hl 3 rfl) ?_
  refine lv_iload_n hx hb dL_law_989 rfl (lv_at hl 0 rfl) ?_
  refine lv_iconst (v := 2) hx hb dL_law_990 (by decide) ?_
  refine lv_iadd hx hb dL_law_991 ?_
  refine W.eq (g2 := F0 m 992 ls [.int 2, .ref b0, .int (xs 1), .ref b, .int r1]) rfl ?_
  refine va_sld hx hb hX hbl (Nat.not_le.mpr hbl) hS1 (vp_in_iff.mpr (by decide)) dL_law_992 ?_
  refine W.eq (g2 := F0 m 993 ls [.int (xs 2), .int (xs 1), .ref b, .int r1]) rfl ?_
  refine lv_aload_n hx hb dL_law_993 rfl (lv_at hl 3 rfl) ?_
  refine lv_iload_n hx hb dL_law_994 rfl (lv_at hl 0 rfl) ?_
  refine lv_iconst (v := 3) hx hb dL_law_995 (by decide) ?_
  refine lv_iadd hx hb dL_law_996 ?_
  refine W.eq (g2 := F0 m 997 ls [.int 3, .ref b0, .int (xs 2), .int (xs 1), .ref b, .int r1]) rfl ?_
  refine va_sld hx hb hX hbl (Nat.not_le.mpr hbl) hS1 (vp_in_iff.mpr (by decide)) dL_law_997 ?_
  refine W.eq (g2 := F0 m 998 ls [.int (xs 3), .int (xs 2), .int (xs 1), .ref b, .int r1]) rfl ?_
  refine lv_aload_n hx hb dL_law_998 rfl (lv_at hl 3 rfl) ?_
  refine lv_iload_n hx hb dL_law_999 rfl (lv_at hl 0 rfl) ?_
  refine lv_iconst (v := 4) hx hb dL_law_1000 (by decide) ?_
  refine lv_iadd hx hb dL_law_1001 ?_
  refine W.eq (g2 := F0 m 1002 ls [.int 4, .ref b0, .int (xs 3), .int (xs 2), .int (xs 1), .ref b, .int r1]) rfl ?_
  refine va_sld hx hb hX hbl (Nat.not_le.mpr hbl) hS1 (vp_in_iff.mpr (by decide)) dL_law_1002 ?_
  refine W.eq (g2 := F0 m 1003 ls [.int (xs 4), .int (xs 3), .int (xs 2), .int (xs 1), .ref b, .int r1]) rfl ?_
  refine x_V (As := [.int (xs 1), .int (xs 2), .int (xs 3), .int (xs 4)]) (rest := [.int r1]) C (f_X10_fits l K G1 H1 (xs 1) (xs 2) (xs 3) (xs 4) hT1 gb1 fm1) yo_X10_fits wM_L_104 ⟨⟨by decide, by decide⟩, show _ ≤ 600000 by omega, show _ ≤ 7302250 by omega⟩ (x_rv C hT1 (ci := 10) rfl gb1 rg_112) rfl hl.1 rfl (Nat.le_of_ble_eq_true rfl) dL_law_1003 hS1 (AE_new hN1 hS1.1) (fun v2 H2 locs2 p2 z2 k2 hS2 => ?_)
  obtain ⟨⟨r2, hv2, q2⟩, G2, m2, hT2⟩ := p2
  subst hv2
  refine W.eq (g2 := F0 m 1006 ls [.int r2, .int r1]) rfl ?_
  refine lv_icmp_eq (tgt := 1509) hx hb dL_law_1006 (by decide) (fun ce => ?_) (fun ce => ?_)
  · exact lw_tail D hS2 hl (by omega) (by omega)
  · exfalso
    have := i_ne ce
    omega
set_option maxRecDepth 100000 in
set_option maxHeartbeats 1000000 in
theorem lw_c21 {p : Program} {l : Launch} {e : Env} {s : State} {m : MethodId} {below : List Frame} {meth : Method} {c : Code} {K : KE} {b0 : Nat} {xs : Nat → Int32} {G : Nat → Option Nat} {H : Heap} {locs : List Loc} {a w b : Nat} {cells slots : Nat} {ls : Array Slot} (D : LC p K s m meth c b0 6 xs) (S : SX K s G H locs a w b) (hl : lv_has ls 4 [(3, .int 0), (2, .ref b), (1, .ref a), (0, .ref b0)]) (hc : cells ≤ 300000) (hs : slots ≤ 3000000) : W p l e room_1 s m #[Value.ref b0] below meth c H locs cells slots (lw_Z below #[Value.ref b0] s) (F0 m 1011 ls []) := by
  obtain ⟨C, hX, hbl⟩ := id D
  obtain ⟨hx, hb, hml, hown, hts, hKT, hr, hlocks, hnm⟩ := id C
  obtain ⟨hT, hN, ga, gw, gb, fx, fm, hS⟩ := S
  refine lv_aload_n hx hb dL_law_1011 rfl (lv_at hl 2 rfl) ?_
  refine lv_aload_n hx hb dL_law_1012 rfl (lv_at hl 3 rfl) ?_
  refine lv_iload_n hx hb dL_law_1013 rfl (lv_at hl 0 rfl) ?_
  refine lv_iconst (v := 1) hx hb dL_law_1014 (by decide) ?_
  refine lv_iadd hx hb dL_law_1015 ?_
  refine W.eq (g2 := F0 m 1016 ls [.int 1, .ref b0, .ref a]) rfl ?_
  refine va_sld hx hb hX hbl (Nat.not_le.mpr hbl) hS (vp_in_iff.mpr (by decide)) dL_law_1016 ?_
  refine W.eq (g2 := F0 m 1017 ls [.int (xs 1), .ref a]) rfl ?_
  refine x_V (As := [.int (xs 1)]) (rest := []) C (f_X9_off l K G H (xs 1) hT ga gw fx) yo_X9_off wM_L_105 ⟨⟨by decide, by decide⟩, show _ ≤ 600000 by omega, show _ ≤ 7302250 by omega⟩ (x_rv C hT (ci := 9) rfl ga rg_68) rfl hl.1 rfl (Nat.le_of_ble_eq_true rfl) dL_law_1017 hS (AE_new hN hS.1) (fun v1 H1 locs1 p1 z1 k1 hS1 => ?_)
  obtain ⟨⟨r1, hv1, q1⟩, G1, m1, hT1⟩ := p1
  subst hv1
  refine W.eq (g2 := F0 m 1020 ls [.int r1]) rfl ?_
  have gb1 := (m1 b (hT.lt gb)).trans gb
  have fm1 := fm.kept (x_lt hT k1 gb (by decide))
  have hN1 : ∀ q, q < s.heap.size → G1 q = none := fun q hq => (m1 q (Nat.lt_of_lt_of_le hq hS.1)).trans (hN q hq)
  refine lv_aload_n hx hb dL_law_1020 rfl (lv_at hl 1 rfl) ?_
  refine lv_aload_n hx hb dL_law_1021 rfl (lv_at hl 3 rfl) ?_
  refine lv_iload_n hx hb dL_law_1022 rfl (lv_at hl 0 rfl) ?_
  refine lv_iconst (v := 1) hx hb dL_law_1023 (by decide) ?_
  refine lv_iadd hx hb dL_law_1024 ?_
  refine W.eq (g2 := F0 m 1025 ls [.int 1, .ref b0, .ref b, .int r1]) rfl ?_
  refine va_sld hx hb hX hbl (Nat.not_le.mpr hbl) hS1 (vp_in_iff.mpr (by decide)) dL_law_1025 ?_
  refine W.eq (g2 := F0 m 1026 ls [.int (xs 1), .ref b, .int r1]) rfl ?_
  refine x_V (As := [.int (xs 1)]) (rest := [.int r1]) C (f_X10_off l K G1 H1 (xs 1) hT1 gb1 fm1) yo_X10_off wM_L_108 ⟨⟨by decide, by decide⟩, show _ ≤ 600000 by omega, show _ ≤ 7302250 by omega⟩ (x_rv C hT1 (ci := 10) rfl gb1 rg_112) rfl hl.1 rfl (Nat.le_of_ble_eq_true rfl) dL_law_1026 hS1 (AE_new hN1 hS1.1) (fun v2 H2 locs2 p2 z2 k2 hS2 => ?_)
  obtain ⟨⟨r2, hv2, q2⟩, G2, m2, hT2⟩ := p2
  subst hv2
  refine W.eq (g2 := F0 m 1029 ls [.int r2, .int r1]) rfl ?_
  refine lv_icmp_eq (tgt := 1509) hx hb dL_law_1029 (by decide) (fun ce => ?_) (fun ce => ?_)
  · exact lw_tail D hS2 hl (by omega) (by omega)
  · exfalso
    have := i_ne ce
    omega
set_option maxRecDepth 100000 in
set_option maxHeartbeats 1000000 in
theorem lw_c22 {p : Program} {l : Launch} {e : Env} {s : State} {m : MethodId} {below : List Frame} {meth : Method} {c : Code} {K : KE} {b0 : Nat} {xs : Nat → Int32} {G : Nat → Option Nat} {H : Heap} {locs : List Loc} {a w b : Nat} {cells slots : Nat} {ls : Array Slot} (D : LC p K s m meth c b0 6 xs) (S : SX K s G H locs a w b) (hl : lv_has ls 4 [(3, .int 0), (2, .ref b), (1, .ref a), (0, .ref b0)]) (hc : cells ≤ 300000) (hs : slots ≤ 3000000) : W p l e room_1 s m #[Value.ref b0] below meth c H locs cells slots (lw_Z below #[Value.ref b0] s) (F0 m 1034 ls []) := by
  obtain ⟨C, hX, hbl⟩ := id D
  obtain ⟨hx, hb, hml, hown, hts, hKT, hr, hlocks, hnm⟩ := id C
  obtain ⟨hT, hN, ga, gw, gb, fx, fm, hS⟩ := S
  refine lv_aload_n hx hb dL_law_1034 rfl (lv_at hl 2 rfl) ?_
  refine lv_aload_n hx hb dL_law_1035 rfl (lv_at hl 3 rfl) ?_
  refine lv_iload_n hx hb dL_law_1036 rfl (lv_at hl 0 rfl) ?_
  refine lv_iconst (v := 1) hx hb dL_law_1037 (by decide) ?_
  refine lv_iadd hx hb dL_law_1038 ?_
  refine W.eq (g2 := F0 m 1039 ls [.int 1, .ref b0, .ref a]) rfl ?_
  refine va_sld hx hb hX hbl (Nat.not_le.mpr hbl) hS (vp_in_iff.mpr (by decide)) dL_law_1039 ?_
  refine W.eq (g2 := F0 m 1040 ls [.int (xs 1), .ref a]) rfl ?_
  refine lv_aload_n hx hb dL_law_1040 rfl (lv_at hl 3 rfl) ?_
  refine lv_iload_n hx hb dL_law_1041 rfl (lv_at hl 0 rfl) ?_
  refine lv_iconst (v := 2) hx hb dL_law_1042 (by decide) ?_
  refine lv_iadd hx hb dL_law_1043 ?_
  refine W.eq (g2 := F0 m 1044 ls [.int 2, .ref b0, .int (xs 1), .ref a]) rfl ?_
  refine va_sld hx hb hX hbl (Nat.not_le.mpr hbl) hS (vp_in_iff.mpr (by decide)) dL_law_1044 ?_
  refine W.eq (g2 := F0 m 1045 ls [.int (xs 2), .int (xs 1), .ref a]) rfl ?_
  refine lv_aload_n hx hb dL_law_1045 rfl (lv_at hl 3 rfl) ?_
  refine lv_iload_n hx hb dL_law_1046 rfl (lv_at hl 0 rfl) ?_
  refine lv_iconst (v := 3) hx hb dL_law_1047 (by decide) ?_
  refine lv_iadd hx hb dL_law_1048 ?_
  refine W.eq (g2 := F0 m 1049 ls [.int 3, .ref b0, .int (xs 2), .int (xs 1), .ref a]) rfl ?_
  refine va_sld hx hb hX hbl (Nat.not_le.mpr hbl) hS (vp_in_iff.mpr (by decide)) dL_law_1049 ?_
  refine W.eq (g2 := F0 m 1050 ls [.int (xs 3), .int (xs 2), .int (xs 1), .ref a]) rfl ?_
  refine x_V (As := [.int (xs 1), .int (xs 2), .int (xs 3)]) (rest := []) C (f_X9_still l K G H (xs 1) (xs 2) (xs 3) hT ga gw fx) yo_X9_still wM_L_109 ⟨⟨by decide, by decide⟩, show _ ≤ 600000 by omega, show _ ≤ 7302250 by omega⟩ (x_rv C hT (ci := 9) rfl ga rg_68) rfl hl.1 rfl (Nat.le_of_ble_eq_true rfl) dL_law_1050 hS (AE_new hN hS.1) (fun v1 H1 locs1 p1 z1 k1 hS1 => ?_)
  obtain ⟨⟨r1, hv1, q1⟩, G1, m1, hT1⟩ := p1
  subst hv1
  refine W.eq (g2 := F0 m 1053 ls [.int r1]) rfl ?_
  have gb1 := (m1 b (hT.lt gb)).trans gb
  have fm1 := fm.kept (x_lt hT k1 gb (by decide))
  have hN1 : ∀ q, q < s.heap.size → G1 q = none := fun q hq => (m1 q (Nat.lt_of_lt_of_le hq hS.1)).trans (hN q hq)
  refine lv_aload_n hx hb dL_law_1053 rfl (lv_at hl 1 rfl) ?_
  refine lv_aload_n hx hb dL_law_1054 rfl (lv_at hl 3 rfl) ?_
  refine lv_iload_n hx hb dL_law_1055 rfl (lv_at hl 0 rfl) ?_
  refine lv_iconst (v := 1) hx hb dL_law_1056 (by decide) ?_
  refine lv_iadd hx hb dL_law_1057 ?_
  refine W.eq (g2 := F0 m 1058 ls [.int 1, .ref b0, .ref b, .int r1]) rfl ?_
  refine va_sld hx hb hX hbl (Nat.not_le.mpr hbl) hS1 (vp_in_iff.mpr (by decide)) dL_law_1058 ?_
  refine W.eq (g2 := F0 m 1059 ls [.int (xs 1), .ref b, .int r1]) rfl ?_
  refine lv_aload_n hx hb dL_law_1059 rfl (lv_at hl 3 rfl) ?_
  refine lv_iload_n hx hb dL_law_1060 rfl (lv_at hl 0 rfl) ?_
  refine lv_iconst (v := 2) hx hb dL_law_1061 (by decide) ?_
  refine lv_iadd hx hb dL_law_1062 ?_
  refine W.eq (g2 := F0 m 1063 ls [.int 2, .ref b0, .int (xs 1), .ref b, .int r1]) rfl ?_
  refine va_sld hx hb hX hbl (Nat.not_le.mpr hbl) hS1 (vp_in_iff.mpr (by decide)) dL_law_1063 ?_
  refine W.eq (g2 := F0 m 1064 ls [.int (xs 2), .int (xs 1), .ref b, .int r1]) rfl ?_
  refine lv_aload_n hx hb dL_law_1064 rfl (lv_at hl 3 rfl) ?_
  refine lv_iload_n hx hb dL_law_1065 rfl (lv_at hl 0 rfl) ?_
  refine lv_iconst (v := 3) hx hb dL_law_1066 (by decide) ?_
  refine lv_iadd hx hb dL_law_1067 ?_
  refine W.eq (g2 := F0 m 1068 ls [.int 3, .ref b0, .int (xs 2), .int (xs 1), .ref b, .int r1]) rfl ?_
  refine va_sld hx hb hX hbl (Nat.not_le.mpr hbl) hS1 (vp_in_iff.mpr (by decide)) dL_law_1068 ?_
  refine W.eq (g2 := F0 m 1069 ls [.int (xs 3), .int (xs 2), .int (xs 1), .ref b, .int r1]) rfl ?_
  refine x_V (As := [.int (xs 1), .int (xs 2), .int (xs 3)]) (rest := [.int r1]) C (f_X10_still l K G1 H1 (xs 1) (xs 2) (xs 3) hT1 gb1 fm1) yo_X10_still wM_L_112 ⟨⟨by decide, by decide⟩, show _ ≤ 600000 by omega, show _ ≤ 7302250 by omega⟩ (x_rv C hT1 (ci := 10) rfl gb1 rg_112) rfl hl.1 rfl (Nat.le_of_ble_eq_true rfl) dL_law_1069 hS1 (AE_new hN1 hS1.1) (fun v2 H2 locs2 p2 z2 k2 hS2 => ?_)
  obtain ⟨⟨r2, hv2, q2⟩, G2, m2, hT2⟩ := p2
  subst hv2
  refine W.eq (g2 := F0 m 1072 ls [.int r2, .int r1]) rfl ?_
  refine lv_icmp_eq (tgt := 1509) hx hb dL_law_1072 (by decide) (fun ce => ?_) (fun ce => ?_)
  · exact lw_tail D hS2 hl (by omega) (by omega)
  · exfalso
    have := i_ne ce
    omega
set_option maxRecDepth 100000 in
set_option maxHeartbeats 1000000 in
theorem lw_c23 {p : Program} {l : Launch} {e : Env} {s : State} {m : MethodId} {below : List Frame} {meth : Method} {c : Code} {K : KE} {b0 : Nat} {xs : Nat → Int32} {G : Nat → Option Nat} {H : Heap} {locs : List Loc} {a w b : Nat} {cells slots : Nat} {ls : Array Slot} (D : LC p K s m meth c b0 6 xs) (S : SX K s G H locs a w b) (hl : lv_has ls 4 [(3, .int 0), (2, .ref b), (1, .ref a), (0, .ref b0)]) (hc : cells ≤ 300000) (hs : slots ≤ 3000000) : W p l e room_1 s m #[Value.ref b0] below meth c H locs cells slots (lw_Z below #[Value.ref b0] s) (F0 m 1077 ls []) := by
  obtain ⟨C, hX, hbl⟩ := id D
  obtain ⟨hx, hb, hml, hown, hts, hKT, hr, hlocks, hnm⟩ := id C
  obtain ⟨hT, hN, ga, gw, gb, fx, fm, hS⟩ := S
  refine lv_aload_n hx hb dL_law_1077 rfl (lv_at hl 2 rfl) ?_
  refine lv_aload_n hx hb dL_law_1078 rfl (lv_at hl 3 rfl) ?_
  refine lv_iload_n hx hb dL_law_1079 rfl (lv_at hl 0 rfl) ?_
  refine lv_iconst (v := 1) hx hb dL_law_1080 (by decide) ?_
  refine lv_iadd hx hb dL_law_1081 ?_
  refine W.eq (g2 := F0 m 1082 ls [.int 1, .ref b0, .ref a]) rfl ?_
  refine va_sld hx hb hX hbl (Nat.not_le.mpr hbl) hS (vp_in_iff.mpr (by decide)) dL_law_1082 ?_
  refine W.eq (g2 := F0 m 1083 ls [.int (xs 1), .ref a]) rfl ?_
  refine lv_aload_n hx hb dL_law_1083 rfl (lv_at hl 3 rfl) ?_
  refine lv_iload_n hx hb dL_law_1084 rfl (lv_at hl 0 rfl) ?_
  refine lv_iconst (v := 2) hx hb dL_law_1085 (by decide) ?_
  refine lv_iadd hx hb dL_law_1086 ?_
  refine W.eq (g2 := F0 m 1087 ls [.int 2, .ref b0, .int (xs 1), .ref a]) rfl ?_
  refine va_sld hx hb hX hbl (Nat.not_le.mpr hbl) hS (vp_in_iff.mpr (by decide)) dL_law_1087 ?_
  refine W.eq (g2 := F0 m 1088 ls [.int (xs 2), .int (xs 1), .ref a]) rfl ?_
  refine lv_aload_n hx hb dL_law_1088 rfl (lv_at hl 3 rfl) ?_
  refine lv_iload_n hx hb dL_law_1089 rfl (lv_at hl 0 rfl) ?_
  refine lv_iconst (v := 3) hx hb dL_law_1090 (by decide) ?_
  refine lv_iadd hx hb dL_law_1091 ?_
  refine W.eq (g2 := F0 m 1092 ls [.int 3, .ref b0, .int (xs 2), .int (xs 1), .ref a]) rfl ?_
  refine va_sld hx hb hX hbl (Nat.not_le.mpr hbl) hS (vp_in_iff.mpr (by decide)) dL_law_1092 ?_
  refine W.eq (g2 := F0 m 1093 ls [.int (xs 3), .int (xs 2), .int (xs 1), .ref a]) rfl ?_
  refine x_V (As := [.int (xs 1), .int (xs 2), .int (xs 3)]) (rest := []) C (f_X9_holes l K G H (xs 1) (xs 2) (xs 3) hT ga gw fx) yo_X9_holes wM_L_113 ⟨⟨by decide, by decide⟩, show _ ≤ 600000 by omega, show _ ≤ 7302250 by omega⟩ (x_rv C hT (ci := 9) rfl ga rg_68) rfl hl.1 rfl (Nat.le_of_ble_eq_true rfl) dL_law_1093 hS (AE_new hN hS.1) (fun v1 H1 locs1 p1 z1 k1 hS1 => ?_)
  obtain ⟨⟨r1, hv1, q1⟩, G1, m1, hT1⟩ := p1
  subst hv1
  refine W.eq (g2 := F0 m 1096 ls [.int r1]) rfl ?_
  have gb1 := (m1 b (hT.lt gb)).trans gb
  have fm1 := fm.kept (x_lt hT k1 gb (by decide))
  have hN1 : ∀ q, q < s.heap.size → G1 q = none := fun q hq => (m1 q (Nat.lt_of_lt_of_le hq hS.1)).trans (hN q hq)
  refine lv_aload_n hx hb dL_law_1096 rfl (lv_at hl 1 rfl) ?_
  refine lv_aload_n hx hb dL_law_1097 rfl (lv_at hl 3 rfl) ?_
  refine lv_iload_n hx hb dL_law_1098 rfl (lv_at hl 0 rfl) ?_
  refine lv_iconst (v := 1) hx hb dL_law_1099 (by decide) ?_
  refine lv_iadd hx hb dL_law_1100 ?_
  refine W.eq (g2 := F0 m 1101 ls [.int 1, .ref b0, .ref b, .int r1]) rfl ?_
  refine va_sld hx hb hX hbl (Nat.not_le.mpr hbl) hS1 (vp_in_iff.mpr (by decide)) dL_law_1101 ?_
  refine W.eq (g2 := F0 m 1102 ls [.int (xs 1), .ref b, .int r1]) rfl ?_
  refine lv_aload_n hx hb dL_law_1102 rfl (lv_at hl 3 rfl) ?_
  refine lv_iload_n hx hb dL_law_1103 rfl (lv_at hl 0 rfl) ?_
  refine lv_iconst (v := 2) hx hb dL_law_1104 (by decide) ?_
  refine lv_iadd hx hb dL_law_1105 ?_
  refine W.eq (g2 := F0 m 1106 ls [.int 2, .ref b0, .int (xs 1), .ref b, .int r1]) rfl ?_
  refine va_sld hx hb hX hbl (Nat.not_le.mpr hbl) hS1 (vp_in_iff.mpr (by decide)) dL_law_1106 ?_
  refine W.eq (g2 := F0 m 1107 ls [.int (xs 2), .int (xs 1), .ref b, .int r1]) rfl ?_
  refine lv_aload_n hx hb dL_law_1107 rfl (lv_at hl 3 rfl) ?_
  refine lv_iload_n hx hb dL_law_1108 rfl (lv_at hl 0 rfl) ?_
  refine lv_iconst (v := 3) hx hb dL_law_1109 (by decide) ?_
  refine lv_iadd hx hb dL_law_1110 ?_
  refine W.eq (g2 := F0 m 1111 ls [.int 3, .ref b0, .int (xs 2), .int (xs 1), .ref b, .int r1]) rfl ?_
  refine va_sld hx hb hX hbl (Nat.not_le.mpr hbl) hS1 (vp_in_iff.mpr (by decide)) dL_law_1111 ?_
  refine W.eq (g2 := F0 m 1112 ls [.int (xs 3), .int (xs 2), .int (xs 1), .ref b, .int r1]) rfl ?_
  refine x_V (As := [.int (xs 1), .int (xs 2), .int (xs 3)]) (rest := [.int r1]) C (f_X10_holes l K G1 H1 (xs 1) (xs 2) (xs 3) hT1 gb1 fm1) yo_X10_holes wM_L_116 ⟨⟨by decide, by decide⟩, show _ ≤ 600000 by omega, show _ ≤ 7302250 by omega⟩ (x_rv C hT1 (ci := 10) rfl gb1 rg_112) rfl hl.1 rfl (Nat.le_of_ble_eq_true rfl) dL_law_1112 hS1 (AE_new hN1 hS1.1) (fun v2 H2 locs2 p2 z2 k2 hS2 => ?_)
  obtain ⟨⟨r2, hv2, q2⟩, G2, m2, hT2⟩ := p2
  subst hv2
  refine W.eq (g2 := F0 m 1115 ls [.int r2, .int r1]) rfl ?_
  refine lv_icmp_eq (tgt := 1509) hx hb dL_law_1115 (by decide) (fun ce => ?_) (fun ce => ?_)
  · exact lw_tail D hS2 hl (by omega) (by omega)
  · exfalso
    have := i_ne ce
    omega
set_option maxRecDepth 100000 in
set_option maxHeartbeats 1000000 in
theorem lw_c24 {p : Program} {l : Launch} {e : Env} {s : State} {m : MethodId} {below : List Frame} {meth : Method} {c : Code} {K : KE} {b0 : Nat} {xs : Nat → Int32} {G : Nat → Option Nat} {H : Heap} {locs : List Loc} {a w b : Nat} {cells slots : Nat} {ls : Array Slot} (D : LC p K s m meth c b0 6 xs) (S : SX K s G H locs a w b) (hl : lv_has ls 4 [(3, .int 0), (2, .ref b), (1, .ref a), (0, .ref b0)]) (hc : cells ≤ 300000) (hs : slots ≤ 3000000) : W p l e room_1 s m #[Value.ref b0] below meth c H locs cells slots (lw_Z below #[Value.ref b0] s) (F0 m 1120 ls []) := by
  obtain ⟨C, hX, hbl⟩ := id D
  obtain ⟨hx, hb, hml, hown, hts, hKT, hr, hlocks, hnm⟩ := id C
  obtain ⟨hT, hN, ga, gw, gb, fx, fm, hS⟩ := S
  refine lv_aload_n hx hb dL_law_1120 rfl (lv_at hl 2 rfl) ?_
  refine lv_aload_n hx hb dL_law_1121 rfl (lv_at hl 3 rfl) ?_
  refine lv_iload_n hx hb dL_law_1122 rfl (lv_at hl 0 rfl) ?_
  refine lv_iconst (v := 1) hx hb dL_law_1123 (by decide) ?_
  refine lv_iadd hx hb dL_law_1124 ?_
  refine W.eq (g2 := F0 m 1125 ls [.int 1, .ref b0, .ref a]) rfl ?_
  refine va_sld hx hb hX hbl (Nat.not_le.mpr hbl) hS (vp_in_iff.mpr (by decide)) dL_law_1125 ?_
  refine W.eq (g2 := F0 m 1126 ls [.int (xs 1), .ref a]) rfl ?_
  refine lv_aload_n hx hb dL_law_1126 rfl (lv_at hl 3 rfl) ?_
  refine lv_iload_n hx hb dL_law_1127 rfl (lv_at hl 0 rfl) ?_
  refine lv_iconst (v := 2) hx hb dL_law_1128 (by decide) ?_
  refine lv_iadd hx hb dL_law_1129 ?_
  refine W.eq (g2 := F0 m 1130 ls [.int 2, .ref b0, .int (xs 1), .ref a]) rfl ?_
  refine va_sld hx hb hX hbl (Nat.not_le.mpr hbl) hS (vp_in_iff.mpr (by decide)) dL_law_1130 ?_
  refine W.eq (g2 := F0 m 1131 ls [.int (xs 2), .int (xs 1), .ref a]) rfl ?_
  refine lv_aload_n hx hb dL_law_1131 rfl (lv_at hl 3 rfl) ?_
  refine lv_iload_n hx hb dL_law_1132 rfl (lv_at hl 0 rfl) ?_
  refine lv_iconst (v := 3) hx hb dL_law_1133 (by decide) ?_
  refine lv_iadd hx hb dL_law_1134 ?_
  refine W.eq (g2 := F0 m 1135 ls [.int 3, .ref b0, .int (xs 2), .int (xs 1), .ref a]) rfl ?_
  refine va_sld hx hb hX hbl (Nat.not_le.mpr hbl) hS (vp_in_iff.mpr (by decide)) dL_law_1135 ?_
  refine W.eq (g2 := F0 m 1136 ls [.int (xs 3), .int (xs 2), .int (xs 1), .ref a]) rfl ?_
  refine x_V (As := [.int (xs 1), .int (xs 2), .int (xs 3)]) (rest := []) C (f_X9_tube l K G H (xs 1) (xs 2) (xs 3) hT ga gw fx) yo_X9_tube wM_L_117 ⟨⟨by decide, by decide⟩, show _ ≤ 600000 by omega, show _ ≤ 7302250 by omega⟩ (x_rv C hT (ci := 9) rfl ga rg_68) rfl hl.1 rfl (Nat.le_of_ble_eq_true rfl) dL_law_1136 hS (AE_new hN hS.1) (fun v1 H1 locs1 p1 z1 k1 hS1 => ?_)
  obtain ⟨⟨r1, hv1, q1⟩, G1, m1, hT1⟩ := p1
  subst hv1
  refine W.eq (g2 := F0 m 1139 ls [.int r1]) rfl ?_
  have gb1 := (m1 b (hT.lt gb)).trans gb
  have fm1 := fm.kept (x_lt hT k1 gb (by decide))
  have hN1 : ∀ q, q < s.heap.size → G1 q = none := fun q hq => (m1 q (Nat.lt_of_lt_of_le hq hS.1)).trans (hN q hq)
  refine lv_aload_n hx hb dL_law_1139 rfl (lv_at hl 1 rfl) ?_
  refine lv_aload_n hx hb dL_law_1140 rfl (lv_at hl 3 rfl) ?_
  refine lv_iload_n hx hb dL_law_1141 rfl (lv_at hl 0 rfl) ?_
  refine lv_iconst (v := 1) hx hb dL_law_1142 (by decide) ?_
  refine lv_iadd hx hb dL_law_1143 ?_
  refine W.eq (g2 := F0 m 1144 ls [.int 1, .ref b0, .ref b, .int r1]) rfl ?_
  refine va_sld hx hb hX hbl (Nat.not_le.mpr hbl) hS1 (vp_in_iff.mpr (by decide)) dL_law_1144 ?_
  refine W.eq (g2 := F0 m 1145 ls [.int (xs 1), .ref b, .int r1]) rfl ?_
  refine lv_aload_n hx hb dL_law_1145 rfl (lv_at hl 3 rfl) ?_
  refine lv_iload_n hx hb dL_law_1146 rfl (lv_at hl 0 rfl) ?_
  refine lv_iconst (v := 2) hx hb dL_law_1147 (by decide) ?_
  refine lv_iadd hx hb dL_law_1148 ?_
  refine W.eq (g2 := F0 m 1149 ls [.int 2, .ref b0, .int (xs 1), .ref b, .int r1]) rfl ?_
  refine va_sld hx hb hX hbl (Nat.not_le.mpr hbl) hS1 (vp_in_iff.mpr (by decide)) dL_law_1149 ?_
  refine W.eq (g2 := F0 m 1150 ls [.int (xs 2), .int (xs 1), .ref b, .int r1]) rfl ?_
  refine lv_aload_n hx hb dL_law_1150 rfl (lv_at hl 3 rfl) ?_
  refine lv_iload_n hx hb dL_law_1151 rfl (lv_at hl 0 rfl) ?_
  refine lv_iconst (v := 3) hx hb dL_law_1152 (by decide) ?_
  refine lv_iadd hx hb dL_law_1153 ?_
  refine W.eq (g2 := F0 m 1154 ls [.int 3, .ref b0, .int (xs 2), .int (xs 1), .ref b, .int r1]) rfl ?_
  refine va_sld hx hb hX hbl (Nat.not_le.mpr hbl) hS1 (vp_in_iff.mpr (by decide)) dL_law_1154 ?_
  refine W.eq (g2 := F0 m 1155 ls [.int (xs 3), .int (xs 2), .int (xs 1), .ref b, .int r1]) rfl ?_
  refine x_V (As := [.int (xs 1), .int (xs 2), .int (xs 3)]) (rest := [.int r1]) C (f_X10_tube l K G1 H1 (xs 1) (xs 2) (xs 3) hT1 gb1 fm1) yo_X10_tube wM_L_120 ⟨⟨by decide, by decide⟩, show _ ≤ 600000 by omega, show _ ≤ 7302250 by omega⟩ (x_rv C hT1 (ci := 10) rfl gb1 rg_112) rfl hl.1 rfl (Nat.le_of_ble_eq_true rfl) dL_law_1155 hS1 (AE_new hN1 hS1.1) (fun v2 H2 locs2 p2 z2 k2 hS2 => ?_)
  obtain ⟨⟨r2, hv2, q2⟩, G2, m2, hT2⟩ := p2
  subst hv2
  refine W.eq (g2 := F0 m 1158 ls [.int r2, .int r1]) rfl ?_
  refine lv_icmp_eq (tgt := 1509) hx hb dL_law_1158 (by decide) (fun ce => ?_) (fun ce => ?_)
  · exact lw_tail D hS2 hl (by omega) (by omega)
  · exfalso
    have := i_ne ce
    omega
set_option maxRecDepth 100000 in
set_option maxHeartbeats 1000000 in
theorem lw_c25 {p : Program} {l : Launch} {e : Env} {s : State} {m : MethodId} {below : List Frame} {meth : Method} {c : Code} {K : KE} {b0 : Nat} {xs : Nat → Int32} {G : Nat → Option Nat} {H : Heap} {locs : List Loc} {a w b : Nat} {cells slots : Nat} {ls : Array Slot} (D : LC p K s m meth c b0 6 xs) (S : SX K s G H locs a w b) (hl : lv_has ls 4 [(3, .int 0), (2, .ref b), (1, .ref a), (0, .ref b0)]) (hc : cells ≤ 300000) (hs : slots ≤ 3000000) : W p l e room_1 s m #[Value.ref b0] below meth c H locs cells slots (lw_Z below #[Value.ref b0] s) (F0 m 1163 ls []) := by
  obtain ⟨C, hX, hbl⟩ := id D
  obtain ⟨hx, hb, hml, hown, hts, hKT, hr, hlocks, hnm⟩ := id C
  obtain ⟨hT, hN, ga, gw, gb, fx, fm, hS⟩ := S
  refine lv_aload_n hx hb dL_law_1163 rfl (lv_at hl 2 rfl) ?_
  refine lv_aload_n hx hb dL_law_1164 rfl (lv_at hl 3 rfl) ?_
  refine lv_iload_n hx hb dL_law_1165 rfl (lv_at hl 0 rfl) ?_
  refine lv_iconst (v := 1) hx hb dL_law_1166 (by decide) ?_
  refine lv_iadd hx hb dL_law_1167 ?_
  refine W.eq (g2 := F0 m 1168 ls [.int 1, .ref b0, .ref a]) rfl ?_
  refine va_sld hx hb hX hbl (Nat.not_le.mpr hbl) hS (vp_in_iff.mpr (by decide)) dL_law_1168 ?_
  refine W.eq (g2 := F0 m 1169 ls [.int (xs 1), .ref a]) rfl ?_
  refine lv_aload_n hx hb dL_law_1169 rfl (lv_at hl 3 rfl) ?_
  refine lv_iload_n hx hb dL_law_1170 rfl (lv_at hl 0 rfl) ?_
  refine lv_iconst (v := 2) hx hb dL_law_1171 (by decide) ?_
  refine lv_iadd hx hb dL_law_1172 ?_
  refine W.eq (g2 := F0 m 1173 ls [.int 2, .ref b0, .int (xs 1), .ref a]) rfl ?_
  refine va_sld hx hb hX hbl (Nat.not_le.mpr hbl) hS (vp_in_iff.mpr (by decide)) dL_law_1173 ?_
  refine W.eq (g2 := F0 m 1174 ls [.int (xs 2), .int (xs 1), .ref a]) rfl ?_
  refine lv_aload_n hx hb dL_law_1174 rfl (lv_at hl 3 rfl) ?_
  refine lv_iload_n hx hb dL_law_1175 rfl (lv_at hl 0 rfl) ?_
  refine lv_iconst (v := 3) hx hb dL_law_1176 (by decide) ?_
  refine lv_iadd hx hb dL_law_1177 ?_
  refine W.eq (g2 := F0 m 1178 ls [.int 3, .ref b0, .int (xs 2), .int (xs 1), .ref a]) rfl ?_
  refine va_sld hx hb hX hbl (Nat.not_le.mpr hbl) hS (vp_in_iff.mpr (by decide)) dL_law_1178 ?_
  refine W.eq (g2 := F0 m 1179 ls [.int (xs 3), .int (xs 2), .int (xs 1), .ref a]) rfl ?_
  refine lv_aload_n hx hb dL_law_1179 rfl (lv_at hl 3 rfl) ?_
  refine lv_iload_n hx hb dL_law_1180 rfl (lv_at hl 0 rfl) ?_
  refine lv_iconst (v := 4) hx hb dL_law_1181 (by decide) ?_
  refine lv_iadd hx hb dL_law_1182 ?_
  refine W.eq (g2 := F0 m 1183 ls [.int 4, .ref b0, .int (xs 3), .int (xs 2), .int (xs 1), .ref a]) rfl ?_
  refine va_sld hx hb hX hbl (Nat.not_le.mpr hbl) hS (vp_in_iff.mpr (by decide)) dL_law_1183 ?_
  refine W.eq (g2 := F0 m 1184 ls [.int (xs 4), .int (xs 3), .int (xs 2), .int (xs 1), .ref a]) rfl ?_
  refine x_V (As := [.int (xs 1), .int (xs 2), .int (xs 3), .int (xs 4)]) (rest := []) C (f_X9_in l K G H (xs 1) (xs 2) (xs 3) (xs 4) hT ga gw fx) yo_X9_in wM_L_121 ⟨⟨by decide, by decide⟩, show _ ≤ 600000 by omega, show _ ≤ 7302250 by omega⟩ (x_rv C hT (ci := 9) rfl ga rg_68) rfl hl.1 rfl (Nat.le_of_ble_eq_true rfl) dL_law_1184 hS (AE_new hN hS.1) (fun v1 H1 locs1 p1 z1 k1 hS1 => ?_)
  obtain ⟨⟨r1, hv1, q1⟩, G1, m1, hT1⟩ := p1
  subst hv1
  refine W.eq (g2 := F0 m 1187 ls [.int r1]) rfl ?_
  have gb1 := (m1 b (hT.lt gb)).trans gb
  have fm1 := fm.kept (x_lt hT k1 gb (by decide))
  have hN1 : ∀ q, q < s.heap.size → G1 q = none := fun q hq => (m1 q (Nat.lt_of_lt_of_le hq hS.1)).trans (hN q hq)
  refine lv_aload_n hx hb dL_law_1187 rfl (lv_at hl 1 rfl) ?_
  refine lv_aload_n hx hb dL_law_1188 rfl (lv_at hl 3 rfl) ?_
  refine lv_iload_n hx hb dL_law_1189 rfl (lv_at hl 0 rfl) ?_
  refine lv_iconst (v := 1) hx hb dL_law_1190 (by decide) ?_
  refine lv_iadd hx hb dL_law_1191 ?_
  refine W.eq (g2 := F0 m 1192 ls [.int 1, .ref b0, .ref b, .int r1]) rfl ?_
  refine va_sld hx hb hX hbl (Nat.not_le.mpr hbl) hS1 (vp_in_iff.mpr (by decide)) dL_law_1192 ?_
  refine W.eq (g2 := F0 m 1193 ls [.int (xs 1), .ref b, .int r1]) rfl ?_
  refine lv_aload_n hx hb dL_law_1193 rfl (lv_at hl 3 rfl) ?_
  refine lv_iload_n hx hb dL_law_1194 rfl (lv_at hl 0 rfl) ?_
  refine lv_iconst (v := 2) hx hb dL_law_1195 (by decide) ?_
  refine lv_iadd hx hb dL_law_1196 ?_
  refine W.eq (g2 := F0 m 1197 ls [.int 2, .ref b0, .int (xs 1), .ref b, .int r1]) rfl ?_
  refine va_sld hx hb hX hbl (Nat.not_le.mpr hbl) hS1 (vp_in_iff.mpr (by decide)) dL_law_1197 ?_
  refine W.eq (g2 := F0 m 1198 ls [.int (xs 2), .int (xs 1), .ref b, .int r1]) rfl ?_
  refine lv_aload_n hx hb dL_law_1198 rfl (lv_at hl 3 rfl) ?_
  refine lv_iload_n hx hb dL_law_1199 rfl (lv_at hl 0 rfl) ?_
  refine lv_iconst (v := 3) hx hb dL_law_1200 (by decide) ?_
  refine lv_iadd hx hb dL_law_1201 ?_
  refine W.eq (g2 := F0 m 1202 ls [.int 3, .ref b0, .int (xs 2), .int (xs 1), .ref b, .int r1]) rfl ?_
  refine va_sld hx hb hX hbl (Nat.not_le.mpr hbl) hS1 (vp_in_iff.mpr (by decide)) dL_law_1202 ?_
  refine W.eq (g2 := F0 m 1203 ls [.int (xs 3), .int (xs 2), .int (xs 1), .ref b, .int r1]) rfl ?_
  refine lv_aload_n hx hb dL_law_1203 rfl (lv_at hl 3 rfl) ?_
  refine lv_iload_n hx hb dL_law_1204 rfl (lv_at hl 0 rfl) ?_
  refine lv_iconst (v := 4) hx hb dL_law_1205 (by decide) ?_
  refine lv_iadd hx hb dL_law_1206 ?_
  refine W.eq (g2 := F0 m 1207 ls [.int 4, .ref b0, .int (xs 3), .int (xs 2), .int (xs 1), .ref b, .int r1]) rfl ?_
  refine va_sld hx hb hX hbl (Nat.not_le.mpr hbl) hS1 (vp_in_iff.mpr (by decide)) dL_law_1207 ?_
  refine W.eq (g2 := F0 m 1208 ls [.int (xs 4), .int (xs 3), .int (xs 2), .int (xs 1), .ref b, .int r1]) rfl ?_
  refine x_V (As := [.int (xs 1), .int (xs 2), .int (xs 3), .int (xs 4)]) (rest := [.int r1]) C (f_X10_in l K G1 H1 (xs 1) (xs 2) (xs 3) (xs 4) hT1 gb1 fm1) yo_X10_in wM_L_124 ⟨⟨by decide, by decide⟩, show _ ≤ 600000 by omega, show _ ≤ 7302250 by omega⟩ (x_rv C hT1 (ci := 10) rfl gb1 rg_112) rfl hl.1 rfl (Nat.le_of_ble_eq_true rfl) dL_law_1208 hS1 (AE_new hN1 hS1.1) (fun v2 H2 locs2 p2 z2 k2 hS2 => ?_)
  obtain ⟨⟨r2, hv2, q2⟩, G2, m2, hT2⟩ := p2
  subst hv2
  refine W.eq (g2 := F0 m 1211 ls [.int r2, .int r1]) rfl ?_
  refine lv_icmp_eq (tgt := 1509) hx hb dL_law_1211 (by decide) (fun ce => ?_) (fun ce => ?_)
  · exact lw_tail D hS2 hl (by omega) (by omega)
  · exfalso
    have := i_ne ce
    omega
set_option maxRecDepth 100000 in
set_option maxHeartbeats 1000000 in
theorem lw_c26 {p : Program} {l : Launch} {e : Env} {s : State} {m : MethodId} {below : List Frame} {meth : Method} {c : Code} {K : KE} {b0 : Nat} {xs : Nat → Int32} {G : Nat → Option Nat} {H : Heap} {locs : List Loc} {a w b : Nat} {cells slots : Nat} {ls : Array Slot} (D : LC p K s m meth c b0 6 xs) (S : SX K s G H locs a w b) (hl : lv_has ls 4 [(3, .int 0), (2, .ref b), (1, .ref a), (0, .ref b0)]) (hc : cells ≤ 300000) (hs : slots ≤ 3000000) : W p l e room_1 s m #[Value.ref b0] below meth c H locs cells slots (lw_Z below #[Value.ref b0] s) (F0 m 1216 ls []) := by
  obtain ⟨C, hX, hbl⟩ := id D
  obtain ⟨hx, hb, hml, hown, hts, hKT, hr, hlocks, hnm⟩ := id C
  obtain ⟨hT, hN, ga, gw, gb, fx, fm, hS⟩ := S
  refine lv_aload_n hx hb dL_law_1216 rfl (lv_at hl 2 rfl) ?_
  refine lv_aload_n hx hb dL_law_1217 rfl (lv_at hl 3 rfl) ?_
  refine lv_iload_n hx hb dL_law_1218 rfl (lv_at hl 0 rfl) ?_
  refine lv_iconst (v := 1) hx hb dL_law_1219 (by decide) ?_
  refine lv_iadd hx hb dL_law_1220 ?_
  refine W.eq (g2 := F0 m 1221 ls [.int 1, .ref b0, .ref a]) rfl ?_
  refine va_sld hx hb hX hbl (Nat.not_le.mpr hbl) hS (vp_in_iff.mpr (by decide)) dL_law_1221 ?_
  refine W.eq (g2 := F0 m 1222 ls [.int (xs 1), .ref a]) rfl ?_
  refine lv_aload_n hx hb dL_law_1222 rfl (lv_at hl 3 rfl) ?_
  refine lv_iload_n hx hb dL_law_1223 rfl (lv_at hl 0 rfl) ?_
  refine lv_iconst (v := 2) hx hb dL_law_1224 (by decide) ?_
  refine lv_iadd hx hb dL_law_1225 ?_
  refine W.eq (g2 := F0 m 1226 ls [.int 2, .ref b0, .int (xs 1), .ref a]) rfl ?_
  refine va_sld hx hb hX hbl (Nat.not_le.mpr hbl) hS (vp_in_iff.mpr (by decide)) dL_law_1226 ?_
  refine W.eq (g2 := F0 m 1227 ls [.int (xs 2), .int (xs 1), .ref a]) rfl ?_
  refine x_V (As := [.int (xs 1), .int (xs 2)]) (rest := []) C (f_X9_night l K G H (xs 1) (xs 2) hT ga gw fx) yo_X9_night wM_L_125 ⟨⟨by decide, by decide⟩, show _ ≤ 600000 by omega, show _ ≤ 7302250 by omega⟩ (x_rv C hT (ci := 9) rfl ga rg_68) rfl hl.1 rfl (Nat.le_of_ble_eq_true rfl) dL_law_1227 hS (AE_new hN hS.1) (fun v1 H1 locs1 p1 z1 k1 hS1 => ?_)
  obtain ⟨⟨r1, hv1, q1⟩, G1, m1, hT1⟩ := p1
  subst hv1
  refine W.eq (g2 := F0 m 1230 ls [.int r1]) rfl ?_
  have gb1 := (m1 b (hT.lt gb)).trans gb
  have fm1 := fm.kept (x_lt hT k1 gb (by decide))
  have hN1 : ∀ q, q < s.heap.size → G1 q = none := fun q hq => (m1 q (Nat.lt_of_lt_of_le hq hS.1)).trans (hN q hq)
  refine lv_aload_n hx hb dL_law_1230 rfl (lv_at hl 1 rfl) ?_
  refine lv_aload_n hx hb dL_law_1231 rfl (lv_at hl 3 rfl) ?_
  refine lv_iload_n hx hb dL_law_1232 rfl (lv_at hl 0 rfl) ?_
  refine lv_iconst (v := 1) hx hb dL_law_1233 (by decide) ?_
  refine lv_iadd hx hb dL_law_1234 ?_
  refine W.eq (g2 := F0 m 1235 ls [.int 1, .ref b0, .ref b, .int r1]) rfl ?_
  refine va_sld hx hb hX hbl (Nat.not_le.mpr hbl) hS1 (vp_in_iff.mpr (by decide)) dL_law_1235 ?_
  refine W.eq (g2 := F0 m 1236 ls [.int (xs 1), .ref b, .int r1]) rfl ?_
  refine lv_aload_n hx hb dL_law_1236 rfl (lv_at hl 3 rfl) ?_
  refine lv_iload_n hx hb dL_law_1237 rfl (lv_at hl 0 rfl) ?_
  refine lv_iconst (v := 2) hx hb dL_law_1238 (by decide) ?_
  refine lv_iadd hx hb dL_law_1239 ?_
  refine W.eq (g2 := F0 m 1240 ls [.int 2, .ref b0, .int (xs 1), .ref b, .int r1]) rfl ?_
  refine va_sld hx hb hX hbl (Nat.not_le.mpr hbl) hS1 (vp_in_iff.mpr (by decide)) dL_law_1240 ?_
  refine W.eq (g2 := F0 m 1241 ls [.int (xs 2), .int (xs 1), .ref b, .int r1]) rfl ?_
  refine x_V (As := [.int (xs 1), .int (xs 2)]) (rest := [.int r1]) C (f_X10_night l K G1 H1 (xs 1) (xs 2) hT1 gb1 fm1) yo_X10_night wM_L_128 ⟨⟨by decide, by decide⟩, show _ ≤ 600000 by omega, show _ ≤ 7302250 by omega⟩ (x_rv C hT1 (ci := 10) rfl gb1 rg_112) rfl hl.1 rfl (Nat.le_of_ble_eq_true rfl) dL_law_1241 hS1 (AE_new hN1 hS1.1) (fun v2 H2 locs2 p2 z2 k2 hS2 => ?_)
  obtain ⟨⟨r2, hv2, q2⟩, G2, m2, hT2⟩ := p2
  subst hv2
  refine W.eq (g2 := F0 m 1244 ls [.int r2, .int r1]) rfl ?_
  refine lv_icmp_eq (tgt := 1509) hx hb dL_law_1244 (by decide) (fun ce => ?_) (fun ce => ?_)
  · exact lw_tail D hS2 hl (by omega) (by omega)
  · exfalso
    have := i_ne ce
    omega
set_option maxRecDepth 100000 in
set_option maxHeartbeats 1000000 in
theorem lw_c27 {p : Program} {l : Launch} {e : Env} {s : State} {m : MethodId} {below : List Frame} {meth : Method} {c : Code} {K : KE} {b0 : Nat} {xs : Nat → Int32} {G : Nat → Option Nat} {H : Heap} {locs : List Loc} {a w b : Nat} {cells slots : Nat} {ls : Array Slot} (D : LC p K s m meth c b0 6 xs) (S : SX K s G H locs a w b) (hl : lv_has ls 4 [(3, .int 0), (2, .ref b), (1, .ref a), (0, .ref b0)]) (hc : cells ≤ 300000) (hs : slots ≤ 3000000) : W p l e room_1 s m #[Value.ref b0] below meth c H locs cells slots (lw_Z below #[Value.ref b0] s) (F0 m 1249 ls []) := by
  obtain ⟨C, hX, hbl⟩ := id D
  obtain ⟨hx, hb, hml, hown, hts, hKT, hr, hlocks, hnm⟩ := id C
  obtain ⟨hT, hN, ga, gw, gb, fx, fm, hS⟩ := S
  refine lv_aload_n hx hb dL_law_1249 rfl (lv_at hl 2 rfl) ?_
  refine lv_aload_n hx hb dL_law_1250 rfl (lv_at hl 3 rfl) ?_
  refine lv_iload_n hx hb dL_law_1251 rfl (lv_at hl 0 rfl) ?_
  refine lv_iconst (v := 1) hx hb dL_law_1252 (by decide) ?_
  refine lv_iadd hx hb dL_law_1253 ?_
  refine W.eq (g2 := F0 m 1254 ls [.int 1, .ref b0, .ref a]) rfl ?_
  refine va_sld hx hb hX hbl (Nat.not_le.mpr hbl) hS (vp_in_iff.mpr (by decide)) dL_law_1254 ?_
  refine W.eq (g2 := F0 m 1255 ls [.int (xs 1), .ref a]) rfl ?_
  refine lv_aload_n hx hb dL_law_1255 rfl (lv_at hl 3 rfl) ?_
  refine lv_iload_n hx hb dL_law_1256 rfl (lv_at hl 0 rfl) ?_
  refine lv_iconst (v := 2) hx hb dL_law_1257 (by decide) ?_
  refine lv_iadd hx hb dL_law_1258 ?_
  refine W.eq (g2 := F0 m 1259 ls [.int 2, .ref b0, .int (xs 1), .ref a]) rfl ?_
  refine va_sld hx hb hX hbl (Nat.not_le.mpr hbl) hS (vp_in_iff.mpr (by decide)) dL_law_1259 ?_
  refine W.eq (g2 := F0 m 1260 ls [.int (xs 2), .int (xs 1), .ref a]) rfl ?_
  refine x_V (As := [.int (xs 1), .int (xs 2)]) (rest := []) C (f_X9_nights l K G H (xs 1) (xs 2) hT ga gw fx) yo_X9_nights wM_L_129 ⟨⟨by decide, by decide⟩, show _ ≤ 600000 by omega, show _ ≤ 7302250 by omega⟩ (x_rv C hT (ci := 9) rfl ga rg_68) rfl hl.1 rfl (Nat.le_of_ble_eq_true rfl) dL_law_1260 hS (AE_new hN hS.1) (fun v1 H1 locs1 p1 z1 k1 hS1 => ?_)
  obtain ⟨⟨r1, hv1, q1⟩, G1, m1, hT1⟩ := p1
  subst hv1
  refine W.eq (g2 := F0 m 1263 ls [.int r1]) rfl ?_
  have gb1 := (m1 b (hT.lt gb)).trans gb
  have fm1 := fm.kept (x_lt hT k1 gb (by decide))
  have hN1 : ∀ q, q < s.heap.size → G1 q = none := fun q hq => (m1 q (Nat.lt_of_lt_of_le hq hS.1)).trans (hN q hq)
  refine lv_aload_n hx hb dL_law_1263 rfl (lv_at hl 1 rfl) ?_
  refine lv_aload_n hx hb dL_law_1264 rfl (lv_at hl 3 rfl) ?_
  refine lv_iload_n hx hb dL_law_1265 rfl (lv_at hl 0 rfl) ?_
  refine lv_iconst (v := 1) hx hb dL_law_1266 (by decide) ?_
  refine lv_iadd hx hb dL_law_1267 ?_
  refine W.eq (g2 := F0 m 1268 ls [.int 1, .ref b0, .ref b, .int r1]) rfl ?_
  refine va_sld hx hb hX hbl (Nat.not_le.mpr hbl) hS1 (vp_in_iff.mpr (by decide)) dL_law_1268 ?_
  refine W.eq (g2 := F0 m 1269 ls [.int (xs 1), .ref b, .int r1]) rfl ?_
  refine lv_aload_n hx hb dL_law_1269 rfl (lv_at hl 3 rfl) ?_
  refine lv_iload_n hx hb dL_law_1270 rfl (lv_at hl 0 rfl) ?_
  refine lv_iconst (v := 2) hx hb dL_law_1271 (by decide) ?_
  refine lv_iadd hx hb dL_law_1272 ?_
  refine W.eq (g2 := F0 m 1273 ls [.int 2, .ref b0, .int (xs 1), .ref b, .int r1]) rfl ?_
  refine va_sld hx hb hX hbl (Nat.not_le.mpr hbl) hS1 (vp_in_iff.mpr (by decide)) dL_law_1273 ?_
  refine W.eq (g2 := F0 m 1274 ls [.int (xs 2), .int (xs 1), .ref b, .int r1]) rfl ?_
  refine x_V (As := [.int (xs 1), .int (xs 2)]) (rest := [.int r1]) C (f_X10_nights l K G1 H1 (xs 1) (xs 2) hT1 gb1 fm1) yo_X10_nights wM_L_132 ⟨⟨by decide, by decide⟩, show _ ≤ 600000 by omega, show _ ≤ 7302250 by omega⟩ (x_rv C hT1 (ci := 10) rfl gb1 rg_112) rfl hl.1 rfl (Nat.le_of_ble_eq_true rfl) dL_law_1274 hS1 (AE_new hN1 hS1.1) (fun v2 H2 locs2 p2 z2 k2 hS2 => ?_)
  obtain ⟨⟨r2, hv2, q2⟩, G2, m2, hT2⟩ := p2
  subst hv2
  refine W.eq (g2 := F0 m 1277 ls [.int r2, .int r1]) rfl ?_
  refine lv_icmp_eq (tgt := 1509) hx hb dL_law_1277 (by decide) (fun ce => ?_) (fun ce => ?_)
  · exact lw_tail D hS2 hl (by omega) (by omega)
  · exfalso
    have := i_ne ce
    omega
set_option maxRecDepth 100000 in
set_option maxHeartbeats 1000000 in
theorem lw_c28 {p : Program} {l : Launch} {e : Env} {s : State} {m : MethodId} {below : List Frame} {meth : Method} {c : Code} {K : KE} {b0 : Nat} {xs : Nat → Int32} {G : Nat → Option Nat} {H : Heap} {locs : List Loc} {a w b : Nat} {cells slots : Nat} {ls : Array Slot} (D : LC p K s m meth c b0 6 xs) (S : SX K s G H locs a w b) (hl : lv_has ls 4 [(3, .int 0), (2, .ref b), (1, .ref a), (0, .ref b0)]) (hc : cells ≤ 300000) (hs : slots ≤ 3000000) : W p l e room_1 s m #[Value.ref b0] below meth c H locs cells slots (lw_Z below #[Value.ref b0] s) (F0 m 1282 ls []) := by
  obtain ⟨C, hX, hbl⟩ := id D
  obtain ⟨hx, hb, hml, hown, hts, hKT, hr, hlocks, hnm⟩ := id C
  obtain ⟨hT, hN, ga, gw, gb, fx, fm, hS⟩ := S
  refine lv_aload_n hx hb dL_law_1282 rfl (lv_at hl 2 rfl) ?_
  refine lv_aload_n hx hb dL_law_1283 rfl (lv_at hl 3 rfl) ?_
  refine lv_iload_n hx hb dL_law_1284 rfl (lv_at hl 0 rfl) ?_
  refine lv_iconst (v := 1) hx hb dL_law_1285 (by decide) ?_
  refine lv_iadd hx hb dL_law_1286 ?_
  refine W.eq (g2 := F0 m 1287 ls [.int 1, .ref b0, .ref a]) rfl ?_
  refine va_sld hx hb hX hbl (Nat.not_le.mpr hbl) hS (vp_in_iff.mpr (by decide)) dL_law_1287 ?_
  refine W.eq (g2 := F0 m 1288 ls [.int (xs 1), .ref a]) rfl ?_
  refine lv_aload_n hx hb dL_law_1288 rfl (lv_at hl 3 rfl) ?_
  refine lv_iload_n hx hb dL_law_1289 rfl (lv_at hl 0 rfl) ?_
  refine lv_iconst (v := 2) hx hb dL_law_1290 (by decide) ?_
  refine lv_iadd hx hb dL_law_1291 ?_
  refine W.eq (g2 := F0 m 1292 ls [.int 2, .ref b0, .int (xs 1), .ref a]) rfl ?_
  refine va_sld hx hb hX hbl (Nat.not_le.mpr hbl) hS (vp_in_iff.mpr (by decide)) dL_law_1292 ?_
  refine W.eq (g2 := F0 m 1293 ls [.int (xs 2), .int (xs 1), .ref a]) rfl ?_
  refine x_V (As := [.int (xs 1), .int (xs 2)]) (rest := []) C (f_X9_note l K G H (xs 1) (xs 2) hT ga gw fx) yo_X9_note wM_L_133 ⟨⟨by decide, by decide⟩, show _ ≤ 600000 by omega, show _ ≤ 7302250 by omega⟩ (x_rv C hT (ci := 9) rfl ga rg_68) rfl hl.1 rfl (Nat.le_of_ble_eq_true rfl) dL_law_1293 hS (AE_new hN hS.1) (fun v1 H1 locs1 p1 z1 k1 hS1 => ?_)
  obtain ⟨⟨r1, hv1, q1⟩, G1, m1, hT1⟩ := p1
  subst hv1
  refine W.eq (g2 := F0 m 1296 ls [.int r1]) rfl ?_
  have gb1 := (m1 b (hT.lt gb)).trans gb
  have fm1 := fm.kept (x_lt hT k1 gb (by decide))
  have hN1 : ∀ q, q < s.heap.size → G1 q = none := fun q hq => (m1 q (Nat.lt_of_lt_of_le hq hS.1)).trans (hN q hq)
  refine lv_aload_n hx hb dL_law_1296 rfl (lv_at hl 1 rfl) ?_
  refine lv_aload_n hx hb dL_law_1297 rfl (lv_at hl 3 rfl) ?_
  refine lv_iload_n hx hb dL_law_1298 rfl (lv_at hl 0 rfl) ?_
  refine lv_iconst (v := 1) hx hb dL_law_1299 (by decide) ?_
  refine lv_iadd hx hb dL_law_1300 ?_
  refine W.eq (g2 := F0 m 1301 ls [.int 1, .ref b0, .ref b, .int r1]) rfl ?_
  refine va_sld hx hb hX hbl (Nat.not_le.mpr hbl) hS1 (vp_in_iff.mpr (by decide)) dL_law_1301 ?_
  refine W.eq (g2 := F0 m 1302 ls [.int (xs 1), .ref b, .int r1]) rfl ?_
  refine lv_aload_n hx hb dL_law_1302 rfl (lv_at hl 3 rfl) ?_
  refine lv_iload_n hx hb dL_law_1303 rfl (lv_at hl 0 rfl) ?_
  refine lv_iconst (v := 2) hx hb dL_law_1304 (by decide) ?_
  refine lv_iadd hx hb dL_law_1305 ?_
  refine W.eq (g2 := F0 m 1306 ls [.int 2, .ref b0, .int (xs 1), .ref b, .int r1]) rfl ?_
  refine va_sld hx hb hX hbl (Nat.not_le.mpr hbl) hS1 (vp_in_iff.mpr (by decide)) dL_law_1306 ?_
  refine W.eq (g2 := F0 m 1307 ls [.int (xs 2), .int (xs 1), .ref b, .int r1]) rfl ?_
  refine x_V (As := [.int (xs 1), .int (xs 2)]) (rest := [.int r1]) C (f_X10_note l K G1 H1 (xs 1) (xs 2) hT1 gb1 fm1) yo_X10_note wM_L_136 ⟨⟨by decide, by decide⟩, show _ ≤ 600000 by omega, show _ ≤ 7302250 by omega⟩ (x_rv C hT1 (ci := 10) rfl gb1 rg_112) rfl hl.1 rfl (Nat.le_of_ble_eq_true rfl) dL_law_1307 hS1 (AE_new hN1 hS1.1) (fun v2 H2 locs2 p2 z2 k2 hS2 => ?_)
  obtain ⟨⟨r2, hv2, q2⟩, G2, m2, hT2⟩ := p2
  subst hv2
  refine W.eq (g2 := F0 m 1310 ls [.int r2, .int r1]) rfl ?_
  refine lv_icmp_eq (tgt := 1509) hx hb dL_law_1310 (by decide) (fun ce => ?_) (fun ce => ?_)
  · exact lw_tail D hS2 hl (by omega) (by omega)
  · exfalso
    have := i_ne ce
    omega
set_option maxRecDepth 100000 in
set_option maxHeartbeats 1000000 in
theorem lw_c29 {p : Program} {l : Launch} {e : Env} {s : State} {m : MethodId} {below : List Frame} {meth : Method} {c : Code} {K : KE} {b0 : Nat} {xs : Nat → Int32} {G : Nat → Option Nat} {H : Heap} {locs : List Loc} {a w b : Nat} {cells slots : Nat} {ls : Array Slot} (D : LC p K s m meth c b0 6 xs) (S : SX K s G H locs a w b) (hl : lv_has ls 4 [(3, .int 0), (2, .ref b), (1, .ref a), (0, .ref b0)]) (hc : cells ≤ 300000) (hs : slots ≤ 3000000) : W p l e room_1 s m #[Value.ref b0] below meth c H locs cells slots (lw_Z below #[Value.ref b0] s) (F0 m 1315 ls []) := by
  obtain ⟨C, hX, hbl⟩ := id D
  obtain ⟨hx, hb, hml, hown, hts, hKT, hr, hlocks, hnm⟩ := id C
  obtain ⟨hT, hN, ga, gw, gb, fx, fm, hS⟩ := S
  refine lv_aload_n hx hb dL_law_1315 rfl (lv_at hl 2 rfl) ?_
  refine lv_aload_n hx hb dL_law_1316 rfl (lv_at hl 3 rfl) ?_
  refine lv_iload_n hx hb dL_law_1317 rfl (lv_at hl 0 rfl) ?_
  refine lv_iconst (v := 1) hx hb dL_law_1318 (by decide) ?_
  refine lv_iadd hx hb dL_law_1319 ?_
  refine W.eq (g2 := F0 m 1320 ls [.int 1, .ref b0, .ref a]) rfl ?_
  refine va_sld hx hb hX hbl (Nat.not_le.mpr hbl) hS (vp_in_iff.mpr (by decide)) dL_law_1320 ?_
  refine W.eq (g2 := F0 m 1321 ls [.int (xs 1), .ref a]) rfl ?_
  refine lv_aload_n hx hb dL_law_1321 rfl (lv_at hl 3 rfl) ?_
  refine lv_iload_n hx hb dL_law_1322 rfl (lv_at hl 0 rfl) ?_
  refine lv_iconst (v := 2) hx hb dL_law_1323 (by decide) ?_
  refine lv_iadd hx hb dL_law_1324 ?_
  refine W.eq (g2 := F0 m 1325 ls [.int 2, .ref b0, .int (xs 1), .ref a]) rfl ?_
  refine va_sld hx hb hX hbl (Nat.not_le.mpr hbl) hS (vp_in_iff.mpr (by decide)) dL_law_1325 ?_
  refine W.eq (g2 := F0 m 1326 ls [.int (xs 2), .int (xs 1), .ref a]) rfl ?_
  refine x_V (As := [.int (xs 1), .int (xs 2)]) (rest := []) C (f_X9_blank l K G H (xs 1) (xs 2) hT ga gw fx) yo_X9_blank wM_L_137 ⟨⟨by decide, by decide⟩, show _ ≤ 600000 by omega, show _ ≤ 7302250 by omega⟩ (x_rv C hT (ci := 9) rfl ga rg_68) rfl hl.1 rfl (Nat.le_of_ble_eq_true rfl) dL_law_1326 hS (AE_new hN hS.1) (fun v1 H1 locs1 p1 z1 k1 hS1 => ?_)
  obtain ⟨⟨r1, hv1, q1⟩, G1, m1, hT1⟩ := p1
  subst hv1
  refine W.eq (g2 := F0 m 1329 ls [.int r1]) rfl ?_
  have gb1 := (m1 b (hT.lt gb)).trans gb
  have fm1 := fm.kept (x_lt hT k1 gb (by decide))
  have hN1 : ∀ q, q < s.heap.size → G1 q = none := fun q hq => (m1 q (Nat.lt_of_lt_of_le hq hS.1)).trans (hN q hq)
  refine lv_aload_n hx hb dL_law_1329 rfl (lv_at hl 1 rfl) ?_
  refine lv_aload_n hx hb dL_law_1330 rfl (lv_at hl 3 rfl) ?_
  refine lv_iload_n hx hb dL_law_1331 rfl (lv_at hl 0 rfl) ?_
  refine lv_iconst (v := 1) hx hb dL_law_1332 (by decide) ?_
  refine lv_iadd hx hb dL_law_1333 ?_
  refine W.eq (g2 := F0 m 1334 ls [.int 1, .ref b0, .ref b, .int r1]) rfl ?_
  refine va_sld hx hb hX hbl (Nat.not_le.mpr hbl) hS1 (vp_in_iff.mpr (by decide)) dL_law_1334 ?_
  refine W.eq (g2 := F0 m 1335 ls [.int (xs 1), .ref b, .int r1]) rfl ?_
  refine lv_aload_n hx hb dL_law_1335 rfl (lv_at hl 3 rfl) ?_
  refine lv_iload_n hx hb dL_law_1336 rfl (lv_at hl 0 rfl) ?_
  refine lv_iconst (v := 2) hx hb dL_law_1337 (by decide) ?_
  refine lv_iadd hx hb dL_law_1338 ?_
  refine W.eq (g2 := F0 m 1339 ls [.int 2, .ref b0, .int (xs 1), .ref b, .int r1]) rfl ?_
  refine va_sld hx hb hX hbl (Nat.not_le.mpr hbl) hS1 (vp_in_iff.mpr (by decide)) dL_law_1339 ?_
  refine W.eq (g2 := F0 m 1340 ls [.int (xs 2), .int (xs 1), .ref b, .int r1]) rfl ?_
  refine x_V (As := [.int (xs 1), .int (xs 2)]) (rest := [.int r1]) C (f_X10_blank l K G1 H1 (xs 1) (xs 2) hT1 gb1 fm1) yo_X10_blank wM_L_140 ⟨⟨by decide, by decide⟩, show _ ≤ 600000 by omega, show _ ≤ 7302250 by omega⟩ (x_rv C hT1 (ci := 10) rfl gb1 rg_112) rfl hl.1 rfl (Nat.le_of_ble_eq_true rfl) dL_law_1340 hS1 (AE_new hN1 hS1.1) (fun v2 H2 locs2 p2 z2 k2 hS2 => ?_)
  obtain ⟨⟨r2, hv2, q2⟩, G2, m2, hT2⟩ := p2
  subst hv2
  refine W.eq (g2 := F0 m 1343 ls [.int r2, .int r1]) rfl ?_
  refine lv_icmp_eq (tgt := 1509) hx hb dL_law_1343 (by decide) (fun ce => ?_) (fun ce => ?_)
  · exact lw_tail D hS2 hl (by omega) (by omega)
  · exfalso
    have := i_ne ce
    omega
set_option maxRecDepth 100000 in
set_option maxHeartbeats 1000000 in
theorem lw_c30 {p : Program} {l : Launch} {e : Env} {s : State} {m : MethodId} {below : List Frame} {meth : Method} {c : Code} {K : KE} {b0 : Nat} {xs : Nat → Int32} {G : Nat → Option Nat} {H : Heap} {locs : List Loc} {a w b : Nat} {cells slots : Nat} {ls : Array Slot} (D : LC p K s m meth c b0 6 xs) (S : SX K s G H locs a w b) (hl : lv_has ls 4 [(3, .int 0), (2, .ref b), (1, .ref a), (0, .ref b0)]) (hc : cells ≤ 300000) (hs : slots ≤ 3000000) : W p l e room_1 s m #[Value.ref b0] below meth c H locs cells slots (lw_Z below #[Value.ref b0] s) (F0 m 1348 ls []) := by
  obtain ⟨C, hX, hbl⟩ := id D
  obtain ⟨hx, hb, hml, hown, hts, hKT, hr, hlocks, hnm⟩ := id C
  obtain ⟨hT, hN, ga, gw, gb, fx, fm, hS⟩ := S
  refine lv_aload_n hx hb dL_law_1348 rfl (lv_at hl 2 rfl) ?_
  refine lv_aload_n hx hb dL_law_1349 rfl (lv_at hl 3 rfl) ?_
  refine lv_iload_n hx hb dL_law_1350 rfl (lv_at hl 0 rfl) ?_
  refine lv_iconst (v := 1) hx hb dL_law_1351 (by decide) ?_
  refine lv_iadd hx hb dL_law_1352 ?_
  refine W.eq (g2 := F0 m 1353 ls [.int 1, .ref b0, .ref a]) rfl ?_
  refine va_sld hx hb hX hbl (Nat.not_le.mpr hbl) hS (vp_in_iff.mpr (by decide)) dL_law_1353 ?_
  refine W.eq (g2 := F0 m 1354 ls [.int (xs 1), .ref a]) rfl ?_
  refine lv_aload_n hx hb dL_law_1354 rfl (lv_at hl 3 rfl) ?_
  refine lv_iload_n hx hb dL_law_1355 rfl (lv_at hl 0 rfl) ?_
  refine lv_iconst (v := 2) hx hb dL_law_1356 (by decide) ?_
  refine lv_iadd hx hb dL_law_1357 ?_
  refine W.eq (g2 := F0 m 1358 ls [.int 2, .ref b0, .int (xs 1), .ref a]) rfl ?_
  refine va_sld hx hb hX hbl (Nat.not_le.mpr hbl) hS (vp_in_iff.mpr (by decide)) dL_law_1358 ?_
  refine W.eq (g2 := F0 m 1359 ls [.int (xs 2), .int (xs 1), .ref a]) rfl ?_
  refine x_V (As := [.int (xs 1), .int (xs 2)]) (rest := []) C (f_X9_set l K G H (xs 1) (xs 2) hT ga gw fx) yo_X9_set wM_L_141 ⟨⟨by decide, by decide⟩, show _ ≤ 600000 by omega, show _ ≤ 7302250 by omega⟩ (x_rv C hT (ci := 9) rfl ga rg_68) rfl hl.1 rfl (Nat.le_of_ble_eq_true rfl) dL_law_1359 hS (AE_new hN hS.1) (fun v1 H1 locs1 p1 z1 k1 hS1 => ?_)
  obtain ⟨⟨r1, hv1, q1⟩, G1, m1, hT1⟩ := p1
  subst hv1
  refine W.eq (g2 := F0 m 1362 ls [.int r1]) rfl ?_
  have gb1 := (m1 b (hT.lt gb)).trans gb
  have fm1 := fm.kept (x_lt hT k1 gb (by decide))
  have hN1 : ∀ q, q < s.heap.size → G1 q = none := fun q hq => (m1 q (Nat.lt_of_lt_of_le hq hS.1)).trans (hN q hq)
  refine lv_aload_n hx hb dL_law_1362 rfl (lv_at hl 1 rfl) ?_
  refine lv_aload_n hx hb dL_law_1363 rfl (lv_at hl 3 rfl) ?_
  refine lv_iload_n hx hb dL_law_1364 rfl (lv_at hl 0 rfl) ?_
  refine lv_iconst (v := 1) hx hb dL_law_1365 (by decide) ?_
  refine lv_iadd hx hb dL_law_1366 ?_
  refine W.eq (g2 := F0 m 1367 ls [.int 1, .ref b0, .ref b, .int r1]) rfl ?_
  refine va_sld hx hb hX hbl (Nat.not_le.mpr hbl) hS1 (vp_in_iff.mpr (by decide)) dL_law_1367 ?_
  refine W.eq (g2 := F0 m 1368 ls [.int (xs 1), .ref b, .int r1]) rfl ?_
  refine lv_aload_n hx hb dL_law_1368 rfl (lv_at hl 3 rfl) ?_
  refine lv_iload_n hx hb dL_law_1369 rfl (lv_at hl 0 rfl) ?_
  refine lv_iconst (v := 2) hx hb dL_law_1370 (by decide) ?_
  refine lv_iadd hx hb dL_law_1371 ?_
  refine W.eq (g2 := F0 m 1372 ls [.int 2, .ref b0, .int (xs 1), .ref b, .int r1]) rfl ?_
  refine va_sld hx hb hX hbl (Nat.not_le.mpr hbl) hS1 (vp_in_iff.mpr (by decide)) dL_law_1372 ?_
  refine W.eq (g2 := F0 m 1373 ls [.int (xs 2), .int (xs 1), .ref b, .int r1]) rfl ?_
  refine x_V (As := [.int (xs 1), .int (xs 2)]) (rest := [.int r1]) C (f_X10_set l K G1 H1 (xs 1) (xs 2) hT1 gb1 fm1) yo_X10_set wM_L_144 ⟨⟨by decide, by decide⟩, show _ ≤ 600000 by omega, show _ ≤ 7302250 by omega⟩ (x_rv C hT1 (ci := 10) rfl gb1 rg_112) rfl hl.1 rfl (Nat.le_of_ble_eq_true rfl) dL_law_1373 hS1 (AE_new hN1 hS1.1) (fun v2 H2 locs2 p2 z2 k2 hS2 => ?_)
  obtain ⟨⟨r2, hv2, q2⟩, G2, m2, hT2⟩ := p2
  subst hv2
  refine W.eq (g2 := F0 m 1376 ls [.int r2, .int r1]) rfl ?_
  refine lv_icmp_eq (tgt := 1509) hx hb dL_law_1376 (by decide) (fun ce => ?_) (fun ce => ?_)
  · exact lw_tail D hS2 hl (by omega) (by omega)
  · exfalso
    have := i_ne ce
    omega
set_option maxRecDepth 100000 in
set_option maxHeartbeats 1000000 in
theorem lw_c31 {p : Program} {l : Launch} {e : Env} {s : State} {m : MethodId} {below : List Frame} {meth : Method} {c : Code} {K : KE} {b0 : Nat} {xs : Nat → Int32} {G : Nat → Option Nat} {H : Heap} {locs : List Loc} {a w b : Nat} {cells slots : Nat} {ls : Array Slot} (D : LC p K s m meth c b0 6 xs) (S : SX K s G H locs a w b) (hl : lv_has ls 4 [(3, .int 0), (2, .ref b), (1, .ref a), (0, .ref b0)]) (hc : cells ≤ 300000) (hs : slots ≤ 3000000) : W p l e room_1 s m #[Value.ref b0] below meth c H locs cells slots (lw_Z below #[Value.ref b0] s) (F0 m 1381 ls []) := by
  obtain ⟨C, hX, hbl⟩ := id D
  obtain ⟨hx, hb, hml, hown, hts, hKT, hr, hlocks, hnm⟩ := id C
  obtain ⟨hT, hN, ga, gw, gb, fx, fm, hS⟩ := S
  refine lv_aload_n hx hb dL_law_1381 rfl (lv_at hl 2 rfl) ?_
  refine lv_aload_n hx hb dL_law_1382 rfl (lv_at hl 3 rfl) ?_
  refine lv_iload_n hx hb dL_law_1383 rfl (lv_at hl 0 rfl) ?_
  refine lv_iconst (v := 1) hx hb dL_law_1384 (by decide) ?_
  refine lv_iadd hx hb dL_law_1385 ?_
  refine W.eq (g2 := F0 m 1386 ls [.int 1, .ref b0, .ref a]) rfl ?_
  refine va_sld hx hb hX hbl (Nat.not_le.mpr hbl) hS (vp_in_iff.mpr (by decide)) dL_law_1386 ?_
  refine W.eq (g2 := F0 m 1387 ls [.int (xs 1), .ref a]) rfl ?_
  refine x_V (As := [.int (xs 1)]) (rest := []) C (f_X9_down l K G H (xs 1) hT ga gw fx) yo_X9_down wM_L_145 ⟨⟨by decide, by decide⟩, show _ ≤ 600000 by omega, show _ ≤ 7302250 by omega⟩ (x_rv C hT (ci := 9) rfl ga rg_68) rfl hl.1 rfl (Nat.le_of_ble_eq_true rfl) dL_law_1387 hS (AE_new hN hS.1) (fun v1 H1 locs1 p1 z1 k1 hS1 => ?_)
  obtain ⟨⟨r1, hv1, q1⟩, G1, m1, hT1⟩ := p1
  subst hv1
  refine W.eq (g2 := F0 m 1390 ls [.int r1]) rfl ?_
  have gb1 := (m1 b (hT.lt gb)).trans gb
  have fm1 := fm.kept (x_lt hT k1 gb (by decide))
  have hN1 : ∀ q, q < s.heap.size → G1 q = none := fun q hq => (m1 q (Nat.lt_of_lt_of_le hq hS.1)).trans (hN q hq)
  refine lv_aload_n hx hb dL_law_1390 rfl (lv_at hl 1 rfl) ?_
  refine lv_aload_n hx hb dL_law_1391 rfl (lv_at hl 3 rfl) ?_
  refine lv_iload_n hx hb dL_law_1392 rfl (lv_at hl 0 rfl) ?_
  refine lv_iconst (v := 1) hx hb dL_law_1393 (by decide) ?_
  refine lv_iadd hx hb dL_law_1394 ?_
  refine W.eq (g2 := F0 m 1395 ls [.int 1, .ref b0, .ref b, .int r1]) rfl ?_
  refine va_sld hx hb hX hbl (Nat.not_le.mpr hbl) hS1 (vp_in_iff.mpr (by decide)) dL_law_1395 ?_
  refine W.eq (g2 := F0 m 1396 ls [.int (xs 1), .ref b, .int r1]) rfl ?_
  refine x_V (As := [.int (xs 1)]) (rest := [.int r1]) C (f_X10_down l K G1 H1 (xs 1) hT1 gb1 fm1) yo_X10_down wM_L_148 ⟨⟨by decide, by decide⟩, show _ ≤ 600000 by omega, show _ ≤ 7302250 by omega⟩ (x_rv C hT1 (ci := 10) rfl gb1 rg_112) rfl hl.1 rfl (Nat.le_of_ble_eq_true rfl) dL_law_1396 hS1 (AE_new hN1 hS1.1) (fun v2 H2 locs2 p2 z2 k2 hS2 => ?_)
  obtain ⟨⟨r2, hv2, q2⟩, G2, m2, hT2⟩ := p2
  subst hv2
  refine W.eq (g2 := F0 m 1399 ls [.int r2, .int r1]) rfl ?_
  refine lv_icmp_eq (tgt := 1509) hx hb dL_law_1399 (by decide) (fun ce => ?_) (fun ce => ?_)
  · exact lw_tail D hS2 hl (by omega) (by omega)
  · exfalso
    have := i_ne ce
    omega
set_option maxRecDepth 100000 in
set_option maxHeartbeats 1000000 in
theorem lw_c32 {p : Program} {l : Launch} {e : Env} {s : State} {m : MethodId} {below : List Frame} {meth : Method} {c : Code} {K : KE} {b0 : Nat} {xs : Nat → Int32} {G : Nat → Option Nat} {H : Heap} {locs : List Loc} {a w b : Nat} {cells slots : Nat} {ls : Array Slot} (D : LC p K s m meth c b0 6 xs) (S : SX K s G H locs a w b) (hl : lv_has ls 4 [(3, .int 0), (2, .ref b), (1, .ref a), (0, .ref b0)]) (hc : cells ≤ 300000) (hs : slots ≤ 3000000) : W p l e room_1 s m #[Value.ref b0] below meth c H locs cells slots (lw_Z below #[Value.ref b0] s) (F0 m 1404 ls []) := by
  obtain ⟨C, hX, hbl⟩ := id D
  obtain ⟨hx, hb, hml, hown, hts, hKT, hr, hlocks, hnm⟩ := id C
  obtain ⟨hT, hN, ga, gw, gb, fx, fm, hS⟩ := S
  refine lv_aload_n hx hb dL_law_1404 rfl (lv_at hl 2 rfl) ?_
  refine lv_aload_n hx hb dL_law_1405 rfl (lv_at hl 3 rfl) ?_
  refine lv_iload_n hx hb dL_law_1406 rfl (lv_at hl 0 rfl) ?_
  refine lv_iconst (v := 1) hx hb dL_law_1407 (by decide) ?_
  refine lv_iadd hx hb dL_law_1408 ?_
  refine W.eq (g2 := F0 m 1409 ls [.int 1, .ref b0, .ref a]) rfl ?_
  refine va_sld hx hb hX hbl (Nat.not_le.mpr hbl) hS (vp_in_iff.mpr (by decide)) dL_law_1409 ?_
  refine W.eq (g2 := F0 m 1410 ls [.int (xs 1), .ref a]) rfl ?_
  refine lv_aload_n hx hb dL_law_1410 rfl (lv_at hl 3 rfl) ?_
  refine lv_iload_n hx hb dL_law_1411 rfl (lv_at hl 0 rfl) ?_
  refine lv_iconst (v := 2) hx hb dL_law_1412 (by decide) ?_
  refine lv_iadd hx hb dL_law_1413 ?_
  refine W.eq (g2 := F0 m 1414 ls [.int 2, .ref b0, .int (xs 1), .ref a]) rfl ?_
  refine va_sld hx hb hX hbl (Nat.not_le.mpr hbl) hS (vp_in_iff.mpr (by decide)) dL_law_1414 ?_
  refine W.eq (g2 := F0 m 1415 ls [.int (xs 2), .int (xs 1), .ref a]) rfl ?_
  refine lv_aload_n hx hb dL_law_1415 rfl (lv_at hl 3 rfl) ?_
  refine lv_iload_n hx hb dL_law_1416 rfl (lv_at hl 0 rfl) ?_
  refine lv_iconst (v := 3) hx hb dL_law_1417 (by decide) ?_
  refine lv_iadd hx hb dL_law_1418 ?_
  refine W.eq (g2 := F0 m 1419 ls [.int 3, .ref b0, .int (xs 2), .int (xs 1), .ref a]) rfl ?_
  refine va_sld hx hb hX hbl (Nat.not_le.mpr hbl) hS (vp_in_iff.mpr (by decide)) dL_law_1419 ?_
  refine W.eq (g2 := F0 m 1420 ls [.int (xs 3), .int (xs 2), .int (xs 1), .ref a]) rfl ?_
  refine x_V (As := [.int (xs 1), .int (xs 2), .int (xs 3)]) (rest := []) C (f_X9_enough l K G H (xs 1) (xs 2) (xs 3) hT ga gw fx) yo_X9_enough wM_L_149 ⟨⟨by decide, by decide⟩, show _ ≤ 600000 by omega, show _ ≤ 7302250 by omega⟩ (x_rv C hT (ci := 9) rfl ga rg_68) rfl hl.1 rfl (Nat.le_of_ble_eq_true rfl) dL_law_1420 hS (AE_new hN hS.1) (fun v1 H1 locs1 p1 z1 k1 hS1 => ?_)
  obtain ⟨⟨r1, hv1, q1⟩, G1, m1, hT1⟩ := p1
  subst hv1
  refine W.eq (g2 := F0 m 1423 ls [.int r1]) rfl ?_
  have gb1 := (m1 b (hT.lt gb)).trans gb
  have fm1 := fm.kept (x_lt hT k1 gb (by decide))
  have hN1 : ∀ q, q < s.heap.size → G1 q = none := fun q hq => (m1 q (Nat.lt_of_lt_of_le hq hS.1)).trans (hN q hq)
  refine lv_aload_n hx hb dL_law_1423 rfl (lv_at hl 1 rfl) ?_
  refine lv_aload_n hx hb dL_law_1424 rfl (lv_at hl 3 rfl) ?_
  refine lv_iload_n hx hb dL_law_1425 rfl (lv_at hl 0 rfl) ?_
  refine lv_iconst (v := 1) hx hb dL_law_1426 (by decide) ?_
  refine lv_iadd hx hb dL_law_1427 ?_
  refine W.eq (g2 := F0 m 1428 ls [.int 1, .ref b0, .ref b, .int r1]) rfl ?_
  refine va_sld hx hb hX hbl (Nat.not_le.mpr hbl) hS1 (vp_in_iff.mpr (by decide)) dL_law_1428 ?_
  refine W.eq (g2 := F0 m 1429 ls [.int (xs 1), .ref b, .int r1]) rfl ?_
  refine lv_aload_n hx hb dL_law_1429 rfl (lv_at hl 3 rfl) ?_
  refine lv_iload_n hx hb dL_law_1430 rfl (lv_at hl 0 rfl) ?_
  refine lv_iconst (v := 2) hx hb dL_law_1431 (by decide) ?_
  refine lv_iadd hx hb dL_law_1432 ?_
  refine W.eq (g2 := F0 m 1433 ls [.int 2, .ref b0, .int (xs 1), .ref b, .int r1]) rfl ?_
  refine va_sld hx hb hX hbl (Nat.not_le.mpr hbl) hS1 (vp_in_iff.mpr (by decide)) dL_law_1433 ?_
  refine W.eq (g2 := F0 m 1434 ls [.int (xs 2), .int (xs 1), .ref b, .int r1]) rfl ?_
  refine lv_aload_n hx hb dL_law_1434 rfl (lv_at hl 3 rfl) ?_
  refine lv_iload_n hx hb dL_law_1435 rfl (lv_at hl 0 rfl) ?_
  refine lv_iconst (v := 3) hx hb dL_law_1436 (by decide) ?_
  refine lv_iadd hx hb dL_law_1437 ?_
  refine W.eq (g2 := F0 m 1438 ls [.int 3, .ref b0, .int (xs 2), .int (xs 1), .ref b, .int r1]) rfl ?_
  refine va_sld hx hb hX hbl (Nat.not_le.mpr hbl) hS1 (vp_in_iff.mpr (by decide)) dL_law_1438 ?_
  refine W.eq (g2 := F0 m 1439 ls [.int (xs 3), .int (xs 2), .int (xs 1), .ref b, .int r1]) rfl ?_
  refine x_V (As := [.int (xs 1), .int (xs 2), .int (xs 3)]) (rest := [.int r1]) C (f_X10_enough l K G1 H1 (xs 1) (xs 2) (xs 3) hT1 gb1 fm1) yo_X10_enough wM_L_152 ⟨⟨by decide, by decide⟩, show _ ≤ 600000 by omega, show _ ≤ 7302250 by omega⟩ (x_rv C hT1 (ci := 10) rfl gb1 rg_112) rfl hl.1 rfl (Nat.le_of_ble_eq_true rfl) dL_law_1439 hS1 (AE_new hN1 hS1.1) (fun v2 H2 locs2 p2 z2 k2 hS2 => ?_)
  obtain ⟨⟨r2, hv2, q2⟩, G2, m2, hT2⟩ := p2
  subst hv2
  refine W.eq (g2 := F0 m 1442 ls [.int r2, .int r1]) rfl ?_
  refine lv_icmp_eq (tgt := 1509) hx hb dL_law_1442 (by decide) (fun ce => ?_) (fun ce => ?_)
  · exact lw_tail D hS2 hl (by omega) (by omega)
  · exfalso
    have := i_ne ce
    omega
set_option maxRecDepth 100000 in
set_option maxHeartbeats 1000000 in
theorem lw_c33 {p : Program} {l : Launch} {e : Env} {s : State} {m : MethodId} {below : List Frame} {meth : Method} {c : Code} {K : KE} {b0 : Nat} {xs : Nat → Int32} {G : Nat → Option Nat} {H : Heap} {locs : List Loc} {a w b : Nat} {cells slots : Nat} {ls : Array Slot} (D : LC p K s m meth c b0 6 xs) (S : SX K s G H locs a w b) (hl : lv_has ls 4 [(3, .int 0), (2, .ref b), (1, .ref a), (0, .ref b0)]) (hc : cells ≤ 300000) (hs : slots ≤ 3000000) : W p l e room_1 s m #[Value.ref b0] below meth c H locs cells slots (lw_Z below #[Value.ref b0] s) (F0 m 1447 ls []) := by
  obtain ⟨C, hX, hbl⟩ := id D
  obtain ⟨hx, hb, hml, hown, hts, hKT, hr, hlocks, hnm⟩ := id C
  obtain ⟨hT, hN, ga, gw, gb, fx, fm, hS⟩ := S
  refine lv_aload_n hx hb dL_law_1447 rfl (lv_at hl 2 rfl) ?_
  refine lv_aload_n hx hb dL_law_1448 rfl (lv_at hl 3 rfl) ?_
  refine lv_iload_n hx hb dL_law_1449 rfl (lv_at hl 0 rfl) ?_
  refine lv_iconst (v := 1) hx hb dL_law_1450 (by decide) ?_
  refine lv_iadd hx hb dL_law_1451 ?_
  refine W.eq (g2 := F0 m 1452 ls [.int 1, .ref b0, .ref a]) rfl ?_
  refine va_sld hx hb hX hbl (Nat.not_le.mpr hbl) hS (vp_in_iff.mpr (by decide)) dL_law_1452 ?_
  refine W.eq (g2 := F0 m 1453 ls [.int (xs 1), .ref a]) rfl ?_
  refine lv_if_eq (tgt := 1460) hx hb dL_law_1453 (by decide) (fun c1453 => ?_) (fun c1453 => ?_)
  · skip
    refine lv_iconst (v := 0) hx hb dL_law_1460 (by decide) ?_
    refine x_V (As := [.int 0]) (rest := []) C (f_X9_image_0 l K G H  hT ga gw fx) yo_X9_image wM_L_153 ⟨⟨by decide, by decide⟩, show _ ≤ 600000 by omega, show _ ≤ 7302250 by omega⟩ (x_rv C hT (ci := 9) rfl ga rg_68) rfl hl.1 rfl (Nat.le_of_ble_eq_true rfl) dL_law_1461 hS (AE_new hN hS.1) (fun v1 H1 locs1 p1 z1 k1 hS1 => ?_)
    obtain ⟨⟨r1, hv1, q1⟩, G1, m1, hT1⟩ := p1
    subst hv1
    refine W.eq (g2 := F0 m 1464 ls [.int r1]) rfl ?_
    have gb1 := (m1 b (hT.lt gb)).trans gb
    have fm1 := fm.kept (x_lt hT k1 gb (by decide))
    have hN1 : ∀ q, q < s.heap.size → G1 q = none := fun q hq => (m1 q (Nat.lt_of_lt_of_le hq hS.1)).trans (hN q hq)
    refine lv_aload_n hx hb dL_law_1464 rfl (lv_at hl 1 rfl) ?_
    refine lv_aload_n hx hb dL_law_1465 rfl (lv_at hl 3 rfl) ?_
    refine lv_iload_n hx hb dL_law_1466 rfl (lv_at hl 0 rfl) ?_
    refine lv_iconst (v := 1) hx hb dL_law_1467 (by decide) ?_
    refine lv_iadd hx hb dL_law_1468 ?_
    refine W.eq (g2 := F0 m 1469 ls [.int 1, .ref b0, .ref b, .int r1]) rfl ?_
    refine va_sld hx hb hX hbl (Nat.not_le.mpr hbl) hS1 (vp_in_iff.mpr (by decide)) dL_law_1469 ?_
    refine W.eq (g2 := F0 m 1470 ls [.int (xs 1), .ref b, .int r1]) rfl ?_
    refine lv_if_eq (tgt := 1477) hx hb dL_law_1470 (by decide) (fun c1470 => ?_) (fun c1470 => ?_)
    rotate_left
    · exact absurd c1453 c1470
    refine lv_iconst (v := 0) hx hb dL_law_1477 (by decide) ?_
    refine x_V (As := [.int 0]) (rest := [.int r1]) C (f_X10_image_0 l K G1 H1  hT1 gb1 fm1) yo_X10_image wM_L_157 ⟨⟨by decide, by decide⟩, show _ ≤ 600000 by omega, show _ ≤ 7302250 by omega⟩ (x_rv C hT1 (ci := 10) rfl gb1 rg_112) rfl hl.1 rfl (Nat.le_of_ble_eq_true rfl) dL_law_1478 hS1 (AE_new hN1 hS1.1) (fun v2 H2 locs2 p2 z2 k2 hS2 => ?_)
    obtain ⟨⟨r2, hv2, q2⟩, G2, m2, hT2⟩ := p2
    subst hv2
    refine W.eq (g2 := F0 m 1481 ls [.int r2, .int r1]) rfl ?_
    refine lv_icmp_eq (tgt := 1509) hx hb dL_law_1481 (by decide) (fun ce => ?_) (fun ce => ?_)
    · exact lw_tail D hS2 hl (by omega) (by omega)
    · exfalso
      have := i_ne ce
      omega
  · skip
    refine lv_iconst (v := 1) hx hb dL_law_1456 (by decide) ?_
    refine lv_goto (tgt := 1461) hx hb dL_law_1457 (by decide) ?_
    refine x_V (As := [.int 1]) (rest := []) C (f_X9_image_1 l K G H  hT ga gw fx) yo_X9_image wM_L_153 ⟨⟨by decide, by decide⟩, show _ ≤ 600000 by omega, show _ ≤ 7302250 by omega⟩ (x_rv C hT (ci := 9) rfl ga rg_68) rfl hl.1 rfl (Nat.le_of_ble_eq_true rfl) dL_law_1461 hS (AE_new hN hS.1) (fun v1 H1 locs1 p1 z1 k1 hS1 => ?_)
    obtain ⟨⟨r1, hv1, q1⟩, G1, m1, hT1⟩ := p1
    subst hv1
    refine W.eq (g2 := F0 m 1464 ls [.int r1]) rfl ?_
    have gb1 := (m1 b (hT.lt gb)).trans gb
    have fm1 := fm.kept (x_lt hT k1 gb (by decide))
    have hN1 : ∀ q, q < s.heap.size → G1 q = none := fun q hq => (m1 q (Nat.lt_of_lt_of_le hq hS.1)).trans (hN q hq)
    refine lv_aload_n hx hb dL_law_1464 rfl (lv_at hl 1 rfl) ?_
    refine lv_aload_n hx hb dL_law_1465 rfl (lv_at hl 3 rfl) ?_
    refine lv_iload_n hx hb dL_law_1466 rfl (lv_at hl 0 rfl) ?_
    refine lv_iconst (v := 1) hx hb dL_law_1467 (by decide) ?_
    refine lv_iadd hx hb dL_law_1468 ?_
    refine W.eq (g2 := F0 m 1469 ls [.int 1, .ref b0, .ref b, .int r1]) rfl ?_
    refine va_sld hx hb hX hbl (Nat.not_le.mpr hbl) hS1 (vp_in_iff.mpr (by decide)) dL_law_1469 ?_
    refine W.eq (g2 := F0 m 1470 ls [.int (xs 1), .ref b, .int r1]) rfl ?_
    refine lv_if_eq (tgt := 1477) hx hb dL_law_1470 (by decide) (fun c1470 => ?_) (fun c1470 => ?_)
    · exact absurd c1470 c1453
    refine lv_iconst (v := 1) hx hb dL_law_1473 (by decide) ?_
    refine lv_goto (tgt := 1478) hx hb dL_law_1474 (by decide) ?_
    refine x_V (As := [.int 1]) (rest := [.int r1]) C (f_X10_image_1 l K G1 H1  hT1 gb1 fm1) yo_X10_image wM_L_157 ⟨⟨by decide, by decide⟩, show _ ≤ 600000 by omega, show _ ≤ 7302250 by omega⟩ (x_rv C hT1 (ci := 10) rfl gb1 rg_112) rfl hl.1 rfl (Nat.le_of_ble_eq_true rfl) dL_law_1478 hS1 (AE_new hN1 hS1.1) (fun v2 H2 locs2 p2 z2 k2 hS2 => ?_)
    obtain ⟨⟨r2, hv2, q2⟩, G2, m2, hT2⟩ := p2
    subst hv2
    refine W.eq (g2 := F0 m 1481 ls [.int r2, .int r1]) rfl ?_
    refine lv_icmp_eq (tgt := 1509) hx hb dL_law_1481 (by decide) (fun ce => ?_) (fun ce => ?_)
    · exact lw_tail D hS2 hl (by omega) (by omega)
    · exfalso
      have := i_ne ce
      omega
set_option maxRecDepth 100000 in
set_option maxHeartbeats 1000000 in
theorem lw_c34 {p : Program} {l : Launch} {e : Env} {s : State} {m : MethodId} {below : List Frame} {meth : Method} {c : Code} {K : KE} {b0 : Nat} {xs : Nat → Int32} {G : Nat → Option Nat} {H : Heap} {locs : List Loc} {a w b : Nat} {cells slots : Nat} {ls : Array Slot} (D : LC p K s m meth c b0 6 xs) (S : SX K s G H locs a w b) (hl : lv_has ls 4 [(3, .int 0), (2, .ref b), (1, .ref a), (0, .ref b0)]) (hc : cells ≤ 300000) (hs : slots ≤ 3000000) : W p l e room_1 s m #[Value.ref b0] below meth c H locs cells slots (lw_Z below #[Value.ref b0] s) (F0 m 1486 ls []) := by
  obtain ⟨C, hX, hbl⟩ := id D
  obtain ⟨hx, hb, hml, hown, hts, hKT, hr, hlocks, hnm⟩ := id C
  obtain ⟨hT, hN, ga, gw, gb, fx, fm, hS⟩ := S
  refine lv_aload_n hx hb dL_law_1486 rfl (lv_at hl 2 rfl) ?_
  refine lv_aload_n hx hb dL_law_1487 rfl (lv_at hl 3 rfl) ?_
  refine lv_iload_n hx hb dL_law_1488 rfl (lv_at hl 0 rfl) ?_
  refine lv_iconst (v := 1) hx hb dL_law_1489 (by decide) ?_
  refine lv_iadd hx hb dL_law_1490 ?_
  refine W.eq (g2 := F0 m 1491 ls [.int 1, .ref b0, .ref a]) rfl ?_
  refine va_sld hx hb hX hbl (Nat.not_le.mpr hbl) hS (vp_in_iff.mpr (by decide)) dL_law_1491 ?_
  refine W.eq (g2 := F0 m 1492 ls [.int (xs 1), .ref a]) rfl ?_
  refine x_V (As := [.int (xs 1)]) (rest := []) C (f_X9_look l K G H (xs 1) hT ga gw fx) yo_X9_look wM_L_158 ⟨⟨by decide, by decide⟩, show _ ≤ 600000 by omega, show _ ≤ 7302250 by omega⟩ (x_rv C hT (ci := 9) rfl ga rg_68) rfl hl.1 rfl (Nat.le_of_ble_eq_true rfl) dL_law_1492 hS (AE_new hN hS.1) (fun v1 H1 locs1 p1 z1 k1 hS1 => ?_)
  obtain ⟨⟨r1, hv1, q1⟩, G1, m1, hT1⟩ := p1
  subst hv1
  refine W.eq (g2 := F0 m 1495 ls [.int r1]) rfl ?_
  have gb1 := (m1 b (hT.lt gb)).trans gb
  have fm1 := fm.kept (x_lt hT k1 gb (by decide))
  have hN1 : ∀ q, q < s.heap.size → G1 q = none := fun q hq => (m1 q (Nat.lt_of_lt_of_le hq hS.1)).trans (hN q hq)
  refine lv_aload_n hx hb dL_law_1495 rfl (lv_at hl 1 rfl) ?_
  refine lv_aload_n hx hb dL_law_1496 rfl (lv_at hl 3 rfl) ?_
  refine lv_iload_n hx hb dL_law_1497 rfl (lv_at hl 0 rfl) ?_
  refine lv_iconst (v := 1) hx hb dL_law_1498 (by decide) ?_
  refine lv_iadd hx hb dL_law_1499 ?_
  refine W.eq (g2 := F0 m 1500 ls [.int 1, .ref b0, .ref b, .int r1]) rfl ?_
  refine va_sld hx hb hX hbl (Nat.not_le.mpr hbl) hS1 (vp_in_iff.mpr (by decide)) dL_law_1500 ?_
  refine W.eq (g2 := F0 m 1501 ls [.int (xs 1), .ref b, .int r1]) rfl ?_
  refine x_V (As := [.int (xs 1)]) (rest := [.int r1]) C (f_X10_look l K G1 H1 (xs 1) hT1 gb1 fm1) yo_X10_look wM_L_161 ⟨⟨by decide, by decide⟩, show _ ≤ 600000 by omega, show _ ≤ 7302250 by omega⟩ (x_rv C hT1 (ci := 10) rfl gb1 rg_112) rfl hl.1 rfl (Nat.le_of_ble_eq_true rfl) dL_law_1501 hS1 (AE_new hN1 hS1.1) (fun v2 H2 locs2 p2 z2 k2 hS2 => ?_)
  obtain ⟨⟨r2, hv2, q2⟩, G2, m2, hT2⟩ := p2
  subst hv2
  refine W.eq (g2 := F0 m 1504 ls [.int r2, .int r1]) rfl ?_
  refine lv_icmp_eq (tgt := 1509) hx hb dL_law_1504 (by decide) (fun ce => ?_) (fun ce => ?_)
  · exact lw_tail D hS2 hl (by omega) (by omega)
  · exfalso
    have := i_ne ce
    omega