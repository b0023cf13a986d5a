theorem TU.putT {K : KE} {G : Nat → Option Nat} {H H1 : Heap} {b q i : Nat} {x : Int32} (hT : TY K G H) (gb : G b = some 112) (w : Wr H H1 q i (.int x)) (gq : G q = some 125) (eq : q = fR H b (K.1.2 10 16)) (hx : 1 ≤ x.toInt) (h : TU (avw K H b) (svw K H b)) : TU (avw K H1 b) (svw K H1 b) := by
  refine ⟨fun j hj => ?_, fun j hj => ?_⟩
  · rw [sv_arr gb w gq (by decide)] at hj
    show 1 ≤ (fI H1 (fR H1 b (K.1.2 10 16)) j).toInt
    rw [Wr.neR w (Or.inl (G_ne gb gq (by decide))), ← eq]
    by_cases e : j = i
    · rw [e, Wr.I w]; exact hx
    · rw [Wr.neI w (Or.inr e), eq]; exact h.1 j hj
  · rw [sv_arr gb w gq (by decide)] at hj
    rw [av_arr (k := 4) hT gb w gq (by decide) (by decide)]
    exact h.2 j hj
theorem TU.putS {K : KE} {G : Nat → Option Nat} {H H1 : Heap} {b q i : Nat} {x : Int32} (hT : TY K G H) (gb : G b = some 112) (w : Wr H H1 q i (.int x)) (gq : G q = some 113) (eq : q = fR H b (K.1.2 10 4)) (hx : 1 ≤ x.toInt) (h : TU (avw K H b) (svw K H b)) : TU (avw K H1 b) (svw K H1 b) := by
  refine ⟨fun j hj => ?_, fun j hj => ?_⟩
  · rw [sv_arr gb w gq (by decide)] at hj
    rw [av_arr (k := 16) hT gb w gq (by decide) (by decide)]
    exact h.1 j hj
  · rw [sv_arr gb w gq (by decide)] at hj
    show 1 ≤ (fI H1 (fR H1 b (K.1.2 10 4)) j).toInt
    rw [Wr.neR w (Or.inl (G_ne gb gq (by decide))), ← eq]
    by_cases e : j = i
    · rw [e, Wr.I w]; exact hx
    · rw [Wr.neI w (Or.inr e), eq]; exact h.2 j hj
theorem TU.abS {K : KE} {H : Heap} {b q n : Nat} {x : Int32} {hi : Int} (h : TU (avw K H b) (svw K H b)) (eq : q = fR H b (K.1.2 10 4)) (ex : x = fI H b (K.1.2 10 1)) (hn : (n : Int) ≤ x.toInt) (hh : ∀ j : Nat, j < n → (fI H q j).toInt ≤ hi) : AB H q n 1 hi := fun j hj => ⟨by subst eq; exact h.2 j (by show (j : Int) < (fI H b (K.1.2 10 1)).toInt; rw [← ex]; omega), hh j hj⟩
theorem TU.abT {K : KE} {H : Heap} {b q n : Nat} {x : Int32} {hi : Int} (h : TU (avw K H b) (svw K H b)) (eq : q = fR H b (K.1.2 10 16)) (ex : x = fI H b (K.1.2 10 1)) (hn : (n : Int) ≤ 2 * x.toInt) (hh : ∀ j : Nat, j < n → (fI H q j).toInt ≤ hi) : AB H q n 1 hi := fun j hj => ⟨by subst eq; exact h.1 j (by show (j : Int) < 2 * (fI H b (K.1.2 10 1)).toInt; rw [← ex]; omega), hh j hj⟩
theorem TU.grow {K : KE} {G : Nat → Option Nat} {H H1 : Heap} {b q q4 n n4 : Nat} {x : Int32} {hi hi4 : Int} (hT : TY K G H) (gb : G b = some 112) (hap : ∀ x y, x < 74 → y < 74 → x ≠ y → K.1.2 10 x ≠ K.1.2 10 y) (w : Wr H H1 b (K.1.2 10 1) (.int x)) (eq : q = fR H b (K.1.2 10 16)) (eq4 : q4 = fR H b (K.1.2 10 4)) (h : AB H q n 1 hi) (h4 : AB H q4 n4 1 hi4) (hn : 2 * x.toInt ≤ (n : Int)) (hn4 : x.toInt ≤ (n4 : Int)) : TU (avw K H1 b) (svw K H1 b) := by
  have es : (svw K H1 b 1).toInt = x.toInt := by show (fI H1 b (K.1.2 10 1)).toInt = _; rw [Wr.I w]
  refine ⟨fun j hj => ?_, fun j hj => ?_⟩
  · rw [es] at hj
    rw [av_fld (k := 16) hT gb hap w (by decide) (by decide) (by decide)]
    show 1 ≤ (fI H (fR H b (K.1.2 10 16)) j).toInt
    rw [← eq]
    exact (h j (by omega)).1
  · rw [es] at hj
    rw [av_fld (k := 4) hT gb hap w (by decide) (by decide) (by decide)]
    show 1 ≤ (fI H (fR H b (K.1.2 10 4)) j).toInt
    rw [← eq4]
    exact (h4 j (by omega)).1
set_option maxHeartbeats 4000000 in
set_option maxRecDepth 100000 in
theorem a_X10_of (l : Launch) (K : KE) (G : Nat → Option Nat) (H : Heap) {a0 : Nat} (x1 : Int32) (x2 : Int32) (x3 : Int32) (hT : TY K G H) (ga0 : G a0 = some 112) (hg_CG : CG (avw K H a0)) (hg_TU : TU (avw K H a0) (svw K H a0)) (hg_WD : WD (avw K H a0)) (hg_IM : IM (avw K H a0)) : MX l K yX10_of cX10_of 5 (some .int) 2 43 0 0 [.ref a0, .int x1, .int x2, .int x3] H (AE G [112] H.size) (fun v H1 => ∃ (r : Int32), v = some (.int r) ∧ (CG (avw K H1 a0)) ∧ (TU (avw K H1 a0) (svw K H1 a0)) ∧ (WD (avw K H1 a0)) ∧ (IM (avw K H1 a0)) ∧ MF K H H1 a0 [0] ∧ TY K G H1) := by
  refine MX.of (by decide +kernel) (Nat.le_of_ble_eq_true rfl) ?_
  intro p e s m below meth c ls Q C hH hl hQ
  subst hH
  have C : CX p K s m _ meth c RX10 cX10_of 5 (some .int) "of" := C
  obtain ⟨hx, hb, hml, hown, hts, hKT, hr, hlocks, hnm⟩ := id C
  have hl : lv_has ls 5 [(0, .ref a0), (1, .int x1), (2, .int x2), (3, .int x3)] := hl
  have hS : va_S (AE G [112] s.heap.size) s.heap s.heap [] := va_S.rf
  have n_m1 : ((-1) : Int32).toInt = -1 := rfl
  have n_0 : (0 : Int32).toInt = 0 := rfl
  have n_1 : (1 : Int32).toInt = 1 := rfl
  have n_2 : (2 : Int32).toInt = 2 := rfl
  have n_3 : (3 : Int32).toInt = 3 := rfl
  have n_16 : (16 : Int32).toInt = 16 := rfl
  have hap : ∀ x y, x < 74 → y < 74 → x ≠ y → K.1.2 10 x ≠ K.1.2 10 y := x_apart hKT hts inX10 tyX10 tyX10_ok nmX10 rfl
  have mf0 : MF K s.heap s.heap a0 [0] := fun _ _ _ => rfl
  have J84 : ∀ (ls263 : Array Slot) (H262 : Heap) (locsH262 : List Loc) (x265 : Int32), lv_has ls263 5 [] → TY K G H262 → va_S (AE G [112] s.heap.size) s.heap H262 locsH262 → (MF K s.heap H262 a0 [0]) → (CG (avw K H262 a0)) → (TU (avw K H262 a0) (svw K H262 a0)) → (WD (avw K H262 a0)) → (IM (avw K H262 a0)) → W p l e ({ frames := 2, cells := 0, slots := 0, locals := 43 } : Room) s m (([.ref a0, .int x1, .int x2, .int x3] : List Value).toArray) below meth c H262 locsH262 0 0 Q (F0 m 84 ls263 [.int x265]) := by
    intro ls263 H262 locsH262 x265 hl264 hTH262 hSH262 mfy266 gy266_CG gy266_TU gy266_WD gy266_IM
    exact x_iret C hQ dX10_of_84 hSH262 (by decide) (by decide) (⟨x265, rfl, gy266_CG, gy266_TU, gy266_WD, gy266_IM, mfy266, hTH262⟩)
  refine lv_aload_n hx hb dX10_of_0 rfl (lv_at hl 0 rfl) ?_
  refine lv_iconst (v := 0) hx hb dX10_of_1 (by decide) ?_
  refine x_put C hT hS (ci := 10) (k := 0) (v := .int 0) (ty0 := tyX10) rfl inX10 tyX10_ok nmX10 (by decide) rfl wF_X10_167 ga0 rg_112 rfl rfl (okI (by have := i_rng (0 : Int32); omega) (by have := i_rng (0 : Int32); omega)) rfl rfl (AE_in ga0 (by decide)) dX10_of_2 (fun H267 locsH267 hTH267 hSH267 wH267 => ?_)
  have mf268 : MF K s.heap H267 a0 [0] := MF.fld hap wH267 (by decide) (by decide) mf0
  have g269 : CG (avw K H267 a0) := CG.congr (fun k hk j => av_fld hT ga0 hap wH267 (by decide) (CG_ok 112 (by decide) k hk) (CG_ne 0 (by decide) k hk)) hg_CG
  have g270 : TU (avw K H267 a0) (svw K H267 a0) := TU.congr (fun k hk j => av_fld hT ga0 hap wH267 (by decide) (TU_ok 112 (by decide) k hk) (TU_ne 0 (by decide) k hk)) (fun k hk => sv_fld hap wH267 (by decide) (TU_slt k hk) (TU_sne 0 (by decide) k hk)) hg_TU
  have g271 : WD (avw K H267 a0) := WD.congr (fun k hk j => av_fld hT ga0 hap wH267 (by decide) (WD_ok 112 (by decide) k hk) (WD_ne 0 (by decide) k hk)) hg_WD
  have g272 : IM (avw K H267 a0) := IM.congr (fun k hk j => av_fld hT ga0 hap wH267 (by decide) (IM_ok 112 (by decide) k hk) (IM_ne 0 (by decide) k hk)) hg_IM
  have m273 := Wr.I wH267
  refine lv_aload_n hx hb dX10_of_5 rfl (lv_at hl 0 rfl) ?_
  refine lv_iload_n hx hb dX10_of_6 rfl (lv_at hl 1 rfl) ?_
  refine lv_iload_n hx hb dX10_of_7 rfl (lv_at hl 2 rfl) ?_
  obtain ⟨x274, ex274⟩ : ∃ z : Int32, z = fI H267 a0 (K.1.2 10 1) := ⟨_, rfl⟩
  have bx274 := ty_fi (x := x274) (k := 1) ex274 hTH267 ga0 rg_112 rfl
  refine x_V (As := [.int x1, .int x2]) (rest := []) C (a_X10_isSlice l K G H267 (x1) (x2) (x274) hTH267 ga0 ex274) yo_X10_isSlice wM_X10_181 ⟨⟨by decide, by decide⟩, by decide, by decide⟩ (x_rv C hTH267 (ci := 10) rfl ga0 rg_112) rfl hl.1 rfl (Nat.le_of_ble_eq_true rfl) dX10_of_8 hSH267 (AE_sub (fun _ _ => rfl) (by decide) hSH267.1) (fun vH275 H275 locsH275 pH275 zH275 kH275 hSH275 => ?_)
  obtain ⟨x276, hvH275, bx276, hrH275, hTH275⟩ := pH275
  subst hvH275
  have mf277 : MF K s.heap H275 a0 [0] := MF.eff (x_lt hTH267 kH275 ga0 (by decide)) mf268
  have g278 : CG (avw K H275 a0) := CG.congr (fun k hk j => av_eff hTH267 kH275 ga0 (by decide) (CG_eff [] (by decide) k hk)) g269
  have g279 : TU (avw K H275 a0) (svw K H275 a0) := TU.congr (fun k hk j => av_eff hTH267 kH275 ga0 (by decide) (TU_eff [] (by decide) k hk)) (fun k hk => sv_eff hTH267 kH275 ga0 (by decide)) g270
  have g280 : WD (avw K H275 a0) := WD.congr (fun k hk j => av_eff hTH267 kH275 ga0 (by decide) (WD_eff [] (by decide) k hk)) g271
  have g281 : IM (avw K H275 a0) := IM.congr (fun k hk j => av_eff hTH267 kH275 ga0 (by decide) (IM_eff [] (by decide) k hk)) g272
  have m282 := (fI_kept (x_lt hTH267 kH275 ga0 (by decide))).trans m273
  have m283 := (ex274).trans (fI_kept (x_lt hTH267 kH275 ga0 (by decide))).symm
  refine W.eq (g2 := F0 m 11 ls [.int x276]) rfl ?_
  refine lv_if_ne (tgt := 16) hx hb dX10_of_11 (by decide) (fun c284 => ?_) (fun c284 => ?_)
  · have k285 := i_ne c284
    refine lv_bipush (v := 16) hx hb dX10_of_16 (by decide) ?_
    refine lv_iload_n hx hb dX10_of_18 rfl (lv_at hl 1 rfl) ?_
    refine lv_imul hx hb dX10_of_19 ?_
    refine lv_topi (fun x286 ex286 => ?_)
    have tx286 := i_mul ex286 (by rw [n_16]; omega)
    rw [n_16] at tx286
    refine lv_iload_n hx hb dX10_of_20 rfl (lv_at hl 2 rfl) ?_
    refine lv_iadd hx hb dX10_of_21 ?_
    refine lv_topi (fun x287 ex287 => ?_)
    have tx287 := i_add ex287 (by omega)
    refine lv_istore (lv' := [(4, .int x287), (0, .ref a0), (1, .int x1), (2, .int x2), (3, .int x3)]) hx hb dX10_of_22 hl (by decide) rfl (fun ls288 hl289 => ?_)
    refine lv_iload_n hx hb dX10_of_24 rfl (lv_at hl289 4 rfl) ?_
    refine lv_if_ne (tgt := 38) hx hb dX10_of_25 (by decide) (fun c290 => ?_) (fun c290 => ?_)
    · have k291 := i_ne c290
      refine lv_iload_n hx hb dX10_of_38 rfl (lv_at hl289 4 rfl) ?_
      refine lv_iconst (v := 1) hx hb dX10_of_39 (by decide) ?_
      refine lv_icmp_ne (tgt := 53) hx hb dX10_of_40 (by decide) (fun c292 => ?_) (fun c292 => ?_)
      · have k293 := i_ne c292
        refine lv_iload_n hx hb dX10_of_53 rfl (lv_at hl289 4 rfl) ?_
        refine lv_iconst (v := 2) hx hb dX10_of_54 (by decide) ?_
        refine lv_icmp_ne (tgt := 68) hx hb dX10_of_55 (by decide) (fun c294 => ?_) (fun c294 => ?_)
        · have k295 := i_ne c294
          refine lv_iload_n hx hb dX10_of_68 rfl (lv_at hl289 4 rfl) ?_
          refine lv_iconst (v := 3) hx hb dX10_of_69 (by decide) ?_
          refine lv_icmp_ne (tgt := 83) hx hb dX10_of_70 (by decide) (fun c296 => ?_) (fun c296 => ?_)
          · have k297 := i_ne c296
            refine lv_iconst (v := (-1)) hx hb dX10_of_83 (by decide) ?_
            exact J84 ls288 H275 locsH275 ((-1)) (lv_sub hl289 [] rfl) hTH275 hSH275 mf277 g278 g279 g280 g281
          · have k297 := i_eq c296
            refine lv_aload_n hx hb dX10_of_73 rfl (lv_at hl289 1 rfl) ?_
            refine x_gr C hTH275 (ci := 10) (k := 8) rfl inX10 (by decide) wF_X10_26 ga0 rg_112 rfl dX10_of_74 (fun q298 eq298 gq298 => ?_)
            refine lv_iload hx hb dX10_of_77 (lv_at hl289 0 rfl) ?_
            refine x_ai C hTH275 gq298 rg_117 ⟨by omega, by show _ < ((160 : Nat) : Int); omega⟩ dX10_of_79 (fun x299 ex299 bx299 => ?_)
            refine lv_goto (tgt := 84) hx hb dX10_of_80 (by decide) ?_
            exact J84 ls288 H275 locsH275 (x299) (lv_sub hl289 [] rfl) hTH275 hSH275 mf277 g278 g279 g280 g281
        · have k295 := i_eq c294
          refine lv_aload_n hx hb dX10_of_58 rfl (lv_at hl289 1 rfl) ?_
          refine x_gr C hTH275 (ci := 10) (k := 7) rfl inX10 (by decide) wF_X10_23 ga0 rg_112 rfl dX10_of_59 (fun q300 eq300 gq300 => ?_)
          refine lv_iload hx hb dX10_of_62 (lv_at hl289 0 rfl) ?_
          refine x_ai C hTH275 gq300 rg_116 ⟨by omega, by show _ < ((160 : Nat) : Int); omega⟩ dX10_of_64 (fun x301 ex301 bx301 => ?_)
          refine lv_goto (tgt := 84) hx hb dX10_of_65 (by decide) ?_
          exact J84 ls288 H275 locsH275 (x301) (lv_sub hl289 [] rfl) hTH275 hSH275 mf277 g278 g279 g280 g281
      · have k293 := i_eq c292
        refine lv_aload_n hx hb dX10_of_43 rfl (lv_at hl289 1 rfl) ?_
        refine x_gr C hTH275 (ci := 10) (k := 6) rfl inX10 (by decide) wF_X10_20 ga0 rg_112 rfl dX10_of_44 (fun q302 eq302 gq302 => ?_)
        refine lv_iload hx hb dX10_of_47 (lv_at hl289 0 rfl) ?_
        refine x_ai C hTH275 gq302 rg_115 ⟨by omega, by show _ < ((160 : Nat) : Int); omega⟩ dX10_of_49 (fun x303 ex303 bx303 => ?_)
        refine lv_goto (tgt := 84) hx hb dX10_of_50 (by decide) ?_
        exact J84 ls288 H275 locsH275 (x303) (lv_sub hl289 [] rfl) hTH275 hSH275 mf277 g278 g279 g280 g281
    · have k291 := i_eq c290
      refine lv_aload_n hx hb dX10_of_28 rfl (lv_at hl289 1 rfl) ?_
      refine x_gr C hTH275 (ci := 10) (k := 5) rfl inX10 (by decide) wF_X10_17 ga0 rg_112 rfl dX10_of_29 (fun q304 eq304 gq304 => ?_)
      refine lv_iload hx hb dX10_of_32 (lv_at hl289 0 rfl) ?_
      refine x_ai C hTH275 gq304 rg_114 ⟨by omega, by show _ < ((160 : Nat) : Int); omega⟩ dX10_of_34 (fun x305 ex305 bx305 => ?_)
      refine lv_goto (tgt := 84) hx hb dX10_of_35 (by decide) ?_
      exact J84 ls288 H275 locsH275 (x305) (lv_sub hl289 [] rfl) hTH275 hSH275 mf277 g278 g279 g280 g281
  · have k285 := i_eq c284
    refine lv_iconst (v := (-1)) hx hb dX10_of_14 (by decide) ?_
    exact x_iret C hQ dX10_of_15 hSH275 (by decide) (by decide) (⟨(-1), rfl, g278, g279, g280, g281, mf277, hTH275⟩)

set_option maxHeartbeats 4000000 in
set_option maxRecDepth 100000 in
theorem a_X10_fault (l : Launch) (K : KE) (G : Nat → Option Nat) (H : Heap) {a0 : Nat} (x1 : Int32) (hT : TY K G H) (ga0 : G a0 = some 112) (hg_CG : CG (avw K H a0)) (hg_TU : TU (avw K H a0) (svw K H a0)) (hg_WD : WD (avw K H a0)) (hg_IM : IM (avw K H a0)) : MX l K yX10_fault cX10_fault 2 (some .int) 0 0 0 0 [.ref a0, .int x1] H (AE G [112] H.size) (fun v H1 => ∃ (r : Int32), v = some (.int r) ∧ (CG (avw K H1 a0)) ∧ (TU (avw K H1 a0) (svw K H1 a0)) ∧ (WD (avw K H1 a0)) ∧ (IM (avw K H1 a0)) ∧ MF K H H1 a0 [0] ∧ TY K G H1) := by
  refine MX.of (by decide +kernel) (Nat.le_of_ble_eq_true rfl) ?_
  intro p e s m below meth c ls Q C hH hl hQ
  subst hH
  have C : CX p K s m _ meth c RX10 cX10_fault 2 (some .int) "fault" := C
  obtain ⟨hx, hb, hml, hown, hts, hKT, hr, hlocks, hnm⟩ := id C
  have hl : lv_has ls 2 [(0, .ref a0), (1, .int x1)] := hl
  have hS : va_S (AE G [112] s.heap.size) s.heap s.heap [] := va_S.rf
  have n_m1 : ((-1) : Int32).toInt = -1 := rfl
  have n_0 : (0 : Int32).toInt = 0 := rfl
  have n_1 : (1 : Int32).toInt = 1 := rfl
  have hap : ∀ x y, x < 74 → y < 74 → x ≠ y → K.1.2 10 x ≠ K.1.2 10 y := x_apart hKT hts inX10 tyX10 tyX10_ok nmX10 rfl
  have mf0 : MF K s.heap s.heap a0 [0] := fun _ _ _ => rfl
  have J29 : ∀ (ls159 : Array Slot) (H158 : Heap) (locsH158 : List Loc) (x161 : Int32), lv_has ls159 2 [] → TY K G H158 → va_S (AE G [112] s.heap.size) s.heap H158 locsH158 → (MF K s.heap H158 a0 [0]) → (CG (avw K H158 a0)) → (TU (avw K H158 a0) (svw K H158 a0)) → (WD (avw K H158 a0)) → (IM (avw K H158 a0)) → W p l e ({ frames := 0, cells := 0, slots := 0, locals := 0 } : Room) s m (([.ref a0, .int x1] : List Value).toArray) below meth c H158 locsH158 0 0 Q (F0 m 29 ls159 [.int x161]) := by
    intro ls159 H158 locsH158 x161 hl160 hTH158 hSH158 mfy162 gy162_CG gy162_TU gy162_WD gy162_IM
    exact x_iret C hQ dX10_fault_29 hSH158 (by decide) (by decide) (⟨x161, rfl, gy162_CG, gy162_TU, gy162_WD, gy162_IM, mfy162, hTH158⟩)
  refine lv_aload_n hx hb dX10_fault_0 rfl (lv_at hl 0 rfl) ?_
  refine lv_iconst (v := 0) hx hb dX10_fault_1 (by decide) ?_
  refine x_put C hT hS (ci := 10) (k := 0) (v := .int 0) (ty0 := tyX10) rfl inX10 tyX10_ok nmX10 (by decide) rfl wF_X10_167 ga0 rg_112 rfl rfl (okI (by have := i_rng (0 : Int32); omega) (by have := i_rng (0 : Int32); omega)) rfl rfl (AE_in ga0 (by decide)) dX10_fault_2 (fun H163 locsH163 hTH163 hSH163 wH163 => ?_)
  have mf164 : MF K s.heap H163 a0 [0] := MF.fld hap wH163 (by decide) (by decide) mf0
  have g165 : CG (avw K H163 a0) := CG.congr (fun k hk j => av_fld hT ga0 hap wH163 (by decide) (CG_ok 112 (by decide) k hk) (CG_ne 0 (by decide) k hk)) hg_CG
  have g166 : TU (avw K H163 a0) (svw K H163 a0) := TU.congr (fun k hk j => av_fld hT ga0 hap wH163 (by decide) (TU_ok 112 (by decide) k hk) (TU_ne 0 (by decide) k hk)) (fun k hk => sv_fld hap wH163 (by decide) (TU_slt k hk) (TU_sne 0 (by decide) k hk)) hg_TU
  have g167 : WD (avw K H163 a0) := WD.congr (fun k hk j => av_fld hT ga0 hap wH163 (by decide) (WD_ok 112 (by decide) k hk) (WD_ne 0 (by decide) k hk)) hg_WD
  have g168 : IM (avw K H163 a0) := IM.congr (fun k hk j => av_fld hT ga0 hap wH163 (by decide) (IM_ok 112 (by decide) k hk) (IM_ne 0 (by decide) k hk)) hg_IM
  have m169 := Wr.I wH163
  refine lv_iload_n hx hb dX10_fault_5 rfl (lv_at hl 1 rfl) ?_
  refine lv_if_ne (tgt := 16) hx hb dX10_fault_6 (by decide) (fun c170 => ?_) (fun c170 => ?_)
  · have k171 := i_ne c170
    refine lv_iload_n hx hb dX10_fault_16 rfl (lv_at hl 1 rfl) ?_
    refine lv_iconst (v := 1) hx hb dX10_fault_17 (by decide) ?_
    refine lv_icmp_ne (tgt := 28) hx hb dX10_fault_18 (by decide) (fun c172 => ?_) (fun c172 => ?_)
    · have k173 := i_ne c172
      refine lv_iconst (v := (-1)) hx hb dX10_fault_28 (by decide) ?_
      exact J29 ls H163 locsH163 ((-1)) (lv_sub hl [] rfl) hTH163 hSH163 mf164 g165 g166 g167 g168
    · have k173 := i_eq c172
      refine lv_aload_n hx hb dX10_fault_21 rfl (lv_at hl 0 rfl) ?_
      refine x_gi C hTH163 (ci := 10) (k := 42) rfl inX10 (by decide) wF_X10_92 ga0 rg_112 rfl dX10_fault_22 (fun x174 ex174 bx174 => ?_)
      refine lv_goto (tgt := 29) hx hb dX10_fault_25 (by decide) ?_
      exact J29 ls H163 locsH163 (x174) (lv_sub hl [] rfl) hTH163 hSH163 mf164 g165 g166 g167 g168
  · have k171 := i_eq c170
    refine lv_aload_n hx hb dX10_fault_9 rfl (lv_at hl 0 rfl) ?_
    refine x_gi C hTH163 (ci := 10) (k := 41) rfl inX10 (by decide) wF_X10_292 ga0 rg_112 rfl dX10_fault_10 (fun x175 ex175 bx175 => ?_)
    refine lv_goto (tgt := 29) hx hb dX10_fault_13 (by decide) ?_
    exact J29 ls H163 locsH163 (x175) (lv_sub hl [] rfl) hTH163 hSH163 mf164 g165 g166 g167 g168

set_option maxHeartbeats 4000000 in
set_option maxRecDepth 100000 in
theorem a_X10_tells (l : Launch) (K : KE) (G : Nat → Option Nat) (H : Heap) {a0 : Nat} (x1 : Int32) (x2 : Int32) (x3 : Int32) (x4 : Int32) (x5 : Int32) (hT : TY K G H) (ga0 : G a0 = some 112) (hg_CG : CG (avw K H a0)) (hg_TU : TU (avw K H a0) (svw K H a0)) (hg_WD : WD (avw K H a0)) (hg_IM : IM (avw K H a0)) : MX l K yX10_tells cX10_tells 6 (some .int) 4 97 0 0 [.ref a0, .int x1, .int x2, .int x3, .int x4, .int x5] H (AE G [112, 140, 139] H.size) (fun v H1 => ∃ (r : Int32), v = some (.int r) ∧ (CG (avw K H1 a0)) ∧ (TU (avw K H1 a0) (svw K H1 a0)) ∧ (WD (avw K H1 a0)) ∧ (IM (avw K H1 a0)) ∧ MF K H H1 a0 [0] ∧ TY K G H1) := by
  refine MX.of (by decide +kernel) (Nat.le_of_ble_eq_true rfl) ?_
  intro p e s m below meth c ls Q C hH hl hQ
  subst hH
  have C : CX p K s m _ meth c RX10 cX10_tells 6 (some .int) "tells" := C
  obtain ⟨hx, hb, hml, hown, hts, hKT, hr, hlocks, hnm⟩ := id C
  have hl : lv_has ls 6 [(0, .ref a0), (1, .int x1), (2, .int x2), (3, .int x3), (4, .int x4), (5, .int x5)] := hl
  have hS : va_S (AE G [112, 140, 139] s.heap.size) s.heap s.heap [] := va_S.rf
  have n_m100000 : ((-100000) : Int32).toInt = -100000 := rfl
  have n_0 : (0 : Int32).toInt = 0 := rfl
  have n_1 : (1 : Int32).toInt = 1 := rfl
  have n_2 : (2 : Int32).toInt = 2 := rfl
  have hap : ∀ x y, x < 74 → y < 74 → x ≠ y → K.1.2 10 x ≠ K.1.2 10 y := x_apart hKT hts inX10 tyX10 tyX10_ok nmX10 rfl
  have mf0 : MF K s.heap s.heap a0 [0] := fun _ _ _ => rfl
  have J42 : ∀ (ls322 : Array Slot) (H321 : Heap) (locsH321 : List Loc) , lv_has ls322 6 [] → TY K G H321 → va_S (AE G [112, 140, 139] s.heap.size) s.heap H321 locsH321 → (MF K s.heap H321 a0 [0]) → (CG (avw K H321 a0)) → (TU (avw K H321 a0) (svw K H321 a0)) → (WD (avw K H321 a0)) → (IM (avw K H321 a0)) → W p l e ({ frames := 4, cells := 0, slots := 0, locals := 97 } : Room) s m (([.ref a0, .int x1, .int x2, .int x3, .int x4, .int x5] : List Value).toArray) below meth c H321 locsH321 0 0 Q (F0 m 42 ls322 []) := by
    intro ls322 H321 locsH321  hl323 hTH321 hSH321 mfy324 gy324_CG gy324_TU gy324_WD gy324_IM
    refine lv_ldcw (v := (-100000)) hx hb hown (hts _ wK_X10_334) dX10_tells_42 ?_
    exact x_iret C hQ dX10_tells_45 hSH321 (by decide) (by decide) (⟨(-100000), rfl, gy324_CG, gy324_TU, gy324_WD, gy324_IM, mfy324, hTH321⟩)
  refine lv_aload_n hx hb dX10_tells_0 rfl (lv_at hl 0 rfl) ?_
  refine lv_iconst (v := 0) hx hb dX10_tells_1 (by decide) ?_
  refine x_put C hT hS (ci := 10) (k := 0) (v := .int 0) (ty0 := tyX10) rfl inX10 tyX10_ok nmX10 (by decide) rfl wF_X10_167 ga0 rg_112 rfl rfl (okI (by have := i_rng (0 : Int32); omega) (by have := i_rng (0 : Int32); omega)) rfl rfl (AE_in ga0 (by decide)) dX10_tells_2 (fun H325 locsH325 hTH325 hSH325 wH325 => ?_)
  have mf326 : MF K s.heap H325 a0 [0] := MF.fld hap wH325 (by decide) (by decide) mf0
  have g327 : CG (avw K H325 a0) := CG.congr (fun k hk j => av_fld hT ga0 hap wH325 (by decide) (CG_ok 112 (by decide) k hk) (CG_ne 0 (by decide) k hk)) hg_CG
  have g328 : TU (avw K H325 a0) (svw K H325 a0) := TU.congr (fun k hk j => av_fld hT ga0 hap wH325 (by decide) (TU_ok 112 (by decide) k hk) (TU_ne 0 (by decide) k hk)) (fun k hk => sv_fld hap wH325 (by decide) (TU_slt k hk) (TU_sne 0 (by decide) k hk)) hg_TU
  have g329 : WD (avw K H325 a0) := WD.congr (fun k hk j => av_fld hT ga0 hap wH325 (by decide) (WD_ok 112 (by decide) k hk) (WD_ne 0 (by decide) k hk)) hg_WD
  have g330 : IM (avw K H325 a0) := IM.congr (fun k hk j => av_fld hT ga0 hap wH325 (by decide) (IM_ok 112 (by decide) k hk) (IM_ne 0 (by decide) k hk)) hg_IM
  have m331 := Wr.I wH325
  refine lv_aload_n hx hb dX10_tells_5 rfl (lv_at hl 0 rfl) ?_
  refine lv_iload_n hx hb dX10_tells_6 rfl (lv_at hl 1 rfl) ?_
  refine x_V (As := [.int x1]) (rest := []) C (c_X10_isLaw l K G H325 (x1) hTH325 ga0) yo_X10_isLaw wM_X10_328 ⟨⟨by decide, by decide⟩, by decide, by decide⟩ (x_rv C hTH325 (ci := 10) rfl ga0 rg_112) rfl hl.1 rfl (Nat.le_of_ble_eq_true rfl) dX10_tells_7 hSH325 (AE_sub (fun _ _ => rfl) (by decide) hSH325.1) (fun vH332 H332 locsH332 pH332 zH332 kH332 hSH332 => ?_)
  have hqH332 := pH332.1.symm
  subst hqH332
  rcases pH332.2 with ⟨hvH332, hcH332⟩ | ⟨hvH332, hcH332⟩
  · subst hvH332
    refine W.eq (g2 := F0 m 10 ls [.int 1]) rfl ?_
    refine lv_if_eq (tgt := 42) hx hb dX10_tells_10 (by decide) (fun c333 => ?_) (fun c333 => ?_)
    · have k334 := i_eq c333
      exfalso
      omega
    · have k334 := i_ne c333
      refine lv_aload_n hx hb dX10_tells_13 rfl (lv_at hl 0 rfl) ?_
      refine lv_iload_n hx hb dX10_tells_14 rfl (lv_at hl 2 rfl) ?_
      refine lv_iconst (v := 0) hx hb dX10_tells_15 (by decide) ?_
      refine lv_iconst (v := 2) hx hb dX10_tells_16 (by decide) ?_
      refine x_V (As := [.int x2, .int 0, .int 2]) (rest := []) C (c_X10_isIn l K G H325 (x2) (0) (2) hTH325 ga0) yo_X10_isIn wM_X10_177 ⟨⟨by decide, by decide⟩, by decide, by decide⟩ (x_rv C hTH325 (ci := 10) rfl ga0 rg_112) rfl hl.1 rfl (Nat.le_of_ble_eq_true rfl) dX10_tells_17 hSH332 (AE_sub (fun _ _ => rfl) (by decide) hSH332.1) (fun vH335 H335 locsH335 pH335 zH335 kH335 hSH335 => ?_)
      have hqH335 := pH335.1.symm
      subst hqH335
      rcases pH335.2 with ⟨hvH335, hcH335⟩ | ⟨hvH335, hcH335⟩
      · subst hvH335
        refine W.eq (g2 := F0 m 20 ls [.int 1]) rfl ?_
        refine lv_if_eq (tgt := 42) hx hb dX10_tells_20 (by decide) (fun c336 => ?_) (fun c336 => ?_)
        · have k337 := i_eq c336
          exfalso
          omega
        · have k337 := i_ne c336
          refine lv_aload_n hx hb dX10_tells_23 rfl (lv_at hl 0 rfl) ?_
          refine lv_iload_n hx hb dX10_tells_24 rfl (lv_at hl 3 rfl) ?_
          refine x_V (As := [.int x3]) (rest := []) C (c_X10_isTone l K G H325 (x3) hTH325 ga0) yo_X10_isTone wM_X10_331 ⟨⟨by decide, by decide⟩, by decide, by decide⟩ (x_rv C hTH325 (ci := 10) rfl ga0 rg_112) rfl hl.1 rfl (Nat.le_of_ble_eq_true rfl) dX10_tells_25 hSH335 (AE_sub (fun _ _ => rfl) (by decide) hSH335.1) (fun vH338 H338 locsH338 pH338 zH338 kH338 hSH338 => ?_)
          have hqH338 := pH338.1.symm
          subst hqH338
          rcases pH338.2 with ⟨hvH338, hcH338⟩ | ⟨hvH338, hcH338⟩
          · subst hvH338
            refine W.eq (g2 := F0 m 28 ls [.int 1]) rfl ?_
            refine lv_if_eq (tgt := 42) hx hb dX10_tells_28 (by decide) (fun c339 => ?_) (fun c339 => ?_)
            · have k340 := i_eq c339
              exfalso
              omega
            · have k340 := i_ne c339
              refine lv_aload_n hx hb dX10_tells_31 rfl (lv_at hl 0 rfl) ?_
              refine lv_iload hx hb dX10_tells_32 (lv_at hl 4 rfl) ?_
              refine lv_iload hx hb dX10_tells_34 (lv_at hl 5 rfl) ?_
              obtain ⟨x341, ex341⟩ : ∃ z : Int32, z = fI H325 a0 (K.1.2 10 1) := ⟨_, rfl⟩
              have bx341 := ty_fi (x := x341) (k := 1) ex341 hTH325 ga0 rg_112 rfl
              refine x_V (As := [.int x4, .int x5]) (rest := []) C (a_X10_isSlice l K G H325 (x4) (x5) (x341) hTH325 ga0 ex341) yo_X10_isSlice wM_X10_181 ⟨⟨by decide, by decide⟩, by decide, by decide⟩ (x_rv C hTH325 (ci := 10) rfl ga0 rg_112) rfl hl.1 rfl (Nat.le_of_ble_eq_true rfl) dX10_tells_36 hSH338 (AE_sub (fun _ _ => rfl) (by decide) hSH338.1) (fun vH342 H342 locsH342 pH342 zH342 kH342 hSH342 => ?_)
              obtain ⟨x343, hvH342, bx343, hrH342, hTH342⟩ := pH342
              subst hvH342
              have mf344 : MF K s.heap H342 a0 [0] := MF.eff (x_lt hTH325 kH342 ga0 (by decide)) mf326
              have g345 : CG (avw K H342 a0) := CG.congr (fun k hk j => av_eff hTH325 kH342 ga0 (by decide) (CG_eff [] (by decide) k hk)) g327
              have g346 : TU (avw K H342 a0) (svw K H342 a0) := TU.congr (fun k hk j => av_eff hTH325 kH342 ga0 (by decide) (TU_eff [] (by decide) k hk)) (fun k hk => sv_eff hTH325 kH342 ga0 (by decide)) g328
              have g347 : WD (avw K H342 a0) := WD.congr (fun k hk j => av_eff hTH325 kH342 ga0 (by decide) (WD_eff [] (by decide) k hk)) g329
              have g348 : IM (avw K H342 a0) := IM.congr (fun k hk j => av_eff hTH325 kH342 ga0 (by decide) (IM_eff [] (by decide) k hk)) g330
              have m349 := (fI_kept (x_lt hTH325 kH342 ga0 (by decide))).trans m331
              have m350 := (ex341).trans (fI_kept (x_lt hTH325 kH342 ga0 (by decide))).symm
              refine W.eq (g2 := F0 m 39 ls [.int x343]) rfl ?_
              refine lv_if_ne (tgt := 46) hx hb dX10_tells_39 (by decide) (fun c351 => ?_) (fun c351 => ?_)
              · have k352 := i_ne c351
                refine lv_aload_n hx hb dX10_tells_46 rfl (lv_at hl 0 rfl) ?_
                refine lv_iload hx hb dX10_tells_47 (lv_at hl 4 rfl) ?_
                refine lv_iload hx hb dX10_tells_49 (lv_at hl 5 rfl) ?_
                refine x_V (As := [.int x4, .int x5]) (rest := []) C (a_X10_asksSlice l K G H342 (x4) (x5) hTH342 ga0 (by omega) (by omega)) yo_X10_asksSlice wM_X10_316 ⟨⟨by decide, by decide⟩, by decide, by decide⟩ (x_rv C hTH342 (ci := 10) rfl ga0 rg_112) rfl hl.1 rfl (Nat.le_of_ble_eq_true rfl) dX10_tells_51 hSH342 (AE_sub (fun _ _ => rfl) (by decide) hSH342.1) (fun vH353 H353 locsH353 pH353 zH353 kH353 hSH353 => ?_)
                obtain ⟨hvH353, hTH353⟩ := pH353
                subst hvH353
                have mf354 : MF K s.heap H353 a0 [0] := MF.eff (x_lt hTH342 kH353 ga0 (by decide)) mf344
                have g355 : CG (avw K H353 a0) := CG.congr (fun k hk j => av_eff hTH342 kH353 ga0 (by decide) (CG_eff [139] (by decide) k hk)) g345
                have g356 : TU (avw K H353 a0) (svw K H353 a0) := TU.congr (fun k hk j => av_eff hTH342 kH353 ga0 (by decide) (TU_eff [139] (by decide) k hk)) (fun k hk => sv_eff hTH342 kH353 ga0 (by decide)) g346
                have g357 : WD (avw K H353 a0) := WD.congr (fun k hk j => av_eff hTH342 kH353 ga0 (by decide) (WD_eff [139] (by decide) k hk)) g347
                have g358 : IM (avw K H353 a0) := IM.congr (fun k hk j => av_eff hTH342 kH353 ga0 (by decide) (IM_eff [139] (by decide) k hk)) g348
                have m359 := (fI_kept (x_lt hTH342 kH353 ga0 (by decide))).trans m349
                have m360 := (m350).trans (fI_kept (x_lt hTH342 kH353 ga0 (by decide))).symm
                refine W.eq (g2 := F0 m 54 ls []) rfl ?_
                refine lv_aload_n hx hb dX10_tells_54 rfl (lv_at hl 0 rfl) ?_
                refine lv_iload_n hx hb dX10_tells_55 rfl (lv_at hl 1 rfl) ?_
                refine lv_iload_n hx hb dX10_tells_56 rfl (lv_at hl 2 rfl) ?_
                refine lv_iload_n hx hb dX10_tells_57 rfl (lv_at hl 3 rfl) ?_
                obtain ⟨q361, eq361⟩ : ∃ z : Nat, z = fR H353 a0 (K.1.2 10 24) := ⟨_, rfl⟩
                have gq361 := ty_fr (q := q361) (k := 24) (u := 128) eq361 hTH353 ga0 rg_112 rfl
                obtain ⟨x362, ex362⟩ : ∃ z : Int32, z = fI H353 q361 (x1 : Int32).toNatClampNeg := ⟨_, rfl⟩
                have bx362 := ty_ai (x := x362) ex362 hTH353 gq361 rg_128 (by omega)
                refine x_V (As := [.int x1, .int x2, .int x3]) (rest := []) C (a_X10_tellsBy l K G H353 (x1) (x2) (x3) (x362) hTH353 ga0 (by omega) gq361 eq361 ex362 g355) yo_X10_tellsBy wM_X10_319 ⟨⟨by decide, by decide⟩, by decide, by decide⟩ (x_rv C hTH353 (ci := 10) rfl ga0 rg_112) rfl hl.1 rfl (Nat.le_of_ble_eq_true rfl) dX10_tells_58 hSH353 (AE_sub (fun _ _ => rfl) (by decide) hSH353.1) (fun vH363 H363 locsH363 pH363 zH363 kH363 hSH363 => ?_)
                obtain ⟨x364, hvH363, hTH363⟩ := pH363
                subst hvH363
                have mf365 : MF K s.heap H363 a0 [0] := MF.eff (x_lt hTH353 kH363 ga0 (by decide)) mf354
                have g366 : CG (avw K H363 a0) := CG.congr (fun k hk j => av_eff hTH353 kH363 ga0 (by decide) (CG_eff [140] (by decide) k hk)) g355
                have g367 : TU (avw K H363 a0) (svw K H363 a0) := TU.congr (fun k hk j => av_eff hTH353 kH363 ga0 (by decide) (TU_eff [140] (by decide) k hk)) (fun k hk => sv_eff hTH353 kH363 ga0 (by decide)) g356
                have g368 : WD (avw K H363 a0) := WD.congr (fun k hk j => av_eff hTH353 kH363 ga0 (by decide) (WD_eff [140] (by decide) k hk)) g357
                have g369 : IM (avw K H363 a0) := IM.congr (fun k hk j => av_eff hTH353 kH363 ga0 (by decide) (IM_eff [140] (by decide) k hk)) g358
                have m370 := (fI_kept (x_lt hTH353 kH363 ga0 (by decide))).trans m359
                have m371 := (m360).trans (fI_kept (x_lt hTH353 kH363 ga0 (by decide))).symm
                have m372 := (eq361).trans (fR_kept (x_lt hTH353 kH363 ga0 (by decide))).symm
                have m373 := (ex362).trans (fI_kept (x_lt hTH353 kH363 gq361 (by decide))).symm
                refine W.eq (g2 := F0 m 61 ls [.int x364]) rfl ?_
                exact x_iret C hQ dX10_tells_61 hSH363 (by decide) (by decide) (⟨x364, rfl, g366, g367, g368, g369, mf365, hTH363⟩)
              · have k352 := i_eq c351
                exact J42 ls H342 locsH342 (lv_sub hl [] rfl) hTH342 hSH342 mf344 g345 g346 g347 g348
          · subst hvH338
            refine W.eq (g2 := F0 m 28 ls [.int 0]) rfl ?_
            refine lv_if_eq (tgt := 42) hx hb dX10_tells_28 (by decide) (fun c374 => ?_) (fun c374 => ?_)
            · have k375 := i_eq c374
              exact J42 ls H325 locsH338 (lv_sub hl [] rfl) hTH325 hSH338 mf326 g327 g328 g329 g330
            · have k375 := i_ne c374
              exfalso
              omega
      · subst hvH335
        refine W.eq (g2 := F0 m 20 ls [.int 0]) rfl ?_
        refine lv_if_eq (tgt := 42) hx hb dX10_tells_20 (by decide) (fun c376 => ?_) (fun c376 => ?_)
        · have k377 := i_eq c376
          exact J42 ls H325 locsH335 (lv_sub hl [] rfl) hTH325 hSH335 mf326 g327 g328 g329 g330
        · have k377 := i_ne c376
          exfalso
          omega
  · subst hvH332
    refine W.eq (g2 := F0 m 10 ls [.int 0]) rfl ?_
    refine lv_if_eq (tgt := 42) hx hb dX10_tells_10 (by decide) (fun c378 => ?_) (fun c378 => ?_)
    · have k379 := i_eq c378
      exact J42 ls H325 locsH332 (lv_sub hl [] rfl) hTH325 hSH332 mf326 g327 g328 g329 g330
    · have k379 := i_ne c378
      exfalso
      omega

set_option maxHeartbeats 4000000 in
set_option maxRecDepth 100000 in
theorem a_X10_tone (l : Launch) (K : KE) (G : Nat → Option Nat) (H : Heap) {a0 : Nat} (x1 : Int32) (x2 : Int32) (hT : TY K G H) (ga0 : G a0 = some 112) (hg_CG : CG (avw K H a0)) (hg_TU : TU (avw K H a0) (svw K H a0)) (hg_WD : WD (avw K H a0)) (hg_IM : IM (avw K H a0)) : MX l K yX10_tone cX10_tone 3 (some .int) 6 145 0 0 [.ref a0, .int x1, .int x2] H (AE G [112, 140, 139] H.size) (fun v H1 => ∃ (r : Int32), v = some (.int r) ∧ (CG (avw K H1 a0)) ∧ (TU (avw K H1 a0) (svw K H1 a0)) ∧ (WD (avw K H1 a0)) ∧ (IM (avw K H1 a0)) ∧ MF K H H1 a0 [0] ∧ TY K G H1) := by
  refine MX.of (by decide +kernel) (Nat.le_of_ble_eq_true rfl) ?_
  intro p e s m below meth c ls Q C hH hl hQ
  subst hH
  have C : CX p K s m _ meth c RX10 cX10_tone 3 (some .int) "tone" := C
  obtain ⟨hx, hb, hml, hown, hts, hKT, hr, hlocks, hnm⟩ := id C
  have hl : lv_has ls 3 [(0, .ref a0), (1, .int x1), (2, .int x2)] := hl
  have hS : va_S (AE G [112, 140, 139] s.heap.size) s.heap s.heap [] := va_S.rf
  have n_m1 : ((-1) : Int32).toInt = -1 := rfl
  have n_0 : (0 : Int32).toInt = 0 := rfl
  have n_1 : (1 : Int32).toInt = 1 := rfl
  have hap : ∀ x y, x < 74 → y < 74 → x ≠ y → K.1.2 10 x ≠ K.1.2 10 y := x_apart hKT hts inX10 tyX10 tyX10_ok nmX10 rfl
  have mf0 : MF K s.heap s.heap a0 [0] := fun _ _ _ => rfl
  have J31 : ∀ (ls238 : Array Slot) (H237 : Heap) (locsH237 : List Loc) (x240 : Int32), lv_has ls238 3 [] → TY K G H237 → va_S (AE G [112, 140, 139] s.heap.size) s.heap H237 locsH237 → (MF K s.heap H237 a0 [0]) → (CG (avw K H237 a0)) → (TU (avw K H237 a0) (svw K H237 a0)) → (WD (avw K H237 a0)) → (IM (avw K H237 a0)) → W p l e ({ frames := 6, cells := 0, slots := 0, locals := 145 } : Room) s m (([.ref a0, .int x1, .int x2] : List Value).toArray) below meth c H237 locsH237 0 0 Q (F0 m 31 ls238 [.int x240]) := by
    intro ls238 H237 locsH237 x240 hl239 hTH237 hSH237 mfy241 gy241_CG gy241_TU gy241_WD gy241_IM
    exact x_iret C hQ dX10_tone_31 hSH237 (by decide) (by decide) (⟨x240, rfl, gy241_CG, gy241_TU, gy241_WD, gy241_IM, mfy241, hTH237⟩)
  have J30 : ∀ (ls243 : Array Slot) (H242 : Heap) (locsH242 : List Loc) , lv_has ls243 3 [] → TY K G H242 → va_S (AE G [112, 140, 139] s.heap.size) s.heap H242 locsH242 → (MF K s.heap H242 a0 [0]) → (CG (avw K H242 a0)) → (TU (avw K H242 a0) (svw K H242 a0)) → (WD (avw K H242 a0)) → (IM (avw K H242 a0)) → W p l e ({ frames := 6, cells := 0, slots := 0, locals := 145 } : Room) s m (([.ref a0, .int x1, .int x2] : List Value).toArray) below meth c H242 locsH242 0 0 Q (F0 m 30 ls243 []) := by
    intro ls243 H242 locsH242  hl244 hTH242 hSH242 mfy245 gy245_CG gy245_TU gy245_WD gy245_IM
    refine lv_iconst (v := (-1)) hx hb dX10_tone_30 (by decide) ?_
    exact J31 ls243 H242 locsH242 ((-1)) (lv_sub hl244 [] rfl) hTH242 hSH242 mfy245 gy245_CG gy245_TU gy245_WD gy245_IM
  refine lv_aload_n hx hb dX10_tone_0 rfl (lv_at hl 0 rfl) ?_
  refine lv_iconst (v := 0) hx hb dX10_tone_1 (by decide) ?_
  refine x_put C hT hS (ci := 10) (k := 0) (v := .int 0) (ty0 := tyX10) rfl inX10 tyX10_ok nmX10 (by decide) rfl wF_X10_167 ga0 rg_112 rfl rfl (okI (by have := i_rng (0 : Int32); omega) (by have := i_rng (0 : Int32); omega)) rfl rfl (AE_in ga0 (by decide)) dX10_tone_2 (fun H246 locsH246 hTH246 hSH246 wH246 => ?_)
  have mf247 : MF K s.heap H246 a0 [0] := MF.fld hap wH246 (by decide) (by decide) mf0
  have g248 : CG (avw K H246 a0) := CG.congr (fun k hk j => av_fld hT ga0 hap wH246 (by decide) (CG_ok 112 (by decide) k hk) (CG_ne 0 (by decide) k hk)) hg_CG
  have g249 : TU (avw K H246 a0) (svw K H246 a0) := TU.congr (fun k hk j => av_fld hT ga0 hap wH246 (by decide) (TU_ok 112 (by decide) k hk) (TU_ne 0 (by decide) k hk)) (fun k hk => sv_fld hap wH246 (by decide) (TU_slt k hk) (TU_sne 0 (by decide) k hk)) hg_TU
  have g250 : WD (avw K H246 a0) := WD.congr (fun k hk j => av_fld hT ga0 hap wH246 (by decide) (WD_ok 112 (by decide) k hk) (WD_ne 0 (by decide) k hk)) hg_WD
  have g251 : IM (avw K H246 a0) := IM.congr (fun k hk j => av_fld hT ga0 hap wH246 (by decide) (IM_ok 112 (by decide) k hk) (IM_ne 0 (by decide) k hk)) hg_IM
  have m252 := Wr.I wH246
  refine lv_aload_n hx hb dX10_tone_5 rfl (lv_at hl 0 rfl) ?_
  refine lv_iload_n hx hb dX10_tone_6 rfl (lv_at hl 1 rfl) ?_
  obtain ⟨x253, ex253⟩ : ∃ z : Int32, z = fI H246 a0 (K.1.2 10 1) := ⟨_, rfl⟩
  have bx253 := ty_fi (x := x253) (k := 1) ex253 hTH246 ga0 rg_112 rfl
  refine x_V (As := [.int x1]) (rest := []) C (a_X10_isBar l K G H246 (x1) (x253) hTH246 ga0 ex253) yo_X10_isBar wM_X10_173 ⟨⟨by decide, by decide⟩, by decide, by decide⟩ (x_rv C hTH246 (ci := 10) rfl ga0 rg_112) rfl hl.1 rfl (Nat.le_of_ble_eq_true rfl) dX10_tone_7 hSH246 (AE_sub (fun _ _ => rfl) (by decide) hSH246.1) (fun vH254 H254 locsH254 pH254 zH254 kH254 hSH254 => ?_)
  obtain ⟨x255, hvH254, bx255, hrH254, hTH254⟩ := pH254
  subst hvH254
  have mf256 : MF K s.heap H254 a0 [0] := MF.eff (x_lt hTH246 kH254 ga0 (by decide)) mf247
  have g257 : CG (avw K H254 a0) := CG.congr (fun k hk j => av_eff hTH246 kH254 ga0 (by decide) (CG_eff [] (by decide) k hk)) g248
  have g258 : TU (avw K H254 a0) (svw K H254 a0) := TU.congr (fun k hk j => av_eff hTH246 kH254 ga0 (by decide) (TU_eff [] (by decide) k hk)) (fun k hk => sv_eff hTH246 kH254 ga0 (by decide)) g249
  have g259 : WD (avw K H254 a0) := WD.congr (fun k hk j => av_eff hTH246 kH254 ga0 (by decide) (WD_eff [] (by decide) k hk)) g250
  have g260 : IM (avw K H254 a0) := IM.congr (fun k hk j => av_eff hTH246 kH254 ga0 (by decide) (IM_eff [] (by decide) k hk)) g251
  have m261 := (fI_kept (x_lt hTH246 kH254 ga0 (by decide))).trans m252
  have m262 := (ex253).trans (fI_kept (x_lt hTH246 kH254 ga0 (by decide))).symm
  refine W.eq (g2 := F0 m 10 ls [.int x255]) rfl ?_
  refine lv_if_eq (tgt := 30) hx hb dX10_tone_10 (by decide) (fun c263 => ?_) (fun c263 => ?_)
  · have k264 := i_eq c263
    exact J30 ls H254 locsH254 (lv_sub hl [] rfl) hTH254 hSH254 mf256 g257 g258 g259 g260
  · have k264 := i_ne c263
    refine lv_aload_n hx hb dX10_tone_13 rfl (lv_at hl 0 rfl) ?_
    refine lv_iload_n hx hb dX10_tone_14 rfl (lv_at hl 2 rfl) ?_
    refine x_V (As := [.int x2]) (rest := []) C (c_X10_isTone l K G H254 (x2) hTH254 ga0) yo_X10_isTone wM_X10_331 ⟨⟨by decide, by decide⟩, by decide, by decide⟩ (x_rv C hTH254 (ci := 10) rfl ga0 rg_112) rfl hl.1 rfl (Nat.le_of_ble_eq_true rfl) dX10_tone_15 hSH254 (AE_sub (fun _ _ => rfl) (by decide) hSH254.1) (fun vH265 H265 locsH265 pH265 zH265 kH265 hSH265 => ?_)
    have hqH265 := pH265.1.symm
    subst hqH265
    rcases pH265.2 with ⟨hvH265, hcH265⟩ | ⟨hvH265, hcH265⟩
    · subst hvH265
      refine W.eq (g2 := F0 m 18 ls [.int 1]) rfl ?_
      refine lv_if_eq (tgt := 30) hx hb dX10_tone_18 (by decide) (fun c266 => ?_) (fun c266 => ?_)
      · have k267 := i_eq c266
        exfalso
        omega
      · have k267 := i_ne c266
        refine lv_aload_n hx hb dX10_tone_21 rfl (lv_at hl 0 rfl) ?_
        refine lv_iload_n hx hb dX10_tone_22 rfl (lv_at hl 1 rfl) ?_
        refine lv_iload_n hx hb dX10_tone_23 rfl (lv_at hl 2 rfl) ?_
        refine x_V (As := [.int x1, .int x2]) (rest := []) C (a_X10_toneNow l K G H254 (x1) (x2) hTH254 ga0 (by omega) g257) yo_X10_toneNow wM_X10_335 ⟨⟨by decide, by decide⟩, by decide, by decide⟩ (x_rv C hTH254 (ci := 10) rfl ga0 rg_112) rfl hl.1 rfl (Nat.le_of_ble_eq_true rfl) dX10_tone_24 hSH265 (AE_sub (fun _ _ => rfl) (by decide) hSH265.1) (fun vH268 H268 locsH268 pH268 zH268 kH268 hSH268 => ?_)
        obtain ⟨x269, hvH268, hTH268⟩ := pH268
        subst hvH268
        have mf270 : MF K s.heap H268 a0 [0] := MF.eff (x_lt hTH254 kH268 ga0 (by decide)) mf256
        have g271 : CG (avw K H268 a0) := CG.congr (fun k hk j => av_eff hTH254 kH268 ga0 (by decide) (CG_eff [140, 139] (by decide) k hk)) g257
        have g272 : TU (avw K H268 a0) (svw K H268 a0) := TU.congr (fun k hk j => av_eff hTH254 kH268 ga0 (by decide) (TU_eff [140, 139] (by decide) k hk)) (fun k hk => sv_eff hTH254 kH268 ga0 (by decide)) g258
        have g273 : WD (avw K H268 a0) := WD.congr (fun k hk j => av_eff hTH254 kH268 ga0 (by decide) (WD_eff [140, 139] (by decide) k hk)) g259
        have g274 : IM (avw K H268 a0) := IM.congr (fun k hk j => av_eff hTH254 kH268 ga0 (by decide) (IM_eff [140, 139] (by decide) k hk)) g260
        have m275 := (fI_kept (x_lt hTH254 kH268 ga0 (by decide))).trans m261
        have m276 := (m262).trans (fI_kept (x_lt hTH254 kH268 ga0 (by decide))).symm
        refine W.eq (g2 := F0 m 27 ls [.int x269]) rfl ?_
        refine lv_goto (tgt := 31) hx hb dX10_tone_27 (by decide) ?_
        exact J31 ls H268 locsH268 (x269) (lv_sub hl [] rfl) hTH268 hSH268 mf270 g271 g272 g273 g274
    · subst hvH265
      refine W.eq (g2 := F0 m 18 ls [.int 0]) rfl ?_
      refine lv_if_eq (tgt := 30) hx hb dX10_tone_18 (by decide) (fun c277 => ?_) (fun c277 => ?_)
      · have k278 := i_eq c277
        exact J30 ls H254 locsH265 (lv_sub hl [] rfl) hTH254 hSH265 mf256 g257 g258 g259 g260
      · have k278 := i_ne c277
        exfalso
        omega

set_option maxHeartbeats 4000000 in
set_option maxRecDepth 100000 in
theorem a_X10_pass (l : Launch) (K : KE) (G : Nat → Option Nat) (H : Heap) {a0 : Nat} (x1 : Int32) (x2 : Int32) (x3 : Int32) (hT : TY K G H) (ga0 : G a0 = some 112) (hg_CG : CG (avw K H a0)) (hg_TU : TU (avw K H a0) (svw K H a0)) (hg_WD : WD (avw K H a0)) (hg_IM : IM (avw K H a0)) : MX l K yX10_pass cX10_pass 4 (some .int) 1 23 0 0 [.ref a0, .int x1, .int x2, .int x3] H (AE G [112] H.size) (fun v H1 => ∃ (r : Int32), v = some (.int r) ∧ (CG (avw K H1 a0)) ∧ (TU (avw K H1 a0) (svw K H1 a0)) ∧ (WD (avw K H1 a0)) ∧ (IM (avw K H1 a0)) ∧ MF K H H1 a0 [0] ∧ TY K G H1) := by
  refine MX.of (by decide +kernel) (Nat.le_of_ble_eq_true rfl) ?_
  intro p e s m below meth c ls Q C hH hl hQ
  subst hH
  have C : CX p K s m _ meth c RX10 cX10_pass 4 (some .int) "pass" := C
  obtain ⟨hx, hb, hml, hown, hts, hKT, hr, hlocks, hnm⟩ := id C
  have hl : lv_has ls 4 [(0, .ref a0), (1, .int x1), (2, .int x2), (3, .int x3)] := hl
  have hS : va_S (AE G [112] s.heap.size) s.heap s.heap [] := va_S.rf
  have n_m1 : ((-1) : Int32).toInt = -1 := rfl
  have n_0 : (0 : Int32).toInt = 0 := rfl
  have n_1 : (1 : Int32).toInt = 1 := rfl
  have n_200 : (200 : Int32).toInt = 200 := rfl
  have hap : ∀ x y, x < 74 → y < 74 → x ≠ y → K.1.2 10 x ≠ K.1.2 10 y := x_apart hKT hts inX10 tyX10 tyX10_ok nmX10 rfl
  have mf0 : MF K s.heap s.heap a0 [0] := fun _ _ _ => rfl
  have J28 : ∀ (ls267 : Array Slot) (H266 : Heap) (locsH266 : List Loc) , lv_has ls267 4 [] → TY K G H266 → va_S (AE G [112] s.heap.size) s.heap H266 locsH266 → (MF K s.heap H266 a0 [0]) → (CG (avw K H266 a0)) → (TU (avw K H266 a0) (svw K H266 a0)) → (WD (avw K H266 a0)) → (IM (avw K H266 a0)) → W p l e ({ frames := 1, cells := 0, slots := 0, locals := 23 } : Room) s m (([.ref a0, .int x1, .int x2, .int x3] : List Value).toArray) below meth c H266 locsH266 0 0 Q (F0 m 28 ls267 []) := by
    intro ls267 H266 locsH266  hl268 hTH266 hSH266 mfy269 gy269_CG gy269_TU gy269_WD gy269_IM
    refine lv_iconst (v := (-1)) hx hb dX10_pass_28 (by decide) ?_
    exact x_iret C hQ dX10_pass_29 hSH266 (by decide) (by decide) (⟨(-1), rfl, gy269_CG, gy269_TU, gy269_WD, gy269_IM, mfy269, hTH266⟩)
  have J74 : ∀ (ls271 : Array Slot) (H270 : Heap) (locsH270 : List Loc) (x273 : Int32), lv_has ls271 4 [] → TY K G H270 → va_S (AE G [112] s.heap.size) s.heap H270 locsH270 → (MF K s.heap H270 a0 [0]) → (CG (avw K H270 a0)) → (TU (avw K H270 a0) (svw K H270 a0)) → (WD (avw K H270 a0)) → (IM (avw K H270 a0)) → W p l e ({ frames := 1, cells := 0, slots := 0, locals := 23 } : Room) s m (([.ref a0, .int x1, .int x2, .int x3] : List Value).toArray) below meth c H270 locsH270 0 0 Q (F0 m 74 ls271 [.int x273]) := by
    intro ls271 H270 locsH270 x273 hl272 hTH270 hSH270 mfy274 gy274_CG gy274_TU gy274_WD gy274_IM
    exact x_iret C hQ dX10_pass_74 hSH270 (by decide) (by decide) (⟨x273, rfl, gy274_CG, gy274_TU, gy274_WD, gy274_IM, mfy274, hTH270⟩)
  refine lv_aload_n hx hb dX10_pass_0 rfl (lv_at hl 0 rfl) ?_
  refine lv_iconst (v := 0) hx hb dX10_pass_1 (by decide) ?_
  refine x_put C hT hS (ci := 10) (k := 0) (v := .int 0) (ty0 := tyX10) rfl inX10 tyX10_ok nmX10 (by decide) rfl wF_X10_167 ga0 rg_112 rfl rfl (okI (by have := i_rng (0 : Int32); omega) (by have := i_rng (0 : Int32); omega)) rfl rfl (AE_in ga0 (by decide)) dX10_pass_2 (fun H275 locsH275 hTH275 hSH275 wH275 => ?_)
  have mf276 : MF K s.heap H275 a0 [0] := MF.fld hap wH275 (by decide) (by decide) mf0
  have g277 : CG (avw K H275 a0) := CG.congr (fun k hk j => av_fld hT ga0 hap wH275 (by decide) (CG_ok 112 (by decide) k hk) (CG_ne 0 (by decide) k hk)) hg_CG
  have g278 : TU (avw K H275 a0) (svw K H275 a0) := TU.congr (fun k hk j => av_fld hT ga0 hap wH275 (by decide) (TU_ok 112 (by decide) k hk) (TU_ne 0 (by decide) k hk)) (fun k hk => sv_fld hap wH275 (by decide) (TU_slt k hk) (TU_sne 0 (by decide) k hk)) hg_TU
  have g279 : WD (avw K H275 a0) := WD.congr (fun k hk j => av_fld hT ga0 hap wH275 (by decide) (WD_ok 112 (by decide) k hk) (WD_ne 0 (by decide) k hk)) hg_WD
  have g280 : IM (avw K H275 a0) := IM.congr (fun k hk j => av_fld hT ga0 hap wH275 (by decide) (IM_ok 112 (by decide) k hk) (IM_ne 0 (by decide) k hk)) hg_IM
  have m281 := Wr.I wH275
  refine lv_aload_n hx hb dX10_pass_5 rfl (lv_at hl 0 rfl) ?_
  refine lv_iload_n hx hb dX10_pass_6 rfl (lv_at hl 1 rfl) ?_
  obtain ⟨x282, ex282⟩ : ∃ z : Int32, z = fI H275 a0 (K.1.2 10 1) := ⟨_, rfl⟩
  have bx282 := ty_fi (x := x282) (k := 1) ex282 hTH275 ga0 rg_112 rfl
  refine x_V (As := [.int x1]) (rest := []) C (a_X10_isBar l K G H275 (x1) (x282) hTH275 ga0 ex282) yo_X10_isBar wM_X10_173 ⟨⟨by decide, by decide⟩, by decide, by decide⟩ (x_rv C hTH275 (ci := 10) rfl ga0 rg_112) rfl hl.1 rfl (Nat.le_of_ble_eq_true rfl) dX10_pass_7 hSH275 (AE_sub (fun _ _ => rfl) (by decide) hSH275.1) (fun vH283 H283 locsH283 pH283 zH283 kH283 hSH283 => ?_)
  obtain ⟨x284, hvH283, bx284, hrH283, hTH283⟩ := pH283
  subst hvH283
  have mf285 : MF K s.heap H283 a0 [0] := MF.eff (x_lt hTH275 kH283 ga0 (by decide)) mf276
  have g286 : CG (avw K H283 a0) := CG.congr (fun k hk j => av_eff hTH275 kH283 ga0 (by decide) (CG_eff [] (by decide) k hk)) g277
  have g287 : TU (avw K H283 a0) (svw K H283 a0) := TU.congr (fun k hk j => av_eff hTH275 kH283 ga0 (by decide) (TU_eff [] (by decide) k hk)) (fun k hk => sv_eff hTH275 kH283 ga0 (by decide)) g278
  have g288 : WD (avw K H283 a0) := WD.congr (fun k hk j => av_eff hTH275 kH283 ga0 (by decide) (WD_eff [] (by decide) k hk)) g279
  have g289 : IM (avw K H283 a0) := IM.congr (fun k hk j => av_eff hTH275 kH283 ga0 (by decide) (IM_eff [] (by decide) k hk)) g280
  have m290 := (fI_kept (x_lt hTH275 kH283 ga0 (by decide))).trans m281
  have m291 := (ex282).trans (fI_kept (x_lt hTH275 kH283 ga0 (by decide))).symm
  refine W.eq (g2 := F0 m 10 ls [.int x284]) rfl ?_
  refine lv_if_eq (tgt := 28) hx hb dX10_pass_10 (by decide) (fun c292 => ?_) (fun c292 => ?_)
  · have k293 := i_eq c292
    exact J28 ls H283 locsH283 (lv_sub hl [] rfl) hTH283 hSH283 mf285 g286 g287 g288 g289
  · have k293 := i_ne c292
    refine lv_aload_n hx hb dX10_pass_13 rfl (lv_at hl 0 rfl) ?_
    refine lv_iload_n hx hb dX10_pass_14 rfl (lv_at hl 2 rfl) ?_
    refine lv_iconst (v := 1) hx hb dX10_pass_15 (by decide) ?_
    refine lv_aload_n hx hb dX10_pass_16 rfl (lv_at hl 0 rfl) ?_
    refine x_gr C hTH283 (ci := 10) (k := 10) rfl inX10 (by decide) wF_X10_32 ga0 rg_112 rfl dX10_pass_17 (fun q294 eq294 gq294 => ?_)
    refine lv_iload_n hx hb dX10_pass_20 rfl (lv_at hl 1 rfl) ?_
    refine x_ai C hTH283 gq294 rg_119 ⟨by omega, by show _ < ((10 : Nat) : Int); omega⟩ dX10_pass_21 (fun x295 ex295 bx295 => ?_)
    refine x_V (As := [.int x2, .int 1, .int x295]) (rest := []) C (c_X10_isIn l K G H283 (x2) (1) (x295) hTH283 ga0) yo_X10_isIn wM_X10_177 ⟨⟨by decide, by decide⟩, by decide, by decide⟩ (x_rv C hTH283 (ci := 10) rfl ga0 rg_112) rfl hl.1 rfl (Nat.le_of_ble_eq_true rfl) dX10_pass_22 hSH283 (AE_sub (fun _ _ => rfl) (by decide) hSH283.1) (fun vH296 H296 locsH296 pH296 zH296 kH296 hSH296 => ?_)
    have hqH296 := pH296.1.symm
    subst hqH296
    rcases pH296.2 with ⟨hvH296, hcH296⟩ | ⟨hvH296, hcH296⟩
    · subst hvH296
      refine W.eq (g2 := F0 m 25 ls [.int 1]) rfl ?_
      refine lv_if_ne (tgt := 30) hx hb dX10_pass_25 (by decide) (fun c297 => ?_) (fun c297 => ?_)
      · have k298 := i_ne c297
        refine lv_iload_n hx hb dX10_pass_30 rfl (lv_at hl 3 rfl) ?_
        refine lv_if_ne (tgt := 51) hx hb dX10_pass_31 (by decide) (fun c299 => ?_) (fun c299 => ?_)
        · have k300 := i_ne c299
          refine lv_iload_n hx hb dX10_pass_51 rfl (lv_at hl 3 rfl) ?_
          refine lv_iconst (v := 1) hx hb dX10_pass_52 (by decide) ?_
          refine lv_icmp_ne (tgt := 73) hx hb dX10_pass_53 (by decide) (fun c301 => ?_) (fun c301 => ?_)
          · have k302 := i_ne c301
            refine lv_iconst (v := (-1)) hx hb dX10_pass_73 (by decide) ?_
            exact J74 ls H283 locsH296 ((-1)) (lv_sub hl [] rfl) hTH283 hSH296 mf285 g286 g287 g288 g289
          · have k302 := i_eq c301
            refine lv_aload_n hx hb dX10_pass_56 rfl (lv_at hl 0 rfl) ?_
            refine x_gr C hTH283 (ci := 10) (k := 12) rfl inX10 (by decide) wF_X10_38 ga0 rg_112 rfl dX10_pass_57 (fun q303 eq303 gq303 => ?_)
            refine lv_sipush (v := 200) hx hb dX10_pass_60 (by decide) ?_
            refine lv_iload_n hx hb dX10_pass_63 rfl (lv_at hl 1 rfl) ?_
            refine lv_imul hx hb dX10_pass_64 ?_
            refine lv_topi (fun x304 ex304 => ?_)
            have tx304 := i_mul ex304 (by rw [n_200]; omega)
            rw [n_200] at tx304
            refine lv_iload_n hx hb dX10_pass_65 rfl (lv_at hl 2 rfl) ?_
            refine lv_iadd hx hb dX10_pass_66 ?_
            refine lv_topi (fun x305 ex305 => ?_)
            have tx305 := i_add ex305 (by omega)
            refine lv_iconst (v := 1) hx hb dX10_pass_67 (by decide) ?_
            refine lv_isub hx hb dX10_pass_68 ?_
            refine lv_topi (fun x306 ex306 => ?_)
            have tx306 := i_sub ex306 (by omega)
            refine x_ai C hTH283 gq303 rg_121 ⟨by omega, by show _ < ((2000 : Nat) : Int); omega⟩ dX10_pass_69 (fun x307 ex307 bx307 => ?_)
            refine lv_goto (tgt := 74) hx hb dX10_pass_70 (by decide) ?_
            exact J74 ls H283 locsH296 (x307) (lv_sub hl [] rfl) hTH283 hSH296 mf285 g286 g287 g288 g289
        · have k300 := i_eq c299
          refine lv_aload_n hx hb dX10_pass_34 rfl (lv_at hl 0 rfl) ?_
          refine x_gr C hTH283 (ci := 10) (k := 11) rfl inX10 (by decide) wF_X10_35 ga0 rg_112 rfl dX10_pass_35 (fun q308 eq308 gq308 => ?_)
          refine lv_sipush (v := 200) hx hb dX10_pass_38 (by decide) ?_
          refine lv_iload_n hx hb dX10_pass_41 rfl (lv_at hl 1 rfl) ?_
          refine lv_imul hx hb dX10_pass_42 ?_
          refine lv_topi (fun x309 ex309 => ?_)
          have tx309 := i_mul ex309 (by rw [n_200]; omega)
          rw [n_200] at tx309
          refine lv_iload_n hx hb dX10_pass_43 rfl (lv_at hl 2 rfl) ?_
          refine lv_iadd hx hb dX10_pass_44 ?_
          refine lv_topi (fun x310 ex310 => ?_)
          have tx310 := i_add ex310 (by omega)
          refine lv_iconst (v := 1) hx hb dX10_pass_45 (by decide) ?_
          refine lv_isub hx hb dX10_pass_46 ?_
          refine lv_topi (fun x311 ex311 => ?_)
          have tx311 := i_sub ex311 (by omega)
          refine x_ai C hTH283 gq308 rg_120 ⟨by omega, by show _ < ((2000 : Nat) : Int); omega⟩ dX10_pass_47 (fun x312 ex312 bx312 => ?_)
          refine lv_goto (tgt := 74) hx hb dX10_pass_48 (by decide) ?_
          exact J74 ls H283 locsH296 (x312) (lv_sub hl [] rfl) hTH283 hSH296 mf285 g286 g287 g288 g289
      · have k298 := i_eq c297
        exfalso
        omega
    · subst hvH296
      refine W.eq (g2 := F0 m 25 ls [.int 0]) rfl ?_
      refine lv_if_ne (tgt := 30) hx hb dX10_pass_25 (by decide) (fun c313 => ?_) (fun c313 => ?_)
      · have k314 := i_ne c313
        exfalso
        omega
      · have k314 := i_eq c313
        exact J28 ls H283 locsH296 (lv_sub hl [] rfl) hTH283 hSH296 mf285 g286 g287 g288 g289

set_option maxHeartbeats 4000000 in
set_option maxRecDepth 100000 in
theorem a_X10_tap (l : Launch) (K : KE) (G : Nat → Option Nat) (H : Heap) {a0 : Nat} (x1 : Int32) (x2 : Int32) (x3 : Int32) {tpq : Nat} (hT : TY K G H) (ga0 : G a0 = some 112) (gtpq : G tpq = some 146) (etpq : tpq = fR H a0 (K.1.2 10 50)) (hg_CG : CG (avw K H a0)) (hg_TU : TU (avw K H a0) (svw K H a0)) (hg_WD : WD (avw K H a0)) (hg_IM : IM (avw K H a0)) : MX l K yX10_tap cX10_tap 6 (some .int) 2 44 0 0 [.ref a0, .int x1, .int x2, .int x3] H (AE G [112, 147, 148, 149, 150, 146] H.size) (fun v H1 => ∃ (r : Int32), v = some (.int r) ∧ tpq = fR H1 a0 (K.1.2 10 50) ∧ (CG (avw K H1 a0)) ∧ (TU (avw K H1 a0) (svw K H1 a0)) ∧ (WD (avw K H1 a0)) ∧ (IM (avw K H1 a0)) ∧ MF K H H1 a0 [0] ∧ TY K G H1) := by
  refine MX.of (by decide +kernel) (Nat.le_of_ble_eq_true rfl) ?_
  intro p e s m below meth c ls Q C hH hl hQ
  subst hH
  have C : CX p K s m _ meth c RX10 cX10_tap 6 (some .int) "tap" := C
  obtain ⟨hx, hb, hml, hown, hts, hKT, hr, hlocks, hnm⟩ := id C
  have hl : lv_has ls 6 [(0, .ref a0), (1, .int x1), (2, .int x2), (3, .int x3)] := hl
  have hS : va_S (AE G [112, 147, 148, 149, 150, 146] s.heap.size) s.heap s.heap [] := va_S.rf
  have n_m1 : ((-1) : Int32).toInt = -1 := rfl
  have n_0 : (0 : Int32).toInt = 0 := rfl
  have n_1 : (1 : Int32).toInt = 1 := rfl
  have n_12 : (12 : Int32).toInt = 12 := rfl
  have n_16 : (16 : Int32).toInt = 16 := rfl
  have n_9999999 : (9999999 : Int32).toInt = 9999999 := rfl
  have hap : ∀ x y, x < 74 → y < 74 → x ≠ y → K.1.2 10 x ≠ K.1.2 10 y := x_apart hKT hts inX10 tyX10 tyX10_ok nmX10 rfl
  have mf0 : MF K s.heap s.heap a0 [0] := fun _ _ _ => rfl
  have f0_tps : ∀ j : Nat, fI s.heap tpq j = fI s.heap tpq j := fun _ => rfl
  have J44 : ∀ (ls1295 : Array Slot) (H1294 : Heap) (locsH1294 : List Loc) , lv_has ls1295 6 [] → TY K G H1294 → va_S (AE G [112, 147, 148, 149, 150, 146] s.heap.size) s.heap H1294 locsH1294 → (tpq = fR H1294 a0 (K.1.2 10 50)) → (MF K s.heap H1294 a0 [0]) → (CG (avw K H1294 a0)) → (TU (avw K H1294 a0) (svw K H1294 a0)) → (WD (avw K H1294 a0)) → (IM (avw K H1294 a0)) → (∀ j : Nat, fI H1294 tpq j = fI s.heap tpq j) → W p l e ({ frames := 2, cells := 0, slots := 0, locals := 44 } : Room) s m (([.ref a0, .int x1, .int x2, .int x3] : List Value).toArray) below meth c H1294 locsH1294 0 0 Q (F0 m 44 ls1295 []) := by
    intro ls1295 H1294 locsH1294  hl1296 hTH1294 hSH1294 cy1297_0 mfy1297 gy1297_CG gy1297_TU gy1297_WD gy1297_IM fy1297_tps
    refine lv_iconst (v := (-1)) hx hb dX10_tap_44 (by decide) ?_
    exact x_iret C hQ dX10_tap_45 hSH1294 (by decide) (by decide) (⟨(-1), rfl, cy1297_0, gy1297_CG, gy1297_TU, gy1297_WD, gy1297_IM, mfy1297, hTH1294⟩)
  have J78 : ∀ (nf : Nat) (ls1299 : Array Slot) (H1298 : Heap) (locsH1298 : List Loc) (x1302 : Int32) (x1303 : Int32), lv_has ls1299 6 [(0, .ref a0), (1, .int x1), (4, .int x1302), (5, .int x1303)] → TY K G H1298 → va_S (AE G [112, 147, 148, 149, 150, 146] s.heap.size) s.heap H1298 locsH1298 → (0 ≤ x1.toInt ∧ x1.toInt ≤ 9) → (0 ≤ x1302.toInt ∧ x1302.toInt ≤ 119) → (0 ≤ x1303.toInt ∧ x1303.toInt ≤ 16) → (tpq = fR H1298 a0 (K.1.2 10 50)) → (MF K s.heap H1298 a0 [0]) → (CG (avw K H1298 a0)) → (TU (avw K H1298 a0) (svw K H1298 a0)) → (WD (avw K H1298 a0)) → (IM (avw K H1298 a0)) → (∀ j : Nat, fI H1298 tpq j = fI s.heap tpq j) → (16 - x1303.toInt < (nf : Int)) → ((fI s.heap tpq x1.toNatClampNeg).toInt ≤ 11) → W p l e ({ frames := 2, cells := 0, slots := 0, locals := 44 } : Room) s m (([.ref a0, .int x1, .int x2, .int x3] : List Value).toArray) below meth c H1298 locsH1298 0 0 Q (F0 m 78 ls1299 []) := by
    intro nf
    induction nf with
    | zero =>
      intro ls1299 H1298 locsH1298 x1302 x1303 hl1300 hTH1298 hSH1298 b1301 bx1302 bx1303 cy1304_0 mfy1304 gy1304_CG gy1304_TU gy1304_WD gy1304_IM fy1304_tps hm78 iv78
      exfalso
      omega
    | succ nf ih78 =>
      intro ls1299 H1298 locsH1298 x1302 x1303 hl1300 hTH1298 hSH1298 b1301 bx1302 bx1303 cy1304_0 mfy1304 gy1304_CG gy1304_TU gy1304_WD gy1304_IM fy1304_tps hm78 iv78
      refine lv_iload hx hb dX10_tap_78 (lv_at hl1300 3 rfl) ?_
      refine lv_bipush (v := 16) hx hb dX10_tap_80 (by decide) ?_
      refine lv_icmp_ge (tgt := 141) hx hb dX10_tap_82 (by decide) (fun c1305 => ?_) (fun c1305 => ?_)
      · have k1306 := i_le c1305
        refine lv_aload_n hx hb dX10_tap_141 rfl (lv_at hl1300 0 rfl) ?_
        refine x_gr C hTH1298 (ci := 10) (k := 50) rfl inX10 (by decide) wF_X10_116 ga0 rg_112 rfl dX10_tap_142 (fun q1307 eq1307 gq1307 => ?_)
        have uq1307 : tpq = q1307 := (cy1304_0).trans eq1307.symm
        subst uq1307
        refine lv_iload_n hx hb dX10_tap_145 rfl (lv_at hl1300 1 rfl) ?_
        refine lv_aload_n hx hb dX10_tap_146 rfl (lv_at hl1300 0 rfl) ?_
        refine x_gr C hTH1298 (ci := 10) (k := 50) rfl inX10 (by decide) wF_X10_116 ga0 rg_112 rfl dX10_tap_147 (fun q1308 eq1308 gq1308 => ?_)
        have uq1308 : tpq = q1308 := (cy1304_0).trans eq1308.symm
        subst uq1308
        refine lv_iload_n hx hb dX10_tap_150 rfl (lv_at hl1300 1 rfl) ?_
        refine x_ai C hTH1298 gtpq rg_146 ⟨by omega, by show _ < ((10 : Nat) : Int); omega⟩ dX10_tap_151 (fun x1309 ex1309 bx1309 => ?_)
        have q0x1309 := congrArg Int32.toInt (ex1309.trans (fy1304_tps _))
        refine lv_iconst (v := 1) hx hb dX10_tap_152 (by decide) ?_
        refine lv_iadd hx hb dX10_tap_153 ?_
        refine lv_topi (fun x1310 ex1310 => ?_)
        have tx1310 := i_add ex1310 (by omega)
        refine x_iast C hTH1298 hSH1298 gtpq rg_146 (by omega) (by show _ < ((10 : Nat) : Int); omega) ⟨by have := i_rng x1310; omega, by have := i_rng x1310; omega⟩ (AE_in gtpq (by decide)) dX10_tap_154 (fun H1311 locsH1311 hTH1311 hSH1311 wH1311 => ?_)
        have mf1312 : MF K s.heap H1311 a0 [0] := MF.arr wH1311 (G_ne ga0 gtpq (by decide)) mfy1304
        have g1313 : CG (avw K H1311 a0) := CG.congr (fun k hk j => av_arr hTH1298 ga0 wH1311 gtpq (by decide) (CG_ok 146 (by decide) k hk)) gy1304_CG
        have g1314 : TU (avw K H1311 a0) (svw K H1311 a0) := TU.congr (fun k hk j => av_arr hTH1298 ga0 wH1311 gtpq (by decide) (TU_ok 146 (by decide) k hk)) (fun k hk => sv_arr ga0 wH1311 gtpq (by decide)) gy1304_TU
        have g1315 : WD (avw K H1311 a0) := WD.congr (fun k hk j => av_arr hTH1298 ga0 wH1311 gtpq (by decide) (WD_ok 146 (by decide) k hk)) gy1304_WD
        have g1316 : IM (avw K H1311 a0) := IM.congr (fun k hk j => av_arr hTH1298 ga0 wH1311 gtpq (by decide) (IM_ok 146 (by decide) k hk)) gy1304_IM
        have m1317 := cy1304_0.trans (Wr.neR wH1311 (Or.inl (G_ne ga0 gtpq (by decide)))).symm
        have m1319 := Wr.I wH1311
        have m1319 := m1319.symm
        refine lv_aload_n hx hb dX10_tap_155 rfl (lv_at hl1300 0 rfl) ?_
        refine x_gr C hTH1311 (ci := 10) (k := 50) rfl inX10 (by decide) wF_X10_116 ga0 rg_112 rfl dX10_tap_156 (fun q1320 eq1320 gq1320 => ?_)
        have uq1320 : tpq = q1320 := (m1317).trans eq1320.symm
        subst uq1320
        refine lv_iload_n hx hb dX10_tap_159 rfl (lv_at hl1300 1 rfl) ?_
        refine x_ai C hTH1311 gtpq rg_146 ⟨by omega, by show _ < ((10 : Nat) : Int); omega⟩ dX10_tap_160 (fun x1321 ex1321 bx1321 => ?_)
        have ux1321 : x1310 = x1321 := (m1319).trans ex1321.symm
        subst ux1321
        exact x_iret C hQ dX10_tap_161 hSH1311 (by decide) (by decide) (⟨x1310, rfl, m1317, g1313, g1314, g1315, g1316, mf1312, hTH1311⟩)
      · have k1306 := i_nle c1305
        refine lv_aload_n hx hb dX10_tap_85 rfl (lv_at hl1300 0 rfl) ?_
        refine x_gr C hTH1298 (ci := 10) (k := 53) rfl inX10 (by decide) wF_X10_125 ga0 rg_112 rfl dX10_tap_86 (fun q1322 eq1322 gq1322 => ?_)
        refine lv_bipush (v := 16) hx hb dX10_tap_89 (by decide) ?_
        refine lv_iload hx hb dX10_tap_91 (lv_at hl1300 2 rfl) ?_
        refine lv_imul hx hb dX10_tap_93 ?_
        refine lv_topi (fun x1323 ex1323 => ?_)
        have tx1323 := i_mul ex1323 (by rw [n_16]; omega)
        rw [n_16] at tx1323
        refine lv_iload hx hb dX10_tap_94 (lv_at hl1300 3 rfl) ?_
        refine lv_iadd hx hb dX10_tap_96 ?_
        refine lv_topi (fun x1324 ex1324 => ?_)
        have tx1324 := i_add ex1324 (by omega)
        refine lv_aload_n hx hb dX10_tap_97 rfl (lv_at hl1300 0 rfl) ?_
        refine x_gr C hTH1298 (ci := 10) (k := 5) rfl inX10 (by decide) wF_X10_17 ga0 rg_112 rfl dX10_tap_98 (fun q1325 eq1325 gq1325 => ?_)
        refine lv_bipush (v := 16) hx hb dX10_tap_101 (by decide) ?_
        refine lv_iload_n hx hb dX10_tap_103 rfl (lv_at hl1300 1 rfl) ?_
        refine lv_imul hx hb dX10_tap_104 ?_
        refine lv_topi (fun x1326 ex1326 => ?_)
        have tx1326 := i_mul ex1326 (by rw [n_16]; omega)
        rw [n_16] at tx1326
        refine lv_iload hx hb dX10_tap_105 (lv_at hl1300 3 rfl) ?_
        refine lv_iadd hx hb dX10_tap_107 ?_
        refine lv_topi (fun x1327 ex1327 => ?_)
        have tx1327 := i_add ex1327 (by omega)
        refine x_ai C hTH1298 gq1325 rg_114 ⟨by omega, by show _ < ((160 : Nat) : Int); omega⟩ dX10_tap_108 (fun x1328 ex1328 bx1328 => ?_)
        refine x_iast C hTH1298 hSH1298 gq1322 rg_149 (by omega) (by show _ < ((1920 : Nat) : Int); omega) ⟨by have := i_rng x1328; omega, by have := i_rng x1328; omega⟩ (AE_in gq1322 (by decide)) dX10_tap_109 (fun H1329 locsH1329 hTH1329 hSH1329 wH1329 => ?_)
        have mf1330 : MF K s.heap H1329 a0 [0] := MF.arr wH1329 (G_ne ga0 gq1322 (by decide)) mfy1304
        have g1331 : CG (avw K H1329 a0) := CG.congr (fun k hk j => av_arr hTH1298 ga0 wH1329 gq1322 (by decide) (CG_ok 149 (by decide) k hk)) gy1304_CG
        have g1332 : TU (avw K H1329 a0) (svw K H1329 a0) := TU.congr (fun k hk j => av_arr hTH1298 ga0 wH1329 gq1322 (by decide) (TU_ok 149 (by decide) k hk)) (fun k hk => sv_arr ga0 wH1329 gq1322 (by decide)) gy1304_TU
        have g1333 : WD (avw K H1329 a0) := WD.congr (fun k hk j => av_arr hTH1298 ga0 wH1329 gq1322 (by decide) (WD_ok 149 (by decide) k hk)) gy1304_WD
        have g1334 : IM (avw K H1329 a0) := IM.congr (fun k hk j => av_arr hTH1298 ga0 wH1329 gq1322 (by decide) (IM_ok 149 (by decide) k hk)) gy1304_IM
        have f1335 : ∀ j : Nat, fI H1329 tpq j = fI s.heap tpq j := fun j => (Wr.neI wH1329 (Or.inl (G_ne gtpq gq1322 (by decide)))).trans (fy1304_tps j)
        have m1336 := cy1304_0.trans (Wr.neR wH1329 (Or.inl (G_ne ga0 gq1322 (by decide)))).symm
        have m1337 := eq1322.trans (Wr.neR wH1329 (Or.inl (G_ne ga0 gq1322 (by decide)))).symm
        have m1338 := eq1325.trans (Wr.neR wH1329 (Or.inl (G_ne ga0 gq1322 (by decide)))).symm
        have m1339 := ex1328.trans (Wr.neI wH1329 (Or.inl (G_ne gq1325 gq1322 (by decide)))).symm
        have m1340 := Wr.I wH1329
        have m1340 := m1340.symm
        refine lv_aload_n hx hb dX10_tap_110 rfl (lv_at hl1300 0 rfl) ?_
        refine x_gr C hTH1329 (ci := 10) (k := 54) rfl inX10 (by decide) wF_X10_128 ga0 rg_112 rfl dX10_tap_111 (fun q1341 eq1341 gq1341 => ?_)
        refine lv_bipush (v := 16) hx hb dX10_tap_114 (by decide) ?_
        refine lv_iload hx hb dX10_tap_116 (lv_at hl1300 2 rfl) ?_
        refine lv_imul hx hb dX10_tap_118 ?_
        refine lv_topi (fun x1342 ex1342 => ?_)
        have tx1342 := i_mul ex1342 (by rw [n_16]; omega)
        rw [n_16] at tx1342
        refine lv_iload hx hb dX10_tap_119 (lv_at hl1300 3 rfl) ?_
        refine lv_iadd hx hb dX10_tap_121 ?_
        refine lv_topi (fun x1343 ex1343 => ?_)
        have tx1343 := i_add ex1343 (by omega)
        refine lv_aload_n hx hb dX10_tap_122 rfl (lv_at hl1300 0 rfl) ?_
        refine x_gr C hTH1329 (ci := 10) (k := 8) rfl inX10 (by decide) wF_X10_26 ga0 rg_112 rfl dX10_tap_123 (fun q1344 eq1344 gq1344 => ?_)
        refine lv_bipush (v := 16) hx hb dX10_tap_126 (by decide) ?_
        refine lv_iload_n hx hb dX10_tap_128 rfl (lv_at hl1300 1 rfl) ?_
        refine lv_imul hx hb dX10_tap_129 ?_
        refine lv_topi (fun x1345 ex1345 => ?_)
        have tx1345 := i_mul ex1345 (by rw [n_16]; omega)
        rw [n_16] at tx1345
        refine lv_iload hx hb dX10_tap_130 (lv_at hl1300 3 rfl) ?_
        refine lv_iadd hx hb dX10_tap_132 ?_
        refine lv_topi (fun x1346 ex1346 => ?_)
        have tx1346 := i_add ex1346 (by omega)
        refine x_ai C hTH1329 gq1344 rg_117 ⟨by omega, by show _ < ((160 : Nat) : Int); omega⟩ dX10_tap_133 (fun x1347 ex1347 bx1347 => ?_)
        refine x_iast C hTH1329 hSH1329 gq1341 rg_150 (by omega) (by show _ < ((1920 : Nat) : Int); omega) ⟨by have := i_rng x1347; omega, by have := i_rng x1347; omega⟩ (AE_in gq1341 (by decide)) dX10_tap_134 (fun H1348 locsH1348 hTH1348 hSH1348 wH1348 => ?_)
        have mf1349 : MF K s.heap H1348 a0 [0] := MF.arr wH1348 (G_ne ga0 gq1341 (by decide)) mf1330
        have g1350 : CG (avw K H1348 a0) := CG.congr (fun k hk j => av_arr hTH1329 ga0 wH1348 gq1341 (by decide) (CG_ok 150 (by decide) k hk)) g1331
        have g1351 : TU (avw K H1348 a0) (svw K H1348 a0) := TU.congr (fun k hk j => av_arr hTH1329 ga0 wH1348 gq1341 (by decide) (TU_ok 150 (by decide) k hk)) (fun k hk => sv_arr ga0 wH1348 gq1341 (by decide)) g1332
        have g1352 : WD (avw K H1348 a0) := WD.congr (fun k hk j => av_arr hTH1329 ga0 wH1348 gq1341 (by decide) (WD_ok 150 (by decide) k hk)) g1333
        have g1353 : IM (avw K H1348 a0) := IM.congr (fun k hk j => av_arr hTH1329 ga0 wH1348 gq1341 (by decide) (IM_ok 150 (by decide) k hk)) g1334
        have f1354 : ∀ j : Nat, fI H1348 tpq j = fI s.heap tpq j := fun j => (Wr.neI wH1348 (Or.inl (G_ne gtpq gq1341 (by decide)))).trans (f1335 j)
        have m1355 := m1336.trans (Wr.neR wH1348 (Or.inl (G_ne ga0 gq1341 (by decide)))).symm
        have m1356 := m1337.trans (Wr.neR wH1348 (Or.inl (G_ne ga0 gq1341 (by decide)))).symm
        have m1357 := m1338.trans (Wr.neR wH1348 (Or.inl (G_ne ga0 gq1341 (by decide)))).symm
        have m1358 := m1339.trans (Wr.neI wH1348 (Or.inl (G_ne gq1325 gq1341 (by decide)))).symm
        have m1359 := m1340.trans (Wr.neI wH1348 (Or.inl (G_ne gq1322 gq1341 (by decide)))).symm
        have m1360 := eq1341.trans (Wr.neR wH1348 (Or.inl (G_ne ga0 gq1341 (by decide)))).symm
        have m1361 := eq1344.trans (Wr.neR wH1348 (Or.inl (G_ne ga0 gq1341 (by decide)))).symm
        have m1362 := ex1347.trans (Wr.neI wH1348 (Or.inl (G_ne gq1344 gq1341 (by decide)))).symm
        have m1363 := Wr.I wH1348
        have m1363 := m1363.symm
        obtain ⟨x1364, ex1364⟩ : ∃ y : Int32, y = x1303 + 1 := ⟨_, rfl⟩
        have tx1364 := i_add ex1364 (by omega)
        refine lv_iinc (v := x1364) (lv' := [(5, .int x1364), (0, .ref a0), (1, .int x1), (4, .int x1302)]) hx hb dX10_tap_135 hl1300 (k := 3) rfl (by rw [ex1364]; rfl) (by decide) rfl (fun ls1365 hl1366 => ?_)
        refine lv_goto (tgt := 78) hx hb dX10_tap_138 (by decide) ?_
        exact ih78 ls1365 H1348 locsH1348 (x1302) (x1364) (lv_sub hl1366 [1, 2, 3, 0] rfl) hTH1348 hSH1348 (by have := i_rng x1; omega) (by have := i_rng x1302; omega) (by have := i_rng x1364; omega) m1355 mf1349 g1350 g1351 g1352 g1353 f1354 (by omega) (by omega)
  refine lv_aload_n hx hb dX10_tap_0 rfl (lv_at hl 0 rfl) ?_
  refine lv_iconst (v := 0) hx hb dX10_tap_1 (by decide) ?_
  refine x_put C hT hS (ci := 10) (k := 0) (v := .int 0) (ty0 := tyX10) rfl inX10 tyX10_ok nmX10 (by decide) rfl wF_X10_167 ga0 rg_112 rfl rfl (okI (by have := i_rng (0 : Int32); omega) (by have := i_rng (0 : Int32); omega)) rfl rfl (AE_in ga0 (by decide)) dX10_tap_2 (fun H1367 locsH1367 hTH1367 hSH1367 wH1367 => ?_)
  have mf1368 : MF K s.heap H1367 a0 [0] := MF.fld hap wH1367 (by decide) (by decide) mf0
  have g1369 : CG (avw K H1367 a0) := CG.congr (fun k hk j => av_fld hT ga0 hap wH1367 (by decide) (CG_ok 112 (by decide) k hk) (CG_ne 0 (by decide) k hk)) hg_CG
  have g1370 : TU (avw K H1367 a0) (svw K H1367 a0) := TU.congr (fun k hk j => av_fld hT ga0 hap wH1367 (by decide) (TU_ok 112 (by decide) k hk) (TU_ne 0 (by decide) k hk)) (fun k hk => sv_fld hap wH1367 (by decide) (TU_slt k hk) (TU_sne 0 (by decide) k hk)) hg_TU
  have g1371 : WD (avw K H1367 a0) := WD.congr (fun k hk j => av_fld hT ga0 hap wH1367 (by decide) (WD_ok 112 (by decide) k hk) (WD_ne 0 (by decide) k hk)) hg_WD
  have g1372 : IM (avw K H1367 a0) := IM.congr (fun k hk j => av_fld hT ga0 hap wH1367 (by decide) (IM_ok 112 (by decide) k hk) (IM_ne 0 (by decide) k hk)) hg_IM
  have f1373 : ∀ j : Nat, fI H1367 tpq j = fI s.heap tpq j := fun j => (Wr.neI wH1367 (Or.inl (G_ne gtpq ga0 (by decide)))).trans (f0_tps j)
  have m1374 := etpq.trans (Wr.neR wH1367 (Or.inr (x_apart hKT hts inX10 tyX10 tyX10_ok nmX10 rfl 50 0 (by decide) (by decide) (by decide)))).symm
  have m1375 := Wr.I wH1367
  refine lv_aload_n hx hb dX10_tap_5 rfl (lv_at hl 0 rfl) ?_
  refine lv_iload_n hx hb dX10_tap_6 rfl (lv_at hl 1 rfl) ?_
  obtain ⟨x1376, ex1376⟩ : ∃ z : Int32, z = fI H1367 a0 (K.1.2 10 1) := ⟨_, rfl⟩
  have bx1376 := ty_fi (x := x1376) (k := 1) ex1376 hTH1367 ga0 rg_112 rfl
  refine x_V (As := [.int x1]) (rest := []) C (a_X10_isBar l K G H1367 (x1) (x1376) hTH1367 ga0 ex1376) yo_X10_isBar wM_X10_173 ⟨⟨by decide, by decide⟩, by decide, by decide⟩ (x_rv C hTH1367 (ci := 10) rfl ga0 rg_112) rfl hl.1 rfl (Nat.le_of_ble_eq_true rfl) dX10_tap_7 hSH1367 (AE_sub (fun _ _ => rfl) (by decide) hSH1367.1) (fun vH1377 H1377 locsH1377 pH1377 zH1377 kH1377 hSH1377 => ?_)
  obtain ⟨x1378, hvH1377, bx1378, hrH1377, hTH1377⟩ := pH1377
  subst hvH1377
  have mf1379 : MF K s.heap H1377 a0 [0] := MF.eff (x_lt hTH1367 kH1377 ga0 (by decide)) mf1368
  have g1380 : CG (avw K H1377 a0) := CG.congr (fun k hk j => av_eff hTH1367 kH1377 ga0 (by decide) (CG_eff [] (by decide) k hk)) g1369
  have g1381 : TU (avw K H1377 a0) (svw K H1377 a0) := TU.congr (fun k hk j => av_eff hTH1367 kH1377 ga0 (by decide) (TU_eff [] (by decide) k hk)) (fun k hk => sv_eff hTH1367 kH1377 ga0 (by decide)) g1370
  have g1382 : WD (avw K H1377 a0) := WD.congr (fun k hk j => av_eff hTH1367 kH1377 ga0 (by decide) (WD_eff [] (by decide) k hk)) g1371
  have g1383 : IM (avw K H1377 a0) := IM.congr (fun k hk j => av_eff hTH1367 kH1377 ga0 (by decide) (IM_eff [] (by decide) k hk)) g1372
  have f1384 : ∀ j : Nat, fI H1377 tpq j = fI s.heap tpq j := fun j => (fI_kept (x_lt hTH1367 kH1377 gtpq (by decide))).trans (f1373 j)
  have m1385 := (m1374).trans (fR_kept (x_lt hTH1367 kH1377 ga0 (by decide))).symm
  have m1386 := (fI_kept (x_lt hTH1367 kH1377 ga0 (by decide))).trans m1375
  have m1387 := (ex1376).trans (fI_kept (x_lt hTH1367 kH1377 ga0 (by decide))).symm
  refine W.eq (g2 := F0 m 10 ls [.int x1378]) rfl ?_
  refine lv_if_eq (tgt := 44) hx hb dX10_tap_10 (by decide) (fun c1388 => ?_) (fun c1388 => ?_)
  · have k1389 := i_eq c1388
    exact J44 ls H1377 locsH1377 (lv_sub hl [] rfl) hTH1377 hSH1377 m1385 mf1379 g1380 g1381 g1382 g1383 f1384
  · have k1389 := i_ne c1388
    refine lv_aload_n hx hb dX10_tap_13 rfl (lv_at hl 0 rfl) ?_
    refine lv_iload_n hx hb dX10_tap_14 rfl (lv_at hl 2 rfl) ?_
    refine x_V (As := [.int x2]) (rest := []) C (c_X10_isTone l K G H1377 (x2) hTH1377 ga0) yo_X10_isTone wM_X10_331 ⟨⟨by decide, by decide⟩, by decide, by decide⟩ (x_rv C hTH1377 (ci := 10) rfl ga0 rg_112) rfl hl.1 rfl (Nat.le_of_ble_eq_true rfl) dX10_tap_15 hSH1377 (AE_sub (fun _ _ => rfl) (by decide) hSH1377.1) (fun vH1390 H1390 locsH1390 pH1390 zH1390 kH1390 hSH1390 => ?_)
    have hqH1390 := pH1390.1.symm
    subst hqH1390
    rcases pH1390.2 with ⟨hvH1390, hcH1390⟩ | ⟨hvH1390, hcH1390⟩
    · subst hvH1390
      refine W.eq (g2 := F0 m 18 ls [.int 1]) rfl ?_
      refine lv_if_eq (tgt := 44) hx hb dX10_tap_18 (by decide) (fun c1391 => ?_) (fun c1391 => ?_)
      · have k1392 := i_eq c1391
        exfalso
        omega
      · have k1392 := i_ne c1391
        refine lv_aload_n hx hb dX10_tap_21 rfl (lv_at hl 0 rfl) ?_
        refine lv_iload_n hx hb dX10_tap_22 rfl (lv_at hl 3 rfl) ?_
        refine lv_iconst (v := 0) hx hb dX10_tap_23 (by decide) ?_
        refine lv_ldcw (v := 9999999) hx hb hown (hts _ wK_X10_374) dX10_tap_24 ?_
        refine x_V (As := [.int x3, .int 0, .int 9999999]) (rest := []) C (c_X10_isIn l K G H1377 (x3) (0) (9999999) hTH1377 ga0) yo_X10_isIn wM_X10_177 ⟨⟨by decide, by decide⟩, by decide, by decide⟩ (x_rv C hTH1377 (ci := 10) rfl ga0 rg_112) rfl hl.1 rfl (Nat.le_of_ble_eq_true rfl) dX10_tap_27 hSH1390 (AE_sub (fun _ _ => rfl) (by decide) hSH1390.1) (fun vH1393 H1393 locsH1393 pH1393 zH1393 kH1393 hSH1393 => ?_)
        have hqH1393 := pH1393.1.symm
        subst hqH1393
        rcases pH1393.2 with ⟨hvH1393, hcH1393⟩ | ⟨hvH1393, hcH1393⟩
        · subst hvH1393
          refine W.eq (g2 := F0 m 30 ls [.int 1]) rfl ?_
          refine lv_if_eq (tgt := 44) hx hb dX10_tap_30 (by decide) (fun c1394 => ?_) (fun c1394 => ?_)
          · have k1395 := i_eq c1394
            exfalso
            omega
          · have k1395 := i_ne c1394
            refine lv_aload_n hx hb dX10_tap_33 rfl (lv_at hl 0 rfl) ?_
            refine x_gr C hTH1377 (ci := 10) (k := 50) rfl inX10 (by decide) wF_X10_116 ga0 rg_112 rfl dX10_tap_34 (fun q1396 eq1396 gq1396 => ?_)
            have uq1396 : tpq = q1396 := (m1385).trans eq1396.symm
            subst uq1396
            refine lv_iload_n hx hb dX10_tap_37 rfl (lv_at hl 1 rfl) ?_
            refine x_ai C hTH1377 gtpq rg_146 ⟨by omega, by show _ < ((10 : Nat) : Int); omega⟩ dX10_tap_38 (fun x1397 ex1397 bx1397 => ?_)
            have q0x1397 := congrArg Int32.toInt (ex1397.trans (f1384 _))
            refine lv_bipush (v := 12) hx hb dX10_tap_39 (by decide) ?_
            refine lv_icmp_ne (tgt := 46) hx hb dX10_tap_41 (by decide) (fun c1398 => ?_) (fun c1398 => ?_)
            · have k1399 := i_ne c1398
              refine lv_bipush (v := 12) hx hb dX10_tap_46 (by decide) ?_
              refine lv_iload_n hx hb dX10_tap_48 rfl (lv_at hl 1 rfl) ?_
              refine lv_imul hx hb dX10_tap_49 ?_
              refine lv_topi (fun x1400 ex1400 => ?_)
              have tx1400 := i_mul ex1400 (by rw [n_12]; omega)
              rw [n_12] at tx1400
              refine lv_aload_n hx hb dX10_tap_50 rfl (lv_at hl 0 rfl) ?_
              refine x_gr C hTH1377 (ci := 10) (k := 50) rfl inX10 (by decide) wF_X10_116 ga0 rg_112 rfl dX10_tap_51 (fun q1401 eq1401 gq1401 => ?_)
              have uq1401 : tpq = q1401 := (m1385).trans eq1401.symm
              subst uq1401
              refine lv_iload_n hx hb dX10_tap_54 rfl (lv_at hl 1 rfl) ?_
              refine x_ai C hTH1377 gtpq rg_146 ⟨by omega, by show _ < ((10 : Nat) : Int); omega⟩ dX10_tap_55 (fun x1402 ex1402 bx1402 => ?_)
              have ux1402 : x1397 = x1402 := (ex1397).trans ex1402.symm
              subst ux1402
              refine lv_iadd hx hb dX10_tap_56 ?_
              refine lv_topi (fun x1403 ex1403 => ?_)
              have tx1403 := i_add ex1403 (by omega)
              refine lv_istore (lv' := [(4, .int x1403), (0, .ref a0), (1, .int x1), (2, .int x2), (3, .int x3)]) hx hb dX10_tap_57 hl (by decide) rfl (fun ls1404 hl1405 => ?_)
              refine lv_aload_n hx hb dX10_tap_59 rfl (lv_at hl1405 1 rfl) ?_
              refine x_gr C hTH1377 (ci := 10) (k := 51) rfl inX10 (by decide) wF_X10_119 ga0 rg_112 rfl dX10_tap_60 (fun q1406 eq1406 gq1406 => ?_)
              refine lv_iload hx hb dX10_tap_63 (lv_at hl1405 0 rfl) ?_
              refine lv_iload_n hx hb dX10_tap_65 rfl (lv_at hl1405 3 rfl) ?_
              refine x_iast C hTH1377 hSH1393 gq1406 rg_147 (by omega) (by show _ < ((120 : Nat) : Int); omega) ⟨by have := i_rng x2; omega, by have := i_rng x2; omega⟩ (AE_in gq1406 (by decide)) dX10_tap_66 (fun H1407 locsH1407 hTH1407 hSH1407 wH1407 => ?_)
              have mf1408 : MF K s.heap H1407 a0 [0] := MF.arr wH1407 (G_ne ga0 gq1406 (by decide)) mf1379
              have g1409 : CG (avw K H1407 a0) := CG.congr (fun k hk j => av_arr hTH1377 ga0 wH1407 gq1406 (by decide) (CG_ok 147 (by decide) k hk)) g1380
              have g1410 : TU (avw K H1407 a0) (svw K H1407 a0) := TU.congr (fun k hk j => av_arr hTH1377 ga0 wH1407 gq1406 (by decide) (TU_ok 147 (by decide) k hk)) (fun k hk => sv_arr ga0 wH1407 gq1406 (by decide)) g1381
              have g1411 : WD (avw K H1407 a0) := WD.congr (fun k hk j => av_arr hTH1377 ga0 wH1407 gq1406 (by decide) (WD_ok 147 (by decide) k hk)) g1382
              have g1412 : IM (avw K H1407 a0) := IM.congr (fun k hk j => av_arr hTH1377 ga0 wH1407 gq1406 (by decide) (IM_ok 147 (by decide) k hk)) g1383
              have f1413 : ∀ j : Nat, fI H1407 tpq j = fI s.heap tpq j := fun j => (Wr.neI wH1407 (Or.inl (G_ne gtpq gq1406 (by decide)))).trans (f1384 j)
              have m1414 := m1385.trans (Wr.neR wH1407 (Or.inl (G_ne ga0 gq1406 (by decide)))).symm
              have m1415 := (Wr.neI wH1407 (Or.inl (G_ne ga0 gq1406 (by decide)))).trans m1386
              have m1416 := m1387.trans (Wr.neI wH1407 (Or.inl (G_ne ga0 gq1406 (by decide)))).symm
              have m1417 := ex1397.trans (Wr.neI wH1407 (Or.inl (G_ne gtpq gq1406 (by decide)))).symm
              have m1418 := eq1406.trans (Wr.neR wH1407 (Or.inl (G_ne ga0 gq1406 (by decide)))).symm
              have m1419 := Wr.I wH1407
              have m1419 := m1419.symm
              refine lv_aload_n hx hb dX10_tap_67 rfl (lv_at hl1405 1 rfl) ?_
              refine x_gr C hTH1407 (ci := 10) (k := 52) rfl inX10 (by decide) wF_X10_122 ga0 rg_112 rfl dX10_tap_68 (fun q1420 eq1420 gq1420 => ?_)
              refine lv_iload hx hb dX10_tap_71 (lv_at hl1405 0 rfl) ?_
              refine lv_iload_n hx hb dX10_tap_73 rfl (lv_at hl1405 4 rfl) ?_
              refine x_iast C hTH1407 hSH1407 gq1420 rg_148 (by omega) (by show _ < ((120 : Nat) : Int); omega) ⟨by have := i_rng x3; omega, by have := i_rng x3; omega⟩ (AE_in gq1420 (by decide)) dX10_tap_74 (fun H1421 locsH1421 hTH1421 hSH1421 wH1421 => ?_)
              have mf1422 : MF K s.heap H1421 a0 [0] := MF.arr wH1421 (G_ne ga0 gq1420 (by decide)) mf1408
              have g1423 : CG (avw K H1421 a0) := CG.congr (fun k hk j => av_arr hTH1407 ga0 wH1421 gq1420 (by decide) (CG_ok 148 (by decide) k hk)) g1409
              have g1424 : TU (avw K H1421 a0) (svw K H1421 a0) := TU.congr (fun k hk j => av_arr hTH1407 ga0 wH1421 gq1420 (by decide) (TU_ok 148 (by decide) k hk)) (fun k hk => sv_arr ga0 wH1421 gq1420 (by decide)) g1410
              have g1425 : WD (avw K H1421 a0) := WD.congr (fun k hk j => av_arr hTH1407 ga0 wH1421 gq1420 (by decide) (WD_ok 148 (by decide) k hk)) g1411
              have g1426 : IM (avw K H1421 a0) := IM.congr (fun k hk j => av_arr hTH1407 ga0 wH1421 gq1420 (by decide) (IM_ok 148 (by decide) k hk)) g1412
              have f1427 : ∀ j : Nat, fI H1421 tpq j = fI s.heap tpq j := fun j => (Wr.neI wH1421 (Or.inl (G_ne gtpq gq1420 (by decide)))).trans (f1413 j)
              have m1428 := m1414.trans (Wr.neR wH1421 (Or.inl (G_ne ga0 gq1420 (by decide)))).symm
              have m1429 := (Wr.neI wH1421 (Or.inl (G_ne ga0 gq1420 (by decide)))).trans m1415
              have m1430 := m1416.trans (Wr.neI wH1421 (Or.inl (G_ne ga0 gq1420 (by decide)))).symm
              have m1431 := m1417.trans (Wr.neI wH1421 (Or.inl (G_ne gtpq gq1420 (by decide)))).symm
              have m1432 := m1418.trans (Wr.neR wH1421 (Or.inl (G_ne ga0 gq1420 (by decide)))).symm
              have m1433 := m1419.trans (Wr.neI wH1421 (Or.inl (G_ne gq1406 gq1420 (by decide)))).symm
              have m1434 := eq1420.trans (Wr.neR wH1421 (Or.inl (G_ne ga0 gq1420 (by decide)))).symm
              have m1435 := Wr.I wH1421
              have m1435 := m1435.symm
              refine lv_iconst (v := 0) hx hb dX10_tap_75 (by decide) ?_
              refine lv_istore (lv' := [(5, .int 0), (4, .int x1403), (0, .ref a0), (1, .int x1), (2, .int x2), (3, .int x3)]) hx hb dX10_tap_76 hl1405 (by decide) rfl (fun ls1436 hl1437 => ?_)
              exact J78 ((16 - (0 : Int32).toInt).toNat + 1) ls1436 H1421 locsH1421 (x1403) (0) (lv_sub hl1437 [2, 3, 1, 0] rfl) hTH1421 hSH1421 (by have := i_rng x1; omega) (by have := i_rng x1403; omega) (by decide) m1428 mf1422 g1423 g1424 g1425 g1426 f1427 (by omega) (by omega)
            · have k1399 := i_eq c1398
              exact J44 ls H1377 locsH1393 (lv_sub hl [] rfl) hTH1377 hSH1393 m1385 mf1379 g1380 g1381 g1382 g1383 f1384
        · subst hvH1393
          refine W.eq (g2 := F0 m 30 ls [.int 0]) rfl ?_
          refine lv_if_eq (tgt := 44) hx hb dX10_tap_30 (by decide) (fun c1438 => ?_) (fun c1438 => ?_)
          · have k1439 := i_eq c1438
            exact J44 ls H1377 locsH1393 (lv_sub hl [] rfl) hTH1377 hSH1393 m1385 mf1379 g1380 g1381 g1382 g1383 f1384
          · have k1439 := i_ne c1438
            exfalso
            omega
    · subst hvH1390
      refine W.eq (g2 := F0 m 18 ls [.int 0]) rfl ?_
      refine lv_if_eq (tgt := 44) hx hb dX10_tap_18 (by decide) (fun c1440 => ?_) (fun c1440 => ?_)
      · have k1441 := i_eq c1440
        exact J44 ls H1377 locsH1390 (lv_sub hl [] rfl) hTH1377 hSH1390 m1385 mf1379 g1380 g1381 g1382 g1383 f1384
      · have k1441 := i_ne c1440
        exfalso
        omega

set_option maxHeartbeats 4000000 in
set_option maxRecDepth 100000 in
theorem a_X10_off (l : Launch) (K : KE) (G : Nat → Option Nat) (H : Heap) {a0 : Nat} (x1 : Int32) (hT : TY K G H) (ga0 : G a0 = some 112) (hg_CG : CG (avw K H a0)) (hg_TU : TU (avw K H a0) (svw K H a0)) (hg_WD : WD (avw K H a0)) (hg_IM : IM (avw K H a0)) : MX l K yX10_off cX10_off 2 (some .int) 6 148 0 0 [.ref a0, .int x1] H (AE G [112, 140, 139] H.size) (fun v H1 => ∃ (r : Int32), v = some (.int r) ∧ (CG (avw K H1 a0)) ∧ (TU (avw K H1 a0) (svw K H1 a0)) ∧ (WD (avw K H1 a0)) ∧ (IM (avw K H1 a0)) ∧ MF K H H1 a0 [0] ∧ TY K G H1) := by
  refine MX.of (by decide +kernel) (Nat.le_of_ble_eq_true rfl) ?_
  intro p e s m below meth c ls Q C hH hl hQ
  subst hH
  have C : CX p K s m _ meth c RX10 cX10_off 2 (some .int) "off" := C
  obtain ⟨hx, hb, hml, hown, hts, hKT, hr, hlocks, hnm⟩ := id C
  have hl : lv_has ls 2 [(0, .ref a0), (1, .int x1)] := hl
  have hS : va_S (AE G [112, 140, 139] s.heap.size) s.heap s.heap [] := va_S.rf
  have n_m1 : ((-1) : Int32).toInt = -1 := rfl
  have n_0 : (0 : Int32).toInt = 0 := rfl
  have n_1 : (1 : Int32).toInt = 1 := rfl
  have hap : ∀ x y, x < 74 → y < 74 → x ≠ y → K.1.2 10 x ≠ K.1.2 10 y := x_apart hKT hts inX10 tyX10 tyX10_ok nmX10 rfl
  have mf0 : MF K s.heap s.heap a0 [0] := fun _ _ _ => rfl
  have J46 : ∀ (ls271 : Array Slot) (H270 : Heap) (locsH270 : List Loc) (x273 : Int32), lv_has ls271 2 [] → TY K G H270 → va_S (AE G [112, 140, 139] s.heap.size) s.heap H270 locsH270 → (MF K s.heap H270 a0 [0]) → (CG (avw K H270 a0)) → (TU (avw K H270 a0) (svw K H270 a0)) → (WD (avw K H270 a0)) → (IM (avw K H270 a0)) → W p l e ({ frames := 6, cells := 0, slots := 0, locals := 148 } : Room) s m (([.ref a0, .int x1] : List Value).toArray) below meth c H270 locsH270 0 0 Q (F0 m 46 ls271 [.int x273]) := by
    intro ls271 H270 locsH270 x273 hl272 hTH270 hSH270 mfy274 gy274_CG gy274_TU gy274_WD gy274_IM
    exact x_iret C hQ dX10_off_46 hSH270 (by decide) (by decide) (⟨x273, rfl, gy274_CG, gy274_TU, gy274_WD, gy274_IM, mfy274, hTH270⟩)
  have J28 : ∀ (ls276 : Array Slot) (H275 : Heap) (locsH275 : List Loc) (x278 : Int32), lv_has ls276 2 [] → TY K G H275 → va_S (AE G [112, 140, 139] s.heap.size) s.heap H275 locsH275 → (0 ≤ x278.toInt ∧ x278.toInt ≤ 1) → (MF K s.heap H275 a0 [0]) → (CG (avw K H275 a0)) → (TU (avw K H275 a0) (svw K H275 a0)) → (WD (avw K H275 a0)) → (IM (avw K H275 a0)) → W p l e ({ frames := 6, cells := 0, slots := 0, locals := 148 } : Room) s m (([.ref a0, .int x1] : List Value).toArray) below meth c H275 locsH275 0 0 Q (F0 m 28 ls276 [.int x278]) := by
    intro ls276 H275 locsH275 x278 hl277 hTH275 hSH275 bx278 mfy279 gy279_CG gy279_TU gy279_WD gy279_IM
    exact x_iret C hQ dX10_off_28 hSH275 (by decide) (by decide) (⟨x278, rfl, gy279_CG, gy279_TU, gy279_WD, gy279_IM, mfy279, hTH275⟩)
  refine lv_aload_n hx hb dX10_off_0 rfl (lv_at hl 0 rfl) ?_
  refine lv_iconst (v := 0) hx hb dX10_off_1 (by decide) ?_
  refine x_put C hT hS (ci := 10) (k := 0) (v := .int 0) (ty0 := tyX10) rfl inX10 tyX10_ok nmX10 (by decide) rfl wF_X10_167 ga0 rg_112 rfl rfl (okI (by have := i_rng (0 : Int32); omega) (by have := i_rng (0 : Int32); omega)) rfl rfl (AE_in ga0 (by decide)) dX10_off_2 (fun H280 locsH280 hTH280 hSH280 wH280 => ?_)
  have mf281 : MF K s.heap H280 a0 [0] := MF.fld hap wH280 (by decide) (by decide) mf0
  have g282 : CG (avw K H280 a0) := CG.congr (fun k hk j => av_fld hT ga0 hap wH280 (by decide) (CG_ok 112 (by decide) k hk) (CG_ne 0 (by decide) k hk)) hg_CG
  have g283 : TU (avw K H280 a0) (svw K H280 a0) := TU.congr (fun k hk j => av_fld hT ga0 hap wH280 (by decide) (TU_ok 112 (by decide) k hk) (TU_ne 0 (by decide) k hk)) (fun k hk => sv_fld hap wH280 (by decide) (TU_slt k hk) (TU_sne 0 (by decide) k hk)) hg_TU
  have g284 : WD (avw K H280 a0) := WD.congr (fun k hk j => av_fld hT ga0 hap wH280 (by decide) (WD_ok 112 (by decide) k hk) (WD_ne 0 (by decide) k hk)) hg_WD
  have g285 : IM (avw K H280 a0) := IM.congr (fun k hk j => av_fld hT ga0 hap wH280 (by decide) (IM_ok 112 (by decide) k hk) (IM_ne 0 (by decide) k hk)) hg_IM
  have m286 := Wr.I wH280
  refine lv_iload_n hx hb dX10_off_5 rfl (lv_at hl 1 rfl) ?_
  refine lv_iconst (v := (-1)) hx hb dX10_off_6 (by decide) ?_
  refine lv_icmp_ne (tgt := 29) hx hb dX10_off_7 (by decide) (fun c287 => ?_) (fun c287 => ?_)
  · have k288 := i_ne c287
    refine lv_aload_n hx hb dX10_off_29 rfl (lv_at hl 0 rfl) ?_
    refine lv_iload_n hx hb dX10_off_30 rfl (lv_at hl 1 rfl) ?_
    refine x_V (As := [.int x1]) (rest := []) C (c_X10_isLaw l K G H280 (x1) hTH280 ga0) yo_X10_isLaw wM_X10_328 ⟨⟨by decide, by decide⟩, by decide, by decide⟩ (x_rv C hTH280 (ci := 10) rfl ga0 rg_112) rfl hl.1 rfl (Nat.le_of_ble_eq_true rfl) dX10_off_31 hSH280 (AE_sub (fun _ _ => rfl) (by decide) hSH280.1) (fun vH289 H289 locsH289 pH289 zH289 kH289 hSH289 => ?_)
    have hqH289 := pH289.1.symm
    subst hqH289
    rcases pH289.2 with ⟨hvH289, hcH289⟩ | ⟨hvH289, hcH289⟩
    · subst hvH289
      refine W.eq (g2 := F0 m 34 ls [.int 1]) rfl ?_
      refine lv_if_eq (tgt := 45) hx hb dX10_off_34 (by decide) (fun c290 => ?_) (fun c290 => ?_)
      · have k291 := i_eq c290
        exfalso
        omega
      · have k291 := i_ne c290
        refine lv_aload_n hx hb dX10_off_37 rfl (lv_at hl 0 rfl) ?_
        refine lv_iload_n hx hb dX10_off_38 rfl (lv_at hl 1 rfl) ?_
        refine x_V (As := [.int x1]) (rest := []) C (a_X10_offOf l K G H280 (x1) hTH280 ga0 (by omega) g282) yo_X10_offOf wM_X10_399 ⟨⟨by decide, by decide⟩, by decide, by decide⟩ (x_rv C hTH280 (ci := 10) rfl ga0 rg_112) rfl hl.1 rfl (Nat.le_of_ble_eq_true rfl) dX10_off_39 hSH289 (AE_sub (fun _ _ => rfl) (by decide) hSH289.1) (fun vH292 H292 locsH292 pH292 zH292 kH292 hSH292 => ?_)
        obtain ⟨x293, hvH292, hTH292⟩ := pH292
        subst hvH292
        have mf294 : MF K s.heap H292 a0 [0] := MF.eff (x_lt hTH280 kH292 ga0 (by decide)) mf281
        have g295 : CG (avw K H292 a0) := CG.congr (fun k hk j => av_eff hTH280 kH292 ga0 (by decide) (CG_eff [140, 139] (by decide) k hk)) g282
        have g296 : TU (avw K H292 a0) (svw K H292 a0) := TU.congr (fun k hk j => av_eff hTH280 kH292 ga0 (by decide) (TU_eff [140, 139] (by decide) k hk)) (fun k hk => sv_eff hTH280 kH292 ga0 (by decide)) g283
        have g297 : WD (avw K H292 a0) := WD.congr (fun k hk j => av_eff hTH280 kH292 ga0 (by decide) (WD_eff [140, 139] (by decide) k hk)) g284
        have g298 : IM (avw K H292 a0) := IM.congr (fun k hk j => av_eff hTH280 kH292 ga0 (by decide) (IM_eff [140, 139] (by decide) k hk)) g285
        have m299 := (fI_kept (x_lt hTH280 kH292 ga0 (by decide))).trans m286
        refine W.eq (g2 := F0 m 42 ls [.int x293]) rfl ?_
        refine lv_goto (tgt := 46) hx hb dX10_off_42 (by decide) ?_
        exact J46 ls H292 locsH292 (x293) (lv_sub hl [] rfl) hTH292 hSH292 mf294 g295 g296 g297 g298
    · subst hvH289
      refine W.eq (g2 := F0 m 34 ls [.int 0]) rfl ?_
      refine lv_if_eq (tgt := 45) hx hb dX10_off_34 (by decide) (fun c300 => ?_) (fun c300 => ?_)
      · have k301 := i_eq c300
        refine lv_iconst (v := (-1)) hx hb dX10_off_45 (by decide) ?_
        exact J46 ls H280 locsH289 ((-1)) (lv_sub hl [] rfl) hTH280 hSH289 mf281 g282 g283 g284 g285
      · have k301 := i_ne c300
        exfalso
        omega
  · have k288 := i_eq c287
    refine lv_aload_n hx hb dX10_off_10 rfl (lv_at hl 0 rfl) ?_
    refine lv_iconst (v := 1) hx hb dX10_off_11 (by decide) ?_
    refine x_V (As := [.int 1]) (rest := []) C (a_X10_offOf l K G H280 (1) hTH280 ga0 (by decide) g282) yo_X10_offOf wM_X10_399 ⟨⟨by decide, by decide⟩, by decide, by decide⟩ (x_rv C hTH280 (ci := 10) rfl ga0 rg_112) rfl hl.1 rfl (Nat.le_of_ble_eq_true rfl) dX10_off_12 hSH280 (AE_sub (fun _ _ => rfl) (by decide) hSH280.1) (fun vH302 H302 locsH302 pH302 zH302 kH302 hSH302 => ?_)
    obtain ⟨x303, hvH302, hTH302⟩ := pH302
    subst hvH302
    have mf304 : MF K s.heap H302 a0 [0] := MF.eff (x_lt hTH280 kH302 ga0 (by decide)) mf281
    have g305 : CG (avw K H302 a0) := CG.congr (fun k hk j => av_eff hTH280 kH302 ga0 (by decide) (CG_eff [140, 139] (by decide) k hk)) g282
    have g306 : TU (avw K H302 a0) (svw K H302 a0) := TU.congr (fun k hk j => av_eff hTH280 kH302 ga0 (by decide) (TU_eff [140, 139] (by decide) k hk)) (fun k hk => sv_eff hTH280 kH302 ga0 (by decide)) g283
    have g307 : WD (avw K H302 a0) := WD.congr (fun k hk j => av_eff hTH280 kH302 ga0 (by decide) (WD_eff [140, 139] (by decide) k hk)) g284
    have g308 : IM (avw K H302 a0) := IM.congr (fun k hk j => av_eff hTH280 kH302 ga0 (by decide) (IM_eff [140, 139] (by decide) k hk)) g285
    have m309 := (fI_kept (x_lt hTH280 kH302 ga0 (by decide))).trans m286
    refine W.eq (g2 := F0 m 15 ls [.int x303]) rfl ?_
    refine lv_aload_n hx hb dX10_off_15 rfl (lv_at hl 0 rfl) ?_
    refine lv_iconst (v := 0) hx hb dX10_off_16 (by decide) ?_
    refine x_V (As := [.int 0]) (rest := [.int x303]) C (a_X10_offOf l K G H302 (0) hTH302 ga0 (by decide) g305) yo_X10_offOf wM_X10_399 ⟨⟨by decide, by decide⟩, by decide, by decide⟩ (x_rv C hTH302 (ci := 10) rfl ga0 rg_112) rfl hl.1 rfl (Nat.le_of_ble_eq_true rfl) dX10_off_17 hSH302 (AE_sub (fun _ _ => rfl) (by decide) hSH302.1) (fun vH310 H310 locsH310 pH310 zH310 kH310 hSH310 => ?_)
    obtain ⟨x311, hvH310, hTH310⟩ := pH310
    subst hvH310
    have mf312 : MF K s.heap H310 a0 [0] := MF.eff (x_lt hTH302 kH310 ga0 (by decide)) mf304
    have g313 : CG (avw K H310 a0) := CG.congr (fun k hk j => av_eff hTH302 kH310 ga0 (by decide) (CG_eff [140, 139] (by decide) k hk)) g305
    have g314 : TU (avw K H310 a0) (svw K H310 a0) := TU.congr (fun k hk j => av_eff hTH302 kH310 ga0 (by decide) (TU_eff [140, 139] (by decide) k hk)) (fun k hk => sv_eff hTH302 kH310 ga0 (by decide)) g306
    have g315 : WD (avw K H310 a0) := WD.congr (fun k hk j => av_eff hTH302 kH310 ga0 (by decide) (WD_eff [140, 139] (by decide) k hk)) g307
    have g316 : IM (avw K H310 a0) := IM.congr (fun k hk j => av_eff hTH302 kH310 ga0 (by decide) (IM_eff [140, 139] (by decide) k hk)) g308
    have m317 := (fI_kept (x_lt hTH302 kH310 ga0 (by decide))).trans m309
    refine W.eq (g2 := F0 m 20 ls [.int x311, .int x303]) rfl ?_
    refine lv_icmp_ge (tgt := 27) hx hb dX10_off_20 (by decide) (fun c318 => ?_) (fun c318 => ?_)
    · have k319 := i_le c318
      refine lv_iconst (v := 0) hx hb dX10_off_27 (by decide) ?_
      exact J28 ls H310 locsH310 (0) (lv_sub hl [] rfl) hTH310 hSH310 (by decide) mf312 g313 g314 g315 g316
    · have k319 := i_nle c318
      refine lv_iconst (v := 1) hx hb dX10_off_23 (by decide) ?_
      refine lv_goto (tgt := 28) hx hb dX10_off_24 (by decide) ?_
      exact J28 ls H310 locsH310 (1) (lv_sub hl [] rfl) hTH310 hSH310 (by decide) mf312 g313 g314 g315 g316

set_option maxHeartbeats 4000000 in
set_option maxRecDepth 100000 in
theorem a_X10_still (l : Launch) (K : KE) (G : Nat → Option Nat) (H : Heap) {a0 : Nat} (x1 : Int32) (x2 : Int32) (x3 : Int32) (hT : TY K G H) (ga0 : G a0 = some 112) (hg_CG : CG (avw K H a0)) (hg_TU : TU (avw K H a0) (svw K H a0)) (hg_WD : WD (avw K H a0)) (hg_IM : IM (avw K H a0)) : MX l K yX10_still cX10_still 4 (some .int) 7 168 0 0 [.ref a0, .int x1, .int x2, .int x3] H (AE G [112, 140, 139] H.size) (fun v H1 => ∃ (r : Int32), v = some (.int r) ∧ (CG (avw K H1 a0)) ∧ (TU (avw K H1 a0) (svw K H1 a0)) ∧ (WD (avw K H1 a0)) ∧ (IM (avw K H1 a0)) ∧ MF K H H1 a0 [0] ∧ TY K G H1) := by
  refine MX.of (by decide +kernel) (Nat.le_of_ble_eq_true rfl) ?_
  intro p e s m below meth c ls Q C hH hl hQ
  subst hH
  have C : CX p K s m _ meth c RX10 cX10_still 4 (some .int) "still" := C
  obtain ⟨hx, hb, hml, hown, hts, hKT, hr, hlocks, hnm⟩ := id C
  have hl : lv_has ls 4 [(0, .ref a0), (1, .int x1), (2, .int x2), (3, .int x3)] := hl
  have hS : va_S (AE G [112, 140, 139] s.heap.size) s.heap s.heap [] := va_S.rf
  have n_m1 : ((-1) : Int32).toInt = -1 := rfl
  have n_0 : (0 : Int32).toInt = 0 := rfl
  have n_1 : (1 : Int32).toInt = 1 := rfl
  have hap : ∀ x y, x < 74 → y < 74 → x ≠ y → K.1.2 10 x ≠ K.1.2 10 y := x_apart hKT hts inX10 tyX10 tyX10_ok nmX10 rfl
  have mf0 : MF K s.heap s.heap a0 [0] := fun _ _ _ => rfl
  have J25 : ∀ (ls295 : Array Slot) (H294 : Heap) (locsH294 : List Loc) , lv_has ls295 4 [] → TY K G H294 → va_S (AE G [112, 140, 139] s.heap.size) s.heap H294 locsH294 → (MF K s.heap H294 a0 [0]) → (CG (avw K H294 a0)) → (TU (avw K H294 a0) (svw K H294 a0)) → (WD (avw K H294 a0)) → (IM (avw K H294 a0)) → W p l e ({ frames := 7, cells := 0, slots := 0, locals := 168 } : Room) s m (([.ref a0, .int x1, .int x2, .int x3] : List Value).toArray) below meth c H294 locsH294 0 0 Q (F0 m 25 ls295 []) := by
    intro ls295 H294 locsH294  hl296 hTH294 hSH294 mfy297 gy297_CG gy297_TU gy297_WD gy297_IM
    refine lv_iconst (v := (-1)) hx hb dX10_still_25 (by decide) ?_
    exact x_iret C hQ dX10_still_26 hSH294 (by decide) (by decide) (⟨(-1), rfl, gy297_CG, gy297_TU, gy297_WD, gy297_IM, mfy297, hTH294⟩)
  have J49 : ∀ (ls299 : Array Slot) (H298 : Heap) (locsH298 : List Loc) (x301 : Int32), lv_has ls299 4 [] → TY K G H298 → va_S (AE G [112, 140, 139] s.heap.size) s.heap H298 locsH298 → (MF K s.heap H298 a0 [0]) → (CG (avw K H298 a0)) → (TU (avw K H298 a0) (svw K H298 a0)) → (WD (avw K H298 a0)) → (IM (avw K H298 a0)) → W p l e ({ frames := 7, cells := 0, slots := 0, locals := 168 } : Room) s m (([.ref a0, .int x1, .int x2, .int x3] : List Value).toArray) below meth c H298 locsH298 0 0 Q (F0 m 49 ls299 [.int x301]) := by
    intro ls299 H298 locsH298 x301 hl300 hTH298 hSH298 mfy302 gy302_CG gy302_TU gy302_WD gy302_IM
    exact x_iret C hQ dX10_still_49 hSH298 (by decide) (by decide) (⟨x301, rfl, gy302_CG, gy302_TU, gy302_WD, gy302_IM, mfy302, hTH298⟩)
  refine lv_aload_n hx hb dX10_still_0 rfl (lv_at hl 0 rfl) ?_
  refine lv_iconst (v := 0) hx hb dX10_still_1 (by decide) ?_
  refine x_put C hT hS (ci := 10) (k := 0) (v := .int 0) (ty0 := tyX10) rfl inX10 tyX10_ok nmX10 (by decide) rfl wF_X10_167 ga0 rg_112 rfl rfl (okI (by have := i_rng (0 : Int32); omega) (by have := i_rng (0 : Int32); omega)) rfl rfl (AE_in ga0 (by decide)) dX10_still_2 (fun H303 locsH303 hTH303 hSH303 wH303 => ?_)
  have mf304 : MF K s.heap H303 a0 [0] := MF.fld hap wH303 (by decide) (by decide) mf0
  have g305 : CG (avw K H303 a0) := CG.congr (fun k hk j => av_fld hT ga0 hap wH303 (by decide) (CG_ok 112 (by decide) k hk) (CG_ne 0 (by decide) k hk)) hg_CG
  have g306 : TU (avw K H303 a0) (svw K H303 a0) := TU.congr (fun k hk j => av_fld hT ga0 hap wH303 (by decide) (TU_ok 112 (by decide) k hk) (TU_ne 0 (by decide) k hk)) (fun k hk => sv_fld hap wH303 (by decide) (TU_slt k hk) (TU_sne 0 (by decide) k hk)) hg_TU
  have g307 : WD (avw K H303 a0) := WD.congr (fun k hk j => av_fld hT ga0 hap wH303 (by decide) (WD_ok 112 (by decide) k hk) (WD_ne 0 (by decide) k hk)) hg_WD
  have g308 : IM (avw K H303 a0) := IM.congr (fun k hk j => av_fld hT ga0 hap wH303 (by decide) (IM_ok 112 (by decide) k hk) (IM_ne 0 (by decide) k hk)) hg_IM
  have m309 := Wr.I wH303
  refine lv_aload_n hx hb dX10_still_5 rfl (lv_at hl 0 rfl) ?_
  refine lv_iload_n hx hb dX10_still_6 rfl (lv_at hl 1 rfl) ?_
  obtain ⟨x310, ex310⟩ : ∃ z : Int32, z = fI H303 a0 (K.1.2 10 1) := ⟨_, rfl⟩
  have bx310 := ty_fi (x := x310) (k := 1) ex310 hTH303 ga0 rg_112 rfl
  refine x_V (As := [.int x1]) (rest := []) C (a_X10_isBar l K G H303 (x1) (x310) hTH303 ga0 ex310) yo_X10_isBar wM_X10_173 ⟨⟨by decide, by decide⟩, by decide, by decide⟩ (x_rv C hTH303 (ci := 10) rfl ga0 rg_112) rfl hl.1 rfl (Nat.le_of_ble_eq_true rfl) dX10_still_7 hSH303 (AE_sub (fun _ _ => rfl) (by decide) hSH303.1) (fun vH311 H311 locsH311 pH311 zH311 kH311 hSH311 => ?_)
  obtain ⟨x312, hvH311, bx312, hrH311, hTH311⟩ := pH311
  subst hvH311
  have mf313 : MF K s.heap H311 a0 [0] := MF.eff (x_lt hTH303 kH311 ga0 (by decide)) mf304
  have g314 : CG (avw K H311 a0) := CG.congr (fun k hk j => av_eff hTH303 kH311 ga0 (by decide) (CG_eff [] (by decide) k hk)) g305
  have g315 : TU (avw K H311 a0) (svw K H311 a0) := TU.congr (fun k hk j => av_eff hTH303 kH311 ga0 (by decide) (TU_eff [] (by decide) k hk)) (fun k hk => sv_eff hTH303 kH311 ga0 (by decide)) g306
  have g316 : WD (avw K H311 a0) := WD.congr (fun k hk j => av_eff hTH303 kH311 ga0 (by decide) (WD_eff [] (by decide) k hk)) g307
  have g317 : IM (avw K H311 a0) := IM.congr (fun k hk j => av_eff hTH303 kH311 ga0 (by decide) (IM_eff [] (by decide) k hk)) g308
  have m318 := (fI_kept (x_lt hTH303 kH311 ga0 (by decide))).trans m309
  have m319 := (ex310).trans (fI_kept (x_lt hTH303 kH311 ga0 (by decide))).symm
  refine W.eq (g2 := F0 m 10 ls [.int x312]) rfl ?_
  refine lv_if_eq (tgt := 25) hx hb dX10_still_10 (by decide) (fun c320 => ?_) (fun c320 => ?_)
  · have k321 := i_eq c320
    exact J25 ls H311 locsH311 (lv_sub hl [] rfl) hTH311 hSH311 mf313 g314 g315 g316 g317
  · have k321 := i_ne c320
    refine lv_aload_n hx hb dX10_still_13 rfl (lv_at hl 0 rfl) ?_
    refine lv_iload_n hx hb dX10_still_14 rfl (lv_at hl 2 rfl) ?_
    refine x_V (As := [.int x2]) (rest := []) C (c_X10_isTone l K G H311 (x2) hTH311 ga0) yo_X10_isTone wM_X10_331 ⟨⟨by decide, by decide⟩, by decide, by decide⟩ (x_rv C hTH311 (ci := 10) rfl ga0 rg_112) rfl hl.1 rfl (Nat.le_of_ble_eq_true rfl) dX10_still_15 hSH311 (AE_sub (fun _ _ => rfl) (by decide) hSH311.1) (fun vH322 H322 locsH322 pH322 zH322 kH322 hSH322 => ?_)
    have hqH322 := pH322.1.symm
    subst hqH322
    rcases pH322.2 with ⟨hvH322, hcH322⟩ | ⟨hvH322, hcH322⟩
    · subst hvH322
      refine W.eq (g2 := F0 m 18 ls [.int 1]) rfl ?_
      refine lv_if_eq (tgt := 25) hx hb dX10_still_18 (by decide) (fun c323 => ?_) (fun c323 => ?_)
      · have k324 := i_eq c323
        exfalso
        omega
      · have k324 := i_ne c323
        refine lv_iload_n hx hb dX10_still_21 rfl (lv_at hl 3 rfl) ?_
        refine lv_if_ge (tgt := 27) hx hb dX10_still_22 (by decide) (fun c325 => ?_) (fun c325 => ?_)
        · have k326 := i_le c325
          refine lv_iload_n hx hb dX10_still_27 rfl (lv_at hl 3 rfl) ?_
          refine lv_if_ne (tgt := 40) hx hb dX10_still_28 (by decide) (fun c327 => ?_) (fun c327 => ?_)
          · have k328 := i_ne c327
            refine lv_aload_n hx hb dX10_still_40 rfl (lv_at hl 0 rfl) ?_
            refine lv_iload_n hx hb dX10_still_41 rfl (lv_at hl 1 rfl) ?_
            refine lv_iload_n hx hb dX10_still_42 rfl (lv_at hl 2 rfl) ?_
            refine lv_iload_n hx hb dX10_still_43 rfl (lv_at hl 3 rfl) ?_
            refine lv_iconst (v := 1) hx hb dX10_still_44 (by decide) ?_
            refine lv_isub hx hb dX10_still_45 ?_
            refine lv_topi (fun x329 ex329 => ?_)
            have tx329 := i_sub ex329 (by have := i_rng x3; omega)
            refine x_V (As := [.int x1, .int x2, .int x329]) (rest := []) C (a_X10_stillAt l K G H311 (x1) (x2) (x329) hTH311 ga0 (by omega) g314) yo_X10_stillAt wM_X10_411 ⟨⟨by decide, by decide⟩, by decide, by decide⟩ (x_rv C hTH311 (ci := 10) rfl ga0 rg_112) rfl hl.1 rfl (Nat.le_of_ble_eq_true rfl) dX10_still_46 hSH322 (AE_sub (fun _ _ => rfl) (by decide) hSH322.1) (fun vH330 H330 locsH330 pH330 zH330 kH330 hSH330 => ?_)
            obtain ⟨x331, hvH330, bx331, hTH330⟩ := pH330
            subst hvH330
            have mf332 : MF K s.heap H330 a0 [0] := MF.eff (x_lt hTH311 kH330 ga0 (by decide)) mf313
            have g333 : CG (avw K H330 a0) := CG.congr (fun k hk j => av_eff hTH311 kH330 ga0 (by decide) (CG_eff [140, 139] (by decide) k hk)) g314
            have g334 : TU (avw K H330 a0) (svw K H330 a0) := TU.congr (fun k hk j => av_eff hTH311 kH330 ga0 (by decide) (TU_eff [140, 139] (by decide) k hk)) (fun k hk => sv_eff hTH311 kH330 ga0 (by decide)) g315
            have g335 : WD (avw K H330 a0) := WD.congr (fun k hk j => av_eff hTH311 kH330 ga0 (by decide) (WD_eff [140, 139] (by decide) k hk)) g316
            have g336 : IM (avw K H330 a0) := IM.congr (fun k hk j => av_eff hTH311 kH330 ga0 (by decide) (IM_eff [140, 139] (by decide) k hk)) g317
            have m337 := (fI_kept (x_lt hTH311 kH330 ga0 (by decide))).trans m318
            have m338 := (m319).trans (fI_kept (x_lt hTH311 kH330 ga0 (by decide))).symm
            refine W.eq (g2 := F0 m 49 ls [.int x331]) rfl ?_
            exact J49 ls H330 locsH330 (x331) (lv_sub hl [] rfl) hTH330 hSH330 mf332 g333 g334 g335 g336
          · have k328 := i_eq c327
            refine lv_aload_n hx hb dX10_still_31 rfl (lv_at hl 0 rfl) ?_
            refine lv_iload_n hx hb dX10_still_32 rfl (lv_at hl 1 rfl) ?_
            refine lv_iload_n hx hb dX10_still_33 rfl (lv_at hl 2 rfl) ?_
            refine x_V (As := [.int x1, .int x2]) (rest := []) C (a_X10_stills l K G H311 (x1) (x2) hTH311 ga0 (by omega) g314) yo_X10_stills wM_X10_408 ⟨⟨by decide, by decide⟩, by decide, by decide⟩ (x_rv C hTH311 (ci := 10) rfl ga0 rg_112) rfl hl.1 rfl (Nat.le_of_ble_eq_true rfl) dX10_still_34 hSH322 (AE_sub (fun _ _ => rfl) (by decide) hSH322.1) (fun vH339 H339 locsH339 pH339 zH339 kH339 hSH339 => ?_)
            obtain ⟨x340, hvH339, hTH339⟩ := pH339
            subst hvH339
            have mf341 : MF K s.heap H339 a0 [0] := MF.eff (x_lt hTH311 kH339 ga0 (by decide)) mf313
            have g342 : CG (avw K H339 a0) := CG.congr (fun k hk j => av_eff hTH311 kH339 ga0 (by decide) (CG_eff [140, 139] (by decide) k hk)) g314
            have g343 : TU (avw K H339 a0) (svw K H339 a0) := TU.congr (fun k hk j => av_eff hTH311 kH339 ga0 (by decide) (TU_eff [140, 139] (by decide) k hk)) (fun k hk => sv_eff hTH311 kH339 ga0 (by decide)) g315
            have g344 : WD (avw K H339 a0) := WD.congr (fun k hk j => av_eff hTH311 kH339 ga0 (by decide) (WD_eff [140, 139] (by decide) k hk)) g316
            have g345 : IM (avw K H339 a0) := IM.congr (fun k hk j => av_eff hTH311 kH339 ga0 (by decide) (IM_eff [140, 139] (by decide) k hk)) g317
            have m346 := (fI_kept (x_lt hTH311 kH339 ga0 (by decide))).trans m318
            have m347 := (m319).trans (fI_kept (x_lt hTH311 kH339 ga0 (by decide))).symm
            refine W.eq (g2 := F0 m 37 ls [.int x340]) rfl ?_
            refine lv_goto (tgt := 49) hx hb dX10_still_37 (by decide) ?_
            exact J49 ls H339 locsH339 (x340) (lv_sub hl [] rfl) hTH339 hSH339 mf341 g342 g343 g344 g345
        · have k326 := i_nle c325
          exact J25 ls H311 locsH322 (lv_sub hl [] rfl) hTH311 hSH322 mf313 g314 g315 g316 g317
    · subst hvH322
      refine W.eq (g2 := F0 m 18 ls [.int 0]) rfl ?_
      refine lv_if_eq (tgt := 25) hx hb dX10_still_18 (by decide) (fun c348 => ?_) (fun c348 => ?_)
      · have k349 := i_eq c348
        exact J25 ls H311 locsH322 (lv_sub hl [] rfl) hTH311 hSH322 mf313 g314 g315 g316 g317
      · have k349 := i_ne c348
        exfalso
        omega

set_option maxHeartbeats 4000000 in
set_option maxRecDepth 100000 in
theorem a_X10_holes (l : Launch) (K : KE) (G : Nat → Option Nat) (H : Heap) {a0 : Nat} (x1 : Int32) (x2 : Int32) (x3 : Int32) (hT : TY K G H) (ga0 : G a0 = some 112) (hg_CG : CG (avw K H a0)) (hg_TU : TU (avw K H a0) (svw K H a0)) (hg_WD : WD (avw K H a0)) (hg_IM : IM (avw K H a0)) : MX l K yX10_holes cX10_holes 4 (some .boolean) 2 43 0 0 [.ref a0, .int x1, .int x2, .int x3] H (AE G [112, 123, 124] H.size) (fun v H1 => ∃ (r : Int32), v = some (.int r) ∧ (0 ≤ r.toInt ∧ r.toInt ≤ 1) ∧ (CG (avw K H1 a0)) ∧ (TU (avw K H1 a0) (svw K H1 a0)) ∧ (WD (avw K H1 a0)) ∧ (IM (avw K H1 a0)) ∧ MF K H H1 a0 [0] ∧ TY K G H1) := by
  refine MX.of (by decide +kernel) (Nat.le_of_ble_eq_true rfl) ?_
  intro p e s m below meth c ls Q C hH hl hQ
  subst hH
  have C : CX p K s m _ meth c RX10 cX10_holes 4 (some .boolean) "holes" := C
  obtain ⟨hx, hb, hml, hown, hts, hKT, hr, hlocks, hnm⟩ := id C
  have hl : lv_has ls 4 [(0, .ref a0), (1, .int x1), (2, .int x2), (3, .int x3)] := hl
  have hS : va_S (AE G [112, 123, 124] s.heap.size) s.heap s.heap [] := va_S.rf
  have n_0 : (0 : Int32).toInt = 0 := rfl
  have n_1 : (1 : Int32).toInt = 1 := rfl
  have hap : ∀ x y, x < 74 → y < 74 → x ≠ y → K.1.2 10 x ≠ K.1.2 10 y := x_apart hKT hts inX10 tyX10 tyX10_ok nmX10 rfl
  have mf0 : MF K s.heap s.heap a0 [0] := fun _ _ _ => rfl
  have J28 : ∀ (ls326 : Array Slot) (H325 : Heap) (locsH325 : List Loc) , lv_has ls326 4 [] → TY K G H325 → va_S (AE G [112, 123, 124] s.heap.size) s.heap H325 locsH325 → (MF K s.heap H325 a0 [0]) → (CG (avw K H325 a0)) → (TU (avw K H325 a0) (svw K H325 a0)) → (WD (avw K H325 a0)) → (IM (avw K H325 a0)) → W p l e ({ frames := 2, cells := 0, slots := 0, locals := 43 } : Room) s m (([.ref a0, .int x1, .int x2, .int x3] : List Value).toArray) below meth c H325 locsH325 0 0 Q (F0 m 28 ls326 []) := by
    intro ls326 H325 locsH325  hl327 hTH325 hSH325 mfy328 gy328_CG gy328_TU gy328_WD gy328_IM
    refine lv_iconst (v := 0) hx hb dX10_holes_28 (by decide) ?_
    exact x_zret C hQ (Or.inl rfl) dX10_holes_29 hSH325 (by decide) (by decide) (⟨0, rfl, by decide, gy328_CG, gy328_TU, gy328_WD, gy328_IM, mfy328, hTH325⟩)
  refine lv_aload_n hx hb dX10_holes_0 rfl (lv_at hl 0 rfl) ?_
  refine lv_iconst (v := 0) hx hb dX10_holes_1 (by decide) ?_
  refine x_put C hT hS (ci := 10) (k := 0) (v := .int 0) (ty0 := tyX10) rfl inX10 tyX10_ok nmX10 (by decide) rfl wF_X10_167 ga0 rg_112 rfl rfl (okI (by have := i_rng (0 : Int32); omega) (by have := i_rng (0 : Int32); omega)) rfl rfl (AE_in ga0 (by decide)) dX10_holes_2 (fun H329 locsH329 hTH329 hSH329 wH329 => ?_)
  have mf330 : MF K s.heap H329 a0 [0] := MF.fld hap wH329 (by decide) (by decide) mf0
  have g331 : CG (avw K H329 a0) := CG.congr (fun k hk j => av_fld hT ga0 hap wH329 (by decide) (CG_ok 112 (by decide) k hk) (CG_ne 0 (by decide) k hk)) hg_CG
  have g332 : TU (avw K H329 a0) (svw K H329 a0) := TU.congr (fun k hk j => av_fld hT ga0 hap wH329 (by decide) (TU_ok 112 (by decide) k hk) (TU_ne 0 (by decide) k hk)) (fun k hk => sv_fld hap wH329 (by decide) (TU_slt k hk) (TU_sne 0 (by decide) k hk)) hg_TU
  have g333 : WD (avw K H329 a0) := WD.congr (fun k hk j => av_fld hT ga0 hap wH329 (by decide) (WD_ok 112 (by decide) k hk) (WD_ne 0 (by decide) k hk)) hg_WD
  have g334 : IM (avw K H329 a0) := IM.congr (fun k hk j => av_fld hT ga0 hap wH329 (by decide) (IM_ok 112 (by decide) k hk) (IM_ne 0 (by decide) k hk)) hg_IM
  have m335 := Wr.I wH329
  refine lv_aload_n hx hb dX10_holes_5 rfl (lv_at hl 0 rfl) ?_
  refine lv_iload_n hx hb dX10_holes_6 rfl (lv_at hl 1 rfl) ?_
  refine lv_iload_n hx hb dX10_holes_7 rfl (lv_at hl 2 rfl) ?_
  obtain ⟨x336, ex336⟩ : ∃ z : Int32, z = fI H329 a0 (K.1.2 10 1) := ⟨_, rfl⟩
  have bx336 := ty_fi (x := x336) (k := 1) ex336 hTH329 ga0 rg_112 rfl
  refine x_V (As := [.int x1, .int x2]) (rest := []) C (a_X10_isSlice l K G H329 (x1) (x2) (x336) hTH329 ga0 ex336) yo_X10_isSlice wM_X10_181 ⟨⟨by decide, by decide⟩, by decide, by decide⟩ (x_rv C hTH329 (ci := 10) rfl ga0 rg_112) rfl hl.1 rfl (Nat.le_of_ble_eq_true rfl) dX10_holes_8 hSH329 (AE_sub (fun _ _ => rfl) (by decide) hSH329.1) (fun vH337 H337 locsH337 pH337 zH337 kH337 hSH337 => ?_)
  obtain ⟨x338, hvH337, bx338, hrH337, hTH337⟩ := pH337
  subst hvH337
  have mf339 : MF K s.heap H337 a0 [0] := MF.eff (x_lt hTH329 kH337 ga0 (by decide)) mf330
  have g340 : CG (avw K H337 a0) := CG.congr (fun k hk j => av_eff hTH329 kH337 ga0 (by decide) (CG_eff [] (by decide) k hk)) g331
  have g341 : TU (avw K H337 a0) (svw K H337 a0) := TU.congr (fun k hk j => av_eff hTH329 kH337 ga0 (by decide) (TU_eff [] (by decide) k hk)) (fun k hk => sv_eff hTH329 kH337 ga0 (by decide)) g332
  have g342 : WD (avw K H337 a0) := WD.congr (fun k hk j => av_eff hTH329 kH337 ga0 (by decide) (WD_eff [] (by decide) k hk)) g333
  have g343 : IM (avw K H337 a0) := IM.congr (fun k hk j => av_eff hTH329 kH337 ga0 (by decide) (IM_eff [] (by decide) k hk)) g334
  have m344 := (fI_kept (x_lt hTH329 kH337 ga0 (by decide))).trans m335
  have m345 := (ex336).trans (fI_kept (x_lt hTH329 kH337 ga0 (by decide))).symm
  refine W.eq (g2 := F0 m 11 ls [.int x338]) rfl ?_
  refine lv_if_eq (tgt := 28) hx hb dX10_holes_11 (by decide) (fun c346 => ?_) (fun c346 => ?_)
  · have k347 := i_eq c346
    exact J28 ls H337 locsH337 (lv_sub hl [] rfl) hTH337 hSH337 mf339 g340 g341 g342 g343
  · have k347 := i_ne c346
    refine lv_aload_n hx hb dX10_holes_14 rfl (lv_at hl 0 rfl) ?_
    refine lv_iload_n hx hb dX10_holes_15 rfl (lv_at hl 1 rfl) ?_
    refine lv_iload_n hx hb dX10_holes_16 rfl (lv_at hl 3 rfl) ?_
    refine x_V (As := [.int x1, .int x3]) (rest := []) C (a_X10_isSlice l K G H337 (x1) (x3) (x336) hTH337 ga0 m345) yo_X10_isSlice wM_X10_181 ⟨⟨by decide, by decide⟩, by decide, by decide⟩ (x_rv C hTH337 (ci := 10) rfl ga0 rg_112) rfl hl.1 rfl (Nat.le_of_ble_eq_true rfl) dX10_holes_17 hSH337 (AE_sub (fun _ _ => rfl) (by decide) hSH337.1) (fun vH348 H348 locsH348 pH348 zH348 kH348 hSH348 => ?_)
    obtain ⟨x349, hvH348, bx349, hrH348, hTH348⟩ := pH348
    subst hvH348
    have mf350 : MF K s.heap H348 a0 [0] := MF.eff (x_lt hTH337 kH348 ga0 (by decide)) mf339
    have g351 : CG (avw K H348 a0) := CG.congr (fun k hk j => av_eff hTH337 kH348 ga0 (by decide) (CG_eff [] (by decide) k hk)) g340
    have g352 : TU (avw K H348 a0) (svw K H348 a0) := TU.congr (fun k hk j => av_eff hTH337 kH348 ga0 (by decide) (TU_eff [] (by decide) k hk)) (fun k hk => sv_eff hTH337 kH348 ga0 (by decide)) g341
    have g353 : WD (avw K H348 a0) := WD.congr (fun k hk j => av_eff hTH337 kH348 ga0 (by decide) (WD_eff [] (by decide) k hk)) g342
    have g354 : IM (avw K H348 a0) := IM.congr (fun k hk j => av_eff hTH337 kH348 ga0 (by decide) (IM_eff [] (by decide) k hk)) g343
    have m355 := (fI_kept (x_lt hTH337 kH348 ga0 (by decide))).trans m344
    have m356 := (m345).trans (fI_kept (x_lt hTH337 kH348 ga0 (by decide))).symm
    refine W.eq (g2 := F0 m 20 ls [.int x349]) rfl ?_
    refine lv_if_eq (tgt := 28) hx hb dX10_holes_20 (by decide) (fun c357 => ?_) (fun c357 => ?_)
    · have k358 := i_eq c357
      exact J28 ls H348 locsH348 (lv_sub hl [] rfl) hTH348 hSH348 mf350 g351 g352 g353 g354
    · have k358 := i_ne c357
      refine lv_iload_n hx hb dX10_holes_23 rfl (lv_at hl 2 rfl) ?_
      refine lv_iload_n hx hb dX10_holes_24 rfl (lv_at hl 3 rfl) ?_
      refine lv_icmp_lt (tgt := 30) hx hb dX10_holes_25 (by decide) (fun c359 => ?_) (fun c359 => ?_)
      · have k360 := i_lt c359
        refine lv_aload_n hx hb dX10_holes_30 rfl (lv_at hl 0 rfl) ?_
        refine x_gr C hTH348 (ci := 10) (k := 14) rfl inX10 (by decide) wF_X10_44 ga0 rg_112 rfl dX10_holes_31 (fun q361 eq361 gq361 => ?_)
        refine lv_iload_n hx hb dX10_holes_34 rfl (lv_at hl 1 rfl) ?_
        refine lv_iload_n hx hb dX10_holes_35 rfl (lv_at hl 2 rfl) ?_
        refine x_iast C hTH348 hSH348 gq361 rg_123 (by omega) (by show _ < ((10 : Nat) : Int); omega) ⟨by have := i_rng x2; omega, by have := i_rng x2; omega⟩ (AE_in gq361 (by decide)) dX10_holes_36 (fun H362 locsH362 hTH362 hSH362 wH362 => ?_)
        have mf363 : MF K s.heap H362 a0 [0] := MF.arr wH362 (G_ne ga0 gq361 (by decide)) mf350
        have g364 : CG (avw K H362 a0) := CG.congr (fun k hk j => av_arr hTH348 ga0 wH362 gq361 (by decide) (CG_ok 123 (by decide) k hk)) g351
        have g365 : TU (avw K H362 a0) (svw K H362 a0) := TU.congr (fun k hk j => av_arr hTH348 ga0 wH362 gq361 (by decide) (TU_ok 123 (by decide) k hk)) (fun k hk => sv_arr ga0 wH362 gq361 (by decide)) g352
        have g366 : WD (avw K H362 a0) := WD.congr (fun k hk j => av_arr hTH348 ga0 wH362 gq361 (by decide) (WD_ok 123 (by decide) k hk)) g353
        have g367 : IM (avw K H362 a0) := IM.congr (fun k hk j => av_arr hTH348 ga0 wH362 gq361 (by decide) (IM_ok 123 (by decide) k hk)) g354
        have m368 := (Wr.neI wH362 (Or.inl (G_ne ga0 gq361 (by decide)))).trans m355
        have m369 := m356.trans (Wr.neI wH362 (Or.inl (G_ne ga0 gq361 (by decide)))).symm
        have m370 := eq361.trans (Wr.neR wH362 (Or.inl (G_ne ga0 gq361 (by decide)))).symm
        have m371 := Wr.I wH362
        have m371 := m371.symm
        refine lv_aload_n hx hb dX10_holes_37 rfl (lv_at hl 0 rfl) ?_
        refine x_gr C hTH362 (ci := 10) (k := 15) rfl inX10 (by decide) wF_X10_47 ga0 rg_112 rfl dX10_holes_38 (fun q372 eq372 gq372 => ?_)
        refine lv_iload_n hx hb dX10_holes_41 rfl (lv_at hl 1 rfl) ?_
        refine lv_iload_n hx hb dX10_holes_42 rfl (lv_at hl 3 rfl) ?_
        refine x_iast C hTH362 hSH362 gq372 rg_124 (by omega) (by show _ < ((10 : Nat) : Int); omega) ⟨by have := i_rng x3; omega, by have := i_rng x3; omega⟩ (AE_in gq372 (by decide)) dX10_holes_43 (fun H373 locsH373 hTH373 hSH373 wH373 => ?_)
        have mf374 : MF K s.heap H373 a0 [0] := MF.arr wH373 (G_ne ga0 gq372 (by decide)) mf363
        have g375 : CG (avw K H373 a0) := CG.congr (fun k hk j => av_arr hTH362 ga0 wH373 gq372 (by decide) (CG_ok 124 (by decide) k hk)) g364
        have g376 : TU (avw K H373 a0) (svw K H373 a0) := TU.congr (fun k hk j => av_arr hTH362 ga0 wH373 gq372 (by decide) (TU_ok 124 (by decide) k hk)) (fun k hk => sv_arr ga0 wH373 gq372 (by decide)) g365
        have g377 : WD (avw K H373 a0) := WD.congr (fun k hk j => av_arr hTH362 ga0 wH373 gq372 (by decide) (WD_ok 124 (by decide) k hk)) g366
        have g378 : IM (avw K H373 a0) := IM.congr (fun k hk j => av_arr hTH362 ga0 wH373 gq372 (by decide) (IM_ok 124 (by decide) k hk)) g367
        have m379 := (Wr.neI wH373 (Or.inl (G_ne ga0 gq372 (by decide)))).trans m368
        have m380 := m369.trans (Wr.neI wH373 (Or.inl (G_ne ga0 gq372 (by decide)))).symm
        have m381 := m370.trans (Wr.neR wH373 (Or.inl (G_ne ga0 gq372 (by decide)))).symm
        have m382 := m371.trans (Wr.neI wH373 (Or.inl (G_ne gq361 gq372 (by decide)))).symm
        have m383 := eq372.trans (Wr.neR wH373 (Or.inl (G_ne ga0 gq372 (by decide)))).symm
        have m384 := Wr.I wH373
        have m384 := m384.symm
        refine lv_iconst (v := 1) hx hb dX10_holes_44 (by decide) ?_
        exact x_zret C hQ (Or.inr rfl) dX10_holes_45 hSH373 (by decide) (by decide) (⟨1, rfl, by decide, g375, g376, g377, g378, mf374, hTH373⟩)
      · have k360 := i_nlt c359
        exact J28 ls H348 locsH348 (lv_sub hl [] rfl) hTH348 hSH348 mf350 g351 g352 g353 g354

set_option maxHeartbeats 4000000 in
set_option maxRecDepth 100000 in
theorem a_X10_state (l : Launch) (K : KE) (G : Nat → Option Nat) (H : Heap) {a0 : Nat} (x1 : Int32) (x2 : Int32) (hT : TY K G H) (ga0 : G a0 = some 112) (hg_CG : CG (avw K H a0)) (hg_TU : TU (avw K H a0) (svw K H a0)) (hg_WD : WD (avw K H a0)) (hg_IM : IM (avw K H a0)) : MX l K yX10_state cX10_state 3 (some .int) 8 190 0 0 [.ref a0, .int x1, .int x2] H (AE G [112, 140, 139] H.size) (fun v H1 => ∃ (r : Int32), v = some (.int r) ∧ (CG (avw K H1 a0)) ∧ (TU (avw K H1 a0) (svw K H1 a0)) ∧ (WD (avw K H1 a0)) ∧ (IM (avw K H1 a0)) ∧ MF K H H1 a0 [0] ∧ TY K G H1) := by
  refine MX.of (by decide +kernel) (Nat.le_of_ble_eq_true rfl) ?_
  intro p e s m below meth c ls Q C hH hl hQ
  subst hH
  have C : CX p K s m _ meth c RX10 cX10_state 3 (some .int) "state" := C
  obtain ⟨hx, hb, hml, hown, hts, hKT, hr, hlocks, hnm⟩ := id C
  have hl : lv_has ls 3 [(0, .ref a0), (1, .int x1), (2, .int x2)] := hl
  have hS : va_S (AE G [112, 140, 139] s.heap.size) s.heap s.heap [] := va_S.rf
  have n_m2 : ((-2) : Int32).toInt = -2 := rfl
  have n_0 : (0 : Int32).toInt = 0 := rfl
  have n_1 : (1 : Int32).toInt = 1 := rfl
  have n_2 : (2 : Int32).toInt = 2 := rfl
  have n_3 : (3 : Int32).toInt = 3 := rfl
  have n_4 : (4 : Int32).toInt = 4 := rfl
  have n_5 : (5 : Int32).toInt = 5 := rfl
  have n_7 : (7 : Int32).toInt = 7 := rfl
  have n_8 : (8 : Int32).toInt = 8 := rfl
  have n_9 : (9 : Int32).toInt = 9 := rfl
  have hap : ∀ x y, x < 74 → y < 74 → x ≠ y → K.1.2 10 x ≠ K.1.2 10 y := x_apart hKT hts inX10 tyX10 tyX10_ok nmX10 rfl
  have mf0 : MF K s.heap s.heap a0 [0] := fun _ _ _ => rfl
  have J144 : ∀ (ls445 : Array Slot) (H444 : Heap) (locsH444 : List Loc) (x447 : Int32), lv_has ls445 3 [] → TY K G H444 → va_S (AE G [112, 140, 139] s.heap.size) s.heap H444 locsH444 → (MF K s.heap H444 a0 [0]) → (CG (avw K H444 a0)) → (TU (avw K H444 a0) (svw K H444 a0)) → (WD (avw K H444 a0)) → (IM (avw K H444 a0)) → W p l e ({ frames := 8, cells := 0, slots := 0, locals := 190 } : Room) s m (([.ref a0, .int x1, .int x2] : List Value).toArray) below meth c H444 locsH444 0 0 Q (F0 m 144 ls445 [.int x447]) := by
    intro ls445 H444 locsH444 x447 hl446 hTH444 hSH444 mfy448 gy448_CG gy448_TU gy448_WD gy448_IM
    exact x_iret C hQ dX10_state_144 hSH444 (by decide) (by decide) (⟨x447, rfl, gy448_CG, gy448_TU, gy448_WD, gy448_IM, mfy448, hTH444⟩)
  have J76 : ∀ (ls450 : Array Slot) (H449 : Heap) (locsH449 : List Loc) (x452 : Int32), lv_has ls450 3 [] → TY K G H449 → va_S (AE G [112, 140, 139] s.heap.size) s.heap H449 locsH449 → (0 ≤ x452.toInt ∧ x452.toInt ≤ 1) → (MF K s.heap H449 a0 [0]) → (CG (avw K H449 a0)) → (TU (avw K H449 a0) (svw K H449 a0)) → (WD (avw K H449 a0)) → (IM (avw K H449 a0)) → W p l e ({ frames := 8, cells := 0, slots := 0, locals := 190 } : Room) s m (([.ref a0, .int x1, .int x2] : List Value).toArray) below meth c H449 locsH449 0 0 Q (F0 m 76 ls450 [.int x452]) := by
    intro ls450 H449 locsH449 x452 hl451 hTH449 hSH449 bx452 mfy453 gy453_CG gy453_TU gy453_WD gy453_IM
    exact x_iret C hQ dX10_state_76 hSH449 (by decide) (by decide) (⟨x452, rfl, gy453_CG, gy453_TU, gy453_WD, gy453_IM, mfy453, hTH449⟩)
  have J57 : ∀ (ls455 : Array Slot) (H454 : Heap) (locsH454 : List Loc) (x457 : Int32), lv_has ls455 3 [] → TY K G H454 → va_S (AE G [112, 140, 139] s.heap.size) s.heap H454 locsH454 → (0 ≤ x457.toInt ∧ x457.toInt ≤ 1) → (MF K s.heap H454 a0 [0]) → (CG (avw K H454 a0)) → (TU (avw K H454 a0) (svw K H454 a0)) → (WD (avw K H454 a0)) → (IM (avw K H454 a0)) → W p l e ({ frames := 8, cells := 0, slots := 0, locals := 190 } : Room) s m (([.ref a0, .int x1, .int x2] : List Value).toArray) below meth c H454 locsH454 0 0 Q (F0 m 57 ls455 [.int x457]) := by
    intro ls455 H454 locsH454 x457 hl456 hTH454 hSH454 bx457 mfy458 gy458_CG gy458_TU gy458_WD gy458_IM
    exact x_iret C hQ dX10_state_57 hSH454 (by decide) (by decide) (⟨x457, rfl, gy458_CG, gy458_TU, gy458_WD, gy458_IM, mfy458, hTH454⟩)
  refine lv_aload_n hx hb dX10_state_0 rfl (lv_at hl 0 rfl) ?_
  refine lv_iconst (v := 0) hx hb dX10_state_1 (by decide) ?_
  refine x_put C hT hS (ci := 10) (k := 0) (v := .int 0) (ty0 := tyX10) rfl inX10 tyX10_ok nmX10 (by decide) rfl wF_X10_167 ga0 rg_112 rfl rfl (okI (by have := i_rng (0 : Int32); omega) (by have := i_rng (0 : Int32); omega)) rfl rfl (AE_in ga0 (by decide)) dX10_state_2 (fun H459 locsH459 hTH459 hSH459 wH459 => ?_)
  have mf460 : MF K s.heap H459 a0 [0] := MF.fld hap wH459 (by decide) (by decide) mf0
  have g461 : CG (avw K H459 a0) := CG.congr (fun k hk j => av_fld hT ga0 hap wH459 (by decide) (CG_ok 112 (by decide) k hk) (CG_ne 0 (by decide) k hk)) hg_CG
  have g462 : TU (avw K H459 a0) (svw K H459 a0) := TU.congr (fun k hk j => av_fld hT ga0 hap wH459 (by decide) (TU_ok 112 (by decide) k hk) (TU_ne 0 (by decide) k hk)) (fun k hk => sv_fld hap wH459 (by decide) (TU_slt k hk) (TU_sne 0 (by decide) k hk)) hg_TU
  have g463 : WD (avw K H459 a0) := WD.congr (fun k hk j => av_fld hT ga0 hap wH459 (by decide) (WD_ok 112 (by decide) k hk) (WD_ne 0 (by decide) k hk)) hg_WD
  have g464 : IM (avw K H459 a0) := IM.congr (fun k hk j => av_fld hT ga0 hap wH459 (by decide) (IM_ok 112 (by decide) k hk) (IM_ne 0 (by decide) k hk)) hg_IM
  have m465 := Wr.I wH459
  refine lv_aload_n hx hb dX10_state_5 rfl (lv_at hl 0 rfl) ?_
  refine lv_iload_n hx hb dX10_state_6 rfl (lv_at hl 1 rfl) ?_
  obtain ⟨x466, ex466⟩ : ∃ z : Int32, z = fI H459 a0 (K.1.2 10 1) := ⟨_, rfl⟩
  have bx466 := ty_fi (x := x466) (k := 1) ex466 hTH459 ga0 rg_112 rfl
  refine x_V (As := [.int x1]) (rest := []) C (a_X10_isBar l K G H459 (x1) (x466) hTH459 ga0 ex466) yo_X10_isBar wM_X10_173 ⟨⟨by decide, by decide⟩, by decide, by decide⟩ (x_rv C hTH459 (ci := 10) rfl ga0 rg_112) rfl hl.1 rfl (Nat.le_of_ble_eq_true rfl) dX10_state_7 hSH459 (AE_sub (fun _ _ => rfl) (by decide) hSH459.1) (fun vH467 H467 locsH467 pH467 zH467 kH467 hSH467 => ?_)
  obtain ⟨x468, hvH467, bx468, hrH467, hTH467⟩ := pH467
  subst hvH467
  have mf469 : MF K s.heap H467 a0 [0] := MF.eff (x_lt hTH459 kH467 ga0 (by decide)) mf460
  have g470 : CG (avw K H467 a0) := CG.congr (fun k hk j => av_eff hTH459 kH467 ga0 (by decide) (CG_eff [] (by decide) k hk)) g461
  have g471 : TU (avw K H467 a0) (svw K H467 a0) := TU.congr (fun k hk j => av_eff hTH459 kH467 ga0 (by decide) (TU_eff [] (by decide) k hk)) (fun k hk => sv_eff hTH459 kH467 ga0 (by decide)) g462
  have g472 : WD (avw K H467 a0) := WD.congr (fun k hk j => av_eff hTH459 kH467 ga0 (by decide) (WD_eff [] (by decide) k hk)) g463
  have g473 : IM (avw K H467 a0) := IM.congr (fun k hk j => av_eff hTH459 kH467 ga0 (by decide) (IM_eff [] (by decide) k hk)) g464
  have m474 := (fI_kept (x_lt hTH459 kH467 ga0 (by decide))).trans m465
  have m475 := (ex466).trans (fI_kept (x_lt hTH459 kH467 ga0 (by decide))).symm
  refine W.eq (g2 := F0 m 10 ls [.int x468]) rfl ?_
  refine lv_if_ne (tgt := 16) hx hb dX10_state_10 (by decide) (fun c476 => ?_) (fun c476 => ?_)
  · have k477 := i_ne c476
    refine lv_iload_n hx hb dX10_state_16 rfl (lv_at hl 2 rfl) ?_
    refine lv_if_ne (tgt := 27) hx hb dX10_state_17 (by decide) (fun c478 => ?_) (fun c478 => ?_)
    · have k479 := i_ne c478
      refine lv_iload_n hx hb dX10_state_27 rfl (lv_at hl 2 rfl) ?_
      refine lv_iconst (v := 1) hx hb dX10_state_28 (by decide) ?_
      refine lv_icmp_ne (tgt := 39) hx hb dX10_state_29 (by decide) (fun c480 => ?_) (fun c480 => ?_)
      · have k481 := i_ne c480
        refine lv_iload_n hx hb dX10_state_39 rfl (lv_at hl 2 rfl) ?_
        refine lv_iconst (v := 2) hx hb dX10_state_40 (by decide) ?_
        refine lv_icmp_ne (tgt := 58) hx hb dX10_state_41 (by decide) (fun c482 => ?_) (fun c482 => ?_)
        · have k483 := i_ne c482
          refine lv_iload_n hx hb dX10_state_58 rfl (lv_at hl 2 rfl) ?_
          refine lv_iconst (v := 3) hx hb dX10_state_59 (by decide) ?_
          refine lv_icmp_ne (tgt := 77) hx hb dX10_state_60 (by decide) (fun c484 => ?_) (fun c484 => ?_)
          · have k485 := i_ne c484
            refine lv_iload_n hx hb dX10_state_77 rfl (lv_at hl 2 rfl) ?_
            refine lv_iconst (v := 4) hx hb dX10_state_78 (by decide) ?_
            refine lv_icmp_ne (tgt := 89) hx hb dX10_state_79 (by decide) (fun c486 => ?_) (fun c486 => ?_)
            · have k487 := i_ne c486
              refine lv_aload_n hx hb dX10_state_89 rfl (lv_at hl 0 rfl) ?_
              refine lv_iload_n hx hb dX10_state_90 rfl (lv_at hl 2 rfl) ?_
              refine lv_iconst (v := 5) hx hb dX10_state_91 (by decide) ?_
              refine lv_bipush (v := 7) hx hb dX10_state_92 (by decide) ?_
              refine x_V (As := [.int x2, .int 5, .int 7]) (rest := []) C (c_X10_isIn l K G H467 (x2) (5) (7) hTH467 ga0) yo_X10_isIn wM_X10_177 ⟨⟨by decide, by decide⟩, by decide, by decide⟩ (x_rv C hTH467 (ci := 10) rfl ga0 rg_112) rfl hl.1 rfl (Nat.le_of_ble_eq_true rfl) dX10_state_94 hSH467 (AE_sub (fun _ _ => rfl) (by decide) hSH467.1) (fun vH488 H488 locsH488 pH488 zH488 kH488 hSH488 => ?_)
              have hqH488 := pH488.1.symm
              subst hqH488
              rcases pH488.2 with ⟨hvH488, hcH488⟩ | ⟨hvH488, hcH488⟩
              · subst hvH488
                refine W.eq (g2 := F0 m 97 ls [.int 1]) rfl ?_
                refine lv_if_eq (tgt := 113) hx hb dX10_state_97 (by decide) (fun c489 => ?_) (fun c489 => ?_)
                · have k490 := i_eq c489
                  exfalso
                  omega
                · have k490 := i_ne c489
                  refine lv_aload_n hx hb dX10_state_100 rfl (lv_at hl 0 rfl) ?_
                  refine x_gr C hTH467 (ci := 10) (k := 9) rfl inX10 (by decide) wF_X10_29 ga0 rg_112 rfl dX10_state_101 (fun q491 eq491 gq491 => ?_)
                  refine lv_iconst (v := 3) hx hb dX10_state_104 (by decide) ?_
                  refine lv_iload_n hx hb dX10_state_105 rfl (lv_at hl 1 rfl) ?_
                  refine lv_imul hx hb dX10_state_106 ?_
                  refine lv_topi (fun x492 ex492 => ?_)
                  have tx492 := i_mul ex492 (by rw [n_3]; omega)
                  rw [n_3] at tx492
                  refine lv_iload_n hx hb dX10_state_107 rfl (lv_at hl 2 rfl) ?_
                  refine lv_iadd hx hb dX10_state_108 ?_
                  refine lv_topi (fun x493 ex493 => ?_)
                  have tx493 := i_add ex493 (by omega)
                  refine lv_iconst (v := 5) hx hb dX10_state_109 (by decide) ?_
                  refine lv_isub hx hb dX10_state_110 ?_
                  refine lv_topi (fun x494 ex494 => ?_)
                  have tx494 := i_sub ex494 (by omega)
                  refine x_ai C hTH467 gq491 rg_118 ⟨by omega, by show _ < ((30 : Nat) : Int); omega⟩ dX10_state_111 (fun x495 ex495 bx495 => ?_)
                  exact x_iret C hQ dX10_state_112 hSH488 (by decide) (by decide) (⟨x495, rfl, g470, g471, g472, g473, mf469, hTH467⟩)
              · subst hvH488
                refine W.eq (g2 := F0 m 97 ls [.int 0]) rfl ?_
                refine lv_if_eq (tgt := 113) hx hb dX10_state_97 (by decide) (fun c496 => ?_) (fun c496 => ?_)
                · have k497 := i_eq c496
                  refine lv_iload_n hx hb dX10_state_113 rfl (lv_at hl 2 rfl) ?_
                  refine lv_bipush (v := 8) hx hb dX10_state_114 (by decide) ?_
                  refine lv_icmp_ne (tgt := 128) hx hb dX10_state_116 (by decide) (fun c498 => ?_) (fun c498 => ?_)
                  · have k499 := i_ne c498
                    refine lv_iload_n hx hb dX10_state_128 rfl (lv_at hl 2 rfl) ?_
                    refine lv_bipush (v := 9) hx hb dX10_state_129 (by decide) ?_
                    refine lv_icmp_ne (tgt := 142) hx hb dX10_state_131 (by decide) (fun c500 => ?_) (fun c500 => ?_)
                    · have k501 := i_ne c500
                      refine lv_bipush (v := (-2)) hx hb dX10_state_142 (by decide) ?_
                      exact J144 ls H467 locsH488 ((-2)) (lv_sub hl [] rfl) hTH467 hSH488 mf469 g470 g471 g472 g473
                    · have k501 := i_eq c500
                      refine lv_aload_n hx hb dX10_state_134 rfl (lv_at hl 0 rfl) ?_
                      refine lv_iload_n hx hb dX10_state_135 rfl (lv_at hl 1 rfl) ?_
                      refine x_V (As := [.int x1]) (rest := []) C (a_X10_amiss l K G H467 (x1) hTH467 ga0 (by omega) g470) yo_X10_amiss wM_X10_417 ⟨⟨by decide, by decide⟩, by decide, by decide⟩ (x_rv C hTH467 (ci := 10) rfl ga0 rg_112) rfl hl.1 rfl (Nat.le_of_ble_eq_true rfl) dX10_state_136 hSH488 (AE_sub (fun _ _ => rfl) (by decide) hSH488.1) (fun vH502 H502 locsH502 pH502 zH502 kH502 hSH502 => ?_)
                      obtain ⟨x503, hvH502, hTH502⟩ := pH502
                      subst hvH502
                      have mf504 : MF K s.heap H502 a0 [0] := MF.eff (x_lt hTH467 kH502 ga0 (by decide)) mf469
                      have g505 : CG (avw K H502 a0) := CG.congr (fun k hk j => av_eff hTH467 kH502 ga0 (by decide) (CG_eff [140, 139] (by decide) k hk)) g470
                      have g506 : TU (avw K H502 a0) (svw K H502 a0) := TU.congr (fun k hk j => av_eff hTH467 kH502 ga0 (by decide) (TU_eff [140, 139] (by decide) k hk)) (fun k hk => sv_eff hTH467 kH502 ga0 (by decide)) g471
                      have g507 : WD (avw K H502 a0) := WD.congr (fun k hk j => av_eff hTH467 kH502 ga0 (by decide) (WD_eff [140, 139] (by decide) k hk)) g472
                      have g508 : IM (avw K H502 a0) := IM.congr (fun k hk j => av_eff hTH467 kH502 ga0 (by decide) (IM_eff [140, 139] (by decide) k hk)) g473
                      have m509 := (fI_kept (x_lt hTH467 kH502 ga0 (by decide))).trans m474
                      have m510 := (m475).trans (fI_kept (x_lt hTH467 kH502 ga0 (by decide))).symm
                      refine W.eq (g2 := F0 m 139 ls [.int x503]) rfl ?_
                      refine lv_goto (tgt := 144) hx hb dX10_state_139 (by decide) ?_
                      exact J144 ls H502 locsH502 (x503) (lv_sub hl [] rfl) hTH502 hSH502 mf504 g505 g506 g507 g508
                  · have k499 := i_eq c498
                    refine lv_aload_n hx hb dX10_state_119 rfl (lv_at hl 0 rfl) ?_
                    refine x_gr C hTH467 (ci := 10) (k := 50) rfl inX10 (by decide) wF_X10_116 ga0 rg_112 rfl dX10_state_120 (fun q511 eq511 gq511 => ?_)
                    refine lv_iload_n hx hb dX10_state_123 rfl (lv_at hl 1 rfl) ?_
                    refine x_ai C hTH467 gq511 rg_146 ⟨by omega, by show _ < ((10 : Nat) : Int); omega⟩ dX10_state_124 (fun x512 ex512 bx512 => ?_)
                    refine lv_goto (tgt := 144) hx hb dX10_state_125 (by decide) ?_
                    exact J144 ls H467 locsH488 (x512) (lv_sub hl [] rfl) hTH467 hSH488 mf469 g470 g471 g472 g473
                · have k497 := i_ne c496
                  exfalso
                  omega
            · have k487 := i_eq c486
              refine lv_aload_n hx hb dX10_state_82 rfl (lv_at hl 0 rfl) ?_
              refine x_gr C hTH467 (ci := 10) (k := 13) rfl inX10 (by decide) wF_X10_41 ga0 rg_112 rfl dX10_state_83 (fun q513 eq513 gq513 => ?_)
              refine lv_iload_n hx hb dX10_state_86 rfl (lv_at hl 1 rfl) ?_
              refine x_ai C hTH467 gq513 rg_122 ⟨by omega, by show _ < ((10 : Nat) : Int); omega⟩ dX10_state_87 (fun x514 ex514 bx514 => ?_)
              exact x_iret C hQ dX10_state_88 hSH467 (by decide) (by decide) (⟨x514, rfl, g470, g471, g472, g473, mf469, hTH467⟩)
          · have k485 := i_eq c484
            refine lv_aload_n hx hb dX10_state_63 rfl (lv_at hl 0 rfl) ?_
            refine lv_iload_n hx hb dX10_state_64 rfl (lv_at hl 1 rfl) ?_
            refine x_V (As := [.int x1]) (rest := []) C (a_X10_isTrue l K G H467 (x1) hTH467 ga0 (by omega) g470) yo_X10_isTrue wM_X10_414 ⟨⟨by decide, by decide⟩, by decide, by decide⟩ (x_rv C hTH467 (ci := 10) rfl ga0 rg_112) rfl hl.1 rfl (Nat.le_of_ble_eq_true rfl) dX10_state_65 hSH467 (AE_sub (fun _ _ => rfl) (by decide) hSH467.1) (fun vH515 H515 locsH515 pH515 zH515 kH515 hSH515 => ?_)
            obtain ⟨x516, hvH515, bx516, hTH515⟩ := pH515
            subst hvH515
            have mf517 : MF K s.heap H515 a0 [0] := MF.eff (x_lt hTH467 kH515 ga0 (by decide)) mf469
            have g518 : CG (avw K H515 a0) := CG.congr (fun k hk j => av_eff hTH467 kH515 ga0 (by decide) (CG_eff [140, 139] (by decide) k hk)) g470
            have g519 : TU (avw K H515 a0) (svw K H515 a0) := TU.congr (fun k hk j => av_eff hTH467 kH515 ga0 (by decide) (TU_eff [140, 139] (by decide) k hk)) (fun k hk => sv_eff hTH467 kH515 ga0 (by decide)) g471
            have g520 : WD (avw K H515 a0) := WD.congr (fun k hk j => av_eff hTH467 kH515 ga0 (by decide) (WD_eff [140, 139] (by decide) k hk)) g472
            have g521 : IM (avw K H515 a0) := IM.congr (fun k hk j => av_eff hTH467 kH515 ga0 (by decide) (IM_eff [140, 139] (by decide) k hk)) g473
            have m522 := (fI_kept (x_lt hTH467 kH515 ga0 (by decide))).trans m474
            have m523 := (m475).trans (fI_kept (x_lt hTH467 kH515 ga0 (by decide))).symm
            refine W.eq (g2 := F0 m 68 ls [.int x516]) rfl ?_
            refine lv_if_eq (tgt := 75) hx hb dX10_state_68 (by decide) (fun c524 => ?_) (fun c524 => ?_)
            · have k525 := i_eq c524
              refine lv_iconst (v := 0) hx hb dX10_state_75 (by decide) ?_
              exact J76 ls H515 locsH515 (0) (lv_sub hl [] rfl) hTH515 hSH515 (by decide) mf517 g518 g519 g520 g521
            · have k525 := i_ne c524
              refine lv_iconst (v := 1) hx hb dX10_state_71 (by decide) ?_
              refine lv_goto (tgt := 76) hx hb dX10_state_72 (by decide) ?_
              exact J76 ls H515 locsH515 (1) (lv_sub hl [] rfl) hTH515 hSH515 (by decide) mf517 g518 g519 g520 g521
        · have k483 := i_eq c482
          refine lv_aload_n hx hb dX10_state_44 rfl (lv_at hl 0 rfl) ?_
          refine lv_iload_n hx hb dX10_state_45 rfl (lv_at hl 1 rfl) ?_
          refine x_V (As := [.int x1]) (rest := []) C (a_X10_isLost l K G H467 (x1) hTH467 ga0 (by omega) g470) yo_X10_isLost wM_X10_338 ⟨⟨by decide, by decide⟩, by decide, by decide⟩ (x_rv C hTH467 (ci := 10) rfl ga0 rg_112) rfl hl.1 rfl (Nat.le_of_ble_eq_true rfl) dX10_state_46 hSH467 (AE_sub (fun _ _ => rfl) (by decide) hSH467.1) (fun vH526 H526 locsH526 pH526 zH526 kH526 hSH526 => ?_)
          obtain ⟨x527, hvH526, bx527, hTH526⟩ := pH526
          subst hvH526
          have mf528 : MF K s.heap H526 a0 [0] := MF.eff (x_lt hTH467 kH526 ga0 (by decide)) mf469
          have g529 : CG (avw K H526 a0) := CG.congr (fun k hk j => av_eff hTH467 kH526 ga0 (by decide) (CG_eff [140, 139] (by decide) k hk)) g470
          have g530 : TU (avw K H526 a0) (svw K H526 a0) := TU.congr (fun k hk j => av_eff hTH467 kH526 ga0 (by decide) (TU_eff [140, 139] (by decide) k hk)) (fun k hk => sv_eff hTH467 kH526 ga0 (by decide)) g471
          have g531 : WD (avw K H526 a0) := WD.congr (fun k hk j => av_eff hTH467 kH526 ga0 (by decide) (WD_eff [140, 139] (by decide) k hk)) g472
          have g532 : IM (avw K H526 a0) := IM.congr (fun k hk j => av_eff hTH467 kH526 ga0 (by decide) (IM_eff [140, 139] (by decide) k hk)) g473
          have m533 := (fI_kept (x_lt hTH467 kH526 ga0 (by decide))).trans m474
          have m534 := (m475).trans (fI_kept (x_lt hTH467 kH526 ga0 (by decide))).symm
          refine W.eq (g2 := F0 m 49 ls [.int x527]) rfl ?_
          refine lv_if_eq (tgt := 56) hx hb dX10_state_49 (by decide) (fun c535 => ?_) (fun c535 => ?_)
          · have k536 := i_eq c535
            refine lv_iconst (v := 0) hx hb dX10_state_56 (by decide) ?_
            exact J57 ls H526 locsH526 (0) (lv_sub hl [] rfl) hTH526 hSH526 (by decide) mf528 g529 g530 g531 g532
          · have k536 := i_ne c535
            refine lv_iconst (v := 1) hx hb dX10_state_52 (by decide) ?_
            refine lv_goto (tgt := 57) hx hb dX10_state_53 (by decide) ?_
            exact J57 ls H526 locsH526 (1) (lv_sub hl [] rfl) hTH526 hSH526 (by decide) mf528 g529 g530 g531 g532
      · have k481 := i_eq c480
        refine lv_aload_n hx hb dX10_state_32 rfl (lv_at hl 0 rfl) ?_
        refine x_gr C hTH467 (ci := 10) (k := 10) rfl inX10 (by decide) wF_X10_32 ga0 rg_112 rfl dX10_state_33 (fun q537 eq537 gq537 => ?_)
        refine lv_iload_n hx hb dX10_state_36 rfl (lv_at hl 1 rfl) ?_
        refine x_ai C hTH467 gq537 rg_119 ⟨by omega, by show _ < ((10 : Nat) : Int); omega⟩ dX10_state_37 (fun x538 ex538 bx538 => ?_)
        exact x_iret C hQ dX10_state_38 hSH467 (by decide) (by decide) (⟨x538, rfl, g470, g471, g472, g473, mf469, hTH467⟩)
    · have k479 := i_eq c478
      refine lv_aload_n hx hb dX10_state_20 rfl (lv_at hl 0 rfl) ?_
      refine x_gr C hTH467 (ci := 10) (k := 4) rfl inX10 (by decide) wF_X10_13 ga0 rg_112 rfl dX10_state_21 (fun q539 eq539 gq539 => ?_)
      refine lv_iload_n hx hb dX10_state_24 rfl (lv_at hl 1 rfl) ?_
      refine x_ai C hTH467 gq539 rg_113 ⟨by omega, by show _ < ((10 : Nat) : Int); omega⟩ dX10_state_25 (fun x540 ex540 bx540 => ?_)
      exact x_iret C hQ dX10_state_26 hSH467 (by decide) (by decide) (⟨x540, rfl, g470, g471, g472, g473, mf469, hTH467⟩)
  · have k477 := i_eq c476
    refine lv_bipush (v := (-2)) hx hb dX10_state_13 (by decide) ?_
    exact x_iret C hQ dX10_state_15 hSH467 (by decide) (by decide) (⟨(-2), rfl, g470, g471, g472, g473, mf469, hTH467⟩)

set_option maxHeartbeats 4000000 in
set_option maxRecDepth 100000 in
theorem a_X10_in (l : Launch) (K : KE) (G : Nat → Option Nat) (H : Heap) {a0 : Nat} (x1 : Int32) (x2 : Int32) (x3 : Int32) (x4 : Int32) (bs : Int32) (hT : TY K G H) (ga0 : G a0 = some 112) (ebs : bs = fI H a0 (K.1.2 10 1)) (hg_CG : CG (avw K H a0)) (hg_TU : TU (avw K H a0) (svw K H a0)) (hg_WD : WD (avw K H a0)) (hg_IM : IM (avw K H a0)) : MX l K yX10_in cX10_in 8 (some .int) 8 196 0 0 [.ref a0, .int x1, .int x2, .int x3, .int x4] H (AE G [112, 140, 139] H.size) (fun v H1 => ∃ (r : Int32), v = some (.int r) ∧ (CG (avw K H1 a0)) ∧ (TU (avw K H1 a0) (svw K H1 a0)) ∧ (WD (avw K H1 a0)) ∧ (IM (avw K H1 a0)) ∧ MF K H H1 a0 [0] ∧ TY K G H1) := by
  refine MX.of (by decide +kernel) (Nat.le_of_ble_eq_true rfl) ?_
  intro p e s m below meth c ls Q C hH hl hQ
  subst hH
  have C : CX p K s m _ meth c RX10 cX10_in 8 (some .int) "in" := C
  obtain ⟨hx, hb, hml, hown, hts, hKT, hr, hlocks, hnm⟩ := id C
  have hl : lv_has ls 8 [(0, .ref a0), (1, .int x1), (2, .int x2), (3, .int x3), (4, .int x4)] := hl
  have hS : va_S (AE G [112, 140, 139] s.heap.size) s.heap s.heap [] := va_S.rf
  have n_m1 : ((-1) : Int32).toInt = -1 := rfl
  have n_0 : (0 : Int32).toInt = 0 := rfl
  have n_1 : (1 : Int32).toInt = 1 := rfl
  have n_2 : (2 : Int32).toInt = 2 := rfl
  have n_3 : (3 : Int32).toInt = 3 := rfl
  have n_9999 : (9999 : Int32).toInt = 9999 := rfl
  have bbs := ty_fi (x := bs) (k := 1) ebs hT ga0 rg_112 rfl
  have hap : ∀ x y, x < 74 → y < 74 → x ≠ y → K.1.2 10 x ≠ K.1.2 10 y := x_apart hKT hts inX10 tyX10 tyX10_ok nmX10 rfl
  have mf0 : MF K s.heap s.heap a0 [0] := fun _ _ _ => rfl
  have J40 : ∀ (ls1877 : Array Slot) (H1876 : Heap) (locsH1876 : List Loc) , lv_has ls1877 8 [] → TY K G H1876 → va_S (AE G [112, 140, 139] s.heap.size) s.heap H1876 locsH1876 → (bs = fI H1876 a0 (K.1.2 10 1)) → (MF K s.heap H1876 a0 [0]) → (CG (avw K H1876 a0)) → (TU (avw K H1876 a0) (svw K H1876 a0)) → (WD (avw K H1876 a0)) → (IM (avw K H1876 a0)) → W p l e ({ frames := 8, cells := 0, slots := 0, locals := 196 } : Room) s m (([.ref a0, .int x1, .int x2, .int x3, .int x4] : List Value).toArray) below meth c H1876 locsH1876 0 0 Q (F0 m 40 ls1877 []) := by
    intro ls1877 H1876 locsH1876  hl1878 hTH1876 hSH1876 cy1879_0 mfy1879 gy1879_CG gy1879_TU gy1879_WD gy1879_IM
    refine lv_iconst (v := (-1)) hx hb dX10_in_40 (by decide) ?_
    exact x_iret C hQ dX10_in_41 hSH1876 (by decide) (by decide) (⟨(-1), rfl, gy1879_CG, gy1879_TU, gy1879_WD, gy1879_IM, mfy1879, hTH1876⟩)
  have J54 : ∀ (ls1881 : Array Slot) (H1880 : Heap) (locsH1880 : List Loc) , lv_has ls1881 8 [(0, .ref a0), (1, .int x1), (2, .int x2), (3, .int x3), (4, .int x4)] → TY K G H1880 → va_S (AE G [112, 140, 139] s.heap.size) s.heap H1880 locsH1880 → (0 ≤ x1.toInt ∧ x1.toInt ≤ 9) → ((-20) ≤ x2.toInt ∧ x2.toInt ≤ 50) → (0 ≤ x3.toInt ∧ x3.toInt ≤ 99) → (1 ≤ x4.toInt ∧ x4.toInt ≤ 2) → (bs = fI H1880 a0 (K.1.2 10 1)) → (MF K s.heap H1880 a0 [0]) → (CG (avw K H1880 a0)) → (TU (avw K H1880 a0) (svw K H1880 a0)) → (WD (avw K H1880 a0)) → (IM (avw K H1880 a0)) → (x1.toInt < bs.toInt) → W p l e ({ frames := 8, cells := 0, slots := 0, locals := 196 } : Room) s m (([.ref a0, .int x1, .int x2, .int x3, .int x4] : List Value).toArray) below meth c H1880 locsH1880 0 0 Q (F0 m 54 ls1881 []) := by
    intro ls1881 H1880 locsH1880  hl1882 hTH1880 hSH1880 b1883 b1884 b1885 b1886 cy1887_0 mfy1887 gy1887_CG gy1887_TU gy1887_WD gy1887_IM iv54
    refine lv_aload_n hx hb dX10_in_54 rfl (lv_at hl1882 0 rfl) ?_
    refine lv_iload_n hx hb dX10_in_55 rfl (lv_at hl1882 1 rfl) ?_
    refine lv_iload_n hx hb dX10_in_56 rfl (lv_at hl1882 2 rfl) ?_
    refine lv_iload_n hx hb dX10_in_57 rfl (lv_at hl1882 3 rfl) ?_
    refine lv_iload hx hb dX10_in_58 (lv_at hl1882 4 rfl) ?_
    refine lv_iconst (v := 1) hx hb dX10_in_60 (by decide) ?_
    refine lv_isub hx hb dX10_in_61 ?_
    refine lv_topi (fun x1888 ex1888 => ?_)
    have tx1888 := i_sub ex1888 (by omega)
    refine x_V (As := [.int x1, .int x2, .int x3, .int x1888]) (rest := []) C (a_X10_beatOf l K G H1880 (x1) (x2) (x3) (x1888) (bs) hTH1880 ga0 (by omega) (by omega) cy1887_0 gy1887_CG gy1887_TU (by omega)) yo_X10_beatOf wM_X10_434 ⟨⟨by decide, by decide⟩, by decide, by decide⟩ (x_rv C hTH1880 (ci := 10) rfl ga0 rg_112) rfl hl1882.1 rfl (Nat.le_of_ble_eq_true rfl) dX10_in_62 hSH1880 (AE_sub (fun _ _ => rfl) (by decide) hSH1880.1) (fun vH1889 H1889 locsH1889 pH1889 zH1889 kH1889 hSH1889 => ?_)
    obtain ⟨x1890, hvH1889, hTH1889⟩ := pH1889
    subst hvH1889
    have mf1891 : MF K s.heap H1889 a0 [0] := MF.eff (x_lt hTH1880 kH1889 ga0 (by decide)) mfy1887
    have g1892 : CG (avw K H1889 a0) := CG.congr (fun k hk j => av_eff hTH1880 kH1889 ga0 (by decide) (CG_eff [140, 139] (by decide) k hk)) gy1887_CG
    have g1893 : TU (avw K H1889 a0) (svw K H1889 a0) := TU.congr (fun k hk j => av_eff hTH1880 kH1889 ga0 (by decide) (TU_eff [140, 139] (by decide) k hk)) (fun k hk => sv_eff hTH1880 kH1889 ga0 (by decide)) gy1887_TU
    have g1894 : WD (avw K H1889 a0) := WD.congr (fun k hk j => av_eff hTH1880 kH1889 ga0 (by decide) (WD_eff [140, 139] (by decide) k hk)) gy1887_WD
    have g1895 : IM (avw K H1889 a0) := IM.congr (fun k hk j => av_eff hTH1880 kH1889 ga0 (by decide) (IM_eff [140, 139] (by decide) k hk)) gy1887_IM
    have m1896 := (cy1887_0).trans (fI_kept (x_lt hTH1880 kH1889 ga0 (by decide))).symm
    refine W.eq (g2 := F0 m 65 ls1881 [.int x1890]) rfl ?_
    exact x_iret C hQ dX10_in_65 hSH1889 (by decide) (by decide) (⟨x1890, rfl, g1892, g1893, g1894, g1895, mf1891, hTH1889⟩)
  have J89 : ∀ (nf : Nat) (ls1898 : Array Slot) (H1897 : Heap) (locsH1897 : List Loc) (x1901 : Int32) (x1902 : Int32) (x1903 : Int32), lv_has ls1898 8 [(0, .ref a0), (2, .int x2), (5, .int x1901), (6, .int x1902), (7, .int x1903)] → TY K G H1897 → va_S (AE G [112, 140, 139] s.heap.size) s.heap H1897 locsH1897 → ((-20) ≤ x2.toInt ∧ x2.toInt ≤ 50) → (1 ≤ x1902.toInt ∧ x1902.toInt ≤ 9999) → (2 ≤ x1903.toInt ∧ x1903.toInt ≤ 10000) → (bs = fI H1897 a0 (K.1.2 10 1)) → (MF K s.heap H1897 a0 [0]) → (CG (avw K H1897 a0)) → (TU (avw K H1897 a0) (svw K H1897 a0)) → (WD (avw K H1897 a0)) → (IM (avw K H1897 a0)) → (10000 - x1903.toInt < (nf : Int)) → W p l e ({ frames := 8, cells := 0, slots := 0, locals := 196 } : Room) s m (([.ref a0, .int x1, .int x2, .int x3, .int x4] : List Value).toArray) below meth c H1897 locsH1897 0 0 Q (F0 m 89 ls1898 []) := by
    intro nf
    induction nf with
    | zero =>
      intro ls1898 H1897 locsH1897 x1901 x1902 x1903 hl1899 hTH1897 hSH1897 b1900 bx1902 bx1903 cy1904_0 mfy1904 gy1904_CG gy1904_TU gy1904_WD gy1904_IM hm89
      have rx1901 := i_rng x1901
      exfalso
      omega
    | succ nf ih89 =>
      intro ls1898 H1897 locsH1897 x1901 x1902 x1903 hl1899 hTH1897 hSH1897 b1900 bx1902 bx1903 cy1904_0 mfy1904 gy1904_CG gy1904_TU gy1904_WD gy1904_IM hm89
      have rx1901 := i_rng x1901
      have J132 : ∀ (ls1906 : Array Slot) (H1905 : Heap) (locsH1905 : List Loc) (x1908 : Int32), lv_has ls1906 8 [(0, .ref a0), (2, .int x2), (5, .int x1901), (6, .int x1908), (7, .int x1903)] → TY K G H1905 → va_S (AE G [112, 140, 139] s.heap.size) s.heap H1905 locsH1905 → (1 ≤ x1908.toInt ∧ x1908.toInt ≤ 9999) → (2 ≤ x1903.toInt ∧ x1903.toInt ≤ 9999) → (bs = fI H1905 a0 (K.1.2 10 1)) → (MF K s.heap H1905 a0 [0]) → (CG (avw K H1905 a0)) → (TU (avw K H1905 a0) (svw K H1905 a0)) → (WD (avw K H1905 a0)) → (IM (avw K H1905 a0)) → W p l e ({ frames := 8, cells := 0, slots := 0, locals := 196 } : Room) s m (([.ref a0, .int x1, .int x2, .int x3, .int x4] : List Value).toArray) below meth c H1905 locsH1905 0 0 Q (F0 m 132 ls1906 []) := by
        intro ls1906 H1905 locsH1905 x1908 hl1907 hTH1905 hSH1905 bx1908 b1909 cy1910_0 mfy1910 gy1910_CG gy1910_TU gy1910_WD gy1910_IM
        obtain ⟨x1911, ex1911⟩ : ∃ y : Int32, y = x1903 + 1 := ⟨_, rfl⟩
        have tx1911 := i_add ex1911 (by omega)
        refine lv_iinc (v := x1911) (lv' := [(7, .int x1911), (0, .ref a0), (2, .int x2), (5, .int x1901), (6, .int x1908)]) hx hb dX10_in_132 hl1907 (k := 4) rfl (by rw [ex1911]; rfl) (by decide) rfl (fun ls1912 hl1913 => ?_)
        refine lv_goto (tgt := 89) hx hb dX10_in_135 (by decide) ?_
        exact ih89 ls1912 H1905 locsH1905 (x1901) (x1908) (x1911) (lv_sub hl1913 [1, 2, 3, 4, 0] rfl) hTH1905 hSH1905 (by have := i_rng x2; omega) (by have := i_rng x1908; omega) (by have := i_rng x1911; omega) cy1910_0 mfy1910 gy1910_CG gy1910_TU gy1910_WD gy1910_IM (by omega)
      refine lv_iload hx hb dX10_in_89 (lv_at hl1899 4 rfl) ?_
      refine lv_sipush (v := 9999) hx hb dX10_in_91 (by decide) ?_
      refine lv_icmp_gt (tgt := 138) hx hb dX10_in_94 (by decide) (fun c1914 => ?_) (fun c1914 => ?_)
      · have k1915 := i_lt c1914
        refine lv_iload hx hb dX10_in_138 (lv_at hl1899 3 rfl) ?_
        exact x_iret C hQ dX10_in_140 hSH1897 (by decide) (by decide) (⟨x1902, rfl, gy1904_CG, gy1904_TU, gy1904_WD, gy1904_IM, mfy1904, hTH1897⟩)
      · have k1915 := i_nlt c1914
        refine lv_aload_n hx hb dX10_in_97 rfl (lv_at hl1899 0 rfl) ?_
        refine lv_aload_n hx hb dX10_in_98 rfl (lv_at hl1899 0 rfl) ?_
        refine lv_iload hx hb dX10_in_99 (lv_at hl1899 4 rfl) ?_
        refine lv_iload_n hx hb dX10_in_101 rfl (lv_at hl1899 1 rfl) ?_
        refine x_V (As := [.int x1903, .int x2]) (rest := [.ref a0]) C (a_X10_sounds l K G H1897 (x1903) (x2) hTH1897 ga0 (by omega)) yo_X10_sounds wM_X10_422 ⟨⟨by decide, by decide⟩, by decide, by decide⟩ (x_rv C hTH1897 (ci := 10) rfl ga0 rg_112) rfl hl1899.1 rfl (Nat.le_of_ble_eq_true rfl) dX10_in_102 hSH1897 (AE_sub (fun _ _ => rfl) (by decide) hSH1897.1) (fun vH1916 H1916 locsH1916 pH1916 zH1916 kH1916 hSH1916 => ?_)
        obtain ⟨x1917, hvH1916, hTH1916⟩ := pH1916
        subst hvH1916
        have mf1918 : MF K s.heap H1916 a0 [0] := MF.eff (x_lt hTH1897 kH1916 ga0 (by decide)) mfy1904
        have g1919 : CG (avw K H1916 a0) := CG.congr (fun k hk j => av_eff hTH1897 kH1916 ga0 (by decide) (CG_eff [] (by decide) k hk)) gy1904_CG
        have g1920 : TU (avw K H1916 a0) (svw K H1916 a0) := TU.congr (fun k hk j => av_eff hTH1897 kH1916 ga0 (by decide) (TU_eff [] (by decide) k hk)) (fun k hk => sv_eff hTH1897 kH1916 ga0 (by decide)) gy1904_TU
        have g1921 : WD (avw K H1916 a0) := WD.congr (fun k hk j => av_eff hTH1897 kH1916 ga0 (by decide) (WD_eff [] (by decide) k hk)) gy1904_WD
        have g1922 : IM (avw K H1916 a0) := IM.congr (fun k hk j => av_eff hTH1897 kH1916 ga0 (by decide) (IM_eff [] (by decide) k hk)) gy1904_IM
        have m1923 := (cy1904_0).trans (fI_kept (x_lt hTH1897 kH1916 ga0 (by decide))).symm
        refine W.eq (g2 := F0 m 105 ls1898 [.int x1917, .ref a0]) rfl ?_
        refine lv_iload hx hb dX10_in_105 (lv_at hl1899 2 rfl) ?_
        refine lv_isub hx hb dX10_in_107 ?_
        refine lv_topi (fun x1924 ex1924 => ?_)
        refine x_V (As := [.int x1924]) (rest := []) C (a_X10_size l K G H1916 (x1924) hTH1916 ga0) yo_X10_size wM_X10_309 ⟨⟨by decide, by decide⟩, by decide, by decide⟩ (x_rv C hTH1916 (ci := 10) rfl ga0 rg_112) rfl hl1899.1 rfl (Nat.le_of_ble_eq_true rfl) dX10_in_108 hSH1916 (AE_sub (fun _ _ => rfl) (by decide) hSH1916.1) (fun vH1925 H1925 locsH1925 pH1925 zH1925 kH1925 hSH1925 => ?_)
        obtain ⟨x1926, hvH1925, hTH1925⟩ := pH1925
        subst hvH1925
        have mf1927 : MF K s.heap H1925 a0 [0] := MF.eff (x_lt hTH1916 kH1925 ga0 (by decide)) mf1918
        have g1928 : CG (avw K H1925 a0) := CG.congr (fun k hk j => av_eff hTH1916 kH1925 ga0 (by decide) (CG_eff [] (by decide) k hk)) g1919
        have g1929 : TU (avw K H1925 a0) (svw K H1925 a0) := TU.congr (fun k hk j => av_eff hTH1916 kH1925 ga0 (by decide) (TU_eff [] (by decide) k hk)) (fun k hk => sv_eff hTH1916 kH1925 ga0 (by decide)) g1920
        have g1930 : WD (avw K H1925 a0) := WD.congr (fun k hk j => av_eff hTH1916 kH1925 ga0 (by decide) (WD_eff [] (by decide) k hk)) g1921
        have g1931 : IM (avw K H1925 a0) := IM.congr (fun k hk j => av_eff hTH1916 kH1925 ga0 (by decide) (IM_eff [] (by decide) k hk)) g1922
        have m1932 := (m1923).trans (fI_kept (x_lt hTH1916 kH1925 ga0 (by decide))).symm
        refine W.eq (g2 := F0 m 111 ls1898 [.int x1926]) rfl ?_
        refine lv_aload_n hx hb dX10_in_111 rfl (lv_at hl1899 0 rfl) ?_
        refine lv_aload_n hx hb dX10_in_112 rfl (lv_at hl1899 0 rfl) ?_
        refine lv_iload hx hb dX10_in_113 (lv_at hl1899 3 rfl) ?_
        refine lv_iload_n hx hb dX10_in_115 rfl (lv_at hl1899 1 rfl) ?_
        refine x_V (As := [.int x1902, .int x2]) (rest := [.ref a0, .int x1926]) C (a_X10_sounds l K G H1925 (x1902) (x2) hTH1925 ga0 (by omega)) yo_X10_sounds wM_X10_422 ⟨⟨by decide, by decide⟩, by decide, by decide⟩ (x_rv C hTH1925 (ci := 10) rfl ga0 rg_112) rfl hl1899.1 rfl (Nat.le_of_ble_eq_true rfl) dX10_in_116 hSH1925 (AE_sub (fun _ _ => rfl) (by decide) hSH1925.1) (fun vH1933 H1933 locsH1933 pH1933 zH1933 kH1933 hSH1933 => ?_)
        obtain ⟨x1934, hvH1933, hTH1933⟩ := pH1933
        subst hvH1933
        have mf1935 : MF K s.heap H1933 a0 [0] := MF.eff (x_lt hTH1925 kH1933 ga0 (by decide)) mf1927
        have g1936 : CG (avw K H1933 a0) := CG.congr (fun k hk j => av_eff hTH1925 kH1933 ga0 (by decide) (CG_eff [] (by decide) k hk)) g1928
        have g1937 : TU (avw K H1933 a0) (svw K H1933 a0) := TU.congr (fun k hk j => av_eff hTH1925 kH1933 ga0 (by decide) (TU_eff [] (by decide) k hk)) (fun k hk => sv_eff hTH1925 kH1933 ga0 (by decide)) g1929
        have g1938 : WD (avw K H1933 a0) := WD.congr (fun k hk j => av_eff hTH1925 kH1933 ga0 (by decide) (WD_eff [] (by decide) k hk)) g1930
        have g1939 : IM (avw K H1933 a0) := IM.congr (fun k hk j => av_eff hTH1925 kH1933 ga0 (by decide) (IM_eff [] (by decide) k hk)) g1931
        have m1940 := (m1932).trans (fI_kept (x_lt hTH1925 kH1933 ga0 (by decide))).symm
        refine W.eq (g2 := F0 m 119 ls1898 [.int x1934, .ref a0, .int x1926]) rfl ?_
        refine lv_iload hx hb dX10_in_119 (lv_at hl1899 2 rfl) ?_
        refine lv_isub hx hb dX10_in_121 ?_
        refine lv_topi (fun x1941 ex1941 => ?_)
        refine x_V (As := [.int x1941]) (rest := [.int x1926]) C (a_X10_size l K G H1933 (x1941) hTH1933 ga0) yo_X10_size wM_X10_309 ⟨⟨by decide, by decide⟩, by decide, by decide⟩ (x_rv C hTH1933 (ci := 10) rfl ga0 rg_112) rfl hl1899.1 rfl (Nat.le_of_ble_eq_true rfl) dX10_in_122 hSH1933 (AE_sub (fun _ _ => rfl) (by decide) hSH1933.1) (fun vH1942 H1942 locsH1942 pH1942 zH1942 kH1942 hSH1942 => ?_)
        obtain ⟨x1943, hvH1942, hTH1942⟩ := pH1942
        subst hvH1942
        have mf1944 : MF K s.heap H1942 a0 [0] := MF.eff (x_lt hTH1933 kH1942 ga0 (by decide)) mf1935
        have g1945 : CG (avw K H1942 a0) := CG.congr (fun k hk j => av_eff hTH1933 kH1942 ga0 (by decide) (CG_eff [] (by decide) k hk)) g1936
        have g1946 : TU (avw K H1942 a0) (svw K H1942 a0) := TU.congr (fun k hk j => av_eff hTH1933 kH1942 ga0 (by decide) (TU_eff [] (by decide) k hk)) (fun k hk => sv_eff hTH1933 kH1942 ga0 (by decide)) g1937
        have g1947 : WD (avw K H1942 a0) := WD.congr (fun k hk j => av_eff hTH1933 kH1942 ga0 (by decide) (WD_eff [] (by decide) k hk)) g1938
        have g1948 : IM (avw K H1942 a0) := IM.congr (fun k hk j => av_eff hTH1933 kH1942 ga0 (by decide) (IM_eff [] (by decide) k hk)) g1939
        have m1949 := (m1940).trans (fI_kept (x_lt hTH1933 kH1942 ga0 (by decide))).symm
        refine W.eq (g2 := F0 m 125 ls1898 [.int x1943, .int x1926]) rfl ?_
        refine lv_icmp_ge (tgt := 132) hx hb dX10_in_125 (by decide) (fun c1950 => ?_) (fun c1950 => ?_)
        · have k1951 := i_le c1950
          exact J132 ls1898 H1942 locsH1942 (x1902) (lv_sub hl1899 [0, 1, 2, 3, 4] rfl) hTH1942 hSH1942 (by have := i_rng x1902; omega) (by have := i_rng x1903; omega) m1949 mf1944 g1945 g1946 g1947 g1948
        · have k1951 := i_nle c1950
          refine lv_iload hx hb dX10_in_128 (lv_at hl1899 4 rfl) ?_
          refine lv_istore (lv' := [(6, .int x1903), (0, .ref a0), (2, .int x2), (5, .int x1901), (7, .int x1903)]) hx hb dX10_in_130 hl1899 (by decide) rfl (fun ls1952 hl1953 => ?_)
          exact J132 ls1952 H1942 locsH1942 (x1903) (lv_sub hl1953 [1, 2, 3, 0, 4] rfl) hTH1942 hSH1942 (by have := i_rng x1903; omega) (by have := i_rng x1903; omega) m1949 mf1944 g1945 g1946 g1947 g1948
  refine lv_aload_n hx hb dX10_in_0 rfl (lv_at hl 0 rfl) ?_
  refine lv_iconst (v := 0) hx hb dX10_in_1 (by decide) ?_
  refine x_put C hT hS (ci := 10) (k := 0) (v := .int 0) (ty0 := tyX10) rfl inX10 tyX10_ok nmX10 (by decide) rfl wF_X10_167 ga0 rg_112 rfl rfl (okI (by have := i_rng (0 : Int32); omega) (by have := i_rng (0 : Int32); omega)) rfl rfl (AE_in ga0 (by decide)) dX10_in_2 (fun H1954 locsH1954 hTH1954 hSH1954 wH1954 => ?_)
  have mf1955 : MF K s.heap H1954 a0 [0] := MF.fld hap wH1954 (by decide) (by decide) mf0
  have g1956 : CG (avw K H1954 a0) := CG.congr (fun k hk j => av_fld hT ga0 hap wH1954 (by decide) (CG_ok 112 (by decide) k hk) (CG_ne 0 (by decide) k hk)) hg_CG
  have g1957 : TU (avw K H1954 a0) (svw K H1954 a0) := TU.congr (fun k hk j => av_fld hT ga0 hap wH1954 (by decide) (TU_ok 112 (by decide) k hk) (TU_ne 0 (by decide) k hk)) (fun k hk => sv_fld hap wH1954 (by decide) (TU_slt k hk) (TU_sne 0 (by decide) k hk)) hg_TU
  have g1958 : WD (avw K H1954 a0) := WD.congr (fun k hk j => av_fld hT ga0 hap wH1954 (by decide) (WD_ok 112 (by decide) k hk) (WD_ne 0 (by decide) k hk)) hg_WD
  have g1959 : IM (avw K H1954 a0) := IM.congr (fun k hk j => av_fld hT ga0 hap wH1954 (by decide) (IM_ok 112 (by decide) k hk) (IM_ne 0 (by decide) k hk)) hg_IM
  have m1960 := ebs.trans (Wr.neI wH1954 (Or.inr (x_apart hKT hts inX10 tyX10 tyX10_ok nmX10 rfl 1 0 (by decide) (by decide) (by decide)))).symm
  have m1961 := Wr.I wH1954
  refine lv_aload_n hx hb dX10_in_5 rfl (lv_at hl 0 rfl) ?_
  refine lv_iload_n hx hb dX10_in_6 rfl (lv_at hl 1 rfl) ?_
  refine x_V (As := [.int x1]) (rest := []) C (a_X10_isBar l K G H1954 (x1) (bs) hTH1954 ga0 m1960) yo_X10_isBar wM_X10_173 ⟨⟨by decide, by decide⟩, by decide, by decide⟩ (x_rv C hTH1954 (ci := 10) rfl ga0 rg_112) rfl hl.1 rfl (Nat.le_of_ble_eq_true rfl) dX10_in_7 hSH1954 (AE_sub (fun _ _ => rfl) (by decide) hSH1954.1) (fun vH1962 H1962 locsH1962 pH1962 zH1962 kH1962 hSH1962 => ?_)
  obtain ⟨x1963, hvH1962, bx1963, hrH1962, hTH1962⟩ := pH1962
  subst hvH1962
  have mf1964 : MF K s.heap H1962 a0 [0] := MF.eff (x_lt hTH1954 kH1962 ga0 (by decide)) mf1955
  have g1965 : CG (avw K H1962 a0) := CG.congr (fun k hk j => av_eff hTH1954 kH1962 ga0 (by decide) (CG_eff [] (by decide) k hk)) g1956
  have g1966 : TU (avw K H1962 a0) (svw K H1962 a0) := TU.congr (fun k hk j => av_eff hTH1954 kH1962 ga0 (by decide) (TU_eff [] (by decide) k hk)) (fun k hk => sv_eff hTH1954 kH1962 ga0 (by decide)) g1957
  have g1967 : WD (avw K H1962 a0) := WD.congr (fun k hk j => av_eff hTH1954 kH1962 ga0 (by decide) (WD_eff [] (by decide) k hk)) g1958
  have g1968 : IM (avw K H1962 a0) := IM.congr (fun k hk j => av_eff hTH1954 kH1962 ga0 (by decide) (IM_eff [] (by decide) k hk)) g1959
  have m1969 := (m1960).trans (fI_kept (x_lt hTH1954 kH1962 ga0 (by decide))).symm
  have m1970 := (fI_kept (x_lt hTH1954 kH1962 ga0 (by decide))).trans m1961
  refine W.eq (g2 := F0 m 10 ls [.int x1963]) rfl ?_
  refine lv_if_eq (tgt := 40) hx hb dX10_in_10 (by decide) (fun c1971 => ?_) (fun c1971 => ?_)
  · have k1972 := i_eq c1971
    exact J40 ls H1962 locsH1962 (lv_sub hl [] rfl) hTH1962 hSH1962 m1969 mf1964 g1965 g1966 g1967 g1968
  · have k1972 := i_ne c1971
    refine lv_aload_n hx hb dX10_in_13 rfl (lv_at hl 0 rfl) ?_
    refine lv_iload_n hx hb dX10_in_14 rfl (lv_at hl 2 rfl) ?_
    refine x_V (As := [.int x2]) (rest := []) C (c_X10_isHeat l K G H1962 (x2) hTH1962 ga0) yo_X10_isHeat wM_X10_428 ⟨⟨by decide, by decide⟩, by decide, by decide⟩ (x_rv C hTH1962 (ci := 10) rfl ga0 rg_112) rfl hl.1 rfl (Nat.le_of_ble_eq_true rfl) dX10_in_15 hSH1962 (AE_sub (fun _ _ => rfl) (by decide) hSH1962.1) (fun vH1973 H1973 locsH1973 pH1973 zH1973 kH1973 hSH1973 => ?_)
    have hqH1973 := pH1973.1.symm
    subst hqH1973
    rcases pH1973.2 with ⟨hvH1973, hcH1973⟩ | ⟨hvH1973, hcH1973⟩
    · subst hvH1973
      refine W.eq (g2 := F0 m 18 ls [.int 1]) rfl ?_
      refine lv_if_eq (tgt := 40) hx hb dX10_in_18 (by decide) (fun c1974 => ?_) (fun c1974 => ?_)
      · have k1975 := i_eq c1974
        exfalso
        omega
      · have k1975 := i_ne c1974
        refine lv_aload_n hx hb dX10_in_21 rfl (lv_at hl 0 rfl) ?_
        refine lv_iload_n hx hb dX10_in_22 rfl (lv_at hl 3 rfl) ?_
        refine x_V (As := [.int x3]) (rest := []) C (c_X10_isWet l K G H1962 (x3) hTH1962 ga0) yo_X10_isWet wM_X10_431 ⟨⟨by decide, by decide⟩, by decide, by decide⟩ (x_rv C hTH1962 (ci := 10) rfl ga0 rg_112) rfl hl.1 rfl (Nat.le_of_ble_eq_true rfl) dX10_in_23 hSH1973 (AE_sub (fun _ _ => rfl) (by decide) hSH1973.1) (fun vH1976 H1976 locsH1976 pH1976 zH1976 kH1976 hSH1976 => ?_)
        have hqH1976 := pH1976.1.symm
        subst hqH1976
        rcases pH1976.2 with ⟨hvH1976, hcH1976⟩ | ⟨hvH1976, hcH1976⟩
        · subst hvH1976
          refine W.eq (g2 := F0 m 26 ls [.int 1]) rfl ?_
          refine lv_if_eq (tgt := 40) hx hb dX10_in_26 (by decide) (fun c1977 => ?_) (fun c1977 => ?_)
          · have k1978 := i_eq c1977
            exfalso
            omega
          · have k1978 := i_ne c1977
            refine lv_aload_n hx hb dX10_in_29 rfl (lv_at hl 0 rfl) ?_
            refine lv_iload hx hb dX10_in_30 (lv_at hl 4 rfl) ?_
            refine lv_iconst (v := 0) hx hb dX10_in_32 (by decide) ?_
            refine lv_iconst (v := 3) hx hb dX10_in_33 (by decide) ?_
            refine x_V (As := [.int x4, .int 0, .int 3]) (rest := []) C (c_X10_isIn l K G H1962 (x4) (0) (3) hTH1962 ga0) yo_X10_isIn wM_X10_177 ⟨⟨by decide, by decide⟩, by decide, by decide⟩ (x_rv C hTH1962 (ci := 10) rfl ga0 rg_112) rfl hl.1 rfl (Nat.le_of_ble_eq_true rfl) dX10_in_34 hSH1976 (AE_sub (fun _ _ => rfl) (by decide) hSH1976.1) (fun vH1979 H1979 locsH1979 pH1979 zH1979 kH1979 hSH1979 => ?_)
            have hqH1979 := pH1979.1.symm
            subst hqH1979
            rcases pH1979.2 with ⟨hvH1979, hcH1979⟩ | ⟨hvH1979, hcH1979⟩
            · subst hvH1979
              refine W.eq (g2 := F0 m 37 ls [.int 1]) rfl ?_
              refine lv_if_ne (tgt := 42) hx hb dX10_in_37 (by decide) (fun c1980 => ?_) (fun c1980 => ?_)
              · have k1981 := i_ne c1980
                refine lv_iload hx hb dX10_in_42 (lv_at hl 4 rfl) ?_
                refine lv_iconst (v := 1) hx hb dX10_in_44 (by decide) ?_
                refine lv_icmp_eq (tgt := 54) hx hb dX10_in_45 (by decide) (fun c1982 => ?_) (fun c1982 => ?_)
                · have k1983 := i_eq c1982
                  exact J54 ls H1962 locsH1979 (lv_sub hl [0, 1, 2, 3, 4] rfl) hTH1962 hSH1979 (by have := i_rng x1; omega) (by have := i_rng x2; omega) (by have := i_rng x3; omega) (by have := i_rng x4; omega) m1969 mf1964 g1965 g1966 g1967 g1968 (by omega)
                · have k1983 := i_ne c1982
                  refine lv_iload hx hb dX10_in_48 (lv_at hl 4 rfl) ?_
                  refine lv_iconst (v := 2) hx hb dX10_in_50 (by decide) ?_
                  refine lv_icmp_ne (tgt := 66) hx hb dX10_in_51 (by decide) (fun c1984 => ?_) (fun c1984 => ?_)
                  · have k1985 := i_ne c1984
                    refine lv_aload_n hx hb dX10_in_66 rfl (lv_at hl 0 rfl) ?_
                    refine lv_iload_n hx hb dX10_in_67 rfl (lv_at hl 1 rfl) ?_
                    refine lv_iload_n hx hb dX10_in_68 rfl (lv_at hl 2 rfl) ?_
                    refine lv_iload_n hx hb dX10_in_69 rfl (lv_at hl 3 rfl) ?_
                    refine x_V (As := [.int x1, .int x2, .int x3]) (rest := []) C (a_X10_drifted l K G H1962 (x1) (x2) (x3) hTH1962 ga0 (by omega) g1965) yo_X10_drifted wM_X10_425 ⟨⟨by decide, by decide⟩, by decide, by decide⟩ (x_rv C hTH1962 (ci := 10) rfl ga0 rg_112) rfl hl.1 rfl (Nat.le_of_ble_eq_true rfl) dX10_in_70 hSH1979 (AE_sub (fun _ _ => rfl) (by decide) hSH1979.1) (fun vH1986 H1986 locsH1986 pH1986 zH1986 kH1986 hSH1986 => ?_)
                    obtain ⟨x1987, hvH1986, hTH1986⟩ := pH1986
                    subst hvH1986
                    have mf1988 : MF K s.heap H1986 a0 [0] := MF.eff (x_lt hTH1962 kH1986 ga0 (by decide)) mf1964
                    have g1989 : CG (avw K H1986 a0) := CG.congr (fun k hk j => av_eff hTH1962 kH1986 ga0 (by decide) (CG_eff [140, 139] (by decide) k hk)) g1965
                    have g1990 : TU (avw K H1986 a0) (svw K H1986 a0) := TU.congr (fun k hk j => av_eff hTH1962 kH1986 ga0 (by decide) (TU_eff [140, 139] (by decide) k hk)) (fun k hk => sv_eff hTH1962 kH1986 ga0 (by decide)) g1966
                    have g1991 : WD (avw K H1986 a0) := WD.congr (fun k hk j => av_eff hTH1962 kH1986 ga0 (by decide) (WD_eff [140, 139] (by decide) k hk)) g1967
                    have g1992 : IM (avw K H1986 a0) := IM.congr (fun k hk j => av_eff hTH1962 kH1986 ga0 (by decide) (IM_eff [140, 139] (by decide) k hk)) g1968
                    have m1993 := (m1969).trans (fI_kept (x_lt hTH1962 kH1986 ga0 (by decide))).symm
                    have m1994 := (fI_kept (x_lt hTH1962 kH1986 ga0 (by decide))).trans m1970
                    refine W.eq (g2 := F0 m 73 ls [.int x1987]) rfl ?_
                    refine lv_istore (lv' := [(5, .int x1987), (0, .ref a0), (1, .int x1), (2, .int x2), (3, .int x3), (4, .int x4)]) hx hb dX10_in_73 hl (by decide) rfl (fun ls1995 hl1996 => ?_)
                    refine lv_iload hx hb dX10_in_75 (lv_at hl1996 5 rfl) ?_
                    refine lv_if_ne (tgt := 83) hx hb dX10_in_77 (by decide) (fun c1997 => ?_) (fun c1997 => ?_)
                    · have k1998 := i_ne c1997
                      refine lv_iconst (v := 1) hx hb dX10_in_83 (by decide) ?_
                      refine lv_istore (lv' := [(6, .int 1), (5, .int x1987), (0, .ref a0), (1, .int x1), (2, .int x2), (3, .int x3), (4, .int x4)]) hx hb dX10_in_84 hl1996 (by decide) rfl (fun ls1999 hl2000 => ?_)
                      refine lv_iconst (v := 2) hx hb dX10_in_86 (by decide) ?_
                      refine lv_istore (lv' := [(7, .int 2), (6, .int 1), (5, .int x1987), (0, .ref a0), (1, .int x1), (2, .int x2), (3, .int x3), (4, .int x4)]) hx hb dX10_in_87 hl2000 (by decide) rfl (fun ls2001 hl2002 => ?_)
                      exact J89 ((10000 - (2 : Int32).toInt).toNat + 1) ls2001 H1986 locsH1986 (x1987) (1) (2) (lv_sub hl2002 [3, 5, 2, 1, 0] rfl) hTH1986 hSH1986 (by have := i_rng x2; omega) (by decide) (by decide) m1993 mf1988 g1989 g1990 g1991 g1992 (by omega)
                    · have k1998 := i_eq c1997
                      refine lv_iload hx hb dX10_in_80 (lv_at hl1996 0 rfl) ?_
                      exact x_iret C hQ dX10_in_82 hSH1986 (by decide) (by decide) (⟨x1987, rfl, g1989, g1990, g1991, g1992, mf1988, hTH1986⟩)
                  · have k1985 := i_eq c1984
                    exact J54 ls H1962 locsH1979 (lv_sub hl [0, 1, 2, 3, 4] rfl) hTH1962 hSH1979 (by have := i_rng x1; omega) (by have := i_rng x2; omega) (by have := i_rng x3; omega) (by have := i_rng x4; omega) m1969 mf1964 g1965 g1966 g1967 g1968 (by omega)
              · have k1981 := i_eq c1980
                exfalso
                omega
            · subst hvH1979
              refine W.eq (g2 := F0 m 37 ls [.int 0]) rfl ?_
              refine lv_if_ne (tgt := 42) hx hb dX10_in_37 (by decide) (fun c2003 => ?_) (fun c2003 => ?_)
              · have k2004 := i_ne c2003
                exfalso
                omega
              · have k2004 := i_eq c2003
                exact J40 ls H1962 locsH1979 (lv_sub hl [] rfl) hTH1962 hSH1979 m1969 mf1964 g1965 g1966 g1967 g1968
        · subst hvH1976
          refine W.eq (g2 := F0 m 26 ls [.int 0]) rfl ?_
          refine lv_if_eq (tgt := 40) hx hb dX10_in_26 (by decide) (fun c2005 => ?_) (fun c2005 => ?_)
          · have k2006 := i_eq c2005
            exact J40 ls H1962 locsH1976 (lv_sub hl [] rfl) hTH1962 hSH1976 m1969 mf1964 g1965 g1966 g1967 g1968
          · have k2006 := i_ne c2005
            exfalso
            omega
    · subst hvH1973
      refine W.eq (g2 := F0 m 18 ls [.int 0]) rfl ?_
      refine lv_if_eq (tgt := 40) hx hb dX10_in_18 (by decide) (fun c2007 => ?_) (fun c2007 => ?_)
      · have k2008 := i_eq c2007
        exact J40 ls H1962 locsH1973 (lv_sub hl [] rfl) hTH1962 hSH1973 m1969 mf1964 g1965 g1966 g1967 g1968
      · have k2008 := i_ne c2007
        exfalso
        omega

set_option maxHeartbeats 4000000 in
set_option maxRecDepth 100000 in
theorem a_X10_nights (l : Launch) (K : KE) (G : Nat → Option Nat) (H : Heap) {a0 : Nat} (x1 : Int32) (x2 : Int32) (hT : TY K G H) (ga0 : G a0 = some 112) (hg_CG : CG (avw K H a0)) (hg_TU : TU (avw K H a0) (svw K H a0)) (hg_WD : WD (avw K H a0)) (hg_IM : IM (avw K H a0)) : MX l K yX10_nights cX10_nights 5 (some .int) 11 266 0 0 [.ref a0, .int x1, .int x2] H (AE G [112, 140, 139] H.size) (fun v H1 => ∃ (r : Int32), v = some (.int r) ∧ (CG (avw K H1 a0)) ∧ (TU (avw K H1 a0) (svw K H1 a0)) ∧ (WD (avw K H1 a0)) ∧ (IM (avw K H1 a0)) ∧ MF K H H1 a0 [0] ∧ TY K G H1) := by
  refine MX.of (by decide +kernel) (Nat.le_of_ble_eq_true rfl) ?_
  intro p e s m below meth c ls Q C hH hl hQ
  subst hH
  have C : CX p K s m _ meth c RX10 cX10_nights 5 (some .int) "nights" := C
  obtain ⟨hx, hb, hml, hown, hts, hKT, hr, hlocks, hnm⟩ := id C
  have hl : lv_has ls 5 [(0, .ref a0), (1, .int x1), (2, .int x2)] := hl
  have hS : va_S (AE G [112, 140, 139] s.heap.size) s.heap s.heap [] := va_S.rf
  have n_m2 : ((-2) : Int32).toInt = -2 := rfl
  have n_m1 : ((-1) : Int32).toInt = -1 := rfl
  have n_0 : (0 : Int32).toInt = 0 := rfl
  have n_1 : (1 : Int32).toInt = 1 := rfl
  have n_2 : (2 : Int32).toInt = 2 := rfl
  have n_3 : (3 : Int32).toInt = 3 := rfl
  have hap : ∀ x y, x < 74 → y < 74 → x ≠ y → K.1.2 10 x ≠ K.1.2 10 y := x_apart hKT hts inX10 tyX10 tyX10_ok nmX10 rfl
  have mf0 : MF K s.heap s.heap a0 [0] := fun _ _ _ => rfl
  have J68 : ∀ (ls678 : Array Slot) (H677 : Heap) (locsH677 : List Loc) , lv_has ls678 5 [(0, .ref a0), (1, .int x1), (2, .int x2)] → TY K G H677 → va_S (AE G [112, 140, 139] s.heap.size) s.heap H677 locsH677 → (0 ≤ x1.toInt ∧ x1.toInt ≤ 19) → (0 ≤ x2.toInt ∧ x2.toInt ≤ 1) → (MF K s.heap H677 a0 [0]) → (CG (avw K H677 a0)) → (TU (avw K H677 a0) (svw K H677 a0)) → (WD (avw K H677 a0)) → (IM (avw K H677 a0)) → W p l e ({ frames := 11, cells := 0, slots := 0, locals := 266 } : Room) s m (([.ref a0, .int x1, .int x2] : List Value).toArray) below meth c H677 locsH677 0 0 Q (F0 m 68 ls678 []) := by
    intro ls678 H677 locsH677  hl679 hTH677 hSH677 b680 b681 mfy682 gy682_CG gy682_TU gy682_WD gy682_IM
    refine lv_aload_n hx hb dX10_nights_68 rfl (lv_at hl679 0 rfl) ?_
    refine lv_iload_n hx hb dX10_nights_69 rfl (lv_at hl679 1 rfl) ?_
    refine lv_iload_n hx hb dX10_nights_70 rfl (lv_at hl679 2 rfl) ?_
    obtain ⟨x683, ex683⟩ : ∃ z : Int32, z = fI H677 a0 (K.1.2 10 1) := ⟨_, rfl⟩
    have bx683 := ty_fi (x := x683) (k := 1) ex683 hTH677 ga0 rg_112 rfl
    refine x_V (As := [.int x1, .int x2]) (rest := []) C (a_X10_worstOf l K G H677 (x1) (x2) (x683) hTH677 ga0 (by omega) (by omega) ex683 gy682_CG gy682_TU) yo_X10_worstOf wM_X10_441 ⟨⟨by decide, by decide⟩, by decide, by decide⟩ (x_rv C hTH677 (ci := 10) rfl ga0 rg_112) rfl hl679.1 rfl (Nat.le_of_ble_eq_true rfl) dX10_nights_71 hSH677 (AE_sub (fun _ _ => rfl) (by decide) hSH677.1) (fun vH684 H684 locsH684 pH684 zH684 kH684 hSH684 => ?_)
    obtain ⟨x685, hvH684, bx685, hrH684, hTH684⟩ := pH684
    subst hvH684
    have mf686 : MF K s.heap H684 a0 [0] := MF.eff (x_lt hTH677 kH684 ga0 (by decide)) mfy682
    have g687 : CG (avw K H684 a0) := CG.congr (fun k hk j => av_eff hTH677 kH684 ga0 (by decide) (CG_eff [140, 139] (by decide) k hk)) gy682_CG
    have g688 : TU (avw K H684 a0) (svw K H684 a0) := TU.congr (fun k hk j => av_eff hTH677 kH684 ga0 (by decide) (TU_eff [140, 139] (by decide) k hk)) (fun k hk => sv_eff hTH677 kH684 ga0 (by decide)) gy682_TU
    have g689 : WD (avw K H684 a0) := WD.congr (fun k hk j => av_eff hTH677 kH684 ga0 (by decide) (WD_eff [140, 139] (by decide) k hk)) gy682_WD
    have g690 : IM (avw K H684 a0) := IM.congr (fun k hk j => av_eff hTH677 kH684 ga0 (by decide) (IM_eff [140, 139] (by decide) k hk)) gy682_IM
    have m691 := (ex683).trans (fI_kept (x_lt hTH677 kH684 ga0 (by decide))).symm
    refine W.eq (g2 := F0 m 74 ls678 [.int x685]) rfl ?_
    exact x_iret C hQ dX10_nights_74 hSH684 (by decide) (by decide) (⟨x685, rfl, g687, g688, g689, g690, mf686, hTH684⟩)
  have J103 : ∀ (ls693 : Array Slot) (H692 : Heap) (locsH692 : List Loc) (x695 : Int32), lv_has ls693 5 [] → TY K G H692 → va_S (AE G [112, 140, 139] s.heap.size) s.heap H692 locsH692 → (MF K s.heap H692 a0 [0]) → (CG (avw K H692 a0)) → (TU (avw K H692 a0) (svw K H692 a0)) → (WD (avw K H692 a0)) → (IM (avw K H692 a0)) → W p l e ({ frames := 11, cells := 0, slots := 0, locals := 266 } : Room) s m (([.ref a0, .int x1, .int x2] : List Value).toArray) below meth c H692 locsH692 0 0 Q (F0 m 103 ls693 [.int x695]) := by
    intro ls693 H692 locsH692 x695 hl694 hTH692 hSH692 mfy696 gy696_CG gy696_TU gy696_WD gy696_IM
    exact x_iret C hQ dX10_nights_103 hSH692 (by decide) (by decide) (⟨x695, rfl, gy696_CG, gy696_TU, gy696_WD, gy696_IM, mfy696, hTH692⟩)
  have J15 : ∀ (nf : Nat) (ls698 : Array Slot) (H697 : Heap) (locsH697 : List Loc) (x700 : Int32) (x701 : Int32), lv_has ls698 5 [(0, .ref a0), (3, .int x700), (4, .int x701)] → TY K G H697 → va_S (AE G [112, 140, 139] s.heap.size) s.heap H697 locsH697 → (0 ≤ x701.toInt ∧ x701.toInt ≤ 20) → (MF K s.heap H697 a0 [0]) → (CG (avw K H697 a0)) → (TU (avw K H697 a0) (svw K H697 a0)) → (WD (avw K H697 a0)) → (IM (avw K H697 a0)) → (20 - x701.toInt < (nf : Int)) → W p l e ({ frames := 11, cells := 0, slots := 0, locals := 266 } : Room) s m (([.ref a0, .int x1, .int x2] : List Value).toArray) below meth c H697 locsH697 0 0 Q (F0 m 15 ls698 []) := by
    intro nf
    induction nf with
    | zero =>
      intro ls698 H697 locsH697 x700 x701 hl699 hTH697 hSH697 bx701 mfy702 gy702_CG gy702_TU gy702_WD gy702_IM hm15
      have rx700 := i_rng x700
      exfalso
      omega
    | succ nf ih15 =>
      intro ls698 H697 locsH697 x700 x701 hl699 hTH697 hSH697 bx701 mfy702 gy702_CG gy702_TU gy702_WD gy702_IM hm15
      have rx700 := i_rng x700
      refine lv_iload hx hb dX10_nights_15 (lv_at hl699 2 rfl) ?_
      refine lv_aload_n hx hb dX10_nights_17 rfl (lv_at hl699 0 rfl) ?_
      refine x_gi C hTH697 (ci := 10) (k := 59) rfl inX10 (by decide) wF_X10_438 ga0 rg_112 rfl dX10_nights_18 (fun x703 ex703 bx703 => ?_)
      refine lv_icmp_ge (tgt := 39) hx hb dX10_nights_21 (by decide) (fun c704 => ?_) (fun c704 => ?_)
      · have k705 := i_le c704
        refine lv_iload_n hx hb dX10_nights_39 rfl (lv_at hl699 1 rfl) ?_
        exact x_iret C hQ dX10_nights_40 hSH697 (by decide) (by decide) (⟨x700, rfl, gy702_CG, gy702_TU, gy702_WD, gy702_IM, mfy702, hTH697⟩)
      · have k705 := i_nle c704
        refine lv_iload_n hx hb dX10_nights_24 rfl (lv_at hl699 1 rfl) ?_
        refine lv_aload_n hx hb dX10_nights_25 rfl (lv_at hl699 0 rfl) ?_
        refine lv_iload hx hb dX10_nights_26 (lv_at hl699 2 rfl) ?_
        refine x_V (As := [.int x701]) (rest := [.int x700]) C (a_X10_suits l K G H697 (x701) hTH697 ga0 (by omega) gy702_CG gy702_TU) yo_X10_suits wM_X10_449 ⟨⟨by decide, by decide⟩, by decide, by decide⟩ (x_rv C hTH697 (ci := 10) rfl ga0 rg_112) rfl hl699.1 rfl (Nat.le_of_ble_eq_true rfl) dX10_nights_28 hSH697 (AE_sub (fun _ _ => rfl) (by decide) hSH697.1) (fun vH706 H706 locsH706 pH706 zH706 kH706 hSH706 => ?_)
        obtain ⟨x707, hvH706, hTH706⟩ := pH706
        subst hvH706
        have mf708 : MF K s.heap H706 a0 [0] := MF.eff (x_lt hTH697 kH706 ga0 (by decide)) mfy702
        have g709 : CG (avw K H706 a0) := CG.congr (fun k hk j => av_eff hTH697 kH706 ga0 (by decide) (CG_eff [140, 139] (by decide) k hk)) gy702_CG
        have g710 : TU (avw K H706 a0) (svw K H706 a0) := TU.congr (fun k hk j => av_eff hTH697 kH706 ga0 (by decide) (TU_eff [140, 139] (by decide) k hk)) (fun k hk => sv_eff hTH697 kH706 ga0 (by decide)) gy702_TU
        have g711 : WD (avw K H706 a0) := WD.congr (fun k hk j => av_eff hTH697 kH706 ga0 (by decide) (WD_eff [140, 139] (by decide) k hk)) gy702_WD
        have g712 : IM (avw K H706 a0) := IM.congr (fun k hk j => av_eff hTH697 kH706 ga0 (by decide) (IM_eff [140, 139] (by decide) k hk)) gy702_IM
        have m713 := (ex703).trans (fI_kept (x_lt hTH697 kH706 ga0 (by decide))).symm
        refine W.eq (g2 := F0 m 31 ls698 [.int x707, .int x700]) rfl ?_
        refine lv_iadd hx hb dX10_nights_31 ?_
        refine lv_topi (fun x714 ex714 => ?_)
        refine lv_istore_n (lv' := [(3, .int x714), (0, .ref a0), (4, .int x701)]) hx hb dX10_nights_32 rfl hl699 (by decide) rfl (fun ls715 hl716 => ?_)
        obtain ⟨x717, ex717⟩ : ∃ y : Int32, y = x701 + 1 := ⟨_, rfl⟩
        have tx717 := i_add ex717 (by omega)
        refine lv_iinc (v := x717) (lv' := [(4, .int x717), (3, .int x714), (0, .ref a0)]) hx hb dX10_nights_33 hl716 (k := 2) rfl (by rw [ex717]; rfl) (by decide) rfl (fun ls718 hl719 => ?_)
        refine lv_goto (tgt := 15) hx hb dX10_nights_36 (by decide) ?_
        exact ih15 ls718 H706 locsH706 (x714) (x717) (lv_sub hl719 [2, 1, 0] rfl) hTH706 hSH706 (by have := i_rng x717; omega) mf708 g709 g710 g711 g712 (by omega)
  refine lv_aload_n hx hb dX10_nights_0 rfl (lv_at hl 0 rfl) ?_
  refine lv_iconst (v := 0) hx hb dX10_nights_1 (by decide) ?_
  refine x_put C hT hS (ci := 10) (k := 0) (v := .int 0) (ty0 := tyX10) rfl inX10 tyX10_ok nmX10 (by decide) rfl wF_X10_167 ga0 rg_112 rfl rfl (okI (by have := i_rng (0 : Int32); omega) (by have := i_rng (0 : Int32); omega)) rfl rfl (AE_in ga0 (by decide)) dX10_nights_2 (fun H720 locsH720 hTH720 hSH720 wH720 => ?_)
  have mf721 : MF K s.heap H720 a0 [0] := MF.fld hap wH720 (by decide) (by decide) mf0
  have g722 : CG (avw K H720 a0) := CG.congr (fun k hk j => av_fld hT ga0 hap wH720 (by decide) (CG_ok 112 (by decide) k hk) (CG_ne 0 (by decide) k hk)) hg_CG
  have g723 : TU (avw K H720 a0) (svw K H720 a0) := TU.congr (fun k hk j => av_fld hT ga0 hap wH720 (by decide) (TU_ok 112 (by decide) k hk) (TU_ne 0 (by decide) k hk)) (fun k hk => sv_fld hap wH720 (by decide) (TU_slt k hk) (TU_sne 0 (by decide) k hk)) hg_TU
  have g724 : WD (avw K H720 a0) := WD.congr (fun k hk j => av_fld hT ga0 hap wH720 (by decide) (WD_ok 112 (by decide) k hk) (WD_ne 0 (by decide) k hk)) hg_WD
  have g725 : IM (avw K H720 a0) := IM.congr (fun k hk j => av_fld hT ga0 hap wH720 (by decide) (IM_ok 112 (by decide) k hk) (IM_ne 0 (by decide) k hk)) hg_IM
  have m726 := Wr.I wH720
  refine lv_iload_n hx hb dX10_nights_5 rfl (lv_at hl 1 rfl) ?_
  refine lv_iconst (v := (-1)) hx hb dX10_nights_6 (by decide) ?_
  refine lv_icmp_ne (tgt := 41) hx hb dX10_nights_7 (by decide) (fun c727 => ?_) (fun c727 => ?_)
  · have k728 := i_ne c727
    refine lv_aload_n hx hb dX10_nights_41 rfl (lv_at hl 0 rfl) ?_
    refine lv_iload_n hx hb dX10_nights_42 rfl (lv_at hl 1 rfl) ?_
    refine lv_iconst (v := 0) hx hb dX10_nights_43 (by decide) ?_
    refine lv_aload_n hx hb dX10_nights_44 rfl (lv_at hl 0 rfl) ?_
    refine x_gi C hTH720 (ci := 10) (k := 59) rfl inX10 (by decide) wF_X10_438 ga0 rg_112 rfl dX10_nights_45 (fun x729 ex729 bx729 => ?_)
    refine lv_iconst (v := 1) hx hb dX10_nights_48 (by decide) ?_
    refine lv_isub hx hb dX10_nights_49 ?_
    refine lv_topi (fun x730 ex730 => ?_)
    have tx730 := i_sub ex730 (by omega)
    refine x_V (As := [.int x1, .int 0, .int x730]) (rest := []) C (c_X10_isIn l K G H720 (x1) (0) (x730) hTH720 ga0) yo_X10_isIn wM_X10_177 ⟨⟨by decide, by decide⟩, by decide, by decide⟩ (x_rv C hTH720 (ci := 10) rfl ga0 rg_112) rfl hl.1 rfl (Nat.le_of_ble_eq_true rfl) dX10_nights_50 hSH720 (AE_sub (fun _ _ => rfl) (by decide) hSH720.1) (fun vH731 H731 locsH731 pH731 zH731 kH731 hSH731 => ?_)
    have hqH731 := pH731.1.symm
    subst hqH731
    rcases pH731.2 with ⟨hvH731, hcH731⟩ | ⟨hvH731, hcH731⟩
    · subst hvH731
      refine W.eq (g2 := F0 m 53 ls [.int 1]) rfl ?_
      refine lv_if_ne (tgt := 59) hx hb dX10_nights_53 (by decide) (fun c732 => ?_) (fun c732 => ?_)
      · have k733 := i_ne c732
        refine lv_iload_n hx hb dX10_nights_59 rfl (lv_at hl 2 rfl) ?_
        refine lv_if_eq (tgt := 68) hx hb dX10_nights_60 (by decide) (fun c734 => ?_) (fun c734 => ?_)
        · have k735 := i_eq c734
          exact J68 ls H720 locsH731 (lv_sub hl [0, 1, 2] rfl) hTH720 hSH731 (by have := i_rng x1; omega) (by have := i_rng x2; omega) mf721 g722 g723 g724 g725
        · have k735 := i_ne c734
          refine lv_iload_n hx hb dX10_nights_63 rfl (lv_at hl 2 rfl) ?_
          refine lv_iconst (v := 1) hx hb dX10_nights_64 (by decide) ?_
          refine lv_icmp_ne (tgt := 75) hx hb dX10_nights_65 (by decide) (fun c736 => ?_) (fun c736 => ?_)
          · have k737 := i_ne c736
            refine lv_iload_n hx hb dX10_nights_75 rfl (lv_at hl 2 rfl) ?_
            refine lv_iconst (v := 2) hx hb dX10_nights_76 (by decide) ?_
            refine lv_icmp_ne (tgt := 88) hx hb dX10_nights_77 (by decide) (fun c738 => ?_) (fun c738 => ?_)
            · have k739 := i_ne c738
              refine lv_iload_n hx hb dX10_nights_88 rfl (lv_at hl 2 rfl) ?_
              refine lv_iconst (v := 3) hx hb dX10_nights_89 (by decide) ?_
              refine lv_icmp_ne (tgt := 101) hx hb dX10_nights_90 (by decide) (fun c740 => ?_) (fun c740 => ?_)
              · have k741 := i_ne c740
                refine lv_bipush (v := (-2)) hx hb dX10_nights_101 (by decide) ?_
                exact J103 ls H720 locsH731 ((-2)) (lv_sub hl [] rfl) hTH720 hSH731 mf721 g722 g723 g724 g725
              · have k741 := i_eq c740
                refine lv_aload_n hx hb dX10_nights_93 rfl (lv_at hl 0 rfl) ?_
                refine lv_iload_n hx hb dX10_nights_94 rfl (lv_at hl 1 rfl) ?_
                refine x_V (As := [.int x1]) (rest := []) C (a_X10_together l K G H720 (x1) hTH720 ga0 (by omega) g722) yo_X10_together wM_X10_452 ⟨⟨by decide, by decide⟩, by decide, by decide⟩ (x_rv C hTH720 (ci := 10) rfl ga0 rg_112) rfl hl.1 rfl (Nat.le_of_ble_eq_true rfl) dX10_nights_95 hSH731 (AE_sub (fun _ _ => rfl) (by decide) hSH731.1) (fun vH742 H742 locsH742 pH742 zH742 kH742 hSH742 => ?_)
                obtain ⟨x743, hvH742, hTH742⟩ := pH742
                subst hvH742
                have mf744 : MF K s.heap H742 a0 [0] := MF.eff (x_lt hTH720 kH742 ga0 (by decide)) mf721
                have g745 : CG (avw K H742 a0) := CG.congr (fun k hk j => av_eff hTH720 kH742 ga0 (by decide) (CG_eff [140, 139] (by decide) k hk)) g722
                have g746 : TU (avw K H742 a0) (svw K H742 a0) := TU.congr (fun k hk j => av_eff hTH720 kH742 ga0 (by decide) (TU_eff [140, 139] (by decide) k hk)) (fun k hk => sv_eff hTH720 kH742 ga0 (by decide)) g723
                have g747 : WD (avw K H742 a0) := WD.congr (fun k hk j => av_eff hTH720 kH742 ga0 (by decide) (WD_eff [140, 139] (by decide) k hk)) g724
                have g748 : IM (avw K H742 a0) := IM.congr (fun k hk j => av_eff hTH720 kH742 ga0 (by decide) (IM_eff [140, 139] (by decide) k hk)) g725
                have m749 := (fI_kept (x_lt hTH720 kH742 ga0 (by decide))).trans m726
                have m750 := (ex729).trans (fI_kept (x_lt hTH720 kH742 ga0 (by decide))).symm
                refine W.eq (g2 := F0 m 98 ls [.int x743]) rfl ?_
                refine lv_goto (tgt := 103) hx hb dX10_nights_98 (by decide) ?_
                exact J103 ls H742 locsH742 (x743) (lv_sub hl [] rfl) hTH742 hSH742 mf744 g745 g746 g747 g748
            · have k739 := i_eq c738
              refine lv_aload_n hx hb dX10_nights_80 rfl (lv_at hl 0 rfl) ?_
              refine lv_iload_n hx hb dX10_nights_81 rfl (lv_at hl 1 rfl) ?_
              refine x_V (As := [.int x1]) (rest := []) C (a_X10_suits l K G H720 (x1) hTH720 ga0 (by omega) g722 g723) yo_X10_suits wM_X10_449 ⟨⟨by decide, by decide⟩, by decide, by decide⟩ (x_rv C hTH720 (ci := 10) rfl ga0 rg_112) rfl hl.1 rfl (Nat.le_of_ble_eq_true rfl) dX10_nights_82 hSH731 (AE_sub (fun _ _ => rfl) (by decide) hSH731.1) (fun vH751 H751 locsH751 pH751 zH751 kH751 hSH751 => ?_)
              obtain ⟨x752, hvH751, hTH751⟩ := pH751
              subst hvH751
              have mf753 : MF K s.heap H751 a0 [0] := MF.eff (x_lt hTH720 kH751 ga0 (by decide)) mf721
              have g754 : CG (avw K H751 a0) := CG.congr (fun k hk j => av_eff hTH720 kH751 ga0 (by decide) (CG_eff [140, 139] (by decide) k hk)) g722
              have g755 : TU (avw K H751 a0) (svw K H751 a0) := TU.congr (fun k hk j => av_eff hTH720 kH751 ga0 (by decide) (TU_eff [140, 139] (by decide) k hk)) (fun k hk => sv_eff hTH720 kH751 ga0 (by decide)) g723
              have g756 : WD (avw K H751 a0) := WD.congr (fun k hk j => av_eff hTH720 kH751 ga0 (by decide) (WD_eff [140, 139] (by decide) k hk)) g724
              have g757 : IM (avw K H751 a0) := IM.congr (fun k hk j => av_eff hTH720 kH751 ga0 (by decide) (IM_eff [140, 139] (by decide) k hk)) g725
              have m758 := (fI_kept (x_lt hTH720 kH751 ga0 (by decide))).trans m726
              have m759 := (ex729).trans (fI_kept (x_lt hTH720 kH751 ga0 (by decide))).symm
              refine W.eq (g2 := F0 m 85 ls [.int x752]) rfl ?_
              refine lv_goto (tgt := 103) hx hb dX10_nights_85 (by decide) ?_
              exact J103 ls H751 locsH751 (x752) (lv_sub hl [] rfl) hTH751 hSH751 mf753 g754 g755 g756 g757
          · have k737 := i_eq c736
            exact J68 ls H720 locsH731 (lv_sub hl [0, 1, 2] rfl) hTH720 hSH731 (by have := i_rng x1; omega) (by have := i_rng x2; omega) mf721 g722 g723 g724 g725
      · have k733 := i_eq c732
        exfalso
        omega
    · subst hvH731
      refine W.eq (g2 := F0 m 53 ls [.int 0]) rfl ?_
      refine lv_if_ne (tgt := 59) hx hb dX10_nights_53 (by decide) (fun c760 => ?_) (fun c760 => ?_)
      · have k761 := i_ne c760
        exfalso
        omega
      · have k761 := i_eq c760
        refine lv_bipush (v := (-2)) hx hb dX10_nights_56 (by decide) ?_
        exact x_iret C hQ dX10_nights_58 hSH731 (by decide) (by decide) (⟨(-2), rfl, g722, g723, g724, g725, mf721, hTH720⟩)
  · have k728 := i_eq c727
    refine lv_iconst (v := 0) hx hb dX10_nights_10 (by decide) ?_
    refine lv_istore_n (lv' := [(3, .int 0), (0, .ref a0), (1, .int x1), (2, .int x2)]) hx hb dX10_nights_11 rfl hl (by decide) rfl (fun ls762 hl763 => ?_)
    refine lv_iconst (v := 0) hx hb dX10_nights_12 (by decide) ?_
    refine lv_istore (lv' := [(4, .int 0), (3, .int 0), (0, .ref a0), (1, .int x1), (2, .int x2)]) hx hb dX10_nights_13 hl763 (by decide) rfl (fun ls764 hl765 => ?_)
    exact J15 ((20 - (0 : Int32).toInt).toNat + 1) ls764 H720 locsH720 (0) (0) (lv_sub hl765 [2, 1, 0] rfl) hTH720 hSH720 (by decide) mf721 g722 g723 g724 g725 (by omega)

set_option maxHeartbeats 4000000 in
set_option maxRecDepth 100000 in
theorem a_X10_set (l : Launch) (K : KE) (G : Nat → Option Nat) (H : Heap) {a0 : Nat} (x1 : Int32) (x2 : Int32) (hT : TY K G H) (ga0 : G a0 = some 112) (hg_CG : CG (avw K H a0)) (hg_TU : TU (avw K H a0) (svw K H a0)) (hg_WD : WD (avw K H a0)) (hg_IM : IM (avw K H a0)) : MX l K yX10_set cX10_set 4 (some .int) 3 70 0 0 [.ref a0, .int x1, .int x2] H (AE G [112, 160, 161] H.size) (fun v H1 => ∃ (r : Int32), v = some (.int r) ∧ (CG (avw K H1 a0)) ∧ (TU (avw K H1 a0) (svw K H1 a0)) ∧ (WD (avw K H1 a0)) ∧ (IM (avw K H1 a0)) ∧ MF K H H1 a0 [0] ∧ TY K G H1) := by
  refine MX.of (by decide +kernel) (Nat.le_of_ble_eq_true rfl) ?_
  intro p e s m below meth c ls Q C hH hl hQ
  subst hH
  have C : CX p K s m _ meth c RX10 cX10_set 4 (some .int) "set" := C
  obtain ⟨hx, hb, hml, hown, hts, hKT, hr, hlocks, hnm⟩ := id C
  have hl : lv_has ls 4 [(0, .ref a0), (1, .int x1), (2, .int x2)] := hl
  have hS : va_S (AE G [112, 160, 161] s.heap.size) s.heap s.heap [] := va_S.rf
  have n_m1 : ((-1) : Int32).toInt = -1 := rfl
  have n_0 : (0 : Int32).toInt = 0 := rfl
  have n_1 : (1 : Int32).toInt = 1 := rfl
  have n_99 : (99 : Int32).toInt = 99 := rfl
  have hap : ∀ x y, x < 74 → y < 74 → x ≠ y → K.1.2 10 x ≠ K.1.2 10 y := x_apart hKT hts inX10 tyX10 tyX10_ok nmX10 rfl
  have mf0 : MF K s.heap s.heap a0 [0] := fun _ _ _ => rfl
  have J29 : ∀ (ls270 : Array Slot) (H269 : Heap) (locsH269 : List Loc) , lv_has ls270 4 [] → TY K G H269 → va_S (AE G [112, 160, 161] s.heap.size) s.heap H269 locsH269 → (MF K s.heap H269 a0 [0]) → (CG (avw K H269 a0)) → (TU (avw K H269 a0) (svw K H269 a0)) → (WD (avw K H269 a0)) → (IM (avw K H269 a0)) → W p l e ({ frames := 3, cells := 0, slots := 0, locals := 70 } : Room) s m (([.ref a0, .int x1, .int x2] : List Value).toArray) below meth c H269 locsH269 0 0 Q (F0 m 29 ls270 []) := by
    intro ls270 H269 locsH269  hl271 hTH269 hSH269 mfy272 gy272_CG gy272_TU gy272_WD gy272_IM
    refine lv_iconst (v := (-1)) hx hb dX10_set_29 (by decide) ?_
    exact x_iret C hQ dX10_set_30 hSH269 (by decide) (by decide) (⟨(-1), rfl, gy272_CG, gy272_TU, gy272_WD, gy272_IM, mfy272, hTH269⟩)
  have J58 : ∀ (ls274 : Array Slot) (H273 : Heap) (locsH273 : List Loc) (x276 : Int32), lv_has ls274 4 [] → TY K G H273 → va_S (AE G [112, 160, 161] s.heap.size) s.heap H273 locsH273 → (MF K s.heap H273 a0 [0]) → (CG (avw K H273 a0)) → (TU (avw K H273 a0) (svw K H273 a0)) → (WD (avw K H273 a0)) → (IM (avw K H273 a0)) → W p l e ({ frames := 3, cells := 0, slots := 0, locals := 70 } : Room) s m (([.ref a0, .int x1, .int x2] : List Value).toArray) below meth c H273 locsH273 0 0 Q (F0 m 58 ls274 [.int x276]) := by
    intro ls274 H273 locsH273 x276 hl275 hTH273 hSH273 mfy277 gy277_CG gy277_TU gy277_WD gy277_IM
    exact x_iret C hQ dX10_set_58 hSH273 (by decide) (by decide) (⟨x276, rfl, gy277_CG, gy277_TU, gy277_WD, gy277_IM, mfy277, hTH273⟩)
  have J46 : ∀ (ls279 : Array Slot) (H278 : Heap) (locsH278 : List Loc) (x281 : Int32), lv_has ls279 4 [(3, .int x281)] → TY K G H278 → va_S (AE G [112, 160, 161] s.heap.size) s.heap H278 locsH278 → (MF K s.heap H278 a0 [0]) → (CG (avw K H278 a0)) → (TU (avw K H278 a0) (svw K H278 a0)) → (WD (avw K H278 a0)) → (IM (avw K H278 a0)) → W p l e ({ frames := 3, cells := 0, slots := 0, locals := 70 } : Room) s m (([.ref a0, .int x1, .int x2] : List Value).toArray) below meth c H278 locsH278 0 0 Q (F0 m 46 ls279 []) := by
    intro ls279 H278 locsH278 x281 hl280 hTH278 hSH278 mfy282 gy282_CG gy282_TU gy282_WD gy282_IM
    refine lv_iload_n hx hb dX10_set_46 rfl (lv_at hl280 0 rfl) ?_
    refine lv_goto (tgt := 58) hx hb dX10_set_47 (by decide) ?_
    exact J58 ls279 H278 locsH278 (x281) (lv_sub hl280 [] rfl) hTH278 hSH278 mfy282 gy282_CG gy282_TU gy282_WD gy282_IM
  refine lv_aload_n hx hb dX10_set_0 rfl (lv_at hl 0 rfl) ?_
  refine lv_iconst (v := 0) hx hb dX10_set_1 (by decide) ?_
  refine x_put C hT hS (ci := 10) (k := 0) (v := .int 0) (ty0 := tyX10) rfl inX10 tyX10_ok nmX10 (by decide) rfl wF_X10_167 ga0 rg_112 rfl rfl (okI (by have := i_rng (0 : Int32); omega) (by have := i_rng (0 : Int32); omega)) rfl rfl (AE_in ga0 (by decide)) dX10_set_2 (fun H283 locsH283 hTH283 hSH283 wH283 => ?_)
  have mf284 : MF K s.heap H283 a0 [0] := MF.fld hap wH283 (by decide) (by decide) mf0
  have g285 : CG (avw K H283 a0) := CG.congr (fun k hk j => av_fld hT ga0 hap wH283 (by decide) (CG_ok 112 (by decide) k hk) (CG_ne 0 (by decide) k hk)) hg_CG
  have g286 : TU (avw K H283 a0) (svw K H283 a0) := TU.congr (fun k hk j => av_fld hT ga0 hap wH283 (by decide) (TU_ok 112 (by decide) k hk) (TU_ne 0 (by decide) k hk)) (fun k hk => sv_fld hap wH283 (by decide) (TU_slt k hk) (TU_sne 0 (by decide) k hk)) hg_TU
  have g287 : WD (avw K H283 a0) := WD.congr (fun k hk j => av_fld hT ga0 hap wH283 (by decide) (WD_ok 112 (by decide) k hk) (WD_ne 0 (by decide) k hk)) hg_WD
  have g288 : IM (avw K H283 a0) := IM.congr (fun k hk j => av_fld hT ga0 hap wH283 (by decide) (IM_ok 112 (by decide) k hk) (IM_ne 0 (by decide) k hk)) hg_IM
  have m289 := Wr.I wH283
  refine lv_aload_n hx hb dX10_set_5 rfl (lv_at hl 0 rfl) ?_
  refine lv_iload_n hx hb dX10_set_6 rfl (lv_at hl 1 rfl) ?_
  refine lv_iconst (v := 0) hx hb dX10_set_7 (by decide) ?_
  refine lv_bipush (v := 99) hx hb dX10_set_8 (by decide) ?_
  refine x_V (As := [.int x1, .int 0, .int 99]) (rest := []) C (c_X10_isIn l K G H283 (x1) (0) (99) hTH283 ga0) yo_X10_isIn wM_X10_177 ⟨⟨by decide, by decide⟩, by decide, by decide⟩ (x_rv C hTH283 (ci := 10) rfl ga0 rg_112) rfl hl.1 rfl (Nat.le_of_ble_eq_true rfl) dX10_set_10 hSH283 (AE_sub (fun _ _ => rfl) (by decide) hSH283.1) (fun vH290 H290 locsH290 pH290 zH290 kH290 hSH290 => ?_)
  have hqH290 := pH290.1.symm
  subst hqH290
  rcases pH290.2 with ⟨hvH290, hcH290⟩ | ⟨hvH290, hcH290⟩
  · subst hvH290
    refine W.eq (g2 := F0 m 13 ls [.int 1]) rfl ?_
    refine lv_if_eq (tgt := 29) hx hb dX10_set_13 (by decide) (fun c291 => ?_) (fun c291 => ?_)
    · have k292 := i_eq c291
      exfalso
      omega
    · have k292 := i_ne c291
      refine lv_aload_n hx hb dX10_set_16 rfl (lv_at hl 0 rfl) ?_
      refine lv_iload_n hx hb dX10_set_17 rfl (lv_at hl 2 rfl) ?_
      refine lv_iconst (v := 0) hx hb dX10_set_18 (by decide) ?_
      refine lv_aload_n hx hb dX10_set_19 rfl (lv_at hl 0 rfl) ?_
      refine x_gi C hTH283 (ci := 10) (k := 62) rfl inX10 (by decide) wF_X10_455 ga0 rg_112 rfl dX10_set_20 (fun x293 ex293 bx293 => ?_)
      refine x_V (As := [.int x2, .int 0, .int x293]) (rest := []) C (c_X10_isIn l K G H283 (x2) (0) (x293) hTH283 ga0) yo_X10_isIn wM_X10_177 ⟨⟨by decide, by decide⟩, by decide, by decide⟩ (x_rv C hTH283 (ci := 10) rfl ga0 rg_112) rfl hl.1 rfl (Nat.le_of_ble_eq_true rfl) dX10_set_23 hSH290 (AE_sub (fun _ _ => rfl) (by decide) hSH290.1) (fun vH294 H294 locsH294 pH294 zH294 kH294 hSH294 => ?_)
      have hqH294 := pH294.1.symm
      subst hqH294
      rcases pH294.2 with ⟨hvH294, hcH294⟩ | ⟨hvH294, hcH294⟩
      · subst hvH294
        refine W.eq (g2 := F0 m 26 ls [.int 1]) rfl ?_
        refine lv_if_ne (tgt := 31) hx hb dX10_set_26 (by decide) (fun c295 => ?_) (fun c295 => ?_)
        · have k296 := i_ne c295
          refine lv_aload_n hx hb dX10_set_31 rfl (lv_at hl 0 rfl) ?_
          refine lv_iload_n hx hb dX10_set_32 rfl (lv_at hl 1 rfl) ?_
          obtain ⟨q297, eq297⟩ : ∃ z : Nat, z = fR H283 a0 (K.1.2 10 68) := ⟨_, rfl⟩
          have gq297 := ty_fr (q := q297) (k := 68) (u := 160) eq297 hTH283 ga0 rg_112 rfl
          obtain ⟨x298, ex298⟩ : ∃ z : Int32, z = fI H283 a0 (K.1.2 10 65) := ⟨_, rfl⟩
          have bx298 := ty_fi (x := x298) (k := 65) ex298 hTH283 ga0 rg_112 rfl
          refine x_V (As := [.int x1]) (rest := []) C (a_X10_leastWaste l K G H283 (x1) (x298) (x293) hTH283 ga0 gq297 eq297 ex298 ex293) yo_X10_leastWaste wM_X10_464 ⟨⟨by decide, by decide⟩, by decide, by decide⟩ (x_rv C hTH283 (ci := 10) rfl ga0 rg_112) rfl hl.1 rfl (Nat.le_of_ble_eq_true rfl) dX10_set_33 hSH294 (AE_sub (fun _ _ => rfl) (by decide) hSH294.1) (fun vH299 H299 locsH299 pH299 zH299 kH299 hSH299 => ?_)
          obtain ⟨x300, hvH299, hTH299⟩ := pH299
          subst hvH299
          have mf301 : MF K s.heap H299 a0 [0] := MF.eff (x_lt hTH283 kH299 ga0 (by decide)) mf284
          have g302 : CG (avw K H299 a0) := CG.congr (fun k hk j => av_eff hTH283 kH299 ga0 (by decide) (CG_eff [160, 161] (by decide) k hk)) g285
          have g303 : TU (avw K H299 a0) (svw K H299 a0) := TU.congr (fun k hk j => av_eff hTH283 kH299 ga0 (by decide) (TU_eff [160, 161] (by decide) k hk)) (fun k hk => sv_eff hTH283 kH299 ga0 (by decide)) g286
          have g304 : WD (avw K H299 a0) := WD.congr (fun k hk j => av_eff hTH283 kH299 ga0 (by decide) (WD_eff [160, 161] (by decide) k hk)) g287
          have g305 : IM (avw K H299 a0) := IM.congr (fun k hk j => av_eff hTH283 kH299 ga0 (by decide) (IM_eff [160, 161] (by decide) k hk)) g288
          have m306 := (fI_kept (x_lt hTH283 kH299 ga0 (by decide))).trans m289
          have m307 := (ex293).trans (fI_kept (x_lt hTH283 kH299 ga0 (by decide))).symm
          have m308 := (eq297).trans (fR_kept (x_lt hTH283 kH299 ga0 (by decide))).symm
          have m309 := (ex298).trans (fI_kept (x_lt hTH283 kH299 ga0 (by decide))).symm
          refine W.eq (g2 := F0 m 36 ls [.int x300]) rfl ?_
          refine lv_istore_n (lv' := [(3, .int x300), (0, .ref a0), (1, .int x1), (2, .int x2)]) hx hb dX10_set_36 rfl hl (by decide) rfl (fun ls310 hl311 => ?_)
          refine lv_iload_n hx hb dX10_set_37 rfl (lv_at hl311 3 rfl) ?_
          refine lv_if_eq (tgt := 46) hx hb dX10_set_38 (by decide) (fun c312 => ?_) (fun c312 => ?_)
          · have k313 := i_eq c312
            exact J46 ls310 H299 locsH299 (x300) (lv_sub hl311 [0] rfl) hTH299 hSH299 mf301 g302 g303 g304 g305
          · have k313 := i_ne c312
            refine lv_iload_n hx hb dX10_set_41 rfl (lv_at hl311 0 rfl) ?_
            refine lv_iconst (v := (-1)) hx hb dX10_set_42 (by decide) ?_
            refine lv_icmp_ne (tgt := 50) hx hb dX10_set_43 (by decide) (fun c314 => ?_) (fun c314 => ?_)
            · have k315 := i_ne c314
              refine lv_aload_n hx hb dX10_set_50 rfl (lv_at hl311 1 rfl) ?_
              refine x_gr C hTH299 (ci := 10) (k := 69) rfl inX10 (by decide) wF_X10_161 ga0 rg_112 rfl dX10_set_51 (fun q316 eq316 gq316 => ?_)
              refine lv_iload_n hx hb dX10_set_54 rfl (lv_at hl311 3 rfl) ?_
              refine lv_iconst (v := 1) hx hb dX10_set_55 (by decide) ?_
              refine lv_isub hx hb dX10_set_56 ?_
              refine lv_topi (fun x317 ex317 => ?_)
              have tx317 := i_sub ex317 (by omega)
              refine x_ai C hTH299 gq316 rg_161 ⟨by omega, by show _ < ((8 : Nat) : Int); omega⟩ dX10_set_57 (fun x318 ex318 bx318 => ?_)
              exact J58 ls310 H299 locsH299 (x318) (lv_sub hl311 [] rfl) hTH299 hSH299 mf301 g302 g303 g304 g305
            · have k315 := i_eq c314
              exact J46 ls310 H299 locsH299 (x300) (lv_sub hl311 [0] rfl) hTH299 hSH299 mf301 g302 g303 g304 g305
        · have k296 := i_eq c295
          exfalso
          omega
      · subst hvH294
        refine W.eq (g2 := F0 m 26 ls [.int 0]) rfl ?_
        refine lv_if_ne (tgt := 31) hx hb dX10_set_26 (by decide) (fun c319 => ?_) (fun c319 => ?_)
        · have k320 := i_ne c319
          exfalso
          omega
        · have k320 := i_eq c319
          exact J29 ls H283 locsH294 (lv_sub hl [] rfl) hTH283 hSH294 mf284 g285 g286 g287 g288
  · subst hvH290
    refine W.eq (g2 := F0 m 13 ls [.int 0]) rfl ?_
    refine lv_if_eq (tgt := 29) hx hb dX10_set_13 (by decide) (fun c321 => ?_) (fun c321 => ?_)
    · have k322 := i_eq c321
      exact J29 ls H283 locsH290 (lv_sub hl [] rfl) hTH283 hSH290 mf284 g285 g286 g287 g288
    · have k322 := i_ne c321
      exfalso
      omega

set_option maxHeartbeats 4000000 in
set_option maxRecDepth 100000 in
theorem a_X10_down (l : Launch) (K : KE) (G : Nat → Option Nat) (H : Heap) {a0 : Nat} (x1 : Int32) (hT : TY K G H) (ga0 : G a0 = some 112) (hg_CG : CG (avw K H a0)) (hg_TU : TU (avw K H a0) (svw K H a0)) (hg_WD : WD (avw K H a0)) (hg_IM : IM (avw K H a0)) : MX l K yX10_down cX10_down 5 (some .int) 6 145 0 0 [.ref a0, .int x1] H (AE G [112, 140, 139] H.size) (fun v H1 => ∃ (r : Int32), v = some (.int r) ∧ (CG (avw K H1 a0)) ∧ (TU (avw K H1 a0) (svw K H1 a0)) ∧ (WD (avw K H1 a0)) ∧ (IM (avw K H1 a0)) ∧ MF K H H1 a0 [0] ∧ TY K G H1) := by
  refine MX.of (by decide +kernel) (Nat.le_of_ble_eq_true rfl) ?_
  intro p e s m below meth c ls Q C hH hl hQ
  subst hH
  have C : CX p K s m _ meth c RX10 cX10_down 5 (some .int) "down" := C
  obtain ⟨hx, hb, hml, hown, hts, hKT, hr, hlocks, hnm⟩ := id C
  have hl : lv_has ls 5 [(0, .ref a0), (1, .int x1)] := hl
  have hS : va_S (AE G [112, 140, 139] s.heap.size) s.heap s.heap [] := va_S.rf
  have n_m1 : ((-1) : Int32).toInt = -1 := rfl
  have n_0 : (0 : Int32).toInt = 0 := rfl
  have n_1 : (1 : Int32).toInt = 1 := rfl
  have hap : ∀ x y, x < 74 → y < 74 → x ≠ y → K.1.2 10 x ≠ K.1.2 10 y := x_apart hKT hts inX10 tyX10 tyX10_ok nmX10 rfl
  have mf0 : MF K s.heap s.heap a0 [0] := fun _ _ _ => rfl
  have J27 : ∀ (nf : Nat) (ls552 : Array Slot) (H551 : Heap) (locsH551 : List Loc) (x554 : Int32) (x555 : Int32) (x556 : Int32), lv_has ls552 5 [(0, .ref a0), (2, .int x554), (3, .int x555), (4, .int x556)] → TY K G H551 → va_S (AE G [112, 140, 139] s.heap.size) s.heap H551 locsH551 → ((-1) ≤ x555.toInt ∧ x555.toInt ≤ 7) → (0 ≤ x556.toInt ∧ x556.toInt ≤ 8) → (MF K s.heap H551 a0 [0]) → (CG (avw K H551 a0)) → (TU (avw K H551 a0) (svw K H551 a0)) → (WD (avw K H551 a0)) → (IM (avw K H551 a0)) → (8 - x556.toInt < (nf : Int)) → W p l e ({ frames := 6, cells := 0, slots := 0, locals := 145 } : Room) s m (([.ref a0, .int x1] : List Value).toArray) below meth c H551 locsH551 0 0 Q (F0 m 27 ls552 []) := by
    intro nf
    induction nf with
    | zero =>
      intro ls552 H551 locsH551 x554 x555 x556 hl553 hTH551 hSH551 bx555 bx556 mfy557 gy557_CG gy557_TU gy557_WD gy557_IM hm27
      have rx554 := i_rng x554
      exfalso
      omega
    | succ nf ih27 =>
      intro ls552 H551 locsH551 x554 x555 x556 hl553 hTH551 hSH551 bx555 bx556 mfy557 gy557_CG gy557_TU gy557_WD gy557_IM hm27
      have rx554 := i_rng x554
      have J76 : ∀ (ls559 : Array Slot) (H558 : Heap) (locsH558 : List Loc) (x561 : Int32), lv_has ls559 5 [(0, .ref a0), (2, .int x554), (3, .int x561), (4, .int x556)] → TY K G H558 → va_S (AE G [112, 140, 139] s.heap.size) s.heap H558 locsH558 → ((-1) ≤ x561.toInt ∧ x561.toInt ≤ 7) → (0 ≤ x556.toInt ∧ x556.toInt ≤ 7) → (MF K s.heap H558 a0 [0]) → (CG (avw K H558 a0)) → (TU (avw K H558 a0) (svw K H558 a0)) → (WD (avw K H558 a0)) → (IM (avw K H558 a0)) → W p l e ({ frames := 6, cells := 0, slots := 0, locals := 145 } : Room) s m (([.ref a0, .int x1] : List Value).toArray) below meth c H558 locsH558 0 0 Q (F0 m 76 ls559 []) := by
        intro ls559 H558 locsH558 x561 hl560 hTH558 hSH558 bx561 b562 mfy563 gy563_CG gy563_TU gy563_WD gy563_IM
        obtain ⟨x564, ex564⟩ : ∃ y : Int32, y = x556 + 1 := ⟨_, rfl⟩
        have tx564 := i_add ex564 (by omega)
        refine lv_iinc (v := x564) (lv' := [(4, .int x564), (0, .ref a0), (2, .int x554), (3, .int x561)]) hx hb dX10_down_76 hl560 (k := 3) rfl (by rw [ex564]; rfl) (by decide) rfl (fun ls565 hl566 => ?_)
        refine lv_goto (tgt := 27) hx hb dX10_down_79 (by decide) ?_
        exact ih27 ls565 H558 locsH558 (x554) (x561) (x564) (lv_sub hl566 [1, 2, 3, 0] rfl) hTH558 hSH558 (by have := i_rng x561; omega) (by have := i_rng x564; omega) mfy563 gy563_CG gy563_TU gy563_WD gy563_IM (by omega)
      have J73 : ∀ (ls568 : Array Slot) (H567 : Heap) (locsH567 : List Loc) , lv_has ls568 5 [(0, .ref a0), (2, .int x554), (4, .int x556)] → TY K G H567 → va_S (AE G [112, 140, 139] s.heap.size) s.heap H567 locsH567 → (0 ≤ x556.toInt ∧ x556.toInt ≤ 7) → (MF K s.heap H567 a0 [0]) → (CG (avw K H567 a0)) → (TU (avw K H567 a0) (svw K H567 a0)) → (WD (avw K H567 a0)) → (IM (avw K H567 a0)) → W p l e ({ frames := 6, cells := 0, slots := 0, locals := 145 } : Room) s m (([.ref a0, .int x1] : List Value).toArray) below meth c H567 locsH567 0 0 Q (F0 m 73 ls568 []) := by
        intro ls568 H567 locsH567  hl569 hTH567 hSH567 b570 mfy571 gy571_CG gy571_TU gy571_WD gy571_IM
        refine lv_iload hx hb dX10_down_73 (lv_at hl569 2 rfl) ?_
        refine lv_istore_n (lv' := [(3, .int x556), (0, .ref a0), (2, .int x554), (4, .int x556)]) hx hb dX10_down_75 rfl hl569 (by decide) rfl (fun ls572 hl573 => ?_)
        exact J76 ls572 H567 locsH567 (x556) (lv_sub hl573 [1, 2, 0, 3] rfl) hTH567 hSH567 (by have := i_rng x556; omega) (by have := i_rng x556; omega) mfy571 gy571_CG gy571_TU gy571_WD gy571_IM
      refine lv_iload hx hb dX10_down_27 (lv_at hl553 3 rfl) ?_
      refine lv_aload_n hx hb dX10_down_29 rfl (lv_at hl553 0 rfl) ?_
      refine x_gi C hTH551 (ci := 10) (k := 62) rfl inX10 (by decide) wF_X10_455 ga0 rg_112 rfl dX10_down_30 (fun x574 ex574 bx574 => ?_)
      refine lv_icmp_ge (tgt := 82) hx hb dX10_down_33 (by decide) (fun c575 => ?_) (fun c575 => ?_)
      · have k576 := i_le c575
        refine lv_iload_n hx hb dX10_down_82 rfl (lv_at hl553 2 rfl) ?_
        exact x_iret C hQ dX10_down_83 hSH551 (by decide) (by decide) (⟨x555, rfl, gy557_CG, gy557_TU, gy557_WD, gy557_IM, mfy557, hTH551⟩)
      · have k576 := i_nle c575
        refine lv_aload_n hx hb dX10_down_36 rfl (lv_at hl553 0 rfl) ?_
        refine x_gr C hTH551 (ci := 10) (k := 63) rfl inX10 (by decide) wF_X10_146 ga0 rg_112 rfl dX10_down_37 (fun q577 eq577 gq577 => ?_)
        refine lv_iload hx hb dX10_down_40 (lv_at hl553 3 rfl) ?_
        refine x_ai C hTH551 gq577 rg_156 ⟨by omega, by show _ < ((8 : Nat) : Int); omega⟩ dX10_down_42 (fun x578 ex578 bx578 => ?_)
        refine lv_iload_n hx hb dX10_down_43 rfl (lv_at hl553 1 rfl) ?_
        refine lv_aload_n hx hb dX10_down_44 rfl (lv_at hl553 0 rfl) ?_
        refine x_gi C hTH551 (ci := 10) (k := 3) rfl inX10 (by decide) wF_X10_7 ga0 rg_112 rfl dX10_down_45 (fun x579 ex579 bx579 => ?_)
        refine lv_iadd hx hb dX10_down_48 ?_
        refine lv_topi (fun x580 ex580 => ?_)
        refine lv_icmp_gt (tgt := 76) hx hb dX10_down_49 (by decide) (fun c581 => ?_) (fun c581 => ?_)
        · have k582 := i_lt c581
          exact J76 ls552 H551 locsH551 (x555) (lv_sub hl553 [0, 1, 2, 3] rfl) hTH551 hSH551 (by have := i_rng x555; omega) (by have := i_rng x556; omega) mfy557 gy557_CG gy557_TU gy557_WD gy557_IM
        · have k582 := i_nlt c581
          refine lv_iload_n hx hb dX10_down_52 rfl (lv_at hl553 2 rfl) ?_
          refine lv_iconst (v := (-1)) hx hb dX10_down_53 (by decide) ?_
          refine lv_icmp_eq (tgt := 73) hx hb dX10_down_54 (by decide) (fun c583 => ?_) (fun c583 => ?_)
          · have k584 := i_eq c583
            exact J73 ls552 H551 locsH551 (lv_sub hl553 [0, 1, 3] rfl) hTH551 hSH551 (by have := i_rng x556; omega) mfy557 gy557_CG gy557_TU gy557_WD gy557_IM
          · have k584 := i_ne c583
            refine lv_aload_n hx hb dX10_down_57 rfl (lv_at hl553 0 rfl) ?_
            refine x_gr C hTH551 (ci := 10) (k := 63) rfl inX10 (by decide) wF_X10_146 ga0 rg_112 rfl dX10_down_58 (fun q585 eq585 gq585 => ?_)
            have uq585 : q577 = q585 := (eq577).trans eq585.symm
            subst uq585
            refine lv_iload hx hb dX10_down_61 (lv_at hl553 3 rfl) ?_
            refine x_ai C hTH551 gq577 rg_156 ⟨by omega, by show _ < ((8 : Nat) : Int); omega⟩ dX10_down_63 (fun x586 ex586 bx586 => ?_)
            have ux586 : x578 = x586 := (ex578).trans ex586.symm
            subst ux586
            refine lv_aload_n hx hb dX10_down_64 rfl (lv_at hl553 0 rfl) ?_
            refine x_gr C hTH551 (ci := 10) (k := 63) rfl inX10 (by decide) wF_X10_146 ga0 rg_112 rfl dX10_down_65 (fun q587 eq587 gq587 => ?_)
            have uq587 : q577 = q587 := (eq577).trans eq587.symm
            subst uq587
            refine lv_iload_n hx hb dX10_down_68 rfl (lv_at hl553 2 rfl) ?_
            refine x_ai C hTH551 gq577 rg_156 ⟨by omega, by show _ < ((8 : Nat) : Int); omega⟩ dX10_down_69 (fun x588 ex588 bx588 => ?_)
            refine lv_icmp_le (tgt := 76) hx hb dX10_down_70 (by decide) (fun c589 => ?_) (fun c589 => ?_)
            · have k590 := i_le c589
              exact J76 ls552 H551 locsH551 (x555) (lv_sub hl553 [0, 1, 2, 3] rfl) hTH551 hSH551 (by have := i_rng x555; omega) (by have := i_rng x556; omega) mfy557 gy557_CG gy557_TU gy557_WD gy557_IM
            · have k590 := i_nle c589
              exact J73 ls552 H551 locsH551 (lv_sub hl553 [0, 1, 3] rfl) hTH551 hSH551 (by have := i_rng x556; omega) mfy557 gy557_CG gy557_TU gy557_WD gy557_IM
  refine lv_aload_n hx hb dX10_down_0 rfl (lv_at hl 0 rfl) ?_
  refine lv_iconst (v := 0) hx hb dX10_down_1 (by decide) ?_
  refine x_put C hT hS (ci := 10) (k := 0) (v := .int 0) (ty0 := tyX10) rfl inX10 tyX10_ok nmX10 (by decide) rfl wF_X10_167 ga0 rg_112 rfl rfl (okI (by have := i_rng (0 : Int32); omega) (by have := i_rng (0 : Int32); omega)) rfl rfl (AE_in ga0 (by decide)) dX10_down_2 (fun H591 locsH591 hTH591 hSH591 wH591 => ?_)
  have mf592 : MF K s.heap H591 a0 [0] := MF.fld hap wH591 (by decide) (by decide) mf0
  have g593 : CG (avw K H591 a0) := CG.congr (fun k hk j => av_fld hT ga0 hap wH591 (by decide) (CG_ok 112 (by decide) k hk) (CG_ne 0 (by decide) k hk)) hg_CG
  have g594 : TU (avw K H591 a0) (svw K H591 a0) := TU.congr (fun k hk j => av_fld hT ga0 hap wH591 (by decide) (TU_ok 112 (by decide) k hk) (TU_ne 0 (by decide) k hk)) (fun k hk => sv_fld hap wH591 (by decide) (TU_slt k hk) (TU_sne 0 (by decide) k hk)) hg_TU
  have g595 : WD (avw K H591 a0) := WD.congr (fun k hk j => av_fld hT ga0 hap wH591 (by decide) (WD_ok 112 (by decide) k hk) (WD_ne 0 (by decide) k hk)) hg_WD
  have g596 : IM (avw K H591 a0) := IM.congr (fun k hk j => av_fld hT ga0 hap wH591 (by decide) (IM_ok 112 (by decide) k hk) (IM_ne 0 (by decide) k hk)) hg_IM
  have m597 := Wr.I wH591
  refine lv_aload_n hx hb dX10_down_5 rfl (lv_at hl 0 rfl) ?_
  refine lv_iload_n hx hb dX10_down_6 rfl (lv_at hl 1 rfl) ?_
  obtain ⟨x598, ex598⟩ : ∃ z : Int32, z = fI H591 a0 (K.1.2 10 1) := ⟨_, rfl⟩
  have bx598 := ty_fi (x := x598) (k := 1) ex598 hTH591 ga0 rg_112 rfl
  refine x_V (As := [.int x1]) (rest := []) C (a_X10_isBar l K G H591 (x1) (x598) hTH591 ga0 ex598) yo_X10_isBar wM_X10_173 ⟨⟨by decide, by decide⟩, by decide, by decide⟩ (x_rv C hTH591 (ci := 10) rfl ga0 rg_112) rfl hl.1 rfl (Nat.le_of_ble_eq_true rfl) dX10_down_7 hSH591 (AE_sub (fun _ _ => rfl) (by decide) hSH591.1) (fun vH599 H599 locsH599 pH599 zH599 kH599 hSH599 => ?_)
  obtain ⟨x600, hvH599, bx600, hrH599, hTH599⟩ := pH599
  subst hvH599
  have mf601 : MF K s.heap H599 a0 [0] := MF.eff (x_lt hTH591 kH599 ga0 (by decide)) mf592
  have g602 : CG (avw K H599 a0) := CG.congr (fun k hk j => av_eff hTH591 kH599 ga0 (by decide) (CG_eff [] (by decide) k hk)) g593
  have g603 : TU (avw K H599 a0) (svw K H599 a0) := TU.congr (fun k hk j => av_eff hTH591 kH599 ga0 (by decide) (TU_eff [] (by decide) k hk)) (fun k hk => sv_eff hTH591 kH599 ga0 (by decide)) g594
  have g604 : WD (avw K H599 a0) := WD.congr (fun k hk j => av_eff hTH591 kH599 ga0 (by decide) (WD_eff [] (by decide) k hk)) g595
  have g605 : IM (avw K H599 a0) := IM.congr (fun k hk j => av_eff hTH591 kH599 ga0 (by decide) (IM_eff [] (by decide) k hk)) g596
  have m606 := (fI_kept (x_lt hTH591 kH599 ga0 (by decide))).trans m597
  have m607 := (ex598).trans (fI_kept (x_lt hTH591 kH599 ga0 (by decide))).symm
  refine W.eq (g2 := F0 m 10 ls [.int x600]) rfl ?_
  refine lv_if_ne (tgt := 15) hx hb dX10_down_10 (by decide) (fun c608 => ?_) (fun c608 => ?_)
  · have k609 := i_ne c608
    refine lv_aload_n hx hb dX10_down_15 rfl (lv_at hl 0 rfl) ?_
    refine lv_iload_n hx hb dX10_down_16 rfl (lv_at hl 1 rfl) ?_
    refine lv_iconst (v := 0) hx hb dX10_down_17 (by decide) ?_
    refine x_V (As := [.int x1, .int 0]) (rest := []) C (a_X10_toneNow l K G H599 (x1) (0) hTH599 ga0 (by omega) g602) yo_X10_toneNow wM_X10_335 ⟨⟨by decide, by decide⟩, by decide, by decide⟩ (x_rv C hTH599 (ci := 10) rfl ga0 rg_112) rfl hl.1 rfl (Nat.le_of_ble_eq_true rfl) dX10_down_18 hSH599 (AE_sub (fun _ _ => rfl) (by decide) hSH599.1) (fun vH610 H610 locsH610 pH610 zH610 kH610 hSH610 => ?_)
    obtain ⟨x611, hvH610, hTH610⟩ := pH610
    subst hvH610
    have mf612 : MF K s.heap H610 a0 [0] := MF.eff (x_lt hTH599 kH610 ga0 (by decide)) mf601
    have g613 : CG (avw K H610 a0) := CG.congr (fun k hk j => av_eff hTH599 kH610 ga0 (by decide) (CG_eff [140, 139] (by decide) k hk)) g602
    have g614 : TU (avw K H610 a0) (svw K H610 a0) := TU.congr (fun k hk j => av_eff hTH599 kH610 ga0 (by decide) (TU_eff [140, 139] (by decide) k hk)) (fun k hk => sv_eff hTH599 kH610 ga0 (by decide)) g603
    have g615 : WD (avw K H610 a0) := WD.congr (fun k hk j => av_eff hTH599 kH610 ga0 (by decide) (WD_eff [140, 139] (by decide) k hk)) g604
    have g616 : IM (avw K H610 a0) := IM.congr (fun k hk j => av_eff hTH599 kH610 ga0 (by decide) (IM_eff [140, 139] (by decide) k hk)) g605
    have m617 := (fI_kept (x_lt hTH599 kH610 ga0 (by decide))).trans m606
    have m618 := (m607).trans (fI_kept (x_lt hTH599 kH610 ga0 (by decide))).symm
    refine W.eq (g2 := F0 m 21 ls [.int x611]) rfl ?_
    refine lv_istore_n (lv' := [(2, .int x611), (0, .ref a0), (1, .int x1)]) hx hb dX10_down_21 rfl hl (by decide) rfl (fun ls619 hl620 => ?_)
    refine lv_iconst (v := (-1)) hx hb dX10_down_22 (by decide) ?_
    refine lv_istore_n (lv' := [(3, .int (-1)), (2, .int x611), (0, .ref a0), (1, .int x1)]) hx hb dX10_down_23 rfl hl620 (by decide) rfl (fun ls621 hl622 => ?_)
    refine lv_iconst (v := 0) hx hb dX10_down_24 (by decide) ?_
    refine lv_istore (lv' := [(4, .int 0), (3, .int (-1)), (2, .int x611), (0, .ref a0), (1, .int x1)]) hx hb dX10_down_25 hl622 (by decide) rfl (fun ls623 hl624 => ?_)
    exact J27 ((8 - (0 : Int32).toInt).toNat + 1) ls623 H610 locsH610 (x611) ((-1)) (0) (lv_sub hl624 [3, 2, 1, 0] rfl) hTH610 hSH610 (by decide) (by decide) mf612 g613 g614 g615 g616 (by omega)
  · have k609 := i_eq c608
    refine lv_iconst (v := (-1)) hx hb dX10_down_13 (by decide) ?_
    exact x_iret C hQ dX10_down_14 hSH599 (by decide) (by decide) (⟨(-1), rfl, g602, g603, g604, g605, mf601, hTH599⟩)
