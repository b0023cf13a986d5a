set_option maxHeartbeats 4000000 in
set_option maxRecDepth 100000 in
theorem a_X9_of (l : Launch) (K : KE) (G : Nat → Option Nat) (H : Heap) {a0 : Nat} (x1 : Int32) (x2 : Int32) (x3 : Int32) (hT : TY K G H) (ga0 : G a0 = some 68) : MX l K yX9_of cX9_of 5 (some .int) 2 43 0 0 [.ref a0, .int x1, .int x2, .int x3] H (AE G [] H.size) (fun v H1 => ∃ (r : Int32), v = some (.int r) ∧ TY K G H1) := by
  refine MX.of (by decide +kernel) (Nat.le_of_ble_eq_true rfl) ?_
  intro p e s m below meth c ls Q C hH hl hQ
  subst hH
  have C : CX p K s m _ meth c RX9 cX9_of 5 (some .int) "of" := C
  obtain ⟨hx, hb, hml, hown, hts, hKT, hr, hlocks, hnm⟩ := id C
  have hl : lv_has ls 5 [(0, .ref a0), (1, .int x1), (2, .int x2), (3, .int x3)] := hl
  have hS : va_S (AE G [] s.heap.size) s.heap s.heap [] := va_S.rf
  have n_m1 : ((-1) : Int32).toInt = -1 := rfl
  have n_0 : (0 : Int32).toInt = 0 := rfl
  have n_1 : (1 : Int32).toInt = 1 := rfl
  have n_2 : (2 : Int32).toInt = 2 := rfl
  have n_3 : (3 : Int32).toInt = 3 := rfl
  have J21 : ∀ (ls194 : Array Slot) (H193 : Heap) (locsH193 : List Loc) , lv_has ls194 5 [] → TY K G H193 → va_S (AE G [] s.heap.size) s.heap H193 locsH193 → W p l e ({ frames := 2, cells := 0, slots := 0, locals := 43 } : Room) s m (([.ref a0, .int x1, .int x2, .int x3] : List Value).toArray) below meth c H193 locsH193 0 0 Q (F0 m 21 ls194 []) := by
    intro ls194 H193 locsH193  hl195 hTH193 hSH193 
    refine lv_iconst (v := (-1)) hx hb dX9_of_21 (by decide) ?_
    exact x_iret C hQ dX9_of_22 hSH193 (by decide) (by decide) (⟨(-1), rfl, hTH193⟩)
  refine lv_aload_n hx hb dX9_of_0 rfl (lv_at hl 0 rfl) ?_
  refine lv_iload_n hx hb dX9_of_1 rfl (lv_at hl 1 rfl) ?_
  refine x_V (As := [.int x1]) (rest := []) C (a_X9_barAt l K G s.heap (x1) hT ga0) yo_X9_barAt wM_X9_78 ⟨⟨by decide, by decide⟩, by decide, by decide⟩ (x_rv C hT (ci := 9) rfl ga0 rg_68) rfl hl.1 rfl (Nat.le_of_ble_eq_true rfl) dX9_of_2 hS (AE_sub (fun _ _ => rfl) (by decide) hS.1) (fun vH197 H197 locsH197 pH197 zH197 kH197 hSH197 => ?_)
  have hTH197 := pH197.2
  rcases pH197.1 with hvH197 | ⟨q198, hvH197, gq198⟩
  · skip
    subst hvH197
    refine W.eq (g2 := F0 m 5 ls [.null]) rfl ?_
    refine lv_astoreN (lv' := [(4, .null), (0, .ref a0), (1, .int x1), (2, .int x2), (3, .int x3)]) hx hb dX9_of_5 hl (by decide) rfl (fun ls199 hl200 => ?_)
    refine lv_aloadN hx hb dX9_of_7 (lv_at hl200 0 rfl) ?_
    refine lv_ifnullN (tgt := 21) hx hb dX9_of_9 (by decide) ?_
    exact J21 ls199 H197 locsH197 (lv_sub hl200 [] rfl) hTH197 hSH197 
  · skip
    subst hvH197
    refine W.eq (g2 := F0 m 5 ls [.ref q198]) rfl ?_
    refine lv_astore (lv' := [(4, .ref q198), (0, .ref a0), (1, .int x1), (2, .int x2), (3, .int x3)]) hx hb dX9_of_5 hl (by decide) rfl (fun ls201 hl202 => ?_)
    refine lv_aload hx hb dX9_of_7 (lv_at hl202 0 rfl) ?_
    refine lv_ifnull hx hb dX9_of_9 ?_
    refine lv_aload hx hb dX9_of_12 (lv_at hl202 0 rfl) ?_
    refine lv_iload_n hx hb dX9_of_14 rfl (lv_at hl202 3 rfl) ?_
    refine x_V (As := [.int x2]) (rest := []) C (a_X0_has l K G H197 (x2) hTH197 gq198) yo_X0_has wM_X9_82 ⟨⟨by decide, by decide⟩, by decide, by decide⟩ (x_rv C hTH197 (ci := 0) rfl gq198 rg_1) rfl hl202.1 rfl (Nat.le_of_ble_eq_true rfl) dX9_of_15 hSH197 (AE_sub (fun _ _ => rfl) (by decide) hSH197.1) (fun vH203 H203 locsH203 pH203 zH203 kH203 hSH203 => ?_)
    have hqH203 := pH203.1.symm
    subst hqH203
    rcases pH203.2 with ⟨hvH203, hcH203⟩ | hvH203
    · subst hvH203
      refine W.eq (g2 := F0 m 18 ls201 [.int 1]) rfl ?_
      refine lv_if_ne (tgt := 23) hx hb dX9_of_18 (by decide) (fun c204 => ?_) (fun c204 => ?_)
      · have k205 := i_ne c204
        refine lv_iload_n hx hb dX9_of_23 rfl (lv_at hl202 4 rfl) ?_
        by_cases c206 : x3 = 0
        · have kc206 := i_eq c206
          refine lv_tableIn (tgt := 56) hx hb dX9_of_24 (by omega) (by omega) (off := 32) (by rw [c206]; rfl) (by decide) ?_
          refine lv_aload hx hb dX9_of_56 (lv_at hl202 0 rfl) ?_
          refine x_gr C hTH197 (ci := 0) (k := 1) rfl inX0 (by decide) wF_X9_93 gq198 rg_1 rfl dX9_of_58 (fun q207 eq207 gq207 => ?_)
          refine lv_iload_n hx hb dX9_of_61 rfl (lv_at hl202 3 rfl) ?_
          refine x_ai C hTH197 gq207 rg_2 ⟨by omega, by show _ < ((16 : Nat) : Int); omega⟩ dX9_of_62 (fun x208 ex208 bx208 => ?_)
          exact x_iret C hQ dX9_of_63 hSH203 (by decide) (by decide) (⟨x208, rfl, hTH197⟩)
        have kc206 := i_ne c206
        by_cases c209 : x3 = 1
        · have kc209 := i_eq c209
          refine lv_tableIn (tgt := 64) hx hb dX9_of_24 (by omega) (by omega) (off := 40) (by rw [c209]; rfl) (by decide) ?_
          refine lv_aload hx hb dX9_of_64 (lv_at hl202 0 rfl) ?_
          refine x_gr C hTH197 (ci := 0) (k := 2) rfl inX0 (by decide) wF_X9_96 gq198 rg_1 rfl dX9_of_66 (fun q210 eq210 gq210 => ?_)
          refine lv_iload_n hx hb dX9_of_69 rfl (lv_at hl202 3 rfl) ?_
          refine x_ai C hTH197 gq210 rg_3 ⟨by omega, by show _ < ((16 : Nat) : Int); omega⟩ dX9_of_70 (fun x211 ex211 bx211 => ?_)
          exact x_iret C hQ dX9_of_71 hSH203 (by decide) (by decide) (⟨x211, rfl, hTH197⟩)
        have kc209 := i_ne c209
        by_cases c212 : x3 = 2
        · have kc212 := i_eq c212
          refine lv_tableIn (tgt := 72) hx hb dX9_of_24 (by omega) (by omega) (off := 48) (by rw [c212]; rfl) (by decide) ?_
          refine lv_aload hx hb dX9_of_72 (lv_at hl202 0 rfl) ?_
          refine x_gr C hTH197 (ci := 0) (k := 3) rfl inX0 (by decide) wF_X9_99 gq198 rg_1 rfl dX9_of_74 (fun q213 eq213 gq213 => ?_)
          refine lv_iload_n hx hb dX9_of_77 rfl (lv_at hl202 3 rfl) ?_
          refine x_ai C hTH197 gq213 rg_4 ⟨by omega, by show _ < ((16 : Nat) : Int); omega⟩ dX9_of_78 (fun x214 ex214 bx214 => ?_)
          exact x_iret C hQ dX9_of_79 hSH203 (by decide) (by decide) (⟨x214, rfl, hTH197⟩)
        have kc212 := i_ne c212
        by_cases c215 : x3 = 3
        · have kc215 := i_eq c215
          refine lv_tableIn (tgt := 80) hx hb dX9_of_24 (by omega) (by omega) (off := 56) (by rw [c215]; rfl) (by decide) ?_
          refine lv_aload hx hb dX9_of_80 (lv_at hl202 0 rfl) ?_
          refine x_gr C hTH197 (ci := 0) (k := 4) rfl inX0 (by decide) wF_X9_102 gq198 rg_1 rfl dX9_of_82 (fun q216 eq216 gq216 => ?_)
          refine lv_iload_n hx hb dX9_of_85 rfl (lv_at hl202 3 rfl) ?_
          refine x_ai C hTH197 gq216 rg_5 ⟨by omega, by show _ < ((16 : Nat) : Int); omega⟩ dX9_of_86 (fun x217 ex217 bx217 => ?_)
          exact x_iret C hQ dX9_of_87 hSH203 (by decide) (by decide) (⟨x217, rfl, hTH197⟩)
        have kc215 := i_ne c215
        refine lv_tableOut (tgt := 88) hx hb dX9_of_24 (by omega) (by decide) ?_
        refine lv_iconst (v := (-1)) hx hb dX9_of_88 (by decide) ?_
        exact x_iret C hQ dX9_of_89 hSH203 (by decide) (by decide) (⟨(-1), rfl, hTH197⟩)
      · have k205 := i_eq c204
        exfalso
        omega
    · subst hvH203
      refine W.eq (g2 := F0 m 18 ls201 [.int 0]) rfl ?_
      refine lv_if_ne (tgt := 23) hx hb dX9_of_18 (by decide) (fun c218 => ?_) (fun c218 => ?_)
      · have k219 := i_ne c218
        exfalso
        omega
      · have k219 := i_eq c218
        exact J21 ls201 H197 locsH203 (lv_sub hl202 [] rfl) hTH197 hSH203 

set_option maxHeartbeats 4000000 in
set_option maxRecDepth 100000 in
theorem a_X9_fault (l : Launch) (K : KE) (G : Nat → Option Nat) (H : Heap) {a0 : Nat} (x1 : Int32) (hT : TY K G H) (ga0 : G a0 = some 68) : MX l K yX9_fault cX9_fault 2 (some .int) 0 0 0 0 [.ref a0, .int x1] H (AE G [] H.size) (fun v H1 => ∃ (r : Int32), v = some (.int r) ∧ TY K G H1) := by
  refine MX.of (by decide +kernel) (Nat.le_of_ble_eq_true rfl) ?_
  intro p e s m below meth c ls Q C hH hl hQ
  subst hH
  have C : CX p K s m _ meth c RX9 cX9_fault 2 (some .int) "fault" := C
  obtain ⟨hx, hb, hml, hown, hts, hKT, hr, hlocks, hnm⟩ := id C
  have hl : lv_has ls 2 [(0, .ref a0), (1, .int x1)] := hl
  have hS : va_S (AE G [] s.heap.size) s.heap s.heap [] := va_S.rf
  have n_m1 : ((-1) : Int32).toInt = -1 := rfl
  have n_0 : (0 : Int32).toInt = 0 := rfl
  have n_1 : (1 : Int32).toInt = 1 := rfl
  refine lv_iload_n hx hb dX9_fault_0 rfl (lv_at hl 1 rfl) ?_
  by_cases c125 : x1 = 0
  · have kc125 := i_eq c125
    refine lv_lookup (tgt := 28) (off := 27) hx hb dX9_fault_1 (by decide) (by rw [c125]; rfl) (by decide) ?_
    refine lv_aload_n hx hb dX9_fault_28 rfl (lv_at hl 0 rfl) ?_
    refine x_gr C hT (ci := 9) (k := 0) rfl inX9 (by decide) wF_X9_12 ga0 rg_68 rfl dX9_fault_29 (fun q126 eq126 gq126 => ?_)
    refine x_gi C hT (ci := 8) (k := 6) rfl inX8 (by decide) wF_X9_111 gq126 rg_0 rfl dX9_fault_32 (fun x127 ex127 bx127 => ?_)
    exact x_iret C hQ dX9_fault_35 hS (by decide) (by decide) (⟨x127, rfl, hT⟩)
  have kc125 := i_ne c125
  by_cases c128 : x1 = 1
  · have kc128 := i_eq c128
    refine lv_lookup (tgt := 36) (off := 35) hx hb dX9_fault_1 (by decide) (by rw [c128]; rfl) (by decide) ?_
    refine lv_aload_n hx hb dX9_fault_36 rfl (lv_at hl 0 rfl) ?_
    refine x_gr C hT (ci := 9) (k := 0) rfl inX9 (by decide) wF_X9_12 ga0 rg_68 rfl dX9_fault_37 (fun q129 eq129 gq129 => ?_)
    refine x_gi C hT (ci := 8) (k := 7) rfl inX8 (by decide) wF_X9_114 gq129 rg_0 rfl dX9_fault_40 (fun x130 ex130 bx130 => ?_)
    exact x_iret C hQ dX9_fault_43 hS (by decide) (by decide) (⟨x130, rfl, hT⟩)
  have kc128 := i_ne c128
  refine lv_lookup (tgt := 44) (off := 43) hx hb dX9_fault_1 (by decide) (show Op.lookupswitch.offset [(0, 27), (1, 35)] 43 x1.toInt = 43 by rw [lv_osw (a := 0) c125 rfl, lv_osw (a := 1) c128 rfl]; rfl) (by decide) ?_
  refine lv_iconst (v := (-1)) hx hb dX9_fault_44 (by decide) ?_
  exact x_iret C hQ dX9_fault_45 hS (by decide) (by decide) (⟨(-1), rfl, hT⟩)

set_option maxHeartbeats 4000000 in
set_option maxRecDepth 100000 in
theorem a_X9_tells (l : Launch) (K : KE) (G : Nat → Option Nat) (H : Heap) {a0 : Nat} (x1 : Int32) (x2 : Int32) (x3 : Int32) (x4 : Int32) (x5 : Int32) (hT : TY K G H) (ga0 : G a0 = some 68) : MX l K yX9_tells cX9_tells 7 (some .int) 3 75 0 0 [.ref a0, .int x1, .int x2, .int x3, .int x4, .int x5] H (AE G [83, 84] H.size) (fun v H1 => ∃ (r : Int32), v = some (.int r) ∧ TY K G H1) := by
  refine MX.of (by decide +kernel) (Nat.le_of_ble_eq_true rfl) ?_
  intro p e s m below meth c ls Q C hH hl hQ
  subst hH
  have C : CX p K s m _ meth c RX9 cX9_tells 7 (some .int) "tells" := C
  obtain ⟨hx, hb, hml, hown, hts, hKT, hr, hlocks, hnm⟩ := id C
  have hl : lv_has ls 7 [(0, .ref a0), (1, .int x1), (2, .int x2), (3, .int x3), (4, .int x4), (5, .int x5)] := hl
  have hS : va_S (AE G [83, 84] s.heap.size) s.heap s.heap [] := va_S.rf
  have n_m100000 : ((-100000) : Int32).toInt = -100000 := rfl
  have n_0 : (0 : Int32).toInt = 0 := rfl
  have n_1 : (1 : Int32).toInt = 1 := rfl
  have n_2 : (2 : Int32).toInt = 2 := rfl
  have J48 : ∀ (ls326 : Array Slot) (H325 : Heap) (locsH325 : List Loc) , lv_has ls326 7 [] → TY K G H325 → va_S (AE G [83, 84] s.heap.size) s.heap H325 locsH325 → W p l e ({ frames := 3, cells := 0, slots := 0, locals := 75 } : Room) s m (([.ref a0, .int x1, .int x2, .int x3, .int x4, .int x5] : List Value).toArray) below meth c H325 locsH325 0 0 Q (F0 m 48 ls326 []) := by
    intro ls326 H325 locsH325  hl327 hTH325 hSH325 
    refine lv_ldc (v := (-100000)) hx hb hown (hts _ wK_X9_153) dX9_tells_48 ?_
    exact x_iret C hQ dX9_tells_50 hSH325 (by decide) (by decide) (⟨(-100000), rfl, hTH325⟩)
  refine lv_aload_n hx hb dX9_tells_0 rfl (lv_at hl 0 rfl) ?_
  refine lv_iload hx hb dX9_tells_1 (lv_at hl 4 rfl) ?_
  refine x_V (As := [.int x4]) (rest := []) C (a_X9_barAt l K G s.heap (x4) hT ga0) yo_X9_barAt wM_X9_78 ⟨⟨by decide, by decide⟩, by decide, by decide⟩ (x_rv C hT (ci := 9) rfl ga0 rg_68) rfl hl.1 rfl (Nat.le_of_ble_eq_true rfl) dX9_tells_3 hS (AE_sub (fun _ _ => rfl) (by decide) hS.1) (fun vH329 H329 locsH329 pH329 zH329 kH329 hSH329 => ?_)
  have hTH329 := pH329.2
  rcases pH329.1 with hvH329 | ⟨q330, hvH329, gq330⟩
  · skip
    subst hvH329
    refine W.eq (g2 := F0 m 6 ls [.null]) rfl ?_
    refine lv_astoreN (lv' := [(6, .null), (0, .ref a0), (1, .int x1), (2, .int x2), (3, .int x3), (4, .int x4), (5, .int x5)]) hx hb dX9_tells_6 hl (by decide) rfl (fun ls331 hl332 => ?_)
    refine lv_aloadN hx hb dX9_tells_8 (lv_at hl332 0 rfl) ?_
    refine lv_ifnullN (tgt := 48) hx hb dX9_tells_10 (by decide) ?_
    exact J48 ls331 H329 locsH329 (lv_sub hl332 [] rfl) hTH329 hSH329 
  · skip
    subst hvH329
    refine W.eq (g2 := F0 m 6 ls [.ref q330]) rfl ?_
    refine lv_astore (lv' := [(6, .ref q330), (0, .ref a0), (1, .int x1), (2, .int x2), (3, .int x3), (4, .int x4), (5, .int x5)]) hx hb dX9_tells_6 hl (by decide) rfl (fun ls333 hl334 => ?_)
    refine lv_aload hx hb dX9_tells_8 (lv_at hl334 0 rfl) ?_
    refine lv_ifnull hx hb dX9_tells_10 ?_
    refine lv_aload hx hb dX9_tells_13 (lv_at hl334 0 rfl) ?_
    refine lv_iload hx hb dX9_tells_15 (lv_at hl334 6 rfl) ?_
    refine x_V (As := [.int x5]) (rest := []) C (a_X0_has l K G H329 (x5) hTH329 gq330) yo_X0_has wM_X9_82 ⟨⟨by decide, by decide⟩, by decide, by decide⟩ (x_rv C hTH329 (ci := 0) rfl gq330 rg_1) rfl hl334.1 rfl (Nat.le_of_ble_eq_true rfl) dX9_tells_17 hSH329 (AE_sub (fun _ _ => rfl) (by decide) hSH329.1) (fun vH335 H335 locsH335 pH335 zH335 kH335 hSH335 => ?_)
    have hqH335 := pH335.1.symm
    subst hqH335
    rcases pH335.2 with ⟨hvH335, hcH335⟩ | hvH335
    · subst hvH335
      refine W.eq (g2 := F0 m 20 ls333 [.int 1]) rfl ?_
      refine lv_if_eq (tgt := 48) hx hb dX9_tells_20 (by decide) (fun c336 => ?_) (fun c336 => ?_)
      · have k337 := i_eq c336
        exfalso
        omega
      · have k337 := i_ne c336
        refine lv_iload_n hx hb dX9_tells_23 rfl (lv_at hl334 2 rfl) ?_
        refine lv_iconst (v := 0) hx hb dX9_tells_24 (by decide) ?_
        refine lv_iconst (v := 1) hx hb dX9_tells_25 (by decide) ?_
        refine x_S (As := [.int x1, .int 0, .int 1]) (rest := []) C (c_X9_within l K G H329 (x1) (0) (1) hTH329) yo_X9_within wM_X9_89 ⟨⟨by decide, by decide⟩, by decide, by decide⟩ rfl hl334.1 rfl (Nat.le_of_ble_eq_true rfl) dX9_tells_26 hSH335 (AE_sub (fun _ _ => rfl) (by decide) hSH335.1) (fun vH338 H338 locsH338 pH338 zH338 kH338 hSH338 => ?_)
        have hqH338 := pH338.1.symm
        subst hqH338
        rcases pH338.2 with ⟨hvH338, hcH338⟩ | ⟨hvH338, hcH338⟩
        · subst hvH338
          refine W.eq (g2 := F0 m 29 ls333 [.int 1]) rfl ?_
          refine lv_if_eq (tgt := 48) hx hb dX9_tells_29 (by decide) (fun c339 => ?_) (fun c339 => ?_)
          · have k340 := i_eq c339
            exfalso
            omega
          · have k340 := i_ne c339
            refine lv_iload_n hx hb dX9_tells_32 rfl (lv_at hl334 3 rfl) ?_
            refine lv_iconst (v := 0) hx hb dX9_tells_33 (by decide) ?_
            refine lv_iconst (v := 2) hx hb dX9_tells_34 (by decide) ?_
            refine x_S (As := [.int x2, .int 0, .int 2]) (rest := []) C (c_X9_within l K G H329 (x2) (0) (2) hTH329) yo_X9_within wM_X9_89 ⟨⟨by decide, by decide⟩, by decide, by decide⟩ rfl hl334.1 rfl (Nat.le_of_ble_eq_true rfl) dX9_tells_35 hSH338 (AE_sub (fun _ _ => rfl) (by decide) hSH338.1) (fun vH341 H341 locsH341 pH341 zH341 kH341 hSH341 => ?_)
            have hqH341 := pH341.1.symm
            subst hqH341
            rcases pH341.2 with ⟨hvH341, hcH341⟩ | ⟨hvH341, hcH341⟩
            · subst hvH341
              refine W.eq (g2 := F0 m 38 ls333 [.int 1]) rfl ?_
              refine lv_if_eq (tgt := 48) hx hb dX9_tells_38 (by decide) (fun c342 => ?_) (fun c342 => ?_)
              · have k343 := i_eq c342
                exfalso
                omega
              · have k343 := i_ne c342
                refine lv_iload_n hx hb dX9_tells_41 rfl (lv_at hl334 4 rfl) ?_
                refine x_S (As := [.int x3]) (rest := []) C (c_X9_isTone l K G H329 (x3) hTH329) yo_X9_isTone wM_X9_150 ⟨⟨by decide, by decide⟩, by decide, by decide⟩ rfl hl334.1 rfl (Nat.le_of_ble_eq_true rfl) dX9_tells_42 hSH341 (AE_sub (fun _ _ => rfl) (by decide) hSH341.1) (fun vH344 H344 locsH344 pH344 zH344 kH344 hSH344 => ?_)
                have hqH344 := pH344.1.symm
                subst hqH344
                rcases pH344.2 with ⟨hvH344, hcH344⟩ | ⟨hvH344, hcH344⟩
                · subst hvH344
                  refine W.eq (g2 := F0 m 45 ls333 [.int 1]) rfl ?_
                  refine lv_if_ne (tgt := 51) hx hb dX9_tells_45 (by decide) (fun c345 => ?_) (fun c345 => ?_)
                  · have k346 := i_ne c345
                    refine lv_aload_n hx hb dX9_tells_51 rfl (lv_at hl334 1 rfl) ?_
                    refine x_gr C hTH329 (ci := 9) (k := 5) rfl inX9 (by decide) wF_X9_30 ga0 rg_68 rfl dX9_tells_52 (fun q347 eq347 gq347 => ?_)
                    refine lv_aload hx hb dX9_tells_55 (lv_at hl334 0 rfl) ?_
                    refine lv_iload hx hb dX9_tells_57 (lv_at hl334 6 rfl) ?_
                    refine lv_aload hx hb dX9_tells_59 (lv_at hl334 0 rfl) ?_
                    refine x_gr C hTH329 (ci := 0) (k := 1) rfl inX0 (by decide) wF_X9_93 gq330 rg_1 rfl dX9_tells_61 (fun q348 eq348 gq348 => ?_)
                    refine lv_iload hx hb dX9_tells_64 (lv_at hl334 6 rfl) ?_
                    refine x_ai C hTH329 gq348 rg_2 ⟨by omega, by show _ < ((16 : Nat) : Int); omega⟩ dX9_tells_66 (fun x349 ex349 bx349 => ?_)
                    refine lv_aload hx hb dX9_tells_67 (lv_at hl334 0 rfl) ?_
                    refine x_gr C hTH329 (ci := 0) (k := 2) rfl inX0 (by decide) wF_X9_96 gq330 rg_1 rfl dX9_tells_69 (fun q350 eq350 gq350 => ?_)
                    refine lv_iload hx hb dX9_tells_72 (lv_at hl334 6 rfl) ?_
                    refine x_ai C hTH329 gq350 rg_3 ⟨by omega, by show _ < ((16 : Nat) : Int); omega⟩ dX9_tells_74 (fun x351 ex351 bx351 => ?_)
                    refine lv_aload hx hb dX9_tells_75 (lv_at hl334 0 rfl) ?_
                    refine x_gr C hTH329 (ci := 0) (k := 4) rfl inX0 (by decide) wF_X9_102 gq330 rg_1 rfl dX9_tells_77 (fun q352 eq352 gq352 => ?_)
                    refine lv_iload hx hb dX9_tells_80 (lv_at hl334 6 rfl) ?_
                    refine x_ai C hTH329 gq352 rg_5 ⟨by omega, by show _ < ((16 : Nat) : Int); omega⟩ dX9_tells_82 (fun x353 ex353 bx353 => ?_)
                    refine x_V (As := [.ref q330, .int x5, .int x349, .int x351, .int x353]) (rest := []) C (a_X6_seeSlice l K G H329 (x5) (x349) (x351) (x353) hTH329 gq347 gq330 (by omega)) yo_X6_seeSlice wM_X9_154 ⟨⟨by decide, by decide⟩, by decide, by decide⟩ (x_rv C hTH329 (ci := 6) rfl gq347 rg_82) rfl hl334.1 rfl (Nat.le_of_ble_eq_true rfl) dX9_tells_83 hSH344 (AE_sub (fun _ _ => rfl) (by decide) hSH344.1) (fun vH354 H354 locsH354 pH354 zH354 kH354 hSH354 => ?_)
                    obtain ⟨hvH354, hTH354⟩ := pH354
                    subst hvH354
                    have m355 := (eq347).trans (fR_kept (x_lt hTH329 kH354 ga0 (by decide))).symm
                    have m356 := (eq348).trans (fR_kept (x_lt hTH329 kH354 gq330 (by decide))).symm
                    have m357 := (ex349).trans (fI_kept (x_lt hTH329 kH354 gq348 (by decide))).symm
                    have m358 := (eq350).trans (fR_kept (x_lt hTH329 kH354 gq330 (by decide))).symm
                    have m359 := (ex351).trans (fI_kept (x_lt hTH329 kH354 gq350 (by decide))).symm
                    have m360 := (eq352).trans (fR_kept (x_lt hTH329 kH354 gq330 (by decide))).symm
                    have m361 := (ex353).trans (fI_kept (x_lt hTH329 kH354 gq352 (by decide))).symm
                    refine W.eq (g2 := F0 m 86 ls333 []) rfl ?_
                    refine lv_aload_n hx hb dX9_tells_86 rfl (lv_at hl334 1 rfl) ?_
                    refine x_gr C hTH354 (ci := 9) (k := 5) rfl inX9 (by decide) wF_X9_30 ga0 rg_68 rfl dX9_tells_87 (fun q362 eq362 gq362 => ?_)
                    have uq362 : q347 = q362 := (m355).trans eq362.symm
                    subst uq362
                    refine lv_aload_n hx hb dX9_tells_90 rfl (lv_at hl334 1 rfl) ?_
                    refine x_gr C hTH354 (ci := 9) (k := 0) rfl inX9 (by decide) wF_X9_12 ga0 rg_68 rfl dX9_tells_91 (fun q363 eq363 gq363 => ?_)
                    refine x_gr C hTH354 (ci := 8) (k := 2) rfl inX8 (by decide) wF_X9_158 gq363 rg_0 rfl dX9_tells_94 (fun q364 eq364 gq364 => ?_)
                    refine lv_iload_n hx hb dX9_tells_97 rfl (lv_at hl334 2 rfl) ?_
                    refine x_ar C hTH354 rfl rfl gq364 rg_26 ⟨by omega, by show _ < ((2 : Nat) : Int); omega⟩ dX9_tells_98 (fun q365 eq365 gq365 => ?_)
                    refine lv_iload_n hx hb dX9_tells_99 rfl (lv_at hl334 3 rfl) ?_
                    refine lv_iload_n hx hb dX9_tells_100 rfl (lv_at hl334 4 rfl) ?_
                    refine x_V (As := [.ref q365, .int x2, .int x3]) (rest := []) C (a_X6_told l K G H354 (x2) (x3) hTH354 gq347 gq365) yo_X6_told wM_X9_162 ⟨⟨by decide, by decide⟩, by decide, by decide⟩ (x_rv C hTH354 (ci := 6) rfl gq347 rg_82) rfl hl334.1 rfl (Nat.le_of_ble_eq_true rfl) dX9_tells_101 hSH354 (AE_sub (fun _ _ => rfl) (by decide) hSH354.1) (fun vH366 H366 locsH366 pH366 zH366 kH366 hSH366 => ?_)
                    obtain ⟨⟨x367, hvH366, bx367⟩, hTH366⟩ := pH366
                    subst hvH366
                    have m368 := (m355).trans (fR_kept (x_lt hTH354 kH366 ga0 (by decide))).symm
                    have m369 := (m356).trans (fR_kept (x_lt hTH354 kH366 gq330 (by decide))).symm
                    have m370 := (m357).trans (fI_kept (x_lt hTH354 kH366 gq348 (by decide))).symm
                    have m371 := (m358).trans (fR_kept (x_lt hTH354 kH366 gq330 (by decide))).symm
                    have m372 := (m359).trans (fI_kept (x_lt hTH354 kH366 gq350 (by decide))).symm
                    have m373 := (m360).trans (fR_kept (x_lt hTH354 kH366 gq330 (by decide))).symm
                    have m374 := (m361).trans (fI_kept (x_lt hTH354 kH366 gq352 (by decide))).symm
                    have m375 := (eq363).trans (fR_kept (x_lt hTH354 kH366 ga0 (by decide))).symm
                    have m376 := (eq364).trans (fR_kept (x_lt hTH354 kH366 gq363 (by decide))).symm
                    refine W.eq (g2 := F0 m 104 ls333 [.int x367]) rfl ?_
                    exact x_iret C hQ dX9_tells_104 hSH366 (by decide) (by decide) (⟨x367, rfl, hTH366⟩)
                  · have k346 := i_eq c345
                    exfalso
                    omega
                · subst hvH344
                  refine W.eq (g2 := F0 m 45 ls333 [.int 0]) rfl ?_
                  refine lv_if_ne (tgt := 51) hx hb dX9_tells_45 (by decide) (fun c377 => ?_) (fun c377 => ?_)
                  · have k378 := i_ne c377
                    exfalso
                    omega
                  · have k378 := i_eq c377
                    exact J48 ls333 H329 locsH344 (lv_sub hl334 [] rfl) hTH329 hSH344 
            · subst hvH341
              refine W.eq (g2 := F0 m 38 ls333 [.int 0]) rfl ?_
              refine lv_if_eq (tgt := 48) hx hb dX9_tells_38 (by decide) (fun c379 => ?_) (fun c379 => ?_)
              · have k380 := i_eq c379
                exact J48 ls333 H329 locsH341 (lv_sub hl334 [] rfl) hTH329 hSH341 
              · have k380 := i_ne c379
                exfalso
                omega
        · subst hvH338
          refine W.eq (g2 := F0 m 29 ls333 [.int 0]) rfl ?_
          refine lv_if_eq (tgt := 48) hx hb dX9_tells_29 (by decide) (fun c381 => ?_) (fun c381 => ?_)
          · have k382 := i_eq c381
            exact J48 ls333 H329 locsH338 (lv_sub hl334 [] rfl) hTH329 hSH338 
          · have k382 := i_ne c381
            exfalso
            omega
    · subst hvH335
      refine W.eq (g2 := F0 m 20 ls333 [.int 0]) rfl ?_
      refine lv_if_eq (tgt := 48) hx hb dX9_tells_20 (by decide) (fun c383 => ?_) (fun c383 => ?_)
      · have k384 := i_eq c383
        exact J48 ls333 H329 locsH335 (lv_sub hl334 [] rfl) hTH329 hSH335 
      · have k384 := i_ne c383
        exfalso
        omega

set_option maxHeartbeats 4000000 in
set_option maxRecDepth 100000 in
theorem a_X9_tone (l : Launch) (K : KE) (G : Nat → Option Nat) (H : Heap) {a0 : Nat} (x1 : Int32) (x2 : Int32) (hT : TY K G H) (ga0 : G a0 = some 68) : MX l K yX9_tone cX9_tone 4 (some .int) 5 126 0 0 [.ref a0, .int x1, .int x2] H (AE G [83, 84] H.size) (fun v H1 => ∃ (r : Int32), v = some (.int r) ∧ TY K G H1) := by
  refine MX.of (by decide +kernel) (Nat.le_of_ble_eq_true rfl) ?_
  intro p e s m below meth c ls Q C hH hl hQ
  subst hH
  have C : CX p K s m _ meth c RX9 cX9_tone 4 (some .int) "tone" := C
  obtain ⟨hx, hb, hml, hown, hts, hKT, hr, hlocks, hnm⟩ := id C
  have hl : lv_has ls 4 [(0, .ref a0), (1, .int x1), (2, .int x2)] := hl
  have hS : va_S (AE G [83, 84] s.heap.size) s.heap s.heap [] := va_S.rf
  have n_m1 : ((-1) : Int32).toInt = -1 := rfl
  have n_0 : (0 : Int32).toInt = 0 := rfl
  have n_1 : (1 : Int32).toInt = 1 := rfl
  have J17 : ∀ (ls154 : Array Slot) (H153 : Heap) (locsH153 : List Loc) , lv_has ls154 4 [] → TY K G H153 → va_S (AE G [83, 84] s.heap.size) s.heap H153 locsH153 → W p l e ({ frames := 5, cells := 0, slots := 0, locals := 126 } : Room) s m (([.ref a0, .int x1, .int x2] : List Value).toArray) below meth c H153 locsH153 0 0 Q (F0 m 17 ls154 []) := by
    intro ls154 H153 locsH153  hl155 hTH153 hSH153 
    refine lv_iconst (v := (-1)) hx hb dX9_tone_17 (by decide) ?_
    exact x_iret C hQ dX9_tone_18 hSH153 (by decide) (by decide) (⟨(-1), rfl, hTH153⟩)
  refine lv_aload_n hx hb dX9_tone_0 rfl (lv_at hl 0 rfl) ?_
  refine lv_iload_n hx hb dX9_tone_1 rfl (lv_at hl 1 rfl) ?_
  refine x_V (As := [.int x1]) (rest := []) C (a_X9_barAt l K G s.heap (x1) hT ga0) yo_X9_barAt wM_X9_78 ⟨⟨by decide, by decide⟩, by decide, by decide⟩ (x_rv C hT (ci := 9) rfl ga0 rg_68) rfl hl.1 rfl (Nat.le_of_ble_eq_true rfl) dX9_tone_2 hS (AE_sub (fun _ _ => rfl) (by decide) hS.1) (fun vH157 H157 locsH157 pH157 zH157 kH157 hSH157 => ?_)
  have hTH157 := pH157.2
  rcases pH157.1 with hvH157 | ⟨q158, hvH157, gq158⟩
  · skip
    subst hvH157
    refine W.eq (g2 := F0 m 5 ls [.null]) rfl ?_
    refine lv_astore_nN (lv' := [(3, .null), (0, .ref a0), (1, .int x1), (2, .int x2)]) hx hb dX9_tone_5 rfl hl (by decide) rfl (fun ls159 hl160 => ?_)
    refine lv_aload_nN hx hb dX9_tone_6 rfl (lv_at hl160 0 rfl) ?_
    refine lv_ifnullN (tgt := 17) hx hb dX9_tone_7 (by decide) ?_
    exact J17 ls159 H157 locsH157 (lv_sub hl160 [] rfl) hTH157 hSH157 
  · skip
    subst hvH157
    refine W.eq (g2 := F0 m 5 ls [.ref q158]) rfl ?_
    refine lv_astore_n (lv' := [(3, .ref q158), (0, .ref a0), (1, .int x1), (2, .int x2)]) hx hb dX9_tone_5 rfl hl (by decide) rfl (fun ls161 hl162 => ?_)
    refine lv_aload_n hx hb dX9_tone_6 rfl (lv_at hl162 0 rfl) ?_
    refine lv_ifnull hx hb dX9_tone_7 ?_
    refine lv_iload_n hx hb dX9_tone_10 rfl (lv_at hl162 3 rfl) ?_
    refine x_S (As := [.int x2]) (rest := []) C (c_X9_isTone l K G H157 (x2) hTH157) yo_X9_isTone wM_X9_150 ⟨⟨by decide, by decide⟩, by decide, by decide⟩ rfl hl162.1 rfl (Nat.le_of_ble_eq_true rfl) dX9_tone_11 hSH157 (AE_sub (fun _ _ => rfl) (by decide) hSH157.1) (fun vH163 H163 locsH163 pH163 zH163 kH163 hSH163 => ?_)
    have hqH163 := pH163.1.symm
    subst hqH163
    rcases pH163.2 with ⟨hvH163, hcH163⟩ | ⟨hvH163, hcH163⟩
    · subst hvH163
      refine W.eq (g2 := F0 m 14 ls161 [.int 1]) rfl ?_
      refine lv_if_ne (tgt := 19) hx hb dX9_tone_14 (by decide) (fun c164 => ?_) (fun c164 => ?_)
      · have k165 := i_ne c164
        refine lv_aload_n hx hb dX9_tone_19 rfl (lv_at hl162 1 rfl) ?_
        refine lv_aload_n hx hb dX9_tone_20 rfl (lv_at hl162 0 rfl) ?_
        refine lv_iload_n hx hb dX9_tone_21 rfl (lv_at hl162 3 rfl) ?_
        refine x_V (As := [.ref q158, .int x2]) (rest := []) C (a_X9_toneNow l K G H157 (x2) hTH157 ga0 gq158) yo_X9_toneNow wM_X9_166 ⟨⟨by decide, by decide⟩, by decide, by decide⟩ (x_rv C hTH157 (ci := 9) rfl ga0 rg_68) rfl hl162.1 rfl (Nat.le_of_ble_eq_true rfl) dX9_tone_22 hSH163 (AE_sub (fun _ _ => rfl) (by decide) hSH163.1) (fun vH166 H166 locsH166 pH166 zH166 kH166 hSH166 => ?_)
        obtain ⟨⟨x167, hvH166, bx167⟩, hTH166⟩ := pH166
        subst hvH166
        refine W.eq (g2 := F0 m 25 ls161 [.int x167]) rfl ?_
        exact x_iret C hQ dX9_tone_25 hSH166 (by decide) (by decide) (⟨x167, rfl, hTH166⟩)
      · have k165 := i_eq c164
        exfalso
        omega
    · subst hvH163
      refine W.eq (g2 := F0 m 14 ls161 [.int 0]) rfl ?_
      refine lv_if_ne (tgt := 19) hx hb dX9_tone_14 (by decide) (fun c168 => ?_) (fun c168 => ?_)
      · have k169 := i_ne c168
        exfalso
        omega
      · have k169 := i_eq c168
        exact J17 ls161 H157 locsH163 (lv_sub hl162 [] rfl) hTH157 hSH163 

set_option maxHeartbeats 4000000 in
set_option maxRecDepth 100000 in
theorem a_X9_pass (l : Launch) (K : KE) (G : Nat → Option Nat) (H : Heap) {a0 : Nat} (x1 : Int32) (x2 : Int32) (x3 : Int32) (hT : TY K G H) (ga0 : G a0 = some 68) : MX l K yX9_pass cX9_pass 5 (some .int) 2 43 0 0 [.ref a0, .int x1, .int x2, .int x3] H (AE G [] H.size) (fun v H1 => ∃ (r : Int32), v = some (.int r) ∧ TY K G H1) := by
  refine MX.of (by decide +kernel) (Nat.le_of_ble_eq_true rfl) ?_
  intro p e s m below meth c ls Q C hH hl hQ
  subst hH
  have C : CX p K s m _ meth c RX9 cX9_pass 5 (some .int) "pass" := C
  obtain ⟨hx, hb, hml, hown, hts, hKT, hr, hlocks, hnm⟩ := id C
  have hl : lv_has ls 5 [(0, .ref a0), (1, .int x1), (2, .int x2), (3, .int x3)] := hl
  have hS : va_S (AE G [] s.heap.size) s.heap s.heap [] := va_S.rf
  have n_m1 : ((-1) : Int32).toInt = -1 := rfl
  have n_0 : (0 : Int32).toInt = 0 := rfl
  have n_1 : (1 : Int32).toInt = 1 := rfl
  have J25 : ∀ (ls182 : Array Slot) (H181 : Heap) (locsH181 : List Loc) , lv_has ls182 5 [] → TY K G H181 → va_S (AE G [] s.heap.size) s.heap H181 locsH181 → W p l e ({ frames := 2, cells := 0, slots := 0, locals := 43 } : Room) s m (([.ref a0, .int x1, .int x2, .int x3] : List Value).toArray) below meth c H181 locsH181 0 0 Q (F0 m 25 ls182 []) := by
    intro ls182 H181 locsH181  hl183 hTH181 hSH181 
    refine lv_iconst (v := (-1)) hx hb dX9_pass_25 (by decide) ?_
    exact x_iret C hQ dX9_pass_26 hSH181 (by decide) (by decide) (⟨(-1), rfl, hTH181⟩)
  refine lv_aload_n hx hb dX9_pass_0 rfl (lv_at hl 0 rfl) ?_
  refine lv_iload_n hx hb dX9_pass_1 rfl (lv_at hl 1 rfl) ?_
  refine x_V (As := [.int x1]) (rest := []) C (a_X9_barAt l K G s.heap (x1) hT ga0) yo_X9_barAt wM_X9_78 ⟨⟨by decide, by decide⟩, by decide, by decide⟩ (x_rv C hT (ci := 9) rfl ga0 rg_68) rfl hl.1 rfl (Nat.le_of_ble_eq_true rfl) dX9_pass_2 hS (AE_sub (fun _ _ => rfl) (by decide) hS.1) (fun vH185 H185 locsH185 pH185 zH185 kH185 hSH185 => ?_)
  have hTH185 := pH185.2
  rcases pH185.1 with hvH185 | ⟨q186, hvH185, gq186⟩
  · skip
    subst hvH185
    refine W.eq (g2 := F0 m 5 ls [.null]) rfl ?_
    refine lv_astoreN (lv' := [(4, .null), (0, .ref a0), (1, .int x1), (2, .int x2), (3, .int x3)]) hx hb dX9_pass_5 hl (by decide) rfl (fun ls187 hl188 => ?_)
    refine lv_aloadN hx hb dX9_pass_7 (lv_at hl188 0 rfl) ?_
    refine lv_ifnullN (tgt := 25) hx hb dX9_pass_9 (by decide) ?_
    exact J25 ls187 H185 locsH185 (lv_sub hl188 [] rfl) hTH185 hSH185 
  · skip
    subst hvH185
    refine W.eq (g2 := F0 m 5 ls [.ref q186]) rfl ?_
    refine lv_astore (lv' := [(4, .ref q186), (0, .ref a0), (1, .int x1), (2, .int x2), (3, .int x3)]) hx hb dX9_pass_5 hl (by decide) rfl (fun ls189 hl190 => ?_)
    refine lv_aload hx hb dX9_pass_7 (lv_at hl190 0 rfl) ?_
    refine lv_ifnull hx hb dX9_pass_9 ?_
    refine lv_iload_n hx hb dX9_pass_12 rfl (lv_at hl190 3 rfl) ?_
    refine lv_iconst (v := 1) hx hb dX9_pass_13 (by decide) ?_
    refine lv_aload hx hb dX9_pass_14 (lv_at hl190 0 rfl) ?_
    refine x_gi C hTH185 (ci := 0) (k := 8) rfl inX0 (by decide) wF_X9_86 gq186 rg_1 rfl dX9_pass_16 (fun x191 ex191 bx191 => ?_)
    refine x_S (As := [.int x2, .int 1, .int x191]) (rest := []) C (c_X9_within l K G H185 (x2) (1) (x191) hTH185) yo_X9_within wM_X9_89 ⟨⟨by decide, by decide⟩, by decide, by decide⟩ rfl hl190.1 rfl (Nat.le_of_ble_eq_true rfl) dX9_pass_19 hSH185 (AE_sub (fun _ _ => rfl) (by decide) hSH185.1) (fun vH192 H192 locsH192 pH192 zH192 kH192 hSH192 => ?_)
    have hqH192 := pH192.1.symm
    subst hqH192
    rcases pH192.2 with ⟨hvH192, hcH192⟩ | ⟨hvH192, hcH192⟩
    · subst hvH192
      refine W.eq (g2 := F0 m 22 ls189 [.int 1]) rfl ?_
      refine lv_if_ne (tgt := 27) hx hb dX9_pass_22 (by decide) (fun c193 => ?_) (fun c193 => ?_)
      · have k194 := i_ne c193
        refine lv_iload_n hx hb dX9_pass_27 rfl (lv_at hl190 4 rfl) ?_
        by_cases c195 : x3 = 0
        · have kc195 := i_eq c195
          refine lv_lookup (tgt := 56) (off := 28) hx hb dX9_pass_28 (by decide) (by rw [c195]; rfl) (by decide) ?_
          refine lv_aload hx hb dX9_pass_56 (lv_at hl190 0 rfl) ?_
          refine x_gr C hTH185 (ci := 0) (k := 6) rfl inX0 (by decide) wF_X9_174 gq186 rg_1 rfl dX9_pass_58 (fun q196 eq196 gq196 => ?_)
          refine lv_iload_n hx hb dX9_pass_61 rfl (lv_at hl190 3 rfl) ?_
          refine lv_iconst (v := 1) hx hb dX9_pass_62 (by decide) ?_
          refine lv_isub hx hb dX9_pass_63 ?_
          refine lv_topi (fun x197 ex197 => ?_)
          have tx197 := i_sub ex197 (by omega)
          refine x_ai C hTH185 gq196 rg_7 ⟨by omega, by show _ < ((200 : Nat) : Int); omega⟩ dX9_pass_64 (fun x198 ex198 bx198 => ?_)
          exact x_iret C hQ dX9_pass_65 hSH192 (by decide) (by decide) (⟨x198, rfl, hTH185⟩)
        have kc195 := i_ne c195
        by_cases c199 : x3 = 1
        · have kc199 := i_eq c199
          refine lv_lookup (tgt := 66) (off := 38) hx hb dX9_pass_28 (by decide) (by rw [c199]; rfl) (by decide) ?_
          refine lv_aload hx hb dX9_pass_66 (lv_at hl190 0 rfl) ?_
          refine x_gr C hTH185 (ci := 0) (k := 7) rfl inX0 (by decide) wF_X9_177 gq186 rg_1 rfl dX9_pass_68 (fun q200 eq200 gq200 => ?_)
          refine lv_iload_n hx hb dX9_pass_71 rfl (lv_at hl190 3 rfl) ?_
          refine lv_iconst (v := 1) hx hb dX9_pass_72 (by decide) ?_
          refine lv_isub hx hb dX9_pass_73 ?_
          refine lv_topi (fun x201 ex201 => ?_)
          have tx201 := i_sub ex201 (by omega)
          refine x_ai C hTH185 gq200 rg_8 ⟨by omega, by show _ < ((200 : Nat) : Int); omega⟩ dX9_pass_74 (fun x202 ex202 bx202 => ?_)
          exact x_iret C hQ dX9_pass_75 hSH192 (by decide) (by decide) (⟨x202, rfl, hTH185⟩)
        have kc199 := i_ne c199
        refine lv_lookup (tgt := 76) (off := 48) hx hb dX9_pass_28 (by decide) (show Op.lookupswitch.offset [(0, 28), (1, 38)] 48 x3.toInt = 48 by rw [lv_osw (a := 0) c195 rfl, lv_osw (a := 1) c199 rfl]; rfl) (by decide) ?_
        refine lv_iconst (v := (-1)) hx hb dX9_pass_76 (by decide) ?_
        exact x_iret C hQ dX9_pass_77 hSH192 (by decide) (by decide) (⟨(-1), rfl, hTH185⟩)
      · have k194 := i_eq c193
        exfalso
        omega
    · subst hvH192
      refine W.eq (g2 := F0 m 22 ls189 [.int 0]) rfl ?_
      refine lv_if_ne (tgt := 27) hx hb dX9_pass_22 (by decide) (fun c203 => ?_) (fun c203 => ?_)
      · have k204 := i_ne c203
        exfalso
        omega
      · have k204 := i_eq c203
        exact J25 ls189 H185 locsH192 (lv_sub hl190 [] rfl) hTH185 hSH192 

set_option maxHeartbeats 4000000 in
set_option maxRecDepth 100000 in
theorem a_X9_state (l : Launch) (K : KE) (G : Nat → Option Nat) (H : Heap) {a0 : Nat} (x1 : Int32) (x2 : Int32) (hT : TY K G H) (ga0 : G a0 = some 68) : MX l K yX9_state cX9_state 4 (some .int) 6 148 0 0 [.ref a0, .int x1, .int x2] H (AE G [83, 84, 110] H.size) (fun v H1 => ∃ (r : Int32), v = some (.int r) ∧ TY K G H1) := by
  refine MX.of (by decide +kernel) (Nat.le_of_ble_eq_true rfl) ?_
  intro p e s m below meth c ls Q C hH hl hQ
  subst hH
  have C : CX p K s m _ meth c RX9 cX9_state 4 (some .int) "state" := C
  obtain ⟨hx, hb, hml, hown, hts, hKT, hr, hlocks, hnm⟩ := id C
  have hl : lv_has ls 4 [(0, .ref a0), (1, .int x1), (2, .int x2)] := hl
  have hS : va_S (AE G [83, 84, 110] s.heap.size) s.heap s.heap [] := va_S.rf
  have n_m2 : ((-2) : Int32).toInt = -2 := rfl
  have n_0 : (0 : Int32).toInt = 0 := rfl
  have n_1 : (1 : Int32).toInt = 1 := rfl
  have n_2 : (2 : Int32).toInt = 2 := rfl
  have n_3 : (3 : Int32).toInt = 3 := rfl
  have n_4 : (4 : Int32).toInt = 4 := rfl
  have n_5 : (5 : Int32).toInt = 5 := rfl
  have n_6 : (6 : Int32).toInt = 6 := rfl
  have n_7 : (7 : Int32).toInt = 7 := rfl
  have n_8 : (8 : Int32).toInt = 8 := rfl
  have n_9 : (9 : Int32).toInt = 9 := rfl
  have J91 : ∀ (ls256 : Array Slot) (H255 : Heap) (locsH255 : List Loc) (x258 : Int32), lv_has ls256 4 [] → TY K G H255 → va_S (AE G [83, 84, 110] s.heap.size) s.heap H255 locsH255 → (0 ≤ x258.toInt ∧ x258.toInt ≤ 1) → W p l e ({ frames := 6, cells := 0, slots := 0, locals := 148 } : Room) s m (([.ref a0, .int x1, .int x2] : List Value).toArray) below meth c H255 locsH255 0 0 Q (F0 m 91 ls256 [.int x258]) := by
    intro ls256 H255 locsH255 x258 hl257 hTH255 hSH255 bx258
    exact x_iret C hQ dX9_state_91 hSH255 (by decide) (by decide) (⟨x258, rfl, hTH255⟩)
  have J105 : ∀ (ls261 : Array Slot) (H260 : Heap) (locsH260 : List Loc) (x263 : Int32), lv_has ls261 4 [] → TY K G H260 → va_S (AE G [83, 84, 110] s.heap.size) s.heap H260 locsH260 → (0 ≤ x263.toInt ∧ x263.toInt ≤ 1) → W p l e ({ frames := 6, cells := 0, slots := 0, locals := 148 } : Room) s m (([.ref a0, .int x1, .int x2] : List Value).toArray) below meth c H260 locsH260 0 0 Q (F0 m 105 ls261 [.int x263]) := by
    intro ls261 H260 locsH260 x263 hl262 hTH260 hSH260 bx263
    exact x_iret C hQ dX9_state_105 hSH260 (by decide) (by decide) (⟨x263, rfl, hTH260⟩)
  refine lv_aload_n hx hb dX9_state_0 rfl (lv_at hl 0 rfl) ?_
  refine lv_iload_n hx hb dX9_state_1 rfl (lv_at hl 1 rfl) ?_
  refine x_V (As := [.int x1]) (rest := []) C (a_X9_barAt l K G s.heap (x1) hT ga0) yo_X9_barAt wM_X9_78 ⟨⟨by decide, by decide⟩, by decide, by decide⟩ (x_rv C hT (ci := 9) rfl ga0 rg_68) rfl hl.1 rfl (Nat.le_of_ble_eq_true rfl) dX9_state_2 hS (AE_sub (fun _ _ => rfl) (by decide) hS.1) (fun vH265 H265 locsH265 pH265 zH265 kH265 hSH265 => ?_)
  have hTH265 := pH265.2
  rcases pH265.1 with hvH265 | ⟨q266, hvH265, gq266⟩
  · skip
    subst hvH265
    refine W.eq (g2 := F0 m 5 ls [.null]) rfl ?_
    refine lv_astore_nN (lv' := [(3, .null), (0, .ref a0), (1, .int x1), (2, .int x2)]) hx hb dX9_state_5 rfl hl (by decide) rfl (fun ls267 hl268 => ?_)
    refine lv_aload_nN hx hb dX9_state_6 rfl (lv_at hl268 0 rfl) ?_
    refine lv_ifnonnullN hx hb dX9_state_7 ?_
    refine lv_bipush (v := (-2)) hx hb dX9_state_10 (by decide) ?_
    exact x_iret C hQ dX9_state_12 hSH265 (by decide) (by decide) (⟨(-2), rfl, hTH265⟩)
  · skip
    subst hvH265
    refine W.eq (g2 := F0 m 5 ls [.ref q266]) rfl ?_
    refine lv_astore_n (lv' := [(3, .ref q266), (0, .ref a0), (1, .int x1), (2, .int x2)]) hx hb dX9_state_5 rfl hl (by decide) rfl (fun ls269 hl270 => ?_)
    refine lv_aload_n hx hb dX9_state_6 rfl (lv_at hl270 0 rfl) ?_
    refine lv_ifnonnull (tgt := 13) hx hb dX9_state_7 (by decide) ?_
    refine lv_iload_n hx hb dX9_state_13 rfl (lv_at hl270 3 rfl) ?_
    by_cases c271 : x2 = 0
    · have kc271 := i_eq c271
      refine lv_tableIn (tgt := 68) hx hb dX9_state_14 (by omega) (by omega) (off := 54) (by rw [c271]; rfl) (by decide) ?_
      refine lv_aload_n hx hb dX9_state_68 rfl (lv_at hl270 0 rfl) ?_
      refine x_gi C hTH265 (ci := 0) (k := 0) rfl inX0 (by decide) wF_X9_187 gq266 rg_1 rfl dX9_state_69 (fun x272 ex272 bx272 => ?_)
      exact x_iret C hQ dX9_state_72 hSH265 (by decide) (by decide) (⟨x272, rfl, hTH265⟩)
    have kc271 := i_ne c271
    by_cases c273 : x2 = 1
    · have kc273 := i_eq c273
      refine lv_tableIn (tgt := 73) hx hb dX9_state_14 (by omega) (by omega) (off := 59) (by rw [c273]; rfl) (by decide) ?_
      refine lv_aload_n hx hb dX9_state_73 rfl (lv_at hl270 0 rfl) ?_
      refine x_gi C hTH265 (ci := 0) (k := 8) rfl inX0 (by decide) wF_X9_86 gq266 rg_1 rfl dX9_state_74 (fun x274 ex274 bx274 => ?_)
      exact x_iret C hQ dX9_state_77 hSH265 (by decide) (by decide) (⟨x274, rfl, hTH265⟩)
    have kc273 := i_ne c273
    by_cases c275 : x2 = 2
    · have kc275 := i_eq c275
      refine lv_tableIn (tgt := 78) hx hb dX9_state_14 (by omega) (by omega) (off := 64) (by rw [c275]; rfl) (by decide) ?_
      refine lv_aload_n hx hb dX9_state_78 rfl (lv_at hl270 1 rfl) ?_
      refine lv_aload_n hx hb dX9_state_79 rfl (lv_at hl270 0 rfl) ?_
      refine x_V (As := [.ref q266]) (rest := []) C (a_X9_isLost l K G H265  hTH265 ga0 gq266) yo_X9_isLost wM_X9_190 ⟨⟨by decide, by decide⟩, by decide, by decide⟩ (x_rv C hTH265 (ci := 9) rfl ga0 rg_68) rfl hl270.1 rfl (Nat.le_of_ble_eq_true rfl) dX9_state_80 hSH265 (AE_sub (fun _ _ => rfl) (by decide) hSH265.1) (fun vH276 H276 locsH276 pH276 zH276 kH276 hSH276 => ?_)
      obtain ⟨⟨x277, hvH276, bx277⟩, hTH276⟩ := pH276
      subst hvH276
      refine W.eq (g2 := F0 m 83 ls269 [.int x277]) rfl ?_
      refine lv_if_eq (tgt := 90) hx hb dX9_state_83 (by decide) (fun c278 => ?_) (fun c278 => ?_)
      · have k279 := i_eq c278
        refine lv_iconst (v := 0) hx hb dX9_state_90 (by decide) ?_
        exact J91 ls269 H276 locsH276 (0) (lv_sub hl270 [] rfl) hTH276 hSH276 (by decide)
      · have k279 := i_ne c278
        refine lv_iconst (v := 1) hx hb dX9_state_86 (by decide) ?_
        refine lv_goto (tgt := 91) hx hb dX9_state_87 (by decide) ?_
        exact J91 ls269 H276 locsH276 (1) (lv_sub hl270 [] rfl) hTH276 hSH276 (by decide)
    have kc275 := i_ne c275
    by_cases c280 : x2 = 3
    · have kc280 := i_eq c280
      refine lv_tableIn (tgt := 92) hx hb dX9_state_14 (by omega) (by omega) (off := 78) (by rw [c280]; rfl) (by decide) ?_
      refine lv_aload_n hx hb dX9_state_92 rfl (lv_at hl270 1 rfl) ?_
      refine lv_aload_n hx hb dX9_state_93 rfl (lv_at hl270 0 rfl) ?_
      refine x_V (As := [.ref q266]) (rest := []) C (a_X9_isTrue l K G H265  hTH265 ga0 gq266) yo_X9_isTrue wM_X9_194 ⟨⟨by decide, by decide⟩, by decide, by decide⟩ (x_rv C hTH265 (ci := 9) rfl ga0 rg_68) rfl hl270.1 rfl (Nat.le_of_ble_eq_true rfl) dX9_state_94 hSH265 (AE_sub (fun _ _ => rfl) (by decide) hSH265.1) (fun vH281 H281 locsH281 pH281 zH281 kH281 hSH281 => ?_)
      obtain ⟨⟨x282, hvH281, bx282⟩, hTH281⟩ := pH281
      subst hvH281
      refine W.eq (g2 := F0 m 97 ls269 [.int x282]) rfl ?_
      refine lv_if_eq (tgt := 104) hx hb dX9_state_97 (by decide) (fun c283 => ?_) (fun c283 => ?_)
      · have k284 := i_eq c283
        refine lv_iconst (v := 0) hx hb dX9_state_104 (by decide) ?_
        exact J105 ls269 H281 locsH281 (0) (lv_sub hl270 [] rfl) hTH281 hSH281 (by decide)
      · have k284 := i_ne c283
        refine lv_iconst (v := 1) hx hb dX9_state_100 (by decide) ?_
        refine lv_goto (tgt := 105) hx hb dX9_state_101 (by decide) ?_
        exact J105 ls269 H281 locsH281 (1) (lv_sub hl270 [] rfl) hTH281 hSH281 (by decide)
    have kc280 := i_ne c280
    by_cases c285 : x2 = 4
    · have kc285 := i_eq c285
      refine lv_tableIn (tgt := 106) hx hb dX9_state_14 (by omega) (by omega) (off := 92) (by rw [c285]; rfl) (by decide) ?_
      refine lv_aload_n hx hb dX9_state_106 rfl (lv_at hl270 0 rfl) ?_
      refine x_gi C hTH265 (ci := 0) (k := 9) rfl inX0 (by decide) wF_X9_197 gq266 rg_1 rfl dX9_state_107 (fun x286 ex286 bx286 => ?_)
      exact x_iret C hQ dX9_state_110 hSH265 (by decide) (by decide) (⟨x286, rfl, hTH265⟩)
    have kc285 := i_ne c285
    by_cases c287 : x2 = 5
    · have kc287 := i_eq c287
      refine lv_tableIn (tgt := 111) hx hb dX9_state_14 (by omega) (by omega) (off := 97) (by rw [c287]; rfl) (by decide) ?_
      refine lv_aload_n hx hb dX9_state_111 rfl (lv_at hl270 0 rfl) ?_
      refine x_gr C hTH265 (ci := 0) (k := 5) rfl inX0 (by decide) wF_X9_181 gq266 rg_1 rfl dX9_state_112 (fun q288 eq288 gq288 => ?_)
      refine lv_iconst (v := 0) hx hb dX9_state_115 (by decide) ?_
      refine x_ai C hTH265 gq288 rg_6 (by decide) dX9_state_116 (fun x289 ex289 bx289 => ?_)
      exact x_iret C hQ dX9_state_117 hSH265 (by decide) (by decide) (⟨x289, rfl, hTH265⟩)
    have kc287 := i_ne c287
    by_cases c290 : x2 = 6
    · have kc290 := i_eq c290
      refine lv_tableIn (tgt := 118) hx hb dX9_state_14 (by omega) (by omega) (off := 104) (by rw [c290]; rfl) (by decide) ?_
      refine lv_aload_n hx hb dX9_state_118 rfl (lv_at hl270 0 rfl) ?_
      refine x_gr C hTH265 (ci := 0) (k := 5) rfl inX0 (by decide) wF_X9_181 gq266 rg_1 rfl dX9_state_119 (fun q291 eq291 gq291 => ?_)
      refine lv_iconst (v := 1) hx hb dX9_state_122 (by decide) ?_
      refine x_ai C hTH265 gq291 rg_6 (by decide) dX9_state_123 (fun x292 ex292 bx292 => ?_)
      exact x_iret C hQ dX9_state_124 hSH265 (by decide) (by decide) (⟨x292, rfl, hTH265⟩)
    have kc290 := i_ne c290
    by_cases c293 : x2 = 7
    · have kc293 := i_eq c293
      refine lv_tableIn (tgt := 125) hx hb dX9_state_14 (by omega) (by omega) (off := 111) (by rw [c293]; rfl) (by decide) ?_
      refine lv_aload_n hx hb dX9_state_125 rfl (lv_at hl270 0 rfl) ?_
      refine x_gr C hTH265 (ci := 0) (k := 5) rfl inX0 (by decide) wF_X9_181 gq266 rg_1 rfl dX9_state_126 (fun q294 eq294 gq294 => ?_)
      refine lv_iconst (v := 2) hx hb dX9_state_129 (by decide) ?_
      refine x_ai C hTH265 gq294 rg_6 (by decide) dX9_state_130 (fun x295 ex295 bx295 => ?_)
      exact x_iret C hQ dX9_state_131 hSH265 (by decide) (by decide) (⟨x295, rfl, hTH265⟩)
    have kc293 := i_ne c293
    by_cases c296 : x2 = 8
    · have kc296 := i_eq c296
      refine lv_tableIn (tgt := 132) hx hb dX9_state_14 (by omega) (by omega) (off := 118) (by rw [c296]; rfl) (by decide) ?_
      refine lv_aload_n hx hb dX9_state_132 rfl (lv_at hl270 0 rfl) ?_
      refine x_gi C hTH265 (ci := 0) (k := 14) rfl inX0 (by decide) wF_X9_200 gq266 rg_1 rfl dX9_state_133 (fun x297 ex297 bx297 => ?_)
      exact x_iret C hQ dX9_state_136 hSH265 (by decide) (by decide) (⟨x297, rfl, hTH265⟩)
    have kc296 := i_ne c296
    by_cases c298 : x2 = 9
    · have kc298 := i_eq c298
      refine lv_tableIn (tgt := 137) hx hb dX9_state_14 (by omega) (by omega) (off := 123) (by rw [c298]; rfl) (by decide) ?_
      refine lv_aload_n hx hb dX9_state_137 rfl (lv_at hl270 1 rfl) ?_
      refine lv_aload_n hx hb dX9_state_138 rfl (lv_at hl270 0 rfl) ?_
      refine x_V (As := [.ref q266]) (rest := []) C (a_X9_amiss l K G H265  hTH265 ga0 gq266) yo_X9_amiss wM_X9_203 ⟨⟨by decide, by decide⟩, by decide, by decide⟩ (x_rv C hTH265 (ci := 9) rfl ga0 rg_68) rfl hl270.1 rfl (Nat.le_of_ble_eq_true rfl) dX9_state_139 hSH265 (AE_sub (fun _ _ => rfl) (by decide) hSH265.1) (fun vH299 H299 locsH299 pH299 zH299 kH299 hSH299 => ?_)
      obtain ⟨⟨x300, hvH299, bx300⟩, hTH299⟩ := pH299
      subst hvH299
      refine W.eq (g2 := F0 m 142 ls269 [.int x300]) rfl ?_
      exact x_iret C hQ dX9_state_142 hSH299 (by decide) (by decide) (⟨x300, rfl, hTH299⟩)
    have kc298 := i_ne c298
    refine lv_tableOut (tgt := 143) hx hb dX9_state_14 (by omega) (by decide) ?_
    refine lv_bipush (v := (-2)) hx hb dX9_state_143 (by decide) ?_
    exact x_iret C hQ dX9_state_145 hSH265 (by decide) (by decide) (⟨(-2), rfl, hTH265⟩)

set_option maxHeartbeats 4000000 in
set_option maxRecDepth 100000 in
theorem a_X9_takes (l : Launch) (K : KE) (G : Nat → Option Nat) (H : Heap) {a0 : Nat} (x1 : Int32) (x2 : Int32) (x3 : Int32) (hT : TY K G H) (ga0 : G a0 = some 68) : MX l K yX9_takes cX9_takes 5 (some .int) 5 126 0 0 [.ref a0, .int x1, .int x2, .int x3] H (AE G [111, 83, 84] H.size) (fun v H1 => ∃ (r : Int32), v = some (.int r) ∧ TY K G H1) := by
  refine MX.of (by decide +kernel) (Nat.le_of_ble_eq_true rfl) ?_
  intro p e s m below meth c ls Q C hH hl hQ
  subst hH
  have C : CX p K s m _ meth c RX9 cX9_takes 5 (some .int) "takes" := C
  obtain ⟨hx, hb, hml, hown, hts, hKT, hr, hlocks, hnm⟩ := id C
  have hl : lv_has ls 5 [(0, .ref a0), (1, .int x1), (2, .int x2), (3, .int x3)] := hl
  have hS : va_S (AE G [111, 83, 84] s.heap.size) s.heap s.heap [] := va_S.rf
  have n_m10000000 : ((-10000000) : Int32).toInt = -10000000 := rfl
  have n_0 : (0 : Int32).toInt = 0 := rfl
  have n_1 : (1 : Int32).toInt = 1 := rfl
  have J39 : ∀ (ls310 : Array Slot) (H309 : Heap) (locsH309 : List Loc) , lv_has ls310 5 [] → TY K G H309 → va_S (AE G [111, 83, 84] s.heap.size) s.heap H309 locsH309 → W p l e ({ frames := 5, cells := 0, slots := 0, locals := 126 } : Room) s m (([.ref a0, .int x1, .int x2, .int x3] : List Value).toArray) below meth c H309 locsH309 0 0 Q (F0 m 39 ls310 []) := by
    intro ls310 H309 locsH309  hl311 hTH309 hSH309 
    refine lv_ldc (v := (-10000000)) hx hb hown (hts _ wK_X9_207) dX9_takes_39 ?_
    exact x_iret C hQ dX9_takes_41 hSH309 (by decide) (by decide) (⟨(-10000000), rfl, hTH309⟩)
  refine lv_aload_n hx hb dX9_takes_0 rfl (lv_at hl 0 rfl) ?_
  refine lv_iload_n hx hb dX9_takes_1 rfl (lv_at hl 1 rfl) ?_
  refine x_V (As := [.int x1]) (rest := []) C (a_X9_barAt l K G s.heap (x1) hT ga0) yo_X9_barAt wM_X9_78 ⟨⟨by decide, by decide⟩, by decide, by decide⟩ (x_rv C hT (ci := 9) rfl ga0 rg_68) rfl hl.1 rfl (Nat.le_of_ble_eq_true rfl) dX9_takes_2 hS (AE_sub (fun _ _ => rfl) (by decide) hS.1) (fun vH313 H313 locsH313 pH313 zH313 kH313 hSH313 => ?_)
  have hTH313 := pH313.2
  rcases pH313.1 with hvH313 | ⟨q314, hvH313, gq314⟩
  · skip
    subst hvH313
    refine W.eq (g2 := F0 m 5 ls [.null]) rfl ?_
    refine lv_astoreN (lv' := [(4, .null), (0, .ref a0), (1, .int x1), (2, .int x2), (3, .int x3)]) hx hb dX9_takes_5 hl (by decide) rfl (fun ls315 hl316 => ?_)
    refine lv_aloadN hx hb dX9_takes_7 (lv_at hl316 0 rfl) ?_
    refine lv_ifnullN (tgt := 39) hx hb dX9_takes_9 (by decide) ?_
    exact J39 ls315 H313 locsH313 (lv_sub hl316 [] rfl) hTH313 hSH313 
  · skip
    subst hvH313
    refine W.eq (g2 := F0 m 5 ls [.ref q314]) rfl ?_
    refine lv_astore (lv' := [(4, .ref q314), (0, .ref a0), (1, .int x1), (2, .int x2), (3, .int x3)]) hx hb dX9_takes_5 hl (by decide) rfl (fun ls317 hl318 => ?_)
    refine lv_aload hx hb dX9_takes_7 (lv_at hl318 0 rfl) ?_
    refine lv_ifnull hx hb dX9_takes_9 ?_
    refine lv_aload hx hb dX9_takes_12 (lv_at hl318 0 rfl) ?_
    refine lv_iload_n hx hb dX9_takes_14 rfl (lv_at hl318 3 rfl) ?_
    refine x_V (As := [.int x2]) (rest := []) C (a_X0_has l K G H313 (x2) hTH313 gq314) yo_X0_has wM_X9_82 ⟨⟨by decide, by decide⟩, by decide, by decide⟩ (x_rv C hTH313 (ci := 0) rfl gq314 rg_1) rfl hl318.1 rfl (Nat.le_of_ble_eq_true rfl) dX9_takes_15 hSH313 (AE_sub (fun _ _ => rfl) (by decide) hSH313.1) (fun vH319 H319 locsH319 pH319 zH319 kH319 hSH319 => ?_)
    have hqH319 := pH319.1.symm
    subst hqH319
    rcases pH319.2 with ⟨hvH319, hcH319⟩ | hvH319
    · subst hvH319
      refine W.eq (g2 := F0 m 18 ls317 [.int 1]) rfl ?_
      refine lv_if_eq (tgt := 39) hx hb dX9_takes_18 (by decide) (fun c320 => ?_) (fun c320 => ?_)
      · have k321 := i_eq c320
        exfalso
        omega
      · have k321 := i_ne c320
        refine lv_iload_n hx hb dX9_takes_21 rfl (lv_at hl318 4 rfl) ?_
        refine x_S (As := [.int x3]) (rest := []) C (c_X9_isTone l K G H313 (x3) hTH313) yo_X9_isTone wM_X9_150 ⟨⟨by decide, by decide⟩, by decide, by decide⟩ rfl hl318.1 rfl (Nat.le_of_ble_eq_true rfl) dX9_takes_22 hSH319 (AE_sub (fun _ _ => rfl) (by decide) hSH319.1) (fun vH322 H322 locsH322 pH322 zH322 kH322 hSH322 => ?_)
        have hqH322 := pH322.1.symm
        subst hqH322
        rcases pH322.2 with ⟨hvH322, hcH322⟩ | ⟨hvH322, hcH322⟩
        · subst hvH322
          refine W.eq (g2 := F0 m 25 ls317 [.int 1]) rfl ?_
          refine lv_if_eq (tgt := 39) hx hb dX9_takes_25 (by decide) (fun c323 => ?_) (fun c323 => ?_)
          · have k324 := i_eq c323
            exfalso
            omega
          · have k324 := i_ne c323
            refine lv_aload hx hb dX9_takes_28 (lv_at hl318 0 rfl) ?_
            refine x_gr C hTH313 (ci := 0) (k := 1) rfl inX0 (by decide) wF_X9_93 gq314 rg_1 rfl dX9_takes_30 (fun q325 eq325 gq325 => ?_)
            refine lv_iload_n hx hb dX9_takes_33 rfl (lv_at hl318 3 rfl) ?_
            refine x_ai C hTH313 gq325 rg_2 ⟨by omega, by show _ < ((16 : Nat) : Int); omega⟩ dX9_takes_34 (fun x326 ex326 bx326 => ?_)
            refine lv_iconst (v := 1) hx hb dX9_takes_35 (by decide) ?_
            refine lv_icmp_gt (tgt := 42) hx hb dX9_takes_36 (by decide) (fun c327 => ?_) (fun c327 => ?_)
            · have k328 := i_lt c327
              refine lv_aload hx hb dX9_takes_42 (lv_at hl318 0 rfl) ?_
              refine lv_aload_n hx hb dX9_takes_44 rfl (lv_at hl318 1 rfl) ?_
              refine x_gr C hTH313 (ci := 9) (k := 11) rfl inX9 (by decide) wF_X9_61 ga0 rg_68 rfl dX9_takes_45 (fun q329 eq329 gq329 => ?_)
              refine lv_iload_n hx hb dX9_takes_48 rfl (lv_at hl318 3 rfl) ?_
              refine x_V (As := [.ref q329, .int x2]) (rest := []) C (a_X0_thinnedCopy_m l K G H313 (x2) hTH313 gq314 gq329 (by omega)) yo_X0_thinnedCopy wM_X9_208 ⟨⟨by decide, by decide⟩, by decide, by decide⟩ (x_rv C hTH313 (ci := 0) rfl gq314 rg_1) rfl hl318.1 rfl (Nat.le_of_ble_eq_true rfl) dX9_takes_49 hSH322 (AE_sub (fun _ _ => rfl) (by decide) hSH322.1) (fun vH330 H330 locsH330 pH330 zH330 kH330 hSH330 => ?_)
              obtain ⟨hvH330, hTH330⟩ := pH330
              subst hvH330
              have m331 := (eq325).trans (fR_kept (x_lt hTH313 kH330 gq314 (by decide))).symm
              have m332 := (ex326).trans (fI_kept (x_lt hTH313 kH330 gq325 (by decide))).symm
              have m333 := (eq329).trans (fR_kept (x_lt hTH313 kH330 ga0 (by decide))).symm
              refine W.eq (g2 := F0 m 52 ls317 []) rfl ?_
              refine lv_aload_n hx hb dX9_takes_52 rfl (lv_at hl318 1 rfl) ?_
              refine lv_aload hx hb dX9_takes_53 (lv_at hl318 0 rfl) ?_
              refine lv_iload_n hx hb dX9_takes_55 rfl (lv_at hl318 4 rfl) ?_
              refine x_V (As := [.ref q314, .int x3]) (rest := []) C (a_X9_toneNow l K G H330 (x3) hTH330 ga0 gq314) yo_X9_toneNow wM_X9_166 ⟨⟨by decide, by decide⟩, by decide, by decide⟩ (x_rv C hTH330 (ci := 9) rfl ga0 rg_68) rfl hl318.1 rfl (Nat.le_of_ble_eq_true rfl) dX9_takes_56 hSH330 (AE_sub (fun _ _ => rfl) (by decide) hSH330.1) (fun vH334 H334 locsH334 pH334 zH334 kH334 hSH334 => ?_)
              obtain ⟨⟨x335, hvH334, bx335⟩, hTH334⟩ := pH334
              subst hvH334
              have m336 := (m331).trans (fR_kept (x_lt hTH330 kH334 gq314 (by decide))).symm
              have m337 := (m332).trans (fI_kept (x_lt hTH330 kH334 gq325 (by decide))).symm
              have m338 := (m333).trans (fR_kept (x_lt hTH330 kH334 ga0 (by decide))).symm
              refine W.eq (g2 := F0 m 59 ls317 [.int x335]) rfl ?_
              refine lv_aload_n hx hb dX9_takes_59 rfl (lv_at hl318 1 rfl) ?_
              refine x_gr C hTH334 (ci := 9) (k := 5) rfl inX9 (by decide) wF_X9_30 ga0 rg_68 rfl dX9_takes_60 (fun q339 eq339 gq339 => ?_)
              refine lv_aload_n hx hb dX9_takes_63 rfl (lv_at hl318 1 rfl) ?_
              refine x_gr C hTH334 (ci := 9) (k := 0) rfl inX9 (by decide) wF_X9_12 ga0 rg_68 rfl dX9_takes_64 (fun q340 eq340 gq340 => ?_)
              refine x_V (As := []) (rest := [.ref q339, .int x335]) C (a_X8_law l K G H334  hTH334 gq340) yo_X8_law wM_X9_212 ⟨⟨by decide, by decide⟩, by decide, by decide⟩ (x_rv C hTH334 (ci := 8) rfl gq340 rg_0) rfl hl318.1 rfl (Nat.le_of_ble_eq_true rfl) dX9_takes_67 hSH334 (AE_sub (fun _ _ => rfl) (by decide) hSH334.1) (fun vH341 H341 locsH341 pH341 zH341 kH341 hSH341 => ?_)
              have hTH341 := pH341.2
              have m342 := (m336).trans (fR_kept (x_lt hTH334 kH341 gq314 (by decide))).symm
              have m343 := (m337).trans (fI_kept (x_lt hTH334 kH341 gq325 (by decide))).symm
              have m344 := (m338).trans (fR_kept (x_lt hTH334 kH341 ga0 (by decide))).symm
              have m345 := (eq339).trans (fR_kept (x_lt hTH334 kH341 ga0 (by decide))).symm
              have m346 := (eq340).trans (fR_kept (x_lt hTH334 kH341 ga0 (by decide))).symm
              obtain ⟨q347, hvH341, gq347⟩ := pH341.1
              subst hvH341
              refine W.eq (g2 := F0 m 70 ls317 [.ref q347, .ref q339, .int x335]) rfl ?_
              refine lv_iload_n hx hb dX9_takes_70 rfl (lv_at hl318 4 rfl) ?_
              refine lv_aload hx hb dX9_takes_71 (lv_at hl318 0 rfl) ?_
              refine lv_aload_n hx hb dX9_takes_73 rfl (lv_at hl318 1 rfl) ?_
              refine x_gr C hTH341 (ci := 9) (k := 11) rfl inX9 (by decide) wF_X9_61 ga0 rg_68 rfl dX9_takes_74 (fun q348 eq348 gq348 => ?_)
              have uq348 : q329 = q348 := (m344).trans eq348.symm
              subst uq348
              refine lv_aload hx hb dX9_takes_77 (lv_at hl318 0 rfl) ?_
              refine x_gr C hTH341 (ci := 0) (k := 2) rfl inX0 (by decide) wF_X9_96 gq314 rg_1 rfl dX9_takes_79 (fun q349 eq349 gq349 => ?_)
              refine lv_aload hx hb dX9_takes_82 (lv_at hl318 0 rfl) ?_
              refine x_gr C hTH341 (ci := 0) (k := 4) rfl inX0 (by decide) wF_X9_102 gq314 rg_1 rfl dX9_takes_84 (fun q350 eq350 gq350 => ?_)
              refine x_V (As := [.ref q347, .int x3, .ref q314, .ref q329, .ref q349, .ref q350]) (rest := [.int x335]) C (a_X6_toneOf_t l K G H341 (x3) hTH341 gq339 gq347 gq314 gq329 gq349 gq350) yo_X6_toneOf wM_X9_216 ⟨⟨by decide, by decide⟩, by decide, by decide⟩ (x_rv C hTH341 (ci := 6) rfl gq339 rg_82) rfl hl318.1 rfl (Nat.le_of_ble_eq_true rfl) dX9_takes_87 hSH341 (AE_sub (fun _ _ => rfl) (by decide) hSH341.1) (fun vH351 H351 locsH351 pH351 zH351 kH351 hSH351 => ?_)
              obtain ⟨x352, hvH351, hTH351⟩ := pH351
              subst hvH351
              have m353 := (m342).trans (fR_kept (x_lt hTH341 kH351 gq314 (by decide))).symm
              have m354 := (m343).trans (fI_kept (x_lt hTH341 kH351 gq325 (by decide))).symm
              have m355 := (m344).trans (fR_kept (x_lt hTH341 kH351 ga0 (by decide))).symm
              have m356 := (m345).trans (fR_kept (x_lt hTH341 kH351 ga0 (by decide))).symm
              have m357 := (m346).trans (fR_kept (x_lt hTH341 kH351 ga0 (by decide))).symm
              have m358 := (eq349).trans (fR_kept (x_lt hTH341 kH351 gq314 (by decide))).symm
              have m359 := (eq350).trans (fR_kept (x_lt hTH341 kH351 gq314 (by decide))).symm
              refine W.eq (g2 := F0 m 90 ls317 [.int x352, .int x335]) rfl ?_
              refine lv_isub hx hb dX9_takes_90 ?_
              refine lv_topi (fun x360 ex360 => ?_)
              exact x_iret C hQ dX9_takes_91 hSH351 (by decide) (by decide) (⟨x360, rfl, hTH351⟩)
            · have k328 := i_nlt c327
              exact J39 ls317 H313 locsH322 (lv_sub hl318 [] rfl) hTH313 hSH322 
        · subst hvH322
          refine W.eq (g2 := F0 m 25 ls317 [.int 0]) rfl ?_
          refine lv_if_eq (tgt := 39) hx hb dX9_takes_25 (by decide) (fun c361 => ?_) (fun c361 => ?_)
          · have k362 := i_eq c361
            exact J39 ls317 H313 locsH322 (lv_sub hl318 [] rfl) hTH313 hSH322 
          · have k362 := i_ne c361
            exfalso
            omega
    · subst hvH319
      refine W.eq (g2 := F0 m 18 ls317 [.int 0]) rfl ?_
      refine lv_if_eq (tgt := 39) hx hb dX9_takes_18 (by decide) (fun c363 => ?_) (fun c363 => ?_)
      · have k364 := i_eq c363
        exact J39 ls317 H313 locsH319 (lv_sub hl318 [] rfl) hTH313 hSH319 
      · have k364 := i_ne c363
        exfalso
        omega

set_option maxHeartbeats 4000000 in
set_option maxRecDepth 100000 in
theorem a_X9_fewest (l : Launch) (K : KE) (G : Nat → Option Nat) (H : Heap) {a0 : Nat} (x1 : Int32) (x2 : Int32) (hT : TY K G H) (ga0 : G a0 = some 68) : MX l K yX9_fewest cX9_fewest 5 (some .int) 13 309 0 0 [.ref a0, .int x1, .int x2] H (AE G [89, 91, 92, 93, 94, 95, 96, 97, 90, 85, 86, 83, 84] H.size) (fun v H1 => ∃ (r : Int32), v = some (.int r) ∧ TY K G H1) := by
  refine MX.of (by decide +kernel) (Nat.le_of_ble_eq_true rfl) ?_
  intro p e s m below meth c ls Q C hH hl hQ
  subst hH
  have C : CX p K s m _ meth c RX9 cX9_fewest 5 (some .int) "fewest" := C
  obtain ⟨hx, hb, hml, hown, hts, hKT, hr, hlocks, hnm⟩ := id C
  have hl : lv_has ls 5 [(0, .ref a0), (1, .int x1), (2, .int x2)] := hl
  have hS : va_S (AE G [89, 91, 92, 93, 94, 95, 96, 97, 90, 85, 86, 83, 84] s.heap.size) s.heap s.heap [] := va_S.rf
  have n_m1 : ((-1) : Int32).toInt = -1 := rfl
  have n_0 : (0 : Int32).toInt = 0 := rfl
  have n_1 : (1 : Int32).toInt = 1 := rfl
  have n_5 : (5 : Int32).toInt = 5 := rfl
  have n_8 : (8 : Int32).toInt = 8 := rfl
  have J28 : ∀ (ls318 : Array Slot) (H317 : Heap) (locsH317 : List Loc) , lv_has ls318 5 [] → TY K G H317 → va_S (AE G [89, 91, 92, 93, 94, 95, 96, 97, 90, 85, 86, 83, 84] s.heap.size) s.heap H317 locsH317 → W p l e ({ frames := 13, cells := 0, slots := 0, locals := 309 } : Room) s m (([.ref a0, .int x1, .int x2] : List Value).toArray) below meth c H317 locsH317 0 0 Q (F0 m 28 ls318 []) := by
    intro ls318 H317 locsH317  hl319 hTH317 hSH317 
    refine lv_iconst (v := (-1)) hx hb dX9_fewest_28 (by decide) ?_
    exact x_iret C hQ dX9_fewest_29 hSH317 (by decide) (by decide) (⟨(-1), rfl, hTH317⟩)
  have J75 : ∀ (ls322 : Array Slot) (H321 : Heap) (locsH321 : List Loc) (x325 : Int32), lv_has ls322 5 [(2, .int x2), (4, .int x325)] → TY K G H321 → va_S (AE G [89, 91, 92, 93, 94, 95, 96, 97, 90, 85, 86, 83, 84] s.heap.size) s.heap H321 locsH321 → (0 ≤ x2.toInt ∧ x2.toInt ≤ 5) → ((-1) ≤ x325.toInt ∧ x325.toInt ≤ 5) → W p l e ({ frames := 13, cells := 0, slots := 0, locals := 309 } : Room) s m (([.ref a0, .int x1, .int x2] : List Value).toArray) below meth c H321 locsH321 0 0 Q (F0 m 75 ls322 []) := by
    intro ls322 H321 locsH321 x325 hl323 hTH321 hSH321 b324 bx325
    have J85 : ∀ (ls328 : Array Slot) (H327 : Heap) (locsH327 : List Loc) (x330 : Int32), lv_has ls328 5 [] → TY K G H327 → va_S (AE G [89, 91, 92, 93, 94, 95, 96, 97, 90, 85, 86, 83, 84] s.heap.size) s.heap H327 locsH327 → ((-1) ≤ x330.toInt ∧ x330.toInt ≤ 5) → W p l e ({ frames := 13, cells := 0, slots := 0, locals := 309 } : Room) s m (([.ref a0, .int x1, .int x2] : List Value).toArray) below meth c H327 locsH327 0 0 Q (F0 m 85 ls328 [.int x330]) := by
      intro ls328 H327 locsH327 x330 hl329 hTH327 hSH327 bx330
      exact x_iret C hQ dX9_fewest_85 hSH327 (by decide) (by decide) (⟨x330, rfl, hTH327⟩)
    refine lv_iload_n hx hb dX9_fewest_75 rfl (lv_at hl323 0 rfl) ?_
    refine lv_if_ne (tgt := 84) hx hb dX9_fewest_76 (by decide) (fun c332 => ?_) (fun c332 => ?_)
    · have k333 := i_ne c332
      refine lv_iconst (v := (-1)) hx hb dX9_fewest_84 (by decide) ?_
      exact J85 ls322 H321 locsH321 ((-1)) (lv_sub hl323 [] rfl) hTH321 hSH321 (by decide)
    · have k333 := i_eq c332
      refine lv_iload hx hb dX9_fewest_79 (lv_at hl323 1 rfl) ?_
      refine lv_goto (tgt := 85) hx hb dX9_fewest_81 (by decide) ?_
      exact J85 ls322 H321 locsH321 (x325) (lv_sub hl323 [] rfl) hTH321 hSH321 (by have := i_rng x325; omega)
  refine lv_aload_n hx hb dX9_fewest_0 rfl (lv_at hl 0 rfl) ?_
  refine lv_iload_n hx hb dX9_fewest_1 rfl (lv_at hl 1 rfl) ?_
  refine x_V (As := [.int x1]) (rest := []) C (a_X9_barAt l K G s.heap (x1) hT ga0) yo_X9_barAt wM_X9_78 ⟨⟨by decide, by decide⟩, by decide, by decide⟩ (x_rv C hT (ci := 9) rfl ga0 rg_68) rfl hl.1 rfl (Nat.le_of_ble_eq_true rfl) dX9_fewest_2 hS (AE_sub (fun _ _ => rfl) (by decide) hS.1) (fun vH334 H334 locsH334 pH334 zH334 kH334 hSH334 => ?_)
  have hTH334 := pH334.2
  rcases pH334.1 with hvH334 | ⟨q335, hvH334, gq335⟩
  · skip
    subst hvH334
    refine W.eq (g2 := F0 m 5 ls [.null]) rfl ?_
    refine lv_astore_nN (lv' := [(3, .null), (0, .ref a0), (1, .int x1), (2, .int x2)]) hx hb dX9_fewest_5 rfl hl (by decide) rfl (fun ls336 hl337 => ?_)
    refine lv_aload_nN hx hb dX9_fewest_6 rfl (lv_at hl337 0 rfl) ?_
    refine lv_ifnullN (tgt := 28) hx hb dX9_fewest_7 (by decide) ?_
    exact J28 ls336 H334 locsH334 (lv_sub hl337 [] rfl) hTH334 hSH334 
  · skip
    subst hvH334
    refine W.eq (g2 := F0 m 5 ls [.ref q335]) rfl ?_
    refine lv_astore_n (lv' := [(3, .ref q335), (0, .ref a0), (1, .int x1), (2, .int x2)]) hx hb dX9_fewest_5 rfl hl (by decide) rfl (fun ls338 hl339 => ?_)
    refine lv_aload_n hx hb dX9_fewest_6 rfl (lv_at hl339 0 rfl) ?_
    refine lv_ifnull hx hb dX9_fewest_7 ?_
    refine lv_aload_n hx hb dX9_fewest_10 rfl (lv_at hl339 0 rfl) ?_
    refine x_gi C hTH334 (ci := 0) (k := 0) rfl inX0 (by decide) wF_X9_187 gq335 rg_1 rfl dX9_fewest_11 (fun x340 ex340 bx340 => ?_)
    refine lv_bipush (v := 8) hx hb dX9_fewest_14 (by decide) ?_
    refine lv_icmp_gt (tgt := 28) hx hb dX9_fewest_16 (by decide) (fun c341 => ?_) (fun c341 => ?_)
    · have k342 := i_lt c341
      exact J28 ls338 H334 locsH334 (lv_sub hl339 [] rfl) hTH334 hSH334 
    · have k342 := i_nlt c341
      refine lv_iload_n hx hb dX9_fewest_19 rfl (lv_at hl339 3 rfl) ?_
      refine lv_iconst (v := 0) hx hb dX9_fewest_20 (by decide) ?_
      refine lv_iconst (v := 5) hx hb dX9_fewest_21 (by decide) ?_
      refine x_S (As := [.int x2, .int 0, .int 5]) (rest := []) C (c_X9_within l K G H334 (x2) (0) (5) hTH334) yo_X9_within wM_X9_89 ⟨⟨by decide, by decide⟩, by decide, by decide⟩ rfl hl339.1 rfl (Nat.le_of_ble_eq_true rfl) dX9_fewest_22 hSH334 (AE_sub (fun _ _ => rfl) (by decide) hSH334.1) (fun vH343 H343 locsH343 pH343 zH343 kH343 hSH343 => ?_)
      have hqH343 := pH343.1.symm
      subst hqH343
      rcases pH343.2 with ⟨hvH343, hcH343⟩ | ⟨hvH343, hcH343⟩
      · subst hvH343
        refine W.eq (g2 := F0 m 25 ls338 [.int 1]) rfl ?_
        refine lv_if_ne (tgt := 30) hx hb dX9_fewest_25 (by decide) (fun c344 => ?_) (fun c344 => ?_)
        · have k345 := i_ne c344
          refine lv_aload_n hx hb dX9_fewest_30 rfl (lv_at hl339 1 rfl) ?_
          refine x_gr C hTH334 (ci := 9) (k := 6) rfl inX9 (by decide) wF_X9_37 ga0 rg_68 rfl dX9_fewest_31 (fun q346 eq346 gq346 => ?_)
          refine lv_aload_n hx hb dX9_fewest_34 rfl (lv_at hl339 1 rfl) ?_
          refine x_gr C hTH334 (ci := 9) (k := 5) rfl inX9 (by decide) wF_X9_30 ga0 rg_68 rfl dX9_fewest_35 (fun q347 eq347 gq347 => ?_)
          refine lv_aload_n hx hb dX9_fewest_38 rfl (lv_at hl339 1 rfl) ?_
          refine x_gr C hTH334 (ci := 9) (k := 0) rfl inX9 (by decide) wF_X9_12 ga0 rg_68 rfl dX9_fewest_39 (fun q348 eq348 gq348 => ?_)
          refine x_V (As := []) (rest := [.ref q347, .ref q346]) C (a_X8_law l K G H334  hTH334 gq348) yo_X8_law wM_X9_212 ⟨⟨by decide, by decide⟩, by decide, by decide⟩ (x_rv C hTH334 (ci := 8) rfl gq348 rg_0) rfl hl339.1 rfl (Nat.le_of_ble_eq_true rfl) dX9_fewest_42 hSH343 (AE_sub (fun _ _ => rfl) (by decide) hSH343.1) (fun vH349 H349 locsH349 pH349 zH349 kH349 hSH349 => ?_)
          have hTH349 := pH349.2
          have m350 := (ex340).trans (fI_kept (x_lt hTH334 kH349 gq335 (by decide))).symm
          have m351 := (eq346).trans (fR_kept (x_lt hTH334 kH349 ga0 (by decide))).symm
          have m352 := (eq347).trans (fR_kept (x_lt hTH334 kH349 ga0 (by decide))).symm
          have m353 := (eq348).trans (fR_kept (x_lt hTH334 kH349 ga0 (by decide))).symm
          obtain ⟨q354, hvH349, gq354⟩ := pH349.1
          subst hvH349
          refine W.eq (g2 := F0 m 45 ls338 [.ref q354, .ref q347, .ref q346]) rfl ?_
          refine lv_aload_n hx hb dX9_fewest_45 rfl (lv_at hl339 0 rfl) ?_
          refine lv_aload_n hx hb dX9_fewest_46 rfl (lv_at hl339 1 rfl) ?_
          refine x_gr C hTH349 (ci := 9) (k := 0) rfl inX9 (by decide) wF_X9_12 ga0 rg_68 rfl dX9_fewest_47 (fun q355 eq355 gq355 => ?_)
          have uq355 : q348 = q355 := (m353).trans eq355.symm
          subst uq355
          refine x_gi C hTH349 (ci := 8) (k := 5) rfl inX8 (by decide) wF_X9_184 gq348 rg_0 rfl dX9_fewest_50 (fun x356 ex356 bx356 => ?_)
          refine x_V (As := [.ref q347, .ref q354, .ref q335, .int x356]) (rest := []) C (a_X3_prepare l K G H349 (x356) hTH349 gq346 gq347 gq354 gq335) yo_X3_prepare wM_X9_231 ⟨⟨by decide, by decide⟩, by decide, by decide⟩ (x_rv C hTH349 (ci := 3) rfl gq346 rg_89) rfl hl339.1 rfl (Nat.le_of_ble_eq_true rfl) dX9_fewest_53 hSH349 (AE_sub (fun _ _ => rfl) (by decide) hSH349.1) (fun vH357 H357 locsH357 pH357 zH357 kH357 hSH357 => ?_)
          obtain ⟨hvH357, hTH357⟩ := pH357
          subst hvH357
          have m358 := (m350).trans (fI_kept (x_lt hTH349 kH357 gq335 (by decide))).symm
          have m359 := (m351).trans (fR_kept (x_lt hTH349 kH357 ga0 (by decide))).symm
          have m360 := (m352).trans (fR_kept (x_lt hTH349 kH357 ga0 (by decide))).symm
          have m361 := (m353).trans (fR_kept (x_lt hTH349 kH357 ga0 (by decide))).symm
          have m362 := (ex356).trans (fI_kept (x_lt hTH349 kH357 gq348 (by decide))).symm
          refine W.eq (g2 := F0 m 56 ls338 []) rfl ?_
          refine lv_aload_n hx hb dX9_fewest_56 rfl (lv_at hl339 1 rfl) ?_
          refine x_gr C hTH357 (ci := 9) (k := 6) rfl inX9 (by decide) wF_X9_37 ga0 rg_68 rfl dX9_fewest_57 (fun q363 eq363 gq363 => ?_)
          have uq363 : q346 = q363 := (m359).trans eq363.symm
          subst uq363
          refine x_V (As := []) (rest := []) C (a_X3_find l K G H357  hTH357 gq346) yo_X3_find wM_X9_235 ⟨⟨by decide, by decide⟩, by decide, by decide⟩ (x_rv C hTH357 (ci := 3) rfl gq346 rg_89) rfl hl339.1 rfl (Nat.le_of_ble_eq_true rfl) dX9_fewest_60 hSH357 (AE_sub (fun _ _ => rfl) (by decide) hSH357.1) (fun vH364 H364 locsH364 pH364 zH364 kH364 hSH364 => ?_)
          obtain ⟨x365, hvH364, bx365, hTH364⟩ := pH364
          subst hvH364
          have m366 := (m358).trans (fI_kept (x_lt hTH357 kH364 gq335 (by decide))).symm
          have m367 := (m359).trans (fR_kept (x_lt hTH357 kH364 ga0 (by decide))).symm
          have m368 := (m360).trans (fR_kept (x_lt hTH357 kH364 ga0 (by decide))).symm
          have m369 := (m361).trans (fR_kept (x_lt hTH357 kH364 ga0 (by decide))).symm
          have m370 := (m362).trans (fI_kept (x_lt hTH357 kH364 gq348 (by decide))).symm
          refine W.eq (g2 := F0 m 63 ls338 [.int x365]) rfl ?_
          refine lv_istore (lv' := [(4, .int x365), (3, .ref q335), (0, .ref a0), (1, .int x1), (2, .int x2)]) hx hb dX9_fewest_63 hl339 (by decide) rfl (fun ls371 hl372 => ?_)
          refine lv_iload_n hx hb dX9_fewest_65 rfl (lv_at hl372 4 rfl) ?_
          refine lv_if_eq (tgt := 75) hx hb dX9_fewest_66 (by decide) (fun c373 => ?_) (fun c373 => ?_)
          · have k374 := i_eq c373
            exact J75 ls371 H364 locsH364 (x365) (lv_sub hl372 [4, 0] rfl) hTH364 hSH364 (by have := i_rng x2; omega) (by have := i_rng x365; omega)
          · have k374 := i_ne c373
            refine lv_iload hx hb dX9_fewest_69 (lv_at hl372 0 rfl) ?_
            refine lv_iload_n hx hb dX9_fewest_71 rfl (lv_at hl372 4 rfl) ?_
            refine lv_icmp_ge (tgt := 86) hx hb dX9_fewest_72 (by decide) (fun c375 => ?_) (fun c375 => ?_)
            · have k376 := i_le c375
              refine lv_aload_n hx hb dX9_fewest_86 rfl (lv_at hl372 2 rfl) ?_
              refine x_gr C hTH364 (ci := 9) (k := 6) rfl inX9 (by decide) wF_X9_37 ga0 rg_68 rfl dX9_fewest_87 (fun q377 eq377 gq377 => ?_)
              have uq377 : q346 = q377 := (m367).trans eq377.symm
              subst uq377
              refine x_gr C hTH364 (ci := 3) (k := 0) rfl inX3 (by decide) wF_X9_239 gq346 rg_89 rfl dX9_fewest_90 (fun q378 eq378 gq378 => ?_)
              refine lv_iload_n hx hb dX9_fewest_93 rfl (lv_at hl372 4 rfl) ?_
              refine lv_iconst (v := 1) hx hb dX9_fewest_94 (by decide) ?_
              refine lv_isub hx hb dX9_fewest_95 ?_
              refine lv_topi (fun x379 ex379 => ?_)
              have tx379 := i_sub ex379 (by omega)
              refine x_ai C hTH364 gq378 rg_90 ⟨by omega, by show _ < ((5 : Nat) : Int); omega⟩ dX9_fewest_96 (fun x380 ex380 bx380 => ?_)
              exact x_iret C hQ dX9_fewest_97 hSH364 (by decide) (by decide) (⟨x380, rfl, hTH364⟩)
            · have k376 := i_nle c375
              exact J75 ls371 H364 locsH364 (x365) (lv_sub hl372 [4, 0] rfl) hTH364 hSH364 (by have := i_rng x2; omega) (by have := i_rng x365; omega)
        · have k345 := i_eq c344
          exfalso
          omega
      · subst hvH343
        refine W.eq (g2 := F0 m 25 ls338 [.int 0]) rfl ?_
        refine lv_if_ne (tgt := 30) hx hb dX9_fewest_25 (by decide) (fun c381 => ?_) (fun c381 => ?_)
        · have k382 := i_ne c381
          exfalso
          omega
        · have k382 := i_eq c381
          exact J28 ls338 H334 locsH343 (lv_sub hl339 [] rfl) hTH334 hSH343 

set_option maxHeartbeats 4000000 in
set_option maxRecDepth 100000 in
theorem a_X9_fits (l : Launch) (K : KE) (G : Nat → Option Nat) (H : Heap) {a0 : Nat} (x1 : Int32) (x2 : Int32) (x3 : Int32) (x4 : Int32) (hT : TY K G H) (ga0 : G a0 = some 68) : MX l K yX9_fits cX9_fits 8 (some .int) 6 156 0 0 [.ref a0, .int x1, .int x2, .int x3, .int x4] H (AE G [98, 101, 102, 103, 87, 88, 101, 99, 100, 83, 84] H.size) (fun v H1 => ∃ (r : Int32), v = some (.int r) ∧ TY K G H1) := by
  refine MX.of (by decide +kernel) (Nat.le_of_ble_eq_true rfl) ?_
  intro p e s m below meth c ls Q C hH hl hQ
  subst hH
  have C : CX p K s m _ meth c RX9 cX9_fits 8 (some .int) "fits" := C
  obtain ⟨hx, hb, hml, hown, hts, hKT, hr, hlocks, hnm⟩ := id C
  have hl : lv_has ls 8 [(0, .ref a0), (1, .int x1), (2, .int x2), (3, .int x3), (4, .int x4)] := hl
  have hS : va_S (AE G [98, 101, 102, 103, 87, 88, 101, 99, 100, 83, 84] s.heap.size) s.heap s.heap [] := va_S.rf
  have n_m1 : ((-1) : Int32).toInt = -1 := rfl
  have n_0 : (0 : Int32).toInt = 0 := rfl
  have n_1 : (1 : Int32).toInt = 1 := rfl
  have n_4 : (4 : Int32).toInt = 4 := rfl
  have n_5 : (5 : Int32).toInt = 5 := rfl
  have n_10 : (10 : Int32).toInt = 10 := rfl
  have n_99999 : (99999 : Int32).toInt = 99999 := rfl
  have J40 : ∀ (ls508 : Array Slot) (H507 : Heap) (locsH507 : List Loc) , lv_has ls508 8 [] → TY K G H507 → va_S (AE G [98, 101, 102, 103, 87, 88, 101, 99, 100, 83, 84] s.heap.size) s.heap H507 locsH507 → W p l e ({ frames := 6, cells := 0, slots := 0, locals := 156 } : Room) s m (([.ref a0, .int x1, .int x2, .int x3, .int x4] : List Value).toArray) below meth c H507 locsH507 0 0 Q (F0 m 40 ls508 []) := by
    intro ls508 H507 locsH507  hl509 hTH507 hSH507 
    refine lv_iconst (v := (-1)) hx hb dX9_fits_40 (by decide) ?_
    exact x_iret C hQ dX9_fits_41 hSH507 (by decide) (by decide) (⟨(-1), rfl, hTH507⟩)
  have J79 : ∀ (ls512 : Array Slot) (H511 : Heap) (locsH511 : List Loc) (q517 : Nat) (x518 : Int32), lv_has ls512 8 [(0, .ref a0), (2, .int x2), (3, .int x3), (4, .int x4), (5, .ref q517), (6, .int x518)] → TY K G H511 → va_S (AE G [98, 101, 102, 103, 87, 88, 101, 99, 100, 83, 84] s.heap.size) s.heap H511 locsH511 → (1 ≤ x2.toInt ∧ x2.toInt ≤ 4) → (0 ≤ x3.toInt ∧ x3.toInt ≤ 99999) → (0 ≤ x4.toInt ∧ x4.toInt ≤ 2147483647) → (G q517 = some 1) → ((x4.toInt = 0 ∨ x4.toInt = 1 ∨ (0 ≤ x518.toInt ∧ x518.toInt ≤ 4))) → W p l e ({ frames := 6, cells := 0, slots := 0, locals := 156 } : Room) s m (([.ref a0, .int x1, .int x2, .int x3, .int x4] : List Value).toArray) below meth c H511 locsH511 0 0 Q (F0 m 79 ls512 []) := by
    intro ls512 H511 locsH511 q517 x518 hl513 hTH511 hSH511 b514 b515 b516 gq517 iv79
    have J149 : ∀ (ls521 : Array Slot) (H520 : Heap) (locsH520 : List Loc) (x523 : Int32), lv_has ls521 8 [] → TY K G H520 → va_S (AE G [98, 101, 102, 103, 87, 88, 101, 99, 100, 83, 84] s.heap.size) s.heap H520 locsH520 → W p l e ({ frames := 6, cells := 0, slots := 0, locals := 156 } : Room) s m (([.ref a0, .int x1, .int x2, .int x3, .int x4] : List Value).toArray) below meth c H520 locsH520 0 0 Q (F0 m 149 ls521 [.int x523]) := by
      intro ls521 H520 locsH520 x523 hl522 hTH520 hSH520 
      exact x_iret C hQ dX9_fits_149 hSH520 (by decide) (by decide) (⟨x523, rfl, hTH520⟩)
    refine lv_aload_n hx hb dX9_fits_79 rfl (lv_at hl513 0 rfl) ?_
    refine x_gr C hTH511 (ci := 9) (k := 7) rfl inX9 (by decide) wF_X9_44 ga0 rg_68 rfl dX9_fits_80 (fun q525 eq525 gq525 => ?_)
    refine lv_aload_n hx hb dX9_fits_83 rfl (lv_at hl513 0 rfl) ?_
    refine x_gr C hTH511 (ci := 9) (k := 5) rfl inX9 (by decide) wF_X9_30 ga0 rg_68 rfl dX9_fits_84 (fun q526 eq526 gq526 => ?_)
    refine lv_aload_n hx hb dX9_fits_87 rfl (lv_at hl513 0 rfl) ?_
    refine x_gr C hTH511 (ci := 9) (k := 0) rfl inX9 (by decide) wF_X9_12 ga0 rg_68 rfl dX9_fits_88 (fun q527 eq527 gq527 => ?_)
    refine x_V (As := []) (rest := [.ref q526, .ref q525]) C (a_X8_law l K G H511  hTH511 gq527) yo_X8_law wM_X9_212 ⟨⟨by decide, by decide⟩, by decide, by decide⟩ (x_rv C hTH511 (ci := 8) rfl gq527 rg_0) rfl hl513.1 rfl (Nat.le_of_ble_eq_true rfl) dX9_fits_91 hSH511 (AE_sub (fun _ _ => rfl) (by decide) hSH511.1) (fun vH528 H528 locsH528 pH528 zH528 kH528 hSH528 => ?_)
    have hTH528 := pH528.2
    have m529 := (eq525).trans (fR_kept (x_lt hTH511 kH528 ga0 (by decide))).symm
    have m530 := (eq526).trans (fR_kept (x_lt hTH511 kH528 ga0 (by decide))).symm
    have m531 := (eq527).trans (fR_kept (x_lt hTH511 kH528 ga0 (by decide))).symm
    obtain ⟨q532, hvH528, gq532⟩ := pH528.1
    subst hvH528
    refine W.eq (g2 := F0 m 94 ls512 [.ref q532, .ref q526, .ref q525]) rfl ?_
    refine lv_aload hx hb dX9_fits_94 (lv_at hl513 4 rfl) ?_
    refine lv_iload_n hx hb dX9_fits_96 rfl (lv_at hl513 1 rfl) ?_
    refine lv_iload_n hx hb dX9_fits_97 rfl (lv_at hl513 2 rfl) ?_
    obtain ⟨x533, ex533⟩ : ∃ z : Int32, z = fI H528 q525 (K.1.2 1 4) := ⟨_, rfl⟩
    have bx533 := ty_fi (x := x533) (k := 4) ex533 hTH528 gq525 rg_98 rfl
    refine x_V (As := [.ref q526, .ref q532, .ref q517, .int x2, .int x3]) (rest := []) C (a_X1_find l K G H528 (x2) (x3) (x533) hTH528 gq525 gq526 gq532 gq517 ex533) yo_X1_find wM_X9_248 ⟨⟨by decide, by decide⟩, by decide, by decide⟩ (x_rv C hTH528 (ci := 1) rfl gq525 rg_98) rfl hl513.1 rfl (Nat.le_of_ble_eq_true rfl) dX9_fits_98 hSH528 (AE_sub (fun _ _ => rfl) (by decide) hSH528.1) (fun vH534 H534 locsH534 pH534 zH534 kH534 hSH534 => ?_)
    obtain ⟨x535, x536, hvH534, ex536, hTH534⟩ := pH534
    subst hvH534
    have m537 := (m529).trans (fR_kept (x_lt hTH528 kH534 ga0 (by decide))).symm
    have m538 := (m530).trans (fR_kept (x_lt hTH528 kH534 ga0 (by decide))).symm
    have m539 := (m531).trans (fR_kept (x_lt hTH528 kH534 ga0 (by decide))).symm
    have bx536 := ty_fi (x := x536) (k := 4) ex536 hTH534 gq525 rg_98 rfl
    refine W.eq (g2 := F0 m 101 ls512 [.int x535]) rfl ?_
    refine lv_istore (lv' := [(7, .int x535), (0, .ref a0), (2, .int x2), (3, .int x3), (4, .int x4), (5, .ref q517), (6, .int x518)]) hx hb dX9_fits_101 hl513 (by decide) rfl (fun ls540 hl541 => ?_)
    refine lv_iload hx hb dX9_fits_103 (lv_at hl541 4 rfl) ?_
    refine lv_if_ne (tgt := 111) hx hb dX9_fits_105 (by decide) (fun c542 => ?_) (fun c542 => ?_)
    · have k543 := i_ne c542
      refine lv_iload hx hb dX9_fits_111 (lv_at hl541 4 rfl) ?_
      refine lv_iconst (v := 1) hx hb dX9_fits_113 (by decide) ?_
      refine lv_icmp_ne (tgt := 140) hx hb dX9_fits_114 (by decide) (fun c544 => ?_) (fun c544 => ?_)
      · have k545 := i_ne c544
        refine lv_aload_n hx hb dX9_fits_140 rfl (lv_at hl541 1 rfl) ?_
        refine x_gr C hTH534 (ci := 9) (k := 7) rfl inX9 (by decide) wF_X9_44 ga0 rg_68 rfl dX9_fits_141 (fun q546 eq546 gq546 => ?_)
        have uq546 : q525 = q546 := (m537).trans eq546.symm
        subst uq546
        refine lv_iload hx hb dX9_fits_144 (lv_at hl541 6 rfl) ?_
        refine x_V (As := [.int x518]) (rest := []) C (a_X1_sure l K G H534 (x518) hTH534 gq525 (by omega)) yo_X1_sure wM_X9_255 ⟨⟨by decide, by decide⟩, by decide, by decide⟩ (x_rv C hTH534 (ci := 1) rfl gq525 rg_98) rfl hl541.1 rfl (Nat.le_of_ble_eq_true rfl) dX9_fits_146 hSH534 (AE_sub (fun _ _ => rfl) (by decide) hSH534.1) (fun vH547 H547 locsH547 pH547 zH547 kH547 hSH547 => ?_)
        obtain ⟨x548, hvH547, hTH547⟩ := pH547
        subst hvH547
        have m549 := (m537).trans (fR_kept (x_lt hTH534 kH547 ga0 (by decide))).symm
        have m550 := (m538).trans (fR_kept (x_lt hTH534 kH547 ga0 (by decide))).symm
        have m551 := (m539).trans (fR_kept (x_lt hTH534 kH547 ga0 (by decide))).symm
        have m552 := (ex536).trans (fI_kept (x_lt hTH534 kH547 gq525 (by decide))).symm
        refine W.eq (g2 := F0 m 149 ls540 [.int x548]) rfl ?_
        exact J149 ls540 H547 locsH547 (x548) (lv_sub hl541 [] rfl) hTH547 hSH547 
      · have k545 := i_eq c544
        refine lv_aload_n hx hb dX9_fits_117 rfl (lv_at hl541 1 rfl) ?_
        refine x_gr C hTH534 (ci := 9) (k := 7) rfl inX9 (by decide) wF_X9_44 ga0 rg_68 rfl dX9_fits_118 (fun q553 eq553 gq553 => ?_)
        have uq553 : q525 = q553 := (m537).trans eq553.symm
        subst uq553
        refine lv_aload_n hx hb dX9_fits_121 rfl (lv_at hl541 1 rfl) ?_
        refine x_gr C hTH534 (ci := 9) (k := 5) rfl inX9 (by decide) wF_X9_30 ga0 rg_68 rfl dX9_fits_122 (fun q554 eq554 gq554 => ?_)
        have uq554 : q526 = q554 := (m538).trans eq554.symm
        subst uq554
        refine lv_aload_n hx hb dX9_fits_125 rfl (lv_at hl541 1 rfl) ?_
        refine x_gr C hTH534 (ci := 9) (k := 0) rfl inX9 (by decide) wF_X9_12 ga0 rg_68 rfl dX9_fits_126 (fun q555 eq555 gq555 => ?_)
        have uq555 : q527 = q555 := (m539).trans eq555.symm
        subst uq555
        refine x_V (As := []) (rest := [.ref q526, .ref q525]) C (a_X8_law l K G H534  hTH534 gq527) yo_X8_law wM_X9_212 ⟨⟨by decide, by decide⟩, by decide, by decide⟩ (x_rv C hTH534 (ci := 8) rfl gq527 rg_0) rfl hl541.1 rfl (Nat.le_of_ble_eq_true rfl) dX9_fits_129 hSH534 (AE_sub (fun _ _ => rfl) (by decide) hSH534.1) (fun vH556 H556 locsH556 pH556 zH556 kH556 hSH556 => ?_)
        have hTH556 := pH556.2
        have m557 := (m537).trans (fR_kept (x_lt hTH534 kH556 ga0 (by decide))).symm
        have m558 := (m538).trans (fR_kept (x_lt hTH534 kH556 ga0 (by decide))).symm
        have m559 := (m539).trans (fR_kept (x_lt hTH534 kH556 ga0 (by decide))).symm
        have m560 := (ex536).trans (fI_kept (x_lt hTH534 kH556 gq525 (by decide))).symm
        obtain ⟨q561, hvH556, gq561⟩ := pH556.1
        subst hvH556
        refine W.eq (g2 := F0 m 132 ls540 [.ref q561, .ref q526, .ref q525]) rfl ?_
        refine lv_aload hx hb dX9_fits_132 (lv_at hl541 5 rfl) ?_
        refine x_V (As := [.ref q526, .ref q561, .ref q517]) (rest := []) C (a_X1_nextPass l K G H556  hTH556 gq525 gq526 gq561 gq517) yo_X1_nextPass wM_X9_251 ⟨⟨by decide, by decide⟩, by decide, by decide⟩ (x_rv C hTH556 (ci := 1) rfl gq525 rg_98) rfl hl541.1 rfl (Nat.le_of_ble_eq_true rfl) dX9_fits_134 hSH556 (AE_sub (fun _ _ => rfl) (by decide) hSH556.1) (fun vH562 H562 locsH562 pH562 zH562 kH562 hSH562 => ?_)
        obtain ⟨x563, hvH562, hTH562⟩ := pH562
        subst hvH562
        have m564 := (m557).trans (fR_kept (x_lt hTH556 kH562 ga0 (by decide))).symm
        have m565 := (m558).trans (fR_kept (x_lt hTH556 kH562 ga0 (by decide))).symm
        have m566 := (m559).trans (fR_kept (x_lt hTH556 kH562 ga0 (by decide))).symm
        have m567 := (m560).trans (fI_kept (x_lt hTH556 kH562 gq525 (by decide))).symm
        refine W.eq (g2 := F0 m 137 ls540 [.int x563]) rfl ?_
        refine lv_goto (tgt := 149) hx hb dX9_fits_137 (by decide) ?_
        exact J149 ls540 H562 locsH562 (x563) (lv_sub hl541 [] rfl) hTH562 hSH562 
    · have k543 := i_eq c542
      refine lv_iload hx hb dX9_fits_108 (lv_at hl541 0 rfl) ?_
      exact x_iret C hQ dX9_fits_110 hSH534 (by decide) (by decide) (⟨x535, rfl, hTH534⟩)
  have J77 : ∀ (ls569 : Array Slot) (H568 : Heap) (locsH568 : List Loc) , lv_has ls569 8 [] → TY K G H568 → va_S (AE G [98, 101, 102, 103, 87, 88, 101, 99, 100, 83, 84] s.heap.size) s.heap H568 locsH568 → W p l e ({ frames := 6, cells := 0, slots := 0, locals := 156 } : Room) s m (([.ref a0, .int x1, .int x2, .int x3, .int x4] : List Value).toArray) below meth c H568 locsH568 0 0 Q (F0 m 77 ls569 []) := by
    intro ls569 H568 locsH568  hl570 hTH568 hSH568 
    refine lv_iconst (v := (-1)) hx hb dX9_fits_77 (by decide) ?_
    exact x_iret C hQ dX9_fits_78 hSH568 (by decide) (by decide) (⟨(-1), rfl, hTH568⟩)
  refine lv_aload_n hx hb dX9_fits_0 rfl (lv_at hl 0 rfl) ?_
  refine lv_iload_n hx hb dX9_fits_1 rfl (lv_at hl 1 rfl) ?_
  refine x_V (As := [.int x1]) (rest := []) C (a_X9_barAt l K G s.heap (x1) hT ga0) yo_X9_barAt wM_X9_78 ⟨⟨by decide, by decide⟩, by decide, by decide⟩ (x_rv C hT (ci := 9) rfl ga0 rg_68) rfl hl.1 rfl (Nat.le_of_ble_eq_true rfl) dX9_fits_2 hS (AE_sub (fun _ _ => rfl) (by decide) hS.1) (fun vH572 H572 locsH572 pH572 zH572 kH572 hSH572 => ?_)
  have hTH572 := pH572.2
  rcases pH572.1 with hvH572 | ⟨q573, hvH572, gq573⟩
  · skip
    subst hvH572
    refine W.eq (g2 := F0 m 5 ls [.null]) rfl ?_
    refine lv_astoreN (lv' := [(5, .null), (0, .ref a0), (1, .int x1), (2, .int x2), (3, .int x3), (4, .int x4)]) hx hb dX9_fits_5 hl (by decide) rfl (fun ls574 hl575 => ?_)
    refine lv_aloadN hx hb dX9_fits_7 (lv_at hl575 0 rfl) ?_
    refine lv_ifnullN (tgt := 40) hx hb dX9_fits_9 (by decide) ?_
    exact J40 ls574 H572 locsH572 (lv_sub hl575 [] rfl) hTH572 hSH572 
  · skip
    subst hvH572
    refine W.eq (g2 := F0 m 5 ls [.ref q573]) rfl ?_
    refine lv_astore (lv' := [(5, .ref q573), (0, .ref a0), (1, .int x1), (2, .int x2), (3, .int x3), (4, .int x4)]) hx hb dX9_fits_5 hl (by decide) rfl (fun ls576 hl577 => ?_)
    refine lv_aload hx hb dX9_fits_7 (lv_at hl577 0 rfl) ?_
    refine lv_ifnull hx hb dX9_fits_9 ?_
    refine lv_aload hx hb dX9_fits_12 (lv_at hl577 0 rfl) ?_
    refine x_gi C hTH572 (ci := 0) (k := 0) rfl inX0 (by decide) wF_X9_187 gq573 rg_1 rfl dX9_fits_14 (fun x578 ex578 bx578 => ?_)
    refine lv_iconst (v := 5) hx hb dX9_fits_17 (by decide) ?_
    refine lv_icmp_gt (tgt := 40) hx hb dX9_fits_18 (by decide) (fun c579 => ?_) (fun c579 => ?_)
    · have k580 := i_lt c579
      exact J40 ls576 H572 locsH572 (lv_sub hl577 [] rfl) hTH572 hSH572 
    · have k580 := i_nlt c579
      refine lv_iload_n hx hb dX9_fits_21 rfl (lv_at hl577 3 rfl) ?_
      refine lv_iconst (v := 1) hx hb dX9_fits_22 (by decide) ?_
      refine lv_iconst (v := 4) hx hb dX9_fits_23 (by decide) ?_
      refine x_S (As := [.int x2, .int 1, .int 4]) (rest := []) C (c_X9_within l K G H572 (x2) (1) (4) hTH572) yo_X9_within wM_X9_89 ⟨⟨by decide, by decide⟩, by decide, by decide⟩ rfl hl577.1 rfl (Nat.le_of_ble_eq_true rfl) dX9_fits_24 hSH572 (AE_sub (fun _ _ => rfl) (by decide) hSH572.1) (fun vH581 H581 locsH581 pH581 zH581 kH581 hSH581 => ?_)
      have hqH581 := pH581.1.symm
      subst hqH581
      rcases pH581.2 with ⟨hvH581, hcH581⟩ | ⟨hvH581, hcH581⟩
      · subst hvH581
        refine W.eq (g2 := F0 m 27 ls576 [.int 1]) rfl ?_
        refine lv_if_eq (tgt := 40) hx hb dX9_fits_27 (by decide) (fun c582 => ?_) (fun c582 => ?_)
        · have k583 := i_eq c582
          exfalso
          omega
        · have k583 := i_ne c582
          refine lv_iload_n hx hb dX9_fits_30 rfl (lv_at hl577 4 rfl) ?_
          refine lv_iconst (v := 0) hx hb dX9_fits_31 (by decide) ?_
          refine lv_ldc (v := 99999) hx hb hown (hts _ wK_X9_247) dX9_fits_32 ?_
          refine x_S (As := [.int x3, .int 0, .int 99999]) (rest := []) C (c_X9_within l K G H572 (x3) (0) (99999) hTH572) yo_X9_within wM_X9_89 ⟨⟨by decide, by decide⟩, by decide, by decide⟩ rfl hl577.1 rfl (Nat.le_of_ble_eq_true rfl) dX9_fits_34 hSH581 (AE_sub (fun _ _ => rfl) (by decide) hSH581.1) (fun vH584 H584 locsH584 pH584 zH584 kH584 hSH584 => ?_)
          have hqH584 := pH584.1.symm
          subst hqH584
          rcases pH584.2 with ⟨hvH584, hcH584⟩ | ⟨hvH584, hcH584⟩
          · subst hvH584
            refine W.eq (g2 := F0 m 37 ls576 [.int 1]) rfl ?_
            refine lv_if_ne (tgt := 42) hx hb dX9_fits_37 (by decide) (fun c585 => ?_) (fun c585 => ?_)
            · have k586 := i_ne c585
              refine lv_iload hx hb dX9_fits_42 (lv_at hl577 5 rfl) ?_
              refine lv_bipush (v := 10) hx hb dX9_fits_44 (by decide) ?_
              refine lv_isub hx hb dX9_fits_46 ?_
              refine lv_topi (fun x587 ex587 => ?_)
              refine lv_istore (lv' := [(6, .int x587), (5, .ref q573), (0, .ref a0), (1, .int x1), (2, .int x2), (3, .int x3), (4, .int x4)]) hx hb dX9_fits_47 hl577 (by decide) rfl (fun ls588 hl589 => ?_)
              refine lv_iload hx hb dX9_fits_49 (lv_at hl589 6 rfl) ?_
              refine lv_if_eq (tgt := 79) hx hb dX9_fits_51 (by decide) (fun c590 => ?_) (fun c590 => ?_)
              · have k591 := i_eq c590
                exact J79 ls588 H572 locsH584 (q573) (x587) (lv_sub hl589 [2, 4, 5, 6, 1, 0] rfl) hTH572 hSH584 (by have := i_rng x2; omega) (by have := i_rng x3; omega) (by have := i_rng x4; omega) gq573 (by omega)
              · have k591 := i_ne c590
                refine lv_iload hx hb dX9_fits_54 (lv_at hl589 6 rfl) ?_
                refine lv_iconst (v := 1) hx hb dX9_fits_56 (by decide) ?_
                refine lv_icmp_eq (tgt := 79) hx hb dX9_fits_57 (by decide) (fun c592 => ?_) (fun c592 => ?_)
                · have k593 := i_eq c592
                  exact J79 ls588 H572 locsH584 (q573) (x587) (lv_sub hl589 [2, 4, 5, 6, 1, 0] rfl) hTH572 hSH584 (by have := i_rng x2; omega) (by have := i_rng x3; omega) (by have := i_rng x4; omega) gq573 (by omega)
                · have k593 := i_ne c592
                  refine lv_iload hx hb dX9_fits_60 (lv_at hl589 6 rfl) ?_
                  refine lv_bipush (v := 10) hx hb dX9_fits_62 (by decide) ?_
                  refine lv_icmp_lt (tgt := 77) hx hb dX9_fits_64 (by decide) (fun c594 => ?_) (fun c594 => ?_)
                  · have k595 := i_lt c594
                    exact J77 ls588 H572 locsH584 (lv_sub hl589 [] rfl) hTH572 hSH584 
                  · have k595 := i_nlt c594
                    refine lv_aload hx hb dX9_fits_67 (lv_at hl589 1 rfl) ?_
                    refine lv_iload hx hb dX9_fits_69 (lv_at hl589 0 rfl) ?_
                    refine x_V (As := [.int x587]) (rest := []) C (a_X0_has_s l K G H572 (x587) (x578) hTH572 gq573 ex578) yo_X0_has wM_X9_82 ⟨⟨by decide, by decide⟩, by decide, by decide⟩ (x_rv C hTH572 (ci := 0) rfl gq573 rg_1) rfl hl589.1 rfl (Nat.le_of_ble_eq_true rfl) dX9_fits_71 hSH584 (AE_sub (fun _ _ => rfl) (by decide) hSH584.1) (fun vH596 H596 locsH596 pH596 zH596 kH596 hSH596 => ?_)
                    obtain ⟨x597, hvH596, bx597, hrH596, hTH596⟩ := pH596
                    subst hvH596
                    have m598 := (ex578).trans (fI_kept (x_lt hTH572 kH596 gq573 (by decide))).symm
                    refine W.eq (g2 := F0 m 74 ls588 [.int x597]) rfl ?_
                    refine lv_if_ne (tgt := 79) hx hb dX9_fits_74 (by decide) (fun c599 => ?_) (fun c599 => ?_)
                    · have k600 := i_ne c599
                      exact J79 ls588 H596 locsH596 (q573) (x587) (lv_sub hl589 [2, 4, 5, 6, 1, 0] rfl) hTH596 hSH596 (by have := i_rng x2; omega) (by have := i_rng x3; omega) (by have := i_rng x4; omega) gq573 (by omega)
                    · have k600 := i_eq c599
                      exact J77 ls588 H596 locsH596 (lv_sub hl589 [] rfl) hTH596 hSH596 
            · have k586 := i_eq c585
              exfalso
              omega
          · subst hvH584
            refine W.eq (g2 := F0 m 37 ls576 [.int 0]) rfl ?_
            refine lv_if_ne (tgt := 42) hx hb dX9_fits_37 (by decide) (fun c601 => ?_) (fun c601 => ?_)
            · have k602 := i_ne c601
              exfalso
              omega
            · have k602 := i_eq c601
              exact J40 ls576 H572 locsH584 (lv_sub hl577 [] rfl) hTH572 hSH584 
      · subst hvH581
        refine W.eq (g2 := F0 m 27 ls576 [.int 0]) rfl ?_
        refine lv_if_eq (tgt := 40) hx hb dX9_fits_27 (by decide) (fun c603 => ?_) (fun c603 => ?_)
        · have k604 := i_eq c603
          exact J40 ls576 H572 locsH581 (lv_sub hl577 [] rfl) hTH572 hSH581 
        · have k604 := i_ne c603
          exfalso
          omega

set_option maxHeartbeats 4000000 in
set_option maxRecDepth 100000 in
theorem a_X9_off (l : Launch) (K : KE) (G : Nat → Option Nat) (H : Heap) {a0 : Nat} (x1 : Int32) (hT : TY K G H) (ga0 : G a0 = some 68) : MX l K yX9_off cX9_off 2 (some .int) 5 131 0 0 [.ref a0, .int x1] H (AE G [83, 84] H.size) (fun v H1 => ∃ (r : Int32), v = some (.int r) ∧ TY K G H1) := by
  refine MX.of (by decide +kernel) (Nat.le_of_ble_eq_true rfl) ?_
  intro p e s m below meth c ls Q C hH hl hQ
  subst hH
  have C : CX p K s m _ meth c RX9 cX9_off 2 (some .int) "off" := C
  obtain ⟨hx, hb, hml, hown, hts, hKT, hr, hlocks, hnm⟩ := id C
  have hl : lv_has ls 2 [(0, .ref a0), (1, .int x1)] := hl
  have hS : va_S (AE G [83, 84] s.heap.size) s.heap s.heap [] := va_S.rf
  have n_m1 : ((-1) : Int32).toInt = -1 := rfl
  have n_0 : (0 : Int32).toInt = 0 := rfl
  have n_1 : (1 : Int32).toInt = 1 := rfl
  have J66 : ∀ (ls231 : Array Slot) (H230 : Heap) (locsH230 : List Loc) (x233 : Int32), lv_has ls231 2 [] → TY K G H230 → va_S (AE G [83, 84] s.heap.size) s.heap H230 locsH230 → W p l e ({ frames := 5, cells := 0, slots := 0, locals := 131 } : Room) s m (([.ref a0, .int x1] : List Value).toArray) below meth c H230 locsH230 0 0 Q (F0 m 66 ls231 [.int x233]) := by
    intro ls231 H230 locsH230 x233 hl232 hTH230 hSH230 
    exact x_iret C hQ dX9_off_66 hSH230 (by decide) (by decide) (⟨x233, rfl, hTH230⟩)
  have J39 : ∀ (ls236 : Array Slot) (H235 : Heap) (locsH235 : List Loc) (x238 : Int32), lv_has ls236 2 [] → TY K G H235 → va_S (AE G [83, 84] s.heap.size) s.heap H235 locsH235 → (0 ≤ x238.toInt ∧ x238.toInt ≤ 1) → W p l e ({ frames := 5, cells := 0, slots := 0, locals := 131 } : Room) s m (([.ref a0, .int x1] : List Value).toArray) below meth c H235 locsH235 0 0 Q (F0 m 39 ls236 [.int x238]) := by
    intro ls236 H235 locsH235 x238 hl237 hTH235 hSH235 bx238
    exact x_iret C hQ dX9_off_39 hSH235 (by decide) (by decide) (⟨x238, rfl, hTH235⟩)
  refine lv_iload_n hx hb dX9_off_0 rfl (lv_at hl 1 rfl) ?_
  refine lv_iconst (v := (-1)) hx hb dX9_off_1 (by decide) ?_
  refine lv_icmp_ne (tgt := 40) hx hb dX9_off_2 (by decide) (fun c240 => ?_) (fun c240 => ?_)
  · have k241 := i_ne c240
    refine lv_iload_n hx hb dX9_off_40 rfl (lv_at hl 1 rfl) ?_
    refine lv_iconst (v := 0) hx hb dX9_off_41 (by decide) ?_
    refine lv_iconst (v := 1) hx hb dX9_off_42 (by decide) ?_
    refine x_S (As := [.int x1, .int 0, .int 1]) (rest := []) C (c_X9_within l K G s.heap (x1) (0) (1) hT) yo_X9_within wM_X9_89 ⟨⟨by decide, by decide⟩, by decide, by decide⟩ rfl hl.1 rfl (Nat.le_of_ble_eq_true rfl) dX9_off_43 hS (AE_sub (fun _ _ => rfl) (by decide) hS.1) (fun vH242 H242 locsH242 pH242 zH242 kH242 hSH242 => ?_)
    have hqH242 := pH242.1.symm
    subst hqH242
    rcases pH242.2 with ⟨hvH242, hcH242⟩ | ⟨hvH242, hcH242⟩
    · subst hvH242
      refine W.eq (g2 := F0 m 46 ls [.int 1]) rfl ?_
      refine lv_if_eq (tgt := 65) hx hb dX9_off_46 (by decide) (fun c243 => ?_) (fun c243 => ?_)
      · have k244 := i_eq c243
        exfalso
        omega
      · have k244 := i_ne c243
        refine lv_aload_n hx hb dX9_off_49 rfl (lv_at hl 0 rfl) ?_
        refine lv_aload_n hx hb dX9_off_50 rfl (lv_at hl 0 rfl) ?_
        refine x_gr C hT (ci := 9) (k := 0) rfl inX9 (by decide) wF_X9_12 ga0 rg_68 rfl dX9_off_51 (fun q245 eq245 gq245 => ?_)
        refine x_gr C hT (ci := 8) (k := 2) rfl inX8 (by decide) wF_X9_158 gq245 rg_0 rfl dX9_off_54 (fun q246 eq246 gq246 => ?_)
        refine lv_iload_n hx hb dX9_off_57 rfl (lv_at hl 1 rfl) ?_
        refine x_ar C hT rfl rfl gq246 rg_26 ⟨by omega, by show _ < ((2 : Nat) : Int); omega⟩ dX9_off_58 (fun q247 eq247 gq247 => ?_)
        refine x_V (As := [.ref q247]) (rest := []) C (a_X9_offOf l K G s.heap  hT ga0 gq247) yo_X9_offOf wM_X9_259 ⟨⟨by decide, by decide⟩, by decide, by decide⟩ (x_rv C hT (ci := 9) rfl ga0 rg_68) rfl hl.1 rfl (Nat.le_of_ble_eq_true rfl) dX9_off_59 hSH242 (AE_sub (fun _ _ => rfl) (by decide) hSH242.1) (fun vH248 H248 locsH248 pH248 zH248 kH248 hSH248 => ?_)
        obtain ⟨x249, hvH248, hTH248⟩ := pH248
        subst hvH248
        have m250 := (eq245).trans (fR_kept (x_lt hT kH248 ga0 (by decide))).symm
        have m251 := (eq246).trans (fR_kept (x_lt hT kH248 gq245 (by decide))).symm
        refine W.eq (g2 := F0 m 62 ls [.int x249]) rfl ?_
        refine lv_goto (tgt := 66) hx hb dX9_off_62 (by decide) ?_
        exact J66 ls H248 locsH248 (x249) (lv_sub hl [] rfl) hTH248 hSH248 
    · subst hvH242
      refine W.eq (g2 := F0 m 46 ls [.int 0]) rfl ?_
      refine lv_if_eq (tgt := 65) hx hb dX9_off_46 (by decide) (fun c252 => ?_) (fun c252 => ?_)
      · have k253 := i_eq c252
        refine lv_iconst (v := (-1)) hx hb dX9_off_65 (by decide) ?_
        exact J66 ls s.heap locsH242 ((-1)) (lv_sub hl [] rfl) hT hSH242 
      · have k253 := i_ne c252
        exfalso
        omega
  · have k241 := i_eq c240
    refine lv_aload_n hx hb dX9_off_5 rfl (lv_at hl 0 rfl) ?_
    refine lv_aload_n hx hb dX9_off_6 rfl (lv_at hl 0 rfl) ?_
    refine x_gr C hT (ci := 9) (k := 0) rfl inX9 (by decide) wF_X9_12 ga0 rg_68 rfl dX9_off_7 (fun q254 eq254 gq254 => ?_)
    refine x_gr C hT (ci := 8) (k := 2) rfl inX8 (by decide) wF_X9_158 gq254 rg_0 rfl dX9_off_10 (fun q255 eq255 gq255 => ?_)
    refine lv_iconst (v := 1) hx hb dX9_off_13 (by decide) ?_
    refine x_ar C hT rfl rfl gq255 rg_26 (by decide) dX9_off_14 (fun q256 eq256 gq256 => ?_)
    refine x_V (As := [.ref q256]) (rest := []) C (a_X9_offOf l K G s.heap  hT ga0 gq256) yo_X9_offOf wM_X9_259 ⟨⟨by decide, by decide⟩, by decide, by decide⟩ (x_rv C hT (ci := 9) rfl ga0 rg_68) rfl hl.1 rfl (Nat.le_of_ble_eq_true rfl) dX9_off_15 hS (AE_sub (fun _ _ => rfl) (by decide) hS.1) (fun vH257 H257 locsH257 pH257 zH257 kH257 hSH257 => ?_)
    obtain ⟨x258, hvH257, hTH257⟩ := pH257
    subst hvH257
    have m259 := (eq254).trans (fR_kept (x_lt hT kH257 ga0 (by decide))).symm
    have m260 := (eq255).trans (fR_kept (x_lt hT kH257 gq254 (by decide))).symm
    refine W.eq (g2 := F0 m 18 ls [.int x258]) rfl ?_
    refine lv_aload_n hx hb dX9_off_18 rfl (lv_at hl 0 rfl) ?_
    refine lv_aload_n hx hb dX9_off_19 rfl (lv_at hl 0 rfl) ?_
    refine x_gr C hTH257 (ci := 9) (k := 0) rfl inX9 (by decide) wF_X9_12 ga0 rg_68 rfl dX9_off_20 (fun q261 eq261 gq261 => ?_)
    have uq261 : q254 = q261 := (m259).trans eq261.symm
    subst uq261
    refine x_gr C hTH257 (ci := 8) (k := 2) rfl inX8 (by decide) wF_X9_158 gq254 rg_0 rfl dX9_off_23 (fun q262 eq262 gq262 => ?_)
    have uq262 : q255 = q262 := (m260).trans eq262.symm
    subst uq262
    refine lv_iconst (v := 0) hx hb dX9_off_26 (by decide) ?_
    refine x_ar C hTH257 rfl rfl gq255 rg_26 (by decide) dX9_off_27 (fun q263 eq263 gq263 => ?_)
    refine x_V (As := [.ref q263]) (rest := [.int x258]) C (a_X9_offOf l K G H257  hTH257 ga0 gq263) yo_X9_offOf wM_X9_259 ⟨⟨by decide, by decide⟩, by decide, by decide⟩ (x_rv C hTH257 (ci := 9) rfl ga0 rg_68) rfl hl.1 rfl (Nat.le_of_ble_eq_true rfl) dX9_off_28 hSH257 (AE_sub (fun _ _ => rfl) (by decide) hSH257.1) (fun vH264 H264 locsH264 pH264 zH264 kH264 hSH264 => ?_)
    obtain ⟨x265, hvH264, hTH264⟩ := pH264
    subst hvH264
    have m266 := (m259).trans (fR_kept (x_lt hTH257 kH264 ga0 (by decide))).symm
    have m267 := (m260).trans (fR_kept (x_lt hTH257 kH264 gq254 (by decide))).symm
    refine W.eq (g2 := F0 m 31 ls [.int x265, .int x258]) rfl ?_
    refine lv_icmp_ge (tgt := 38) hx hb dX9_off_31 (by decide) (fun c268 => ?_) (fun c268 => ?_)
    · have k269 := i_le c268
      refine lv_iconst (v := 0) hx hb dX9_off_38 (by decide) ?_
      exact J39 ls H264 locsH264 (0) (lv_sub hl [] rfl) hTH264 hSH264 (by decide)
    · have k269 := i_nle c268
      refine lv_iconst (v := 1) hx hb dX9_off_34 (by decide) ?_
      refine lv_goto (tgt := 39) hx hb dX9_off_35 (by decide) ?_
      exact J39 ls H264 locsH264 (1) (lv_sub hl [] rfl) hTH264 hSH264 (by decide)

set_option maxHeartbeats 4000000 in
set_option maxRecDepth 100000 in
theorem a_X9_still (l : Launch) (K : KE) (G : Nat → Option Nat) (H : Heap) {a0 : Nat} (x1 : Int32) (x2 : Int32) (x3 : Int32) (hT : TY K G H) (ga0 : G a0 = some 68) : MX l K yX9_still cX9_still 6 (some .int) 4 101 0 0 [.ref a0, .int x1, .int x2, .int x3] H (AE G [83, 84, 110] H.size) (fun v H1 => ∃ (r : Int32), v = some (.int r) ∧ TY K G H1) := by
  refine MX.of (by decide +kernel) (Nat.le_of_ble_eq_true rfl) ?_
  intro p e s m below meth c ls Q C hH hl hQ
  subst hH
  have C : CX p K s m _ meth c RX9 cX9_still 6 (some .int) "still" := C
  obtain ⟨hx, hb, hml, hown, hts, hKT, hr, hlocks, hnm⟩ := id C
  have hl : lv_has ls 6 [(0, .ref a0), (1, .int x1), (2, .int x2), (3, .int x3)] := hl
  have hS : va_S (AE G [83, 84, 110] s.heap.size) s.heap s.heap [] := va_S.rf
  have n_m1 : ((-1) : Int32).toInt = -1 := rfl
  have n_0 : (0 : Int32).toInt = 0 := rfl
  have n_1 : (1 : Int32).toInt = 1 := rfl
  have J23 : ∀ (ls203 : Array Slot) (H202 : Heap) (locsH202 : List Loc) , lv_has ls203 6 [] → TY K G H202 → va_S (AE G [83, 84, 110] s.heap.size) s.heap H202 locsH202 → W p l e ({ frames := 4, cells := 0, slots := 0, locals := 101 } : Room) s m (([.ref a0, .int x1, .int x2, .int x3] : List Value).toArray) below meth c H202 locsH202 0 0 Q (F0 m 23 ls203 []) := by
    intro ls203 H202 locsH202  hl204 hTH202 hSH202 
    refine lv_iconst (v := (-1)) hx hb dX9_still_23 (by decide) ?_
    exact x_iret C hQ dX9_still_24 hSH202 (by decide) (by decide) (⟨(-1), rfl, hTH202⟩)
  have J59 : ∀ (ls207 : Array Slot) (H206 : Heap) (locsH206 : List Loc) (x209 : Int32), lv_has ls207 6 [] → TY K G H206 → va_S (AE G [83, 84, 110] s.heap.size) s.heap H206 locsH206 → W p l e ({ frames := 4, cells := 0, slots := 0, locals := 101 } : Room) s m (([.ref a0, .int x1, .int x2, .int x3] : List Value).toArray) below meth c H206 locsH206 0 0 Q (F0 m 59 ls207 [.int x209]) := by
    intro ls207 H206 locsH206 x209 hl208 hTH206 hSH206 
    exact x_iret C hQ dX9_still_59 hSH206 (by decide) (by decide) (⟨x209, rfl, hTH206⟩)
  refine lv_aload_n hx hb dX9_still_0 rfl (lv_at hl 0 rfl) ?_
  refine lv_iload_n hx hb dX9_still_1 rfl (lv_at hl 1 rfl) ?_
  refine x_V (As := [.int x1]) (rest := []) C (a_X9_barAt l K G s.heap (x1) hT ga0) yo_X9_barAt wM_X9_78 ⟨⟨by decide, by decide⟩, by decide, by decide⟩ (x_rv C hT (ci := 9) rfl ga0 rg_68) rfl hl.1 rfl (Nat.le_of_ble_eq_true rfl) dX9_still_2 hS (AE_sub (fun _ _ => rfl) (by decide) hS.1) (fun vH211 H211 locsH211 pH211 zH211 kH211 hSH211 => ?_)
  have hTH211 := pH211.2
  rcases pH211.1 with hvH211 | ⟨q212, hvH211, gq212⟩
  · skip
    subst hvH211
    refine W.eq (g2 := F0 m 5 ls [.null]) rfl ?_
    refine lv_astoreN (lv' := [(4, .null), (0, .ref a0), (1, .int x1), (2, .int x2), (3, .int x3)]) hx hb dX9_still_5 hl (by decide) rfl (fun ls213 hl214 => ?_)
    refine lv_aloadN hx hb dX9_still_7 (lv_at hl214 0 rfl) ?_
    refine lv_ifnullN (tgt := 23) hx hb dX9_still_9 (by decide) ?_
    exact J23 ls213 H211 locsH211 (lv_sub hl214 [] rfl) hTH211 hSH211 
  · skip
    subst hvH211
    refine W.eq (g2 := F0 m 5 ls [.ref q212]) rfl ?_
    refine lv_astore (lv' := [(4, .ref q212), (0, .ref a0), (1, .int x1), (2, .int x2), (3, .int x3)]) hx hb dX9_still_5 hl (by decide) rfl (fun ls215 hl216 => ?_)
    refine lv_aload hx hb dX9_still_7 (lv_at hl216 0 rfl) ?_
    refine lv_ifnull hx hb dX9_still_9 ?_
    refine lv_iload_n hx hb dX9_still_12 rfl (lv_at hl216 3 rfl) ?_
    refine x_S (As := [.int x2]) (rest := []) C (c_X9_isTone l K G H211 (x2) hTH211) yo_X9_isTone wM_X9_150 ⟨⟨by decide, by decide⟩, by decide, by decide⟩ rfl hl216.1 rfl (Nat.le_of_ble_eq_true rfl) dX9_still_13 hSH211 (AE_sub (fun _ _ => rfl) (by decide) hSH211.1) (fun vH217 H217 locsH217 pH217 zH217 kH217 hSH217 => ?_)
    have hqH217 := pH217.1.symm
    subst hqH217
    rcases pH217.2 with ⟨hvH217, hcH217⟩ | ⟨hvH217, hcH217⟩
    · subst hvH217
      refine W.eq (g2 := F0 m 16 ls215 [.int 1]) rfl ?_
      refine lv_if_eq (tgt := 23) hx hb dX9_still_16 (by decide) (fun c218 => ?_) (fun c218 => ?_)
      · have k219 := i_eq c218
        exfalso
        omega
      · have k219 := i_ne c218
        refine lv_iload_n hx hb dX9_still_19 rfl (lv_at hl216 4 rfl) ?_
        refine lv_if_ge (tgt := 25) hx hb dX9_still_20 (by decide) (fun c220 => ?_) (fun c220 => ?_)
        · have k221 := i_le c220
          refine lv_aload_n hx hb dX9_still_25 rfl (lv_at hl216 1 rfl) ?_
          refine lv_aload hx hb dX9_still_26 (lv_at hl216 0 rfl) ?_
          refine lv_iload_n hx hb dX9_still_28 rfl (lv_at hl216 3 rfl) ?_
          refine x_V (As := [.ref q212, .int x2]) (rest := []) C (a_X9_findPoints l K G H211 (x2) hTH211 ga0 gq212) yo_X9_findPoints wM_X9_263 ⟨⟨by decide, by decide⟩, by decide, by decide⟩ (x_rv C hTH211 (ci := 9) rfl ga0 rg_68) rfl hl216.1 rfl (Nat.le_of_ble_eq_true rfl) dX9_still_29 hSH217 (AE_sub (fun _ _ => rfl) (by decide) hSH217.1) (fun vH222 H222 locsH222 pH222 zH222 kH222 hSH222 => ?_)
          obtain ⟨⟨x223, hvH222, bx223⟩, hTH222⟩ := pH222
          subst hvH222
          refine W.eq (g2 := F0 m 32 ls215 [.int x223]) rfl ?_
          refine lv_istore (lv' := [(5, .int x223), (4, .ref q212), (0, .ref a0), (1, .int x1), (2, .int x2), (3, .int x3)]) hx hb dX9_still_32 hl216 (by decide) rfl (fun ls224 hl225 => ?_)
          refine lv_iload_n hx hb dX9_still_34 rfl (lv_at hl225 5 rfl) ?_
          refine lv_if_ne (tgt := 41) hx hb dX9_still_35 (by decide) (fun c226 => ?_) (fun c226 => ?_)
          · have k227 := i_ne c226
            refine lv_iload_n hx hb dX9_still_41 rfl (lv_at hl225 5 rfl) ?_
            refine lv_iload hx hb dX9_still_42 (lv_at hl225 0 rfl) ?_
            refine lv_icmp_gt (tgt := 58) hx hb dX9_still_44 (by decide) (fun c228 => ?_) (fun c228 => ?_)
            · have k229 := i_lt c228
              refine lv_iconst (v := (-1)) hx hb dX9_still_58 (by decide) ?_
              exact J59 ls224 H222 locsH222 ((-1)) (lv_sub hl225 [] rfl) hTH222 hSH222 
            · have k229 := i_nlt c228
              refine lv_aload_n hx hb dX9_still_47 rfl (lv_at hl225 2 rfl) ?_
              refine x_gr C hTH222 (ci := 9) (k := 10) rfl inX9 (by decide) wF_X9_58 ga0 rg_68 rfl dX9_still_48 (fun q230 eq230 gq230 => ?_)
              refine lv_iload_n hx hb dX9_still_51 rfl (lv_at hl225 5 rfl) ?_
              refine lv_iconst (v := 1) hx hb dX9_still_52 (by decide) ?_
              refine lv_isub hx hb dX9_still_53 ?_
              refine lv_topi (fun x231 ex231 => ?_)
              have tx231 := i_sub ex231 (by omega)
              refine x_ai C hTH222 gq230 rg_110 ⟨by omega, by show _ < ((16 : Nat) : Int); omega⟩ dX9_still_54 (fun x232 ex232 bx232 => ?_)
              refine lv_goto (tgt := 59) hx hb dX9_still_55 (by decide) ?_
              exact J59 ls224 H222 locsH222 (x232) (lv_sub hl225 [] rfl) hTH222 hSH222 
          · have k227 := i_eq c226
            refine lv_iload hx hb dX9_still_38 (lv_at hl225 0 rfl) ?_
            exact x_iret C hQ dX9_still_40 hSH222 (by decide) (by decide) (⟨x223, rfl, hTH222⟩)
        · have k221 := i_nle c220
          exact J23 ls215 H211 locsH217 (lv_sub hl216 [] rfl) hTH211 hSH217 
    · subst hvH217
      refine W.eq (g2 := F0 m 16 ls215 [.int 0]) rfl ?_
      refine lv_if_eq (tgt := 23) hx hb dX9_still_16 (by decide) (fun c233 => ?_) (fun c233 => ?_)
      · have k234 := i_eq c233
        exact J23 ls215 H211 locsH217 (lv_sub hl216 [] rfl) hTH211 hSH217 
      · have k234 := i_ne c233
        exfalso
        omega

set_option maxHeartbeats 4000000 in
set_option maxRecDepth 100000 in
theorem a_X9_in (l : Launch) (K : KE) (G : Nat → Option Nat) (H : Heap) {a0 : Nat} (x1 : Int32) (x2 : Int32) (x3 : Int32) (x4 : Int32) (hT : TY K G H) (ga0 : G a0 = some 68) : MX l K yX9_in cX9_in 7 (some .int) 5 126 0 0 [.ref a0, .int x1, .int x2, .int x3, .int x4] H (AE G [83, 84] H.size) (fun v H1 => ∃ (r : Int32), v = some (.int r) ∧ TY K G H1) := by
  refine MX.of (by decide +kernel) (Nat.le_of_ble_eq_true rfl) ?_
  intro p e s m below meth c ls Q C hH hl hQ
  subst hH
  have C : CX p K s m _ meth c RX9 cX9_in 7 (some .int) "in" := C
  obtain ⟨hx, hb, hml, hown, hts, hKT, hr, hlocks, hnm⟩ := id C
  have hl : lv_has ls 7 [(0, .ref a0), (1, .int x1), (2, .int x2), (3, .int x3), (4, .int x4)] := hl
  have hS : va_S (AE G [83, 84] s.heap.size) s.heap s.heap [] := va_S.rf
  have n_m1 : ((-1) : Int32).toInt = -1 := rfl
  have n_0 : (0 : Int32).toInt = 0 := rfl
  have n_1 : (1 : Int32).toInt = 1 := rfl
  have n_2 : (2 : Int32).toInt = 2 := rfl
  have n_3 : (3 : Int32).toInt = 3 := rfl
  have J30 : ∀ (ls234 : Array Slot) (H233 : Heap) (locsH233 : List Loc) , lv_has ls234 7 [] → TY K G H233 → va_S (AE G [83, 84] s.heap.size) s.heap H233 locsH233 → W p l e ({ frames := 5, cells := 0, slots := 0, locals := 126 } : Room) s m (([.ref a0, .int x1, .int x2, .int x3, .int x4] : List Value).toArray) below meth c H233 locsH233 0 0 Q (F0 m 30 ls234 []) := by
    intro ls234 H233 locsH233  hl235 hTH233 hSH233 
    refine lv_iconst (v := (-1)) hx hb dX9_in_30 (by decide) ?_
    exact x_iret C hQ dX9_in_31 hSH233 (by decide) (by decide) (⟨(-1), rfl, hTH233⟩)
  refine lv_aload_n hx hb dX9_in_0 rfl (lv_at hl 0 rfl) ?_
  refine lv_iload_n hx hb dX9_in_1 rfl (lv_at hl 1 rfl) ?_
  refine x_V (As := [.int x1]) (rest := []) C (a_X9_barAt l K G s.heap (x1) hT ga0) yo_X9_barAt wM_X9_78 ⟨⟨by decide, by decide⟩, by decide, by decide⟩ (x_rv C hT (ci := 9) rfl ga0 rg_68) rfl hl.1 rfl (Nat.le_of_ble_eq_true rfl) dX9_in_2 hS (AE_sub (fun _ _ => rfl) (by decide) hS.1) (fun vH237 H237 locsH237 pH237 zH237 kH237 hSH237 => ?_)
  have hTH237 := pH237.2
  rcases pH237.1 with hvH237 | ⟨q238, hvH237, gq238⟩
  · skip
    subst hvH237
    refine W.eq (g2 := F0 m 5 ls [.null]) rfl ?_
    refine lv_astoreN (lv' := [(5, .null), (0, .ref a0), (1, .int x1), (2, .int x2), (3, .int x3), (4, .int x4)]) hx hb dX9_in_5 hl (by decide) rfl (fun ls239 hl240 => ?_)
    refine lv_aloadN hx hb dX9_in_7 (lv_at hl240 0 rfl) ?_
    refine lv_ifnullN (tgt := 30) hx hb dX9_in_9 (by decide) ?_
    exact J30 ls239 H237 locsH237 (lv_sub hl240 [] rfl) hTH237 hSH237 
  · skip
    subst hvH237
    refine W.eq (g2 := F0 m 5 ls [.ref q238]) rfl ?_
    refine lv_astore (lv' := [(5, .ref q238), (0, .ref a0), (1, .int x1), (2, .int x2), (3, .int x3), (4, .int x4)]) hx hb dX9_in_5 hl (by decide) rfl (fun ls241 hl242 => ?_)
    refine lv_aload hx hb dX9_in_7 (lv_at hl242 0 rfl) ?_
    refine lv_ifnull hx hb dX9_in_9 ?_
    refine lv_iload_n hx hb dX9_in_12 rfl (lv_at hl242 3 rfl) ?_
    refine lv_iload_n hx hb dX9_in_13 rfl (lv_at hl242 4 rfl) ?_
    refine x_S (As := [.int x2, .int x3]) (rest := []) C (c_X9_isAir l K G H237 (x2) (x3) hTH237) yo_X9_isAir wM_X9_275 ⟨⟨by decide, by decide⟩, by decide, by decide⟩ rfl hl242.1 rfl (Nat.le_of_ble_eq_true rfl) dX9_in_14 hSH237 (AE_sub (fun _ _ => rfl) (by decide) hSH237.1) (fun vH243 H243 locsH243 pH243 zH243 kH243 hSH243 => ?_)
    have hqH243 := pH243.1.symm
    subst hqH243
    rcases pH243.2 with ⟨hvH243, hcH243⟩ | ⟨hvH243, hcH243⟩
    · subst hvH243
      refine W.eq (g2 := F0 m 17 ls241 [.int 1]) rfl ?_
      refine lv_if_eq (tgt := 30) hx hb dX9_in_17 (by decide) (fun c244 => ?_) (fun c244 => ?_)
      · have k245 := i_eq c244
        exfalso
        omega
      · have k245 := i_ne c244
        refine lv_iload hx hb dX9_in_20 (lv_at hl242 5 rfl) ?_
        refine lv_iconst (v := 0) hx hb dX9_in_22 (by decide) ?_
        refine lv_iconst (v := 3) hx hb dX9_in_23 (by decide) ?_
        refine x_S (As := [.int x4, .int 0, .int 3]) (rest := []) C (c_X9_within l K G H237 (x4) (0) (3) hTH237) yo_X9_within wM_X9_89 ⟨⟨by decide, by decide⟩, by decide, by decide⟩ rfl hl242.1 rfl (Nat.le_of_ble_eq_true rfl) dX9_in_24 hSH243 (AE_sub (fun _ _ => rfl) (by decide) hSH243.1) (fun vH246 H246 locsH246 pH246 zH246 kH246 hSH246 => ?_)
        have hqH246 := pH246.1.symm
        subst hqH246
        rcases pH246.2 with ⟨hvH246, hcH246⟩ | ⟨hvH246, hcH246⟩
        · subst hvH246
          refine W.eq (g2 := F0 m 27 ls241 [.int 1]) rfl ?_
          refine lv_if_ne (tgt := 32) hx hb dX9_in_27 (by decide) (fun c247 => ?_) (fun c247 => ?_)
          · have k248 := i_ne c247
            refine lv_aload_n hx hb dX9_in_32 rfl (lv_at hl242 1 rfl) ?_
            refine lv_aload hx hb dX9_in_33 (lv_at hl242 0 rfl) ?_
            refine lv_iconst (v := 0) hx hb dX9_in_35 (by decide) ?_
            refine x_V (As := [.ref q238, .int 0]) (rest := []) C (a_X9_toneNow l K G H237 (0) hTH237 ga0 gq238) yo_X9_toneNow wM_X9_166 ⟨⟨by decide, by decide⟩, by decide, by decide⟩ (x_rv C hTH237 (ci := 9) rfl ga0 rg_68) rfl hl242.1 rfl (Nat.le_of_ble_eq_true rfl) dX9_in_36 hSH246 (AE_sub (fun _ _ => rfl) (by decide) hSH246.1) (fun vH249 H249 locsH249 pH249 zH249 kH249 hSH249 => ?_)
            obtain ⟨⟨x250, hvH249, bx250⟩, hTH249⟩ := pH249
            subst hvH249
            refine W.eq (g2 := F0 m 39 ls241 [.int x250]) rfl ?_
            refine lv_aload_n hx hb dX9_in_39 rfl (lv_at hl242 1 rfl) ?_
            refine lv_iload_n hx hb dX9_in_40 rfl (lv_at hl242 3 rfl) ?_
            refine lv_iload_n hx hb dX9_in_41 rfl (lv_at hl242 4 rfl) ?_
            refine x_V (As := [.int x2, .int x3]) (rest := [.int x250]) C (a_X9_driftIn l K G H249 (x2) (x3) hTH249 ga0) yo_X9_driftIn wM_X9_279 ⟨⟨by decide, by decide⟩, by decide, by decide⟩ (x_rv C hTH249 (ci := 9) rfl ga0 rg_68) rfl hl242.1 rfl (Nat.le_of_ble_eq_true rfl) dX9_in_42 hSH249 (AE_sub (fun _ _ => rfl) (by decide) hSH249.1) (fun vH251 H251 locsH251 pH251 zH251 kH251 hSH251 => ?_)
            obtain ⟨⟨x252, hvH251, bx252⟩, hTH251⟩ := pH251
            subst hvH251
            refine W.eq (g2 := F0 m 45 ls241 [.int x252, .int x250]) rfl ?_
            refine x_S (As := [.int x250, .int x252]) (rest := []) C (a_X9_drifted l K G H251 (x250) (x252) hTH251 ) yo_X9_drifted wM_X9_283 ⟨⟨by decide, by decide⟩, by decide, by decide⟩ rfl hl242.1 rfl (Nat.le_of_ble_eq_true rfl) dX9_in_45 hSH251 (AE_sub (fun _ _ => rfl) (by decide) hSH251.1) (fun vH253 H253 locsH253 pH253 zH253 kH253 hSH253 => ?_)
            obtain ⟨⟨x254, hvH253, bx254⟩, hTH253⟩ := pH253
            subst hvH253
            refine W.eq (g2 := F0 m 48 ls241 [.int x254]) rfl ?_
            refine lv_istore (lv' := [(6, .int x254), (5, .ref q238), (0, .ref a0), (1, .int x1), (2, .int x2), (3, .int x3), (4, .int x4)]) hx hb dX9_in_48 hl242 (by decide) rfl (fun ls255 hl256 => ?_)
            refine lv_iload hx hb dX9_in_50 (lv_at hl256 6 rfl) ?_
            by_cases c257 : x4 = 0
            · have kc257 := i_eq c257
              refine lv_tableIn (tgt := 80) hx hb dX9_in_52 (by omega) (by omega) (off := 28) (by rw [c257]; rfl) (by decide) ?_
              refine lv_iload hx hb dX9_in_80 (lv_at hl256 0 rfl) ?_
              exact x_iret C hQ dX9_in_82 hSH253 (by decide) (by decide) (⟨x254, rfl, hTH253⟩)
            have kc257 := i_ne c257
            by_cases c258 : x4 = 1
            · have kc258 := i_eq c258
              refine lv_tableIn (tgt := 83) hx hb dX9_in_52 (by omega) (by omega) (off := 31) (by rw [c258]; rfl) (by decide) ?_
              refine lv_aload hx hb dX9_in_83 (lv_at hl256 1 rfl) ?_
              refine lv_iconst (v := 0) hx hb dX9_in_85 (by decide) ?_
              refine lv_iload_n hx hb dX9_in_86 rfl (lv_at hl256 4 rfl) ?_
              refine lv_iload hx hb dX9_in_87 (lv_at hl256 0 rfl) ?_
              refine x_S (As := [.ref q238, .int 0, .int x2, .int x254]) (rest := []) C (a_X9_beat l K G H253 (0) (x2) (x254) hTH253 gq238 (by decide)) yo_X9_beat wM_X9_286 ⟨⟨by decide, by decide⟩, by decide, by decide⟩ rfl hl256.1 rfl (Nat.le_of_ble_eq_true rfl) dX9_in_89 hSH253 (AE_sub (fun _ _ => rfl) (by decide) hSH253.1) (fun vH259 H259 locsH259 pH259 zH259 kH259 hSH259 => ?_)
              obtain ⟨⟨x260, hvH259, bx260⟩, hTH259⟩ := pH259
              subst hvH259
              refine W.eq (g2 := F0 m 92 ls255 [.int x260]) rfl ?_
              exact x_iret C hQ dX9_in_92 hSH259 (by decide) (by decide) (⟨x260, rfl, hTH259⟩)
            have kc258 := i_ne c258
            by_cases c261 : x4 = 2
            · have kc261 := i_eq c261
              refine lv_tableIn (tgt := 93) hx hb dX9_in_52 (by omega) (by omega) (off := 41) (by rw [c261]; rfl) (by decide) ?_
              refine lv_aload hx hb dX9_in_93 (lv_at hl256 1 rfl) ?_
              refine lv_iconst (v := 1) hx hb dX9_in_95 (by decide) ?_
              refine lv_iload_n hx hb dX9_in_96 rfl (lv_at hl256 4 rfl) ?_
              refine lv_iload hx hb dX9_in_97 (lv_at hl256 0 rfl) ?_
              refine x_S (As := [.ref q238, .int 1, .int x2, .int x254]) (rest := []) C (a_X9_beat l K G H253 (1) (x2) (x254) hTH253 gq238 (by decide)) yo_X9_beat wM_X9_286 ⟨⟨by decide, by decide⟩, by decide, by decide⟩ rfl hl256.1 rfl (Nat.le_of_ble_eq_true rfl) dX9_in_99 hSH253 (AE_sub (fun _ _ => rfl) (by decide) hSH253.1) (fun vH262 H262 locsH262 pH262 zH262 kH262 hSH262 => ?_)
              obtain ⟨⟨x263, hvH262, bx263⟩, hTH262⟩ := pH262
              subst hvH262
              refine W.eq (g2 := F0 m 102 ls255 [.int x263]) rfl ?_
              exact x_iret C hQ dX9_in_102 hSH262 (by decide) (by decide) (⟨x263, rfl, hTH262⟩)
            have kc261 := i_ne c261
            refine lv_tableOut (tgt := 103) hx hb dX9_in_52 (by omega) (by decide) ?_
            refine lv_iload_n hx hb dX9_in_103 rfl (lv_at hl256 4 rfl) ?_
            refine lv_iload hx hb dX9_in_104 (lv_at hl256 0 rfl) ?_
            refine x_S (As := [.int x2, .int x254]) (rest := []) C (a_X9_stopper l K G H253 (x2) (x254) hTH253 ) yo_X9_stopper wM_X9_290 ⟨⟨by decide, by decide⟩, by decide, by decide⟩ rfl hl256.1 rfl (Nat.le_of_ble_eq_true rfl) dX9_in_106 hSH253 (AE_sub (fun _ _ => rfl) (by decide) hSH253.1) (fun vH264 H264 locsH264 pH264 zH264 kH264 hSH264 => ?_)
            obtain ⟨⟨x265, hvH264, bx265⟩, hTH264⟩ := pH264
            subst hvH264
            refine W.eq (g2 := F0 m 109 ls255 [.int x265]) rfl ?_
            exact x_iret C hQ dX9_in_109 hSH264 (by decide) (by decide) (⟨x265, rfl, hTH264⟩)
          · have k248 := i_eq c247
            exfalso
            omega
        · subst hvH246
          refine W.eq (g2 := F0 m 27 ls241 [.int 0]) rfl ?_
          refine lv_if_ne (tgt := 32) hx hb dX9_in_27 (by decide) (fun c266 => ?_) (fun c266 => ?_)
          · have k267 := i_ne c266
            exfalso
            omega
          · have k267 := i_eq c266
            exact J30 ls241 H237 locsH246 (lv_sub hl242 [] rfl) hTH237 hSH246 
    · subst hvH243
      refine W.eq (g2 := F0 m 17 ls241 [.int 0]) rfl ?_
      refine lv_if_eq (tgt := 30) hx hb dX9_in_17 (by decide) (fun c268 => ?_) (fun c268 => ?_)
      · have k269 := i_eq c268
        exact J30 ls241 H237 locsH243 (lv_sub hl242 [] rfl) hTH237 hSH243 
      · have k269 := i_ne c268
        exfalso
        omega

set_option maxHeartbeats 4000000 in
set_option maxRecDepth 100000 in
theorem a_X9_nights (l : Launch) (K : KE) (G : Nat → Option Nat) (H : Heap) {a0 : Nat} (x1 : Int32) (x2 : Int32) (hT : TY K G H) (ga0 : G a0 = some 68) : MX l K yX9_nights cX9_nights 3 (some .int) 7 170 0 0 [.ref a0, .int x1, .int x2] H (AE G [83, 84, 109] H.size) (fun v H1 => ∃ (r : Int32), v = some (.int r) ∧ TY K G H1) := by
  refine MX.of (by decide +kernel) (Nat.le_of_ble_eq_true rfl) ?_
  intro p e s m below meth c ls Q C hH hl hQ
  subst hH
  have C : CX p K s m _ meth c RX9 cX9_nights 3 (some .int) "nights" := C
  obtain ⟨hx, hb, hml, hown, hts, hKT, hr, hlocks, hnm⟩ := id C
  have hl : lv_has ls 3 [(0, .ref a0), (1, .int x1), (2, .int x2)] := hl
  have hS : va_S (AE G [83, 84, 109] s.heap.size) s.heap s.heap [] := va_S.rf
  have n_m2 : ((-2) : Int32).toInt = -2 := rfl
  have n_m1 : ((-1) : Int32).toInt = -1 := rfl
  have n_0 : (0 : Int32).toInt = 0 := rfl
  have n_1 : (1 : Int32).toInt = 1 := rfl
  have n_2 : (2 : Int32).toInt = 2 := rfl
  have n_3 : (3 : Int32).toInt = 3 := rfl
  have J34 : ∀ (ls242 : Array Slot) (H241 : Heap) (locsH241 : List Loc) , lv_has ls242 3 [(0, .ref a0), (1, .int x1), (2, .int x2)] → TY K G H241 → va_S (AE G [83, 84, 109] s.heap.size) s.heap H241 locsH241 → ((-1) ≤ x1.toInt ∧ x1.toInt ≤ 19) → W p l e ({ frames := 7, cells := 0, slots := 0, locals := 170 } : Room) s m (([.ref a0, .int x1, .int x2] : List Value).toArray) below meth c H241 locsH241 0 0 Q (F0 m 34 ls242 []) := by
    intro ls242 H241 locsH241  hl243 hTH241 hSH241 b244
    refine lv_aload_n hx hb dX9_nights_34 rfl (lv_at hl243 0 rfl) ?_
    refine x_V (As := []) (rest := []) C (a_X9_fillLowTones l K G H241  hTH241 ga0) yo_X9_fillLowTones wM_X9_302 ⟨⟨by decide, by decide⟩, by decide, by decide⟩ (x_rv C hTH241 (ci := 9) rfl ga0 rg_68) rfl hl243.1 rfl (Nat.le_of_ble_eq_true rfl) dX9_nights_35 hSH241 (AE_sub (fun _ _ => rfl) (by decide) hSH241.1) (fun vH246 H246 locsH246 pH246 zH246 kH246 hSH246 => ?_)
    obtain ⟨hvH246, hTH246⟩ := pH246
    subst hvH246
    refine W.eq (g2 := F0 m 38 ls242 []) rfl ?_
    refine lv_iload_n hx hb dX9_nights_38 rfl (lv_at hl243 1 rfl) ?_
    refine lv_iconst (v := (-1)) hx hb dX9_nights_39 (by decide) ?_
    refine lv_icmp_ne (tgt := 48) hx hb dX9_nights_40 (by decide) (fun c247 => ?_) (fun c247 => ?_)
    · have k248 := i_ne c247
      refine lv_iload_n hx hb dX9_nights_48 rfl (lv_at hl243 2 rfl) ?_
      by_cases c249 : x2 = 0
      · have kc249 := i_eq c249
        refine lv_tableIn (tgt := 76) hx hb dX9_nights_49 (by omega) (by omega) (off := 27) (by rw [c249]; rfl) (by decide) ?_
        refine lv_aload_n hx hb dX9_nights_76 rfl (lv_at hl243 0 rfl) ?_
        refine lv_iload_n hx hb dX9_nights_77 rfl (lv_at hl243 1 rfl) ?_
        refine lv_iconst (v := 0) hx hb dX9_nights_78 (by decide) ?_
        refine x_V (As := [.int x1, .int 0]) (rest := []) C (a_X9_worst l K G H246 (x1) (0) hTH246 ga0 (by omega) (by decide)) yo_X9_worst wM_X9_308 ⟨⟨by decide, by decide⟩, by decide, by decide⟩ (x_rv C hTH246 (ci := 9) rfl ga0 rg_68) rfl hl243.1 rfl (Nat.le_of_ble_eq_true rfl) dX9_nights_79 hSH246 (AE_sub (fun _ _ => rfl) (by decide) hSH246.1) (fun vH250 H250 locsH250 pH250 zH250 kH250 hSH250 => ?_)
        obtain ⟨⟨x251, hvH250, bx251⟩, hTH250⟩ := pH250
        subst hvH250
        refine W.eq (g2 := F0 m 82 ls242 [.int x251]) rfl ?_
        exact x_iret C hQ dX9_nights_82 hSH250 (by decide) (by decide) (⟨x251, rfl, hTH250⟩)
      have kc249 := i_ne c249
      by_cases c252 : x2 = 1
      · have kc252 := i_eq c252
        refine lv_tableIn (tgt := 83) hx hb dX9_nights_49 (by omega) (by omega) (off := 34) (by rw [c252]; rfl) (by decide) ?_
        refine lv_aload_n hx hb dX9_nights_83 rfl (lv_at hl243 0 rfl) ?_
        refine lv_iload_n hx hb dX9_nights_84 rfl (lv_at hl243 1 rfl) ?_
        refine lv_iconst (v := 1) hx hb dX9_nights_85 (by decide) ?_
        refine x_V (As := [.int x1, .int 1]) (rest := []) C (a_X9_worst l K G H246 (x1) (1) hTH246 ga0 (by omega) (by decide)) yo_X9_worst wM_X9_308 ⟨⟨by decide, by decide⟩, by decide, by decide⟩ (x_rv C hTH246 (ci := 9) rfl ga0 rg_68) rfl hl243.1 rfl (Nat.le_of_ble_eq_true rfl) dX9_nights_86 hSH246 (AE_sub (fun _ _ => rfl) (by decide) hSH246.1) (fun vH253 H253 locsH253 pH253 zH253 kH253 hSH253 => ?_)
        obtain ⟨⟨x254, hvH253, bx254⟩, hTH253⟩ := pH253
        subst hvH253
        refine W.eq (g2 := F0 m 89 ls242 [.int x254]) rfl ?_
        exact x_iret C hQ dX9_nights_89 hSH253 (by decide) (by decide) (⟨x254, rfl, hTH253⟩)
      have kc252 := i_ne c252
      by_cases c255 : x2 = 2
      · have kc255 := i_eq c255
        refine lv_tableIn (tgt := 90) hx hb dX9_nights_49 (by omega) (by omega) (off := 41) (by rw [c255]; rfl) (by decide) ?_
        refine lv_aload_n hx hb dX9_nights_90 rfl (lv_at hl243 0 rfl) ?_
        refine lv_iload_n hx hb dX9_nights_91 rfl (lv_at hl243 1 rfl) ?_
        refine x_V (As := [.int x1]) (rest := []) C (a_X9_suiting l K G H246 (x1) hTH246 ga0 (by omega)) yo_X9_suiting wM_X9_311 ⟨⟨by decide, by decide⟩, by decide, by decide⟩ (x_rv C hTH246 (ci := 9) rfl ga0 rg_68) rfl hl243.1 rfl (Nat.le_of_ble_eq_true rfl) dX9_nights_92 hSH246 (AE_sub (fun _ _ => rfl) (by decide) hSH246.1) (fun vH256 H256 locsH256 pH256 zH256 kH256 hSH256 => ?_)
        obtain ⟨⟨x257, hvH256, bx257⟩, hTH256⟩ := pH256
        subst hvH256
        refine W.eq (g2 := F0 m 95 ls242 [.int x257]) rfl ?_
        exact x_iret C hQ dX9_nights_95 hSH256 (by decide) (by decide) (⟨x257, rfl, hTH256⟩)
      have kc255 := i_ne c255
      refine lv_tableOut (tgt := 96) hx hb dX9_nights_49 (by omega) (by decide) ?_
      refine lv_aload_n hx hb dX9_nights_96 rfl (lv_at hl243 0 rfl) ?_
      refine lv_iload_n hx hb dX9_nights_97 rfl (lv_at hl243 1 rfl) ?_
      refine x_V (As := [.int x1]) (rest := []) C (a_X9_together l K G H246 (x1) hTH246 ga0 (by omega)) yo_X9_together wM_X9_314 ⟨⟨by decide, by decide⟩, by decide, by decide⟩ (x_rv C hTH246 (ci := 9) rfl ga0 rg_68) rfl hl243.1 rfl (Nat.le_of_ble_eq_true rfl) dX9_nights_98 hSH246 (AE_sub (fun _ _ => rfl) (by decide) hSH246.1) (fun vH258 H258 locsH258 pH258 zH258 kH258 hSH258 => ?_)
      obtain ⟨⟨x259, hvH258, bx259⟩, hTH258⟩ := pH258
      subst hvH258
      refine W.eq (g2 := F0 m 101 ls242 [.int x259]) rfl ?_
      exact x_iret C hQ dX9_nights_101 hSH258 (by decide) (by decide) (⟨x259, rfl, hTH258⟩)
    · have k248 := i_eq c247
      refine lv_aload_n hx hb dX9_nights_43 rfl (lv_at hl243 0 rfl) ?_
      refine x_V (As := []) (rest := []) C (a_X9_apart l K G H246  hTH246 ga0) yo_X9_apart wM_X9_305 ⟨⟨by decide, by decide⟩, by decide, by decide⟩ (x_rv C hTH246 (ci := 9) rfl ga0 rg_68) rfl hl243.1 rfl (Nat.le_of_ble_eq_true rfl) dX9_nights_44 hSH246 (AE_sub (fun _ _ => rfl) (by decide) hSH246.1) (fun vH260 H260 locsH260 pH260 zH260 kH260 hSH260 => ?_)
      obtain ⟨⟨x261, hvH260, bx261⟩, hTH260⟩ := pH260
      subst hvH260
      refine W.eq (g2 := F0 m 47 ls242 [.int x261]) rfl ?_
      exact x_iret C hQ dX9_nights_47 hSH260 (by decide) (by decide) (⟨x261, rfl, hTH260⟩)
  have J31 : ∀ (ls263 : Array Slot) (H262 : Heap) (locsH262 : List Loc) , lv_has ls263 3 [] → TY K G H262 → va_S (AE G [83, 84, 109] s.heap.size) s.heap H262 locsH262 → W p l e ({ frames := 7, cells := 0, slots := 0, locals := 170 } : Room) s m (([.ref a0, .int x1, .int x2] : List Value).toArray) below meth c H262 locsH262 0 0 Q (F0 m 31 ls263 []) := by
    intro ls263 H262 locsH262  hl264 hTH262 hSH262 
    refine lv_bipush (v := (-2)) hx hb dX9_nights_31 (by decide) ?_
    exact x_iret C hQ dX9_nights_33 hSH262 (by decide) (by decide) (⟨(-2), rfl, hTH262⟩)
  refine lv_iload_n hx hb dX9_nights_0 rfl (lv_at hl 1 rfl) ?_
  refine lv_iconst (v := (-1)) hx hb dX9_nights_1 (by decide) ?_
  refine lv_icmp_eq (tgt := 34) hx hb dX9_nights_2 (by decide) (fun c266 => ?_) (fun c266 => ?_)
  · have k267 := i_eq c266
    exact J34 ls s.heap [] (lv_sub hl [0, 1, 2] rfl) hT hS (by have := i_rng x1; omega)
  · have k267 := i_ne c266
    refine lv_iload_n hx hb dX9_nights_5 rfl (lv_at hl 1 rfl) ?_
    refine lv_iconst (v := 0) hx hb dX9_nights_6 (by decide) ?_
    refine lv_aload_n hx hb dX9_nights_7 rfl (lv_at hl 0 rfl) ?_
    refine x_gr C hT (ci := 9) (k := 0) rfl inX9 (by decide) wF_X9_12 ga0 rg_68 rfl dX9_nights_8 (fun q268 eq268 gq268 => ?_)
    refine x_gi C hT (ci := 8) (k := 10) rfl inX8 (by decide) wF_X9_293 gq268 rg_0 rfl dX9_nights_11 (fun x269 ex269 bx269 => ?_)
    refine lv_iconst (v := 1) hx hb dX9_nights_14 (by decide) ?_
    refine lv_isub hx hb dX9_nights_15 ?_
    refine lv_topi (fun x270 ex270 => ?_)
    have tx270 := i_sub ex270 (by omega)
    refine x_S (As := [.int x1, .int 0, .int x270]) (rest := []) C (c_X9_within l K G s.heap (x1) (0) (x270) hT) yo_X9_within wM_X9_89 ⟨⟨by decide, by decide⟩, by decide, by decide⟩ rfl hl.1 rfl (Nat.le_of_ble_eq_true rfl) dX9_nights_16 hS (AE_sub (fun _ _ => rfl) (by decide) hS.1) (fun vH271 H271 locsH271 pH271 zH271 kH271 hSH271 => ?_)
    have hqH271 := pH271.1.symm
    subst hqH271
    rcases pH271.2 with ⟨hvH271, hcH271⟩ | ⟨hvH271, hcH271⟩
    · subst hvH271
      refine W.eq (g2 := F0 m 19 ls [.int 1]) rfl ?_
      refine lv_if_eq (tgt := 31) hx hb dX9_nights_19 (by decide) (fun c272 => ?_) (fun c272 => ?_)
      · have k273 := i_eq c272
        exfalso
        omega
      · have k273 := i_ne c272
        refine lv_iload_n hx hb dX9_nights_22 rfl (lv_at hl 2 rfl) ?_
        refine lv_iconst (v := 0) hx hb dX9_nights_23 (by decide) ?_
        refine lv_iconst (v := 3) hx hb dX9_nights_24 (by decide) ?_
        refine x_S (As := [.int x2, .int 0, .int 3]) (rest := []) C (c_X9_within l K G s.heap (x2) (0) (3) hT) yo_X9_within wM_X9_89 ⟨⟨by decide, by decide⟩, by decide, by decide⟩ rfl hl.1 rfl (Nat.le_of_ble_eq_true rfl) dX9_nights_25 hSH271 (AE_sub (fun _ _ => rfl) (by decide) hSH271.1) (fun vH274 H274 locsH274 pH274 zH274 kH274 hSH274 => ?_)
        have hqH274 := pH274.1.symm
        subst hqH274
        rcases pH274.2 with ⟨hvH274, hcH274⟩ | ⟨hvH274, hcH274⟩
        · subst hvH274
          refine W.eq (g2 := F0 m 28 ls [.int 1]) rfl ?_
          refine lv_if_ne (tgt := 34) hx hb dX9_nights_28 (by decide) (fun c275 => ?_) (fun c275 => ?_)
          · have k276 := i_ne c275
            exact J34 ls s.heap locsH274 (lv_sub hl [0, 1, 2] rfl) hT hSH274 (by have := i_rng x1; omega)
          · have k276 := i_eq c275
            exfalso
            omega
        · subst hvH274
          refine W.eq (g2 := F0 m 28 ls [.int 0]) rfl ?_
          refine lv_if_ne (tgt := 34) hx hb dX9_nights_28 (by decide) (fun c277 => ?_) (fun c277 => ?_)
          · have k278 := i_ne c277
            exfalso
            omega
          · have k278 := i_eq c277
            exact J31 ls s.heap locsH274 (lv_sub hl [] rfl) hT hSH274 
    · subst hvH271
      refine W.eq (g2 := F0 m 19 ls [.int 0]) rfl ?_
      refine lv_if_eq (tgt := 31) hx hb dX9_nights_19 (by decide) (fun c279 => ?_) (fun c279 => ?_)
      · have k280 := i_eq c279
        exact J31 ls s.heap locsH271 (lv_sub hl [] rfl) hT hSH271 
      · have k280 := i_ne c279
        exfalso
        omega

set_option maxHeartbeats 4000000 in
set_option maxRecDepth 100000 in
theorem a_X9_set (l : Launch) (K : KE) (G : Nat → Option Nat) (H : Heap) {a0 : Nat} (x1 : Int32) (x2 : Int32) (hT : TY K G H) (ga0 : G a0 = some 68) : MX l K yX9_set cX9_set 4 (some .int) 11 305 0 0 [.ref a0, .int x1, .int x2] H (AE G [104, 105, 106, 107] H.size) (fun v H1 => ∃ (r : Int32), v = some (.int r) ∧ TY K G H1) := by
  refine MX.of (by decide +kernel) (Nat.le_of_ble_eq_true rfl) ?_
  intro p e s m below meth c ls Q C hH hl hQ
  subst hH
  have C : CX p K s m _ meth c RX9 cX9_set 4 (some .int) "set" := C
  obtain ⟨hx, hb, hml, hown, hts, hKT, hr, hlocks, hnm⟩ := id C
  have hl : lv_has ls 4 [(0, .ref a0), (1, .int x1), (2, .int x2)] := hl
  have hS : va_S (AE G [104, 105, 106, 107] s.heap.size) s.heap s.heap [] := va_S.rf
  have n_m1 : ((-1) : Int32).toInt = -1 := rfl
  have n_0 : (0 : Int32).toInt = 0 := rfl
  have n_1 : (1 : Int32).toInt = 1 := rfl
  have n_99 : (99 : Int32).toInt = 99 := rfl
  have J25 : ∀ (ls222 : Array Slot) (H221 : Heap) (locsH221 : List Loc) , lv_has ls222 4 [] → TY K G H221 → va_S (AE G [104, 105, 106, 107] s.heap.size) s.heap H221 locsH221 → W p l e ({ frames := 11, cells := 0, slots := 0, locals := 305 } : Room) s m (([.ref a0, .int x1, .int x2] : List Value).toArray) below meth c H221 locsH221 0 0 Q (F0 m 25 ls222 []) := by
    intro ls222 H221 locsH221  hl223 hTH221 hSH221 
    refine lv_iconst (v := (-1)) hx hb dX9_set_25 (by decide) ?_
    exact x_iret C hQ dX9_set_26 hSH221 (by decide) (by decide) (⟨(-1), rfl, hTH221⟩)
  have J49 : ∀ (ls226 : Array Slot) (H225 : Heap) (locsH225 : List Loc) (x228 : Int32), lv_has ls226 4 [(3, .int x228)] → TY K G H225 → va_S (AE G [104, 105, 106, 107] s.heap.size) s.heap H225 locsH225 → W p l e ({ frames := 11, cells := 0, slots := 0, locals := 305 } : Room) s m (([.ref a0, .int x1, .int x2] : List Value).toArray) below meth c H225 locsH225 0 0 Q (F0 m 49 ls226 []) := by
    intro ls226 H225 locsH225 x228 hl227 hTH225 hSH225 
    refine lv_iload_n hx hb dX9_set_49 rfl (lv_at hl227 0 rfl) ?_
    exact x_iret C hQ dX9_set_50 hSH225 (by decide) (by decide) (⟨x228, rfl, hTH225⟩)
  refine lv_iload_n hx hb dX9_set_0 rfl (lv_at hl 1 rfl) ?_
  refine lv_iconst (v := 0) hx hb dX9_set_1 (by decide) ?_
  refine lv_bipush (v := 99) hx hb dX9_set_2 (by decide) ?_
  refine x_S (As := [.int x1, .int 0, .int 99]) (rest := []) C (c_X9_within l K G s.heap (x1) (0) (99) hT) yo_X9_within wM_X9_89 ⟨⟨by decide, by decide⟩, by decide, by decide⟩ rfl hl.1 rfl (Nat.le_of_ble_eq_true rfl) dX9_set_4 hS (AE_sub (fun _ _ => rfl) (by decide) hS.1) (fun vH230 H230 locsH230 pH230 zH230 kH230 hSH230 => ?_)
  have hqH230 := pH230.1.symm
  subst hqH230
  rcases pH230.2 with ⟨hvH230, hcH230⟩ | ⟨hvH230, hcH230⟩
  · subst hvH230
    refine W.eq (g2 := F0 m 7 ls [.int 1]) rfl ?_
    refine lv_if_eq (tgt := 25) hx hb dX9_set_7 (by decide) (fun c231 => ?_) (fun c231 => ?_)
    · have k232 := i_eq c231
      exfalso
      omega
    · have k232 := i_ne c231
      refine lv_iload_n hx hb dX9_set_10 rfl (lv_at hl 2 rfl) ?_
      refine lv_iconst (v := 0) hx hb dX9_set_11 (by decide) ?_
      refine lv_aload_n hx hb dX9_set_12 rfl (lv_at hl 0 rfl) ?_
      refine x_gr C hT (ci := 9) (k := 0) rfl inX9 (by decide) wF_X9_12 ga0 rg_68 rfl dX9_set_13 (fun q233 eq233 gq233 => ?_)
      refine x_gi C hT (ci := 8) (k := 13) rfl inX8 (by decide) wF_X9_317 gq233 rg_0 rfl dX9_set_16 (fun x234 ex234 bx234 => ?_)
      refine x_S (As := [.int x2, .int 0, .int x234]) (rest := []) C (c_X9_within l K G s.heap (x2) (0) (x234) hT) yo_X9_within wM_X9_89 ⟨⟨by decide, by decide⟩, by decide, by decide⟩ rfl hl.1 rfl (Nat.le_of_ble_eq_true rfl) dX9_set_19 hSH230 (AE_sub (fun _ _ => rfl) (by decide) hSH230.1) (fun vH235 H235 locsH235 pH235 zH235 kH235 hSH235 => ?_)
      have hqH235 := pH235.1.symm
      subst hqH235
      rcases pH235.2 with ⟨hvH235, hcH235⟩ | ⟨hvH235, hcH235⟩
      · subst hvH235
        refine W.eq (g2 := F0 m 22 ls [.int 1]) rfl ?_
        refine lv_if_ne (tgt := 27) hx hb dX9_set_22 (by decide) (fun c236 => ?_) (fun c236 => ?_)
        · have k237 := i_ne c236
          refine lv_aload_n hx hb dX9_set_27 rfl (lv_at hl 0 rfl) ?_
          refine x_gr C hT (ci := 9) (k := 8) rfl inX9 (by decide) wF_X9_51 ga0 rg_68 rfl dX9_set_28 (fun q238 eq238 gq238 => ?_)
          refine lv_aload_n hx hb dX9_set_31 rfl (lv_at hl 0 rfl) ?_
          refine x_gr C hT (ci := 9) (k := 0) rfl inX9 (by decide) wF_X9_12 ga0 rg_68 rfl dX9_set_32 (fun q239 eq239 gq239 => ?_)
          have uq239 : q233 = q239 := (eq233).trans eq239.symm
          subst uq239
          refine lv_iload_n hx hb dX9_set_35 rfl (lv_at hl 1 rfl) ?_
          refine x_V (As := [.ref q233, .int x1]) (rest := []) C (a_X5_find l K G s.heap (x1) hT gq238 gq233) yo_X5_find wM_X9_335 ⟨⟨by decide, by decide⟩, by decide, by decide⟩ (x_rv C hT (ci := 5) rfl gq238 rg_104) rfl hl.1 rfl (Nat.le_of_ble_eq_true rfl) dX9_set_36 hSH235 (AE_sub (fun _ _ => rfl) (by decide) hSH235.1) (fun vH240 H240 locsH240 pH240 zH240 kH240 hSH240 => ?_)
          obtain ⟨x241, hvH240, hTH240⟩ := pH240
          subst hvH240
          have m242 := (eq233).trans (fR_kept (x_lt hT kH240 ga0 (by decide))).symm
          have m243 := (ex234).trans (fI_kept (x_lt hT kH240 gq233 (by decide))).symm
          have m244 := (eq238).trans (fR_kept (x_lt hT kH240 ga0 (by decide))).symm
          refine W.eq (g2 := F0 m 39 ls [.int x241]) rfl ?_
          refine lv_istore_n (lv' := [(3, .int x241), (0, .ref a0), (1, .int x1), (2, .int x2)]) hx hb dX9_set_39 rfl hl (by decide) rfl (fun ls245 hl246 => ?_)
          refine lv_iload_n hx hb dX9_set_40 rfl (lv_at hl246 3 rfl) ?_
          refine lv_if_eq (tgt := 49) hx hb dX9_set_41 (by decide) (fun c247 => ?_) (fun c247 => ?_)
          · have k248 := i_eq c247
            exact J49 ls245 H240 locsH240 (x241) (lv_sub hl246 [0] rfl) hTH240 hSH240 
          · have k248 := i_ne c247
            refine lv_iload_n hx hb dX9_set_44 rfl (lv_at hl246 0 rfl) ?_
            refine lv_iconst (v := (-1)) hx hb dX9_set_45 (by decide) ?_
            refine lv_icmp_ne (tgt := 51) hx hb dX9_set_46 (by decide) (fun c249 => ?_) (fun c249 => ?_)
            · have k250 := i_ne c249
              refine lv_aload_n hx hb dX9_set_51 rfl (lv_at hl246 1 rfl) ?_
              refine x_gr C hTH240 (ci := 9) (k := 8) rfl inX9 (by decide) wF_X9_51 ga0 rg_68 rfl dX9_set_52 (fun q251 eq251 gq251 => ?_)
              have uq251 : q238 = q251 := (m244).trans eq251.symm
              subst uq251
              refine x_gr C hTH240 (ci := 5) (k := 0) rfl inX5 (by decide) wF_X9_338 gq238 rg_104 rfl dX9_set_55 (fun q252 eq252 gq252 => ?_)
              refine lv_iload_n hx hb dX9_set_58 rfl (lv_at hl246 3 rfl) ?_
              refine lv_iconst (v := 1) hx hb dX9_set_59 (by decide) ?_
              refine lv_isub hx hb dX9_set_60 ?_
              refine lv_topi (fun x253 ex253 => ?_)
              have tx253 := i_sub ex253 (by omega)
              refine x_ai C hTH240 gq252 rg_105 ⟨by omega, by show _ < ((8 : Nat) : Int); omega⟩ dX9_set_61 (fun x254 ex254 bx254 => ?_)
              exact x_iret C hQ dX9_set_62 hSH240 (by decide) (by decide) (⟨x254, rfl, hTH240⟩)
            · have k250 := i_eq c249
              exact J49 ls245 H240 locsH240 (x241) (lv_sub hl246 [0] rfl) hTH240 hSH240 
        · have k237 := i_eq c236
          exfalso
          omega
      · subst hvH235
        refine W.eq (g2 := F0 m 22 ls [.int 0]) rfl ?_
        refine lv_if_ne (tgt := 27) hx hb dX9_set_22 (by decide) (fun c255 => ?_) (fun c255 => ?_)
        · have k256 := i_ne c255
          exfalso
          omega
        · have k256 := i_eq c255
          exact J25 ls s.heap locsH235 (lv_sub hl [] rfl) hT hSH235 
  · subst hvH230
    refine W.eq (g2 := F0 m 7 ls [.int 0]) rfl ?_
    refine lv_if_eq (tgt := 25) hx hb dX9_set_7 (by decide) (fun c257 => ?_) (fun c257 => ?_)
    · have k258 := i_eq c257
      exact J25 ls s.heap locsH230 (lv_sub hl [] rfl) hT hSH230 
    · have k258 := i_ne c257
      exfalso
      omega

set_option maxHeartbeats 4000000 in
set_option maxRecDepth 100000 in
theorem a_X9_down (l : Launch) (K : KE) (G : Nat → Option Nat) (H : Heap) {a0 : Nat} (x1 : Int32) (hT : TY K G H) (ga0 : G a0 = some 68) : MX l K yX9_down cX9_down 7 (some .int) 5 126 0 0 [.ref a0, .int x1] H (AE G [83, 84] H.size) (fun v H1 => ∃ (r : Int32), v = some (.int r) ∧ TY K G H1) := by
  refine MX.of (by decide +kernel) (Nat.le_of_ble_eq_true rfl) ?_
  intro p e s m below meth c ls Q C hH hl hQ
  subst hH
  have C : CX p K s m _ meth c RX9 cX9_down 7 (some .int) "down" := C
  obtain ⟨hx, hb, hml, hown, hts, hKT, hr, hlocks, hnm⟩ := id C
  have hl : lv_has ls 7 [(0, .ref a0), (1, .int x1)] := hl
  have hS : va_S (AE G [83, 84] s.heap.size) s.heap s.heap [] := va_S.rf
  have n_m1 : ((-1) : Int32).toInt = -1 := rfl
  have n_0 : (0 : Int32).toInt = 0 := rfl
  have n_1 : (1 : Int32).toInt = 1 := rfl
  have J33 : ∀ (nf : Nat) (ls495 : Array Slot) (H494 : Heap) (locsH494 : List Loc) (x497 : Int32) (x498 : Int32) (x499 : Int32), lv_has ls495 7 [(0, .ref a0), (3, .int x497), (4, .int x498), (5, .int x499)] → TY K G H494 → va_S (AE G [83, 84] s.heap.size) s.heap H494 locsH494 → ((-1) ≤ x498.toInt ∧ x498.toInt ≤ 7) → (0 ≤ x499.toInt ∧ x499.toInt ≤ 8) → (8 - x499.toInt < (nf : Int)) → W p l e ({ frames := 5, cells := 0, slots := 0, locals := 126 } : Room) s m (([.ref a0, .int x1] : List Value).toArray) below meth c H494 locsH494 0 0 Q (F0 m 33 ls495 []) := by
    intro nf
    induction nf with
    | zero =>
      intro ls495 H494 locsH494 x497 x498 x499 hl496 hTH494 hSH494 bx498 bx499 hm33
      have rx497 := i_rng x497
      exfalso
      omega
    | succ nf ih33 =>
      intro ls495 H494 locsH494 x497 x498 x499 hl496 hTH494 hSH494 bx498 bx499 hm33
      have rx497 := i_rng x497
      have J88 : ∀ (ls502 : Array Slot) (H501 : Heap) (locsH501 : List Loc) (x504 : Int32), lv_has ls502 7 [(0, .ref a0), (3, .int x497), (4, .int x504), (5, .int x499)] → TY K G H501 → va_S (AE G [83, 84] s.heap.size) s.heap H501 locsH501 → ((-1) ≤ x504.toInt ∧ x504.toInt ≤ 7) → (0 ≤ x499.toInt ∧ x499.toInt ≤ 7) → W p l e ({ frames := 5, cells := 0, slots := 0, locals := 126 } : Room) s m (([.ref a0, .int x1] : List Value).toArray) below meth c H501 locsH501 0 0 Q (F0 m 88 ls502 []) := by
        intro ls502 H501 locsH501 x504 hl503 hTH501 hSH501 bx504 b505
        obtain ⟨x507, ex507⟩ : ∃ y : Int32, y = x499 + 1 := ⟨_, rfl⟩
        have tx507 := i_add ex507 (by omega)
        refine lv_iinc (v := x507) (lv' := [(5, .int x507), (0, .ref a0), (3, .int x497), (4, .int x504)]) hx hb dX9_down_88 hl503 (k := 3) rfl (by rw [ex507]; rfl) (by decide) rfl (fun ls508 hl509 => ?_)
        refine lv_goto (tgt := 33) hx hb dX9_down_91 (by decide) ?_
        exact ih33 ls508 H501 locsH501 (x497) (x504) (x507) (lv_sub hl509 [1, 2, 3, 0] rfl) hTH501 hSH501 (by have := i_rng x504; omega) (by have := i_rng x507; omega) (by omega)
      have J84 : ∀ (ls511 : Array Slot) (H510 : Heap) (locsH510 : List Loc) , lv_has ls511 7 [(0, .ref a0), (3, .int x497), (5, .int x499)] → TY K G H510 → va_S (AE G [83, 84] s.heap.size) s.heap H510 locsH510 → (0 ≤ x499.toInt ∧ x499.toInt ≤ 7) → W p l e ({ frames := 5, cells := 0, slots := 0, locals := 126 } : Room) s m (([.ref a0, .int x1] : List Value).toArray) below meth c H510 locsH510 0 0 Q (F0 m 84 ls511 []) := by
        intro ls511 H510 locsH510  hl512 hTH510 hSH510 b513
        refine lv_iload hx hb dX9_down_84 (lv_at hl512 2 rfl) ?_
        refine lv_istore (lv' := [(4, .int x499), (0, .ref a0), (3, .int x497), (5, .int x499)]) hx hb dX9_down_86 hl512 (by decide) rfl (fun ls515 hl516 => ?_)
        exact J88 ls515 H510 locsH510 (x499) (lv_sub hl516 [1, 2, 0, 3] rfl) hTH510 hSH510 (by have := i_rng x499; omega) (by have := i_rng x499; omega)
      refine lv_iload hx hb dX9_down_33 (lv_at hl496 3 rfl) ?_
      refine lv_aload_n hx hb dX9_down_35 rfl (lv_at hl496 0 rfl) ?_
      refine x_gr C hTH494 (ci := 9) (k := 0) rfl inX9 (by decide) wF_X9_12 ga0 rg_68 rfl dX9_down_36 (fun q517 eq517 gq517 => ?_)
      refine x_gi C hTH494 (ci := 8) (k := 13) rfl inX8 (by decide) wF_X9_317 gq517 rg_0 rfl dX9_down_39 (fun x518 ex518 bx518 => ?_)
      refine lv_icmp_ge (tgt := 94) hx hb dX9_down_42 (by decide) (fun c519 => ?_) (fun c519 => ?_)
      · have k520 := i_le c519
        refine lv_iload hx hb dX9_down_94 (lv_at hl496 2 rfl) ?_
        exact x_iret C hQ dX9_down_96 hSH494 (by decide) (by decide) (⟨x498, rfl, hTH494⟩)
      · have k520 := i_nle c519
        refine lv_aload_n hx hb dX9_down_45 rfl (lv_at hl496 0 rfl) ?_
        refine x_gr C hTH494 (ci := 9) (k := 0) rfl inX9 (by decide) wF_X9_12 ga0 rg_68 rfl dX9_down_46 (fun q521 eq521 gq521 => ?_)
        have uq521 : q517 = q521 := (eq517).trans eq521.symm
        subst uq521
        refine x_gr C hTH494 (ci := 8) (k := 11) rfl inX8 (by decide) wF_X9_320 gq517 rg_0 rfl dX9_down_49 (fun q522 eq522 gq522 => ?_)
        refine lv_iload hx hb dX9_down_52 (lv_at hl496 3 rfl) ?_
        refine x_ai C hTH494 gq522 rg_30 ⟨by omega, by show _ < ((8 : Nat) : Int); omega⟩ dX9_down_54 (fun x523 ex523 bx523 => ?_)
        refine lv_istore (lv' := [(6, .int x523), (0, .ref a0), (3, .int x497), (4, .int x498), (5, .int x499)]) hx hb dX9_down_55 hl496 (by decide) rfl (fun ls524 hl525 => ?_)
        refine lv_iload hx hb dX9_down_57 (lv_at hl525 0 rfl) ?_
        refine lv_iload_n hx hb dX9_down_59 rfl (lv_at hl525 2 rfl) ?_
        refine lv_icmp_gt (tgt := 88) hx hb dX9_down_60 (by decide) (fun c526 => ?_) (fun c526 => ?_)
        · have k527 := i_lt c526
          exact J88 ls524 H494 locsH494 (x498) (lv_sub hl525 [1, 2, 3, 4] rfl) hTH494 hSH494 (by have := i_rng x498; omega) (by have := i_rng x499; omega)
        · have k527 := i_nlt c526
          refine lv_iload hx hb dX9_down_63 (lv_at hl525 3 rfl) ?_
          refine lv_iconst (v := (-1)) hx hb dX9_down_65 (by decide) ?_
          refine lv_icmp_eq (tgt := 84) hx hb dX9_down_66 (by decide) (fun c528 => ?_) (fun c528 => ?_)
          · have k529 := i_eq c528
            exact J84 ls524 H494 locsH494 (lv_sub hl525 [1, 2, 4] rfl) hTH494 hSH494 (by have := i_rng x499; omega)
          · have k529 := i_ne c528
            refine lv_iload hx hb dX9_down_69 (lv_at hl525 0 rfl) ?_
            refine lv_aload_n hx hb dX9_down_71 rfl (lv_at hl525 1 rfl) ?_
            refine x_gr C hTH494 (ci := 9) (k := 0) rfl inX9 (by decide) wF_X9_12 ga0 rg_68 rfl dX9_down_72 (fun q530 eq530 gq530 => ?_)
            have uq530 : q517 = q530 := (eq517).trans eq530.symm
            subst uq530
            refine x_gr C hTH494 (ci := 8) (k := 11) rfl inX8 (by decide) wF_X9_320 gq517 rg_0 rfl dX9_down_75 (fun q531 eq531 gq531 => ?_)
            have uq531 : q522 = q531 := (eq522).trans eq531.symm
            subst uq531
            refine lv_iload hx hb dX9_down_78 (lv_at hl525 3 rfl) ?_
            refine x_ai C hTH494 gq522 rg_30 ⟨by omega, by show _ < ((8 : Nat) : Int); omega⟩ dX9_down_80 (fun x532 ex532 bx532 => ?_)
            refine lv_icmp_le (tgt := 88) hx hb dX9_down_81 (by decide) (fun c533 => ?_) (fun c533 => ?_)
            · have k534 := i_le c533
              exact J88 ls524 H494 locsH494 (x498) (lv_sub hl525 [1, 2, 3, 4] rfl) hTH494 hSH494 (by have := i_rng x498; omega) (by have := i_rng x499; omega)
            · have k534 := i_nle c533
              exact J84 ls524 H494 locsH494 (lv_sub hl525 [1, 2, 4] rfl) hTH494 hSH494 (by have := i_rng x499; omega)
  refine lv_aload_n hx hb dX9_down_0 rfl (lv_at hl 0 rfl) ?_
  refine lv_iload_n hx hb dX9_down_1 rfl (lv_at hl 1 rfl) ?_
  refine x_V (As := [.int x1]) (rest := []) C (a_X9_barAt l K G s.heap (x1) hT ga0) yo_X9_barAt wM_X9_78 ⟨⟨by decide, by decide⟩, by decide, by decide⟩ (x_rv C hT (ci := 9) rfl ga0 rg_68) rfl hl.1 rfl (Nat.le_of_ble_eq_true rfl) dX9_down_2 hS (AE_sub (fun _ _ => rfl) (by decide) hS.1) (fun vH535 H535 locsH535 pH535 zH535 kH535 hSH535 => ?_)
  have hTH535 := pH535.2
  rcases pH535.1 with hvH535 | ⟨q536, hvH535, gq536⟩
  · skip
    subst hvH535
    refine W.eq (g2 := F0 m 5 ls [.null]) rfl ?_
    refine lv_astore_nN (lv' := [(2, .null), (0, .ref a0), (1, .int x1)]) hx hb dX9_down_5 rfl hl (by decide) rfl (fun ls537 hl538 => ?_)
    refine lv_aload_nN hx hb dX9_down_6 rfl (lv_at hl538 0 rfl) ?_
    refine lv_ifnonnullN hx hb dX9_down_7 ?_
    refine lv_iconst (v := (-1)) hx hb dX9_down_10 (by decide) ?_
    exact x_iret C hQ dX9_down_11 hSH535 (by decide) (by decide) (⟨(-1), rfl, hTH535⟩)
  · skip
    subst hvH535
    refine W.eq (g2 := F0 m 5 ls [.ref q536]) rfl ?_
    refine lv_astore_n (lv' := [(2, .ref q536), (0, .ref a0), (1, .int x1)]) hx hb dX9_down_5 rfl hl (by decide) rfl (fun ls539 hl540 => ?_)
    refine lv_aload_n hx hb dX9_down_6 rfl (lv_at hl540 0 rfl) ?_
    refine lv_ifnonnull (tgt := 12) hx hb dX9_down_7 (by decide) ?_
    refine lv_aload_n hx hb dX9_down_12 rfl (lv_at hl540 1 rfl) ?_
    refine lv_aload_n hx hb dX9_down_13 rfl (lv_at hl540 0 rfl) ?_
    refine lv_iconst (v := 0) hx hb dX9_down_14 (by decide) ?_
    refine x_V (As := [.ref q536, .int 0]) (rest := []) C (a_X9_toneNow l K G H535 (0) hTH535 ga0 gq536) yo_X9_toneNow wM_X9_166 ⟨⟨by decide, by decide⟩, by decide, by decide⟩ (x_rv C hTH535 (ci := 9) rfl ga0 rg_68) rfl hl540.1 rfl (Nat.le_of_ble_eq_true rfl) dX9_down_15 hSH535 (AE_sub (fun _ _ => rfl) (by decide) hSH535.1) (fun vH541 H541 locsH541 pH541 zH541 kH541 hSH541 => ?_)
    obtain ⟨⟨x542, hvH541, bx542⟩, hTH541⟩ := pH541
    subst hvH541
    refine W.eq (g2 := F0 m 18 ls539 [.int x542]) rfl ?_
    refine lv_aload_n hx hb dX9_down_18 rfl (lv_at hl540 1 rfl) ?_
    refine x_gr C hTH541 (ci := 9) (k := 0) rfl inX9 (by decide) wF_X9_12 ga0 rg_68 rfl dX9_down_19 (fun q543 eq543 gq543 => ?_)
    refine x_gi C hTH541 (ci := 8) (k := 5) rfl inX8 (by decide) wF_X9_184 gq543 rg_0 rfl dX9_down_22 (fun x544 ex544 bx544 => ?_)
    refine lv_iadd hx hb dX9_down_25 ?_
    refine lv_topi (fun x545 ex545 => ?_)
    refine lv_istore_n (lv' := [(3, .int x545), (2, .ref q536), (0, .ref a0), (1, .int x1)]) hx hb dX9_down_26 rfl hl540 (by decide) rfl (fun ls546 hl547 => ?_)
    refine lv_iconst (v := (-1)) hx hb dX9_down_27 (by decide) ?_
    refine lv_istore (lv' := [(4, .int (-1)), (3, .int x545), (2, .ref q536), (0, .ref a0), (1, .int x1)]) hx hb dX9_down_28 hl547 (by decide) rfl (fun ls548 hl549 => ?_)
    refine lv_iconst (v := 0) hx hb dX9_down_30 (by decide) ?_
    refine lv_istore (lv' := [(5, .int 0), (4, .int (-1)), (3, .int x545), (2, .ref q536), (0, .ref a0), (1, .int x1)]) hx hb dX9_down_31 hl549 (by decide) rfl (fun ls550 hl551 => ?_)
    exact J33 ((8 - (0 : Int32).toInt).toNat + 1) ls550 H541 locsH541 (x545) ((-1)) (0) (lv_sub hl551 [4, 2, 1, 0] rfl) hTH541 hSH541 (by decide) (by decide) (by omega)

set_option maxHeartbeats 4000000 in
set_option maxRecDepth 100000 in
theorem a_X9_enough (l : Launch) (K : KE) (G : Nat → Option Nat) (H : Heap) {a0 : Nat} (x1 : Int32) (x2 : Int32) (x3 : Int32) (hT : TY K G H) (ga0 : G a0 = some 68) : MX l K yX9_enough cX9_enough 9 (some .int) 4 102 0 0 [.ref a0, .int x1, .int x2, .int x3] H (AE G [83, 84] H.size) (fun v H1 => ∃ (r : Int32), v = some (.int r) ∧ TY K G H1) := by
  refine MX.of (by decide +kernel) (Nat.le_of_ble_eq_true rfl) ?_
  intro p e s m below meth c ls Q C hH hl hQ
  subst hH
  have C : CX p K s m _ meth c RX9 cX9_enough 9 (some .int) "enough" := C
  obtain ⟨hx, hb, hml, hown, hts, hKT, hr, hlocks, hnm⟩ := id C
  have hl : lv_has ls 9 [(0, .ref a0), (1, .int x1), (2, .int x2), (3, .int x3)] := hl
  have hS : va_S (AE G [83, 84] s.heap.size) s.heap s.heap [] := va_S.rf
  have n_m1 : ((-1) : Int32).toInt = -1 := rfl
  have n_0 : (0 : Int32).toInt = 0 := rfl
  have n_1 : (1 : Int32).toInt = 1 := rfl
  have n_99 : (99 : Int32).toInt = 99 := rfl
  have J38 : ∀ (ls626 : Array Slot) (H625 : Heap) (locsH625 : List Loc) , lv_has ls626 9 [] → TY K G H625 → va_S (AE G [83, 84] s.heap.size) s.heap H625 locsH625 → W p l e ({ frames := 4, cells := 0, slots := 0, locals := 102 } : Room) s m (([.ref a0, .int x1, .int x2, .int x3] : List Value).toArray) below meth c H625 locsH625 0 0 Q (F0 m 38 ls626 []) := by
    intro ls626 H625 locsH625  hl627 hTH625 hSH625 
    refine lv_iconst (v := (-1)) hx hb dX9_enough_38 (by decide) ?_
    exact x_iret C hQ dX9_enough_39 hSH625 (by decide) (by decide) (⟨(-1), rfl, hTH625⟩)
  have J91 : ∀ (nf : Nat) (ls630 : Array Slot) (H629 : Heap) (locsH629 : List Loc) (q634 : Nat) (x635 : Int32) (x636 : Int32) (x637 : Int32), lv_has ls630 9 [(0, .ref a0), (2, .int x2), (3, .int x3), (4, .ref q634), (5, .int x635), (6, .int x636), (7, .int x637)] → TY K G H629 → va_S (AE G [83, 84] s.heap.size) s.heap H629 locsH629 → (0 ≤ x2.toInt ∧ x2.toInt ≤ 15) → (0 ≤ x3.toInt ∧ x3.toInt ≤ 2) → (G q634 = some 1) → (2147483647 - x637.toInt < (nf : Int)) → W p l e ({ frames := 4, cells := 0, slots := 0, locals := 102 } : Room) s m (([.ref a0, .int x1, .int x2, .int x3] : List Value).toArray) below meth c H629 locsH629 0 0 Q (F0 m 91 ls630 []) := by
    intro nf
    induction nf with
    | zero =>
      intro ls630 H629 locsH629 q634 x635 x636 x637 hl631 hTH629 hSH629 b632 b633 gq634 hm91
      have rx635 := i_rng x635
      have rx636 := i_rng x636
      have rx637 := i_rng x637
      exfalso
      omega
    | succ nf ih91 =>
      intro ls630 H629 locsH629 q634 x635 x636 x637 hl631 hTH629 hSH629 b632 b633 gq634 hm91
      have rx635 := i_rng x635
      have rx636 := i_rng x636
      have rx637 := i_rng x637
      refine lv_iload hx hb dX9_enough_91 (lv_at hl631 6 rfl) ?_
      refine lv_bipush (v := 99) hx hb dX9_enough_93 (by decide) ?_
      refine lv_icmp_gt (tgt := 196) hx hb dX9_enough_95 (by decide) (fun c639 => ?_) (fun c639 => ?_)
      · have k640 := i_lt c639
        refine lv_iconst (v := (-1)) hx hb dX9_enough_196 (by decide) ?_
        exact x_iret C hQ dX9_enough_197 hSH629 (by decide) (by decide) (⟨(-1), rfl, hTH629⟩)
      · have k640 := i_nlt c639
        refine lv_aload_n hx hb dX9_enough_98 rfl (lv_at hl631 0 rfl) ?_
        refine x_gr C hTH629 (ci := 9) (k := 5) rfl inX9 (by decide) wF_X9_30 ga0 rg_68 rfl dX9_enough_99 (fun q641 eq641 gq641 => ?_)
        refine lv_aload hx hb dX9_enough_102 (lv_at hl631 3 rfl) ?_
        refine lv_iload_n hx hb dX9_enough_104 rfl (lv_at hl631 1 rfl) ?_
        refine lv_aload hx hb dX9_enough_105 (lv_at hl631 3 rfl) ?_
        refine x_gr C hTH629 (ci := 0) (k := 1) rfl inX0 (by decide) wF_X9_93 gq634 rg_1 rfl dX9_enough_107 (fun q642 eq642 gq642 => ?_)
        refine lv_iload_n hx hb dX9_enough_110 rfl (lv_at hl631 1 rfl) ?_
        refine x_ai C hTH629 gq642 rg_2 ⟨by omega, by show _ < ((16 : Nat) : Int); omega⟩ dX9_enough_111 (fun x643 ex643 bx643 => ?_)
        refine lv_aload hx hb dX9_enough_112 (lv_at hl631 3 rfl) ?_
        refine x_gr C hTH629 (ci := 0) (k := 2) rfl inX0 (by decide) wF_X9_96 gq634 rg_1 rfl dX9_enough_114 (fun q644 eq644 gq644 => ?_)
        refine lv_iload_n hx hb dX9_enough_117 rfl (lv_at hl631 1 rfl) ?_
        refine x_ai C hTH629 gq644 rg_3 ⟨by omega, by show _ < ((16 : Nat) : Int); omega⟩ dX9_enough_118 (fun x645 ex645 bx645 => ?_)
        refine lv_iload hx hb dX9_enough_119 (lv_at hl631 6 rfl) ?_
        refine x_V (As := [.ref q634, .int x2, .int x643, .int x645, .int x637]) (rest := []) C (a_X6_seeSlice l K G H629 (x2) (x643) (x645) (x637) hTH629 gq641 gq634 (by omega)) yo_X6_seeSlice wM_X9_154 ⟨⟨by decide, by decide⟩, by decide, by decide⟩ (x_rv C hTH629 (ci := 6) rfl gq641 rg_82) rfl hl631.1 rfl (Nat.le_of_ble_eq_true rfl) dX9_enough_121 hSH629 (AE_sub (fun _ _ => rfl) (by decide) hSH629.1) (fun vH646 H646 locsH646 pH646 zH646 kH646 hSH646 => ?_)
        obtain ⟨hvH646, hTH646⟩ := pH646
        subst hvH646
        have m647 := (eq641).trans (fR_kept (x_lt hTH629 kH646 ga0 (by decide))).symm
        have m648 := (eq642).trans (fR_kept (x_lt hTH629 kH646 gq634 (by decide))).symm
        have m649 := (ex643).trans (fI_kept (x_lt hTH629 kH646 gq642 (by decide))).symm
        have m650 := (eq644).trans (fR_kept (x_lt hTH629 kH646 gq634 (by decide))).symm
        have m651 := (ex645).trans (fI_kept (x_lt hTH629 kH646 gq644 (by decide))).symm
        refine W.eq (g2 := F0 m 124 ls630 []) rfl ?_
        refine lv_iload hx hb dX9_enough_124 (lv_at hl631 4 rfl) ?_
        refine lv_aload_n hx hb dX9_enough_126 rfl (lv_at hl631 0 rfl) ?_
        refine x_gr C hTH646 (ci := 9) (k := 5) rfl inX9 (by decide) wF_X9_30 ga0 rg_68 rfl dX9_enough_127 (fun q652 eq652 gq652 => ?_)
        have uq652 : q641 = q652 := (m647).trans eq652.symm
        subst uq652
        refine lv_aload_n hx hb dX9_enough_130 rfl (lv_at hl631 0 rfl) ?_
        refine x_gr C hTH646 (ci := 9) (k := 0) rfl inX9 (by decide) wF_X9_12 ga0 rg_68 rfl dX9_enough_131 (fun q653 eq653 gq653 => ?_)
        refine x_V (As := []) (rest := [.ref q641, .int x635]) C (a_X8_law l K G H646  hTH646 gq653) yo_X8_law wM_X9_212 ⟨⟨by decide, by decide⟩, by decide, by decide⟩ (x_rv C hTH646 (ci := 8) rfl gq653 rg_0) rfl hl631.1 rfl (Nat.le_of_ble_eq_true rfl) dX9_enough_134 hSH646 (AE_sub (fun _ _ => rfl) (by decide) hSH646.1) (fun vH654 H654 locsH654 pH654 zH654 kH654 hSH654 => ?_)
        have hTH654 := pH654.2
        have m655 := (m647).trans (fR_kept (x_lt hTH646 kH654 ga0 (by decide))).symm
        have m656 := (m648).trans (fR_kept (x_lt hTH646 kH654 gq634 (by decide))).symm
        have m657 := (m649).trans (fI_kept (x_lt hTH646 kH654 gq642 (by decide))).symm
        have m658 := (m650).trans (fR_kept (x_lt hTH646 kH654 gq634 (by decide))).symm
        have m659 := (m651).trans (fI_kept (x_lt hTH646 kH654 gq644 (by decide))).symm
        have m660 := (eq653).trans (fR_kept (x_lt hTH646 kH654 ga0 (by decide))).symm
        obtain ⟨q661, hvH654, gq661⟩ := pH654.1
        subst hvH654
        refine W.eq (g2 := F0 m 137 ls630 [.ref q661, .ref q641, .int x635]) rfl ?_
        refine lv_iconst (v := 0) hx hb dX9_enough_137 (by decide) ?_
        refine lv_iload_n hx hb dX9_enough_138 rfl (lv_at hl631 2 rfl) ?_
        refine x_V (As := [.ref q661, .int 0, .int x3]) (rest := [.int x635]) C (a_X6_told l K G H654 (0) (x3) hTH654 gq641 gq661) yo_X6_told wM_X9_162 ⟨⟨by decide, by decide⟩, by decide, by decide⟩ (x_rv C hTH654 (ci := 6) rfl gq641 rg_82) rfl hl631.1 rfl (Nat.le_of_ble_eq_true rfl) dX9_enough_139 hSH654 (AE_sub (fun _ _ => rfl) (by decide) hSH654.1) (fun vH662 H662 locsH662 pH662 zH662 kH662 hSH662 => ?_)
        obtain ⟨⟨x663, hvH662, bx663⟩, hTH662⟩ := pH662
        subst hvH662
        have m664 := (m655).trans (fR_kept (x_lt hTH654 kH662 ga0 (by decide))).symm
        have m665 := (m656).trans (fR_kept (x_lt hTH654 kH662 gq634 (by decide))).symm
        have m666 := (m657).trans (fI_kept (x_lt hTH654 kH662 gq642 (by decide))).symm
        have m667 := (m658).trans (fR_kept (x_lt hTH654 kH662 gq634 (by decide))).symm
        have m668 := (m659).trans (fI_kept (x_lt hTH654 kH662 gq644 (by decide))).symm
        have m669 := (m660).trans (fR_kept (x_lt hTH654 kH662 ga0 (by decide))).symm
        refine W.eq (g2 := F0 m 142 ls630 [.int x663, .int x635]) rfl ?_
        refine lv_iadd hx hb dX9_enough_142 ?_
        refine lv_topi (fun x670 ex670 => ?_)
        refine lv_iload hx hb dX9_enough_143 (lv_at hl631 5 rfl) ?_
        refine lv_aload_n hx hb dX9_enough_145 rfl (lv_at hl631 0 rfl) ?_
        refine x_gr C hTH662 (ci := 9) (k := 5) rfl inX9 (by decide) wF_X9_30 ga0 rg_68 rfl dX9_enough_146 (fun q671 eq671 gq671 => ?_)
        have uq671 : q641 = q671 := (m664).trans eq671.symm
        subst uq671
        refine lv_aload_n hx hb dX9_enough_149 rfl (lv_at hl631 0 rfl) ?_
        refine x_gr C hTH662 (ci := 9) (k := 0) rfl inX9 (by decide) wF_X9_12 ga0 rg_68 rfl dX9_enough_150 (fun q672 eq672 gq672 => ?_)
        have uq672 : q653 = q672 := (m669).trans eq672.symm
        subst uq672
        refine x_V (As := []) (rest := [.ref q641, .int x636, .int x670]) C (a_X8_law l K G H662  hTH662 gq653) yo_X8_law wM_X9_212 ⟨⟨by decide, by decide⟩, by decide, by decide⟩ (x_rv C hTH662 (ci := 8) rfl gq653 rg_0) rfl hl631.1 rfl (Nat.le_of_ble_eq_true rfl) dX9_enough_153 hSH662 (AE_sub (fun _ _ => rfl) (by decide) hSH662.1) (fun vH673 H673 locsH673 pH673 zH673 kH673 hSH673 => ?_)
        have hTH673 := pH673.2
        have m674 := (m664).trans (fR_kept (x_lt hTH662 kH673 ga0 (by decide))).symm
        have m675 := (m665).trans (fR_kept (x_lt hTH662 kH673 gq634 (by decide))).symm
        have m676 := (m666).trans (fI_kept (x_lt hTH662 kH673 gq642 (by decide))).symm
        have m677 := (m667).trans (fR_kept (x_lt hTH662 kH673 gq634 (by decide))).symm
        have m678 := (m668).trans (fI_kept (x_lt hTH662 kH673 gq644 (by decide))).symm
        have m679 := (m669).trans (fR_kept (x_lt hTH662 kH673 ga0 (by decide))).symm
        obtain ⟨q680, hvH673, gq680⟩ := pH673.1
        subst hvH673
        refine W.eq (g2 := F0 m 156 ls630 [.ref q680, .ref q641, .int x636, .int x670]) rfl ?_
        refine lv_iconst (v := 1) hx hb dX9_enough_156 (by decide) ?_
        refine lv_iload_n hx hb dX9_enough_157 rfl (lv_at hl631 2 rfl) ?_
        refine x_V (As := [.ref q680, .int 1, .int x3]) (rest := [.int x636, .int x670]) C (a_X6_told l K G H673 (1) (x3) hTH673 gq641 gq680) yo_X6_told wM_X9_162 ⟨⟨by decide, by decide⟩, by decide, by decide⟩ (x_rv C hTH673 (ci := 6) rfl gq641 rg_82) rfl hl631.1 rfl (Nat.le_of_ble_eq_true rfl) dX9_enough_158 hSH673 (AE_sub (fun _ _ => rfl) (by decide) hSH673.1) (fun vH681 H681 locsH681 pH681 zH681 kH681 hSH681 => ?_)
        obtain ⟨⟨x682, hvH681, bx682⟩, hTH681⟩ := pH681
        subst hvH681
        have m683 := (m674).trans (fR_kept (x_lt hTH673 kH681 ga0 (by decide))).symm
        have m684 := (m675).trans (fR_kept (x_lt hTH673 kH681 gq634 (by decide))).symm
        have m685 := (m676).trans (fI_kept (x_lt hTH673 kH681 gq642 (by decide))).symm
        have m686 := (m677).trans (fR_kept (x_lt hTH673 kH681 gq634 (by decide))).symm
        have m687 := (m678).trans (fI_kept (x_lt hTH673 kH681 gq644 (by decide))).symm
        have m688 := (m679).trans (fR_kept (x_lt hTH673 kH681 ga0 (by decide))).symm
        refine W.eq (g2 := F0 m 161 ls630 [.int x682, .int x636, .int x670]) rfl ?_
        refine lv_iadd hx hb dX9_enough_161 ?_
        refine lv_topi (fun x689 ex689 => ?_)
        refine x_S (As := [.int x670, .int x689]) (rest := []) C (a_X9_ratio l K G H681 (x670) (x689) hTH681 ) yo_X9_ratio wM_X9_345 ⟨⟨by decide, by decide⟩, by decide, by decide⟩ rfl hl631.1 rfl (Nat.le_of_ble_eq_true rfl) dX9_enough_162 hSH681 (AE_sub (fun _ _ => rfl) (by decide) hSH681.1) (fun vH690 H690 locsH690 pH690 zH690 kH690 hSH690 => ?_)
        obtain ⟨⟨x691, hvH690, bx691⟩, hTH690⟩ := pH690
        subst hvH690
        have m692 := (m683).trans (fR_kept (x_lt hTH681 kH690 ga0 (by decide))).symm
        have m693 := (m684).trans (fR_kept (x_lt hTH681 kH690 gq634 (by decide))).symm
        have m694 := (m685).trans (fI_kept (x_lt hTH681 kH690 gq642 (by decide))).symm
        have m695 := (m686).trans (fR_kept (x_lt hTH681 kH690 gq634 (by decide))).symm
        have m696 := (m687).trans (fI_kept (x_lt hTH681 kH690 gq644 (by decide))).symm
        have m697 := (m688).trans (fR_kept (x_lt hTH681 kH690 ga0 (by decide))).symm
        refine W.eq (g2 := F0 m 165 ls630 [.int x691]) rfl ?_
        refine lv_istore (lv' := [(8, .int x691), (0, .ref a0), (2, .int x2), (3, .int x3), (4, .ref q634), (5, .int x635), (6, .int x636), (7, .int x637)]) hx hb dX9_enough_165 hl631 (by decide) rfl (fun ls698 hl699 => ?_)
        refine lv_iload hx hb dX9_enough_167 (lv_at hl699 0 rfl) ?_
        refine lv_aload hx hb dX9_enough_169 (lv_at hl699 4 rfl) ?_
        refine x_gr C hTH690 (ci := 0) (k := 5) rfl inX0 (by decide) wF_X9_181 gq634 rg_1 rfl dX9_enough_171 (fun q700 eq700 gq700 => ?_)
        refine lv_iload_n hx hb dX9_enough_174 rfl (lv_at hl699 3 rfl) ?_
        refine x_ai C hTH690 gq700 rg_6 ⟨by omega, by show _ < ((3 : Nat) : Int); omega⟩ dX9_enough_175 (fun x701 ex701 bx701 => ?_)
        refine lv_aload_n hx hb dX9_enough_176 rfl (lv_at hl699 1 rfl) ?_
        refine x_gr C hTH690 (ci := 9) (k := 0) rfl inX9 (by decide) wF_X9_12 ga0 rg_68 rfl dX9_enough_177 (fun q702 eq702 gq702 => ?_)
        have uq702 : q653 = q702 := (m697).trans eq702.symm
        subst uq702
        refine x_gi C hTH690 (ci := 8) (k := 5) rfl inX8 (by decide) wF_X9_184 gq653 rg_0 rfl dX9_enough_180 (fun x703 ex703 bx703 => ?_)
        refine lv_iadd hx hb dX9_enough_183 ?_
        refine lv_topi (fun x704 ex704 => ?_)
        refine lv_icmp_gt (tgt := 190) hx hb dX9_enough_184 (by decide) (fun c705 => ?_) (fun c705 => ?_)
        · have k706 := i_lt c705
          obtain ⟨x707, ex707⟩ : ∃ y : Int32, y = x637 + 1 := ⟨_, rfl⟩
          have tx707 := i_add ex707 (by omega)
          refine lv_iinc (v := x707) (lv' := [(7, .int x707), (8, .int x691), (0, .ref a0), (2, .int x2), (3, .int x3), (4, .ref q634), (5, .int x635), (6, .int x636)]) hx hb dX9_enough_190 hl699 (k := 7) rfl (by rw [ex707]; rfl) (by decide) rfl (fun ls708 hl709 => ?_)
          refine lv_goto (tgt := 91) hx hb dX9_enough_193 (by decide) ?_
          exact ih91 ls708 H690 locsH690 (q634) (x635) (x636) (x707) (lv_sub hl709 [2, 3, 4, 5, 6, 7, 0] rfl) hTH690 hSH690 (by have := i_rng x2; omega) (by have := i_rng x3; omega) gq634 (by omega)
        · have k706 := i_nlt c705
          refine lv_iload hx hb dX9_enough_187 (lv_at hl699 7 rfl) ?_
          exact x_iret C hQ dX9_enough_189 hSH690 (by decide) (by decide) (⟨x637, rfl, hTH690⟩)
  refine lv_aload_n hx hb dX9_enough_0 rfl (lv_at hl 0 rfl) ?_
  refine lv_iload_n hx hb dX9_enough_1 rfl (lv_at hl 1 rfl) ?_
  refine x_V (As := [.int x1]) (rest := []) C (a_X9_barAt l K G s.heap (x1) hT ga0) yo_X9_barAt wM_X9_78 ⟨⟨by decide, by decide⟩, by decide, by decide⟩ (x_rv C hT (ci := 9) rfl ga0 rg_68) rfl hl.1 rfl (Nat.le_of_ble_eq_true rfl) dX9_enough_2 hS (AE_sub (fun _ _ => rfl) (by decide) hS.1) (fun vH710 H710 locsH710 pH710 zH710 kH710 hSH710 => ?_)
  have hTH710 := pH710.2
  rcases pH710.1 with hvH710 | ⟨q711, hvH710, gq711⟩
  · skip
    subst hvH710
    refine W.eq (g2 := F0 m 5 ls [.null]) rfl ?_
    refine lv_astoreN (lv' := [(4, .null), (0, .ref a0), (1, .int x1), (2, .int x2), (3, .int x3)]) hx hb dX9_enough_5 hl (by decide) rfl (fun ls712 hl713 => ?_)
    refine lv_aloadN hx hb dX9_enough_7 (lv_at hl713 0 rfl) ?_
    refine lv_ifnullN (tgt := 38) hx hb dX9_enough_9 (by decide) ?_
    exact J38 ls712 H710 locsH710 (lv_sub hl713 [] rfl) hTH710 hSH710 
  · skip
    subst hvH710
    refine W.eq (g2 := F0 m 5 ls [.ref q711]) rfl ?_
    refine lv_astore (lv' := [(4, .ref q711), (0, .ref a0), (1, .int x1), (2, .int x2), (3, .int x3)]) hx hb dX9_enough_5 hl (by decide) rfl (fun ls714 hl715 => ?_)
    refine lv_aload hx hb dX9_enough_7 (lv_at hl715 0 rfl) ?_
    refine lv_ifnull hx hb dX9_enough_9 ?_
    refine lv_aload hx hb dX9_enough_12 (lv_at hl715 0 rfl) ?_
    refine lv_iload_n hx hb dX9_enough_14 rfl (lv_at hl715 3 rfl) ?_
    refine x_V (As := [.int x2]) (rest := []) C (a_X0_has l K G H710 (x2) hTH710 gq711) yo_X0_has wM_X9_82 ⟨⟨by decide, by decide⟩, by decide, by decide⟩ (x_rv C hTH710 (ci := 0) rfl gq711 rg_1) rfl hl715.1 rfl (Nat.le_of_ble_eq_true rfl) dX9_enough_15 hSH710 (AE_sub (fun _ _ => rfl) (by decide) hSH710.1) (fun vH716 H716 locsH716 pH716 zH716 kH716 hSH716 => ?_)
    have hqH716 := pH716.1.symm
    subst hqH716
    rcases pH716.2 with ⟨hvH716, hcH716⟩ | hvH716
    · subst hvH716
      refine W.eq (g2 := F0 m 18 ls714 [.int 1]) rfl ?_
      refine lv_if_eq (tgt := 38) hx hb dX9_enough_18 (by decide) (fun c717 => ?_) (fun c717 => ?_)
      · have k718 := i_eq c717
        exfalso
        omega
      · have k718 := i_ne c717
        refine lv_iload_n hx hb dX9_enough_21 rfl (lv_at hl715 4 rfl) ?_
        refine x_S (As := [.int x3]) (rest := []) C (c_X9_isTone l K G H710 (x3) hTH710) yo_X9_isTone wM_X9_150 ⟨⟨by decide, by decide⟩, by decide, by decide⟩ rfl hl715.1 rfl (Nat.le_of_ble_eq_true rfl) dX9_enough_22 hSH716 (AE_sub (fun _ _ => rfl) (by decide) hSH716.1) (fun vH719 H719 locsH719 pH719 zH719 kH719 hSH719 => ?_)
        have hqH719 := pH719.1.symm
        subst hqH719
        rcases pH719.2 with ⟨hvH719, hcH719⟩ | ⟨hvH719, hcH719⟩
        · subst hvH719
          refine W.eq (g2 := F0 m 25 ls714 [.int 1]) rfl ?_
          refine lv_if_eq (tgt := 38) hx hb dX9_enough_25 (by decide) (fun c720 => ?_) (fun c720 => ?_)
          · have k721 := i_eq c720
            exfalso
            omega
          · have k721 := i_ne c720
            refine lv_aload hx hb dX9_enough_28 (lv_at hl715 0 rfl) ?_
            refine x_gr C hTH710 (ci := 0) (k := 5) rfl inX0 (by decide) wF_X9_181 gq711 rg_1 rfl dX9_enough_30 (fun q722 eq722 gq722 => ?_)
            refine lv_iload_n hx hb dX9_enough_33 rfl (lv_at hl715 4 rfl) ?_
            refine x_ai C hTH710 gq722 rg_6 ⟨by omega, by show _ < ((3 : Nat) : Int); omega⟩ dX9_enough_34 (fun x723 ex723 bx723 => ?_)
            refine lv_if_ne (tgt := 40) hx hb dX9_enough_35 (by decide) (fun c724 => ?_) (fun c724 => ?_)
            · have k725 := i_ne c724
              refine lv_aload_n hx hb dX9_enough_40 rfl (lv_at hl715 1 rfl) ?_
              refine x_gr C hTH710 (ci := 9) (k := 5) rfl inX9 (by decide) wF_X9_30 ga0 rg_68 rfl dX9_enough_41 (fun q726 eq726 gq726 => ?_)
              refine lv_aload_n hx hb dX9_enough_44 rfl (lv_at hl715 1 rfl) ?_
              refine x_gr C hTH710 (ci := 9) (k := 0) rfl inX9 (by decide) wF_X9_12 ga0 rg_68 rfl dX9_enough_45 (fun q727 eq727 gq727 => ?_)
              refine x_V (As := []) (rest := [.ref q726]) C (a_X8_law l K G H710  hTH710 gq727) yo_X8_law wM_X9_212 ⟨⟨by decide, by decide⟩, by decide, by decide⟩ (x_rv C hTH710 (ci := 8) rfl gq727 rg_0) rfl hl715.1 rfl (Nat.le_of_ble_eq_true rfl) dX9_enough_48 hSH719 (AE_sub (fun _ _ => rfl) (by decide) hSH719.1) (fun vH728 H728 locsH728 pH728 zH728 kH728 hSH728 => ?_)
              have hTH728 := pH728.2
              have m729 := (eq722).trans (fR_kept (x_lt hTH710 kH728 gq711 (by decide))).symm
              have m730 := (ex723).trans (fI_kept (x_lt hTH710 kH728 gq722 (by decide))).symm
              have m731 := (eq726).trans (fR_kept (x_lt hTH710 kH728 ga0 (by decide))).symm
              have m732 := (eq727).trans (fR_kept (x_lt hTH710 kH728 ga0 (by decide))).symm
              obtain ⟨q733, hvH728, gq733⟩ := pH728.1
              subst hvH728
              refine W.eq (g2 := F0 m 51 ls714 [.ref q733, .ref q726]) rfl ?_
              refine lv_iconst (v := 0) hx hb dX9_enough_51 (by decide) ?_
              refine lv_iload_n hx hb dX9_enough_52 rfl (lv_at hl715 4 rfl) ?_
              refine lv_aload hx hb dX9_enough_53 (lv_at hl715 0 rfl) ?_
              refine lv_iload_n hx hb dX9_enough_55 rfl (lv_at hl715 3 rfl) ?_
              refine x_V (As := [.ref q733, .int 0, .int x3, .ref q711, .int x2]) (rest := []) C (a_X6_sumOf l K G H728 (0) (x3) (x2) hTH728 gq726 gq733 gq711) yo_X6_sumOf wM_X9_341 ⟨⟨by decide, by decide⟩, by decide, by decide⟩ (x_rv C hTH728 (ci := 6) rfl gq726 rg_82) rfl hl715.1 rfl (Nat.le_of_ble_eq_true rfl) dX9_enough_56 hSH728 (AE_sub (fun _ _ => rfl) (by decide) hSH728.1) (fun vH734 H734 locsH734 pH734 zH734 kH734 hSH734 => ?_)
              obtain ⟨⟨x735, hvH734, bx735⟩, hTH734⟩ := pH734
              subst hvH734
              have m736 := (m729).trans (fR_kept (x_lt hTH728 kH734 gq711 (by decide))).symm
              have m737 := (m730).trans (fI_kept (x_lt hTH728 kH734 gq722 (by decide))).symm
              have m738 := (m731).trans (fR_kept (x_lt hTH728 kH734 ga0 (by decide))).symm
              have m739 := (m732).trans (fR_kept (x_lt hTH728 kH734 ga0 (by decide))).symm
              refine W.eq (g2 := F0 m 59 ls714 [.int x735]) rfl ?_
              refine lv_istore (lv' := [(5, .int x735), (4, .ref q711), (0, .ref a0), (1, .int x1), (2, .int x2), (3, .int x3)]) hx hb dX9_enough_59 hl715 (by decide) rfl (fun ls740 hl741 => ?_)
              refine lv_aload_n hx hb dX9_enough_61 rfl (lv_at hl741 2 rfl) ?_
              refine x_gr C hTH734 (ci := 9) (k := 5) rfl inX9 (by decide) wF_X9_30 ga0 rg_68 rfl dX9_enough_62 (fun q742 eq742 gq742 => ?_)
              have uq742 : q726 = q742 := (m738).trans eq742.symm
              subst uq742
              refine lv_aload_n hx hb dX9_enough_65 rfl (lv_at hl741 2 rfl) ?_
              refine x_gr C hTH734 (ci := 9) (k := 0) rfl inX9 (by decide) wF_X9_12 ga0 rg_68 rfl dX9_enough_66 (fun q743 eq743 gq743 => ?_)
              have uq743 : q727 = q743 := (m739).trans eq743.symm
              subst uq743
              refine x_V (As := []) (rest := [.ref q726]) C (a_X8_law l K G H734  hTH734 gq727) yo_X8_law wM_X9_212 ⟨⟨by decide, by decide⟩, by decide, by decide⟩ (x_rv C hTH734 (ci := 8) rfl gq727 rg_0) rfl hl741.1 rfl (Nat.le_of_ble_eq_true rfl) dX9_enough_69 hSH734 (AE_sub (fun _ _ => rfl) (by decide) hSH734.1) (fun vH744 H744 locsH744 pH744 zH744 kH744 hSH744 => ?_)
              have hTH744 := pH744.2
              have m745 := (m736).trans (fR_kept (x_lt hTH734 kH744 gq711 (by decide))).symm
              have m746 := (m737).trans (fI_kept (x_lt hTH734 kH744 gq722 (by decide))).symm
              have m747 := (m738).trans (fR_kept (x_lt hTH734 kH744 ga0 (by decide))).symm
              have m748 := (m739).trans (fR_kept (x_lt hTH734 kH744 ga0 (by decide))).symm
              obtain ⟨q749, hvH744, gq749⟩ := pH744.1
              subst hvH744
              refine W.eq (g2 := F0 m 72 ls740 [.ref q749, .ref q726]) rfl ?_
              refine lv_iconst (v := 1) hx hb dX9_enough_72 (by decide) ?_
              refine lv_iload_n hx hb dX9_enough_73 rfl (lv_at hl741 5 rfl) ?_
              refine lv_aload hx hb dX9_enough_74 (lv_at hl741 1 rfl) ?_
              refine lv_iload_n hx hb dX9_enough_76 rfl (lv_at hl741 4 rfl) ?_
              refine x_V (As := [.ref q749, .int 1, .int x3, .ref q711, .int x2]) (rest := []) C (a_X6_sumOf l K G H744 (1) (x3) (x2) hTH744 gq726 gq749 gq711) yo_X6_sumOf wM_X9_341 ⟨⟨by decide, by decide⟩, by decide, by decide⟩ (x_rv C hTH744 (ci := 6) rfl gq726 rg_82) rfl hl741.1 rfl (Nat.le_of_ble_eq_true rfl) dX9_enough_77 hSH744 (AE_sub (fun _ _ => rfl) (by decide) hSH744.1) (fun vH750 H750 locsH750 pH750 zH750 kH750 hSH750 => ?_)
              obtain ⟨⟨x751, hvH750, bx751⟩, hTH750⟩ := pH750
              subst hvH750
              have m752 := (m745).trans (fR_kept (x_lt hTH744 kH750 gq711 (by decide))).symm
              have m753 := (m746).trans (fI_kept (x_lt hTH744 kH750 gq722 (by decide))).symm
              have m754 := (m747).trans (fR_kept (x_lt hTH744 kH750 ga0 (by decide))).symm
              have m755 := (m748).trans (fR_kept (x_lt hTH744 kH750 ga0 (by decide))).symm
              refine W.eq (g2 := F0 m 80 ls740 [.int x751]) rfl ?_
              refine lv_istore (lv' := [(6, .int x751), (5, .int x735), (4, .ref q711), (0, .ref a0), (1, .int x1), (2, .int x2), (3, .int x3)]) hx hb dX9_enough_80 hl741 (by decide) rfl (fun ls756 hl757 => ?_)
              refine lv_aload hx hb dX9_enough_82 (lv_at hl757 2 rfl) ?_
              refine x_gr C hTH750 (ci := 0) (k := 4) rfl inX0 (by decide) wF_X9_102 gq711 rg_1 rfl dX9_enough_84 (fun q758 eq758 gq758 => ?_)
              refine lv_iload_n hx hb dX9_enough_87 rfl (lv_at hl757 5 rfl) ?_
              refine x_ai C hTH750 gq758 rg_5 ⟨by omega, by show _ < ((16 : Nat) : Int); omega⟩ dX9_enough_88 (fun x759 ex759 bx759 => ?_)
              refine lv_istore (lv' := [(7, .int x759), (6, .int x751), (5, .int x735), (4, .ref q711), (0, .ref a0), (1, .int x1), (2, .int x2), (3, .int x3)]) hx hb dX9_enough_89 hl757 (by decide) rfl (fun ls760 hl761 => ?_)
              exact J91 ((2147483647 - x759.toInt).toNat + 1) ls760 H750 locsH750 (q711) (x735) (x751) (x759) (lv_sub hl761 [4, 6, 7, 3, 2, 1, 0] rfl) hTH750 hSH750 (by have := i_rng x2; omega) (by have := i_rng x3; omega) gq711 (by omega)
            · have k725 := i_eq c724
              exact J38 ls714 H710 locsH719 (lv_sub hl715 [] rfl) hTH710 hSH719 
        · subst hvH719
          refine W.eq (g2 := F0 m 25 ls714 [.int 0]) rfl ?_
          refine lv_if_eq (tgt := 38) hx hb dX9_enough_25 (by decide) (fun c762 => ?_) (fun c762 => ?_)
          · have k763 := i_eq c762
            exact J38 ls714 H710 locsH719 (lv_sub hl715 [] rfl) hTH710 hSH719 
          · have k763 := i_ne c762
            exfalso
            omega
    · subst hvH716
      refine W.eq (g2 := F0 m 18 ls714 [.int 0]) rfl ?_
      refine lv_if_eq (tgt := 38) hx hb dX9_enough_18 (by decide) (fun c764 => ?_) (fun c764 => ?_)
      · have k765 := i_eq c764
        exact J38 ls714 H710 locsH716 (lv_sub hl715 [] rfl) hTH710 hSH716 
      · have k765 := i_ne c764
        exfalso
        omega
