set_option maxHeartbeats 4000000 in
set_option maxRecDepth 100000 in
theorem a_X9_of_v (l : Launch) (K : KE) (G : Nat → Option Nat) (H : Heap) {a0 : Nat} (x1 : Int32) (x2 : Int32) (x3 : Int32) {w0 : Nat} {bq : Nat} {bb : Nat} {kq : Nat} {gnq : Nat} {hvq : Nat} {xq : Nat} (s1 : Int32) (sz : Int32) (hT : TY K G H) (ga0 : G a0 = some 68) (hx1 : 0 ≤ x1.toInt ∧ x1.toInt ≤ 9) (gw0 : G w0 = some 0) (ew0 : w0 = fR H a0 (K.1.2 9 0)) (gbq : G bq = some 25) (ebq : bq = fR H w0 (K.1.2 8 0)) (gbb : G bb = some 1) (ebb : bb = fR H bq (x1 : Int32).toNatClampNeg) (gkq : G kq = some 2) (ekq : kq = fR H bb (K.1.2 0 1)) (ggnq : G gnq = some 3) (egnq : gnq = fR H bb (K.1.2 0 2)) (ghvq : G hvq = some 4) (ehvq : hvq = fR H bb (K.1.2 0 3)) (gxq : G xq = some 5) (exq : xq = fR H bb (K.1.2 0 4)) (es1 : s1 = fI H w0 (K.1.2 8 1)) (esz : sz = fI H bb (K.1.2 0 0)) (hp0 : x1.toInt < s1.toInt) : MX l K yX9_of cX9_of 5 (some .int) 2 43 0 0 [.ref a0, .int x1, .int x2, .int x3] H (AE G [] H.size) (fun v H1 => ∃ (r : Int32), v = some (.int r) ∧ (r.toInt = ofV (vwC K H bb) x2.toInt x3.toInt) ∧ TY K G H1) := by
  refine MX.of (by decide +kernel) (Nat.le_of_ble_eq_true rfl) ?_
  intro p e s m below meth c ls Q C hH hl hQ
  subst hH
  have C : CX p K s m _ meth c RX9 cX9_of 5 (some .int) "of" := C
  obtain ⟨hx, hb, hml, hown, hts, hKT, hr, hlocks, hnm⟩ := id C
  have hl : lv_has ls 5 [(0, .ref a0), (1, .int x1), (2, .int x2), (3, .int x3)] := hl
  have hS : va_S (AE G [] s.heap.size) s.heap s.heap [] := va_S.rf
  have n_m1 : ((-1) : Int32).toInt = -1 := rfl
  have n_0 : (0 : Int32).toInt = 0 := rfl
  have n_1 : (1 : Int32).toInt = 1 := rfl
  have n_2 : (2 : Int32).toInt = 2 := rfl
  have n_3 : (3 : Int32).toInt = 3 := rfl
  have bs1 := ty_fi (x := s1) (k := 1) es1 hT gw0 rg_0 rfl
  have bsz := ty_fi (x := sz) (k := 0) esz hT gbb rg_1 rfl
  have hapB : ∀ x y, x < 18 → y < 18 → x ≠ y → K.1.2 0 x ≠ K.1.2 0 y := x_apart hKT hts inX0 tyX0 tyX0_ok nmX0 rfl
  have vw_0 : vwC K s.heap bb = vwC K s.heap bb := rfl
  have v00 : vwC K s.heap bb 0 0 = sz.toInt := by rw [vwC_f (Or.inl rfl), ← esz]
  refine lv_aload_n hx hb dX9_of_0 rfl (lv_at hl 0 rfl) ?_
  refine lv_iload_n hx hb dX9_of_1 rfl (lv_at hl 1 rfl) ?_
  refine x_V (As := [.int x1]) (rest := []) C (a_X9_barAt_v l K G s.heap (x1) (s1) hT ga0 gw0 ew0 gbq ebq es1 gbb ebb (by omega)) yo_X9_barAt wM_X9_78 ⟨⟨by decide, by decide⟩, by decide, by decide⟩ (x_rv C hT (ci := 9) rfl ga0 rg_68) rfl hl.1 rfl (Nat.le_of_ble_eq_true rfl) dX9_of_2 hS (AE_sub (fun _ _ => rfl) (by decide) hS.1) (fun vH213 H213 locsH213 pH213 zH213 kH213 hSH213 => ?_)
  have hqH213 := pH213.1.symm
  subst hqH213
  have hvH213 := pH213.2
  subst hvH213
  refine W.eq (g2 := F0 m 5 ls [.ref bb]) rfl ?_
  refine lv_astore (lv' := [(4, .ref bb), (0, .ref a0), (1, .int x1), (2, .int x2), (3, .int x3)]) hx hb dX9_of_5 hl (by decide) rfl (fun ls214 hl215 => ?_)
  refine lv_aload hx hb dX9_of_7 (lv_at hl215 0 rfl) ?_
  refine lv_ifnull hx hb dX9_of_9 ?_
  refine lv_aload hx hb dX9_of_12 (lv_at hl215 0 rfl) ?_
  refine lv_iload_n hx hb dX9_of_14 rfl (lv_at hl215 3 rfl) ?_
  refine x_V (As := [.int x2]) (rest := []) C (a_X0_has_v l K G s.heap (x2) (sz) hT gbb esz) yo_X0_has wM_X9_82 ⟨⟨by decide, by decide⟩, by decide, by decide⟩ (x_rv C hT (ci := 0) rfl gbb rg_1) rfl hl215.1 rfl (Nat.le_of_ble_eq_true rfl) dX9_of_15 hSH213 (AE_sub (fun _ _ => rfl) (by decide) hSH213.1) (fun vH216 H216 locsH216 pH216 zH216 kH216 hSH216 => ?_)
  obtain ⟨x217, hvH216, bx217, hrH216, hTH216⟩ := pH216
  subst hvH216
  have m218 := (ew0).trans (fR_kept (x_lt hT kH216 ga0 (by decide))).symm
  have m219 := (ebq).trans (fR_kept (x_lt hT kH216 gw0 (by decide))).symm
  have m220 := (ebb).trans (fR_kept (x_lt hT kH216 gbq (by decide))).symm
  have m221 := (ekq).trans (fR_kept (x_lt hT kH216 gbb (by decide))).symm
  have m222 := (egnq).trans (fR_kept (x_lt hT kH216 gbb (by decide))).symm
  have m223 := (ehvq).trans (fR_kept (x_lt hT kH216 gbb (by decide))).symm
  have m224 := (exq).trans (fR_kept (x_lt hT kH216 gbb (by decide))).symm
  have m225 := (es1).trans (fI_kept (x_lt hT kH216 gw0 (by decide))).symm
  have m226 := (esz).trans (fI_kept (x_lt hT kH216 gbb (by decide))).symm
  have vw227 : vwC K H216 bb = (vwC K s.heap bb) := (vw_frm hT gbb (fun q t hq h1 h2 => x_lt hT kH216 hq (by first | omega | (intro z; simp only [List.mem_cons, List.not_mem_nil, or_false] at z <;> omega)))).trans vw_0
  refine W.eq (g2 := F0 m 18 ls214 [.int x217]) rfl ?_
  refine lv_if_ne (tgt := 23) hx hb dX9_of_18 (by decide) (fun c228 => ?_) (fun c228 => ?_)
  · have k229 := i_ne c228
    refine lv_iload_n hx hb dX9_of_23 rfl (lv_at hl215 4 rfl) ?_
    by_cases c230 : x3 = 0
    · have kc230 := i_eq c230
      refine lv_tableIn (tgt := 56) hx hb dX9_of_24 (by omega) (by omega) (off := 32) (by rw [c230]; rfl) (by decide) ?_
      refine lv_aload hx hb dX9_of_56 (lv_at hl215 0 rfl) ?_
      refine x_gr C hTH216 (ci := 0) (k := 1) rfl inX0 (by decide) wF_X9_93 gbb rg_1 rfl dX9_of_58 (fun q231 eq231 gq231 => ?_)
      have uq231 : kq = q231 := (m221).trans eq231.symm
      subst uq231
      refine lv_iload_n hx hb dX9_of_61 rfl (lv_at hl215 3 rfl) ?_
      refine x_ai C hTH216 gkq rg_2 ⟨by omega, by show _ < ((16 : Nat) : Int); omega⟩ dX9_of_62 (fun x232 ex232 bx232 => ?_)
      exact x_iret C hQ dX9_of_63 hSH216 (by decide) (by decide) (⟨x232, rfl, (ofV_at (k := 0) (by rw [v00]; omega) (by omega) (by decide) (by show _ = vwC K s.heap bb 1 x2.toNatClampNeg; rw [← vw227, vwC_a (k := 1) (by decide)]; show _ = (fI H216 (fR H216 bb (K.1.2 0 1)) x2.toNatClampNeg).toInt; rw [← m221]; exact congrArg Int32.toInt ex232)), hTH216⟩)
    have kc230 := i_ne c230
    by_cases c233 : x3 = 1
    · have kc233 := i_eq c233
      refine lv_tableIn (tgt := 64) hx hb dX9_of_24 (by omega) (by omega) (off := 40) (by rw [c233]; rfl) (by decide) ?_
      refine lv_aload hx hb dX9_of_64 (lv_at hl215 0 rfl) ?_
      refine x_gr C hTH216 (ci := 0) (k := 2) rfl inX0 (by decide) wF_X9_96 gbb rg_1 rfl dX9_of_66 (fun q234 eq234 gq234 => ?_)
      have uq234 : gnq = q234 := (m222).trans eq234.symm
      subst uq234
      refine lv_iload_n hx hb dX9_of_69 rfl (lv_at hl215 3 rfl) ?_
      refine x_ai C hTH216 ggnq rg_3 ⟨by omega, by show _ < ((16 : Nat) : Int); omega⟩ dX9_of_70 (fun x235 ex235 bx235 => ?_)
      exact x_iret C hQ dX9_of_71 hSH216 (by decide) (by decide) (⟨x235, rfl, (ofV_at (k := 1) (by rw [v00]; omega) (by omega) (by decide) (by show _ = vwC K s.heap bb 2 x2.toNatClampNeg; rw [← vw227, vwC_a (k := 2) (by decide)]; show _ = (fI H216 (fR H216 bb (K.1.2 0 2)) x2.toNatClampNeg).toInt; rw [← m222]; exact congrArg Int32.toInt ex235)), hTH216⟩)
    have kc233 := i_ne c233
    by_cases c236 : x3 = 2
    · have kc236 := i_eq c236
      refine lv_tableIn (tgt := 72) hx hb dX9_of_24 (by omega) (by omega) (off := 48) (by rw [c236]; rfl) (by decide) ?_
      refine lv_aload hx hb dX9_of_72 (lv_at hl215 0 rfl) ?_
      refine x_gr C hTH216 (ci := 0) (k := 3) rfl inX0 (by decide) wF_X9_99 gbb rg_1 rfl dX9_of_74 (fun q237 eq237 gq237 => ?_)
      have uq237 : hvq = q237 := (m223).trans eq237.symm
      subst uq237
      refine lv_iload_n hx hb dX9_of_77 rfl (lv_at hl215 3 rfl) ?_
      refine x_ai C hTH216 ghvq rg_4 ⟨by omega, by show _ < ((16 : Nat) : Int); omega⟩ dX9_of_78 (fun x238 ex238 bx238 => ?_)
      exact x_iret C hQ dX9_of_79 hSH216 (by decide) (by decide) (⟨x238, rfl, (ofV_at (k := 2) (by rw [v00]; omega) (by omega) (by decide) (by show _ = vwC K s.heap bb 3 x2.toNatClampNeg; rw [← vw227, vwC_a (k := 3) (by decide)]; show _ = (fI H216 (fR H216 bb (K.1.2 0 3)) x2.toNatClampNeg).toInt; rw [← m223]; exact congrArg Int32.toInt ex238)), hTH216⟩)
    have kc236 := i_ne c236
    by_cases c239 : x3 = 3
    · have kc239 := i_eq c239
      refine lv_tableIn (tgt := 80) hx hb dX9_of_24 (by omega) (by omega) (off := 56) (by rw [c239]; rfl) (by decide) ?_
      refine lv_aload hx hb dX9_of_80 (lv_at hl215 0 rfl) ?_
      refine x_gr C hTH216 (ci := 0) (k := 4) rfl inX0 (by decide) wF_X9_102 gbb rg_1 rfl dX9_of_82 (fun q240 eq240 gq240 => ?_)
      have uq240 : xq = q240 := (m224).trans eq240.symm
      subst uq240
      refine lv_iload_n hx hb dX9_of_85 rfl (lv_at hl215 3 rfl) ?_
      refine x_ai C hTH216 gxq rg_5 ⟨by omega, by show _ < ((16 : Nat) : Int); omega⟩ dX9_of_86 (fun x241 ex241 bx241 => ?_)
      exact x_iret C hQ dX9_of_87 hSH216 (by decide) (by decide) (⟨x241, rfl, (ofV_at (k := 3) (by rw [v00]; omega) (by omega) (by decide) (by show _ = vwC K s.heap bb 4 x2.toNatClampNeg; rw [← vw227, vwC_a (k := 4) (by decide)]; show _ = (fI H216 (fR H216 bb (K.1.2 0 4)) x2.toNatClampNeg).toInt; rw [← m224]; exact congrArg Int32.toInt ex241)), hTH216⟩)
    have kc239 := i_ne c239
    refine lv_tableOut (tgt := 88) hx hb dX9_of_24 (by omega) (by decide) ?_
    refine lv_iconst (v := (-1)) hx hb dX9_of_88 (by decide) ?_
    exact x_iret C hQ dX9_of_89 hSH216 (by decide) (by decide) (⟨(-1), rfl, (ofV_no (by rw [v00]; omega) n_m1), hTH216⟩)
  · have k229 := i_eq c228
    refine lv_iconst (v := (-1)) hx hb dX9_of_21 (by decide) ?_
    exact x_iret C hQ dX9_of_22 hSH216 (by decide) (by decide) (⟨(-1), rfl, (ofV_no (by rw [v00]; omega) n_m1), hTH216⟩)

set_option maxHeartbeats 4000000 in
set_option maxRecDepth 100000 in
theorem a_X9_pass_v (l : Launch) (K : KE) (G : Nat → Option Nat) (H : Heap) {a0 : Nat} (x1 : Int32) (x2 : Int32) (x3 : Int32) {w0 : Nat} {bq : Nat} {bb : Nat} {psq : Nat} {pdq : Nat} (s1 : Int32) (pcn : Int32) (hT : TY K G H) (ga0 : G a0 = some 68) (hx1 : 0 ≤ x1.toInt ∧ x1.toInt ≤ 9) (gw0 : G w0 = some 0) (ew0 : w0 = fR H a0 (K.1.2 9 0)) (gbq : G bq = some 25) (ebq : bq = fR H w0 (K.1.2 8 0)) (gbb : G bb = some 1) (ebb : bb = fR H bq (x1 : Int32).toNatClampNeg) (gpsq : G psq = some 7) (epsq : psq = fR H bb (K.1.2 0 6)) (gpdq : G pdq = some 8) (epdq : pdq = fR H bb (K.1.2 0 7)) (es1 : s1 = fI H w0 (K.1.2 8 1)) (epcn : pcn = fI H bb (K.1.2 0 8)) (hp0 : x1.toInt < s1.toInt) : MX l K yX9_pass cX9_pass 5 (some .int) 2 43 0 0 [.ref a0, .int x1, .int x2, .int x3] H (AE G [] H.size) (fun v H1 => ∃ (r : Int32), v = some (.int r) ∧ (r.toInt = pqV (vwC K H bb) x2.toInt x3.toInt) ∧ TY K G H1) := by
  refine MX.of (by decide +kernel) (Nat.le_of_ble_eq_true rfl) ?_
  intro p e s m below meth c ls Q C hH hl hQ
  subst hH
  have C : CX p K s m _ meth c RX9 cX9_pass 5 (some .int) "pass" := C
  obtain ⟨hx, hb, hml, hown, hts, hKT, hr, hlocks, hnm⟩ := id C
  have hl : lv_has ls 5 [(0, .ref a0), (1, .int x1), (2, .int x2), (3, .int x3)] := hl
  have hS : va_S (AE G [] s.heap.size) s.heap s.heap [] := va_S.rf
  have n_m1 : ((-1) : Int32).toInt = -1 := rfl
  have n_0 : (0 : Int32).toInt = 0 := rfl
  have n_1 : (1 : Int32).toInt = 1 := rfl
  have bs1 := ty_fi (x := s1) (k := 1) es1 hT gw0 rg_0 rfl
  have bpcn := ty_fi (x := pcn) (k := 8) epcn hT gbb rg_1 rfl
  have hapB : ∀ x y, x < 18 → y < 18 → x ≠ y → K.1.2 0 x ≠ K.1.2 0 y := x_apart hKT hts inX0 tyX0 tyX0_ok nmX0 rfl
  have vw_0 : vwC K s.heap bb = vwC K s.heap bb := rfl
  have v80 : vwC K s.heap bb 8 0 = pcn.toInt := by rw [vwC_f (Or.inr (Or.inl rfl)), ← epcn]
  refine lv_aload_n hx hb dX9_pass_0 rfl (lv_at hl 0 rfl) ?_
  refine lv_iload_n hx hb dX9_pass_1 rfl (lv_at hl 1 rfl) ?_
  refine x_V (As := [.int x1]) (rest := []) C (a_X9_barAt_v l K G s.heap (x1) (s1) hT ga0 gw0 ew0 gbq ebq es1 gbb ebb (by omega)) yo_X9_barAt wM_X9_78 ⟨⟨by decide, by decide⟩, by decide, by decide⟩ (x_rv C hT (ci := 9) rfl ga0 rg_68) rfl hl.1 rfl (Nat.le_of_ble_eq_true rfl) dX9_pass_2 hS (AE_sub (fun _ _ => rfl) (by decide) hS.1) (fun vH169 H169 locsH169 pH169 zH169 kH169 hSH169 => ?_)
  have hqH169 := pH169.1.symm
  subst hqH169
  have hvH169 := pH169.2
  subst hvH169
  refine W.eq (g2 := F0 m 5 ls [.ref bb]) rfl ?_
  refine lv_astore (lv' := [(4, .ref bb), (0, .ref a0), (1, .int x1), (2, .int x2), (3, .int x3)]) hx hb dX9_pass_5 hl (by decide) rfl (fun ls170 hl171 => ?_)
  refine lv_aload hx hb dX9_pass_7 (lv_at hl171 0 rfl) ?_
  refine lv_ifnull hx hb dX9_pass_9 ?_
  refine lv_iload_n hx hb dX9_pass_12 rfl (lv_at hl171 3 rfl) ?_
  refine lv_iconst (v := 1) hx hb dX9_pass_13 (by decide) ?_
  refine lv_aload hx hb dX9_pass_14 (lv_at hl171 0 rfl) ?_
  refine x_gi C hT (ci := 0) (k := 8) rfl inX0 (by decide) wF_X9_86 gbb rg_1 rfl dX9_pass_16 (fun x172 ex172 bx172 => ?_)
  have ux172 : pcn = x172 := (epcn).trans ex172.symm
  subst ux172
  refine x_S (As := [.int x2, .int 1, .int pcn]) (rest := []) C (a_X9_within_v l K G s.heap (x2) (1) (pcn) hT) yo_X9_within wM_X9_89 ⟨⟨by decide, by decide⟩, by decide, by decide⟩ rfl hl171.1 rfl (Nat.le_of_ble_eq_true rfl) dX9_pass_19 hSH169 (AE_sub (fun _ _ => rfl) (by decide) hSH169.1) (fun vH173 H173 locsH173 pH173 zH173 kH173 hSH173 => ?_)
  have hqH173 := pH173.1.symm
  subst hqH173
  rcases pH173.2 with ⟨hvH173, hcH173⟩ | ⟨hvH173, hcH173⟩
  · subst hvH173
    refine W.eq (g2 := F0 m 22 ls170 [.int 1]) rfl ?_
    refine lv_if_ne (tgt := 27) hx hb dX9_pass_22 (by decide) (fun c174 => ?_) (fun c174 => ?_)
    · have k175 := i_ne c174
      refine lv_iload_n hx hb dX9_pass_27 rfl (lv_at hl171 4 rfl) ?_
      by_cases c176 : x3 = 0
      · have kc176 := i_eq c176
        refine lv_lookup (tgt := 56) (off := 28) hx hb dX9_pass_28 (by decide) (by rw [c176]; rfl) (by decide) ?_
        refine lv_aload hx hb dX9_pass_56 (lv_at hl171 0 rfl) ?_
        refine x_gr C hT (ci := 0) (k := 6) rfl inX0 (by decide) wF_X9_174 gbb rg_1 rfl dX9_pass_58 (fun q177 eq177 gq177 => ?_)
        have uq177 : psq = q177 := (epsq).trans eq177.symm
        subst uq177
        refine lv_iload_n hx hb dX9_pass_61 rfl (lv_at hl171 3 rfl) ?_
        refine lv_iconst (v := 1) hx hb dX9_pass_62 (by decide) ?_
        refine lv_isub hx hb dX9_pass_63 ?_
        refine lv_topi (fun x178 ex178 => ?_)
        have tx178 := i_sub ex178 (by omega)
        refine x_ai C hT gpsq rg_7 ⟨by omega, by show _ < ((200 : Nat) : Int); omega⟩ dX9_pass_64 (fun x179 ex179 bx179 => ?_)
        have cn_x178 := i_cl (x := x178) (by omega)
        exact x_iret C hQ dX9_pass_65 hSH173 (by decide) (by decide) (⟨x179, rfl, (pqV_at (k := 0) (j := x178.toNatClampNeg) (by rw [v80]; omega) (by omega) (by decide) (by omega) (by show _ = vwC K s.heap bb 6 _; rw [← vw_0, vwC_a (k := 6) (by decide)]; show _ = (fI s.heap (fR s.heap bb (K.1.2 0 6)) _).toInt; rw [← epsq]; exact congrArg Int32.toInt ex179)), hT⟩)
      have kc176 := i_ne c176
      by_cases c180 : x3 = 1
      · have kc180 := i_eq c180
        refine lv_lookup (tgt := 66) (off := 38) hx hb dX9_pass_28 (by decide) (by rw [c180]; rfl) (by decide) ?_
        refine lv_aload hx hb dX9_pass_66 (lv_at hl171 0 rfl) ?_
        refine x_gr C hT (ci := 0) (k := 7) rfl inX0 (by decide) wF_X9_177 gbb rg_1 rfl dX9_pass_68 (fun q181 eq181 gq181 => ?_)
        have uq181 : pdq = q181 := (epdq).trans eq181.symm
        subst uq181
        refine lv_iload_n hx hb dX9_pass_71 rfl (lv_at hl171 3 rfl) ?_
        refine lv_iconst (v := 1) hx hb dX9_pass_72 (by decide) ?_
        refine lv_isub hx hb dX9_pass_73 ?_
        refine lv_topi (fun x182 ex182 => ?_)
        have tx182 := i_sub ex182 (by omega)
        refine x_ai C hT gpdq rg_8 ⟨by omega, by show _ < ((200 : Nat) : Int); omega⟩ dX9_pass_74 (fun x183 ex183 bx183 => ?_)
        have cn_x182 := i_cl (x := x182) (by omega)
        exact x_iret C hQ dX9_pass_75 hSH173 (by decide) (by decide) (⟨x183, rfl, (pqV_at (k := 1) (j := x182.toNatClampNeg) (by rw [v80]; omega) (by omega) (by decide) (by omega) (by show _ = vwC K s.heap bb 7 _; rw [← vw_0, vwC_a (k := 7) (by decide)]; show _ = (fI s.heap (fR s.heap bb (K.1.2 0 7)) _).toInt; rw [← epdq]; exact congrArg Int32.toInt ex183)), hT⟩)
      have kc180 := i_ne c180
      refine lv_lookup (tgt := 76) (off := 48) hx hb dX9_pass_28 (by decide) (show Op.lookupswitch.offset [(0, 28), (1, 38)] 48 x3.toInt = 48 by rw [lv_osw (a := 0) c176 rfl, lv_osw (a := 1) c180 rfl]; rfl) (by decide) ?_
      refine lv_iconst (v := (-1)) hx hb dX9_pass_76 (by decide) ?_
      exact x_iret C hQ dX9_pass_77 hSH173 (by decide) (by decide) (⟨(-1), rfl, (pqV_no (by rw [v80]; omega) n_m1), hT⟩)
    · have k175 := i_eq c174
      exfalso
      omega
  · subst hvH173
    refine W.eq (g2 := F0 m 22 ls170 [.int 0]) rfl ?_
    refine lv_if_ne (tgt := 27) hx hb dX9_pass_22 (by decide) (fun c184 => ?_) (fun c184 => ?_)
    · have k185 := i_ne c184
      exfalso
      omega
    · have k185 := i_eq c184
      refine lv_iconst (v := (-1)) hx hb dX9_pass_25 (by decide) ?_
      exact x_iret C hQ dX9_pass_26 hSH173 (by decide) (by decide) (⟨(-1), rfl, (pqV_no (by rw [v80]; omega) n_m1), hT⟩)

set_option maxHeartbeats 4000000 in
set_option maxRecDepth 100000 in
theorem a_X9_tone_v (l : Launch) (K : KE) (G : Nat → Option Nat) (H : Heap) {a0 : Nat} (x1 : Int32) (x2 : Int32) {smq : Nat} {w0 : Nat} {lawq : Nat} {tx : Nat} {bq : Nat} {bb : Nat} (fo : Int32) (s1 : Int32) (fsE : Nat → EF) (fwE : Nat → EF) (hT : TY K G H) (ga0 : G a0 = some 68) (hx1 : 0 ≤ x1.toInt ∧ x1.toInt ≤ 9) (gsmq : G smq = some 82) (esmq : smq = fR H a0 (K.1.2 9 5)) (gw0 : G w0 = some 0) (ew0 : w0 = fR H a0 (K.1.2 9 0)) (glawq : G lawq = some 26) (elawq : lawq = fR H w0 (K.1.2 8 2)) (gtx : G tx = some 16) (etx : tx = fR H lawq (fo : Int32).toNatClampNeg) (gbq : G bq = some 25) (ebq : bq = fR H w0 (K.1.2 8 0)) (gbb : G bb = some 1) (ebb : bb = fR H bq (x1 : Int32).toNatClampNeg) (efo : fo = fI H w0 (K.1.2 8 4)) (es1 : s1 = fI H w0 (K.1.2 8 1)) (hp0 : x1.toInt < s1.toInt) (hy0 : TXC K H tx 1 fsE fwE) : MX l K yX9_tone cX9_tone 4 (some .int) 5 126 0 0 [.ref a0, .int x1, .int x2] H (AE G [83, 84] H.size) (fun v H1 => ∃ (r : Int32), v = some (.int r) ∧ (r.toInt = tqV (toV (tlC K H tx fsE fwE) (vwC K H bb)) x2.toInt) ∧ TY K G H1) := by
  refine MX.of (by decide +kernel) (Nat.le_of_ble_eq_true rfl) ?_
  intro p e s m below meth c ls Q C hH hl hQ
  subst hH
  have C : CX p K s m _ meth c RX9 cX9_tone 4 (some .int) "tone" := C
  obtain ⟨hx, hb, hml, hown, hts, hKT, hr, hlocks, hnm⟩ := id C
  have hl : lv_has ls 4 [(0, .ref a0), (1, .int x1), (2, .int x2)] := hl
  have hS : va_S (AE G [83, 84] s.heap.size) s.heap s.heap [] := va_S.rf
  have n_m1 : ((-1) : Int32).toInt = -1 := rfl
  have n_0 : (0 : Int32).toInt = 0 := rfl
  have n_1 : (1 : Int32).toInt = 1 := rfl
  have n_2 : (2 : Int32).toInt = 2 := rfl
  have bfo := ty_fi (x := fo) (k := 4) efo hT gw0 rg_0 rfl
  have bs1 := ty_fi (x := s1) (k := 1) es1 hT gw0 rg_0 rfl
  refine lv_aload_n hx hb dX9_tone_0 rfl (lv_at hl 0 rfl) ?_
  refine lv_iload_n hx hb dX9_tone_1 rfl (lv_at hl 1 rfl) ?_
  refine x_V (As := [.int x1]) (rest := []) C (a_X9_barAt_v l K G s.heap (x1) (s1) hT ga0 gw0 ew0 gbq ebq es1 gbb ebb (by omega)) yo_X9_barAt wM_X9_78 ⟨⟨by decide, by decide⟩, by decide, by decide⟩ (x_rv C hT (ci := 9) rfl ga0 rg_68) rfl hl.1 rfl (Nat.le_of_ble_eq_true rfl) dX9_tone_2 hS (AE_sub (fun _ _ => rfl) (by decide) hS.1) (fun vH177 H177 locsH177 pH177 zH177 kH177 hSH177 => ?_)
  have hqH177 := pH177.1.symm
  subst hqH177
  have hvH177 := pH177.2
  subst hvH177
  refine W.eq (g2 := F0 m 5 ls [.ref bb]) rfl ?_
  refine lv_astore_n (lv' := [(3, .ref bb), (0, .ref a0), (1, .int x1), (2, .int x2)]) hx hb dX9_tone_5 rfl hl (by decide) rfl (fun ls178 hl179 => ?_)
  refine lv_aload_n hx hb dX9_tone_6 rfl (lv_at hl179 0 rfl) ?_
  refine lv_ifnull hx hb dX9_tone_7 ?_
  refine lv_iload_n hx hb dX9_tone_10 rfl (lv_at hl179 3 rfl) ?_
  refine x_S (As := [.int x2]) (rest := []) C (c_X9_isTone l K G s.heap (x2) hT) yo_X9_isTone wM_X9_150 ⟨⟨by decide, by decide⟩, by decide, by decide⟩ rfl hl179.1 rfl (Nat.le_of_ble_eq_true rfl) dX9_tone_11 hSH177 (AE_sub (fun _ _ => rfl) (by decide) hSH177.1) (fun vH180 H180 locsH180 pH180 zH180 kH180 hSH180 => ?_)
  have hqH180 := pH180.1.symm
  subst hqH180
  rcases pH180.2 with ⟨hvH180, hcH180⟩ | ⟨hvH180, hcH180⟩
  · subst hvH180
    refine W.eq (g2 := F0 m 14 ls178 [.int 1]) rfl ?_
    refine lv_if_ne (tgt := 19) hx hb dX9_tone_14 (by decide) (fun c181 => ?_) (fun c181 => ?_)
    · have k182 := i_ne c181
      refine lv_aload_n hx hb dX9_tone_19 rfl (lv_at hl179 1 rfl) ?_
      refine lv_aload_n hx hb dX9_tone_20 rfl (lv_at hl179 0 rfl) ?_
      refine lv_iload_n hx hb dX9_tone_21 rfl (lv_at hl179 3 rfl) ?_
      refine x_V (As := [.ref bb, .int x2]) (rest := []) C (a_X9_toneNow_v l K G s.heap (x2) (fo) (fsE) (fwE) hT ga0 gbb (by omega) gsmq esmq gw0 ew0 glawq elawq gtx etx efo (hy0)) yo_X9_toneNow wM_X9_166 ⟨⟨by decide, by decide⟩, by decide, by decide⟩ (x_rv C hT (ci := 9) rfl ga0 rg_68) rfl hl179.1 rfl (Nat.le_of_ble_eq_true rfl) dX9_tone_22 hSH180 (AE_sub (fun _ _ => rfl) (by decide) hSH180.1) (fun vH183 H183 locsH183 pH183 zH183 kH183 hSH183 => ?_)
      obtain ⟨x184, hvH183, bx184, m185, hTH183⟩ := pH183
      subst hvH183
      have m186 := (esmq).trans (fR_kept (x_lt hT kH183 ga0 (by decide))).symm
      have m187 := (ew0).trans (fR_kept (x_lt hT kH183 ga0 (by decide))).symm
      have m188 := (elawq).trans (fR_kept (x_lt hT kH183 gw0 (by decide))).symm
      have m189 := (etx).trans (fR_kept (x_lt hT kH183 glawq (by decide))).symm
      have m190 := (ebq).trans (fR_kept (x_lt hT kH183 gw0 (by decide))).symm
      have m191 := (ebb).trans (fR_kept (x_lt hT kH183 gbq (by decide))).symm
      have m192 := (efo).trans (fI_kept (x_lt hT kH183 gw0 (by decide))).symm
      have m193 := (es1).trans (fI_kept (x_lt hT kH183 gw0 (by decide))).symm
      refine W.eq (g2 := F0 m 25 ls178 [.int x184]) rfl ?_
      exact x_iret C hQ dX9_tone_25 hSH183 (by decide) (by decide) (⟨x184, rfl, (tqV_at (by omega) (m185.trans toV_tnC.symm)), hTH183⟩)
    · have k182 := i_eq c181
      exfalso
      omega
  · subst hvH180
    refine W.eq (g2 := F0 m 14 ls178 [.int 0]) rfl ?_
    refine lv_if_ne (tgt := 19) hx hb dX9_tone_14 (by decide) (fun c194 => ?_) (fun c194 => ?_)
    · have k195 := i_ne c194
      exfalso
      omega
    · have k195 := i_eq c194
      refine lv_iconst (v := (-1)) hx hb dX9_tone_17 (by decide) ?_
      exact x_iret C hQ dX9_tone_18 hSH180 (by decide) (by decide) (⟨(-1), rfl, (tqV_no (by omega) n_m1), hT⟩)

set_option maxHeartbeats 4000000 in
set_option maxRecDepth 100000 in
theorem a_X9_of_n (l : Launch) (K : KE) (G : Nat → Option Nat) (H : Heap) {a0 : Nat} (x1 : Int32) (x2 : Int32) (x3 : Int32) {w0 : Nat} (s1 : Int32) (hT : TY K G H) (ga0 : G a0 = some 68) (gw0 : G w0 = some 0) (ew0 : w0 = fR H a0 (K.1.2 9 0)) (es1 : s1 = fI H w0 (K.1.2 8 1)) (hp0 : x1.toInt < 0 ∨ s1.toInt ≤ x1.toInt) : MX l K yX9_of cX9_of 5 (some .int) 2 43 0 0 [.ref a0, .int x1, .int x2, .int x3] H (AE G [] H.size) (fun v H1 => ∃ (r : Int32), v = some (.int r) ∧ ((-1) ≤ r.toInt ∧ r.toInt ≤ (-1)) ∧ TY K G H1) := by
  refine MX.of (by decide +kernel) (Nat.le_of_ble_eq_true rfl) ?_
  intro p e s m below meth c ls Q C hH hl hQ
  subst hH
  have C : CX p K s m _ meth c RX9 cX9_of 5 (some .int) "of" := C
  obtain ⟨hx, hb, hml, hown, hts, hKT, hr, hlocks, hnm⟩ := id C
  have hl : lv_has ls 5 [(0, .ref a0), (1, .int x1), (2, .int x2), (3, .int x3)] := hl
  have hS : va_S (AE G [] s.heap.size) s.heap s.heap [] := va_S.rf
  have n_m1 : ((-1) : Int32).toInt = -1 := rfl
  have bs1 := ty_fi (x := s1) (k := 1) es1 hT gw0 rg_0 rfl
  refine lv_aload_n hx hb dX9_of_0 rfl (lv_at hl 0 rfl) ?_
  refine lv_iload_n hx hb dX9_of_1 rfl (lv_at hl 1 rfl) ?_
  refine x_V (As := [.int x1]) (rest := []) C (a_X9_barAt_n l K G s.heap (x1) (s1) hT ga0 gw0 ew0 es1 (by omega)) yo_X9_barAt wM_X9_78 ⟨⟨by decide, by decide⟩, by decide, by decide⟩ (x_rv C hT (ci := 9) rfl ga0 rg_68) rfl hl.1 rfl (Nat.le_of_ble_eq_true rfl) dX9_of_2 hS (AE_sub (fun _ _ => rfl) (by decide) hS.1) (fun vH113 H113 locsH113 pH113 zH113 kH113 hSH113 => ?_)
  have hqH113 := pH113.1.symm
  subst hqH113
  have hvH113 := pH113.2
  subst hvH113
  refine W.eq (g2 := F0 m 5 ls [.null]) rfl ?_
  refine lv_astoreN (lv' := [(4, .null), (0, .ref a0), (1, .int x1), (2, .int x2), (3, .int x3)]) hx hb dX9_of_5 hl (by decide) rfl (fun ls114 hl115 => ?_)
  refine lv_aloadN hx hb dX9_of_7 (lv_at hl115 0 rfl) ?_
  refine lv_ifnullN (tgt := 21) hx hb dX9_of_9 (by decide) ?_
  refine lv_iconst (v := (-1)) hx hb dX9_of_21 (by decide) ?_
  exact x_iret C hQ dX9_of_22 hSH113 (by decide) (by decide) (⟨(-1), rfl, by decide, hT⟩)

set_option maxHeartbeats 4000000 in
set_option maxRecDepth 100000 in
theorem a_X9_pass_n (l : Launch) (K : KE) (G : Nat → Option Nat) (H : Heap) {a0 : Nat} (x1 : Int32) (x2 : Int32) (x3 : Int32) {w0 : Nat} (s1 : Int32) (hT : TY K G H) (ga0 : G a0 = some 68) (gw0 : G w0 = some 0) (ew0 : w0 = fR H a0 (K.1.2 9 0)) (es1 : s1 = fI H w0 (K.1.2 8 1)) (hp0 : x1.toInt < 0 ∨ s1.toInt ≤ x1.toInt) : MX l K yX9_pass cX9_pass 5 (some .int) 2 43 0 0 [.ref a0, .int x1, .int x2, .int x3] H (AE G [] H.size) (fun v H1 => ∃ (r : Int32), v = some (.int r) ∧ ((-1) ≤ r.toInt ∧ r.toInt ≤ (-1)) ∧ TY K G H1) := by
  refine MX.of (by decide +kernel) (Nat.le_of_ble_eq_true rfl) ?_
  intro p e s m below meth c ls Q C hH hl hQ
  subst hH
  have C : CX p K s m _ meth c RX9 cX9_pass 5 (some .int) "pass" := C
  obtain ⟨hx, hb, hml, hown, hts, hKT, hr, hlocks, hnm⟩ := id C
  have hl : lv_has ls 5 [(0, .ref a0), (1, .int x1), (2, .int x2), (3, .int x3)] := hl
  have hS : va_S (AE G [] s.heap.size) s.heap s.heap [] := va_S.rf
  have n_m1 : ((-1) : Int32).toInt = -1 := rfl
  have bs1 := ty_fi (x := s1) (k := 1) es1 hT gw0 rg_0 rfl
  refine lv_aload_n hx hb dX9_pass_0 rfl (lv_at hl 0 rfl) ?_
  refine lv_iload_n hx hb dX9_pass_1 rfl (lv_at hl 1 rfl) ?_
  refine x_V (As := [.int x1]) (rest := []) C (a_X9_barAt_n l K G s.heap (x1) (s1) hT ga0 gw0 ew0 es1 (by omega)) yo_X9_barAt wM_X9_78 ⟨⟨by decide, by decide⟩, by decide, by decide⟩ (x_rv C hT (ci := 9) rfl ga0 rg_68) rfl hl.1 rfl (Nat.le_of_ble_eq_true rfl) dX9_pass_2 hS (AE_sub (fun _ _ => rfl) (by decide) hS.1) (fun vH113 H113 locsH113 pH113 zH113 kH113 hSH113 => ?_)
  have hqH113 := pH113.1.symm
  subst hqH113
  have hvH113 := pH113.2
  subst hvH113
  refine W.eq (g2 := F0 m 5 ls [.null]) rfl ?_
  refine lv_astoreN (lv' := [(4, .null), (0, .ref a0), (1, .int x1), (2, .int x2), (3, .int x3)]) hx hb dX9_pass_5 hl (by decide) rfl (fun ls114 hl115 => ?_)
  refine lv_aloadN hx hb dX9_pass_7 (lv_at hl115 0 rfl) ?_
  refine lv_ifnullN (tgt := 25) hx hb dX9_pass_9 (by decide) ?_
  refine lv_iconst (v := (-1)) hx hb dX9_pass_25 (by decide) ?_
  exact x_iret C hQ dX9_pass_26 hSH113 (by decide) (by decide) (⟨(-1), rfl, by decide, hT⟩)

set_option maxHeartbeats 4000000 in
set_option maxRecDepth 100000 in
theorem a_X9_tone_n (l : Launch) (K : KE) (G : Nat → Option Nat) (H : Heap) {a0 : Nat} (x1 : Int32) (x2 : Int32) {w0 : Nat} (s1 : Int32) (hT : TY K G H) (ga0 : G a0 = some 68) (gw0 : G w0 = some 0) (ew0 : w0 = fR H a0 (K.1.2 9 0)) (es1 : s1 = fI H w0 (K.1.2 8 1)) (hp0 : x1.toInt < 0 ∨ s1.toInt ≤ x1.toInt) : MX l K yX9_tone cX9_tone 4 (some .int) 2 43 0 0 [.ref a0, .int x1, .int x2] H (AE G [] H.size) (fun v H1 => ∃ (r : Int32), v = some (.int r) ∧ ((-1) ≤ r.toInt ∧ r.toInt ≤ (-1)) ∧ TY K G H1) := by
  refine MX.of (by decide +kernel) (Nat.le_of_ble_eq_true rfl) ?_
  intro p e s m below meth c ls Q C hH hl hQ
  subst hH
  have C : CX p K s m _ meth c RX9 cX9_tone 4 (some .int) "tone" := C
  obtain ⟨hx, hb, hml, hown, hts, hKT, hr, hlocks, hnm⟩ := id C
  have hl : lv_has ls 4 [(0, .ref a0), (1, .int x1), (2, .int x2)] := hl
  have hS : va_S (AE G [] s.heap.size) s.heap s.heap [] := va_S.rf
  have n_m1 : ((-1) : Int32).toInt = -1 := rfl
  have bs1 := ty_fi (x := s1) (k := 1) es1 hT gw0 rg_0 rfl
  refine lv_aload_n hx hb dX9_tone_0 rfl (lv_at hl 0 rfl) ?_
  refine lv_iload_n hx hb dX9_tone_1 rfl (lv_at hl 1 rfl) ?_
  refine x_V (As := [.int x1]) (rest := []) C (a_X9_barAt_n l K G s.heap (x1) (s1) hT ga0 gw0 ew0 es1 (by omega)) yo_X9_barAt wM_X9_78 ⟨⟨by decide, by decide⟩, by decide, by decide⟩ (x_rv C hT (ci := 9) rfl ga0 rg_68) rfl hl.1 rfl (Nat.le_of_ble_eq_true rfl) dX9_tone_2 hS (AE_sub (fun _ _ => rfl) (by decide) hS.1) (fun vH113 H113 locsH113 pH113 zH113 kH113 hSH113 => ?_)
  have hqH113 := pH113.1.symm
  subst hqH113
  have hvH113 := pH113.2
  subst hvH113
  refine W.eq (g2 := F0 m 5 ls [.null]) rfl ?_
  refine lv_astore_nN (lv' := [(3, .null), (0, .ref a0), (1, .int x1), (2, .int x2)]) hx hb dX9_tone_5 rfl hl (by decide) rfl (fun ls114 hl115 => ?_)
  refine lv_aload_nN hx hb dX9_tone_6 rfl (lv_at hl115 0 rfl) ?_
  refine lv_ifnullN (tgt := 17) hx hb dX9_tone_7 (by decide) ?_
  refine lv_iconst (v := (-1)) hx hb dX9_tone_17 (by decide) ?_
  exact x_iret C hQ dX9_tone_18 hSH113 (by decide) (by decide) (⟨(-1), rfl, by decide, hT⟩)
