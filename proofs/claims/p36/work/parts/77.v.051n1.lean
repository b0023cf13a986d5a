
set_option maxHeartbeats 4000000 in
set_option maxRecDepth 100000 in
theorem a_X10_readUnit_g (l : Launch) (K : KE) (G : Nat → Option Nat) (H : Heap) {a0 : Nat} {oq : Nat} {aq : Nat} {tq : Nat} (sp : Int32) (fr : Int32) (tk : Int32) (vl : Int32) (mn : Int32) (tp : Int32) (jb : Int32) (ci : Nat) (bt : Nat → Int) (hT : TY K G H) (ga0 : G a0 = some 112) (goq : G oq = some 136) (eoq : @Eq Ad oq (fR H a0 (K.1.2 10 32))) (gaq : G aq = some 137) (eaq : @Eq Ad aq (fR H a0 (K.1.2 10 33))) (gtq : G tq = some 126) (etq : @Eq Ad tq (fR H a0 (K.1.2 10 17))) (esp : sp = fI H a0 (K.1.2 10 19)) (efr : fr = fI H a0 (K.1.2 10 20)) (etk : tk = fI H a0 (K.1.2 10 21)) (evl : vl = fI H a0 (K.1.2 10 22)) (emn : mn = fI H a0 (K.1.2 10 35)) (etp : tp = fI H a0 (K.1.2 10 18)) (ejb : jb = fI H a0 (K.1.2 10 34)) (hg_CG : CG (avw K H a0)) (hg_TU : TU (avw K H a0) (svw K H a0)) (hg_WD : WD (avw K H a0)) (hg_IM : IM (avw K H a0)) (hp0 : (sp.toInt ≤ tp.toInt ∧ fr.toInt ≤ sp.toInt ∧ (tk.toInt = 0 ∨ fr.toInt < sp.toInt) ∧ (tk.toInt ≠ 2 ∨ (0 ≤ vl.toInt ∧ vl.toInt ≤ 23)))) (hp1 : mn.toInt ≤ fr.toInt) (hy0 : CU bt tp.toNatClampNeg ci fr sp tk vl) (hy1 : ∀ j : Nat, j < tp.toNatClampNeg → 0 ≤ bt j) (hv_bt : ∀ j : Nat, bt j = (fI H tq j).toInt) : MX l K yX10_readUnit cX10_readUnit 2 (some .int) 3 65 0 0 [.ref a0] H (AE G [112, 136, 137] H.size) (fun v H1 => ∃ (r : Int32) (t0 : Int32) (t1 : Int32) (t2 : Int32) (t3 : Int32) (t4 : Int32), v = some (.int r) ∧ ((-1) ≤ r.toInt ∧ r.toInt ≤ 0) ∧ t0 = fI H1 a0 (K.1.2 10 19) ∧ t1 = fI H1 a0 (K.1.2 10 20) ∧ t2 = fI H1 a0 (K.1.2 10 21) ∧ t3 = fI H1 a0 (K.1.2 10 22) ∧ t4 = fI H1 a0 (K.1.2 10 35) ∧ (r.toInt = -1 ∨ (r.toInt = 0 ∧ t0.toInt ≤ tp.toInt ∧ t1.toInt ≤ t0.toInt ∧ (t2.toInt = 0 ∨ t1.toInt < t0.toInt) ∧ (t2.toInt ≠ 2 ∨ (0 ≤ t3.toInt ∧ t3.toInt ≤ 23)) ∧ t4.toInt = mn.toInt + 1 ∧ sp.toInt ≤ t1.toInt ∧ fr.toInt < t1.toInt)) ∧ @Eq Ad oq (fR H1 a0 (K.1.2 10 32)) ∧ @Eq Ad aq (fR H1 a0 (K.1.2 10 33)) ∧ @Eq Ad tq (fR H1 a0 (K.1.2 10 17)) ∧ (CG (avw K H1 a0)) ∧ (TU (avw K H1 a0) (svw K H1 a0)) ∧ (WD (avw K H1 a0)) ∧ (IM (avw K H1 a0)) ∧ MF K H H1 a0 [19, 20, 21, 22, 35, 39, 40] ∧ (∀ j : Nat, j < 3000 + mn.toNatClampNeg → fI H1 oq j = fI H oq j ∧ fI H1 aq j = fI H aq j) ∧ (r.toInt = -1 ∨ WF (fun k => fI H1 oq k) (fun k => fI H1 aq k) (3000 + mn.toNatClampNeg) (3000 + t4.toNatClampNeg) 0 1) ∧ (r.toInt = -1 ∨ tk.toInt ≠ 3 ∨ ((fI H1 oq (3000 + mn.toNatClampNeg)).toInt = 0 ∧ (fI H1 aq (3000 + mn.toNatClampNeg)).toInt = vl.toInt)) ∧ (RC (unI (kK bt tp.toNatClampNeg) (1 - jb.toInt) ci) r bt tp.toNatClampNeg t1 t0 t2 t3) ∧ (r.toInt = -1 ∨ RZ (1 - jb.toInt) (fun k => fI H1 oq k) (fun k => fI H1 aq k) (3000 + mn.toNatClampNeg) (3000 + t4.toNatClampNeg) ([unF (kK bt tp.toNatClampNeg) (vV bt tp.toNatClampNeg) ci])) ∧ TY K G H1) := by
  refine MX.of (by decide +kernel) (Nat.le_of_ble_eq_true rfl) ?_
  intro p e s m below meth c ls Q C hH hl hQ
  subst hH
  have C : CX p K s m _ meth c RX10 cX10_readUnit 2 (some .int) "readUnit" := C
  obtain ⟨hx, hb, hml, hown, hts, hKT, hr, hlocks, hnm⟩ := id C
  have hl : lv_has ls 2 [(0, .ref a0)] := hl
  have hS : va_S (AE G [112, 136, 137] s.heap.size) s.heap s.heap [] := va_S.rf
  have n_0 : (0 : Int32).toInt = 0 := rfl
  have n_1 : (1 : Int32).toInt = 1 := rfl
  have n_2 : (2 : Int32).toInt = 2 := rfl
  have n_3 : (3 : Int32).toInt = 3 := rfl
  have n_10 : (10 : Int32).toInt = 10 := rfl
  have n_19 : (19 : Int32).toInt = 19 := rfl
  have n_20 : (20 : Int32).toInt = 20 := rfl
  have bsp := ty_fi (x := sp) (k := 19) esp hT ga0 rg_112 rfl
  have bfr := ty_fi (x := fr) (k := 20) efr hT ga0 rg_112 rfl
  have btk := ty_fi (x := tk) (k := 21) etk hT ga0 rg_112 rfl
  have bvl := ty_fi (x := vl) (k := 22) evl hT ga0 rg_112 rfl
  have bmn := ty_fi (x := mn) (k := 35) emn hT ga0 rg_112 rfl
  have btp := ty_fi (x := tp) (k := 18) etp hT ga0 rg_112 rfl
  have bjb := ty_fi (x := jb) (k := 34) ejb hT ga0 rg_112 rfl
  have hap : ∀ x y, x < 74 → y < 74 → x ≠ y → K.1.2 10 x ≠ K.1.2 10 y := x_apart hKT hts inX10 tyX10 tyX10_ok nmX10 rfl
  have mf0 : MF K s.heap s.heap a0 [19, 20, 21, 22, 35, 39, 40] := fun _ _ _ => rfl
  have f0_bt := hv_bt
  have pf00 : ∀ j : Nat, j < 3000 + mn.toNatClampNeg → fI s.heap oq j = fI s.heap oq j ∧ fI s.heap aq j = fI s.heap aq j := fun _ _ => ⟨rfl, rfl⟩
  have hmn := i_cl (x := mn) (by omega)
  refine lv_aload_n hx hb dX10_readUnit_0 rfl (lv_at hl 0 rfl) ?_
  refine x_gi C hT (ci := 10) (k := 21) rfl inX10 (by decide) wF_X10_202 ga0 rg_112 rfl dX10_readUnit_1 (fun x1137 ex1137 bx1137 => ?_)
  have ux1137 : tk = x1137 := (etk).trans ex1137.symm
  subst ux1137
  refine lv_iconst (v := 2) hx hb dX10_readUnit_4 (by decide) ?_
  refine lv_icmp_ne (tgt := 46) hx hb dX10_readUnit_5 (by decide) (fun c1138 => ?_) (fun c1138 => ?_)
  · have k1139 := i_ne c1138
    refine lv_iconst (v := 0) hx hb dX10_readUnit_46 (by decide) ?_
    refine lv_istore_n (lv' := [(1, .int 0), (0, .ref a0)]) hx hb dX10_readUnit_47 rfl hl (by decide) rfl (fun ls1140 hl1141 => ?_)
    refine lv_iload_n hx hb dX10_readUnit_48 rfl (lv_at hl1141 0 rfl) ?_
    refine lv_if_ne (tgt := 66) hx hb dX10_readUnit_49 (by decide) (fun c1142 => ?_) (fun c1142 => ?_)
    · have k1143 := i_ne c1142
      exfalso
      omega
    · have k1143 := i_eq c1142
      refine lv_aload_n hx hb dX10_readUnit_52 rfl (lv_at hl1141 1 rfl) ?_
      refine x_gi C hT (ci := 10) (k := 21) rfl inX10 (by decide) wF_X10_202 ga0 rg_112 rfl dX10_readUnit_53 (fun x1144 ex1144 bx1144 => ?_)
      have ux1144 : tk = x1144 := (etk).trans ex1144.symm
      subst ux1144
      refine lv_iconst (v := 3) hx hb dX10_readUnit_56 (by decide) ?_
      refine lv_icmp_eq (tgt := 66) hx hb dX10_readUnit_57 (by decide) (fun c1145 => ?_) (fun c1145 => ?_)
      · have k1146 := i_eq c1145
        refine lv_aload_n hx hb dX10_readUnit_66 rfl (lv_at hl1141 1 rfl) ?_
        refine lv_iload_n hx hb dX10_readUnit_67 rfl (lv_at hl1141 0 rfl) ?_
        refine lv_if_eq (tgt := 75) hx hb dX10_readUnit_68 (by decide) (fun c1147 => ?_) (fun c1147 => ?_)
        · have k1148 := i_eq c1147
          refine lv_iconst (v := 0) hx hb dX10_readUnit_75 (by decide) ?_
          refine lv_iload_n hx hb dX10_readUnit_76 rfl (lv_at hl1141 0 rfl) ?_
          refine lv_if_eq (tgt := 90) hx hb dX10_readUnit_77 (by decide) (fun c1149 => ?_) (fun c1149 => ?_)
          · have k1150 := i_eq c1149
            refine lv_aload_n hx hb dX10_readUnit_90 rfl (lv_at hl1141 1 rfl) ?_
            refine x_gi C hT (ci := 10) (k := 22) rfl inX10 (by decide) wF_X10_205 ga0 rg_112 rfl dX10_readUnit_91 (fun x1151 ex1151 bx1151 => ?_)
            have ux1151 : vl = x1151 := (evl).trans ex1151.symm
            subst ux1151
            refine x_V (As := [.int 0, .int vl]) (rest := []) C (a_X10_emits l K G s.heap (0) (vl) (mn) hT ga0 goq eoq gaq eaq emn hg_CG hg_TU hg_WD hg_IM (by omega)) yo_X10_emits wM_X10_238 ⟨⟨by decide, by decide⟩, by decide, by decide⟩ (x_rv C hT (ci := 10) rfl ga0 rg_112) rfl hl1141.1 rfl (Nat.le_of_ble_eq_true rfl) dX10_readUnit_94 hS (AE_sub (fun _ _ => rfl) (by decide) hS.1) (fun vH1152 H1152 locsH1152 pH1152 zH1152 kH1152 hSH1152 => ?_)
            obtain ⟨x1153, hvH1152, ex1153, hrH1152, m1154, m1155, g1156, g1157, g1158, g1159, mf1160, m1161, m1162, m1163, m1164, hTH1152⟩ := pH1152
            subst hvH1152
            have f1165 : ∀ j : Nat, bt j = (fI H1152 tq j).toInt := fun j => (f0_bt j).trans (congrArg Int32.toInt (fI_kept (x_lt hT kH1152 gtq (by decide))).symm)
            have m1166 := (eoq).trans (MF.r mf1160 (k := 32) (by decide) (by decide)).symm
            have m1167 := (eaq).trans (MF.r mf1160 (k := 33) (by decide) (by decide)).symm
            have m1168 := (etq).trans (MF.r mf1160 (k := 17) (by decide) (by decide)).symm
            have m1169 := (esp).trans (MF.i mf1160 (k := 19) (by decide) (by decide)).symm
            have m1170 := (efr).trans (MF.i mf1160 (k := 20) (by decide) (by decide)).symm
            have m1171 := (etk).trans (MF.i mf1160 (k := 21) (by decide) (by decide)).symm
            have m1172 := (evl).trans (MF.i mf1160 (k := 22) (by decide) (by decide)).symm
            have m1173 := (etp).trans (MF.i mf1160 (k := 18) (by decide) (by decide)).symm
            have m1174 := (ejb).trans (MF.i mf1160 (k := 34) (by decide) (by decide)).symm
            have mf1175 : MF K s.heap H1152 a0 [19, 20, 21, 22, 35, 39, 40] := MF.trans mf0 mf1160 (by decide)
            have bx1153 := ty_fi (x := x1153) (k := 35) ex1153 hTH1152 ga0 rg_112 rfl
            have cem1164 := i_cl (x := mn) (by omega)
            have b1176 : ∀ j : Nat, j < 3000 + mn.toNatClampNeg → fI H1152 oq j = fI s.heap oq j ∧ fI H1152 aq j = fI s.heap aq j := fun j hj => ⟨(m1163 j (by omega)).trans (pf00 j hj).1, (m1164 j (by omega)).trans (pf00 j hj).2⟩
            refine W.eq (g2 := F0 m 97 ls1140 []) rfl ?_
            have wf0 : WF (fun k => fI H1152 oq k) (fun k => fI H1152 aq k) (3000 + mn.toNatClampNeg) (3000 + mn.toNatClampNeg + 1) 0 1 := WF.num (by show (fI _ oq _).toInt = _; rw [← m1161]; rfl)
            have ev0 : (fI H1152 oq (3000 + mn.toNatClampNeg)).toInt = 0 ∧ (fI H1152 aq (3000 + mn.toNatClampNeg)).toInt = vl.toInt := ⟨by rw [← m1161]; rfl, by rw [← m1162]⟩
            have rs1177 : RZ (1 - jb.toInt) (fun k => fI H1152 oq k) (fun k => fI H1152 aq k) (3000 + mn.toNatClampNeg) (3000 + mn.toNatClampNeg + 1) ([(unF (kK bt tp.toNatClampNeg) (vV bt tp.toNatClampNeg) ci)]) := RZ.unit (Or.inl ⟨(by show (fI _ oq _).toInt = _; rw [← m1161]; rfl), (by show (fI _ aq _).toInt = _; rw [← m1162]; exact TV.nv hy0.2.2.1 (by omega)), (TV.nm hy0.2.2.1).mp (by omega)⟩)
            refine lv_aload_n hx hb dX10_readUnit_97 rfl (lv_at hl1141 1 rfl) ?_
            refine x_V (As := []) (rest := []) C (a_X10_reads_e l K G H1152 (sp) (fr) (tk) (vl) (tp) bt hTH1152 ga0 gtq m1168 m1169 m1170 m1171 m1172 m1173 g1156 g1157 g1158 g1159 (by omega) (hy1) f1165) yo_X10_reads wM_X10_242 ⟨⟨by decide, by decide⟩, by decide, by decide⟩ (x_rv C hTH1152 (ci := 10) rfl ga0 rg_112) rfl hl1141.1 rfl (Nat.le_of_ble_eq_true rfl) dX10_readUnit_98 hSH1152 (AE_sub (fun _ _ => rfl) (by decide) hSH1152.1) (fun vH1178 H1178 locsH1178 pH1178 zH1178 kH1178 hSH1178 => ?_)
            obtain ⟨x1179, x1180, x1181, x1182, hvH1178, ex1179, ex1180, ex1181, ex1182, hrH1178, m1183, g1184, g1185, g1186, g1187, mf1188, m1189, m1190, m1191, hTH1178⟩ := pH1178
            subst hvH1178
            have b1192 : ∀ j : Nat, j < 3000 + mn.toNatClampNeg → fI H1178 oq j = fI s.heap oq j ∧ fI H1178 aq j = fI s.heap aq j := fun j hj => ⟨(fI_kept (x_lt hTH1152 kH1178 goq (by decide))).trans (b1176 j hj).1, (fI_kept (x_lt hTH1152 kH1178 gaq (by decide))).trans (b1176 j hj).2⟩
            have b1193 : (fI H1178 oq (3000 + mn.toNatClampNeg)).toInt = 0 ∧ (fI H1178 aq (3000 + mn.toNatClampNeg)).toInt = vl.toInt := ⟨(congrArg Int32.toInt (fI_kept (x_lt hTH1152 kH1178 goq (by decide)))).trans ev0.1, (congrArg Int32.toInt (fI_kept (x_lt hTH1152 kH1178 gaq (by decide)))).trans ev0.2⟩
            have b1194 : WF (fun k => fI H1178 oq k) (fun k => fI H1178 aq k) (3000 + mn.toNatClampNeg) (3000 + mn.toNatClampNeg + 1) 0 1 := WF.congr (fun j => fI_kept (x_lt hTH1152 kH1178 goq (by decide))) (fun j => fI_kept (x_lt hTH1152 kH1178 gaq (by decide))) wf0
            have b1195 : RZ (1 - jb.toInt) (fun k => fI H1178 oq k) (fun k => fI H1178 aq k) (3000 + mn.toNatClampNeg) (3000 + mn.toNatClampNeg + 1) ([(unF (kK bt tp.toNatClampNeg) (vV bt tp.toNatClampNeg) ci)]) := RZ.congr (fun j => fI_kept (x_lt hTH1152 kH1178 goq (by decide))) (fun j => fI_kept (x_lt hTH1152 kH1178 gaq (by decide))) rs1177
            have f1196 : ∀ j : Nat, bt j = (fI H1178 tq j).toInt := fun j => (f1165 j).trans (congrArg Int32.toInt (fI_kept (x_lt hTH1152 kH1178 gtq (by decide))).symm)
            have m1197 := (m1154).trans (MF.r mf1188 (k := 32) (by decide) (by decide)).symm
            have m1198 := (m1155).trans (MF.r mf1188 (k := 33) (by decide) (by decide)).symm
            have m1199 := (m1168).trans (MF.r mf1188 (k := 17) (by decide) (by decide)).symm
            have m1200 := (m1173).trans (MF.i mf1188 (k := 18) (by decide) (by decide)).symm
            have m1201 := (m1174).trans (MF.i mf1188 (k := 34) (by decide) (by decide)).symm
            have m1202 := (ex1153).trans (MF.i mf1188 (k := 35) (by decide) (by decide)).symm
            have mf1203 : MF K s.heap H1178 a0 [19, 20, 21, 22, 35, 39, 40] := MF.trans mf1175 mf1188 (by decide)
            have bx1179 := ty_fi (x := x1179) (k := 19) ex1179 hTH1178 ga0 rg_112 rfl
            have bx1180 := ty_fi (x := x1180) (k := 20) ex1180 hTH1178 ga0 rg_112 rfl
            have bx1181 := ty_fi (x := x1181) (k := 21) ex1181 hTH1178 ga0 rg_112 rfl
            have bx1182 := ty_fi (x := x1182) (k := 22) ex1182 hTH1178 ga0 rg_112 rfl
            have cn_x1180 := i_cl (x := x1180) bx1180.1
            have cn_fr := i_cl (x := fr) (by omega)
            have cu1204 : CU bt tp.toNatClampNeg (ci + 1) x1180 x1179 x1181 x1182 := CU.next hy0 m1189 m1190 m1191 (by omega)
            refine W.eq (g2 := F0 m 101 ls1140 []) rfl ?_
            refine lv_iconst (v := 0) hx hb dX10_readUnit_101 (by decide) ?_
            have cr_mn := i_cl (x := mn) (by omega)
            have cr_x1153 := i_cl (x := x1153) (by omega)
            have tq1 := TV.nm hy0.2.2.1
            have tq2 := TV.wd hy0.2.2.1
            have tq3 := TV.wv hy0.2.2.1
            have cq_mn := i_cl (x := mn) (by omega)
            have cq_x1153 := i_cl (x := x1153) (by omega)
            exact x_iret C hQ dX10_readUnit_102 hSH1178 (by decide) (by decide) (⟨0, x1179, x1180, x1181, x1182, x1153, rfl, by decide, ex1179, ex1180, ex1181, ex1182, m1202, by omega, m1197, m1198, m1183, g1184, g1185, g1186, g1187, mf1203, b1192, Or.inr (WF.cast b1194 (by omega) (by omega)), Or.inr (Or.inr b1193), Or.inr ⟨ci + 1, if_neg (by omega), by omega, cu1204⟩, Or.inr (RZ.cast b1195 (by omega) (by omega) (congrArg (fun z => [z]) (rfl))), hTH1178⟩)
          · have k1150 := i_ne c1149
            exfalso
            omega
        · have k1148 := i_ne c1147
          exfalso
          omega
      · have k1146 := i_ne c1145
        refine lv_aload_n hx hb dX10_readUnit_60 rfl (lv_at hl1141 1 rfl) ?_
        refine lv_iconst (v := 1) hx hb dX10_readUnit_61 (by decide) ?_
        refine x_V (As := [.int 1]) (rest := []) C (a_X10_fails l K G s.heap (1) hT ga0 hg_CG hg_TU hg_WD hg_IM) yo_X10_fails wM_X10_235 ⟨⟨by decide, by decide⟩, by decide, by decide⟩ (x_rv C hT (ci := 10) rfl ga0 rg_112) rfl hl1141.1 rfl (Nat.le_of_ble_eq_true rfl) dX10_readUnit_62 hS (AE_sub (fun _ _ => rfl) (by decide) hS.1) (fun vH1206 H1206 locsH1206 pH1206 zH1206 kH1206 hSH1206 => ?_)
        obtain ⟨x1207, hvH1206, bx1207, g1208, g1209, g1210, g1211, mf1212, hTH1206⟩ := pH1206
        subst hvH1206
        have b1213 : ∀ j : Nat, j < 3000 + mn.toNatClampNeg → fI H1206 oq j = fI s.heap oq j ∧ fI H1206 aq j = fI s.heap aq j := fun j hj => ⟨(fI_kept (x_lt hT kH1206 goq (by decide))).trans (pf00 j hj).1, (fI_kept (x_lt hT kH1206 gaq (by decide))).trans (pf00 j hj).2⟩
        have f1214 : ∀ j : Nat, bt j = (fI H1206 tq j).toInt := fun j => (f0_bt j).trans (congrArg Int32.toInt (fI_kept (x_lt hT kH1206 gtq (by decide))).symm)
        have m1215 := (eoq).trans (MF.r mf1212 (k := 32) (by decide) (by decide)).symm
        have m1216 := (eaq).trans (MF.r mf1212 (k := 33) (by decide) (by decide)).symm
        have m1217 := (etq).trans (MF.r mf1212 (k := 17) (by decide) (by decide)).symm
        have m1218 := (esp).trans (MF.i mf1212 (k := 19) (by decide) (by decide)).symm
        have m1219 := (efr).trans (MF.i mf1212 (k := 20) (by decide) (by decide)).symm
        have m1220 := (etk).trans (MF.i mf1212 (k := 21) (by decide) (by decide)).symm
        have m1221 := (evl).trans (MF.i mf1212 (k := 22) (by decide) (by decide)).symm
        have m1222 := (emn).trans (MF.i mf1212 (k := 35) (by decide) (by decide)).symm
        have m1223 := (etp).trans (MF.i mf1212 (k := 18) (by decide) (by decide)).symm
        have m1224 := (ejb).trans (MF.i mf1212 (k := 34) (by decide) (by decide)).symm
        have mf1225 : MF K s.heap H1206 a0 [19, 20, 21, 22, 35, 39, 40] := MF.trans mf0 mf1212 (by decide)
        refine W.eq (g2 := F0 m 65 ls1140 [.int x1207]) rfl ?_
        have tq1 := TV.nm hy0.2.2.1
        have tq2 := TV.wd hy0.2.2.1
        have tq3 := TV.wv hy0.2.2.1
        exact x_iret C hQ dX10_readUnit_65 hSH1206 (by decide) (by decide) (⟨x1207, sp, fr, tk, vl, mn, rfl, by omega, m1218, m1219, m1220, m1221, m1222, by omega, m1215, m1216, m1217, g1208, g1209, g1210, g1211, mf1225, b1213, Or.inl (by omega), Or.inl (by omega), Or.inl ⟨if_pos (by omega), by omega⟩, Or.inl (by omega), hTH1206⟩)
  · have k1139 := i_eq c1138
    refine lv_aload_n hx hb dX10_readUnit_8 rfl (lv_at hl 0 rfl) ?_
    refine x_gi C hT (ci := 10) (k := 34) rfl inX10 (by decide) wF_X10_231 ga0 rg_112 rfl dX10_readUnit_9 (fun x1226 ex1226 bx1226 => ?_)
    have ux1226 : jb = x1226 := (ejb).trans ex1226.symm
    subst ux1226
    refine lv_if_eq (tgt := 27) hx hb dX10_readUnit_12 (by decide) (fun c1227 => ?_) (fun c1227 => ?_)
    · have k1228 := i_eq c1227
      refine lv_aload_n hx hb dX10_readUnit_27 rfl (lv_at hl 0 rfl) ?_
      refine lv_aload_n hx hb dX10_readUnit_28 rfl (lv_at hl 0 rfl) ?_
      refine x_gi C hT (ci := 10) (k := 22) rfl inX10 (by decide) wF_X10_205 ga0 rg_112 rfl dX10_readUnit_29 (fun x1229 ex1229 bx1229 => ?_)
      have ux1229 : vl = x1229 := (evl).trans ex1229.symm
      subst ux1229
      refine lv_bipush (v := 10) hx hb dX10_readUnit_32 (by decide) ?_
      refine lv_bipush (v := 19) hx hb dX10_readUnit_34 (by decide) ?_
      refine x_V (As := [.int vl, .int 10, .int 19]) (rest := []) C (c_X10_isIn l K G s.heap (vl) (10) (19) hT ga0) yo_X10_isIn wM_X10_177 ⟨⟨by decide, by decide⟩, by decide, by decide⟩ (x_rv C hT (ci := 10) rfl ga0 rg_112) rfl hl.1 rfl (Nat.le_of_ble_eq_true rfl) dX10_readUnit_36 hS (AE_sub (fun _ _ => rfl) (by decide) hS.1) (fun vH1230 H1230 locsH1230 pH1230 zH1230 kH1230 hSH1230 => ?_)
      have hqH1230 := pH1230.1.symm
      subst hqH1230
      rcases pH1230.2 with ⟨hvH1230, hcH1230⟩ | ⟨hvH1230, hcH1230⟩
      · subst hvH1230
        refine W.eq (g2 := F0 m 39 ls [.int 1]) rfl ?_
        refine lv_if_eq (tgt := 46) hx hb dX10_readUnit_39 (by decide) (fun c1231 => ?_) (fun c1231 => ?_)
        · have k1232 := i_eq c1231
          exfalso
          omega
        · have k1232 := i_ne c1231
          refine lv_iconst (v := 1) hx hb dX10_readUnit_42 (by decide) ?_
          refine lv_goto (tgt := 47) hx hb dX10_readUnit_43 (by decide) ?_
          refine lv_istore_n (lv' := [(1, .int 1), (0, .ref a0)]) hx hb dX10_readUnit_47 rfl hl (by decide) rfl (fun ls1233 hl1234 => ?_)
          refine lv_iload_n hx hb dX10_readUnit_48 rfl (lv_at hl1234 0 rfl) ?_
          refine lv_if_ne (tgt := 66) hx hb dX10_readUnit_49 (by decide) (fun c1235 => ?_) (fun c1235 => ?_)
          · have k1236 := i_ne c1235
            refine lv_aload_n hx hb dX10_readUnit_66 rfl (lv_at hl1234 1 rfl) ?_
            refine lv_iload_n hx hb dX10_readUnit_67 rfl (lv_at hl1234 0 rfl) ?_
            refine lv_if_eq (tgt := 75) hx hb dX10_readUnit_68 (by decide) (fun c1237 => ?_) (fun c1237 => ?_)
            · have k1238 := i_eq c1237
              exfalso
              omega
            · have k1238 := i_ne c1237
              refine lv_iconst (v := 1) hx hb dX10_readUnit_71 (by decide) ?_
              refine lv_goto (tgt := 76) hx hb dX10_readUnit_72 (by decide) ?_
              refine lv_iload_n hx hb dX10_readUnit_76 rfl (lv_at hl1234 0 rfl) ?_
              refine lv_if_eq (tgt := 90) hx hb dX10_readUnit_77 (by decide) (fun c1239 => ?_) (fun c1239 => ?_)
              · have k1240 := i_eq c1239
                exfalso
                omega
              · have k1240 := i_ne c1239
                refine lv_aload_n hx hb dX10_readUnit_80 rfl (lv_at hl1234 1 rfl) ?_
                refine x_gi C hT (ci := 10) (k := 22) rfl inX10 (by decide) wF_X10_205 ga0 rg_112 rfl dX10_readUnit_81 (fun x1241 ex1241 bx1241 => ?_)
                have ux1241 : vl = x1241 := (evl).trans ex1241.symm
                subst ux1241
                refine lv_bipush (v := 10) hx hb dX10_readUnit_84 (by decide) ?_
                refine lv_isub hx hb dX10_readUnit_86 ?_
                refine lv_topi (fun x1242 ex1242 => ?_)
                have tx1242 := i_sub ex1242 (by omega)
                refine lv_goto (tgt := 94) hx hb dX10_readUnit_87 (by decide) ?_
                refine x_V (As := [.int 1, .int x1242]) (rest := []) C (a_X10_emits l K G s.heap (1) (x1242) (mn) hT ga0 goq eoq gaq eaq emn hg_CG hg_TU hg_WD hg_IM (by omega)) yo_X10_emits wM_X10_238 ⟨⟨by decide, by decide⟩, by decide, by decide⟩ (x_rv C hT (ci := 10) rfl ga0 rg_112) rfl hl1234.1 rfl (Nat.le_of_ble_eq_true rfl) dX10_readUnit_94 hSH1230 (AE_sub (fun _ _ => rfl) (by decide) hSH1230.1) (fun vH1243 H1243 locsH1243 pH1243 zH1243 kH1243 hSH1243 => ?_)
                obtain ⟨x1244, hvH1243, ex1244, hrH1243, m1245, m1246, g1247, g1248, g1249, g1250, mf1251, m1252, m1253, m1254, m1255, hTH1243⟩ := pH1243
                subst hvH1243
                have f1256 : ∀ j : Nat, bt j = (fI H1243 tq j).toInt := fun j => (f0_bt j).trans (congrArg Int32.toInt (fI_kept (x_lt hT kH1243 gtq (by decide))).symm)
                have m1257 := (eoq).trans (MF.r mf1251 (k := 32) (by decide) (by decide)).symm
                have m1258 := (eaq).trans (MF.r mf1251 (k := 33) (by decide) (by decide)).symm
                have m1259 := (etq).trans (MF.r mf1251 (k := 17) (by decide) (by decide)).symm
                have m1260 := (esp).trans (MF.i mf1251 (k := 19) (by decide) (by decide)).symm
                have m1261 := (efr).trans (MF.i mf1251 (k := 20) (by decide) (by decide)).symm
                have m1262 := (etk).trans (MF.i mf1251 (k := 21) (by decide) (by decide)).symm
                have m1263 := (evl).trans (MF.i mf1251 (k := 22) (by decide) (by decide)).symm
                have m1264 := (etp).trans (MF.i mf1251 (k := 18) (by decide) (by decide)).symm
                have m1265 := (ejb).trans (MF.i mf1251 (k := 34) (by decide) (by decide)).symm
                have mf1266 : MF K s.heap H1243 a0 [19, 20, 21, 22, 35, 39, 40] := MF.trans mf0 mf1251 (by decide)
                have bx1244 := ty_fi (x := x1244) (k := 35) ex1244 hTH1243 ga0 rg_112 rfl
                have cem1255 := i_cl (x := mn) (by omega)
                have b1267 : ∀ j : Nat, j < 3000 + mn.toNatClampNeg → fI H1243 oq j = fI s.heap oq j ∧ fI H1243 aq j = fI s.heap aq j := fun j hj => ⟨(m1254 j (by omega)).trans (pf00 j hj).1, (m1255 j (by omega)).trans (pf00 j hj).2⟩
                refine W.eq (g2 := F0 m 97 ls1233 []) rfl ?_
                have wf0 : WF (fun k => fI H1243 oq k) (fun k => fI H1243 aq k) (3000 + mn.toNatClampNeg) (3000 + mn.toNatClampNeg + 1) 0 1 := WF.ask (by show (fI _ oq _).toInt = _; rw [← m1252]; rfl) (by show 0 ≤ (fI _ aq _).toInt ∧ (fI _ aq _).toInt ≤ 13; rw [← m1253]; omega)
                have rs1268 : RZ (1 - jb.toInt) (fun k => fI H1243 oq k) (fun k => fI H1243 aq k) (3000 + mn.toNatClampNeg) (3000 + mn.toNatClampNeg + 1) ([(unF (kK bt tp.toNatClampNeg) (vV bt tp.toNatClampNeg) ci)]) := RZ.unit (Or.inr ⟨(by show (fI _ oq _).toInt = _; rw [← m1252]; rfl), (by show (fI _ aq _).toInt = _; rw [← m1253, TV.ux hy0.2.2.1 (by omega) (by omega)]; omega), (fun e => by have z := (TV.nm hy0.2.2.1).mpr e; omega), TV.uo (j := jb.toInt) hy0.2.2.1 (by omega) (by omega)⟩)
                refine lv_aload_n hx hb dX10_readUnit_97 rfl (lv_at hl1234 1 rfl) ?_
                refine x_V (As := []) (rest := []) C (a_X10_reads_e l K G H1243 (sp) (fr) (tk) (vl) (tp) bt hTH1243 ga0 gtq m1259 m1260 m1261 m1262 m1263 m1264 g1247 g1248 g1249 g1250 (by omega) (hy1) f1256) yo_X10_reads wM_X10_242 ⟨⟨by decide, by decide⟩, by decide, by decide⟩ (x_rv C hTH1243 (ci := 10) rfl ga0 rg_112) rfl hl1234.1 rfl (Nat.le_of_ble_eq_true rfl) dX10_readUnit_98 hSH1243 (AE_sub (fun _ _ => rfl) (by decide) hSH1243.1) (fun vH1269 H1269 locsH1269 pH1269 zH1269 kH1269 hSH1269 => ?_)
                obtain ⟨x1270, x1271, x1272, x1273, hvH1269, ex1270, ex1271, ex1272, ex1273, hrH1269, m1274, g1275, g1276, g1277, g1278, mf1279, m1280, m1281, m1282, hTH1269⟩ := pH1269
                subst hvH1269
                have b1283 : ∀ j : Nat, j < 3000 + mn.toNatClampNeg → fI H1269 oq j = fI s.heap oq j ∧ fI H1269 aq j = fI s.heap aq j := fun j hj => ⟨(fI_kept (x_lt hTH1243 kH1269 goq (by decide))).trans (b1267 j hj).1, (fI_kept (x_lt hTH1243 kH1269 gaq (by decide))).trans (b1267 j hj).2⟩
                have b1284 : WF (fun k => fI H1269 oq k) (fun k => fI H1269 aq k) (3000 + mn.toNatClampNeg) (3000 + mn.toNatClampNeg + 1) 0 1 := WF.congr (fun j => fI_kept (x_lt hTH1243 kH1269 goq (by decide))) (fun j => fI_kept (x_lt hTH1243 kH1269 gaq (by decide))) wf0
                have b1285 : RZ (1 - jb.toInt) (fun k => fI H1269 oq k) (fun k => fI H1269 aq k) (3000 + mn.toNatClampNeg) (3000 + mn.toNatClampNeg + 1) ([(unF (kK bt tp.toNatClampNeg) (vV bt tp.toNatClampNeg) ci)]) := RZ.congr (fun j => fI_kept (x_lt hTH1243 kH1269 goq (by decide))) (fun j => fI_kept (x_lt hTH1243 kH1269 gaq (by decide))) rs1268
                have f1286 : ∀ j : Nat, bt j = (fI H1269 tq j).toInt := fun j => (f1256 j).trans (congrArg Int32.toInt (fI_kept (x_lt hTH1243 kH1269 gtq (by decide))).symm)
                have m1287 := (m1245).trans (MF.r mf1279 (k := 32) (by decide) (by decide)).symm
                have m1288 := (m1246).trans (MF.r mf1279 (k := 33) (by decide) (by decide)).symm
                have m1289 := (m1259).trans (MF.r mf1279 (k := 17) (by decide) (by decide)).symm
                have m1290 := (m1264).trans (MF.i mf1279 (k := 18) (by decide) (by decide)).symm
                have m1291 := (m1265).trans (MF.i mf1279 (k := 34) (by decide) (by decide)).symm
                have m1292 := (ex1244).trans (MF.i mf1279 (k := 35) (by decide) (by decide)).symm
                have mf1293 : MF K s.heap H1269 a0 [19, 20, 21, 22, 35, 39, 40] := MF.trans mf1266 mf1279 (by decide)
                have bx1270 := ty_fi (x := x1270) (k := 19) ex1270 hTH1269 ga0 rg_112 rfl
                have bx1271 := ty_fi (x := x1271) (k := 20) ex1271 hTH1269 ga0 rg_112 rfl
                have bx1272 := ty_fi (x := x1272) (k := 21) ex1272 hTH1269 ga0 rg_112 rfl
                have bx1273 := ty_fi (x := x1273) (k := 22) ex1273 hTH1269 ga0 rg_112 rfl
                have cn_x1271 := i_cl (x := x1271) bx1271.1
                have cn_fr := i_cl (x := fr) (by omega)
                have cu1294 : CU bt tp.toNatClampNeg (ci + 1) x1271 x1270 x1272 x1273 := CU.next hy0 m1280 m1281 m1282 (by omega)
                refine W.eq (g2 := F0 m 101 ls1233 []) rfl ?_
                refine lv_iconst (v := 0) hx hb dX10_readUnit_101 (by decide) ?_
                have cr_mn := i_cl (x := mn) (by omega)
                have cr_x1244 := i_cl (x := x1244) (by omega)
                have tq1 := TV.nm hy0.2.2.1
                have tq2 := TV.wd hy0.2.2.1
                have tq3 := TV.wv hy0.2.2.1
                have cq_mn := i_cl (x := mn) (by omega)
                have cq_x1244 := i_cl (x := x1244) (by omega)
                exact x_iret C hQ dX10_readUnit_102 hSH1269 (by decide) (by decide) (⟨0, x1270, x1271, x1272, x1273, x1244, rfl, by decide, ex1270, ex1271, ex1272, ex1273, m1292, by omega, m1287, m1288, m1274, g1275, g1276, g1277, g1278, mf1293, b1283, Or.inr (WF.cast b1284 (by omega) (by omega)), Or.inr (Or.inl (by omega)), Or.inr ⟨ci + 1, if_neg (by omega), by omega, cu1294⟩, Or.inr (RZ.cast b1285 (by omega) (by omega) (congrArg (fun z => [z]) (rfl))), hTH1269⟩)
          · have k1236 := i_eq c1235
            exfalso
            omega
      · subst hvH1230
        refine W.eq (g2 := F0 m 39 ls [.int 0]) rfl ?_
        refine lv_if_eq (tgt := 46) hx hb dX10_readUnit_39 (by decide) (fun c1296 => ?_) (fun c1296 => ?_)
        · have k1297 := i_eq c1296
          refine lv_iconst (v := 0) hx hb dX10_readUnit_46 (by decide) ?_
          refine lv_istore_n (lv' := [(1, .int 0), (0, .ref a0)]) hx hb dX10_readUnit_47 rfl hl (by decide) rfl (fun ls1298 hl1299 => ?_)
          refine lv_iload_n hx hb dX10_readUnit_48 rfl (lv_at hl1299 0 rfl) ?_
          refine lv_if_ne (tgt := 66) hx hb dX10_readUnit_49 (by decide) (fun c1300 => ?_) (fun c1300 => ?_)
          · have k1301 := i_ne c1300
            exfalso
            omega
          · have k1301 := i_eq c1300
            refine lv_aload_n hx hb dX10_readUnit_52 rfl (lv_at hl1299 1 rfl) ?_
            refine x_gi C hT (ci := 10) (k := 21) rfl inX10 (by decide) wF_X10_202 ga0 rg_112 rfl dX10_readUnit_53 (fun x1302 ex1302 bx1302 => ?_)
            have ux1302 : tk = x1302 := (etk).trans ex1302.symm
            subst ux1302
            refine lv_iconst (v := 3) hx hb dX10_readUnit_56 (by decide) ?_
            refine lv_icmp_eq (tgt := 66) hx hb dX10_readUnit_57 (by decide) (fun c1303 => ?_) (fun c1303 => ?_)
            · have k1304 := i_eq c1303
              exfalso
              omega
            · have k1304 := i_ne c1303
              refine lv_aload_n hx hb dX10_readUnit_60 rfl (lv_at hl1299 1 rfl) ?_
              refine lv_iconst (v := 1) hx hb dX10_readUnit_61 (by decide) ?_
              refine x_V (As := [.int 1]) (rest := []) C (a_X10_fails l K G s.heap (1) hT ga0 hg_CG hg_TU hg_WD hg_IM) yo_X10_fails wM_X10_235 ⟨⟨by decide, by decide⟩, by decide, by decide⟩ (x_rv C hT (ci := 10) rfl ga0 rg_112) rfl hl1299.1 rfl (Nat.le_of_ble_eq_true rfl) dX10_readUnit_62 hSH1230 (AE_sub (fun _ _ => rfl) (by decide) hSH1230.1) (fun vH1305 H1305 locsH1305 pH1305 zH1305 kH1305 hSH1305 => ?_)
              obtain ⟨x1306, hvH1305, bx1306, g1307, g1308, g1309, g1310, mf1311, hTH1305⟩ := pH1305
              subst hvH1305
              have b1312 : ∀ j : Nat, j < 3000 + mn.toNatClampNeg → fI H1305 oq j = fI s.heap oq j ∧ fI H1305 aq j = fI s.heap aq j := fun j hj => ⟨(fI_kept (x_lt hT kH1305 goq (by decide))).trans (pf00 j hj).1, (fI_kept (x_lt hT kH1305 gaq (by decide))).trans (pf00 j hj).2⟩
              have f1313 : ∀ j : Nat, bt j = (fI H1305 tq j).toInt := fun j => (f0_bt j).trans (congrArg Int32.toInt (fI_kept (x_lt hT kH1305 gtq (by decide))).symm)
              have m1314 := (eoq).trans (MF.r mf1311 (k := 32) (by decide) (by decide)).symm
              have m1315 := (eaq).trans (MF.r mf1311 (k := 33) (by decide) (by decide)).symm
              have m1316 := (etq).trans (MF.r mf1311 (k := 17) (by decide) (by decide)).symm
              have m1317 := (esp).trans (MF.i mf1311 (k := 19) (by decide) (by decide)).symm
              have m1318 := (efr).trans (MF.i mf1311 (k := 20) (by decide) (by decide)).symm
              have m1319 := (etk).trans (MF.i mf1311 (k := 21) (by decide) (by decide)).symm
              have m1320 := (evl).trans (MF.i mf1311 (k := 22) (by decide) (by decide)).symm
              have m1321 := (emn).trans (MF.i mf1311 (k := 35) (by decide) (by decide)).symm
              have m1322 := (etp).trans (MF.i mf1311 (k := 18) (by decide) (by decide)).symm
              have m1323 := (ejb).trans (MF.i mf1311 (k := 34) (by decide) (by decide)).symm
              have mf1324 : MF K s.heap H1305 a0 [19, 20, 21, 22, 35, 39, 40] := MF.trans mf0 mf1311 (by decide)
              refine W.eq (g2 := F0 m 65 ls1298 [.int x1306]) rfl ?_
              have tq1 := TV.nm hy0.2.2.1
              have tq2 := TV.wd hy0.2.2.1
              have tq3 := TV.wv hy0.2.2.1
              exact x_iret C hQ dX10_readUnit_65 hSH1305 (by decide) (by decide) (⟨x1306, sp, fr, tk, vl, mn, rfl, by omega, m1317, m1318, m1319, m1320, m1321, by omega, m1314, m1315, m1316, g1307, g1308, g1309, g1310, mf1324, b1312, Or.inl (by omega), Or.inl (by omega), Or.inl ⟨if_pos (by omega), by omega⟩, Or.inl (by omega), hTH1305⟩)
        · have k1297 := i_ne c1296
          exfalso
          omega
    · have k1228 := i_ne c1227
      refine lv_aload_n hx hb dX10_readUnit_15 rfl (lv_at hl 0 rfl) ?_
      refine x_gi C hT (ci := 10) (k := 22) rfl inX10 (by decide) wF_X10_205 ga0 rg_112 rfl dX10_readUnit_16 (fun x1325 ex1325 bx1325 => ?_)
      have ux1325 : vl = x1325 := (evl).trans ex1325.symm
      subst ux1325
      refine lv_bipush (v := 20) hx hb dX10_readUnit_19 (by decide) ?_
      refine lv_icmp_lt (tgt := 46) hx hb dX10_readUnit_21 (by decide) (fun c1326 => ?_) (fun c1326 => ?_)
      · have k1327 := i_lt c1326
        refine lv_iconst (v := 0) hx hb dX10_readUnit_46 (by decide) ?_
        refine lv_istore_n (lv' := [(1, .int 0), (0, .ref a0)]) hx hb dX10_readUnit_47 rfl hl (by decide) rfl (fun ls1328 hl1329 => ?_)
        refine lv_iload_n hx hb dX10_readUnit_48 rfl (lv_at hl1329 0 rfl) ?_
        refine lv_if_ne (tgt := 66) hx hb dX10_readUnit_49 (by decide) (fun c1330 => ?_) (fun c1330 => ?_)
        · have k1331 := i_ne c1330
          exfalso
          omega
        · have k1331 := i_eq c1330
          refine lv_aload_n hx hb dX10_readUnit_52 rfl (lv_at hl1329 1 rfl) ?_
          refine x_gi C hT (ci := 10) (k := 21) rfl inX10 (by decide) wF_X10_202 ga0 rg_112 rfl dX10_readUnit_53 (fun x1332 ex1332 bx1332 => ?_)
          have ux1332 : tk = x1332 := (etk).trans ex1332.symm
          subst ux1332
          refine lv_iconst (v := 3) hx hb dX10_readUnit_56 (by decide) ?_
          refine lv_icmp_eq (tgt := 66) hx hb dX10_readUnit_57 (by decide) (fun c1333 => ?_) (fun c1333 => ?_)
          · have k1334 := i_eq c1333
            exfalso
            omega
          · have k1334 := i_ne c1333
            refine lv_aload_n hx hb dX10_readUnit_60 rfl (lv_at hl1329 1 rfl) ?_
            refine lv_iconst (v := 1) hx hb dX10_readUnit_61 (by decide) ?_
            refine x_V (As := [.int 1]) (rest := []) C (a_X10_fails l K G s.heap (1) hT ga0 hg_CG hg_TU hg_WD hg_IM) yo_X10_fails wM_X10_235 ⟨⟨by decide, by decide⟩, by decide, by decide⟩ (x_rv C hT (ci := 10) rfl ga0 rg_112) rfl hl1329.1 rfl (Nat.le_of_ble_eq_true rfl) dX10_readUnit_62 hS (AE_sub (fun _ _ => rfl) (by decide) hS.1) (fun vH1335 H1335 locsH1335 pH1335 zH1335 kH1335 hSH1335 => ?_)
            obtain ⟨x1336, hvH1335, bx1336, g1337, g1338, g1339, g1340, mf1341, hTH1335⟩ := pH1335
            subst hvH1335
            have b1342 : ∀ j : Nat, j < 3000 + mn.toNatClampNeg → fI H1335 oq j = fI s.heap oq j ∧ fI H1335 aq j = fI s.heap aq j := fun j hj => ⟨(fI_kept (x_lt hT kH1335 goq (by decide))).trans (pf00 j hj).1, (fI_kept (x_lt hT kH1335 gaq (by decide))).trans (pf00 j hj).2⟩
            have f1343 : ∀ j : Nat, bt j = (fI H1335 tq j).toInt := fun j => (f0_bt j).trans (congrArg Int32.toInt (fI_kept (x_lt hT kH1335 gtq (by decide))).symm)
            have m1344 := (eoq).trans (MF.r mf1341 (k := 32) (by decide) (by decide)).symm
            have m1345 := (eaq).trans (MF.r mf1341 (k := 33) (by decide) (by decide)).symm
            have m1346 := (etq).trans (MF.r mf1341 (k := 17) (by decide) (by decide)).symm
            have m1347 := (esp).trans (MF.i mf1341 (k := 19) (by decide) (by decide)).symm
            have m1348 := (efr).trans (MF.i mf1341 (k := 20) (by decide) (by decide)).symm
            have m1349 := (etk).trans (MF.i mf1341 (k := 21) (by decide) (by decide)).symm
            have m1350 := (evl).trans (MF.i mf1341 (k := 22) (by decide) (by decide)).symm
            have m1351 := (emn).trans (MF.i mf1341 (k := 35) (by decide) (by decide)).symm
            have m1352 := (etp).trans (MF.i mf1341 (k := 18) (by decide) (by decide)).symm
            have m1353 := (ejb).trans (MF.i mf1341 (k := 34) (by decide) (by decide)).symm
            have mf1354 : MF K s.heap H1335 a0 [19, 20, 21, 22, 35, 39, 40] := MF.trans mf0 mf1341 (by decide)
            refine W.eq (g2 := F0 m 65 ls1328 [.int x1336]) rfl ?_
            have tq1 := TV.nm hy0.2.2.1
            have tq2 := TV.wd hy0.2.2.1
            have tq3 := TV.wv hy0.2.2.1
            exact x_iret C hQ dX10_readUnit_65 hSH1335 (by decide) (by decide) (⟨x1336, sp, fr, tk, vl, mn, rfl, by omega, m1347, m1348, m1349, m1350, m1351, by omega, m1344, m1345, m1346, g1337, g1338, g1339, g1340, mf1354, b1342, Or.inl (by omega), Or.inl (by omega), Or.inl ⟨if_pos (by omega), by omega⟩, Or.inl (by omega), hTH1335⟩)
      · have k1327 := i_nlt c1326
        refine lv_goto (tgt := 42) hx hb dX10_readUnit_24 (by decide) ?_
        refine lv_iconst (v := 1) hx hb dX10_readUnit_42 (by decide) ?_
        refine lv_goto (tgt := 47) hx hb dX10_readUnit_43 (by decide) ?_
        refine lv_istore_n (lv' := [(1, .int 1), (0, .ref a0)]) hx hb dX10_readUnit_47 rfl hl (by decide) rfl (fun ls1355 hl1356 => ?_)
        refine lv_iload_n hx hb dX10_readUnit_48 rfl (lv_at hl1356 0 rfl) ?_
        refine lv_if_ne (tgt := 66) hx hb dX10_readUnit_49 (by decide) (fun c1357 => ?_) (fun c1357 => ?_)
        · have k1358 := i_ne c1357
          refine lv_aload_n hx hb dX10_readUnit_66 rfl (lv_at hl1356 1 rfl) ?_
          refine lv_iload_n hx hb dX10_readUnit_67 rfl (lv_at hl1356 0 rfl) ?_
          refine lv_if_eq (tgt := 75) hx hb dX10_readUnit_68 (by decide) (fun c1359 => ?_) (fun c1359 => ?_)
          · have k1360 := i_eq c1359
            exfalso
            omega
          · have k1360 := i_ne c1359
            refine lv_iconst (v := 1) hx hb dX10_readUnit_71 (by decide) ?_
            refine lv_goto (tgt := 76) hx hb dX10_readUnit_72 (by decide) ?_
            refine lv_iload_n hx hb dX10_readUnit_76 rfl (lv_at hl1356 0 rfl) ?_
            refine lv_if_eq (tgt := 90) hx hb dX10_readUnit_77 (by decide) (fun c1361 => ?_) (fun c1361 => ?_)
            · have k1362 := i_eq c1361
              exfalso
              omega
            · have k1362 := i_ne c1361
              refine lv_aload_n hx hb dX10_readUnit_80 rfl (lv_at hl1356 1 rfl) ?_
              refine x_gi C hT (ci := 10) (k := 22) rfl inX10 (by decide) wF_X10_205 ga0 rg_112 rfl dX10_readUnit_81 (fun x1363 ex1363 bx1363 => ?_)
              have ux1363 : vl = x1363 := (evl).trans ex1363.symm
              subst ux1363
              refine lv_bipush (v := 10) hx hb dX10_readUnit_84 (by decide) ?_
              refine lv_isub hx hb dX10_readUnit_86 ?_
              refine lv_topi (fun x1364 ex1364 => ?_)
              have tx1364 := i_sub ex1364 (by have := i_rng vl; omega)
              refine lv_goto (tgt := 94) hx hb dX10_readUnit_87 (by decide) ?_
              refine x_V (As := [.int 1, .int x1364]) (rest := []) C (a_X10_emits l K G s.heap (1) (x1364) (mn) hT ga0 goq eoq gaq eaq emn hg_CG hg_TU hg_WD hg_IM (by omega)) yo_X10_emits wM_X10_238 ⟨⟨by decide, by decide⟩, by decide, by decide⟩ (x_rv C hT (ci := 10) rfl ga0 rg_112) rfl hl1356.1 rfl (Nat.le_of_ble_eq_true rfl) dX10_readUnit_94 hS (AE_sub (fun _ _ => rfl) (by decide) hS.1) (fun vH1365 H1365 locsH1365 pH1365 zH1365 kH1365 hSH1365 => ?_)
              obtain ⟨x1366, hvH1365, ex1366, hrH1365, m1367, m1368, g1369, g1370, g1371, g1372, mf1373, m1374, m1375, m1376, m1377, hTH1365⟩ := pH1365
              subst hvH1365
              have f1378 : ∀ j : Nat, bt j = (fI H1365 tq j).toInt := fun j => (f0_bt j).trans (congrArg Int32.toInt (fI_kept (x_lt hT kH1365 gtq (by decide))).symm)
              have m1379 := (eoq).trans (MF.r mf1373 (k := 32) (by decide) (by decide)).symm
              have m1380 := (eaq).trans (MF.r mf1373 (k := 33) (by decide) (by decide)).symm
              have m1381 := (etq).trans (MF.r mf1373 (k := 17) (by decide) (by decide)).symm
              have m1382 := (esp).trans (MF.i mf1373 (k := 19) (by decide) (by decide)).symm
              have m1383 := (efr).trans (MF.i mf1373 (k := 20) (by decide) (by decide)).symm
              have m1384 := (etk).trans (MF.i mf1373 (k := 21) (by decide) (by decide)).symm
              have m1385 := (evl).trans (MF.i mf1373 (k := 22) (by decide) (by decide)).symm
              have m1386 := (etp).trans (MF.i mf1373 (k := 18) (by decide) (by decide)).symm
              have m1387 := (ejb).trans (MF.i mf1373 (k := 34) (by decide) (by decide)).symm
              have mf1388 : MF K s.heap H1365 a0 [19, 20, 21, 22, 35, 39, 40] := MF.trans mf0 mf1373 (by decide)
              have bx1366 := ty_fi (x := x1366) (k := 35) ex1366 hTH1365 ga0 rg_112 rfl
              have cem1377 := i_cl (x := mn) (by omega)
              have b1389 : ∀ j : Nat, j < 3000 + mn.toNatClampNeg → fI H1365 oq j = fI s.heap oq j ∧ fI H1365 aq j = fI s.heap aq j := fun j hj => ⟨(m1376 j (by omega)).trans (pf00 j hj).1, (m1377 j (by omega)).trans (pf00 j hj).2⟩
              refine W.eq (g2 := F0 m 97 ls1355 []) rfl ?_
              have wf0 : WF (fun k => fI H1365 oq k) (fun k => fI H1365 aq k) (3000 + mn.toNatClampNeg) (3000 + mn.toNatClampNeg + 1) 0 1 := WF.ask (by show (fI _ oq _).toInt = _; rw [← m1374]; rfl) (by show 0 ≤ (fI _ aq _).toInt ∧ (fI _ aq _).toInt ≤ 13; rw [← m1375]; omega)
              have rs1390 : RZ (1 - jb.toInt) (fun k => fI H1365 oq k) (fun k => fI H1365 aq k) (3000 + mn.toNatClampNeg) (3000 + mn.toNatClampNeg + 1) ([(unF (kK bt tp.toNatClampNeg) (vV bt tp.toNatClampNeg) ci)]) := RZ.unit (Or.inr ⟨(by show (fI _ oq _).toInt = _; rw [← m1374]; rfl), (by show (fI _ aq _).toInt = _; rw [← m1375, TV.ux hy0.2.2.1 (by omega) (by omega)]; omega), (fun e => by have z := (TV.nm hy0.2.2.1).mpr e; omega), TV.uo (j := jb.toInt) hy0.2.2.1 (by omega) (by omega)⟩)
              refine lv_aload_n hx hb dX10_readUnit_97 rfl (lv_at hl1356 1 rfl) ?_
              refine x_V (As := []) (rest := []) C (a_X10_reads_e l K G H1365 (sp) (fr) (tk) (vl) (tp) bt hTH1365 ga0 gtq m1381 m1382 m1383 m1384 m1385 m1386 g1369 g1370 g1371 g1372 (by omega) (hy1) f1378) yo_X10_reads wM_X10_242 ⟨⟨by decide, by decide⟩, by decide, by decide⟩ (x_rv C hTH1365 (ci := 10) rfl ga0 rg_112) rfl hl1356.1 rfl (Nat.le_of_ble_eq_true rfl) dX10_readUnit_98 hSH1365 (AE_sub (fun _ _ => rfl) (by decide) hSH1365.1) (fun vH1391 H1391 locsH1391 pH1391 zH1391 kH1391 hSH1391 => ?_)
              obtain ⟨x1392, x1393, x1394, x1395, hvH1391, ex1392, ex1393, ex1394, ex1395, hrH1391, m1396, g1397, g1398, g1399, g1400, mf1401, m1402, m1403, m1404, hTH1391⟩ := pH1391
              subst hvH1391
              have b1405 : ∀ j : Nat, j < 3000 + mn.toNatClampNeg → fI H1391 oq j = fI s.heap oq j ∧ fI H1391 aq j = fI s.heap aq j := fun j hj => ⟨(fI_kept (x_lt hTH1365 kH1391 goq (by decide))).trans (b1389 j hj).1, (fI_kept (x_lt hTH1365 kH1391 gaq (by decide))).trans (b1389 j hj).2⟩
              have b1406 : WF (fun k => fI H1391 oq k) (fun k => fI H1391 aq k) (3000 + mn.toNatClampNeg) (3000 + mn.toNatClampNeg + 1) 0 1 := WF.congr (fun j => fI_kept (x_lt hTH1365 kH1391 goq (by decide))) (fun j => fI_kept (x_lt hTH1365 kH1391 gaq (by decide))) wf0
              have b1407 : RZ (1 - jb.toInt) (fun k => fI H1391 oq k) (fun k => fI H1391 aq k) (3000 + mn.toNatClampNeg) (3000 + mn.toNatClampNeg + 1) ([(unF (kK bt tp.toNatClampNeg) (vV bt tp.toNatClampNeg) ci)]) := RZ.congr (fun j => fI_kept (x_lt hTH1365 kH1391 goq (by decide))) (fun j => fI_kept (x_lt hTH1365 kH1391 gaq (by decide))) rs1390
              have f1408 : ∀ j : Nat, bt j = (fI H1391 tq j).toInt := fun j => (f1378 j).trans (congrArg Int32.toInt (fI_kept (x_lt hTH1365 kH1391 gtq (by decide))).symm)
              have m1409 := (m1367).trans (MF.r mf1401 (k := 32) (by decide) (by decide)).symm
              have m1410 := (m1368).trans (MF.r mf1401 (k := 33) (by decide) (by decide)).symm
              have m1411 := (m1381).trans (MF.r mf1401 (k := 17) (by decide) (by decide)).symm
              have m1412 := (m1386).trans (MF.i mf1401 (k := 18) (by decide) (by decide)).symm
              have m1413 := (m1387).trans (MF.i mf1401 (k := 34) (by decide) (by decide)).symm
              have m1414 := (ex1366).trans (MF.i mf1401 (k := 35) (by decide) (by decide)).symm
              have mf1415 : MF K s.heap H1391 a0 [19, 20, 21, 22, 35, 39, 40] := MF.trans mf1388 mf1401 (by decide)
              have bx1392 := ty_fi (x := x1392) (k := 19) ex1392 hTH1391 ga0 rg_112 rfl
              have bx1393 := ty_fi (x := x1393) (k := 20) ex1393 hTH1391 ga0 rg_112 rfl
              have bx1394 := ty_fi (x := x1394) (k := 21) ex1394 hTH1391 ga0 rg_112 rfl
              have bx1395 := ty_fi (x := x1395) (k := 22) ex1395 hTH1391 ga0 rg_112 rfl
              have cn_x1393 := i_cl (x := x1393) bx1393.1
              have cn_fr := i_cl (x := fr) (by omega)
              have cu1416 : CU bt tp.toNatClampNeg (ci + 1) x1393 x1392 x1394 x1395 := CU.next hy0 m1402 m1403 m1404 (by omega)
              refine W.eq (g2 := F0 m 101 ls1355 []) rfl ?_
              refine lv_iconst (v := 0) hx hb dX10_readUnit_101 (by decide) ?_
              have cr_mn := i_cl (x := mn) (by omega)
              have cr_x1366 := i_cl (x := x1366) (by omega)
              have tq1 := TV.nm hy0.2.2.1
              have tq2 := TV.wd hy0.2.2.1
              have tq3 := TV.wv hy0.2.2.1
              have cq_mn := i_cl (x := mn) (by omega)
              have cq_x1366 := i_cl (x := x1366) (by omega)
              exact x_iret C hQ dX10_readUnit_102 hSH1391 (by decide) (by decide) (⟨0, x1392, x1393, x1394, x1395, x1366, rfl, by decide, ex1392, ex1393, ex1394, ex1395, m1414, by omega, m1409, m1410, m1396, g1397, g1398, g1399, g1400, mf1415, b1405, Or.inr (WF.cast b1406 (by omega) (by omega)), Or.inr (Or.inl (by omega)), Or.inr ⟨ci + 1, if_neg (by omega), by omega, cu1416⟩, Or.inr (RZ.cast b1407 (by omega) (by omega) (congrArg (fun z => [z]) (rfl))), hTH1391⟩)
        · have k1358 := i_eq c1357
          exfalso
          omega

set_option maxHeartbeats 4000000 in
set_option maxRecDepth 100000 in
theorem a_X10_readProduct_g (l : Launch) (K : KE) (G : Nat → Option Nat) (H : Heap) {a0 : Nat} {oq : Nat} {aq : Nat} {tq : Nat} (sp : Int32) (fr : Int32) (tk : Int32) (vl : Int32) (mn : Int32) (tp : Int32) (jb : Int32) (ci : Nat) (bt : Nat → Int) (hT : TY K G H) (ga0 : G a0 = some 112) (goq : G oq = some 136) (eoq : @Eq Ad oq (fR H a0 (K.1.2 10 32))) (gaq : G aq = some 137) (eaq : @Eq Ad aq (fR H a0 (K.1.2 10 33))) (gtq : G tq = some 126) (etq : @Eq Ad tq (fR H a0 (K.1.2 10 17))) (esp : sp = fI H a0 (K.1.2 10 19)) (efr : fr = fI H a0 (K.1.2 10 20)) (etk : tk = fI H a0 (K.1.2 10 21)) (evl : vl = fI H a0 (K.1.2 10 22)) (emn : mn = fI H a0 (K.1.2 10 35)) (etp : tp = fI H a0 (K.1.2 10 18)) (ejb : jb = fI H a0 (K.1.2 10 34)) (hg_CG : CG (avw K H a0)) (hg_TU : TU (avw K H a0) (svw K H a0)) (hg_WD : WD (avw K H a0)) (hg_IM : IM (avw K H a0)) (hp0 : (sp.toInt ≤ tp.toInt ∧ fr.toInt ≤ sp.toInt ∧ (tk.toInt = 0 ∨ fr.toInt < sp.toInt) ∧ (tk.toInt ≠ 2 ∨ (0 ≤ vl.toInt ∧ vl.toInt ≤ 23)))) (hp1 : mn.toInt ≤ fr.toInt) (hy0 : CU bt tp.toNatClampNeg ci fr sp tk vl) (hy1 : ∀ j : Nat, j < tp.toNatClampNeg → 0 ≤ bt j) (hv_bt : ∀ j : Nat, bt j = (fI H tq j).toInt) : MX l K yX10_readProduct cX10_readProduct 2 (some .int) 4 86 0 0 [.ref a0] H (AE G [112, 136, 137] H.size) (fun v H1 => ∃ (r : Int32) (t0 : Int32) (t1 : Int32) (t2 : Int32) (t3 : Int32) (t4 : Int32), v = some (.int r) ∧ ((-1) ≤ r.toInt ∧ r.toInt ≤ 0) ∧ t0 = fI H1 a0 (K.1.2 10 19) ∧ t1 = fI H1 a0 (K.1.2 10 20) ∧ t2 = fI H1 a0 (K.1.2 10 21) ∧ t3 = fI H1 a0 (K.1.2 10 22) ∧ t4 = fI H1 a0 (K.1.2 10 35) ∧ (r.toInt = -1 ∨ (r.toInt = 0 ∧ t0.toInt ≤ tp.toInt ∧ t1.toInt ≤ t0.toInt ∧ (t2.toInt = 0 ∨ t1.toInt < t0.toInt) ∧ (t2.toInt ≠ 2 ∨ (0 ≤ t3.toInt ∧ t3.toInt ≤ 23)) ∧ t4.toInt + fr.toInt ≤ mn.toInt + t1.toInt ∧ mn.toInt < t4.toInt ∧ fr.toInt < t1.toInt)) ∧ @Eq Ad oq (fR H1 a0 (K.1.2 10 32)) ∧ @Eq Ad aq (fR H1 a0 (K.1.2 10 33)) ∧ @Eq Ad tq (fR H1 a0 (K.1.2 10 17)) ∧ (CG (avw K H1 a0)) ∧ (TU (avw K H1 a0) (svw K H1 a0)) ∧ (WD (avw K H1 a0)) ∧ (IM (avw K H1 a0)) ∧ MF K H H1 a0 [19, 20, 21, 22, 35, 39, 40] ∧ (∀ j : Nat, j < 3000 + mn.toNatClampNeg → fI H1 oq j = fI H oq j ∧ fI H1 aq j = fI H aq j) ∧ (r.toInt = -1 ∨ WF (fun k => fI H1 oq k) (fun k => fI H1 aq k) (3000 + mn.toNatClampNeg) (3000 + t4.toNatClampNeg) 0 1) ∧ (RC (tmI (kK bt tp.toNatClampNeg) (vV bt tp.toNatClampNeg) (1 - jb.toInt) 0 ci) r bt tp.toNatClampNeg t1 t0 t2 t3) ∧ (r.toInt = -1 ∨ RZ (1 - jb.toInt) (fun k => fI H1 oq k) (fun k => fI H1 aq k) (3000 + mn.toNatClampNeg) (3000 + t4.toNatClampNeg) ([tmG (kK bt tp.toNatClampNeg) (vV bt tp.toNatClampNeg) 0 zF ci])) ∧ TY K G H1) := by
  refine MX.of (by decide +kernel) (Nat.le_of_ble_eq_true rfl) ?_
  intro p e s m below meth c ls Q C hH hl hQ
  subst hH
  have C : CX p K s m _ meth c RX10 cX10_readProduct 2 (some .int) "readProduct" := C
  obtain ⟨hx, hb, hml, hown, hts, hKT, hr, hlocks, hnm⟩ := id C
  have hl : lv_has ls 2 [(0, .ref a0)] := hl
  have hS : va_S (AE G [112, 136, 137] s.heap.size) s.heap s.heap [] := va_S.rf
  have n_m1 : ((-1) : Int32).toInt = -1 := rfl
  have n_0 : (0 : Int32).toInt = 0 := rfl
  have n_1 : (1 : Int32).toInt = 1 := rfl
  have n_2 : (2 : Int32).toInt = 2 := rfl
  have n_3 : (3 : Int32).toInt = 3 := rfl
  have n_4 : (4 : Int32).toInt = 4 := rfl
  have n_5 : (5 : Int32).toInt = 5 := rfl
  have n_42 : (42 : Int32).toInt = 42 := rfl
  have n_47 : (47 : Int32).toInt = 47 := rfl
  have bsp := ty_fi (x := sp) (k := 19) esp hT ga0 rg_112 rfl
  have bfr := ty_fi (x := fr) (k := 20) efr hT ga0 rg_112 rfl
  have btk := ty_fi (x := tk) (k := 21) etk hT ga0 rg_112 rfl
  have bvl := ty_fi (x := vl) (k := 22) evl hT ga0 rg_112 rfl
  have bmn := ty_fi (x := mn) (k := 35) emn hT ga0 rg_112 rfl
  have btp := ty_fi (x := tp) (k := 18) etp hT ga0 rg_112 rfl
  have bjb := ty_fi (x := jb) (k := 34) ejb hT ga0 rg_112 rfl
  have hap : ∀ x y, x < 74 → y < 74 → x ≠ y → K.1.2 10 x ≠ K.1.2 10 y := x_apart hKT hts inX10 tyX10 tyX10_ok nmX10 rfl
  have mf0 : MF K s.heap s.heap a0 [19, 20, 21, 22, 35, 39, 40] := fun _ _ _ => rfl
  have f0_bt := hv_bt
  have J10 : ∀ (nf : Nat) (cj : Nat) (a_ : EF) (ls2238 : Array Slot) (H2237 : Heap) (locsH2237 : List Loc) (x2240 : Int32) (x2241 : Int32) (x2242 : Int32) (x2243 : Int32) (x2244 : Int32), lv_has ls2238 2 [(0, .ref a0)] → TY K G H2237 → va_S (AE G [112, 136, 137] s.heap.size) s.heap H2237 locsH2237 → (0 ≤ x2240.toInt ∧ x2240.toInt ≤ 500) → (0 ≤ x2241.toInt ∧ x2241.toInt ≤ 500) → (0 ≤ x2244.toInt ∧ x2244.toInt ≤ 500) → (x2240 = fI H2237 a0 (K.1.2 10 19)) → (x2241 = fI H2237 a0 (K.1.2 10 20)) → (x2242 = fI H2237 a0 (K.1.2 10 21)) → (x2243 = fI H2237 a0 (K.1.2 10 22)) → (x2244 = fI H2237 a0 (K.1.2 10 35)) → (@Eq Ad oq (fR H2237 a0 (K.1.2 10 32))) → (@Eq Ad aq (fR H2237 a0 (K.1.2 10 33))) → (@Eq Ad tq (fR H2237 a0 (K.1.2 10 17))) → (tp = fI H2237 a0 (K.1.2 10 18)) → (jb = fI H2237 a0 (K.1.2 10 34)) → (∀ j : Nat, j < 3000 + mn.toNatClampNeg → fI H2237 oq j = fI s.heap oq j ∧ fI H2237 aq j = fI s.heap aq j) → (WF (fun k => fI H2237 oq k) (fun k => fI H2237 aq k) (3000 + mn.toNatClampNeg) (3000 + x2244.toNatClampNeg) 0 1) → (RZ (1 - jb.toInt) (fun k => fI H2237 oq k) (fun k => fI H2237 aq k) (3000 + mn.toNatClampNeg) (3000 + x2244.toNatClampNeg) ([a_])) → (MF K s.heap H2237 a0 [19, 20, 21, 22, 35, 39, 40]) → (CG (avw K H2237 a0)) → (TU (avw K H2237 a0) (svw K H2237 a0)) → (WD (avw K H2237 a0)) → (IM (avw K H2237 a0)) → (∀ j : Nat, bt j = (fI H2237 tq j).toInt) → (500 - x2241.toInt < (nf : Int)) → ((x2240.toInt ≤ tp.toInt ∧ x2241.toInt ≤ x2240.toInt ∧ (x2242.toInt = 0 ∨ x2241.toInt < x2240.toInt) ∧ (x2242.toInt ≠ 2 ∨ (0 ≤ x2243.toInt ∧ x2243.toInt ≤ 23))) ∧ x2244.toInt + fr.toInt ≤ mn.toInt + x2241.toInt ∧ mn.toInt < x2244.toInt ∧ fr.toInt < x2241.toInt) → (CU bt tp.toNatClampNeg cj x2241 x2240 x2242 x2243) → (tmI (kK bt tp.toNatClampNeg) (vV bt tp.toNatClampNeg) (1 - jb.toInt) 0 ci = tbI (kK bt tp.toNatClampNeg) (vV bt tp.toNatClampNeg) (1 - jb.toInt) cj) → (tmG (kK bt tp.toNatClampNeg) (vV bt tp.toNatClampNeg) 0 zF ci = tbF (kK bt tp.toNatClampNeg) (vV bt tp.toNatClampNeg) a_ cj) → W p l e ({ frames := 4, cells := 0, slots := 0, locals := 86 } : Room) s m (([.ref a0] : List Value).toArray) below meth c H2237 locsH2237 0 0 Q (F0 m 10 ls2238 []) := by
    intro nf
    induction nf with
    | zero =>
      intro cj a_ ls2238 H2237 locsH2237 x2240 x2241 x2242 x2243 x2244 hl2239 hTH2237 hSH2237 bx2240 bx2241 bx2244 ex2240 ex2241 ex2242 ex2243 ex2244 cy2245_0 cy2245_1 cy2245_2 cy2245_3 cy2245_4 by2245_pf by2245_wf by2245_rs mfy2245 gy2245_CG gy2245_TU gy2245_WD gy2245_IM fy2245_bt hm10 iv10 hcu10 hsp10 hsf10
      have rx2242 := i_rng x2242
      have rx2243 := i_rng x2243
      exfalso
      omega
    | succ nf ih10 =>
      intro cj a_ ls2238 H2237 locsH2237 x2240 x2241 x2242 x2243 x2244 hl2239 hTH2237 hSH2237 bx2240 bx2241 bx2244 ex2240 ex2241 ex2242 ex2243 ex2244 cy2245_0 cy2245_1 cy2245_2 cy2245_3 cy2245_4 by2245_pf by2245_wf by2245_rs mfy2245 gy2245_CG gy2245_TU gy2245_WD gy2245_IM fy2245_bt hm10 iv10 hcu10 hsp10 hsf10
      have rx2242 := i_rng x2242
      have rx2243 := i_rng x2243
      have cn_x2241 := i_cl (x := x2241) bx2241.1
      have cn_tp := i_cl (x := tp) (by omega)
      have cn_fr := i_cl (x := fr) (by omega)
      refine lv_aload_n hx hb dX10_readProduct_10 rfl (lv_at hl2239 0 rfl) ?_
      refine lv_bipush (v := 42) hx hb dX10_readProduct_11 (by decide) ?_
      refine x_V (As := [.int 42]) (rest := []) C (a_X10_isSign_e l K G H2237 (42) (x2242) (x2243) hTH2237 ga0 ex2242 ex2243) yo_X10_isSign wM_X10_249 ⟨⟨by decide, by decide⟩, by decide, by decide⟩ (x_rv C hTH2237 (ci := 10) rfl ga0 rg_112) rfl hl2239.1 rfl (Nat.le_of_ble_eq_true rfl) dX10_readProduct_13 hSH2237 (AE_sub (fun _ _ => rfl) (by decide) hSH2237.1) (fun vH2246 H2246 locsH2246 pH2246 zH2246 kH2246 hSH2246 => ?_)
      obtain ⟨x2247, hvH2246, bx2247, hrH2246, hTH2246⟩ := pH2246
      subst hvH2246
      have mf2248 : MF K s.heap H2246 a0 [19, 20, 21, 22, 35, 39, 40] := MF.eff (x_lt hTH2237 kH2246 ga0 (by decide)) mfy2245
      have b2249 : ∀ j : Nat, j < 3000 + mn.toNatClampNeg → fI H2246 oq j = fI s.heap oq j ∧ fI H2246 aq j = fI s.heap aq j := fun j hj => ⟨(fI_kept (x_lt hTH2237 kH2246 goq (by decide))).trans (by2245_pf j hj).1, (fI_kept (x_lt hTH2237 kH2246 gaq (by decide))).trans (by2245_pf j hj).2⟩
      have b2250 : WF (fun k => fI H2246 oq k) (fun k => fI H2246 aq k) (3000 + mn.toNatClampNeg) (3000 + x2244.toNatClampNeg) 0 1 := WF.congr (fun j => fI_kept (x_lt hTH2237 kH2246 goq (by decide))) (fun j => fI_kept (x_lt hTH2237 kH2246 gaq (by decide))) by2245_wf
      have b2251 : RZ (1 - jb.toInt) (fun k => fI H2246 oq k) (fun k => fI H2246 aq k) (3000 + mn.toNatClampNeg) (3000 + x2244.toNatClampNeg) ([a_]) := RZ.congr (fun j => fI_kept (x_lt hTH2237 kH2246 goq (by decide))) (fun j => fI_kept (x_lt hTH2237 kH2246 gaq (by decide))) by2245_rs
      have g2252 : CG (avw K H2246 a0) := CG.congr (fun k hk j => av_eff hTH2237 kH2246 ga0 (by decide) (CG_eff [] (by decide) k hk)) gy2245_CG
      have g2253 : TU (avw K H2246 a0) (svw K H2246 a0) := TU.congr (fun k hk j => av_eff hTH2237 kH2246 ga0 (by decide) (TU_eff [] (by decide) k hk)) (fun k hk => sv_eff hTH2237 kH2246 ga0 (by decide)) gy2245_TU
      have g2254 : WD (avw K H2246 a0) := WD.congr (fun k hk j => av_eff hTH2237 kH2246 ga0 (by decide) (WD_eff [] (by decide) k hk)) gy2245_WD
      have g2255 : IM (avw K H2246 a0) := IM.congr (fun k hk j => av_eff hTH2237 kH2246 ga0 (by decide) (IM_eff [] (by decide) k hk)) gy2245_IM
      have f2256 : ∀ j : Nat, bt j = (fI H2246 tq j).toInt := fun j => (fy2245_bt j).trans (congrArg Int32.toInt (fI_kept (x_lt hTH2237 kH2246 gtq (by decide))).symm)
      have m2257 := (ex2240).trans (fI_kept (x_lt hTH2237 kH2246 ga0 (by decide))).symm
      have m2258 := (ex2241).trans (fI_kept (x_lt hTH2237 kH2246 ga0 (by decide))).symm
      have m2259 := (ex2242).trans (fI_kept (x_lt hTH2237 kH2246 ga0 (by decide))).symm
      have m2260 := (ex2243).trans (fI_kept (x_lt hTH2237 kH2246 ga0 (by decide))).symm
      have m2261 := (ex2244).trans (fI_kept (x_lt hTH2237 kH2246 ga0 (by decide))).symm
      have m2262 := (cy2245_0).trans (fR_kept (x_lt hTH2237 kH2246 ga0 (by decide))).symm
      have m2263 := (cy2245_1).trans (fR_kept (x_lt hTH2237 kH2246 ga0 (by decide))).symm
      have m2264 := (cy2245_2).trans (fR_kept (x_lt hTH2237 kH2246 ga0 (by decide))).symm
      have m2265 := (cy2245_3).trans (fI_kept (x_lt hTH2237 kH2246 ga0 (by decide))).symm
      have m2266 := (cy2245_4).trans (fI_kept (x_lt hTH2237 kH2246 ga0 (by decide))).symm
      refine W.eq (g2 := F0 m 16 ls2238 [.int x2247]) rfl ?_
      refine lv_if_ne (tgt := 28) hx hb dX10_readProduct_16 (by decide) (fun c2267 => ?_) (fun c2267 => ?_)
      · have k2268 := i_ne c2267
        refine lv_aload_n hx hb dX10_readProduct_28 rfl (lv_at hl2239 0 rfl) ?_
        refine lv_bipush (v := 42) hx hb dX10_readProduct_29 (by decide) ?_
        refine x_V (As := [.int 42]) (rest := []) C (a_X10_isSign_e l K G H2246 (42) (x2242) (x2243) hTH2246 ga0 m2259 m2260) yo_X10_isSign wM_X10_249 ⟨⟨by decide, by decide⟩, by decide, by decide⟩ (x_rv C hTH2246 (ci := 10) rfl ga0 rg_112) rfl hl2239.1 rfl (Nat.le_of_ble_eq_true rfl) dX10_readProduct_31 hSH2246 (AE_sub (fun _ _ => rfl) (by decide) hSH2246.1) (fun vH2269 H2269 locsH2269 pH2269 zH2269 kH2269 hSH2269 => ?_)
        obtain ⟨x2270, hvH2269, bx2270, hrH2269, hTH2269⟩ := pH2269
        subst hvH2269
        have mf2271 : MF K s.heap H2269 a0 [19, 20, 21, 22, 35, 39, 40] := MF.eff (x_lt hTH2246 kH2269 ga0 (by decide)) mf2248
        have b2272 : ∀ j : Nat, j < 3000 + mn.toNatClampNeg → fI H2269 oq j = fI s.heap oq j ∧ fI H2269 aq j = fI s.heap aq j := fun j hj => ⟨(fI_kept (x_lt hTH2246 kH2269 goq (by decide))).trans (b2249 j hj).1, (fI_kept (x_lt hTH2246 kH2269 gaq (by decide))).trans (b2249 j hj).2⟩
        have b2273 : WF (fun k => fI H2269 oq k) (fun k => fI H2269 aq k) (3000 + mn.toNatClampNeg) (3000 + x2244.toNatClampNeg) 0 1 := WF.congr (fun j => fI_kept (x_lt hTH2246 kH2269 goq (by decide))) (fun j => fI_kept (x_lt hTH2246 kH2269 gaq (by decide))) b2250
        have b2274 : RZ (1 - jb.toInt) (fun k => fI H2269 oq k) (fun k => fI H2269 aq k) (3000 + mn.toNatClampNeg) (3000 + x2244.toNatClampNeg) ([a_]) := RZ.congr (fun j => fI_kept (x_lt hTH2246 kH2269 goq (by decide))) (fun j => fI_kept (x_lt hTH2246 kH2269 gaq (by decide))) b2251
        have g2275 : CG (avw K H2269 a0) := CG.congr (fun k hk j => av_eff hTH2246 kH2269 ga0 (by decide) (CG_eff [] (by decide) k hk)) g2252
        have g2276 : TU (avw K H2269 a0) (svw K H2269 a0) := TU.congr (fun k hk j => av_eff hTH2246 kH2269 ga0 (by decide) (TU_eff [] (by decide) k hk)) (fun k hk => sv_eff hTH2246 kH2269 ga0 (by decide)) g2253
        have g2277 : WD (avw K H2269 a0) := WD.congr (fun k hk j => av_eff hTH2246 kH2269 ga0 (by decide) (WD_eff [] (by decide) k hk)) g2254
        have g2278 : IM (avw K H2269 a0) := IM.congr (fun k hk j => av_eff hTH2246 kH2269 ga0 (by decide) (IM_eff [] (by decide) k hk)) g2255
        have f2279 : ∀ j : Nat, bt j = (fI H2269 tq j).toInt := fun j => (f2256 j).trans (congrArg Int32.toInt (fI_kept (x_lt hTH2246 kH2269 gtq (by decide))).symm)
        have m2280 := (m2257).trans (fI_kept (x_lt hTH2246 kH2269 ga0 (by decide))).symm
        have m2281 := (m2258).trans (fI_kept (x_lt hTH2246 kH2269 ga0 (by decide))).symm
        have m2282 := (m2259).trans (fI_kept (x_lt hTH2246 kH2269 ga0 (by decide))).symm
        have m2283 := (m2260).trans (fI_kept (x_lt hTH2246 kH2269 ga0 (by decide))).symm
        have m2284 := (m2261).trans (fI_kept (x_lt hTH2246 kH2269 ga0 (by decide))).symm
        have m2285 := (m2262).trans (fR_kept (x_lt hTH2246 kH2269 ga0 (by decide))).symm
        have m2286 := (m2263).trans (fR_kept (x_lt hTH2246 kH2269 ga0 (by decide))).symm
        have m2287 := (m2264).trans (fR_kept (x_lt hTH2246 kH2269 ga0 (by decide))).symm
        have m2288 := (m2265).trans (fI_kept (x_lt hTH2246 kH2269 ga0 (by decide))).symm
        have m2289 := (m2266).trans (fI_kept (x_lt hTH2246 kH2269 ga0 (by decide))).symm
        refine W.eq (g2 := F0 m 34 ls2238 [.int x2270]) rfl ?_
        refine lv_istore_n (lv' := [(1, .int x2270), (0, .ref a0)]) hx hb dX10_readProduct_34 rfl hl2239 (by decide) rfl (fun ls2290 hl2291 => ?_)
        refine lv_aload_n hx hb dX10_readProduct_35 rfl (lv_at hl2291 1 rfl) ?_
        refine x_V (As := []) (rest := []) C (a_X10_reads_e l K G H2269 (x2240) (x2241) (x2242) (x2243) (tp) bt hTH2269 ga0 gtq m2287 m2280 m2281 m2282 m2283 m2288 g2275 g2276 g2277 g2278 (by omega) (hy1) f2279) yo_X10_reads wM_X10_242 ⟨⟨by decide, by decide⟩, by decide, by decide⟩ (x_rv C hTH2269 (ci := 10) rfl ga0 rg_112) rfl hl2291.1 rfl (Nat.le_of_ble_eq_true rfl) dX10_readProduct_36 hSH2269 (AE_sub (fun _ _ => rfl) (by decide) hSH2269.1) (fun vH2292 H2292 locsH2292 pH2292 zH2292 kH2292 hSH2292 => ?_)
        obtain ⟨x2293, x2294, x2295, x2296, hvH2292, ex2293, ex2294, ex2295, ex2296, hrH2292, m2297, g2298, g2299, g2300, g2301, mf2302, m2303, m2304, m2305, hTH2292⟩ := pH2292
        subst hvH2292
        clear f2256 m2257 m2258 m2259 m2260 m2261 m2262 m2263 m2264 m2265 m2266
        have b2306 : ∀ j : Nat, j < 3000 + mn.toNatClampNeg → fI H2292 oq j = fI s.heap oq j ∧ fI H2292 aq j = fI s.heap aq j := fun j hj => ⟨(fI_kept (x_lt hTH2269 kH2292 goq (by decide))).trans (b2272 j hj).1, (fI_kept (x_lt hTH2269 kH2292 gaq (by decide))).trans (b2272 j hj).2⟩
        have b2307 : WF (fun k => fI H2292 oq k) (fun k => fI H2292 aq k) (3000 + mn.toNatClampNeg) (3000 + x2244.toNatClampNeg) 0 1 := WF.congr (fun j => fI_kept (x_lt hTH2269 kH2292 goq (by decide))) (fun j => fI_kept (x_lt hTH2269 kH2292 gaq (by decide))) b2273
        have b2308 : RZ (1 - jb.toInt) (fun k => fI H2292 oq k) (fun k => fI H2292 aq k) (3000 + mn.toNatClampNeg) (3000 + x2244.toNatClampNeg) ([a_]) := RZ.congr (fun j => fI_kept (x_lt hTH2269 kH2292 goq (by decide))) (fun j => fI_kept (x_lt hTH2269 kH2292 gaq (by decide))) b2274
        have f2309 : ∀ j : Nat, bt j = (fI H2292 tq j).toInt := fun j => (f2279 j).trans (congrArg Int32.toInt (fI_kept (x_lt hTH2269 kH2292 gtq (by decide))).symm)
        have m2310 := (m2284).trans (MF.i mf2302 (k := 35) (by decide) (by decide)).symm
        have m2311 := (m2285).trans (MF.r mf2302 (k := 32) (by decide) (by decide)).symm
        have m2312 := (m2286).trans (MF.r mf2302 (k := 33) (by decide) (by decide)).symm
        have m2313 := (m2287).trans (MF.r mf2302 (k := 17) (by decide) (by decide)).symm
        have m2314 := (m2288).trans (MF.i mf2302 (k := 18) (by decide) (by decide)).symm
        have m2315 := (m2289).trans (MF.i mf2302 (k := 34) (by decide) (by decide)).symm
        have mf2316 : MF K s.heap H2292 a0 [19, 20, 21, 22, 35, 39, 40] := MF.trans mf2271 mf2302 (by decide)
        have bx2293 := ty_fi (x := x2293) (k := 19) ex2293 hTH2292 ga0 rg_112 rfl
        have bx2294 := ty_fi (x := x2294) (k := 20) ex2294 hTH2292 ga0 rg_112 rfl
        have bx2295 := ty_fi (x := x2295) (k := 21) ex2295 hTH2292 ga0 rg_112 rfl
        have bx2296 := ty_fi (x := x2296) (k := 22) ex2296 hTH2292 ga0 rg_112 rfl
        have cn_x2294 := i_cl (x := x2294) bx2294.1
        have cu2317 : CU bt tp.toNatClampNeg (cj + 1) x2294 x2293 x2295 x2296 := CU.next hcu10 m2303 m2304 m2305 (by omega)
        refine W.eq (g2 := F0 m 39 ls2290 []) rfl ?_
        refine lv_iload_n hx hb dX10_readProduct_39 rfl (lv_at hl2291 0 rfl) ?_
        refine lv_if_ne (tgt := 57) hx hb dX10_readProduct_40 (by decide) (fun c2318 => ?_) (fun c2318 => ?_)
        · have k2319 := i_ne c2318
          refine lv_iload_n hx hb dX10_readProduct_57 rfl (lv_at hl2291 0 rfl) ?_
          refine lv_if_ne (tgt := 74) hx hb dX10_readProduct_58 (by decide) (fun c2320 => ?_) (fun c2320 => ?_)
          · have k2321 := i_ne c2320
            refine lv_aload_n hx hb dX10_readProduct_74 rfl (lv_at hl2291 1 rfl) ?_
            refine x_V (As := []) (rest := []) C (a_X10_readUnit_g l K G H2292 (x2293) (x2294) (x2295) (x2296) (x2244) (tp) (jb) ((cj + 1)) bt hTH2292 ga0 goq m2311 gaq m2312 gtq m2297 ex2293 ex2294 ex2295 ex2296 m2310 m2314 m2315 g2298 g2299 g2300 g2301 (by omega) (by omega) (cu2317) (hy1) f2309) yo_X10_readUnit wM_X10_245 ⟨⟨by decide, by decide⟩, by decide, by decide⟩ (x_rv C hTH2292 (ci := 10) rfl ga0 rg_112) rfl hl2291.1 rfl (Nat.le_of_ble_eq_true rfl) dX10_readProduct_75 hSH2292 (AE_sub (fun _ _ => rfl) (by decide) hSH2292.1) (fun vH2322 H2322 locsH2322 pH2322 zH2322 kH2322 hSH2322 => ?_)
            obtain ⟨x2323, x2324, x2325, x2326, x2327, x2328, hvH2322, bx2323, ex2324, ex2325, ex2326, ex2327, ex2328, hrH2322, m2329, m2330, m2331, g2332, g2333, g2334, g2335, mf2336, m2337, m2338, m2339, m2340, m2341, hTH2322⟩ := pH2322
            subst hvH2322
            clear f2279 m2280 m2281 m2282 m2283 m2284 m2285 m2286 m2287 m2288 m2289
            have f2342 : ∀ j : Nat, bt j = (fI H2322 tq j).toInt := fun j => (f2309 j).trans (congrArg Int32.toInt (fI_kept (x_lt hTH2292 kH2322 gtq (by decide))).symm)
            have m2343 := (m2311).trans (MF.r mf2336 (k := 32) (by decide) (by decide)).symm
            have m2344 := (m2312).trans (MF.r mf2336 (k := 33) (by decide) (by decide)).symm
            have m2345 := (m2297).trans (MF.r mf2336 (k := 17) (by decide) (by decide)).symm
            have m2346 := (m2314).trans (MF.i mf2336 (k := 18) (by decide) (by decide)).symm
            have m2347 := (m2315).trans (MF.i mf2336 (k := 34) (by decide) (by decide)).symm
            have mf2348 : MF K s.heap H2322 a0 [19, 20, 21, 22, 35, 39, 40] := MF.trans mf2316 mf2336 (by decide)
            have bx2324 := ty_fi (x := x2324) (k := 19) ex2324 hTH2322 ga0 rg_112 rfl
            have bx2325 := ty_fi (x := x2325) (k := 20) ex2325 hTH2322 ga0 rg_112 rfl
            have bx2326 := ty_fi (x := x2326) (k := 21) ex2326 hTH2322 ga0 rg_112 rfl
            have bx2327 := ty_fi (x := x2327) (k := 22) ex2327 hTH2322 ga0 rg_112 rfl
            have bx2328 := ty_fi (x := x2328) (k := 35) ex2328 hTH2322 ga0 rg_112 rfl
            have csm2337 := i_cl (x := x2244) (by omega)
            have cs_mn := i_cl (x := mn) (by omega)
            have b2349 : ∀ j : Nat, j < 3000 + mn.toNatClampNeg → fI H2322 oq j = fI s.heap oq j ∧ fI H2322 aq j = fI s.heap aq j := fun j hj => ⟨(m2337 j (by omega)).1.trans (b2306 j hj).1, (m2337 j (by omega)).2.trans (b2306 j hj).2⟩
            have cs_mn := i_cl (x := mn) (by omega)
            have b2350 : WF (fun k => fI H2322 oq k) (fun k => fI H2322 aq k) (3000 + mn.toNatClampNeg) (3000 + x2244.toNatClampNeg) 0 1 := WF.keep b2307 (fun j hj => (m2337 j (by omega)).1) (fun j hj => (m2337 j (by omega)).2)
            have cs_mn := i_cl (x := mn) (by omega)
            have b2351 : RZ (1 - jb.toInt) (fun k => fI H2322 oq k) (fun k => fI H2322 aq k) (3000 + mn.toNatClampNeg) (3000 + x2244.toNatClampNeg) ([a_]) := RZ.keep b2308 (fun j hj => (m2337 j (by omega)).1) (fun j hj => (m2337 j (by omega)).2)
            refine W.eq (g2 := F0 m 78 ls2290 [.int x2323]) rfl ?_
            refine lv_iconst (v := (-1)) hx hb dX10_readProduct_78 (by decide) ?_
            refine lv_icmp_ne (tgt := 84) hx hb dX10_readProduct_79 (by decide) (fun c2352 => ?_) (fun c2352 => ?_)
            · have k2353 := i_ne c2352
              have wu0 : WF (fun k => fI H2322 oq k) (fun k => fI H2322 aq k) (3000 + x2244.toNatClampNeg) (3000 + x2328.toNatClampNeg) 0 1 := by
                rcases m2338 with h | h
                · exfalso; omega
                · exact h
              have cq_mn := i_cl (x := mn) (by omega)
              have cq_x2244 := i_cl (x := x2244) (by omega)
              have cq_x2328 := i_cl (x := x2328) (by omega)
              have rs2354 : RZ (1 - jb.toInt) (fun k => fI H2322 oq k) (fun k => fI H2322 aq k) (3000 + mn.toNatClampNeg) (3000 + x2328.toNatClampNeg) ([(unF (kK bt tp.toNatClampNeg) (vV bt tp.toNatClampNeg) (cj + 1)), a_]) := RZ.catc b2351 (m2341.resolve_left (by omega)) (by omega)
              refine lv_aload_n hx hb dX10_readProduct_84 rfl (lv_at hl2291 1 rfl) ?_
              refine lv_iload_n hx hb dX10_readProduct_85 rfl (lv_at hl2291 0 rfl) ?_
              refine lv_if_eq (tgt := 93) hx hb dX10_readProduct_86 (by decide) (fun c2355 => ?_) (fun c2355 => ?_)
              · have k2356 := i_eq c2355
                exfalso
                omega
              · have k2356 := i_ne c2355
                refine lv_iconst (v := 4) hx hb dX10_readProduct_89 (by decide) ?_
                refine lv_goto (tgt := 94) hx hb dX10_readProduct_90 (by decide) ?_
                refine lv_iconst (v := 0) hx hb dX10_readProduct_94 (by decide) ?_
                refine x_V (As := [.int 4, .int 0]) (rest := []) C (a_X10_emits l K G H2322 (4) (0) (x2328) hTH2322 ga0 goq m2329 gaq m2330 ex2328 g2332 g2333 g2334 g2335 (by omega)) yo_X10_emits wM_X10_238 ⟨⟨by decide, by decide⟩, by decide, by decide⟩ (x_rv C hTH2322 (ci := 10) rfl ga0 rg_112) rfl hl2291.1 rfl (Nat.le_of_ble_eq_true rfl) dX10_readProduct_95 hSH2322 (AE_sub (fun _ _ => rfl) (by decide) hSH2322.1) (fun vH2357 H2357 locsH2357 pH2357 zH2357 kH2357 hSH2357 => ?_)
                obtain ⟨x2358, hvH2357, ex2358, hrH2357, m2359, m2360, g2361, g2362, g2363, g2364, mf2365, m2366, m2367, m2368, m2369, hTH2357⟩ := pH2357
                subst hvH2357
                clear f2309 m2297 m2310 m2311 m2312 m2314 m2315
                have f2370 : ∀ j : Nat, bt j = (fI H2357 tq j).toInt := fun j => (f2342 j).trans (congrArg Int32.toInt (fI_kept (x_lt hTH2322 kH2357 gtq (by decide))).symm)
                have m2371 := (m2329).trans (MF.r mf2365 (k := 32) (by decide) (by decide)).symm
                have m2372 := (m2330).trans (MF.r mf2365 (k := 33) (by decide) (by decide)).symm
                have m2373 := (m2331).trans (MF.r mf2365 (k := 17) (by decide) (by decide)).symm
                have m2374 := (m2346).trans (MF.i mf2365 (k := 18) (by decide) (by decide)).symm
                have m2375 := (m2347).trans (MF.i mf2365 (k := 34) (by decide) (by decide)).symm
                have m2376 := (ex2324).trans (MF.i mf2365 (k := 19) (by decide) (by decide)).symm
                have m2377 := (ex2325).trans (MF.i mf2365 (k := 20) (by decide) (by decide)).symm
                have m2378 := (ex2326).trans (MF.i mf2365 (k := 21) (by decide) (by decide)).symm
                have m2379 := (ex2327).trans (MF.i mf2365 (k := 22) (by decide) (by decide)).symm
                have mf2380 : MF K s.heap H2357 a0 [19, 20, 21, 22, 35, 39, 40] := MF.trans mf2348 mf2365 (by decide)
                have bx2358 := ty_fi (x := x2358) (k := 35) ex2358 hTH2357 ga0 rg_112 rfl
                have cem2369 := i_cl (x := x2328) (by omega)
                have ce_mn := i_cl (x := mn) (by omega)
                have b2381 : ∀ j : Nat, j < 3000 + mn.toNatClampNeg → fI H2357 oq j = fI s.heap oq j ∧ fI H2357 aq j = fI s.heap aq j := fun j hj => ⟨(m2368 j (by omega)).trans (b2349 j hj).1, (m2369 j (by omega)).trans (b2349 j hj).2⟩
                have ce_mn := i_cl (x := mn) (by omega)
                have ce_x2244 := i_cl (x := x2244) (by omega)
                have b2382 : WF (fun k => fI H2357 oq k) (fun k => fI H2357 aq k) (3000 + mn.toNatClampNeg) (3000 + x2244.toNatClampNeg) 0 1 := WF.keep b2350 (fun j hj => m2368 j (by omega)) (fun j hj => m2369 j (by omega))
                have ce_mn := i_cl (x := mn) (by omega)
                have ce_tp := i_cl (x := tp) (by omega)
                have b2383 : RZ (1 - jb.toInt) (fun k => fI H2357 oq k) (fun k => fI H2357 aq k) (3000 + mn.toNatClampNeg) (3000 + x2328.toNatClampNeg) ([(unF (kK bt tp.toNatClampNeg) (vV bt tp.toNatClampNeg) (cj + 1)), a_]) := RZ.keep rs2354 (fun j hj => m2368 j (by omega)) (fun j hj => m2369 j (by omega))
                have ce_x2244 := i_cl (x := x2244) (by omega)
                have b2384 : WF (fun k => fI H2357 oq k) (fun k => fI H2357 aq k) (3000 + x2244.toNatClampNeg) (3000 + x2328.toNatClampNeg) 0 1 := WF.keep wu0 (fun j hj => m2368 j (by omega)) (fun j hj => m2369 j (by omega))
                refine W.eq (g2 := F0 m 98 ls2290 []) rfl ?_
                have ho := congrArg Int32.toInt m2366
                have cb_mn := i_cl (x := mn) (by omega)
                have cb_x2244 := i_cl (x := x2244) (by omega)
                have cb_x2328 := i_cl (x := x2328) (by omega)
                have wn : WF (fun k => fI H2357 oq k) (fun k => fI H2357 aq k) (3000 + mn.toNatClampNeg) (3000 + x2328.toNatClampNeg + 1) 0 1 := WF.bin b2382 b2384 (by omega) (by omega) (by show 2 ≤ (fI _ oq _).toInt ∧ (fI _ oq _).toInt ≤ 11 ∧ (fI _ oq _).toInt ≠ 9; omega) (Or.inl (by show (fI _ oq _).toInt ≠ 5; omega))
                have cq_mn := i_cl (x := mn) (by omega)
                have cq_x2328 := i_cl (x := x2328) (by omega)
                have rs2385 : RZ (1 - jb.toInt) (fun k => fI H2357 oq k) (fun k => fI H2357 aq k) (3000 + mn.toNatClampNeg) (3000 + x2328.toNatClampNeg + 1) ([cbF 42 a_ (unF (kK bt tp.toNatClampNeg) (vV bt tp.toNatClampNeg) (cj + 1))]) := RZ.binc (s := 42) b2383 (by omega) (by show (fI _ oq _).toInt = _; rw [← m2366]; rfl) (Or.inl rfl)
                refine lv_goto (tgt := 10) hx hb dX10_readProduct_98 (by decide) ?_
                have cl_mn := i_cl (x := mn) (by omega)
                have cl_mn := i_cl (x := mn) (by omega)
                have cl_x2328 := i_cl (x := x2328) (by omega)
                have cl_x2358 := i_cl (x := x2358) (by omega)
                have cl_mn := i_cl (x := mn) (by omega)
                have cl_tp := i_cl (x := tp) (by omega)
                have cl_x2328 := i_cl (x := x2328) (by omega)
                have cl_x2358 := i_cl (x := x2358) (by omega)
                obtain ⟨cj2386, ho2388, cu2387⟩ := RC.yes m2340 (by omega)
                have ub_ := hcu10.2.2.2
                have k42_ : kK bt tp.toNatClampNeg cj = 42 := (TV.sg (c := 42) hcu10.2.2.1 (by decide)).mp ⟨by omega, by omega⟩
                exact ih10 cj2386 (cbF 42 a_ (unF (kK bt tp.toNatClampNeg) (vV bt tp.toNatClampNeg) (cj + 1))) ls2290 H2357 locsH2357 (x2324) (x2325) (x2326) (x2327) (x2358) (lv_sub hl2291 [1] rfl) hTH2357 hSH2357 bx2324 bx2325 bx2358 m2376 m2377 m2378 m2379 ex2358 m2359 m2360 m2373 m2374 m2375 b2381 (WF.cast wn (by omega) (by omega)) (RZ.cast rs2385 (by omega) (by omega) rfl) mf2380 g2361 g2362 g2363 g2364 f2370 (by omega) (by omega) cu2387 (hsp10.trans (tb_t1 (by omega) k42_ ho2388)) (hsf10.trans (tbF_go (by omega) k42_ (Or.inl rfl) ho2388))
            · have k2353 := i_eq c2352
              refine lv_iconst (v := (-1)) hx hb dX10_readProduct_82 (by decide) ?_
              have ub_ := hcu10.2.2.2
              have k42_ : kK bt tp.toNatClampNeg cj = 42 := (TV.sg (c := 42) hcu10.2.2.1 (by decide)).mp ⟨by omega, by omega⟩
              exact x_iret C hQ dX10_readProduct_83 hSH2322 (by decide) (by decide) (⟨(-1), x2324, x2325, x2326, x2327, x2328, rfl, by decide, ex2324, ex2325, ex2326, ex2327, ex2328, by omega, m2329, m2330, m2331, g2332, g2333, g2334, g2335, mf2348, b2349, Or.inl (by omega), Or.inl ⟨hsp10.trans (tb_t0 (by omega) k42_ (RC.no m2340 (by omega))), by omega⟩, Or.inl (by omega), hTH2322⟩)
          · have k2321 := i_eq c2320
            exfalso
            omega
        · have k2319 := i_eq c2318
          refine lv_aload_n hx hb dX10_readProduct_43 rfl (lv_at hl2291 1 rfl) ?_
          refine x_gi C hTH2292 (ci := 10) (k := 21) rfl inX10 (by decide) wF_X10_202 ga0 rg_112 rfl dX10_readProduct_44 (fun x2389 ex2389 bx2389 => ?_)
          have ux2389 : x2295 = x2389 := (ex2295).trans ex2389.symm
          subst ux2389
          refine lv_iconst (v := 3) hx hb dX10_readProduct_47 (by decide) ?_
          refine lv_icmp_eq (tgt := 57) hx hb dX10_readProduct_48 (by decide) (fun c2390 => ?_) (fun c2390 => ?_)
          · have k2391 := i_eq c2390
            refine lv_iload_n hx hb dX10_readProduct_57 rfl (lv_at hl2291 0 rfl) ?_
            refine lv_if_ne (tgt := 74) hx hb dX10_readProduct_58 (by decide) (fun c2392 => ?_) (fun c2392 => ?_)
            · have k2393 := i_ne c2392
              exfalso
              omega
            · have k2393 := i_eq c2392
              refine lv_aload_n hx hb dX10_readProduct_61 rfl (lv_at hl2291 1 rfl) ?_
              refine x_gi C hTH2292 (ci := 10) (k := 22) rfl inX10 (by decide) wF_X10_205 ga0 rg_112 rfl dX10_readProduct_62 (fun x2394 ex2394 bx2394 => ?_)
              have ux2394 : x2296 = x2394 := (ex2296).trans ex2394.symm
              subst ux2394
              refine lv_if_ne (tgt := 74) hx hb dX10_readProduct_65 (by decide) (fun c2395 => ?_) (fun c2395 => ?_)
              · have k2396 := i_ne c2395
                refine lv_aload_n hx hb dX10_readProduct_74 rfl (lv_at hl2291 1 rfl) ?_
                refine x_V (As := []) (rest := []) C (a_X10_readUnit_g l K G H2292 (x2293) (x2294) (x2295) (x2296) (x2244) (tp) (jb) ((cj + 1)) bt hTH2292 ga0 goq m2311 gaq m2312 gtq m2297 ex2293 ex2294 ex2295 ex2296 m2310 m2314 m2315 g2298 g2299 g2300 g2301 (by omega) (by omega) (cu2317) (hy1) f2309) yo_X10_readUnit wM_X10_245 ⟨⟨by decide, by decide⟩, by decide, by decide⟩ (x_rv C hTH2292 (ci := 10) rfl ga0 rg_112) rfl hl2291.1 rfl (Nat.le_of_ble_eq_true rfl) dX10_readProduct_75 hSH2292 (AE_sub (fun _ _ => rfl) (by decide) hSH2292.1) (fun vH2397 H2397 locsH2397 pH2397 zH2397 kH2397 hSH2397 => ?_)
                obtain ⟨x2398, x2399, x2400, x2401, x2402, x2403, hvH2397, bx2398, ex2399, ex2400, ex2401, ex2402, ex2403, hrH2397, m2404, m2405, m2406, g2407, g2408, g2409, g2410, mf2411, m2412, m2413, m2414, m2415, m2416, hTH2397⟩ := pH2397
                subst hvH2397
                clear f2279 m2280 m2281 m2282 m2283 m2284 m2285 m2286 m2287 m2288 m2289
                have f2417 : ∀ j : Nat, bt j = (fI H2397 tq j).toInt := fun j => (f2309 j).trans (congrArg Int32.toInt (fI_kept (x_lt hTH2292 kH2397 gtq (by decide))).symm)
                have m2418 := (m2311).trans (MF.r mf2411 (k := 32) (by decide) (by decide)).symm
                have m2419 := (m2312).trans (MF.r mf2411 (k := 33) (by decide) (by decide)).symm
                have m2420 := (m2297).trans (MF.r mf2411 (k := 17) (by decide) (by decide)).symm
                have m2421 := (m2314).trans (MF.i mf2411 (k := 18) (by decide) (by decide)).symm
                have m2422 := (m2315).trans (MF.i mf2411 (k := 34) (by decide) (by decide)).symm
                have mf2423 : MF K s.heap H2397 a0 [19, 20, 21, 22, 35, 39, 40] := MF.trans mf2316 mf2411 (by decide)
                have bx2399 := ty_fi (x := x2399) (k := 19) ex2399 hTH2397 ga0 rg_112 rfl
                have bx2400 := ty_fi (x := x2400) (k := 20) ex2400 hTH2397 ga0 rg_112 rfl
                have bx2401 := ty_fi (x := x2401) (k := 21) ex2401 hTH2397 ga0 rg_112 rfl
                have bx2402 := ty_fi (x := x2402) (k := 22) ex2402 hTH2397 ga0 rg_112 rfl
                have bx2403 := ty_fi (x := x2403) (k := 35) ex2403 hTH2397 ga0 rg_112 rfl
                have csm2412 := i_cl (x := x2244) (by omega)
                have cs_mn := i_cl (x := mn) (by omega)
                have b2424 : ∀ j : Nat, j < 3000 + mn.toNatClampNeg → fI H2397 oq j = fI s.heap oq j ∧ fI H2397 aq j = fI s.heap aq j := fun j hj => ⟨(m2412 j (by omega)).1.trans (b2306 j hj).1, (m2412 j (by omega)).2.trans (b2306 j hj).2⟩
                have cs_mn := i_cl (x := mn) (by omega)
                have b2425 : WF (fun k => fI H2397 oq k) (fun k => fI H2397 aq k) (3000 + mn.toNatClampNeg) (3000 + x2244.toNatClampNeg) 0 1 := WF.keep b2307 (fun j hj => (m2412 j (by omega)).1) (fun j hj => (m2412 j (by omega)).2)
                have cs_mn := i_cl (x := mn) (by omega)
                have b2426 : RZ (1 - jb.toInt) (fun k => fI H2397 oq k) (fun k => fI H2397 aq k) (3000 + mn.toNatClampNeg) (3000 + x2244.toNatClampNeg) ([a_]) := RZ.keep b2308 (fun j hj => (m2412 j (by omega)).1) (fun j hj => (m2412 j (by omega)).2)
                refine W.eq (g2 := F0 m 78 ls2290 [.int x2398]) rfl ?_
                refine lv_iconst (v := (-1)) hx hb dX10_readProduct_78 (by decide) ?_
                refine lv_icmp_ne (tgt := 84) hx hb dX10_readProduct_79 (by decide) (fun c2427 => ?_) (fun c2427 => ?_)
                · have k2428 := i_ne c2427
                  have wu0 : WF (fun k => fI H2397 oq k) (fun k => fI H2397 aq k) (3000 + x2244.toNatClampNeg) (3000 + x2403.toNatClampNeg) 0 1 := by
                    rcases m2413 with h | h
                    · exfalso; omega
                    · exact h
                  have ev0 : (fI H2397 oq (3000 + x2244.toNatClampNeg)).toInt = 0 ∧ (fI H2397 aq (3000 + x2244.toNatClampNeg)).toInt = x2296.toInt := by
                    rcases m2414 with h | h | h
                    · exfalso; omega
                    · exfalso; omega
                    · exact h
                  have cq_mn := i_cl (x := mn) (by omega)
                  have cq_x2244 := i_cl (x := x2244) (by omega)
                  have cq_x2403 := i_cl (x := x2403) (by omega)
                  have rs2429 : RZ (1 - jb.toInt) (fun k => fI H2397 oq k) (fun k => fI H2397 aq k) (3000 + mn.toNatClampNeg) (3000 + x2403.toNatClampNeg) ([(unF (kK bt tp.toNatClampNeg) (vV bt tp.toNatClampNeg) (cj + 1)), a_]) := RZ.catc b2426 (m2416.resolve_left (by omega)) (by omega)
                  refine lv_aload_n hx hb dX10_readProduct_84 rfl (lv_at hl2291 1 rfl) ?_
                  refine lv_iload_n hx hb dX10_readProduct_85 rfl (lv_at hl2291 0 rfl) ?_
                  refine lv_if_eq (tgt := 93) hx hb dX10_readProduct_86 (by decide) (fun c2430 => ?_) (fun c2430 => ?_)
                  · have k2431 := i_eq c2430
                    refine lv_iconst (v := 5) hx hb dX10_readProduct_93 (by decide) ?_
                    refine lv_iconst (v := 0) hx hb dX10_readProduct_94 (by decide) ?_
                    refine x_V (As := [.int 5, .int 0]) (rest := []) C (a_X10_emits l K G H2397 (5) (0) (x2403) hTH2397 ga0 goq m2404 gaq m2405 ex2403 g2407 g2408 g2409 g2410 (by omega)) yo_X10_emits wM_X10_238 ⟨⟨by decide, by decide⟩, by decide, by decide⟩ (x_rv C hTH2397 (ci := 10) rfl ga0 rg_112) rfl hl2291.1 rfl (Nat.le_of_ble_eq_true rfl) dX10_readProduct_95 hSH2397 (AE_sub (fun _ _ => rfl) (by decide) hSH2397.1) (fun vH2432 H2432 locsH2432 pH2432 zH2432 kH2432 hSH2432 => ?_)
                    obtain ⟨x2433, hvH2432, ex2433, hrH2432, m2434, m2435, g2436, g2437, g2438, g2439, mf2440, m2441, m2442, m2443, m2444, hTH2432⟩ := pH2432
                    subst hvH2432
                    clear f2309 m2297 m2310 m2311 m2312 m2314 m2315
                    have f2445 : ∀ j : Nat, bt j = (fI H2432 tq j).toInt := fun j => (f2417 j).trans (congrArg Int32.toInt (fI_kept (x_lt hTH2397 kH2432 gtq (by decide))).symm)
                    have m2446 := (m2404).trans (MF.r mf2440 (k := 32) (by decide) (by decide)).symm
                    have m2447 := (m2405).trans (MF.r mf2440 (k := 33) (by decide) (by decide)).symm
                    have m2448 := (m2406).trans (MF.r mf2440 (k := 17) (by decide) (by decide)).symm
                    have m2449 := (m2421).trans (MF.i mf2440 (k := 18) (by decide) (by decide)).symm
                    have m2450 := (m2422).trans (MF.i mf2440 (k := 34) (by decide) (by decide)).symm
                    have m2451 := (ex2399).trans (MF.i mf2440 (k := 19) (by decide) (by decide)).symm
                    have m2452 := (ex2400).trans (MF.i mf2440 (k := 20) (by decide) (by decide)).symm
                    have m2453 := (ex2401).trans (MF.i mf2440 (k := 21) (by decide) (by decide)).symm
                    have m2454 := (ex2402).trans (MF.i mf2440 (k := 22) (by decide) (by decide)).symm
                    have mf2455 : MF K s.heap H2432 a0 [19, 20, 21, 22, 35, 39, 40] := MF.trans mf2423 mf2440 (by decide)
                    have bx2433 := ty_fi (x := x2433) (k := 35) ex2433 hTH2432 ga0 rg_112 rfl
                    have cem2444 := i_cl (x := x2403) (by omega)
                    have ce_mn := i_cl (x := mn) (by omega)
                    have b2456 : ∀ j : Nat, j < 3000 + mn.toNatClampNeg → fI H2432 oq j = fI s.heap oq j ∧ fI H2432 aq j = fI s.heap aq j := fun j hj => ⟨(m2443 j (by omega)).trans (b2424 j hj).1, (m2444 j (by omega)).trans (b2424 j hj).2⟩
                    have ce_mn := i_cl (x := mn) (by omega)
                    have ce_x2244 := i_cl (x := x2244) (by omega)
                    have b2457 : WF (fun k => fI H2432 oq k) (fun k => fI H2432 aq k) (3000 + mn.toNatClampNeg) (3000 + x2244.toNatClampNeg) 0 1 := WF.keep b2425 (fun j hj => m2443 j (by omega)) (fun j hj => m2444 j (by omega))
                    have ce_mn := i_cl (x := mn) (by omega)
                    have ce_tp := i_cl (x := tp) (by omega)
                    have b2458 : RZ (1 - jb.toInt) (fun k => fI H2432 oq k) (fun k => fI H2432 aq k) (3000 + mn.toNatClampNeg) (3000 + x2403.toNatClampNeg) ([(unF (kK bt tp.toNatClampNeg) (vV bt tp.toNatClampNeg) (cj + 1)), a_]) := RZ.keep rs2429 (fun j hj => m2443 j (by omega)) (fun j hj => m2444 j (by omega))
                    have ce_x2244 := i_cl (x := x2244) (by omega)
                    have b2459 : WF (fun k => fI H2432 oq k) (fun k => fI H2432 aq k) (3000 + x2244.toNatClampNeg) (3000 + x2403.toNatClampNeg) 0 1 := WF.keep wu0 (fun j hj => m2443 j (by omega)) (fun j hj => m2444 j (by omega))
                    have ce_x2244 := i_cl (x := x2244) (by omega)
                    have b2460 : (fI H2432 oq (3000 + x2244.toNatClampNeg)).toInt = 0 ∧ (fI H2432 aq (3000 + x2244.toNatClampNeg)).toInt = x2296.toInt := ⟨(congrArg Int32.toInt (m2443 _ (by omega))).trans ev0.1, (congrArg Int32.toInt (m2444 _ (by omega))).trans ev0.2⟩
                    refine W.eq (g2 := F0 m 98 ls2290 []) rfl ?_
                    have ho := congrArg Int32.toInt m2441
                    have cb_mn := i_cl (x := mn) (by omega)
                    have cb_x2244 := i_cl (x := x2244) (by omega)
                    have cb_x2403 := i_cl (x := x2403) (by omega)
                    have ev1 : (fI H2432 oq (3000 + x2244.toNatClampNeg)).toInt = 0 ∧ (fI H2432 aq (3000 + x2244.toNatClampNeg)).toInt ≠ 0 := ⟨b2460.1, by rw [b2460.2]; omega⟩
                    have wn : WF (fun k => fI H2432 oq k) (fun k => fI H2432 aq k) (3000 + mn.toNatClampNeg) (3000 + x2403.toNatClampNeg + 1) 0 1 := WF.bin b2457 b2459 (by omega) (by omega) (by show 2 ≤ (fI _ oq _).toInt ∧ (fI _ oq _).toInt ≤ 11 ∧ (fI _ oq _).toInt ≠ 9; omega) (Or.inr ⟨by omega, ev1.1, ev1.2⟩)
                    have cq_mn := i_cl (x := mn) (by omega)
                    have cq_x2403 := i_cl (x := x2403) (by omega)
                    have rs2461 : RZ (1 - jb.toInt) (fun k => fI H2432 oq k) (fun k => fI H2432 aq k) (3000 + mn.toNatClampNeg) (3000 + x2403.toNatClampNeg + 1) ([cbF 47 a_ (unF (kK bt tp.toNatClampNeg) (vV bt tp.toNatClampNeg) (cj + 1))]) := RZ.binc (s := 47) b2458 (by omega) (by show (fI _ oq _).toInt = _; rw [← m2441]; rfl) (Or.inr (Or.inl rfl))
                    refine lv_goto (tgt := 10) hx hb dX10_readProduct_98 (by decide) ?_
                    have cl_mn := i_cl (x := mn) (by omega)
                    have cl_mn := i_cl (x := mn) (by omega)
                    have cl_x2403 := i_cl (x := x2403) (by omega)
                    have cl_x2433 := i_cl (x := x2433) (by omega)
                    have cl_mn := i_cl (x := mn) (by omega)
                    have cl_tp := i_cl (x := tp) (by omega)
                    have cl_x2403 := i_cl (x := x2403) (by omega)
                    have cl_x2433 := i_cl (x := x2433) (by omega)
                    obtain ⟨cj2462, ho2464, cu2463⟩ := RC.yes m2415 (by omega)
                    have ub_ := hcu10.2.2.2
                    have k47_ : kK bt tp.toNatClampNeg cj = 47 := (TV.sg (c := 47) hcu10.2.2.1 (by decide)).mp ⟨by omega, by omega⟩
                    have n2_ : kK bt tp.toNatClampNeg (cj + 1) = 24 := (TV.nm cu2317.2.2.1).mp (by omega)
                    have v2_ := TV.nv cu2317.2.2.1 (by omega)
                    have e2_ := un_at ho2464
                    exact ih10 cj2462 (cbF 47 a_ (unF (kK bt tp.toNatClampNeg) (vV bt tp.toNatClampNeg) (cj + 1))) ls2290 H2432 locsH2432 (x2399) (x2400) (x2401) (x2402) (x2433) (lv_sub hl2291 [1] rfl) hTH2432 hSH2432 bx2399 bx2400 bx2433 m2451 m2452 m2453 m2454 ex2433 m2434 m2435 m2448 m2449 m2450 b2456 (WF.cast wn (by omega) (by omega)) (RZ.cast rs2461 (by omega) (by omega) rfl) mf2455 g2436 g2437 g2438 g2439 f2445 (by omega) (by omega) cu2463 (hsp10.trans ((tb_d1 (by omega) k47_ n2_ (fun z => by rw [z] at v2_; omega)).trans (by rw [e2_]))) (hsf10.trans (tbF_go (by omega) k47_ (Or.inr rfl) ho2464))
                  · have k2431 := i_ne c2430
                    exfalso
                    omega
                · have k2428 := i_eq c2427
                  refine lv_iconst (v := (-1)) hx hb dX10_readProduct_82 (by decide) ?_
                  have ub_ := hcu10.2.2.2
                  exact x_iret C hQ dX10_readProduct_83 hSH2397 (by decide) (by decide) (⟨(-1), x2399, x2400, x2401, x2402, x2403, rfl, by decide, ex2399, ex2400, ex2401, ex2402, ex2403, by omega, m2404, m2405, m2406, g2407, g2408, g2409, g2410, mf2423, b2424, Or.inl (by omega), (by exfalso; have z_ := (RC.no m2415 (by omega)).symm.trans (un_nm ((TV.nm cu2317.2.2.1).mp (by omega))); cases z_), Or.inl (by omega), hTH2397⟩)
              · have k2396 := i_eq c2395
                refine lv_aload_n hx hb dX10_readProduct_68 rfl (lv_at hl2291 1 rfl) ?_
                refine lv_iconst (v := 2) hx hb dX10_readProduct_69 (by decide) ?_
                refine x_V (As := [.int 2]) (rest := []) C (a_X10_fails l K G H2292 (2) hTH2292 ga0 g2298 g2299 g2300 g2301) yo_X10_fails wM_X10_235 ⟨⟨by decide, by decide⟩, by decide, by decide⟩ (x_rv C hTH2292 (ci := 10) rfl ga0 rg_112) rfl hl2291.1 rfl (Nat.le_of_ble_eq_true rfl) dX10_readProduct_70 hSH2292 (AE_sub (fun _ _ => rfl) (by decide) hSH2292.1) (fun vH2465 H2465 locsH2465 pH2465 zH2465 kH2465 hSH2465 => ?_)
                obtain ⟨x2466, hvH2465, bx2466, g2467, g2468, g2469, g2470, mf2471, hTH2465⟩ := pH2465
                subst hvH2465
                clear f2279 m2280 m2281 m2282 m2283 m2284 m2285 m2286 m2287 m2288 m2289
                have b2472 : ∀ j : Nat, j < 3000 + mn.toNatClampNeg → fI H2465 oq j = fI s.heap oq j ∧ fI H2465 aq j = fI s.heap aq j := fun j hj => ⟨(fI_kept (x_lt hTH2292 kH2465 goq (by decide))).trans (b2306 j hj).1, (fI_kept (x_lt hTH2292 kH2465 gaq (by decide))).trans (b2306 j hj).2⟩
                have b2473 : WF (fun k => fI H2465 oq k) (fun k => fI H2465 aq k) (3000 + mn.toNatClampNeg) (3000 + x2244.toNatClampNeg) 0 1 := WF.congr (fun j => fI_kept (x_lt hTH2292 kH2465 goq (by decide))) (fun j => fI_kept (x_lt hTH2292 kH2465 gaq (by decide))) b2307
                have b2474 : RZ (1 - jb.toInt) (fun k => fI H2465 oq k) (fun k => fI H2465 aq k) (3000 + mn.toNatClampNeg) (3000 + x2244.toNatClampNeg) ([a_]) := RZ.congr (fun j => fI_kept (x_lt hTH2292 kH2465 goq (by decide))) (fun j => fI_kept (x_lt hTH2292 kH2465 gaq (by decide))) b2308
                have f2475 : ∀ j : Nat, bt j = (fI H2465 tq j).toInt := fun j => (f2309 j).trans (congrArg Int32.toInt (fI_kept (x_lt hTH2292 kH2465 gtq (by decide))).symm)
                have m2476 := (m2310).trans (MF.i mf2471 (k := 35) (by decide) (by decide)).symm
                have m2477 := (m2311).trans (MF.r mf2471 (k := 32) (by decide) (by decide)).symm
                have m2478 := (m2312).trans (MF.r mf2471 (k := 33) (by decide) (by decide)).symm
                have m2479 := (m2297).trans (MF.r mf2471 (k := 17) (by decide) (by decide)).symm
                have m2480 := (m2314).trans (MF.i mf2471 (k := 18) (by decide) (by decide)).symm
                have m2481 := (m2315).trans (MF.i mf2471 (k := 34) (by decide) (by decide)).symm
                have m2482 := (ex2293).trans (MF.i mf2471 (k := 19) (by decide) (by decide)).symm
                have m2483 := (ex2294).trans (MF.i mf2471 (k := 20) (by decide) (by decide)).symm
                have m2484 := (ex2295).trans (MF.i mf2471 (k := 21) (by decide) (by decide)).symm
                have m2485 := (ex2296).trans (MF.i mf2471 (k := 22) (by decide) (by decide)).symm
                have mf2486 : MF K s.heap H2465 a0 [19, 20, 21, 22, 35, 39, 40] := MF.trans mf2316 mf2471 (by decide)
                refine W.eq (g2 := F0 m 73 ls2290 [.int x2466]) rfl ?_
                have ub_ := hcu10.2.2.2
                have k47_ : kK bt tp.toNatClampNeg cj = 47 := (TV.sg (c := 47) hcu10.2.2.1 (by decide)).mp ⟨by omega, by omega⟩
                have v2_ := TV.nv cu2317.2.2.1 (by omega)
                exact x_iret C hQ dX10_readProduct_73 hSH2465 (by decide) (by decide) (⟨x2466, x2293, x2294, x2295, x2296, x2244, rfl, by omega, m2482, m2483, m2484, m2485, m2476, by omega, m2477, m2478, m2479, g2467, g2468, g2469, g2470, mf2486, b2472, Or.inl (by omega), Or.inl ⟨hsp10.trans (tb_d0 (by omega) k47_ (Or.inr ⟨(TV.nm cu2317.2.2.1).mp (by omega), by omega⟩)), by omega⟩, Or.inl (by omega), hTH2465⟩)
          · have k2391 := i_ne c2390
            refine lv_aload_n hx hb dX10_readProduct_51 rfl (lv_at hl2291 1 rfl) ?_
            refine lv_iconst (v := 1) hx hb dX10_readProduct_52 (by decide) ?_
            refine x_V (As := [.int 1]) (rest := []) C (a_X10_fails l K G H2292 (1) hTH2292 ga0 g2298 g2299 g2300 g2301) yo_X10_fails wM_X10_235 ⟨⟨by decide, by decide⟩, by decide, by decide⟩ (x_rv C hTH2292 (ci := 10) rfl ga0 rg_112) rfl hl2291.1 rfl (Nat.le_of_ble_eq_true rfl) dX10_readProduct_53 hSH2292 (AE_sub (fun _ _ => rfl) (by decide) hSH2292.1) (fun vH2487 H2487 locsH2487 pH2487 zH2487 kH2487 hSH2487 => ?_)
            obtain ⟨x2488, hvH2487, bx2488, g2489, g2490, g2491, g2492, mf2493, hTH2487⟩ := pH2487
            subst hvH2487
            clear f2279 m2280 m2281 m2282 m2283 m2284 m2285 m2286 m2287 m2288 m2289
            have b2494 : ∀ j : Nat, j < 3000 + mn.toNatClampNeg → fI H2487 oq j = fI s.heap oq j ∧ fI H2487 aq j = fI s.heap aq j := fun j hj => ⟨(fI_kept (x_lt hTH2292 kH2487 goq (by decide))).trans (b2306 j hj).1, (fI_kept (x_lt hTH2292 kH2487 gaq (by decide))).trans (b2306 j hj).2⟩
            have b2495 : WF (fun k => fI H2487 oq k) (fun k => fI H2487 aq k) (3000 + mn.toNatClampNeg) (3000 + x2244.toNatClampNeg) 0 1 := WF.congr (fun j => fI_kept (x_lt hTH2292 kH2487 goq (by decide))) (fun j => fI_kept (x_lt hTH2292 kH2487 gaq (by decide))) b2307
            have b2496 : RZ (1 - jb.toInt) (fun k => fI H2487 oq k) (fun k => fI H2487 aq k) (3000 + mn.toNatClampNeg) (3000 + x2244.toNatClampNeg) ([a_]) := RZ.congr (fun j => fI_kept (x_lt hTH2292 kH2487 goq (by decide))) (fun j => fI_kept (x_lt hTH2292 kH2487 gaq (by decide))) b2308
            have f2497 : ∀ j : Nat, bt j = (fI H2487 tq j).toInt := fun j => (f2309 j).trans (congrArg Int32.toInt (fI_kept (x_lt hTH2292 kH2487 gtq (by decide))).symm)
            have m2498 := (m2310).trans (MF.i mf2493 (k := 35) (by decide) (by decide)).symm
            have m2499 := (m2311).trans (MF.r mf2493 (k := 32) (by decide) (by decide)).symm
            have m2500 := (m2312).trans (MF.r mf2493 (k := 33) (by decide) (by decide)).symm
            have m2501 := (m2297).trans (MF.r mf2493 (k := 17) (by decide) (by decide)).symm
            have m2502 := (m2314).trans (MF.i mf2493 (k := 18) (by decide) (by decide)).symm
            have m2503 := (m2315).trans (MF.i mf2493 (k := 34) (by decide) (by decide)).symm
            have m2504 := (ex2293).trans (MF.i mf2493 (k := 19) (by decide) (by decide)).symm
            have m2505 := (ex2294).trans (MF.i mf2493 (k := 20) (by decide) (by decide)).symm
            have m2506 := (ex2295).trans (MF.i mf2493 (k := 21) (by decide) (by decide)).symm
            have m2507 := (ex2296).trans (MF.i mf2493 (k := 22) (by decide) (by decide)).symm
            have mf2508 : MF K s.heap H2487 a0 [19, 20, 21, 22, 35, 39, 40] := MF.trans mf2316 mf2493 (by decide)
            refine W.eq (g2 := F0 m 56 ls2290 [.int x2488]) rfl ?_
            have ub_ := hcu10.2.2.2
            have k47_ : kK bt tp.toNatClampNeg cj = 47 := (TV.sg (c := 47) hcu10.2.2.1 (by decide)).mp ⟨by omega, by omega⟩
            exact x_iret C hQ dX10_readProduct_56 hSH2487 (by decide) (by decide) (⟨x2488, x2293, x2294, x2295, x2296, x2244, rfl, by omega, m2504, m2505, m2506, m2507, m2498, by omega, m2499, m2500, m2501, g2489, g2490, g2491, g2492, mf2508, b2494, Or.inl (by omega), Or.inl ⟨hsp10.trans (tb_d0 (by omega) k47_ (Or.inl (fun e => by have z_ := (TV.nm cu2317.2.2.1).mpr e; omega))), by omega⟩, Or.inl (by omega), hTH2487⟩)
      · have k2268 := i_eq c2267
        refine lv_aload_n hx hb dX10_readProduct_19 rfl (lv_at hl2239 0 rfl) ?_
        refine lv_bipush (v := 47) hx hb dX10_readProduct_20 (by decide) ?_
        refine x_V (As := [.int 47]) (rest := []) C (a_X10_isSign_e l K G H2246 (47) (x2242) (x2243) hTH2246 ga0 m2259 m2260) yo_X10_isSign wM_X10_249 ⟨⟨by decide, by decide⟩, by decide, by decide⟩ (x_rv C hTH2246 (ci := 10) rfl ga0 rg_112) rfl hl2239.1 rfl (Nat.le_of_ble_eq_true rfl) dX10_readProduct_22 hSH2246 (AE_sub (fun _ _ => rfl) (by decide) hSH2246.1) (fun vH2509 H2509 locsH2509 pH2509 zH2509 kH2509 hSH2509 => ?_)
        obtain ⟨x2510, hvH2509, bx2510, hrH2509, hTH2509⟩ := pH2509
        subst hvH2509
        have mf2511 : MF K s.heap H2509 a0 [19, 20, 21, 22, 35, 39, 40] := MF.eff (x_lt hTH2246 kH2509 ga0 (by decide)) mf2248
        have b2512 : ∀ j : Nat, j < 3000 + mn.toNatClampNeg → fI H2509 oq j = fI s.heap oq j ∧ fI H2509 aq j = fI s.heap aq j := fun j hj => ⟨(fI_kept (x_lt hTH2246 kH2509 goq (by decide))).trans (b2249 j hj).1, (fI_kept (x_lt hTH2246 kH2509 gaq (by decide))).trans (b2249 j hj).2⟩
        have b2513 : WF (fun k => fI H2509 oq k) (fun k => fI H2509 aq k) (3000 + mn.toNatClampNeg) (3000 + x2244.toNatClampNeg) 0 1 := WF.congr (fun j => fI_kept (x_lt hTH2246 kH2509 goq (by decide))) (fun j => fI_kept (x_lt hTH2246 kH2509 gaq (by decide))) b2250
        have b2514 : RZ (1 - jb.toInt) (fun k => fI H2509 oq k) (fun k => fI H2509 aq k) (3000 + mn.toNatClampNeg) (3000 + x2244.toNatClampNeg) ([a_]) := RZ.congr (fun j => fI_kept (x_lt hTH2246 kH2509 goq (by decide))) (fun j => fI_kept (x_lt hTH2246 kH2509 gaq (by decide))) b2251
        have g2515 : CG (avw K H2509 a0) := CG.congr (fun k hk j => av_eff hTH2246 kH2509 ga0 (by decide) (CG_eff [] (by decide) k hk)) g2252
        have g2516 : TU (avw K H2509 a0) (svw K H2509 a0) := TU.congr (fun k hk j => av_eff hTH2246 kH2509 ga0 (by decide) (TU_eff [] (by decide) k hk)) (fun k hk => sv_eff hTH2246 kH2509 ga0 (by decide)) g2253
        have g2517 : WD (avw K H2509 a0) := WD.congr (fun k hk j => av_eff hTH2246 kH2509 ga0 (by decide) (WD_eff [] (by decide) k hk)) g2254
        have g2518 : IM (avw K H2509 a0) := IM.congr (fun k hk j => av_eff hTH2246 kH2509 ga0 (by decide) (IM_eff [] (by decide) k hk)) g2255
        have f2519 : ∀ j : Nat, bt j = (fI H2509 tq j).toInt := fun j => (f2256 j).trans (congrArg Int32.toInt (fI_kept (x_lt hTH2246 kH2509 gtq (by decide))).symm)
        have m2520 := (m2257).trans (fI_kept (x_lt hTH2246 kH2509 ga0 (by decide))).symm
        have m2521 := (m2258).trans (fI_kept (x_lt hTH2246 kH2509 ga0 (by decide))).symm
        have m2522 := (m2259).trans (fI_kept (x_lt hTH2246 kH2509 ga0 (by decide))).symm
        have m2523 := (m2260).trans (fI_kept (x_lt hTH2246 kH2509 ga0 (by decide))).symm
        have m2524 := (m2261).trans (fI_kept (x_lt hTH2246 kH2509 ga0 (by decide))).symm
        have m2525 := (m2262).trans (fR_kept (x_lt hTH2246 kH2509 ga0 (by decide))).symm
        have m2526 := (m2263).trans (fR_kept (x_lt hTH2246 kH2509 ga0 (by decide))).symm
        have m2527 := (m2264).trans (fR_kept (x_lt hTH2246 kH2509 ga0 (by decide))).symm
        have m2528 := (m2265).trans (fI_kept (x_lt hTH2246 kH2509 ga0 (by decide))).symm
        have m2529 := (m2266).trans (fI_kept (x_lt hTH2246 kH2509 ga0 (by decide))).symm
        refine W.eq (g2 := F0 m 25 ls2238 [.int x2510]) rfl ?_
        refine lv_if_eq (tgt := 101) hx hb dX10_readProduct_25 (by decide) (fun c2530 => ?_) (fun c2530 => ?_)
        · have k2531 := i_eq c2530
          refine lv_iconst (v := 0) hx hb dX10_readProduct_101 (by decide) ?_
          have cr_mn := i_cl (x := mn) (by omega)
          have cr_x2244 := i_cl (x := x2244) (by omega)
          have ub_ := hcu10.2.2.2
          have k42_ : kK bt tp.toNatClampNeg cj ≠ 42 := fun e => by have z_ := (TV.sg (c := 42) hcu10.2.2.1 (by decide)).mpr e; omega
          have k47_ : kK bt tp.toNatClampNeg cj ≠ 47 := fun e => by have z_ := (TV.sg (c := 47) hcu10.2.2.1 (by decide)).mpr e; omega
          have cq_mn := i_cl (x := mn) (by omega)
          have cq_x2244 := i_cl (x := x2244) (by omega)
          have k42_ : kK bt tp.toNatClampNeg cj ≠ 42 := fun e => by have z_ := (TV.sg (c := 42) hcu10.2.2.1 (by decide)).mpr e; omega
          have k47_ : kK bt tp.toNatClampNeg cj ≠ 47 := fun e => by have z_ := (TV.sg (c := 47) hcu10.2.2.1 (by decide)).mpr e; omega
          exact x_iret C hQ dX10_readProduct_102 hSH2509 (by decide) (by decide) (⟨0, x2240, x2241, x2242, x2243, x2244, rfl, by decide, m2520, m2521, m2522, m2523, m2524, by omega, m2525, m2526, m2527, g2515, g2516, g2517, g2518, mf2511, b2512, Or.inr (WF.cast b2513 (by omega) (by omega)), Or.inr ⟨cj, hsp10.trans (tb_end ⟨k42_, k47_⟩), by omega, hcu10⟩, Or.inr (RZ.cast b2514 (by omega) (by omega) (congrArg (fun z => [z]) (hsf10.trans (tbF_end ⟨k42_, k47_⟩)))), hTH2509⟩)
        · have k2531 := i_ne c2530
          refine lv_aload_n hx hb dX10_readProduct_28 rfl (lv_at hl2239 0 rfl) ?_
          refine lv_bipush (v := 42) hx hb dX10_readProduct_29 (by decide) ?_
          refine x_V (As := [.int 42]) (rest := []) C (a_X10_isSign_e l K G H2509 (42) (x2242) (x2243) hTH2509 ga0 m2522 m2523) yo_X10_isSign wM_X10_249 ⟨⟨by decide, by decide⟩, by decide, by decide⟩ (x_rv C hTH2509 (ci := 10) rfl ga0 rg_112) rfl hl2239.1 rfl (Nat.le_of_ble_eq_true rfl) dX10_readProduct_31 hSH2509 (AE_sub (fun _ _ => rfl) (by decide) hSH2509.1) (fun vH2532 H2532 locsH2532 pH2532 zH2532 kH2532 hSH2532 => ?_)
          obtain ⟨x2533, hvH2532, bx2533, hrH2532, hTH2532⟩ := pH2532
          subst hvH2532
          clear f2256 m2257 m2258 m2259 m2260 m2261 m2262 m2263 m2264 m2265 m2266
          have mf2534 : MF K s.heap H2532 a0 [19, 20, 21, 22, 35, 39, 40] := MF.eff (x_lt hTH2509 kH2532 ga0 (by decide)) mf2511
          have b2535 : ∀ j : Nat, j < 3000 + mn.toNatClampNeg → fI H2532 oq j = fI s.heap oq j ∧ fI H2532 aq j = fI s.heap aq j := fun j hj => ⟨(fI_kept (x_lt hTH2509 kH2532 goq (by decide))).trans (b2512 j hj).1, (fI_kept (x_lt hTH2509 kH2532 gaq (by decide))).trans (b2512 j hj).2⟩
          have b2536 : WF (fun k => fI H2532 oq k) (fun k => fI H2532 aq k) (3000 + mn.toNatClampNeg) (3000 + x2244.toNatClampNeg) 0 1 := WF.congr (fun j => fI_kept (x_lt hTH2509 kH2532 goq (by decide))) (fun j => fI_kept (x_lt hTH2509 kH2532 gaq (by decide))) b2513
          have b2537 : RZ (1 - jb.toInt) (fun k => fI H2532 oq k) (fun k => fI H2532 aq k) (3000 + mn.toNatClampNeg) (3000 + x2244.toNatClampNeg) ([a_]) := RZ.congr (fun j => fI_kept (x_lt hTH2509 kH2532 goq (by decide))) (fun j => fI_kept (x_lt hTH2509 kH2532 gaq (by decide))) b2514
          have g2538 : CG (avw K H2532 a0) := CG.congr (fun k hk j => av_eff hTH2509 kH2532 ga0 (by decide) (CG_eff [] (by decide) k hk)) g2515
          have g2539 : TU (avw K H2532 a0) (svw K H2532 a0) := TU.congr (fun k hk j => av_eff hTH2509 kH2532 ga0 (by decide) (TU_eff [] (by decide) k hk)) (fun k hk => sv_eff hTH2509 kH2532 ga0 (by decide)) g2516
          have g2540 : WD (avw K H2532 a0) := WD.congr (fun k hk j => av_eff hTH2509 kH2532 ga0 (by decide) (WD_eff [] (by decide) k hk)) g2517
          have g2541 : IM (avw K H2532 a0) := IM.congr (fun k hk j => av_eff hTH2509 kH2532 ga0 (by decide) (IM_eff [] (by decide) k hk)) g2518
          have f2542 : ∀ j : Nat, bt j = (fI H2532 tq j).toInt := fun j => (f2519 j).trans (congrArg Int32.toInt (fI_kept (x_lt hTH2509 kH2532 gtq (by decide))).symm)
          have m2543 := (m2520).trans (fI_kept (x_lt hTH2509 kH2532 ga0 (by decide))).symm
          have m2544 := (m2521).trans (fI_kept (x_lt hTH2509 kH2532 ga0 (by decide))).symm
          have m2545 := (m2522).trans (fI_kept (x_lt hTH2509 kH2532 ga0 (by decide))).symm
          have m2546 := (m2523).trans (fI_kept (x_lt hTH2509 kH2532 ga0 (by decide))).symm
          have m2547 := (m2524).trans (fI_kept (x_lt hTH2509 kH2532 ga0 (by decide))).symm
          have m2548 := (m2525).trans (fR_kept (x_lt hTH2509 kH2532 ga0 (by decide))).symm
          have m2549 := (m2526).trans (fR_kept (x_lt hTH2509 kH2532 ga0 (by decide))).symm
          have m2550 := (m2527).trans (fR_kept (x_lt hTH2509 kH2532 ga0 (by decide))).symm
          have m2551 := (m2528).trans (fI_kept (x_lt hTH2509 kH2532 ga0 (by decide))).symm
          have m2552 := (m2529).trans (fI_kept (x_lt hTH2509 kH2532 ga0 (by decide))).symm
          refine W.eq (g2 := F0 m 34 ls2238 [.int x2533]) rfl ?_
          refine lv_istore_n (lv' := [(1, .int x2533), (0, .ref a0)]) hx hb dX10_readProduct_34 rfl hl2239 (by decide) rfl (fun ls2553 hl2554 => ?_)
          refine lv_aload_n hx hb dX10_readProduct_35 rfl (lv_at hl2554 1 rfl) ?_
          refine x_V (As := []) (rest := []) C (a_X10_reads_e l K G H2532 (x2240) (x2241) (x2242) (x2243) (tp) bt hTH2532 ga0 gtq m2550 m2543 m2544 m2545 m2546 m2551 g2538 g2539 g2540 g2541 (by omega) (hy1) f2542) yo_X10_reads wM_X10_242 ⟨⟨by decide, by decide⟩, by decide, by decide⟩ (x_rv C hTH2532 (ci := 10) rfl ga0 rg_112) rfl hl2554.1 rfl (Nat.le_of_ble_eq_true rfl) dX10_readProduct_36 hSH2532 (AE_sub (fun _ _ => rfl) (by decide) hSH2532.1) (fun vH2555 H2555 locsH2555 pH2555 zH2555 kH2555 hSH2555 => ?_)
          obtain ⟨x2556, x2557, x2558, x2559, hvH2555, ex2556, ex2557, ex2558, ex2559, hrH2555, m2560, g2561, g2562, g2563, g2564, mf2565, m2566, m2567, m2568, hTH2555⟩ := pH2555
          subst hvH2555
          clear f2519 m2520 m2521 m2522 m2523 m2524 m2525 m2526 m2527 m2528 m2529
          have b2569 : ∀ j : Nat, j < 3000 + mn.toNatClampNeg → fI H2555 oq j = fI s.heap oq j ∧ fI H2555 aq j = fI s.heap aq j := fun j hj => ⟨(fI_kept (x_lt hTH2532 kH2555 goq (by decide))).trans (b2535 j hj).1, (fI_kept (x_lt hTH2532 kH2555 gaq (by decide))).trans (b2535 j hj).2⟩
          have b2570 : WF (fun k => fI H2555 oq k) (fun k => fI H2555 aq k) (3000 + mn.toNatClampNeg) (3000 + x2244.toNatClampNeg) 0 1 := WF.congr (fun j => fI_kept (x_lt hTH2532 kH2555 goq (by decide))) (fun j => fI_kept (x_lt hTH2532 kH2555 gaq (by decide))) b2536
          have b2571 : RZ (1 - jb.toInt) (fun k => fI H2555 oq k) (fun k => fI H2555 aq k) (3000 + mn.toNatClampNeg) (3000 + x2244.toNatClampNeg) ([a_]) := RZ.congr (fun j => fI_kept (x_lt hTH2532 kH2555 goq (by decide))) (fun j => fI_kept (x_lt hTH2532 kH2555 gaq (by decide))) b2537
          have f2572 : ∀ j : Nat, bt j = (fI H2555 tq j).toInt := fun j => (f2542 j).trans (congrArg Int32.toInt (fI_kept (x_lt hTH2532 kH2555 gtq (by decide))).symm)
          have m2573 := (m2547).trans (MF.i mf2565 (k := 35) (by decide) (by decide)).symm
          have m2574 := (m2548).trans (MF.r mf2565 (k := 32) (by decide) (by decide)).symm
          have m2575 := (m2549).trans (MF.r mf2565 (k := 33) (by decide) (by decide)).symm
          have m2576 := (m2550).trans (MF.r mf2565 (k := 17) (by decide) (by decide)).symm
          have m2577 := (m2551).trans (MF.i mf2565 (k := 18) (by decide) (by decide)).symm
          have m2578 := (m2552).trans (MF.i mf2565 (k := 34) (by decide) (by decide)).symm
          have mf2579 : MF K s.heap H2555 a0 [19, 20, 21, 22, 35, 39, 40] := MF.trans mf2534 mf2565 (by decide)
          have bx2556 := ty_fi (x := x2556) (k := 19) ex2556 hTH2555 ga0 rg_112 rfl
          have bx2557 := ty_fi (x := x2557) (k := 20) ex2557 hTH2555 ga0 rg_112 rfl
          have bx2558 := ty_fi (x := x2558) (k := 21) ex2558 hTH2555 ga0 rg_112 rfl
          have bx2559 := ty_fi (x := x2559) (k := 22) ex2559 hTH2555 ga0 rg_112 rfl
          have cn_x2557 := i_cl (x := x2557) bx2557.1
          have cu2580 : CU bt tp.toNatClampNeg (cj + 1) x2557 x2556 x2558 x2559 := CU.next hcu10 m2566 m2567 m2568 (by omega)
          refine W.eq (g2 := F0 m 39 ls2553 []) rfl ?_
          refine lv_iload_n hx hb dX10_readProduct_39 rfl (lv_at hl2554 0 rfl) ?_
          refine lv_if_ne (tgt := 57) hx hb dX10_readProduct_40 (by decide) (fun c2581 => ?_) (fun c2581 => ?_)
          · have k2582 := i_ne c2581
            refine lv_iload_n hx hb dX10_readProduct_57 rfl (lv_at hl2554 0 rfl) ?_
            refine lv_if_ne (tgt := 74) hx hb dX10_readProduct_58 (by decide) (fun c2583 => ?_) (fun c2583 => ?_)
            · have k2584 := i_ne c2583
              refine lv_aload_n hx hb dX10_readProduct_74 rfl (lv_at hl2554 1 rfl) ?_
              refine x_V (As := []) (rest := []) C (a_X10_readUnit_g l K G H2555 (x2556) (x2557) (x2558) (x2559) (x2244) (tp) (jb) ((cj + 1)) bt hTH2555 ga0 goq m2574 gaq m2575 gtq m2560 ex2556 ex2557 ex2558 ex2559 m2573 m2577 m2578 g2561 g2562 g2563 g2564 (by omega) (by omega) (cu2580) (hy1) f2572) yo_X10_readUnit wM_X10_245 ⟨⟨by decide, by decide⟩, by decide, by decide⟩ (x_rv C hTH2555 (ci := 10) rfl ga0 rg_112) rfl hl2554.1 rfl (Nat.le_of_ble_eq_true rfl) dX10_readProduct_75 hSH2555 (AE_sub (fun _ _ => rfl) (by decide) hSH2555.1) (fun vH2585 H2585 locsH2585 pH2585 zH2585 kH2585 hSH2585 => ?_)
              obtain ⟨x2586, x2587, x2588, x2589, x2590, x2591, hvH2585, bx2586, ex2587, ex2588, ex2589, ex2590, ex2591, hrH2585, m2592, m2593, m2594, g2595, g2596, g2597, g2598, mf2599, m2600, m2601, m2602, m2603, m2604, hTH2585⟩ := pH2585
              subst hvH2585
              clear f2542 m2543 m2544 m2545 m2546 m2547 m2548 m2549 m2550 m2551 m2552
              have f2605 : ∀ j : Nat, bt j = (fI H2585 tq j).toInt := fun j => (f2572 j).trans (congrArg Int32.toInt (fI_kept (x_lt hTH2555 kH2585 gtq (by decide))).symm)
              have m2606 := (m2574).trans (MF.r mf2599 (k := 32) (by decide) (by decide)).symm
              have m2607 := (m2575).trans (MF.r mf2599 (k := 33) (by decide) (by decide)).symm
              have m2608 := (m2560).trans (MF.r mf2599 (k := 17) (by decide) (by decide)).symm
              have m2609 := (m2577).trans (MF.i mf2599 (k := 18) (by decide) (by decide)).symm
              have m2610 := (m2578).trans (MF.i mf2599 (k := 34) (by decide) (by decide)).symm
              have mf2611 : MF K s.heap H2585 a0 [19, 20, 21, 22, 35, 39, 40] := MF.trans mf2579 mf2599 (by decide)
              have bx2587 := ty_fi (x := x2587) (k := 19) ex2587 hTH2585 ga0 rg_112 rfl
              have bx2588 := ty_fi (x := x2588) (k := 20) ex2588 hTH2585 ga0 rg_112 rfl
              have bx2589 := ty_fi (x := x2589) (k := 21) ex2589 hTH2585 ga0 rg_112 rfl
              have bx2590 := ty_fi (x := x2590) (k := 22) ex2590 hTH2585 ga0 rg_112 rfl
              have bx2591 := ty_fi (x := x2591) (k := 35) ex2591 hTH2585 ga0 rg_112 rfl
              have csm2600 := i_cl (x := x2244) (by omega)
              have cs_mn := i_cl (x := mn) (by omega)
              have b2612 : ∀ j : Nat, j < 3000 + mn.toNatClampNeg → fI H2585 oq j = fI s.heap oq j ∧ fI H2585 aq j = fI s.heap aq j := fun j hj => ⟨(m2600 j (by omega)).1.trans (b2569 j hj).1, (m2600 j (by omega)).2.trans (b2569 j hj).2⟩
              have cs_mn := i_cl (x := mn) (by omega)
              have b2613 : WF (fun k => fI H2585 oq k) (fun k => fI H2585 aq k) (3000 + mn.toNatClampNeg) (3000 + x2244.toNatClampNeg) 0 1 := WF.keep b2570 (fun j hj => (m2600 j (by omega)).1) (fun j hj => (m2600 j (by omega)).2)
              have cs_mn := i_cl (x := mn) (by omega)
              have b2614 : RZ (1 - jb.toInt) (fun k => fI H2585 oq k) (fun k => fI H2585 aq k) (3000 + mn.toNatClampNeg) (3000 + x2244.toNatClampNeg) ([a_]) := RZ.keep b2571 (fun j hj => (m2600 j (by omega)).1) (fun j hj => (m2600 j (by omega)).2)
              refine W.eq (g2 := F0 m 78 ls2553 [.int x2586]) rfl ?_
              refine lv_iconst (v := (-1)) hx hb dX10_readProduct_78 (by decide) ?_
              refine lv_icmp_ne (tgt := 84) hx hb dX10_readProduct_79 (by decide) (fun c2615 => ?_) (fun c2615 => ?_)
              · have k2616 := i_ne c2615
                have wu0 : WF (fun k => fI H2585 oq k) (fun k => fI H2585 aq k) (3000 + x2244.toNatClampNeg) (3000 + x2591.toNatClampNeg) 0 1 := by
                  rcases m2601 with h | h
                  · exfalso; omega
                  · exact h
                have cq_mn := i_cl (x := mn) (by omega)
                have cq_x2244 := i_cl (x := x2244) (by omega)
                have cq_x2591 := i_cl (x := x2591) (by omega)
                have rs2617 : RZ (1 - jb.toInt) (fun k => fI H2585 oq k) (fun k => fI H2585 aq k) (3000 + mn.toNatClampNeg) (3000 + x2591.toNatClampNeg) ([(unF (kK bt tp.toNatClampNeg) (vV bt tp.toNatClampNeg) (cj + 1)), a_]) := RZ.catc b2614 (m2604.resolve_left (by omega)) (by omega)
                refine lv_aload_n hx hb dX10_readProduct_84 rfl (lv_at hl2554 1 rfl) ?_
                refine lv_iload_n hx hb dX10_readProduct_85 rfl (lv_at hl2554 0 rfl) ?_
                refine lv_if_eq (tgt := 93) hx hb dX10_readProduct_86 (by decide) (fun c2618 => ?_) (fun c2618 => ?_)
                · have k2619 := i_eq c2618
                  exfalso
                  omega
                · have k2619 := i_ne c2618
                  refine lv_iconst (v := 4) hx hb dX10_readProduct_89 (by decide) ?_
                  refine lv_goto (tgt := 94) hx hb dX10_readProduct_90 (by decide) ?_
                  refine lv_iconst (v := 0) hx hb dX10_readProduct_94 (by decide) ?_
                  refine x_V (As := [.int 4, .int 0]) (rest := []) C (a_X10_emits l K G H2585 (4) (0) (x2591) hTH2585 ga0 goq m2592 gaq m2593 ex2591 g2595 g2596 g2597 g2598 (by omega)) yo_X10_emits wM_X10_238 ⟨⟨by decide, by decide⟩, by decide, by decide⟩ (x_rv C hTH2585 (ci := 10) rfl ga0 rg_112) rfl hl2554.1 rfl (Nat.le_of_ble_eq_true rfl) dX10_readProduct_95 hSH2585 (AE_sub (fun _ _ => rfl) (by decide) hSH2585.1) (fun vH2620 H2620 locsH2620 pH2620 zH2620 kH2620 hSH2620 => ?_)
                  obtain ⟨x2621, hvH2620, ex2621, hrH2620, m2622, m2623, g2624, g2625, g2626, g2627, mf2628, m2629, m2630, m2631, m2632, hTH2620⟩ := pH2620
                  subst hvH2620
                  clear f2572 m2560 m2573 m2574 m2575 m2577 m2578
                  have f2633 : ∀ j : Nat, bt j = (fI H2620 tq j).toInt := fun j => (f2605 j).trans (congrArg Int32.toInt (fI_kept (x_lt hTH2585 kH2620 gtq (by decide))).symm)
                  have m2634 := (m2592).trans (MF.r mf2628 (k := 32) (by decide) (by decide)).symm
                  have m2635 := (m2593).trans (MF.r mf2628 (k := 33) (by decide) (by decide)).symm
                  have m2636 := (m2594).trans (MF.r mf2628 (k := 17) (by decide) (by decide)).symm
                  have m2637 := (m2609).trans (MF.i mf2628 (k := 18) (by decide) (by decide)).symm
                  have m2638 := (m2610).trans (MF.i mf2628 (k := 34) (by decide) (by decide)).symm
                  have m2639 := (ex2587).trans (MF.i mf2628 (k := 19) (by decide) (by decide)).symm
                  have m2640 := (ex2588).trans (MF.i mf2628 (k := 20) (by decide) (by decide)).symm
                  have m2641 := (ex2589).trans (MF.i mf2628 (k := 21) (by decide) (by decide)).symm
                  have m2642 := (ex2590).trans (MF.i mf2628 (k := 22) (by decide) (by decide)).symm
                  have mf2643 : MF K s.heap H2620 a0 [19, 20, 21, 22, 35, 39, 40] := MF.trans mf2611 mf2628 (by decide)
                  have bx2621 := ty_fi (x := x2621) (k := 35) ex2621 hTH2620 ga0 rg_112 rfl
                  have cem2632 := i_cl (x := x2591) (by omega)
                  have ce_mn := i_cl (x := mn) (by omega)
                  have b2644 : ∀ j : Nat, j < 3000 + mn.toNatClampNeg → fI H2620 oq j = fI s.heap oq j ∧ fI H2620 aq j = fI s.heap aq j := fun j hj => ⟨(m2631 j (by omega)).trans (b2612 j hj).1, (m2632 j (by omega)).trans (b2612 j hj).2⟩
                  have ce_mn := i_cl (x := mn) (by omega)
                  have ce_x2244 := i_cl (x := x2244) (by omega)
                  have b2645 : WF (fun k => fI H2620 oq k) (fun k => fI H2620 aq k) (3000 + mn.toNatClampNeg) (3000 + x2244.toNatClampNeg) 0 1 := WF.keep b2613 (fun j hj => m2631 j (by omega)) (fun j hj => m2632 j (by omega))
                  have ce_mn := i_cl (x := mn) (by omega)
                  have ce_tp := i_cl (x := tp) (by omega)
                  have b2646 : RZ (1 - jb.toInt) (fun k => fI H2620 oq k) (fun k => fI H2620 aq k) (3000 + mn.toNatClampNeg) (3000 + x2591.toNatClampNeg) ([(unF (kK bt tp.toNatClampNeg) (vV bt tp.toNatClampNeg) (cj + 1)), a_]) := RZ.keep rs2617 (fun j hj => m2631 j (by omega)) (fun j hj => m2632 j (by omega))
                  have ce_x2244 := i_cl (x := x2244) (by omega)
                  have b2647 : WF (fun k => fI H2620 oq k) (fun k => fI H2620 aq k) (3000 + x2244.toNatClampNeg) (3000 + x2591.toNatClampNeg) 0 1 := WF.keep wu0 (fun j hj => m2631 j (by omega)) (fun j hj => m2632 j (by omega))
                  refine W.eq (g2 := F0 m 98 ls2553 []) rfl ?_
                  have ho := congrArg Int32.toInt m2629
                  have cb_mn := i_cl (x := mn) (by omega)
                  have cb_x2244 := i_cl (x := x2244) (by omega)
                  have cb_x2591 := i_cl (x := x2591) (by omega)
                  have wn : WF (fun k => fI H2620 oq k) (fun k => fI H2620 aq k) (3000 + mn.toNatClampNeg) (3000 + x2591.toNatClampNeg + 1) 0 1 := WF.bin b2645 b2647 (by omega) (by omega) (by show 2 ≤ (fI _ oq _).toInt ∧ (fI _ oq _).toInt ≤ 11 ∧ (fI _ oq _).toInt ≠ 9; omega) (Or.inl (by show (fI _ oq _).toInt ≠ 5; omega))
                  have cq_mn := i_cl (x := mn) (by omega)
                  have cq_x2591 := i_cl (x := x2591) (by omega)
                  have rs2648 : RZ (1 - jb.toInt) (fun k => fI H2620 oq k) (fun k => fI H2620 aq k) (3000 + mn.toNatClampNeg) (3000 + x2591.toNatClampNeg + 1) ([cbF 42 a_ (unF (kK bt tp.toNatClampNeg) (vV bt tp.toNatClampNeg) (cj + 1))]) := RZ.binc (s := 42) b2646 (by omega) (by show (fI _ oq _).toInt = _; rw [← m2629]; rfl) (Or.inl rfl)
                  refine lv_goto (tgt := 10) hx hb dX10_readProduct_98 (by decide) ?_
                  have cl_mn := i_cl (x := mn) (by omega)
                  have cl_mn := i_cl (x := mn) (by omega)
                  have cl_x2591 := i_cl (x := x2591) (by omega)
                  have cl_x2621 := i_cl (x := x2621) (by omega)
                  have cl_mn := i_cl (x := mn) (by omega)
                  have cl_tp := i_cl (x := tp) (by omega)
                  have cl_x2591 := i_cl (x := x2591) (by omega)
                  have cl_x2621 := i_cl (x := x2621) (by omega)
                  obtain ⟨cj2649, ho2651, cu2650⟩ := RC.yes m2603 (by omega)
                  have ub_ := hcu10.2.2.2
                  have k42_ : kK bt tp.toNatClampNeg cj = 42 := (TV.sg (c := 42) hcu10.2.2.1 (by decide)).mp ⟨by omega, by omega⟩
                  exact ih10 cj2649 (cbF 42 a_ (unF (kK bt tp.toNatClampNeg) (vV bt tp.toNatClampNeg) (cj + 1))) ls2553 H2620 locsH2620 (x2587) (x2588) (x2589) (x2590) (x2621) (lv_sub hl2554 [1] rfl) hTH2620 hSH2620 bx2587 bx2588 bx2621 m2639 m2640 m2641 m2642 ex2621 m2622 m2623 m2636 m2637 m2638 b2644 (WF.cast wn (by omega) (by omega)) (RZ.cast rs2648 (by omega) (by omega) rfl) mf2643 g2624 g2625 g2626 g2627 f2633 (by omega) (by omega) cu2650 (hsp10.trans (tb_t1 (by omega) k42_ ho2651)) (hsf10.trans (tbF_go (by omega) k42_ (Or.inl rfl) ho2651))
              · have k2616 := i_eq c2615
                refine lv_iconst (v := (-1)) hx hb dX10_readProduct_82 (by decide) ?_
                have ub_ := hcu10.2.2.2
                have k42_ : kK bt tp.toNatClampNeg cj = 42 := (TV.sg (c := 42) hcu10.2.2.1 (by decide)).mp ⟨by omega, by omega⟩
                exact x_iret C hQ dX10_readProduct_83 hSH2585 (by decide) (by decide) (⟨(-1), x2587, x2588, x2589, x2590, x2591, rfl, by decide, ex2587, ex2588, ex2589, ex2590, ex2591, by omega, m2592, m2593, m2594, g2595, g2596, g2597, g2598, mf2611, b2612, Or.inl (by omega), Or.inl ⟨hsp10.trans (tb_t0 (by omega) k42_ (RC.no m2603 (by omega))), by omega⟩, Or.inl (by omega), hTH2585⟩)
            · have k2584 := i_eq c2583
              exfalso
              omega
          · have k2582 := i_eq c2581
            refine lv_aload_n hx hb dX10_readProduct_43 rfl (lv_at hl2554 1 rfl) ?_
            refine x_gi C hTH2555 (ci := 10) (k := 21) rfl inX10 (by decide) wF_X10_202 ga0 rg_112 rfl dX10_readProduct_44 (fun x2652 ex2652 bx2652 => ?_)
            have ux2652 : x2558 = x2652 := (ex2558).trans ex2652.symm
            subst ux2652
            refine lv_iconst (v := 3) hx hb dX10_readProduct_47 (by decide) ?_
            refine lv_icmp_eq (tgt := 57) hx hb dX10_readProduct_48 (by decide) (fun c2653 => ?_) (fun c2653 => ?_)
            · have k2654 := i_eq c2653
              refine lv_iload_n hx hb dX10_readProduct_57 rfl (lv_at hl2554 0 rfl) ?_
              refine lv_if_ne (tgt := 74) hx hb dX10_readProduct_58 (by decide) (fun c2655 => ?_) (fun c2655 => ?_)
              · have k2656 := i_ne c2655
                exfalso
                omega
              · have k2656 := i_eq c2655
                refine lv_aload_n hx hb dX10_readProduct_61 rfl (lv_at hl2554 1 rfl) ?_
                refine x_gi C hTH2555 (ci := 10) (k := 22) rfl inX10 (by decide) wF_X10_205 ga0 rg_112 rfl dX10_readProduct_62 (fun x2657 ex2657 bx2657 => ?_)
                have ux2657 : x2559 = x2657 := (ex2559).trans ex2657.symm
                subst ux2657
                refine lv_if_ne (tgt := 74) hx hb dX10_readProduct_65 (by decide) (fun c2658 => ?_) (fun c2658 => ?_)
                · have k2659 := i_ne c2658
                  refine lv_aload_n hx hb dX10_readProduct_74 rfl (lv_at hl2554 1 rfl) ?_
                  refine x_V (As := []) (rest := []) C (a_X10_readUnit_g l K G H2555 (x2556) (x2557) (x2558) (x2559) (x2244) (tp) (jb) ((cj + 1)) bt hTH2555 ga0 goq m2574 gaq m2575 gtq m2560 ex2556 ex2557 ex2558 ex2559 m2573 m2577 m2578 g2561 g2562 g2563 g2564 (by omega) (by omega) (cu2580) (hy1) f2572) yo_X10_readUnit wM_X10_245 ⟨⟨by decide, by decide⟩, by decide, by decide⟩ (x_rv C hTH2555 (ci := 10) rfl ga0 rg_112) rfl hl2554.1 rfl (Nat.le_of_ble_eq_true rfl) dX10_readProduct_75 hSH2555 (AE_sub (fun _ _ => rfl) (by decide) hSH2555.1) (fun vH2660 H2660 locsH2660 pH2660 zH2660 kH2660 hSH2660 => ?_)
                  obtain ⟨x2661, x2662, x2663, x2664, x2665, x2666, hvH2660, bx2661, ex2662, ex2663, ex2664, ex2665, ex2666, hrH2660, m2667, m2668, m2669, g2670, g2671, g2672, g2673, mf2674, m2675, m2676, m2677, m2678, m2679, hTH2660⟩ := pH2660
                  subst hvH2660
                  clear f2542 m2543 m2544 m2545 m2546 m2547 m2548 m2549 m2550 m2551 m2552
                  have f2680 : ∀ j : Nat, bt j = (fI H2660 tq j).toInt := fun j => (f2572 j).trans (congrArg Int32.toInt (fI_kept (x_lt hTH2555 kH2660 gtq (by decide))).symm)
                  have m2681 := (m2574).trans (MF.r mf2674 (k := 32) (by decide) (by decide)).symm
                  have m2682 := (m2575).trans (MF.r mf2674 (k := 33) (by decide) (by decide)).symm
                  have m2683 := (m2560).trans (MF.r mf2674 (k := 17) (by decide) (by decide)).symm
                  have m2684 := (m2577).trans (MF.i mf2674 (k := 18) (by decide) (by decide)).symm
                  have m2685 := (m2578).trans (MF.i mf2674 (k := 34) (by decide) (by decide)).symm
                  have mf2686 : MF K s.heap H2660 a0 [19, 20, 21, 22, 35, 39, 40] := MF.trans mf2579 mf2674 (by decide)
                  have bx2662 := ty_fi (x := x2662) (k := 19) ex2662 hTH2660 ga0 rg_112 rfl
                  have bx2663 := ty_fi (x := x2663) (k := 20) ex2663 hTH2660 ga0 rg_112 rfl
                  have bx2664 := ty_fi (x := x2664) (k := 21) ex2664 hTH2660 ga0 rg_112 rfl
                  have bx2665 := ty_fi (x := x2665) (k := 22) ex2665 hTH2660 ga0 rg_112 rfl
                  have bx2666 := ty_fi (x := x2666) (k := 35) ex2666 hTH2660 ga0 rg_112 rfl
                  have csm2675 := i_cl (x := x2244) (by omega)
                  have cs_mn := i_cl (x := mn) (by omega)
                  have b2687 : ∀ j : Nat, j < 3000 + mn.toNatClampNeg → fI H2660 oq j = fI s.heap oq j ∧ fI H2660 aq j = fI s.heap aq j := fun j hj => ⟨(m2675 j (by omega)).1.trans (b2569 j hj).1, (m2675 j (by omega)).2.trans (b2569 j hj).2⟩
                  have cs_mn := i_cl (x := mn) (by omega)
                  have b2688 : WF (fun k => fI H2660 oq k) (fun k => fI H2660 aq k) (3000 + mn.toNatClampNeg) (3000 + x2244.toNatClampNeg) 0 1 := WF.keep b2570 (fun j hj => (m2675 j (by omega)).1) (fun j hj => (m2675 j (by omega)).2)
                  have cs_mn := i_cl (x := mn) (by omega)
                  have b2689 : RZ (1 - jb.toInt) (fun k => fI H2660 oq k) (fun k => fI H2660 aq k) (3000 + mn.toNatClampNeg) (3000 + x2244.toNatClampNeg) ([a_]) := RZ.keep b2571 (fun j hj => (m2675 j (by omega)).1) (fun j hj => (m2675 j (by omega)).2)
                  refine W.eq (g2 := F0 m 78 ls2553 [.int x2661]) rfl ?_
                  refine lv_iconst (v := (-1)) hx hb dX10_readProduct_78 (by decide) ?_
                  refine lv_icmp_ne (tgt := 84) hx hb dX10_readProduct_79 (by decide) (fun c2690 => ?_) (fun c2690 => ?_)
                  · have k2691 := i_ne c2690
                    have wu0 : WF (fun k => fI H2660 oq k) (fun k => fI H2660 aq k) (3000 + x2244.toNatClampNeg) (3000 + x2666.toNatClampNeg) 0 1 := by
                      rcases m2676 with h | h
                      · exfalso; omega
                      · exact h
                    have ev0 : (fI H2660 oq (3000 + x2244.toNatClampNeg)).toInt = 0 ∧ (fI H2660 aq (3000 + x2244.toNatClampNeg)).toInt = x2559.toInt := by
                      rcases m2677 with h | h | h
                      · exfalso; omega
                      · exfalso; omega
                      · exact h
                    have cq_mn := i_cl (x := mn) (by omega)
                    have cq_x2244 := i_cl (x := x2244) (by omega)
                    have cq_x2666 := i_cl (x := x2666) (by omega)
                    have rs2692 : RZ (1 - jb.toInt) (fun k => fI H2660 oq k) (fun k => fI H2660 aq k) (3000 + mn.toNatClampNeg) (3000 + x2666.toNatClampNeg) ([(unF (kK bt tp.toNatClampNeg) (vV bt tp.toNatClampNeg) (cj + 1)), a_]) := RZ.catc b2689 (m2679.resolve_left (by omega)) (by omega)
                    refine lv_aload_n hx hb dX10_readProduct_84 rfl (lv_at hl2554 1 rfl) ?_
                    refine lv_iload_n hx hb dX10_readProduct_85 rfl (lv_at hl2554 0 rfl) ?_
                    refine lv_if_eq (tgt := 93) hx hb dX10_readProduct_86 (by decide) (fun c2693 => ?_) (fun c2693 => ?_)
                    · have k2694 := i_eq c2693
                      refine lv_iconst (v := 5) hx hb dX10_readProduct_93 (by decide) ?_
                      refine lv_iconst (v := 0) hx hb dX10_readProduct_94 (by decide) ?_
                      refine x_V (As := [.int 5, .int 0]) (rest := []) C (a_X10_emits l K G H2660 (5) (0) (x2666) hTH2660 ga0 goq m2667 gaq m2668 ex2666 g2670 g2671 g2672 g2673 (by omega)) yo_X10_emits wM_X10_238 ⟨⟨by decide, by decide⟩, by decide, by decide⟩ (x_rv C hTH2660 (ci := 10) rfl ga0 rg_112) rfl hl2554.1 rfl (Nat.le_of_ble_eq_true rfl) dX10_readProduct_95 hSH2660 (AE_sub (fun _ _ => rfl) (by decide) hSH2660.1) (fun vH2695 H2695 locsH2695 pH2695 zH2695 kH2695 hSH2695 => ?_)
                      obtain ⟨x2696, hvH2695, ex2696, hrH2695, m2697, m2698, g2699, g2700, g2701, g2702, mf2703, m2704, m2705, m2706, m2707, hTH2695⟩ := pH2695
                      subst hvH2695
                      clear f2572 m2560 m2573 m2574 m2575 m2577 m2578
                      have f2708 : ∀ j : Nat, bt j = (fI H2695 tq j).toInt := fun j => (f2680 j).trans (congrArg Int32.toInt (fI_kept (x_lt hTH2660 kH2695 gtq (by decide))).symm)
                      have m2709 := (m2667).trans (MF.r mf2703 (k := 32) (by decide) (by decide)).symm
                      have m2710 := (m2668).trans (MF.r mf2703 (k := 33) (by decide) (by decide)).symm
                      have m2711 := (m2669).trans (MF.r mf2703 (k := 17) (by decide) (by decide)).symm
                      have m2712 := (m2684).trans (MF.i mf2703 (k := 18) (by decide) (by decide)).symm
                      have m2713 := (m2685).trans (MF.i mf2703 (k := 34) (by decide) (by decide)).symm
                      have m2714 := (ex2662).trans (MF.i mf2703 (k := 19) (by decide) (by decide)).symm
                      have m2715 := (ex2663).trans (MF.i mf2703 (k := 20) (by decide) (by decide)).symm
                      have m2716 := (ex2664).trans (MF.i mf2703 (k := 21) (by decide) (by decide)).symm
                      have m2717 := (ex2665).trans (MF.i mf2703 (k := 22) (by decide) (by decide)).symm
                      have mf2718 : MF K s.heap H2695 a0 [19, 20, 21, 22, 35, 39, 40] := MF.trans mf2686 mf2703 (by decide)
                      have bx2696 := ty_fi (x := x2696) (k := 35) ex2696 hTH2695 ga0 rg_112 rfl
                      have cem2707 := i_cl (x := x2666) (by omega)
                      have ce_mn := i_cl (x := mn) (by omega)
                      have b2719 : ∀ j : Nat, j < 3000 + mn.toNatClampNeg → fI H2695 oq j = fI s.heap oq j ∧ fI H2695 aq j = fI s.heap aq j := fun j hj => ⟨(m2706 j (by omega)).trans (b2687 j hj).1, (m2707 j (by omega)).trans (b2687 j hj).2⟩
                      have ce_mn := i_cl (x := mn) (by omega)
                      have ce_x2244 := i_cl (x := x2244) (by omega)
                      have b2720 : WF (fun k => fI H2695 oq k) (fun k => fI H2695 aq k) (3000 + mn.toNatClampNeg) (3000 + x2244.toNatClampNeg) 0 1 := WF.keep b2688 (fun j hj => m2706 j (by omega)) (fun j hj => m2707 j (by omega))
                      have ce_mn := i_cl (x := mn) (by omega)
                      have ce_tp := i_cl (x := tp) (by omega)
                      have b2721 : RZ (1 - jb.toInt) (fun k => fI H2695 oq k) (fun k => fI H2695 aq k) (3000 + mn.toNatClampNeg) (3000 + x2666.toNatClampNeg) ([(unF (kK bt tp.toNatClampNeg) (vV bt tp.toNatClampNeg) (cj + 1)), a_]) := RZ.keep rs2692 (fun j hj => m2706 j (by omega)) (fun j hj => m2707 j (by omega))
                      have ce_x2244 := i_cl (x := x2244) (by omega)
                      have b2722 : WF (fun k => fI H2695 oq k) (fun k => fI H2695 aq k) (3000 + x2244.toNatClampNeg) (3000 + x2666.toNatClampNeg) 0 1 := WF.keep wu0 (fun j hj => m2706 j (by omega)) (fun j hj => m2707 j (by omega))
                      have ce_x2244 := i_cl (x := x2244) (by omega)
                      have b2723 : (fI H2695 oq (3000 + x2244.toNatClampNeg)).toInt = 0 ∧ (fI H2695 aq (3000 + x2244.toNatClampNeg)).toInt = x2559.toInt := ⟨(congrArg Int32.toInt (m2706 _ (by omega))).trans ev0.1, (congrArg Int32.toInt (m2707 _ (by omega))).trans ev0.2⟩
                      refine W.eq (g2 := F0 m 98 ls2553 []) rfl ?_
                      have ho := congrArg Int32.toInt m2704
                      have cb_mn := i_cl (x := mn) (by omega)
                      have cb_x2244 := i_cl (x := x2244) (by omega)
                      have cb_x2666 := i_cl (x := x2666) (by omega)
                      have ev1 : (fI H2695 oq (3000 + x2244.toNatClampNeg)).toInt = 0 ∧ (fI H2695 aq (3000 + x2244.toNatClampNeg)).toInt ≠ 0 := ⟨b2723.1, by rw [b2723.2]; omega⟩
                      have wn : WF (fun k => fI H2695 oq k) (fun k => fI H2695 aq k) (3000 + mn.toNatClampNeg) (3000 + x2666.toNatClampNeg + 1) 0 1 := WF.bin b2720 b2722 (by omega) (by omega) (by show 2 ≤ (fI _ oq _).toInt ∧ (fI _ oq _).toInt ≤ 11 ∧ (fI _ oq _).toInt ≠ 9; omega) (Or.inr ⟨by omega, ev1.1, ev1.2⟩)
                      have cq_mn := i_cl (x := mn) (by omega)
                      have cq_x2666 := i_cl (x := x2666) (by omega)
                      have rs2724 : RZ (1 - jb.toInt) (fun k => fI H2695 oq k) (fun k => fI H2695 aq k) (3000 + mn.toNatClampNeg) (3000 + x2666.toNatClampNeg + 1) ([cbF 47 a_ (unF (kK bt tp.toNatClampNeg) (vV bt tp.toNatClampNeg) (cj + 1))]) := RZ.binc (s := 47) b2721 (by omega) (by show (fI _ oq _).toInt = _; rw [← m2704]; rfl) (Or.inr (Or.inl rfl))
                      refine lv_goto (tgt := 10) hx hb dX10_readProduct_98 (by decide) ?_
                      have cl_mn := i_cl (x := mn) (by omega)
                      have cl_mn := i_cl (x := mn) (by omega)
                      have cl_x2666 := i_cl (x := x2666) (by omega)
                      have cl_x2696 := i_cl (x := x2696) (by omega)
                      have cl_mn := i_cl (x := mn) (by omega)
                      have cl_tp := i_cl (x := tp) (by omega)
                      have cl_x2666 := i_cl (x := x2666) (by omega)
                      have cl_x2696 := i_cl (x := x2696) (by omega)
                      obtain ⟨cj2725, ho2727, cu2726⟩ := RC.yes m2678 (by omega)
                      have ub_ := hcu10.2.2.2
                      have k47_ : kK bt tp.toNatClampNeg cj = 47 := (TV.sg (c := 47) hcu10.2.2.1 (by decide)).mp ⟨by omega, by omega⟩
                      have n2_ : kK bt tp.toNatClampNeg (cj + 1) = 24 := (TV.nm cu2580.2.2.1).mp (by omega)
                      have v2_ := TV.nv cu2580.2.2.1 (by omega)
                      have e2_ := un_at ho2727
                      exact ih10 cj2725 (cbF 47 a_ (unF (kK bt tp.toNatClampNeg) (vV bt tp.toNatClampNeg) (cj + 1))) ls2553 H2695 locsH2695 (x2662) (x2663) (x2664) (x2665) (x2696) (lv_sub hl2554 [1] rfl) hTH2695 hSH2695 bx2662 bx2663 bx2696 m2714 m2715 m2716 m2717 ex2696 m2697 m2698 m2711 m2712 m2713 b2719 (WF.cast wn (by omega) (by omega)) (RZ.cast rs2724 (by omega) (by omega) rfl) mf2718 g2699 g2700 g2701 g2702 f2708 (by omega) (by omega) cu2726 (hsp10.trans ((tb_d1 (by omega) k47_ n2_ (fun z => by rw [z] at v2_; omega)).trans (by rw [e2_]))) (hsf10.trans (tbF_go (by omega) k47_ (Or.inr rfl) ho2727))
                    · have k2694 := i_ne c2693
                      exfalso
                      omega
                  · have k2691 := i_eq c2690
                    refine lv_iconst (v := (-1)) hx hb dX10_readProduct_82 (by decide) ?_
                    have ub_ := hcu10.2.2.2
                    exact x_iret C hQ dX10_readProduct_83 hSH2660 (by decide) (by decide) (⟨(-1), x2662, x2663, x2664, x2665, x2666, rfl, by decide, ex2662, ex2663, ex2664, ex2665, ex2666, by omega, m2667, m2668, m2669, g2670, g2671, g2672, g2673, mf2686, b2687, Or.inl (by omega), (by exfalso; have z_ := (RC.no m2678 (by omega)).symm.trans (un_nm ((TV.nm cu2580.2.2.1).mp (by omega))); cases z_), Or.inl (by omega), hTH2660⟩)
                · have k2659 := i_eq c2658
                  refine lv_aload_n hx hb dX10_readProduct_68 rfl (lv_at hl2554 1 rfl) ?_
                  refine lv_iconst (v := 2) hx hb dX10_readProduct_69 (by decide) ?_
                  refine x_V (As := [.int 2]) (rest := []) C (a_X10_fails l K G H2555 (2) hTH2555 ga0 g2561 g2562 g2563 g2564) yo_X10_fails wM_X10_235 ⟨⟨by decide, by decide⟩, by decide, by decide⟩ (x_rv C hTH2555 (ci := 10) rfl ga0 rg_112) rfl hl2554.1 rfl (Nat.le_of_ble_eq_true rfl) dX10_readProduct_70 hSH2555 (AE_sub (fun _ _ => rfl) (by decide) hSH2555.1) (fun vH2728 H2728 locsH2728 pH2728 zH2728 kH2728 hSH2728 => ?_)
                  obtain ⟨x2729, hvH2728, bx2729, g2730, g2731, g2732, g2733, mf2734, hTH2728⟩ := pH2728
                  subst hvH2728
                  clear f2542 m2543 m2544 m2545 m2546 m2547 m2548 m2549 m2550 m2551 m2552
                  have b2735 : ∀ j : Nat, j < 3000 + mn.toNatClampNeg → fI H2728 oq j = fI s.heap oq j ∧ fI H2728 aq j = fI s.heap aq j := fun j hj => ⟨(fI_kept (x_lt hTH2555 kH2728 goq (by decide))).trans (b2569 j hj).1, (fI_kept (x_lt hTH2555 kH2728 gaq (by decide))).trans (b2569 j hj).2⟩
                  have b2736 : WF (fun k => fI H2728 oq k) (fun k => fI H2728 aq k) (3000 + mn.toNatClampNeg) (3000 + x2244.toNatClampNeg) 0 1 := WF.congr (fun j => fI_kept (x_lt hTH2555 kH2728 goq (by decide))) (fun j => fI_kept (x_lt hTH2555 kH2728 gaq (by decide))) b2570
                  have b2737 : RZ (1 - jb.toInt) (fun k => fI H2728 oq k) (fun k => fI H2728 aq k) (3000 + mn.toNatClampNeg) (3000 + x2244.toNatClampNeg) ([a_]) := RZ.congr (fun j => fI_kept (x_lt hTH2555 kH2728 goq (by decide))) (fun j => fI_kept (x_lt hTH2555 kH2728 gaq (by decide))) b2571
                  have f2738 : ∀ j : Nat, bt j = (fI H2728 tq j).toInt := fun j => (f2572 j).trans (congrArg Int32.toInt (fI_kept (x_lt hTH2555 kH2728 gtq (by decide))).symm)
                  have m2739 := (m2573).trans (MF.i mf2734 (k := 35) (by decide) (by decide)).symm
                  have m2740 := (m2574).trans (MF.r mf2734 (k := 32) (by decide) (by decide)).symm
                  have m2741 := (m2575).trans (MF.r mf2734 (k := 33) (by decide) (by decide)).symm
                  have m2742 := (m2560).trans (MF.r mf2734 (k := 17) (by decide) (by decide)).symm
                  have m2743 := (m2577).trans (MF.i mf2734 (k := 18) (by decide) (by decide)).symm
                  have m2744 := (m2578).trans (MF.i mf2734 (k := 34) (by decide) (by decide)).symm
                  have m2745 := (ex2556).trans (MF.i mf2734 (k := 19) (by decide) (by decide)).symm
                  have m2746 := (ex2557).trans (MF.i mf2734 (k := 20) (by decide) (by decide)).symm
                  have m2747 := (ex2558).trans (MF.i mf2734 (k := 21) (by decide) (by decide)).symm
                  have m2748 := (ex2559).trans (MF.i mf2734 (k := 22) (by decide) (by decide)).symm
                  have mf2749 : MF K s.heap H2728 a0 [19, 20, 21, 22, 35, 39, 40] := MF.trans mf2579 mf2734 (by decide)
                  refine W.eq (g2 := F0 m 73 ls2553 [.int x2729]) rfl ?_
                  have ub_ := hcu10.2.2.2
                  have k47_ : kK bt tp.toNatClampNeg cj = 47 := (TV.sg (c := 47) hcu10.2.2.1 (by decide)).mp ⟨by omega, by omega⟩
                  have v2_ := TV.nv cu2580.2.2.1 (by omega)
                  exact x_iret C hQ dX10_readProduct_73 hSH2728 (by decide) (by decide) (⟨x2729, x2556, x2557, x2558, x2559, x2244, rfl, by omega, m2745, m2746, m2747, m2748, m2739, by omega, m2740, m2741, m2742, g2730, g2731, g2732, g2733, mf2749, b2735, Or.inl (by omega), Or.inl ⟨hsp10.trans (tb_d0 (by omega) k47_ (Or.inr ⟨(TV.nm cu2580.2.2.1).mp (by omega), by omega⟩)), by omega⟩, Or.inl (by omega), hTH2728⟩)
            · have k2654 := i_ne c2653
              refine lv_aload_n hx hb dX10_readProduct_51 rfl (lv_at hl2554 1 rfl) ?_
              refine lv_iconst (v := 1) hx hb dX10_readProduct_52 (by decide) ?_
              refine x_V (As := [.int 1]) (rest := []) C (a_X10_fails l K G H2555 (1) hTH2555 ga0 g2561 g2562 g2563 g2564) yo_X10_fails wM_X10_235 ⟨⟨by decide, by decide⟩, by decide, by decide⟩ (x_rv C hTH2555 (ci := 10) rfl ga0 rg_112) rfl hl2554.1 rfl (Nat.le_of_ble_eq_true rfl) dX10_readProduct_53 hSH2555 (AE_sub (fun _ _ => rfl) (by decide) hSH2555.1) (fun vH2750 H2750 locsH2750 pH2750 zH2750 kH2750 hSH2750 => ?_)
              obtain ⟨x2751, hvH2750, bx2751, g2752, g2753, g2754, g2755, mf2756, hTH2750⟩ := pH2750
              subst hvH2750
              clear f2542 m2543 m2544 m2545 m2546 m2547 m2548 m2549 m2550 m2551 m2552
              have b2757 : ∀ j : Nat, j < 3000 + mn.toNatClampNeg → fI H2750 oq j = fI s.heap oq j ∧ fI H2750 aq j = fI s.heap aq j := fun j hj => ⟨(fI_kept (x_lt hTH2555 kH2750 goq (by decide))).trans (b2569 j hj).1, (fI_kept (x_lt hTH2555 kH2750 gaq (by decide))).trans (b2569 j hj).2⟩
              have b2758 : WF (fun k => fI H2750 oq k) (fun k => fI H2750 aq k) (3000 + mn.toNatClampNeg) (3000 + x2244.toNatClampNeg) 0 1 := WF.congr (fun j => fI_kept (x_lt hTH2555 kH2750 goq (by decide))) (fun j => fI_kept (x_lt hTH2555 kH2750 gaq (by decide))) b2570
              have b2759 : RZ (1 - jb.toInt) (fun k => fI H2750 oq k) (fun k => fI H2750 aq k) (3000 + mn.toNatClampNeg) (3000 + x2244.toNatClampNeg) ([a_]) := RZ.congr (fun j => fI_kept (x_lt hTH2555 kH2750 goq (by decide))) (fun j => fI_kept (x_lt hTH2555 kH2750 gaq (by decide))) b2571
              have f2760 : ∀ j : Nat, bt j = (fI H2750 tq j).toInt := fun j => (f2572 j).trans (congrArg Int32.toInt (fI_kept (x_lt hTH2555 kH2750 gtq (by decide))).symm)
              have m2761 := (m2573).trans (MF.i mf2756 (k := 35) (by decide) (by decide)).symm
              have m2762 := (m2574).trans (MF.r mf2756 (k := 32) (by decide) (by decide)).symm
              have m2763 := (m2575).trans (MF.r mf2756 (k := 33) (by decide) (by decide)).symm
              have m2764 := (m2560).trans (MF.r mf2756 (k := 17) (by decide) (by decide)).symm
              have m2765 := (m2577).trans (MF.i mf2756 (k := 18) (by decide) (by decide)).symm
              have m2766 := (m2578).trans (MF.i mf2756 (k := 34) (by decide) (by decide)).symm
              have m2767 := (ex2556).trans (MF.i mf2756 (k := 19) (by decide) (by decide)).symm
              have m2768 := (ex2557).trans (MF.i mf2756 (k := 20) (by decide) (by decide)).symm
              have m2769 := (ex2558).trans (MF.i mf2756 (k := 21) (by decide) (by decide)).symm
              have m2770 := (ex2559).trans (MF.i mf2756 (k := 22) (by decide) (by decide)).symm
              have mf2771 : MF K s.heap H2750 a0 [19, 20, 21, 22, 35, 39, 40] := MF.trans mf2579 mf2756 (by decide)
              refine W.eq (g2 := F0 m 56 ls2553 [.int x2751]) rfl ?_
              have ub_ := hcu10.2.2.2
              have k47_ : kK bt tp.toNatClampNeg cj = 47 := (TV.sg (c := 47) hcu10.2.2.1 (by decide)).mp ⟨by omega, by omega⟩
              exact x_iret C hQ dX10_readProduct_56 hSH2750 (by decide) (by decide) (⟨x2751, x2556, x2557, x2558, x2559, x2244, rfl, by omega, m2767, m2768, m2769, m2770, m2761, by omega, m2762, m2763, m2764, g2752, g2753, g2754, g2755, mf2771, b2757, Or.inl (by omega), Or.inl ⟨hsp10.trans (tb_d0 (by omega) k47_ (Or.inl (fun e => by have z_ := (TV.nm cu2580.2.2.1).mpr e; omega))), by omega⟩, Or.inl (by omega), hTH2750⟩)
  have pf00 : ∀ j : Nat, j < 3000 + mn.toNatClampNeg → fI s.heap oq j = fI s.heap oq j ∧ fI s.heap aq j = fI s.heap aq j := fun _ _ => ⟨rfl, rfl⟩
  have hmn := i_cl (x := mn) (by omega)
  refine lv_aload_n hx hb dX10_readProduct_0 rfl (lv_at hl 0 rfl) ?_
  refine x_V (As := []) (rest := []) C (a_X10_readUnit_g l K G s.heap (sp) (fr) (tk) (vl) (mn) (tp) (jb) (ci) bt hT ga0 goq eoq gaq eaq gtq etq esp efr etk evl emn etp ejb hg_CG hg_TU hg_WD hg_IM (by omega) (by omega) (hy0) (hy1) f0_bt) yo_X10_readUnit wM_X10_245 ⟨⟨by decide, by decide⟩, by decide, by decide⟩ (x_rv C hT (ci := 10) rfl ga0 rg_112) rfl hl.1 rfl (Nat.le_of_ble_eq_true rfl) dX10_readProduct_1 hS (AE_sub (fun _ _ => rfl) (by decide) hS.1) (fun vH2772 H2772 locsH2772 pH2772 zH2772 kH2772 hSH2772 => ?_)
  obtain ⟨x2773, x2774, x2775, x2776, x2777, x2778, hvH2772, bx2773, ex2774, ex2775, ex2776, ex2777, ex2778, hrH2772, m2779, m2780, m2781, g2782, g2783, g2784, g2785, mf2786, m2787, m2788, m2789, m2790, m2791, hTH2772⟩ := pH2772
  subst hvH2772
  have f2792 : ∀ j : Nat, bt j = (fI H2772 tq j).toInt := fun j => (f0_bt j).trans (congrArg Int32.toInt (fI_kept (x_lt hT kH2772 gtq (by decide))).symm)
  have m2793 := (eoq).trans (MF.r mf2786 (k := 32) (by decide) (by decide)).symm
  have m2794 := (eaq).trans (MF.r mf2786 (k := 33) (by decide) (by decide)).symm
  have m2795 := (etq).trans (MF.r mf2786 (k := 17) (by decide) (by decide)).symm
  have m2796 := (etp).trans (MF.i mf2786 (k := 18) (by decide) (by decide)).symm
  have m2797 := (ejb).trans (MF.i mf2786 (k := 34) (by decide) (by decide)).symm
  have mf2798 : MF K s.heap H2772 a0 [19, 20, 21, 22, 35, 39, 40] := MF.trans mf0 mf2786 (by decide)
  have bx2774 := ty_fi (x := x2774) (k := 19) ex2774 hTH2772 ga0 rg_112 rfl
  have bx2775 := ty_fi (x := x2775) (k := 20) ex2775 hTH2772 ga0 rg_112 rfl
  have bx2776 := ty_fi (x := x2776) (k := 21) ex2776 hTH2772 ga0 rg_112 rfl
  have bx2777 := ty_fi (x := x2777) (k := 22) ex2777 hTH2772 ga0 rg_112 rfl
  have bx2778 := ty_fi (x := x2778) (k := 35) ex2778 hTH2772 ga0 rg_112 rfl
  have csm2787 := i_cl (x := mn) (by omega)
  have b2799 : ∀ j : Nat, j < 3000 + mn.toNatClampNeg → fI H2772 oq j = fI s.heap oq j ∧ fI H2772 aq j = fI s.heap aq j := fun j hj => ⟨(m2787 j (by omega)).1.trans (pf00 j hj).1, (m2787 j (by omega)).2.trans (pf00 j hj).2⟩
  refine W.eq (g2 := F0 m 4 ls [.int x2773]) rfl ?_
  refine lv_iconst (v := (-1)) hx hb dX10_readProduct_4 (by decide) ?_
  refine lv_icmp_ne (tgt := 10) hx hb dX10_readProduct_5 (by decide) (fun c2800 => ?_) (fun c2800 => ?_)
  · have k2801 := i_ne c2800
    have rs2802 : RZ (1 - jb.toInt) (fun k => fI H2772 oq k) (fun k => fI H2772 aq k) (3000 + mn.toNatClampNeg) (3000 + x2778.toNatClampNeg) ([(unF (kK bt tp.toNatClampNeg) (vV bt tp.toNatClampNeg) ci)]) := m2791.resolve_left (by omega)
    have wf0 : WF (fun k => fI H2772 oq k) (fun k => fI H2772 aq k) (3000 + mn.toNatClampNeg) (3000 + x2778.toNatClampNeg) 0 1 := by
      rcases m2788 with h | h
      · exfalso; omega
      · exact h
    have cl_mn := i_cl (x := mn) (by omega)
    have cl_mn := i_cl (x := mn) (by omega)
    have cl_x2778 := i_cl (x := x2778) (by omega)
    have cl_mn := i_cl (x := mn) (by omega)
    have cl_tp := i_cl (x := tp) (by omega)
    have cl_x2778 := i_cl (x := x2778) (by omega)
    obtain ⟨cj2803, ho2805, cu2804⟩ := RC.yes m2790 (by omega)
    have cn_fr := i_cl (x := fr) (by omega)
    have ub_ := hy0.2.2.2
    exact J10 ((500 - x2775.toInt).toNat + 1) cj2803 (unF (kK bt tp.toNatClampNeg) (vV bt tp.toNatClampNeg) ci) ls H2772 locsH2772 (x2774) (x2775) (x2776) (x2777) (x2778) (lv_sub hl [0] rfl) hTH2772 hSH2772 bx2774 bx2775 bx2778 ex2774 ex2775 ex2776 ex2777 ex2778 m2779 m2780 m2781 m2796 m2797 b2799 (WF.cast wf0 (by omega) (by omega)) (RZ.cast rs2802 (by omega) (by omega) rfl) mf2798 g2782 g2783 g2784 g2785 f2792 (by omega) (by omega) cu2804 (tm_un1 (by omega) ho2805) (tbF_un (by omega) ho2805)
  · have k2801 := i_eq c2800
    refine lv_iconst (v := (-1)) hx hb dX10_readProduct_8 (by decide) ?_
    have cn_fr := i_cl (x := fr) (by omega)
    have ub_ := hy0.2.2.2
    exact x_iret C hQ dX10_readProduct_9 hSH2772 (by decide) (by decide) (⟨(-1), x2774, x2775, x2776, x2777, x2778, rfl, by decide, ex2774, ex2775, ex2776, ex2777, ex2778, by omega, m2779, m2780, m2781, g2782, g2783, g2784, g2785, mf2798, b2799, Or.inl (by omega), Or.inl ⟨tm_un0 (by omega) (RC.no m2790 (by omega)), by omega⟩, Or.inl (by omega), hTH2772⟩)
