set_option maxHeartbeats 4000000 in
set_option maxRecDepth 100000 in
theorem f_X8_copyFrom (l : Launch) (K : KE) (G : Nat → Option Nat) (H : Heap) {a b : Nat} (hT : TY K G H) (ga : G a = some 34) (gb : G b = some 0) (h1 : fI H b (K.1.2 8 1) = 0) : MX l K yX8_copyFrom cX8_copyFrom 3 none 2 61 0 0 [.ref a, .ref b] H (AE G [34, 50, 51, 52, 53, 54, 55, 56, 57, 58, 62, 63, 64, 65, 66, 67] H.size) (fun v H1 => v = none ∧ TY K G H1) := by
  refine MX.of (by decide +kernel) (Nat.le_of_ble_eq_true rfl) ?_
  intro p e s m below meth c ls Q C hH hl hQ
  subst hH
  have C : CX p K s m _ meth c RX8 cX8_copyFrom 3 none "copyFrom" := C
  obtain ⟨hx, hb, hml, hown, hts, hKT, hr, hlocks, hnm⟩ := id C
  have hl : lv_has ls 3 [(0, .ref a), (1, .ref b)] := hl
  have hS : va_S (AE G [34, 50, 51, 52, 53, 54, 55, 56, 57, 58, 62, 63, 64, 65, 66, 67] s.heap.size) s.heap s.heap [] := va_S.rf
  have n_0 : (0 : Int32).toInt = 0 := rfl
  have n_1 : (1 : Int32).toInt = 1 := rfl
  have n_2 : (2 : Int32).toInt = 2 := rfl
  have n_3 : (3 : Int32).toInt = 3 := rfl
  have n_4 : (4 : Int32).toInt = 4 := rfl
  have n_8 : (8 : Int32).toInt = 8 := rfl
  have n_20 : (20 : Int32).toInt = 20 := rfl
  refine lv_iconst (v := 0) hx hb dX8_copyFrom_0 (by decide) ?_
  refine lv_istore_n (lv' := [(2, .int 0), (0, .ref a), (1, .ref b)]) hx hb dX8_copyFrom_1 rfl hl (by decide) rfl (fun ls101 hl102 => ?_)
  refine lv_iload_n hx hb dX8_copyFrom_2 rfl (lv_at hl102 0 rfl) ?_
  refine lv_aload_n hx hb dX8_copyFrom_3 rfl (lv_at hl102 2 rfl) ?_
  refine x_gi C hT (ci := 8) (k := 1) rfl inX8 (by decide) wF_X8_57 gb rg_0 rfl dX8_copyFrom_4 (fun x103 ex103 bx103 => ?_)
  have ux103 : x103 = 0 := ex103.trans h1
  subst ux103
  refine lv_icmp_ge (tgt := 31) hx hb dX8_copyFrom_7 (by decide) (fun c104 => ?_) (fun c104 => ?_)
  · have k105 := i_le c104
    refine lv_aload_n hx hb dX8_copyFrom_31 rfl (lv_at hl102 1 rfl) ?_
    refine lv_aload_n hx hb dX8_copyFrom_32 rfl (lv_at hl102 2 rfl) ?_
    refine x_gi C hT (ci := 8) (k := 1) rfl inX8 (by decide) wF_X8_57 gb rg_0 rfl dX8_copyFrom_33 (fun x106 ex106 bx106 => ?_)
    have ux106 : x106 = 0 := ex106.trans h1
    subst ux106
    refine x_put C hT hS (ci := 8) (k := 1) (v := .int 0) (ty0 := tyX8) rfl inX8 tyX8_ok nmX8 (by decide) rfl wF_X8_57 ga rg_34 rfl rfl (okI (by have := i_rng (0 : Int32); omega) (by have := i_rng (0 : Int32); omega)) rfl rfl (AE_in ga (by decide)) dX8_copyFrom_36 (fun H107 locsH107 hTH107 hSH107 wH107 => ?_)
    have m108 := (Wr.neI wH107 (Or.inl (G_ne gb ga (by decide)))).trans h1
    have m109 := Wr.I wH107
    refine lv_iconst (v := 0) hx hb dX8_copyFrom_39 (by decide) ?_
    refine lv_istore_n (lv' := [(2, .int 0), (0, .ref a), (1, .ref b)]) hx hb dX8_copyFrom_40 rfl hl102 (by decide) rfl (fun ls110 hl111 => ?_)
    refine lv_iload_n hx hb dX8_copyFrom_41 rfl (lv_at hl111 0 rfl) ?_
    refine lv_iconst (v := 2) hx hb dX8_copyFrom_42 (by decide) ?_
    refine lv_icmp_ge (tgt := 67) hx hb dX8_copyFrom_43 (by decide) (fun c112 => ?_) (fun c112 => ?_)
    · have k113 := i_le c112
      exfalso
      omega
    · have k113 := i_nle c112
      refine lv_aload_n hx hb dX8_copyFrom_46 rfl (lv_at hl111 1 rfl) ?_
      refine x_gr C hTH107 (ci := 8) (k := 2) rfl inX8 (by decide) wF_X8_19 ga rg_34 rfl dX8_copyFrom_47 (fun q114 eq114 gq114 => ?_)
      refine lv_iload_n hx hb dX8_copyFrom_50 rfl (lv_at hl111 0 rfl) ?_
      refine x_ar C hTH107 rfl rfl gq114 rg_60 (by decide) dX8_copyFrom_51 (fun q115 eq115 gq115 => ?_)
      refine lv_aload_n hx hb dX8_copyFrom_52 rfl (lv_at hl111 2 rfl) ?_
      refine x_gr C hTH107 (ci := 8) (k := 2) rfl inX8 (by decide) wF_X8_19 gb rg_0 rfl dX8_copyFrom_53 (fun q116 eq116 gq116 => ?_)
      refine lv_iload_n hx hb dX8_copyFrom_56 rfl (lv_at hl111 0 rfl) ?_
      refine x_ar C hTH107 rfl rfl gq116 rg_26 (by decide) dX8_copyFrom_57 (fun q117 eq117 gq117 => ?_)
      refine x_V (As := [.ref q117]) (rest := []) C (f_X7_copyFrom_k l K G H107 hTH107 gq115 gq117) yo_X7_copyFrom wM_X8_64 ⟨⟨by decide, by decide⟩, by decide, by decide⟩ (x_rv C hTH107 (ci := 7) rfl gq115 rg_50) rfl hl111.1 rfl (Nat.le_of_ble_eq_true rfl) dX8_copyFrom_58 hSH107 (AE_sub (fun _ _ => rfl) (by decide) hSH107.1) (fun vH118 H118 locsH118 pH118 zH118 kH118 hSH118 => ?_)
      have hTH118 := pH118.2
      have hvH118 := pH118.1
      subst hvH118
      have m119 := (fI_kept (x_lt hTH107 kH118 gb (by decide))).trans m108
      have m120 := (fI_kept (x_lt hTH107 kH118 ga (by decide))).trans m109
      have m121 := (eq114).trans (fR_kept (x_lt hTH107 kH118 ga (by decide))).symm
      have m122 := (eq116).trans (fR_kept (x_lt hTH107 kH118 gb (by decide))).symm
      refine W.eq (g2 := F0 m 61 ls110 []) rfl ?_
      refine lv_iinc (v := 1) (lv' := [(2, .int 1), (0, .ref a), (1, .ref b)]) hx hb dX8_copyFrom_61 hl111 (k := 0) rfl (by decide) (by decide) rfl (fun ls124 hl125 => ?_)
      refine lv_goto (tgt := 41) hx hb dX8_copyFrom_64 (by decide) ?_
      refine lv_iload_n hx hb dX8_copyFrom_41 rfl (lv_at hl125 0 rfl) ?_
      refine lv_iconst (v := 2) hx hb dX8_copyFrom_42 (by decide) ?_
      refine lv_icmp_ge (tgt := 67) hx hb dX8_copyFrom_43 (by decide) (fun c126 => ?_) (fun c126 => ?_)
      · have k127 := i_le c126
        exfalso
        omega
      · have k127 := i_nle c126
        refine lv_aload_n hx hb dX8_copyFrom_46 rfl (lv_at hl125 1 rfl) ?_
        refine x_gr C hTH118 (ci := 8) (k := 2) rfl inX8 (by decide) wF_X8_19 ga rg_34 rfl dX8_copyFrom_47 (fun q128 eq128 gq128 => ?_)
        have uq128 : q114 = q128 := (m121).trans eq128.symm
        subst uq128
        refine lv_iload_n hx hb dX8_copyFrom_50 rfl (lv_at hl125 0 rfl) ?_
        refine x_ar C hTH118 rfl rfl gq114 rg_60 (by decide) dX8_copyFrom_51 (fun q129 eq129 gq129 => ?_)
        refine lv_aload_n hx hb dX8_copyFrom_52 rfl (lv_at hl125 2 rfl) ?_
        refine x_gr C hTH118 (ci := 8) (k := 2) rfl inX8 (by decide) wF_X8_19 gb rg_0 rfl dX8_copyFrom_53 (fun q130 eq130 gq130 => ?_)
        have uq130 : q116 = q130 := (m122).trans eq130.symm
        subst uq130
        refine lv_iload_n hx hb dX8_copyFrom_56 rfl (lv_at hl125 0 rfl) ?_
        refine x_ar C hTH118 rfl rfl gq116 rg_26 (by decide) dX8_copyFrom_57 (fun q131 eq131 gq131 => ?_)
        refine x_V (As := [.ref q131]) (rest := []) C (f_X7_copyFrom_k l K G H118 hTH118 gq129 gq131) yo_X7_copyFrom wM_X8_64 ⟨⟨by decide, by decide⟩, by decide, by decide⟩ (x_rv C hTH118 (ci := 7) rfl gq129 rg_50) rfl hl125.1 rfl (Nat.le_of_ble_eq_true rfl) dX8_copyFrom_58 hSH118 (AE_sub (fun _ _ => rfl) (by decide) hSH118.1) (fun vH132 H132 locsH132 pH132 zH132 kH132 hSH132 => ?_)
        have hTH132 := pH132.2
        have hvH132 := pH132.1
        subst hvH132
        have m133 := (fI_kept (x_lt hTH118 kH132 gb (by decide))).trans m119
        have m134 := (fI_kept (x_lt hTH118 kH132 ga (by decide))).trans m120
        have m135 := (m121).trans (fR_kept (x_lt hTH118 kH132 ga (by decide))).symm
        have m136 := (m122).trans (fR_kept (x_lt hTH118 kH132 gb (by decide))).symm
        refine W.eq (g2 := F0 m 61 ls124 []) rfl ?_
        refine lv_iinc (v := 2) (lv' := [(2, .int 2), (0, .ref a), (1, .ref b)]) hx hb dX8_copyFrom_61 hl125 (k := 0) rfl (by decide) (by decide) rfl (fun ls138 hl139 => ?_)
        refine lv_goto (tgt := 41) hx hb dX8_copyFrom_64 (by decide) ?_
        refine lv_iload_n hx hb dX8_copyFrom_41 rfl (lv_at hl139 0 rfl) ?_
        refine lv_iconst (v := 2) hx hb dX8_copyFrom_42 (by decide) ?_
        refine lv_icmp_ge (tgt := 67) hx hb dX8_copyFrom_43 (by decide) (fun c140 => ?_) (fun c140 => ?_)
        · have k141 := i_le c140
          refine lv_iconst (v := 0) hx hb dX8_copyFrom_67 (by decide) ?_
          refine lv_istore_n (lv' := [(2, .int 0), (0, .ref a), (1, .ref b)]) hx hb dX8_copyFrom_68 rfl hl139 (by decide) rfl (fun ls142 hl143 => ?_)
          refine lv_iload_n hx hb dX8_copyFrom_69 rfl (lv_at hl143 0 rfl) ?_
          refine lv_iconst (v := 4) hx hb dX8_copyFrom_70 (by decide) ?_
          refine lv_icmp_ge (tgt := 95) hx hb dX8_copyFrom_71 (by decide) (fun c144 => ?_) (fun c144 => ?_)
          · have k145 := i_le c144
            exfalso
            omega
          · have k145 := i_nle c144
            refine lv_aload_n hx hb dX8_copyFrom_74 rfl (lv_at hl143 1 rfl) ?_
            refine x_gr C hTH132 (ci := 8) (k := 3) rfl inX8 (by decide) wF_X8_23 ga rg_34 rfl dX8_copyFrom_75 (fun q146 eq146 gq146 => ?_)
            refine lv_iload_n hx hb dX8_copyFrom_78 rfl (lv_at hl143 0 rfl) ?_
            refine x_ar C hTH132 rfl rfl gq146 rg_61 (by decide) dX8_copyFrom_79 (fun q147 eq147 gq147 => ?_)
            refine lv_aload_n hx hb dX8_copyFrom_80 rfl (lv_at hl143 2 rfl) ?_
            refine x_gr C hTH132 (ci := 8) (k := 3) rfl inX8 (by decide) wF_X8_23 gb rg_0 rfl dX8_copyFrom_81 (fun q148 eq148 gq148 => ?_)
            refine lv_iload_n hx hb dX8_copyFrom_84 rfl (lv_at hl143 0 rfl) ?_
            refine x_ar C hTH132 rfl rfl gq148 rg_27 (by decide) dX8_copyFrom_85 (fun q149 eq149 gq149 => ?_)
            refine x_V (As := [.ref q149]) (rest := []) C (f_X7_copyFrom_k l K G H132 hTH132 gq147 gq149) yo_X7_copyFrom wM_X8_64 ⟨⟨by decide, by decide⟩, by decide, by decide⟩ (x_rv C hTH132 (ci := 7) rfl gq147 rg_50) rfl hl143.1 rfl (Nat.le_of_ble_eq_true rfl) dX8_copyFrom_86 hSH132 (AE_sub (fun _ _ => rfl) (by decide) hSH132.1) (fun vH150 H150 locsH150 pH150 zH150 kH150 hSH150 => ?_)
            have hTH150 := pH150.2
            have hvH150 := pH150.1
            subst hvH150
            have m151 := (fI_kept (x_lt hTH132 kH150 gb (by decide))).trans m133
            have m152 := (fI_kept (x_lt hTH132 kH150 ga (by decide))).trans m134
            have m153 := (m135).trans (fR_kept (x_lt hTH132 kH150 ga (by decide))).symm
            have m154 := (m136).trans (fR_kept (x_lt hTH132 kH150 gb (by decide))).symm
            have m155 := (eq146).trans (fR_kept (x_lt hTH132 kH150 ga (by decide))).symm
            have m156 := (eq148).trans (fR_kept (x_lt hTH132 kH150 gb (by decide))).symm
            refine W.eq (g2 := F0 m 89 ls142 []) rfl ?_
            refine lv_iinc (v := 1) (lv' := [(2, .int 1), (0, .ref a), (1, .ref b)]) hx hb dX8_copyFrom_89 hl143 (k := 0) rfl (by decide) (by decide) rfl (fun ls158 hl159 => ?_)
            refine lv_goto (tgt := 69) hx hb dX8_copyFrom_92 (by decide) ?_
            refine lv_iload_n hx hb dX8_copyFrom_69 rfl (lv_at hl159 0 rfl) ?_
            refine lv_iconst (v := 4) hx hb dX8_copyFrom_70 (by decide) ?_
            refine lv_icmp_ge (tgt := 95) hx hb dX8_copyFrom_71 (by decide) (fun c160 => ?_) (fun c160 => ?_)
            · have k161 := i_le c160
              exfalso
              omega
            · have k161 := i_nle c160
              refine lv_aload_n hx hb dX8_copyFrom_74 rfl (lv_at hl159 1 rfl) ?_
              refine x_gr C hTH150 (ci := 8) (k := 3) rfl inX8 (by decide) wF_X8_23 ga rg_34 rfl dX8_copyFrom_75 (fun q162 eq162 gq162 => ?_)
              have uq162 : q146 = q162 := (m155).trans eq162.symm
              subst uq162
              refine lv_iload_n hx hb dX8_copyFrom_78 rfl (lv_at hl159 0 rfl) ?_
              refine x_ar C hTH150 rfl rfl gq146 rg_61 (by decide) dX8_copyFrom_79 (fun q163 eq163 gq163 => ?_)
              refine lv_aload_n hx hb dX8_copyFrom_80 rfl (lv_at hl159 2 rfl) ?_
              refine x_gr C hTH150 (ci := 8) (k := 3) rfl inX8 (by decide) wF_X8_23 gb rg_0 rfl dX8_copyFrom_81 (fun q164 eq164 gq164 => ?_)
              have uq164 : q148 = q164 := (m156).trans eq164.symm
              subst uq164
              refine lv_iload_n hx hb dX8_copyFrom_84 rfl (lv_at hl159 0 rfl) ?_
              refine x_ar C hTH150 rfl rfl gq148 rg_27 (by decide) dX8_copyFrom_85 (fun q165 eq165 gq165 => ?_)
              refine x_V (As := [.ref q165]) (rest := []) C (f_X7_copyFrom_k l K G H150 hTH150 gq163 gq165) yo_X7_copyFrom wM_X8_64 ⟨⟨by decide, by decide⟩, by decide, by decide⟩ (x_rv C hTH150 (ci := 7) rfl gq163 rg_50) rfl hl159.1 rfl (Nat.le_of_ble_eq_true rfl) dX8_copyFrom_86 hSH150 (AE_sub (fun _ _ => rfl) (by decide) hSH150.1) (fun vH166 H166 locsH166 pH166 zH166 kH166 hSH166 => ?_)
              have hTH166 := pH166.2
              have hvH166 := pH166.1
              subst hvH166
              have m167 := (fI_kept (x_lt hTH150 kH166 gb (by decide))).trans m151
              have m168 := (fI_kept (x_lt hTH150 kH166 ga (by decide))).trans m152
              have m169 := (m153).trans (fR_kept (x_lt hTH150 kH166 ga (by decide))).symm
              have m170 := (m154).trans (fR_kept (x_lt hTH150 kH166 gb (by decide))).symm
              have m171 := (m155).trans (fR_kept (x_lt hTH150 kH166 ga (by decide))).symm
              have m172 := (m156).trans (fR_kept (x_lt hTH150 kH166 gb (by decide))).symm
              refine W.eq (g2 := F0 m 89 ls158 []) rfl ?_
              refine lv_iinc (v := 2) (lv' := [(2, .int 2), (0, .ref a), (1, .ref b)]) hx hb dX8_copyFrom_89 hl159 (k := 0) rfl (by decide) (by decide) rfl (fun ls174 hl175 => ?_)
              refine lv_goto (tgt := 69) hx hb dX8_copyFrom_92 (by decide) ?_
              refine lv_iload_n hx hb dX8_copyFrom_69 rfl (lv_at hl175 0 rfl) ?_
              refine lv_iconst (v := 4) hx hb dX8_copyFrom_70 (by decide) ?_
              refine lv_icmp_ge (tgt := 95) hx hb dX8_copyFrom_71 (by decide) (fun c176 => ?_) (fun c176 => ?_)
              · have k177 := i_le c176
                exfalso
                omega
              · have k177 := i_nle c176
                refine lv_aload_n hx hb dX8_copyFrom_74 rfl (lv_at hl175 1 rfl) ?_
                refine x_gr C hTH166 (ci := 8) (k := 3) rfl inX8 (by decide) wF_X8_23 ga rg_34 rfl dX8_copyFrom_75 (fun q178 eq178 gq178 => ?_)
                have uq178 : q146 = q178 := (m171).trans eq178.symm
                subst uq178
                refine lv_iload_n hx hb dX8_copyFrom_78 rfl (lv_at hl175 0 rfl) ?_
                refine x_ar C hTH166 rfl rfl gq146 rg_61 (by decide) dX8_copyFrom_79 (fun q179 eq179 gq179 => ?_)
                refine lv_aload_n hx hb dX8_copyFrom_80 rfl (lv_at hl175 2 rfl) ?_
                refine x_gr C hTH166 (ci := 8) (k := 3) rfl inX8 (by decide) wF_X8_23 gb rg_0 rfl dX8_copyFrom_81 (fun q180 eq180 gq180 => ?_)
                have uq180 : q148 = q180 := (m172).trans eq180.symm
                subst uq180
                refine lv_iload_n hx hb dX8_copyFrom_84 rfl (lv_at hl175 0 rfl) ?_
                refine x_ar C hTH166 rfl rfl gq148 rg_27 (by decide) dX8_copyFrom_85 (fun q181 eq181 gq181 => ?_)
                refine x_V (As := [.ref q181]) (rest := []) C (f_X7_copyFrom_k l K G H166 hTH166 gq179 gq181) yo_X7_copyFrom wM_X8_64 ⟨⟨by decide, by decide⟩, by decide, by decide⟩ (x_rv C hTH166 (ci := 7) rfl gq179 rg_50) rfl hl175.1 rfl (Nat.le_of_ble_eq_true rfl) dX8_copyFrom_86 hSH166 (AE_sub (fun _ _ => rfl) (by decide) hSH166.1) (fun vH182 H182 locsH182 pH182 zH182 kH182 hSH182 => ?_)
                have hTH182 := pH182.2
                have hvH182 := pH182.1
                subst hvH182
                have m183 := (fI_kept (x_lt hTH166 kH182 gb (by decide))).trans m167
                have m184 := (fI_kept (x_lt hTH166 kH182 ga (by decide))).trans m168
                have m185 := (m169).trans (fR_kept (x_lt hTH166 kH182 ga (by decide))).symm
                have m186 := (m170).trans (fR_kept (x_lt hTH166 kH182 gb (by decide))).symm
                have m187 := (m171).trans (fR_kept (x_lt hTH166 kH182 ga (by decide))).symm
                have m188 := (m172).trans (fR_kept (x_lt hTH166 kH182 gb (by decide))).symm
                refine W.eq (g2 := F0 m 89 ls174 []) rfl ?_
                refine lv_iinc (v := 3) (lv' := [(2, .int 3), (0, .ref a), (1, .ref b)]) hx hb dX8_copyFrom_89 hl175 (k := 0) rfl (by decide) (by decide) rfl (fun ls190 hl191 => ?_)
                refine lv_goto (tgt := 69) hx hb dX8_copyFrom_92 (by decide) ?_
                refine lv_iload_n hx hb dX8_copyFrom_69 rfl (lv_at hl191 0 rfl) ?_
                refine lv_iconst (v := 4) hx hb dX8_copyFrom_70 (by decide) ?_
                refine lv_icmp_ge (tgt := 95) hx hb dX8_copyFrom_71 (by decide) (fun c192 => ?_) (fun c192 => ?_)
                · have k193 := i_le c192
                  exfalso
                  omega
                · have k193 := i_nle c192
                  refine lv_aload_n hx hb dX8_copyFrom_74 rfl (lv_at hl191 1 rfl) ?_
                  refine x_gr C hTH182 (ci := 8) (k := 3) rfl inX8 (by decide) wF_X8_23 ga rg_34 rfl dX8_copyFrom_75 (fun q194 eq194 gq194 => ?_)
                  have uq194 : q146 = q194 := (m187).trans eq194.symm
                  subst uq194
                  refine lv_iload_n hx hb dX8_copyFrom_78 rfl (lv_at hl191 0 rfl) ?_
                  refine x_ar C hTH182 rfl rfl gq146 rg_61 (by decide) dX8_copyFrom_79 (fun q195 eq195 gq195 => ?_)
                  refine lv_aload_n hx hb dX8_copyFrom_80 rfl (lv_at hl191 2 rfl) ?_
                  refine x_gr C hTH182 (ci := 8) (k := 3) rfl inX8 (by decide) wF_X8_23 gb rg_0 rfl dX8_copyFrom_81 (fun q196 eq196 gq196 => ?_)
                  have uq196 : q148 = q196 := (m188).trans eq196.symm
                  subst uq196
                  refine lv_iload_n hx hb dX8_copyFrom_84 rfl (lv_at hl191 0 rfl) ?_
                  refine x_ar C hTH182 rfl rfl gq148 rg_27 (by decide) dX8_copyFrom_85 (fun q197 eq197 gq197 => ?_)
                  refine x_V (As := [.ref q197]) (rest := []) C (f_X7_copyFrom_k l K G H182 hTH182 gq195 gq197) yo_X7_copyFrom wM_X8_64 ⟨⟨by decide, by decide⟩, by decide, by decide⟩ (x_rv C hTH182 (ci := 7) rfl gq195 rg_50) rfl hl191.1 rfl (Nat.le_of_ble_eq_true rfl) dX8_copyFrom_86 hSH182 (AE_sub (fun _ _ => rfl) (by decide) hSH182.1) (fun vH198 H198 locsH198 pH198 zH198 kH198 hSH198 => ?_)
                  have hTH198 := pH198.2
                  have hvH198 := pH198.1
                  subst hvH198
                  have m199 := (fI_kept (x_lt hTH182 kH198 gb (by decide))).trans m183
                  have m200 := (fI_kept (x_lt hTH182 kH198 ga (by decide))).trans m184
                  have m201 := (m185).trans (fR_kept (x_lt hTH182 kH198 ga (by decide))).symm
                  have m202 := (m186).trans (fR_kept (x_lt hTH182 kH198 gb (by decide))).symm
                  have m203 := (m187).trans (fR_kept (x_lt hTH182 kH198 ga (by decide))).symm
                  have m204 := (m188).trans (fR_kept (x_lt hTH182 kH198 gb (by decide))).symm
                  refine W.eq (g2 := F0 m 89 ls190 []) rfl ?_
                  refine lv_iinc (v := 4) (lv' := [(2, .int 4), (0, .ref a), (1, .ref b)]) hx hb dX8_copyFrom_89 hl191 (k := 0) rfl (by decide) (by decide) rfl (fun ls206 hl207 => ?_)
                  refine lv_goto (tgt := 69) hx hb dX8_copyFrom_92 (by decide) ?_
                  refine lv_iload_n hx hb dX8_copyFrom_69 rfl (lv_at hl207 0 rfl) ?_
                  refine lv_iconst (v := 4) hx hb dX8_copyFrom_70 (by decide) ?_
                  refine lv_icmp_ge (tgt := 95) hx hb dX8_copyFrom_71 (by decide) (fun c208 => ?_) (fun c208 => ?_)
                  · have k209 := i_le c208
                    refine lv_aload_n hx hb dX8_copyFrom_95 rfl (lv_at hl207 1 rfl) ?_
                    refine lv_aload_n hx hb dX8_copyFrom_96 rfl (lv_at hl207 2 rfl) ?_
                    refine x_gi C hTH198 (ci := 8) (k := 4) rfl inX8 (by decide) wF_X8_54 gb rg_0 rfl dX8_copyFrom_97 (fun x210 ex210 bx210 => ?_)
                    refine x_put C hTH198 hSH198 (ci := 8) (k := 4) (v := .int x210) (ty0 := tyX8) rfl inX8 tyX8_ok nmX8 (by decide) rfl wF_X8_54 ga rg_34 rfl rfl (okI (by have := i_rng x210; omega) (by have := i_rng x210; omega)) rfl rfl (AE_in ga (by decide)) dX8_copyFrom_100 (fun H211 locsH211 hTH211 hSH211 wH211 => ?_)
                    have m212 := (Wr.neI wH211 (Or.inl (G_ne gb ga (by decide)))).trans m199
                    have m213 := (Wr.neI wH211 (Or.inr (x_apart hKT hts inX8 tyX8 tyX8_ok nmX8 rfl 1 4 (by decide) (by decide) (by decide)))).trans m200
                    have m214 := m201.trans (Wr.neR wH211 (Or.inr (x_apart hKT hts inX8 tyX8 tyX8_ok nmX8 rfl 2 4 (by decide) (by decide) (by decide)))).symm
                    have m215 := m202.trans (Wr.neR wH211 (Or.inl (G_ne gb ga (by decide)))).symm
                    have m216 := m203.trans (Wr.neR wH211 (Or.inr (x_apart hKT hts inX8 tyX8 tyX8_ok nmX8 rfl 3 4 (by decide) (by decide) (by decide)))).symm
                    have m217 := m204.trans (Wr.neR wH211 (Or.inl (G_ne gb ga (by decide)))).symm
                    have m218 := ex210.trans (Wr.neI wH211 (Or.inl (G_ne gb ga (by decide)))).symm
                    have m219 := Wr.I wH211
                    have m219 := m219.symm
                    refine lv_aload_n hx hb dX8_copyFrom_103 rfl (lv_at hl207 1 rfl) ?_
                    refine lv_aload_n hx hb dX8_copyFrom_104 rfl (lv_at hl207 2 rfl) ?_
                    refine x_gi C hTH211 (ci := 8) (k := 5) rfl inX8 (by decide) wF_X8_26 gb rg_0 rfl dX8_copyFrom_105 (fun x220 ex220 bx220 => ?_)
                    refine x_put C hTH211 hSH211 (ci := 8) (k := 5) (v := .int x220) (ty0 := tyX8) rfl inX8 tyX8_ok nmX8 (by decide) rfl wF_X8_26 ga rg_34 rfl rfl (okI (by have := i_rng x220; omega) (by have := i_rng x220; omega)) rfl rfl (AE_in ga (by decide)) dX8_copyFrom_108 (fun H221 locsH221 hTH221 hSH221 wH221 => ?_)
                    have m222 := (Wr.neI wH221 (Or.inl (G_ne gb ga (by decide)))).trans m212
                    have m223 := (Wr.neI wH221 (Or.inr (x_apart hKT hts inX8 tyX8 tyX8_ok nmX8 rfl 1 5 (by decide) (by decide) (by decide)))).trans m213
                    have m224 := m214.trans (Wr.neR wH221 (Or.inr (x_apart hKT hts inX8 tyX8 tyX8_ok nmX8 rfl 2 5 (by decide) (by decide) (by decide)))).symm
                    have m225 := m215.trans (Wr.neR wH221 (Or.inl (G_ne gb ga (by decide)))).symm
                    have m226 := m216.trans (Wr.neR wH221 (Or.inr (x_apart hKT hts inX8 tyX8 tyX8_ok nmX8 rfl 3 5 (by decide) (by decide) (by decide)))).symm
                    have m227 := m217.trans (Wr.neR wH221 (Or.inl (G_ne gb ga (by decide)))).symm
                    have m228 := m218.trans (Wr.neI wH221 (Or.inl (G_ne gb ga (by decide)))).symm
                    have m229 := m219.trans (Wr.neI wH221 (Or.inr (x_apart hKT hts inX8 tyX8 tyX8_ok nmX8 rfl 4 5 (by decide) (by decide) (by decide)))).symm
                    have m230 := ex220.trans (Wr.neI wH221 (Or.inl (G_ne gb ga (by decide)))).symm
                    have m231 := Wr.I wH221
                    have m231 := m231.symm
                    refine lv_aload_n hx hb dX8_copyFrom_111 rfl (lv_at hl207 1 rfl) ?_
                    refine lv_aload_n hx hb dX8_copyFrom_112 rfl (lv_at hl207 2 rfl) ?_
                    refine x_gi C hTH221 (ci := 8) (k := 6) rfl inX8 (by decide) wF_X8_67 gb rg_0 rfl dX8_copyFrom_113 (fun x232 ex232 bx232 => ?_)
                    refine x_put C hTH221 hSH221 (ci := 8) (k := 6) (v := .int x232) (ty0 := tyX8) rfl inX8 tyX8_ok nmX8 (by decide) rfl wF_X8_67 ga rg_34 rfl rfl (okI (by have := i_rng x232; omega) (by have := i_rng x232; omega)) rfl rfl (AE_in ga (by decide)) dX8_copyFrom_116 (fun H233 locsH233 hTH233 hSH233 wH233 => ?_)
                    have m234 := (Wr.neI wH233 (Or.inl (G_ne gb ga (by decide)))).trans m222
                    have m235 := (Wr.neI wH233 (Or.inr (x_apart hKT hts inX8 tyX8 tyX8_ok nmX8 rfl 1 6 (by decide) (by decide) (by decide)))).trans m223
                    have m236 := m224.trans (Wr.neR wH233 (Or.inr (x_apart hKT hts inX8 tyX8 tyX8_ok nmX8 rfl 2 6 (by decide) (by decide) (by decide)))).symm
                    have m237 := m225.trans (Wr.neR wH233 (Or.inl (G_ne gb ga (by decide)))).symm
                    have m238 := m226.trans (Wr.neR wH233 (Or.inr (x_apart hKT hts inX8 tyX8 tyX8_ok nmX8 rfl 3 6 (by decide) (by decide) (by decide)))).symm
                    have m239 := m227.trans (Wr.neR wH233 (Or.inl (G_ne gb ga (by decide)))).symm
                    have m240 := m228.trans (Wr.neI wH233 (Or.inl (G_ne gb ga (by decide)))).symm
                    have m241 := m229.trans (Wr.neI wH233 (Or.inr (x_apart hKT hts inX8 tyX8 tyX8_ok nmX8 rfl 4 6 (by decide) (by decide) (by decide)))).symm
                    have m242 := m230.trans (Wr.neI wH233 (Or.inl (G_ne gb ga (by decide)))).symm
                    have m243 := m231.trans (Wr.neI wH233 (Or.inr (x_apart hKT hts inX8 tyX8 tyX8_ok nmX8 rfl 5 6 (by decide) (by decide) (by decide)))).symm
                    have m244 := ex232.trans (Wr.neI wH233 (Or.inl (G_ne gb ga (by decide)))).symm
                    have m245 := Wr.I wH233
                    have m245 := m245.symm
                    refine lv_aload_n hx hb dX8_copyFrom_119 rfl (lv_at hl207 1 rfl) ?_
                    refine lv_aload_n hx hb dX8_copyFrom_120 rfl (lv_at hl207 2 rfl) ?_
                    refine x_gi C hTH233 (ci := 8) (k := 7) rfl inX8 (by decide) wF_X8_30 gb rg_0 rfl dX8_copyFrom_121 (fun x246 ex246 bx246 => ?_)
                    refine x_put C hTH233 hSH233 (ci := 8) (k := 7) (v := .int x246) (ty0 := tyX8) rfl inX8 tyX8_ok nmX8 (by decide) rfl wF_X8_30 ga rg_34 rfl rfl (okI (by have := i_rng x246; omega) (by have := i_rng x246; omega)) rfl rfl (AE_in ga (by decide)) dX8_copyFrom_124 (fun H247 locsH247 hTH247 hSH247 wH247 => ?_)
                    have m248 := (Wr.neI wH247 (Or.inl (G_ne gb ga (by decide)))).trans m234
                    have m249 := (Wr.neI wH247 (Or.inr (x_apart hKT hts inX8 tyX8 tyX8_ok nmX8 rfl 1 7 (by decide) (by decide) (by decide)))).trans m235
                    have m250 := m236.trans (Wr.neR wH247 (Or.inr (x_apart hKT hts inX8 tyX8 tyX8_ok nmX8 rfl 2 7 (by decide) (by decide) (by decide)))).symm
                    have m251 := m237.trans (Wr.neR wH247 (Or.inl (G_ne gb ga (by decide)))).symm
                    have m252 := m238.trans (Wr.neR wH247 (Or.inr (x_apart hKT hts inX8 tyX8 tyX8_ok nmX8 rfl 3 7 (by decide) (by decide) (by decide)))).symm
                    have m253 := m239.trans (Wr.neR wH247 (Or.inl (G_ne gb ga (by decide)))).symm
                    have m254 := m240.trans (Wr.neI wH247 (Or.inl (G_ne gb ga (by decide)))).symm
                    have m255 := m241.trans (Wr.neI wH247 (Or.inr (x_apart hKT hts inX8 tyX8 tyX8_ok nmX8 rfl 4 7 (by decide) (by decide) (by decide)))).symm
                    have m256 := m242.trans (Wr.neI wH247 (Or.inl (G_ne gb ga (by decide)))).symm
                    have m257 := m243.trans (Wr.neI wH247 (Or.inr (x_apart hKT hts inX8 tyX8 tyX8_ok nmX8 rfl 5 7 (by decide) (by decide) (by decide)))).symm
                    have m258 := m244.trans (Wr.neI wH247 (Or.inl (G_ne gb ga (by decide)))).symm
                    have m259 := m245.trans (Wr.neI wH247 (Or.inr (x_apart hKT hts inX8 tyX8 tyX8_ok nmX8 rfl 6 7 (by decide) (by decide) (by decide)))).symm
                    have m260 := ex246.trans (Wr.neI wH247 (Or.inl (G_ne gb ga (by decide)))).symm
                    have m261 := Wr.I wH247
                    have m261 := m261.symm
                    refine lv_aload_n hx hb dX8_copyFrom_127 rfl (lv_at hl207 2 rfl) ?_
                    refine x_gr C hTH247 (ci := 8) (k := 8) rfl inX8 (by decide) wF_X8_33 gb rg_0 rfl dX8_copyFrom_128 (fun q262 eq262 gq262 => ?_)
                    refine lv_iconst (v := 0) hx hb dX8_copyFrom_131 (by decide) ?_
                    refine lv_aload_n hx hb dX8_copyFrom_132 rfl (lv_at hl207 1 rfl) ?_
                    refine x_gr C hTH247 (ci := 8) (k := 8) rfl inX8 (by decide) wF_X8_33 ga rg_34 rfl dX8_copyFrom_133 (fun q263 eq263 gq263 => ?_)
                    refine lv_iconst (v := 0) hx hb dX8_copyFrom_136 (by decide) ?_
                    refine lv_bipush (v := 20) hx hb dX8_copyFrom_137 (by decide) ?_
                    refine x_copy C hTH247 hSH247 wM_X8_70 wNT_arraycopy wST_arraycopy wIN_J10 gq262 gq263 rg_28 rg_62 (by decide) (by omega) (by omega) (by omega) (by show _ ≤ ((20 : Nat) : Int); omega) (by show _ ≤ ((20 : Nat) : Int); omega) (AE_in gq263 (by decide)) hl207.1 (by decide) dX8_copyFrom_139 (fun H264 locsH264 hTH264 hSH264 zH264 oH264 vH264 wH264 => ?_)
                    have m265 := (fI_kept (oH264 _ (G_ne gb gq263 (by decide)))).trans m248
                    have m266 := (fI_kept (oH264 _ (G_ne ga gq263 (by decide)))).trans m249
                    have m267 := (m250).trans (fR_kept (oH264 _ (G_ne ga gq263 (by decide)))).symm
                    have m268 := (m251).trans (fR_kept (oH264 _ (G_ne gb gq263 (by decide)))).symm
                    have m269 := (m252).trans (fR_kept (oH264 _ (G_ne ga gq263 (by decide)))).symm
                    have m270 := (m253).trans (fR_kept (oH264 _ (G_ne gb gq263 (by decide)))).symm
                    have m271 := (m254).trans (fI_kept (oH264 _ (G_ne gb gq263 (by decide)))).symm
                    have m272 := (m255).trans (fI_kept (oH264 _ (G_ne ga gq263 (by decide)))).symm
                    have m273 := (m256).trans (fI_kept (oH264 _ (G_ne gb gq263 (by decide)))).symm
                    have m274 := (m257).trans (fI_kept (oH264 _ (G_ne ga gq263 (by decide)))).symm
                    have m275 := (m258).trans (fI_kept (oH264 _ (G_ne gb gq263 (by decide)))).symm
                    have m276 := (m259).trans (fI_kept (oH264 _ (G_ne ga gq263 (by decide)))).symm
                    have m277 := (m260).trans (fI_kept (oH264 _ (G_ne gb gq263 (by decide)))).symm
                    have m278 := (m261).trans (fI_kept (oH264 _ (G_ne ga gq263 (by decide)))).symm
                    have m279 := (eq262).trans (fR_kept (oH264 _ (G_ne gb gq263 (by decide)))).symm
                    have m280 := (eq263).trans (fR_kept (oH264 _ (G_ne ga gq263 (by decide)))).symm
                    refine lv_aload_n hx hb dX8_copyFrom_142 rfl (lv_at hl207 2 rfl) ?_
                    refine x_gr C hTH264 (ci := 8) (k := 9) rfl inX8 (by decide) wF_X8_37 gb rg_0 rfl dX8_copyFrom_143 (fun q281 eq281 gq281 => ?_)
                    refine lv_iconst (v := 0) hx hb dX8_copyFrom_146 (by decide) ?_
                    refine lv_aload_n hx hb dX8_copyFrom_147 rfl (lv_at hl207 1 rfl) ?_
                    refine x_gr C hTH264 (ci := 8) (k := 9) rfl inX8 (by decide) wF_X8_37 ga rg_34 rfl dX8_copyFrom_148 (fun q282 eq282 gq282 => ?_)
                    refine lv_iconst (v := 0) hx hb dX8_copyFrom_151 (by decide) ?_
                    refine lv_bipush (v := 20) hx hb dX8_copyFrom_152 (by decide) ?_
                    refine x_copy C hTH264 hSH264 wM_X8_70 wNT_arraycopy wST_arraycopy wIN_J10 gq281 gq282 rg_29 rg_63 (by decide) (by omega) (by omega) (by omega) (by show _ ≤ ((20 : Nat) : Int); omega) (by show _ ≤ ((20 : Nat) : Int); omega) (AE_in gq282 (by decide)) hl207.1 (by decide) dX8_copyFrom_154 (fun H283 locsH283 hTH283 hSH283 zH283 oH283 vH283 wH283 => ?_)
                    have m284 := (fI_kept (oH283 _ (G_ne gb gq282 (by decide)))).trans m265
                    have m285 := (fI_kept (oH283 _ (G_ne ga gq282 (by decide)))).trans m266
                    have m286 := (m267).trans (fR_kept (oH283 _ (G_ne ga gq282 (by decide)))).symm
                    have m287 := (m268).trans (fR_kept (oH283 _ (G_ne gb gq282 (by decide)))).symm
                    have m288 := (m269).trans (fR_kept (oH283 _ (G_ne ga gq282 (by decide)))).symm
                    have m289 := (m270).trans (fR_kept (oH283 _ (G_ne gb gq282 (by decide)))).symm
                    have m290 := (m271).trans (fI_kept (oH283 _ (G_ne gb gq282 (by decide)))).symm
                    have m291 := (m272).trans (fI_kept (oH283 _ (G_ne ga gq282 (by decide)))).symm
                    have m292 := (m273).trans (fI_kept (oH283 _ (G_ne gb gq282 (by decide)))).symm
                    have m293 := (m274).trans (fI_kept (oH283 _ (G_ne ga gq282 (by decide)))).symm
                    have m294 := (m275).trans (fI_kept (oH283 _ (G_ne gb gq282 (by decide)))).symm
                    have m295 := (m276).trans (fI_kept (oH283 _ (G_ne ga gq282 (by decide)))).symm
                    have m296 := (m277).trans (fI_kept (oH283 _ (G_ne gb gq282 (by decide)))).symm
                    have m297 := (m278).trans (fI_kept (oH283 _ (G_ne ga gq282 (by decide)))).symm
                    have m298 := (m279).trans (fR_kept (oH283 _ (G_ne gb gq282 (by decide)))).symm
                    have m299 := (m280).trans (fR_kept (oH283 _ (G_ne ga gq282 (by decide)))).symm
                    have m300 := (eq281).trans (fR_kept (oH283 _ (G_ne gb gq282 (by decide)))).symm
                    have m301 := (eq282).trans (fR_kept (oH283 _ (G_ne ga gq282 (by decide)))).symm
                    refine lv_aload_n hx hb dX8_copyFrom_157 rfl (lv_at hl207 1 rfl) ?_
                    refine lv_aload_n hx hb dX8_copyFrom_158 rfl (lv_at hl207 2 rfl) ?_
                    refine x_gi C hTH283 (ci := 8) (k := 10) rfl inX8 (by decide) wF_X8_76 gb rg_0 rfl dX8_copyFrom_159 (fun x302 ex302 bx302 => ?_)
                    refine x_put C hTH283 hSH283 (ci := 8) (k := 10) (v := .int x302) (ty0 := tyX8) rfl inX8 tyX8_ok nmX8 (by decide) rfl wF_X8_76 ga rg_34 rfl rfl (okI (by have := i_rng x302; omega) (by have := i_rng x302; omega)) rfl rfl (AE_in ga (by decide)) dX8_copyFrom_162 (fun H303 locsH303 hTH303 hSH303 wH303 => ?_)
                    have m304 := (Wr.neI wH303 (Or.inl (G_ne gb ga (by decide)))).trans m284
                    have m305 := (Wr.neI wH303 (Or.inr (x_apart hKT hts inX8 tyX8 tyX8_ok nmX8 rfl 1 10 (by decide) (by decide) (by decide)))).trans m285
                    have m306 := m286.trans (Wr.neR wH303 (Or.inr (x_apart hKT hts inX8 tyX8 tyX8_ok nmX8 rfl 2 10 (by decide) (by decide) (by decide)))).symm
                    have m307 := m287.trans (Wr.neR wH303 (Or.inl (G_ne gb ga (by decide)))).symm
                    have m308 := m288.trans (Wr.neR wH303 (Or.inr (x_apart hKT hts inX8 tyX8 tyX8_ok nmX8 rfl 3 10 (by decide) (by decide) (by decide)))).symm
                    have m309 := m289.trans (Wr.neR wH303 (Or.inl (G_ne gb ga (by decide)))).symm
                    have m310 := m290.trans (Wr.neI wH303 (Or.inl (G_ne gb ga (by decide)))).symm
                    have m311 := m291.trans (Wr.neI wH303 (Or.inr (x_apart hKT hts inX8 tyX8 tyX8_ok nmX8 rfl 4 10 (by decide) (by decide) (by decide)))).symm
                    have m312 := m292.trans (Wr.neI wH303 (Or.inl (G_ne gb ga (by decide)))).symm
                    have m313 := m293.trans (Wr.neI wH303 (Or.inr (x_apart hKT hts inX8 tyX8 tyX8_ok nmX8 rfl 5 10 (by decide) (by decide) (by decide)))).symm
                    have m314 := m294.trans (Wr.neI wH303 (Or.inl (G_ne gb ga (by decide)))).symm
                    have m315 := m295.trans (Wr.neI wH303 (Or.inr (x_apart hKT hts inX8 tyX8 tyX8_ok nmX8 rfl 6 10 (by decide) (by decide) (by decide)))).symm
                    have m316 := m296.trans (Wr.neI wH303 (Or.inl (G_ne gb ga (by decide)))).symm
                    have m317 := m297.trans (Wr.neI wH303 (Or.inr (x_apart hKT hts inX8 tyX8 tyX8_ok nmX8 rfl 7 10 (by decide) (by decide) (by decide)))).symm
                    have m318 := m298.trans (Wr.neR wH303 (Or.inl (G_ne gb ga (by decide)))).symm
                    have m319 := m299.trans (Wr.neR wH303 (Or.inr (x_apart hKT hts inX8 tyX8 tyX8_ok nmX8 rfl 8 10 (by decide) (by decide) (by decide)))).symm
                    have m320 := m300.trans (Wr.neR wH303 (Or.inl (G_ne gb ga (by decide)))).symm
                    have m321 := m301.trans (Wr.neR wH303 (Or.inr (x_apart hKT hts inX8 tyX8 tyX8_ok nmX8 rfl 9 10 (by decide) (by decide) (by decide)))).symm
                    have m322 := ex302.trans (Wr.neI wH303 (Or.inl (G_ne gb ga (by decide)))).symm
                    have m323 := Wr.I wH303
                    have m323 := m323.symm
                    refine lv_aload_n hx hb dX8_copyFrom_165 rfl (lv_at hl207 2 rfl) ?_
                    refine x_gr C hTH303 (ci := 8) (k := 11) rfl inX8 (by decide) wF_X8_40 gb rg_0 rfl dX8_copyFrom_166 (fun q324 eq324 gq324 => ?_)
                    refine lv_iconst (v := 0) hx hb dX8_copyFrom_169 (by decide) ?_
                    refine lv_aload_n hx hb dX8_copyFrom_170 rfl (lv_at hl207 1 rfl) ?_
                    refine x_gr C hTH303 (ci := 8) (k := 11) rfl inX8 (by decide) wF_X8_40 ga rg_34 rfl dX8_copyFrom_171 (fun q325 eq325 gq325 => ?_)
                    refine lv_iconst (v := 0) hx hb dX8_copyFrom_174 (by decide) ?_
                    refine lv_bipush (v := 8) hx hb dX8_copyFrom_175 (by decide) ?_
                    refine x_copy C hTH303 hSH303 wM_X8_70 wNT_arraycopy wST_arraycopy wIN_J10 gq324 gq325 rg_30 rg_64 (by decide) (by omega) (by omega) (by omega) (by show _ ≤ ((8 : Nat) : Int); omega) (by show _ ≤ ((8 : Nat) : Int); omega) (AE_in gq325 (by decide)) hl207.1 (by decide) dX8_copyFrom_177 (fun H326 locsH326 hTH326 hSH326 zH326 oH326 vH326 wH326 => ?_)
                    have m327 := (fI_kept (oH326 _ (G_ne gb gq325 (by decide)))).trans m304
                    have m328 := (fI_kept (oH326 _ (G_ne ga gq325 (by decide)))).trans m305
                    have m329 := (m306).trans (fR_kept (oH326 _ (G_ne ga gq325 (by decide)))).symm
                    have m330 := (m307).trans (fR_kept (oH326 _ (G_ne gb gq325 (by decide)))).symm
                    have m331 := (m308).trans (fR_kept (oH326 _ (G_ne ga gq325 (by decide)))).symm
                    have m332 := (m309).trans (fR_kept (oH326 _ (G_ne gb gq325 (by decide)))).symm
                    have m333 := (m310).trans (fI_kept (oH326 _ (G_ne gb gq325 (by decide)))).symm
                    have m334 := (m311).trans (fI_kept (oH326 _ (G_ne ga gq325 (by decide)))).symm
                    have m335 := (m312).trans (fI_kept (oH326 _ (G_ne gb gq325 (by decide)))).symm
                    have m336 := (m313).trans (fI_kept (oH326 _ (G_ne ga gq325 (by decide)))).symm
                    have m337 := (m314).trans (fI_kept (oH326 _ (G_ne gb gq325 (by decide)))).symm
                    have m338 := (m315).trans (fI_kept (oH326 _ (G_ne ga gq325 (by decide)))).symm
                    have m339 := (m316).trans (fI_kept (oH326 _ (G_ne gb gq325 (by decide)))).symm
                    have m340 := (m317).trans (fI_kept (oH326 _ (G_ne ga gq325 (by decide)))).symm
                    have m341 := (m318).trans (fR_kept (oH326 _ (G_ne gb gq325 (by decide)))).symm
                    have m342 := (m319).trans (fR_kept (oH326 _ (G_ne ga gq325 (by decide)))).symm
                    have m343 := (m320).trans (fR_kept (oH326 _ (G_ne gb gq325 (by decide)))).symm
                    have m344 := (m321).trans (fR_kept (oH326 _ (G_ne ga gq325 (by decide)))).symm
                    have m345 := (m322).trans (fI_kept (oH326 _ (G_ne gb gq325 (by decide)))).symm
                    have m346 := (m323).trans (fI_kept (oH326 _ (G_ne ga gq325 (by decide)))).symm
                    have m347 := (eq324).trans (fR_kept (oH326 _ (G_ne gb gq325 (by decide)))).symm
                    have m348 := (eq325).trans (fR_kept (oH326 _ (G_ne ga gq325 (by decide)))).symm
                    refine lv_aload_n hx hb dX8_copyFrom_180 rfl (lv_at hl207 2 rfl) ?_
                    refine x_gr C hTH326 (ci := 8) (k := 12) rfl inX8 (by decide) wF_X8_43 gb rg_0 rfl dX8_copyFrom_181 (fun q349 eq349 gq349 => ?_)
                    refine lv_iconst (v := 0) hx hb dX8_copyFrom_184 (by decide) ?_
                    refine lv_aload_n hx hb dX8_copyFrom_185 rfl (lv_at hl207 1 rfl) ?_
                    refine x_gr C hTH326 (ci := 8) (k := 12) rfl inX8 (by decide) wF_X8_43 ga rg_34 rfl dX8_copyFrom_186 (fun q350 eq350 gq350 => ?_)
                    refine lv_iconst (v := 0) hx hb dX8_copyFrom_189 (by decide) ?_
                    refine lv_bipush (v := 8) hx hb dX8_copyFrom_190 (by decide) ?_
                    refine x_copy C hTH326 hSH326 wM_X8_70 wNT_arraycopy wST_arraycopy wIN_J10 gq349 gq350 rg_31 rg_65 (by decide) (by omega) (by omega) (by omega) (by show _ ≤ ((8 : Nat) : Int); omega) (by show _ ≤ ((8 : Nat) : Int); omega) (AE_in gq350 (by decide)) hl207.1 (by decide) dX8_copyFrom_192 (fun H351 locsH351 hTH351 hSH351 zH351 oH351 vH351 wH351 => ?_)
                    have m352 := (fI_kept (oH351 _ (G_ne gb gq350 (by decide)))).trans m327
                    have m353 := (fI_kept (oH351 _ (G_ne ga gq350 (by decide)))).trans m328
                    have m354 := (m329).trans (fR_kept (oH351 _ (G_ne ga gq350 (by decide)))).symm
                    have m355 := (m330).trans (fR_kept (oH351 _ (G_ne gb gq350 (by decide)))).symm
                    have m356 := (m331).trans (fR_kept (oH351 _ (G_ne ga gq350 (by decide)))).symm
                    have m357 := (m332).trans (fR_kept (oH351 _ (G_ne gb gq350 (by decide)))).symm
                    have m358 := (m333).trans (fI_kept (oH351 _ (G_ne gb gq350 (by decide)))).symm
                    have m359 := (m334).trans (fI_kept (oH351 _ (G_ne ga gq350 (by decide)))).symm
                    have m360 := (m335).trans (fI_kept (oH351 _ (G_ne gb gq350 (by decide)))).symm
                    have m361 := (m336).trans (fI_kept (oH351 _ (G_ne ga gq350 (by decide)))).symm
                    have m362 := (m337).trans (fI_kept (oH351 _ (G_ne gb gq350 (by decide)))).symm
                    have m363 := (m338).trans (fI_kept (oH351 _ (G_ne ga gq350 (by decide)))).symm
                    have m364 := (m339).trans (fI_kept (oH351 _ (G_ne gb gq350 (by decide)))).symm
                    have m365 := (m340).trans (fI_kept (oH351 _ (G_ne ga gq350 (by decide)))).symm
                    have m366 := (m341).trans (fR_kept (oH351 _ (G_ne gb gq350 (by decide)))).symm
                    have m367 := (m342).trans (fR_kept (oH351 _ (G_ne ga gq350 (by decide)))).symm
                    have m368 := (m343).trans (fR_kept (oH351 _ (G_ne gb gq350 (by decide)))).symm
                    have m369 := (m344).trans (fR_kept (oH351 _ (G_ne ga gq350 (by decide)))).symm
                    have m370 := (m345).trans (fI_kept (oH351 _ (G_ne gb gq350 (by decide)))).symm
                    have m371 := (m346).trans (fI_kept (oH351 _ (G_ne ga gq350 (by decide)))).symm
                    have m372 := (m347).trans (fR_kept (oH351 _ (G_ne gb gq350 (by decide)))).symm
                    have m373 := (m348).trans (fR_kept (oH351 _ (G_ne ga gq350 (by decide)))).symm
                    have m374 := (eq349).trans (fR_kept (oH351 _ (G_ne gb gq350 (by decide)))).symm
                    have m375 := (eq350).trans (fR_kept (oH351 _ (G_ne ga gq350 (by decide)))).symm
                    refine lv_aload_n hx hb dX8_copyFrom_195 rfl (lv_at hl207 1 rfl) ?_
                    refine lv_aload_n hx hb dX8_copyFrom_196 rfl (lv_at hl207 2 rfl) ?_
                    refine x_gi C hTH351 (ci := 8) (k := 13) rfl inX8 (by decide) wF_X8_79 gb rg_0 rfl dX8_copyFrom_197 (fun x376 ex376 bx376 => ?_)
                    refine x_put C hTH351 hSH351 (ci := 8) (k := 13) (v := .int x376) (ty0 := tyX8) rfl inX8 tyX8_ok nmX8 (by decide) rfl wF_X8_79 ga rg_34 rfl rfl (okI (by have := i_rng x376; omega) (by have := i_rng x376; omega)) rfl rfl (AE_in ga (by decide)) dX8_copyFrom_200 (fun H377 locsH377 hTH377 hSH377 wH377 => ?_)
                    have m378 := (Wr.neI wH377 (Or.inl (G_ne gb ga (by decide)))).trans m352
                    have m379 := (Wr.neI wH377 (Or.inr (x_apart hKT hts inX8 tyX8 tyX8_ok nmX8 rfl 1 13 (by decide) (by decide) (by decide)))).trans m353
                    have m380 := m354.trans (Wr.neR wH377 (Or.inr (x_apart hKT hts inX8 tyX8 tyX8_ok nmX8 rfl 2 13 (by decide) (by decide) (by decide)))).symm
                    have m381 := m355.trans (Wr.neR wH377 (Or.inl (G_ne gb ga (by decide)))).symm
                    have m382 := m356.trans (Wr.neR wH377 (Or.inr (x_apart hKT hts inX8 tyX8 tyX8_ok nmX8 rfl 3 13 (by decide) (by decide) (by decide)))).symm
                    have m383 := m357.trans (Wr.neR wH377 (Or.inl (G_ne gb ga (by decide)))).symm
                    have m384 := m358.trans (Wr.neI wH377 (Or.inl (G_ne gb ga (by decide)))).symm
                    have m385 := m359.trans (Wr.neI wH377 (Or.inr (x_apart hKT hts inX8 tyX8 tyX8_ok nmX8 rfl 4 13 (by decide) (by decide) (by decide)))).symm
                    have m386 := m360.trans (Wr.neI wH377 (Or.inl (G_ne gb ga (by decide)))).symm
                    have m387 := m361.trans (Wr.neI wH377 (Or.inr (x_apart hKT hts inX8 tyX8 tyX8_ok nmX8 rfl 5 13 (by decide) (by decide) (by decide)))).symm
                    have m388 := m362.trans (Wr.neI wH377 (Or.inl (G_ne gb ga (by decide)))).symm
                    have m389 := m363.trans (Wr.neI wH377 (Or.inr (x_apart hKT hts inX8 tyX8 tyX8_ok nmX8 rfl 6 13 (by decide) (by decide) (by decide)))).symm
                    have m390 := m364.trans (Wr.neI wH377 (Or.inl (G_ne gb ga (by decide)))).symm
                    have m391 := m365.trans (Wr.neI wH377 (Or.inr (x_apart hKT hts inX8 tyX8 tyX8_ok nmX8 rfl 7 13 (by decide) (by decide) (by decide)))).symm
                    have m392 := m366.trans (Wr.neR wH377 (Or.inl (G_ne gb ga (by decide)))).symm
                    have m393 := m367.trans (Wr.neR wH377 (Or.inr (x_apart hKT hts inX8 tyX8 tyX8_ok nmX8 rfl 8 13 (by decide) (by decide) (by decide)))).symm
                    have m394 := m368.trans (Wr.neR wH377 (Or.inl (G_ne gb ga (by decide)))).symm
                    have m395 := m369.trans (Wr.neR wH377 (Or.inr (x_apart hKT hts inX8 tyX8 tyX8_ok nmX8 rfl 9 13 (by decide) (by decide) (by decide)))).symm
                    have m396 := m370.trans (Wr.neI wH377 (Or.inl (G_ne gb ga (by decide)))).symm
                    have m397 := m371.trans (Wr.neI wH377 (Or.inr (x_apart hKT hts inX8 tyX8 tyX8_ok nmX8 rfl 10 13 (by decide) (by decide) (by decide)))).symm
                    have m398 := m372.trans (Wr.neR wH377 (Or.inl (G_ne gb ga (by decide)))).symm
                    have m399 := m373.trans (Wr.neR wH377 (Or.inr (x_apart hKT hts inX8 tyX8 tyX8_ok nmX8 rfl 11 13 (by decide) (by decide) (by decide)))).symm
                    have m400 := m374.trans (Wr.neR wH377 (Or.inl (G_ne gb ga (by decide)))).symm
                    have m401 := m375.trans (Wr.neR wH377 (Or.inr (x_apart hKT hts inX8 tyX8 tyX8_ok nmX8 rfl 12 13 (by decide) (by decide) (by decide)))).symm
                    have m402 := ex376.trans (Wr.neI wH377 (Or.inl (G_ne gb ga (by decide)))).symm
                    have m403 := Wr.I wH377
                    have m403 := m403.symm
                    refine lv_aload_n hx hb dX8_copyFrom_203 rfl (lv_at hl207 2 rfl) ?_
                    refine x_gr C hTH377 (ci := 8) (k := 14) rfl inX8 (by decide) wF_X8_46 gb rg_0 rfl dX8_copyFrom_204 (fun q404 eq404 gq404 => ?_)
                    refine lv_iconst (v := 0) hx hb dX8_copyFrom_207 (by decide) ?_
                    refine lv_aload_n hx hb dX8_copyFrom_208 rfl (lv_at hl207 1 rfl) ?_
                    refine x_gr C hTH377 (ci := 8) (k := 14) rfl inX8 (by decide) wF_X8_46 ga rg_34 rfl dX8_copyFrom_209 (fun q405 eq405 gq405 => ?_)
                    refine lv_iconst (v := 0) hx hb dX8_copyFrom_212 (by decide) ?_
                    refine lv_bipush (v := 8) hx hb dX8_copyFrom_213 (by decide) ?_
                    refine x_copy C hTH377 hSH377 wM_X8_70 wNT_arraycopy wST_arraycopy wIN_J10 gq404 gq405 rg_32 rg_66 (by decide) (by omega) (by omega) (by omega) (by show _ ≤ ((8 : Nat) : Int); omega) (by show _ ≤ ((8 : Nat) : Int); omega) (AE_in gq405 (by decide)) hl207.1 (by decide) dX8_copyFrom_215 (fun H406 locsH406 hTH406 hSH406 zH406 oH406 vH406 wH406 => ?_)
                    have m407 := (fI_kept (oH406 _ (G_ne gb gq405 (by decide)))).trans m378
                    have m408 := (fI_kept (oH406 _ (G_ne ga gq405 (by decide)))).trans m379
                    have m409 := (m380).trans (fR_kept (oH406 _ (G_ne ga gq405 (by decide)))).symm
                    have m410 := (m381).trans (fR_kept (oH406 _ (G_ne gb gq405 (by decide)))).symm
                    have m411 := (m382).trans (fR_kept (oH406 _ (G_ne ga gq405 (by decide)))).symm
                    have m412 := (m383).trans (fR_kept (oH406 _ (G_ne gb gq405 (by decide)))).symm
                    have m413 := (m384).trans (fI_kept (oH406 _ (G_ne gb gq405 (by decide)))).symm
                    have m414 := (m385).trans (fI_kept (oH406 _ (G_ne ga gq405 (by decide)))).symm
                    have m415 := (m386).trans (fI_kept (oH406 _ (G_ne gb gq405 (by decide)))).symm
                    have m416 := (m387).trans (fI_kept (oH406 _ (G_ne ga gq405 (by decide)))).symm
                    have m417 := (m388).trans (fI_kept (oH406 _ (G_ne gb gq405 (by decide)))).symm
                    have m418 := (m389).trans (fI_kept (oH406 _ (G_ne ga gq405 (by decide)))).symm
                    have m419 := (m390).trans (fI_kept (oH406 _ (G_ne gb gq405 (by decide)))).symm
                    have m420 := (m391).trans (fI_kept (oH406 _ (G_ne ga gq405 (by decide)))).symm
                    have m421 := (m392).trans (fR_kept (oH406 _ (G_ne gb gq405 (by decide)))).symm
                    have m422 := (m393).trans (fR_kept (oH406 _ (G_ne ga gq405 (by decide)))).symm
                    have m423 := (m394).trans (fR_kept (oH406 _ (G_ne gb gq405 (by decide)))).symm
                    have m424 := (m395).trans (fR_kept (oH406 _ (G_ne ga gq405 (by decide)))).symm
                    have m425 := (m396).trans (fI_kept (oH406 _ (G_ne gb gq405 (by decide)))).symm
                    have m426 := (m397).trans (fI_kept (oH406 _ (G_ne ga gq405 (by decide)))).symm
                    have m427 := (m398).trans (fR_kept (oH406 _ (G_ne gb gq405 (by decide)))).symm
                    have m428 := (m399).trans (fR_kept (oH406 _ (G_ne ga gq405 (by decide)))).symm
                    have m429 := (m400).trans (fR_kept (oH406 _ (G_ne gb gq405 (by decide)))).symm
                    have m430 := (m401).trans (fR_kept (oH406 _ (G_ne ga gq405 (by decide)))).symm
                    have m431 := (m402).trans (fI_kept (oH406 _ (G_ne gb gq405 (by decide)))).symm
                    have m432 := (m403).trans (fI_kept (oH406 _ (G_ne ga gq405 (by decide)))).symm
                    have m433 := (eq404).trans (fR_kept (oH406 _ (G_ne gb gq405 (by decide)))).symm
                    have m434 := (eq405).trans (fR_kept (oH406 _ (G_ne ga gq405 (by decide)))).symm
                    refine lv_aload_n hx hb dX8_copyFrom_218 rfl (lv_at hl207 2 rfl) ?_
                    refine x_gr C hTH406 (ci := 8) (k := 15) rfl inX8 (by decide) wF_X8_49 gb rg_0 rfl dX8_copyFrom_219 (fun q435 eq435 gq435 => ?_)
                    refine lv_iconst (v := 0) hx hb dX8_copyFrom_222 (by decide) ?_
                    refine lv_aload_n hx hb dX8_copyFrom_223 rfl (lv_at hl207 1 rfl) ?_
                    refine x_gr C hTH406 (ci := 8) (k := 15) rfl inX8 (by decide) wF_X8_49 ga rg_34 rfl dX8_copyFrom_224 (fun q436 eq436 gq436 => ?_)
                    refine lv_iconst (v := 0) hx hb dX8_copyFrom_227 (by decide) ?_
                    refine lv_bipush (v := 8) hx hb dX8_copyFrom_228 (by decide) ?_
                    refine x_copy C hTH406 hSH406 wM_X8_70 wNT_arraycopy wST_arraycopy wIN_J10 gq435 gq436 rg_33 rg_67 (by decide) (by omega) (by omega) (by omega) (by show _ ≤ ((8 : Nat) : Int); omega) (by show _ ≤ ((8 : Nat) : Int); omega) (AE_in gq436 (by decide)) hl207.1 (by decide) dX8_copyFrom_230 (fun H437 locsH437 hTH437 hSH437 zH437 oH437 vH437 wH437 => ?_)
                    have m438 := (fI_kept (oH437 _ (G_ne gb gq436 (by decide)))).trans m407
                    have m439 := (fI_kept (oH437 _ (G_ne ga gq436 (by decide)))).trans m408
                    have m440 := (m409).trans (fR_kept (oH437 _ (G_ne ga gq436 (by decide)))).symm
                    have m441 := (m410).trans (fR_kept (oH437 _ (G_ne gb gq436 (by decide)))).symm
                    have m442 := (m411).trans (fR_kept (oH437 _ (G_ne ga gq436 (by decide)))).symm
                    have m443 := (m412).trans (fR_kept (oH437 _ (G_ne gb gq436 (by decide)))).symm
                    have m444 := (m413).trans (fI_kept (oH437 _ (G_ne gb gq436 (by decide)))).symm
                    have m445 := (m414).trans (fI_kept (oH437 _ (G_ne ga gq436 (by decide)))).symm
                    have m446 := (m415).trans (fI_kept (oH437 _ (G_ne gb gq436 (by decide)))).symm
                    have m447 := (m416).trans (fI_kept (oH437 _ (G_ne ga gq436 (by decide)))).symm
                    have m448 := (m417).trans (fI_kept (oH437 _ (G_ne gb gq436 (by decide)))).symm
                    have m449 := (m418).trans (fI_kept (oH437 _ (G_ne ga gq436 (by decide)))).symm
                    have m450 := (m419).trans (fI_kept (oH437 _ (G_ne gb gq436 (by decide)))).symm
                    have m451 := (m420).trans (fI_kept (oH437 _ (G_ne ga gq436 (by decide)))).symm
                    have m452 := (m421).trans (fR_kept (oH437 _ (G_ne gb gq436 (by decide)))).symm
                    have m453 := (m422).trans (fR_kept (oH437 _ (G_ne ga gq436 (by decide)))).symm
                    have m454 := (m423).trans (fR_kept (oH437 _ (G_ne gb gq436 (by decide)))).symm
                    have m455 := (m424).trans (fR_kept (oH437 _ (G_ne ga gq436 (by decide)))).symm
                    have m456 := (m425).trans (fI_kept (oH437 _ (G_ne gb gq436 (by decide)))).symm
                    have m457 := (m426).trans (fI_kept (oH437 _ (G_ne ga gq436 (by decide)))).symm
                    have m458 := (m427).trans (fR_kept (oH437 _ (G_ne gb gq436 (by decide)))).symm
                    have m459 := (m428).trans (fR_kept (oH437 _ (G_ne ga gq436 (by decide)))).symm
                    have m460 := (m429).trans (fR_kept (oH437 _ (G_ne gb gq436 (by decide)))).symm
                    have m461 := (m430).trans (fR_kept (oH437 _ (G_ne ga gq436 (by decide)))).symm
                    have m462 := (m431).trans (fI_kept (oH437 _ (G_ne gb gq436 (by decide)))).symm
                    have m463 := (m432).trans (fI_kept (oH437 _ (G_ne ga gq436 (by decide)))).symm
                    have m464 := (m433).trans (fR_kept (oH437 _ (G_ne gb gq436 (by decide)))).symm
                    have m465 := (m434).trans (fR_kept (oH437 _ (G_ne ga gq436 (by decide)))).symm
                    have m466 := (eq435).trans (fR_kept (oH437 _ (G_ne gb gq436 (by decide)))).symm
                    have m467 := (eq436).trans (fR_kept (oH437 _ (G_ne ga gq436 (by decide)))).symm
                    refine lv_aload_n hx hb dX8_copyFrom_233 rfl (lv_at hl207 1 rfl) ?_
                    refine lv_aload_n hx hb dX8_copyFrom_234 rfl (lv_at hl207 2 rfl) ?_
                    refine x_gi C hTH437 (ci := 8) (k := 16) rfl inX8 (by decide) wF_X8_82 gb rg_0 rfl dX8_copyFrom_235 (fun x468 ex468 bx468 => ?_)
                    refine x_put C hTH437 hSH437 (ci := 8) (k := 16) (v := .int x468) (ty0 := tyX8) rfl inX8 tyX8_ok nmX8 (by decide) rfl wF_X8_82 ga rg_34 rfl rfl (okI (by have := i_rng x468; omega) (by have := i_rng x468; omega)) rfl rfl (AE_in ga (by decide)) dX8_copyFrom_238 (fun H469 locsH469 hTH469 hSH469 wH469 => ?_)
                    have m470 := (Wr.neI wH469 (Or.inl (G_ne gb ga (by decide)))).trans m438
                    have m471 := (Wr.neI wH469 (Or.inr (x_apart hKT hts inX8 tyX8 tyX8_ok nmX8 rfl 1 16 (by decide) (by decide) (by decide)))).trans m439
                    have m472 := m440.trans (Wr.neR wH469 (Or.inr (x_apart hKT hts inX8 tyX8 tyX8_ok nmX8 rfl 2 16 (by decide) (by decide) (by decide)))).symm
                    have m473 := m441.trans (Wr.neR wH469 (Or.inl (G_ne gb ga (by decide)))).symm
                    have m474 := m442.trans (Wr.neR wH469 (Or.inr (x_apart hKT hts inX8 tyX8 tyX8_ok nmX8 rfl 3 16 (by decide) (by decide) (by decide)))).symm
                    have m475 := m443.trans (Wr.neR wH469 (Or.inl (G_ne gb ga (by decide)))).symm
                    have m476 := m444.trans (Wr.neI wH469 (Or.inl (G_ne gb ga (by decide)))).symm
                    have m477 := m445.trans (Wr.neI wH469 (Or.inr (x_apart hKT hts inX8 tyX8 tyX8_ok nmX8 rfl 4 16 (by decide) (by decide) (by decide)))).symm
                    have m478 := m446.trans (Wr.neI wH469 (Or.inl (G_ne gb ga (by decide)))).symm
                    have m479 := m447.trans (Wr.neI wH469 (Or.inr (x_apart hKT hts inX8 tyX8 tyX8_ok nmX8 rfl 5 16 (by decide) (by decide) (by decide)))).symm
                    have m480 := m448.trans (Wr.neI wH469 (Or.inl (G_ne gb ga (by decide)))).symm
                    have m481 := m449.trans (Wr.neI wH469 (Or.inr (x_apart hKT hts inX8 tyX8 tyX8_ok nmX8 rfl 6 16 (by decide) (by decide) (by decide)))).symm
                    have m482 := m450.trans (Wr.neI wH469 (Or.inl (G_ne gb ga (by decide)))).symm
                    have m483 := m451.trans (Wr.neI wH469 (Or.inr (x_apart hKT hts inX8 tyX8 tyX8_ok nmX8 rfl 7 16 (by decide) (by decide) (by decide)))).symm
                    have m484 := m452.trans (Wr.neR wH469 (Or.inl (G_ne gb ga (by decide)))).symm
                    have m485 := m453.trans (Wr.neR wH469 (Or.inr (x_apart hKT hts inX8 tyX8 tyX8_ok nmX8 rfl 8 16 (by decide) (by decide) (by decide)))).symm
                    have m486 := m454.trans (Wr.neR wH469 (Or.inl (G_ne gb ga (by decide)))).symm
                    have m487 := m455.trans (Wr.neR wH469 (Or.inr (x_apart hKT hts inX8 tyX8 tyX8_ok nmX8 rfl 9 16 (by decide) (by decide) (by decide)))).symm
                    have m488 := m456.trans (Wr.neI wH469 (Or.inl (G_ne gb ga (by decide)))).symm
                    have m489 := m457.trans (Wr.neI wH469 (Or.inr (x_apart hKT hts inX8 tyX8 tyX8_ok nmX8 rfl 10 16 (by decide) (by decide) (by decide)))).symm
                    have m490 := m458.trans (Wr.neR wH469 (Or.inl (G_ne gb ga (by decide)))).symm
                    have m491 := m459.trans (Wr.neR wH469 (Or.inr (x_apart hKT hts inX8 tyX8 tyX8_ok nmX8 rfl 11 16 (by decide) (by decide) (by decide)))).symm
                    have m492 := m460.trans (Wr.neR wH469 (Or.inl (G_ne gb ga (by decide)))).symm
                    have m493 := m461.trans (Wr.neR wH469 (Or.inr (x_apart hKT hts inX8 tyX8 tyX8_ok nmX8 rfl 12 16 (by decide) (by decide) (by decide)))).symm
                    have m494 := m462.trans (Wr.neI wH469 (Or.inl (G_ne gb ga (by decide)))).symm
                    have m495 := m463.trans (Wr.neI wH469 (Or.inr (x_apart hKT hts inX8 tyX8 tyX8_ok nmX8 rfl 13 16 (by decide) (by decide) (by decide)))).symm
                    have m496 := m464.trans (Wr.neR wH469 (Or.inl (G_ne gb ga (by decide)))).symm
                    have m497 := m465.trans (Wr.neR wH469 (Or.inr (x_apart hKT hts inX8 tyX8 tyX8_ok nmX8 rfl 14 16 (by decide) (by decide) (by decide)))).symm
                    have m498 := m466.trans (Wr.neR wH469 (Or.inl (G_ne gb ga (by decide)))).symm
                    have m499 := m467.trans (Wr.neR wH469 (Or.inr (x_apart hKT hts inX8 tyX8 tyX8_ok nmX8 rfl 15 16 (by decide) (by decide) (by decide)))).symm
                    have m500 := ex468.trans (Wr.neI wH469 (Or.inl (G_ne gb ga (by decide)))).symm
                    have m501 := Wr.I wH469
                    have m501 := m501.symm
                    exact x_vret C hQ dX8_copyFrom_241 hSH469 (by decide) (by decide) (⟨rfl, hTH469⟩)
                  · have k209 := i_nle c208
                    exfalso
                    omega
        · have k141 := i_nle c140
          exfalso
          omega
  · have k105 := i_nle c104
    exfalso
    omega

set_option maxHeartbeats 4000000 in
set_option maxRecDepth 100000 in
theorem f_X9_image_0 (l : Launch) (K : KE) (G : Nat → Option Nat) (H : Heap) {a w : Nat} (hT : TY K G H) (ga : G a = some 68) (gw : G w = some 0) (fx : FX K H a w) : MX l K yX9_image cX9_image 2 (some .boolean) 0 0 0 0 [.ref a, .int 0] H (AE G [] H.size) (fun v H1 => (∃ r : Int32, v = some (.int r) ∧ (r.toInt = 0)) ∧ ∃ G1 : Nat → Option Nat, (∀ q, q < H.size → G1 q = G q) ∧ TY K G1 H1) := by
  refine MX.of (by decide +kernel) (Nat.le_of_ble_eq_true rfl) ?_
  intro p e s m below meth c ls Q C hH hl hQ
  subst hH
  have C : CX p K s m _ meth c RX9 cX9_image 2 (some .boolean) "image" := C
  obtain ⟨hx, hb, hml, hown, hts, hKT, hr, hlocks, hnm⟩ := id C
  have hl : lv_has ls 2 [(0, .ref a), (1, .int 0)] := hl
  have hS : va_S (AE G [] s.heap.size) s.heap s.heap [] := va_S.rf
  have n_0 : (0 : Int32).toInt = 0 := rfl
  obtain ⟨f0, f1, f2, f3, f4, f5, f6, f7, f8, f9, f10⟩ := fx
  have hT_0 := hT
  have hGo : ∀ q, q < s.heap.size → G q = G q := fun _ _ => rfl
  refine lv_iload_n hx hb dX9_image_0 rfl (lv_at hl 1 rfl) ?_
  refine lv_if_eq (tgt := 36) hx hb dX9_image_1 (by decide) (fun c101 => ?_) (fun c101 => ?_)
  · have k102 := i_eq c101
    refine lv_aload_n hx hb dX9_image_36 rfl (lv_at hl 0 rfl) ?_
    refine x_gn C hT (ci := 9) (k := 1) rfl inX9 (by decide) wF_X9_348 ga rg_68 rfl dX9_image_37 (fun _ => ?_) (fun q _ hq _ => absurd (hq.symm.trans f1) (by intro h; cases h))
    refine lv_ifnullN (tgt := 54) hx hb dX9_image_40 (by decide) ?_
    refine lv_aload_n hx hb dX9_image_54 rfl (lv_at hl 0 rfl) ?_
    refine x_gn C hT (ci := 9) (k := 1) rfl inX9 (by decide) wF_X9_348 ga rg_68 rfl dX9_image_55 (fun _ => ?_) (fun q _ hq _ => absurd (hq.symm.trans f1) (by intro h; cases h))
    refine lv_ifnullN (tgt := 65) hx hb dX9_image_58 (by decide) ?_
    refine lv_iconst (v := 0) hx hb dX9_image_65 (by decide) ?_
    exact x_zret C hQ (Or.inl rfl) dX9_image_66 hS (by decide) (by decide) (⟨⟨0, rfl, by omega⟩, G, fun _ _ => rfl, hT⟩)
  · have k102 := i_ne c101
    exfalso
    omega

set_option maxHeartbeats 4000000 in
set_option maxRecDepth 100000 in
theorem f_X9_image_1 (l : Launch) (K : KE) (G : Nat → Option Nat) (H : Heap) {a w : Nat} (hT : TY K G H) (ga : G a = some 68) (gw : G w = some 0) (fx : FX K H a w) : MX l K yX9_image cX9_image 2 (some .boolean) 3 83 434 13027 [.ref a, .int 1] H (AE G [68, 34, 50, 51, 52, 53, 54, 55, 56, 57, 58, 62, 63, 64, 65, 66, 67] H.size) (fun v H1 => (∃ r : Int32, v = some (.int r) ∧ (r.toInt = 1)) ∧ ∃ G1 : Nat → Option Nat, (∀ q, q < H.size → G1 q = G q) ∧ TY K G1 H1) := by
  refine MX.of (by decide +kernel) (Nat.le_of_ble_eq_true rfl) ?_
  intro p e s m below meth c ls Q C hH hl hQ
  subst hH
  have C : CX p K s m _ meth c RX9 cX9_image 2 (some .boolean) "image" := C
  obtain ⟨hx, hb, hml, hown, hts, hKT, hr, hlocks, hnm⟩ := id C
  have hl : lv_has ls 2 [(0, .ref a), (1, .int 1)] := hl
  have hS : va_S (AE G [68, 34, 50, 51, 52, 53, 54, 55, 56, 57, 58, 62, 63, 64, 65, 66, 67] s.heap.size) s.heap s.heap [] := va_S.rf
  have n_0 : (0 : Int32).toInt = 0 := rfl
  have n_1 : (1 : Int32).toInt = 1 := rfl
  obtain ⟨f0, f1, f2, f3, f4, f5, f6, f7, f8, f9, f10⟩ := fx
  have hT_0 := hT
  have hGo : ∀ q, q < s.heap.size → G q = G q := fun _ _ => rfl
  refine lv_iload_n hx hb dX9_image_0 rfl (lv_at hl 1 rfl) ?_
  refine lv_if_eq (tgt := 36) hx hb dX9_image_1 (by decide) (fun c101 => ?_) (fun c101 => ?_)
  · have k102 := i_eq c101
    exfalso
    omega
  · have k102 := i_ne c101
    refine lv_aload_n hx hb dX9_image_4 rfl (lv_at hl 0 rfl) ?_
    refine x_gn C hT (ci := 9) (k := 1) rfl inX9 (by decide) wF_X9_348 ga rg_68 rfl dX9_image_5 (fun _ => ?_) (fun q _ hq _ => absurd (hq.symm.trans f1) (by intro h; cases h))
    refine lv_ifnonnullN hx hb dX9_image_8 ?_
    refine lv_aload_n hx hb dX9_image_11 rfl (lv_at hl 0 rfl) ?_
    refine x_new C hT hS (ci := 8) (ty0 := tyX8) (vs := [.null, .int 0, .null, .null, .int 0, .int 0, .int 0, .int 0, .null, .null, .int 0, .null, .null, .int 0, .null, .null, .int 0]) rfl inX8 tyX8_ok wC_X9_9 wIS_X8 wIN_X8 dfX8 ⟨by decide, by decide⟩ dX9_image_12 (fun H103 hR105 hTH103 hSH103 oH103 zH103 => ?_)
    have hNq104 : G s.heap.size = none := hT.gb _ (Nat.le_refl _)
    have m106 := (f0).trans (fR_kept (oH103 _ (hT.lt ga))).symm
    have m107 := (fV_kept (oH103 _ (hT.lt ga))).trans f1
    have m108 := (fI_kept (oH103 _ (hT.lt ga))).trans f2
    have m109 := (fI_kept (oH103 _ (hT.lt gw))).trans f3
    have m110 := (fI_kept (oH103 _ (hT.lt gw))).trans f4
    have m111 := (fI_kept (oH103 _ (hT.lt gw))).trans f5
    have m112 := (fI_kept (oH103 _ (hT.lt gw))).trans f6
    have m113 := (fI_kept (oH103 _ (hT.lt gw))).trans f7
    have m114 := (fI_kept (oH103 _ (hT.lt gw))).trans f8
    have m115 := (fI_kept (oH103 _ (hT.lt gw))).trans f9
    have m116 := (fI_kept (oH103 _ (hT.lt gw))).trans f10
    obtain ⟨q104, eq104⟩ : ∃ q, q = s.heap.size := ⟨_, rfl⟩
    have leq104 : s.heap.size ≤ q104 := by rw [eq104]; exact hS.1
    rw [← eq104] at hNq104 hR105
    rw [← eq104]
    clear eq104
    clear oH103 zH103 hT
    refine lv_dup hx hb dX9_image_15 rfl ?_
    refine x_I (As := []) (rest := [.ref q104, .ref a]) C (k_X8_init_kept l K G H103 (a := q104) hTH103 hNq104 hR105) yo_X8_init rfl wM_X9_11 ⟨⟨by decide, by decide⟩, by decide, by decide⟩ rfl hl.1 rfl (Nat.le_of_ble_eq_true rfl) dX9_image_16 hSH103 (fun x h => Or.inr (h.elim (fun e => by rw [e]; exact leq104) (fun h => Nat.le_trans hSH103.1 h))) (fun vH117 H117 locsH117 pH117 zH117 kH117 hSH117 => ?_)
    obtain ⟨hvH117, G118, hgH117, ggH117, hTH117, fq104_1, fq104_4, fq104_5, fq104_6, fq104_7, fq104_10, fq104_13, fq104_16⟩ := pH117
    subst hvH117
    have m119 := (m106).trans (fR_kept (kH117 _ (hTH103.lt ga) (fun h => h.elim (g_ne ga hNq104) (Nat.not_le.mpr (hTH103.lt ga))))).symm
    clear m106
    have m120 := (fV_kept (kH117 _ (hTH103.lt ga) (fun h => h.elim (g_ne ga hNq104) (Nat.not_le.mpr (hTH103.lt ga))))).trans m107
    clear m107
    have m121 := (fI_kept (kH117 _ (hTH103.lt ga) (fun h => h.elim (g_ne ga hNq104) (Nat.not_le.mpr (hTH103.lt ga))))).trans m108
    clear m108
    have m122 := (fI_kept (kH117 _ (hTH103.lt gw) (fun h => h.elim (g_ne gw hNq104) (Nat.not_le.mpr (hTH103.lt gw))))).trans m109
    clear m109
    have m123 := (fI_kept (kH117 _ (hTH103.lt gw) (fun h => h.elim (g_ne gw hNq104) (Nat.not_le.mpr (hTH103.lt gw))))).trans m110
    clear m110
    have m124 := (fI_kept (kH117 _ (hTH103.lt gw) (fun h => h.elim (g_ne gw hNq104) (Nat.not_le.mpr (hTH103.lt gw))))).trans m111
    clear m111
    have m125 := (fI_kept (kH117 _ (hTH103.lt gw) (fun h => h.elim (g_ne gw hNq104) (Nat.not_le.mpr (hTH103.lt gw))))).trans m112
    clear m112
    have m126 := (fI_kept (kH117 _ (hTH103.lt gw) (fun h => h.elim (g_ne gw hNq104) (Nat.not_le.mpr (hTH103.lt gw))))).trans m113
    clear m113
    have m127 := (fI_kept (kH117 _ (hTH103.lt gw) (fun h => h.elim (g_ne gw hNq104) (Nat.not_le.mpr (hTH103.lt gw))))).trans m114
    clear m114
    have m128 := (fI_kept (kH117 _ (hTH103.lt gw) (fun h => h.elim (g_ne gw hNq104) (Nat.not_le.mpr (hTH103.lt gw))))).trans m115
    clear m115
    have m129 := (fI_kept (kH117 _ (hTH103.lt gw) (fun h => h.elim (g_ne gw hNq104) (Nat.not_le.mpr (hTH103.lt gw))))).trans m116
    clear m116
    replace ga : G118 a = some 68 := (hgH117 _ (hTH103.lt ga) (g_ne ga hNq104)).trans ga
    replace gw : G118 w = some 0 := (hgH117 _ (hTH103.lt gw) (g_ne gw hNq104)).trans gw
    replace hGo : ∀ q, q < s.heap.size → G118 q = G q := fun q hq => (hgH117 q (Nat.lt_of_lt_of_le hq hSH103.1) (Nat.ne_of_lt (Nat.lt_of_lt_of_le hq leq104))).trans (hGo q hq)
    have gq104 : G118 q104 = some 34 := ggH117
    clear hR105 hNq104 ggH117 hgH117 kH117 zH117 hTH103 
    refine W.eq (g2 := F0 m 19 ls [.ref q104, .ref a]) rfl ?_
    refine x_put C hTH117 hSH117 (ci := 9) (k := 1) (v := .ref q104) (ty0 := tyX9) rfl inX9 tyX9_ok nmX9 (by decide) rfl wF_X9_348 ga rg_68 rfl rfl (Or.inr ⟨q104, rfl, gq104⟩) rfl rfl (AE_sub hGo (fun _ h => h) (Nat.le_refl _) _ (AE_in ga (by decide))) dX9_image_19 (fun H130 locsH130 hTH130 hSH130 wH130 => ?_)
    have m131 := m119.trans (Wr.neR wH130 (Or.inr (x_apart hKT hts inX9 tyX9 tyX9_ok nmX9 rfl 0 1 (by decide) (by decide) (by decide)))).symm
    have m133 := (Wr.neI wH130 (Or.inr (x_apart hKT hts inX9 tyX9 tyX9_ok nmX9 rfl 3 1 (by decide) (by decide) (by decide)))).trans m121
    have m134 := (Wr.neI wH130 (Or.inl (G_ne gw ga (by decide)))).trans m122
    have m135 := (Wr.neI wH130 (Or.inl (G_ne gw ga (by decide)))).trans m123
    have m136 := (Wr.neI wH130 (Or.inl (G_ne gw ga (by decide)))).trans m124
    have m137 := (Wr.neI wH130 (Or.inl (G_ne gw ga (by decide)))).trans m125
    have m138 := (Wr.neI wH130 (Or.inl (G_ne gw ga (by decide)))).trans m126
    have m139 := (Wr.neI wH130 (Or.inl (G_ne gw ga (by decide)))).trans m127
    have m140 := (Wr.neI wH130 (Or.inl (G_ne gw ga (by decide)))).trans m128
    have m141 := (Wr.neI wH130 (Or.inl (G_ne gw ga (by decide)))).trans m129
    have m142 := (Wr.neI wH130 (Or.inl (G_ne gq104 ga (by decide)))).trans fq104_1
    have m143 := (Wr.neI wH130 (Or.inl (G_ne gq104 ga (by decide)))).trans fq104_4
    have m144 := (Wr.neI wH130 (Or.inl (G_ne gq104 ga (by decide)))).trans fq104_5
    have m145 := (Wr.neI wH130 (Or.inl (G_ne gq104 ga (by decide)))).trans fq104_6
    have m146 := (Wr.neI wH130 (Or.inl (G_ne gq104 ga (by decide)))).trans fq104_7
    have m147 := (Wr.neI wH130 (Or.inl (G_ne gq104 ga (by decide)))).trans fq104_10
    have m148 := (Wr.neI wH130 (Or.inl (G_ne gq104 ga (by decide)))).trans fq104_13
    have m149 := (Wr.neI wH130 (Or.inl (G_ne gq104 ga (by decide)))).trans fq104_16
    have m150 := wH130.2.2.1
    refine lv_aload_n hx hb dX9_image_22 rfl (lv_at hl 0 rfl) ?_
    refine x_gn C hTH130 (ci := 9) (k := 1) rfl inX9 (by decide) wF_X9_348 ga rg_68 rfl dX9_image_23 (fun z => absurd (z.symm.trans m150) (by intro h; cases h)) (fun q151 eq151 fq151 gq151 => ?_)
    refine lv_aload_n hx hb dX9_image_26 rfl (lv_at hl 0 rfl) ?_
    refine x_gr C hTH130 (ci := 9) (k := 0) rfl inX9 (by decide) wF_X9_12 ga rg_68 rfl dX9_image_27 (fun q152 eq152 gq152 => ?_)
    have uq152 : w = q152 := (m131).trans eq152.symm
    subst uq152
    refine x_V (As := [.ref w]) (rest := []) C (f_X8_copyFrom l K G118 H130 hTH130 gq151 gw m134) yo_X8_copyFrom wM_X9_351 ⟨⟨by decide, by decide⟩, by decide, by decide⟩ (x_rv C hTH130 (ci := 8) rfl gq151 rg_34) rfl hl.1 rfl (Nat.le_of_ble_eq_true rfl) dX9_image_30 hSH130 (AE_sub hGo (by decide) hSH130.1) (fun vH153 H153 locsH153 pH153 zH153 kH153 hSH153 => ?_)
    have hTH153 := pH153.2
    have hvH153 := pH153.1
    subst hvH153
    have m154 := (m131).trans (fR_kept (x_lt hTH130 kH153 ga (by decide))).symm
    have m155 := (fI_kept (x_lt hTH130 kH153 ga (by decide))).trans m133
    have m156 := (fI_kept (x_lt hTH130 kH153 gw (by decide))).trans m134
    have m157 := (fI_kept (x_lt hTH130 kH153 gw (by decide))).trans m135
    have m158 := (fI_kept (x_lt hTH130 kH153 gw (by decide))).trans m136
    have m159 := (fI_kept (x_lt hTH130 kH153 gw (by decide))).trans m137
    have m160 := (fI_kept (x_lt hTH130 kH153 gw (by decide))).trans m138
    have m161 := (fI_kept (x_lt hTH130 kH153 gw (by decide))).trans m139
    have m162 := (fI_kept (x_lt hTH130 kH153 gw (by decide))).trans m140
    have m163 := (fI_kept (x_lt hTH130 kH153 gw (by decide))).trans m141
    have m164 := (fV_kept (x_lt hTH130 kH153 ga (by decide))).trans m150
    refine W.eq (g2 := F0 m 33 ls []) rfl ?_
    refine lv_goto (tgt := 54) hx hb dX9_image_33 (by decide) ?_
    refine lv_aload_n hx hb dX9_image_54 rfl (lv_at hl 0 rfl) ?_
    refine x_gn C hTH153 (ci := 9) (k := 1) rfl inX9 (by decide) wF_X9_348 ga rg_68 rfl dX9_image_55 (fun z => absurd (z.symm.trans m164) (by intro h; cases h)) (fun q165 eq165 fq165 gq165 => ?_)
    refine lv_ifnull hx hb dX9_image_58 ?_
    refine lv_iconst (v := 1) hx hb dX9_image_61 (by decide) ?_
    refine lv_goto (tgt := 66) hx hb dX9_image_62 (by decide) ?_
    exact x_zret C hQ (Or.inr rfl) dX9_image_66 hSH153 (by decide) (by decide) (⟨⟨1, rfl, by omega⟩, G118, hGo, hTH153⟩)
