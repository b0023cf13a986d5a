set_option maxHeartbeats 4000000 in
set_option maxRecDepth 100000 in
theorem a_X6_toneOf_t (l : Launch) (K : KE) (G : Nat → Option Nat) (H : Heap) {a0 : Nat} {a1 : Nat} (x2 : Int32) {a3 : Nat} {a4 : Nat} {a5 : Nat} {a6 : Nat} (hT : TY K G H) (ga0 : G a0 = some 82) (ga1 : G a1 = some 16) (ga3 : G a3 = some 1) (ga4 : G a4 = some 111) (ga5 : G a5 = some 3) (ga6 : G a6 = some 5) : MX l K yX6_toneOf cX6_toneOf 10 (some .int) 3 75 0 0 [.ref a0, .ref a1, .int x2, .ref a3, .ref a4, .ref a5, .ref a6] H (AE G [83, 84] H.size) (fun v H1 => ∃ (r : Int32), v = some (.int r) ∧ TY K G H1) := by
  refine MX.of (by decide +kernel) (Nat.le_of_ble_eq_true rfl) ?_
  intro p e s m below meth c ls Q C hH hl hQ
  subst hH
  have C : CX p K s m _ meth c RX6 cX6_toneOf 10 (some .int) "toneOf" := C
  obtain ⟨hx, hb, hml, hown, hts, hKT, hr, hlocks, hnm⟩ := id C
  have hl : lv_has ls 10 [(0, .ref a0), (1, .ref a1), (2, .int x2), (3, .ref a3), (4, .ref a4), (5, .ref a5), (6, .ref a6)] := hl
  have hS : va_S (AE G [83, 84] s.heap.size) s.heap s.heap [] := va_S.rf
  have n_0 : (0 : Int32).toInt = 0 := rfl
  have n_1 : (1 : Int32).toInt = 1 := rfl
  have J9 : ∀ (nf : Nat) (ls734 : Array Slot) (H733 : Heap) (locsH733 : List Loc) (x736 : Int32) (x737 : Int32) (x738 : Int32), lv_has ls734 10 [(0, .ref a0), (1, .ref a1), (2, .int x2), (3, .ref a3), (4, .ref a4), (5, .ref a5), (6, .ref a6), (7, .int x736), (8, .int x737), (9, .int x738)] → TY K G H733 → va_S (AE G [83, 84] s.heap.size) s.heap H733 locsH733 → (0 ≤ x738.toInt ∧ x738.toInt ≤ 16) → (16 - x738.toInt < (nf : Int)) → W p l e ({ frames := 3, cells := 0, slots := 0, locals := 75 } : Room) s m (([.ref a0, .ref a1, .int x2, .ref a3, .ref a4, .ref a5, .ref a6] : List Value).toArray) below meth c H733 locsH733 0 0 Q (F0 m 9 ls734 []) := by
    intro nf
    induction nf with
    | zero =>
      intro ls734 H733 locsH733 x736 x737 x738 hl735 hTH733 hSH733 bx738 hm9
      have rx736 := i_rng x736
      have rx737 := i_rng x737
      exfalso
      omega
    | succ nf ih9 =>
      intro ls734 H733 locsH733 x736 x737 x738 hl735 hTH733 hSH733 bx738 hm9
      have rx736 := i_rng x736
      have rx737 := i_rng x737
      refine lv_iload hx hb dX6_toneOf_9 (lv_at hl735 9 rfl) ?_
      refine lv_aload_n hx hb dX6_toneOf_11 rfl (lv_at hl735 3 rfl) ?_
      refine x_gi C hTH733 (ci := 0) (k := 0) rfl inX0 (by decide) wF_X6_18 ga3 rg_1 rfl dX6_toneOf_12 (fun x740 ex740 bx740 => ?_)
      refine lv_icmp_ge (tgt := 70) hx hb dX6_toneOf_15 (by decide) (fun c741 => ?_) (fun c741 => ?_)
      · have k742 := i_le c741
        refine lv_iload hx hb dX6_toneOf_70 (lv_at hl735 7 rfl) ?_
        refine lv_iload hx hb dX6_toneOf_72 (lv_at hl735 8 rfl) ?_
        refine x_SN (As := [.int x736, .int x737]) (rest := []) C (a_X9_ratio l K G H733 (x736) (x737) hTH733 ) yo_X9_ratio wN_X6_82 ⟨⟨by decide, by decide⟩, by decide, by decide⟩ rfl hl735.1 rfl (Nat.le_of_ble_eq_true rfl) dX6_toneOf_74 hSH733 (AE_sub (fun _ _ => rfl) (by decide) hSH733.1) (fun vH743 H743 locsH743 pH743 zH743 kH743 hSH743 => ?_)
        obtain ⟨⟨x744, hvH743, bx744⟩, hTH743⟩ := pH743
        subst hvH743
        have m745 := (ex740).trans (fI_kept (x_lt hTH733 kH743 ga3 (by decide))).symm
        refine W.eq (g2 := F0 m 77 ls734 [.int x744]) rfl ?_
        exact x_iret C hQ dX6_toneOf_77 hSH743 (by decide) (by decide) (⟨x744, rfl, hTH743⟩)
      · have k742 := i_nle c741
        refine lv_aload_n hx hb dX6_toneOf_18 rfl (lv_at hl735 0 rfl) ?_
        refine lv_aload_n hx hb dX6_toneOf_19 rfl (lv_at hl735 3 rfl) ?_
        refine lv_iload hx hb dX6_toneOf_20 (lv_at hl735 9 rfl) ?_
        refine lv_aload hx hb dX6_toneOf_22 (lv_at hl735 4 rfl) ?_
        refine lv_iload hx hb dX6_toneOf_24 (lv_at hl735 9 rfl) ?_
        refine x_ai C hTH733 ga4 rg_111 ⟨by omega, by show _ < ((16 : Nat) : Int); omega⟩ dX6_toneOf_26 (fun x746 ex746 bx746 => ?_)
        refine lv_aload hx hb dX6_toneOf_27 (lv_at hl735 5 rfl) ?_
        refine lv_iload hx hb dX6_toneOf_29 (lv_at hl735 9 rfl) ?_
        refine x_ai C hTH733 ga5 rg_3 ⟨by omega, by show _ < ((16 : Nat) : Int); omega⟩ dX6_toneOf_31 (fun x747 ex747 bx747 => ?_)
        refine lv_aload hx hb dX6_toneOf_32 (lv_at hl735 6 rfl) ?_
        refine lv_iload hx hb dX6_toneOf_34 (lv_at hl735 9 rfl) ?_
        refine x_ai C hTH733 ga6 rg_5 ⟨by omega, by show _ < ((16 : Nat) : Int); omega⟩ dX6_toneOf_36 (fun x748 ex748 bx748 => ?_)
        refine x_V (As := [.ref a3, .int x738, .int x746, .int x747, .int x748]) (rest := []) C (a_X6_seeSlice l K G H733 (x738) (x746) (x747) (x748) hTH733 ga0 ga3 (by omega)) yo_X6_seeSlice wM_X6_75 ⟨⟨by decide, by decide⟩, by decide, by decide⟩ (x_rv C hTH733 (ci := 6) rfl ga0 rg_82) rfl hl735.1 rfl (Nat.le_of_ble_eq_true rfl) dX6_toneOf_37 hSH733 (AE_sub (fun _ _ => rfl) (by decide) hSH733.1) (fun vH749 H749 locsH749 pH749 zH749 kH749 hSH749 => ?_)
        obtain ⟨hvH749, hTH749⟩ := pH749
        subst hvH749
        have m750 := (ex740).trans (fI_kept (x_lt hTH733 kH749 ga3 (by decide))).symm
        have m751 := (ex746).trans (fI_kept (x_lt hTH733 kH749 ga4 (by decide))).symm
        have m752 := (ex747).trans (fI_kept (x_lt hTH733 kH749 ga5 (by decide))).symm
        have m753 := (ex748).trans (fI_kept (x_lt hTH733 kH749 ga6 (by decide))).symm
        refine W.eq (g2 := F0 m 40 ls734 []) rfl ?_
        refine lv_iload hx hb dX6_toneOf_40 (lv_at hl735 7 rfl) ?_
        refine lv_aload_n hx hb dX6_toneOf_42 rfl (lv_at hl735 0 rfl) ?_
        refine lv_aload_n hx hb dX6_toneOf_43 rfl (lv_at hl735 1 rfl) ?_
        refine lv_iconst (v := 0) hx hb dX6_toneOf_44 (by decide) ?_
        refine lv_iload_n hx hb dX6_toneOf_45 rfl (lv_at hl735 2 rfl) ?_
        refine x_V (As := [.ref a1, .int 0, .int x2]) (rest := [.int x736]) C (a_X6_told l K G H749 (0) (x2) hTH749 ga0 ga1) yo_X6_told wM_X6_79 ⟨⟨by decide, by decide⟩, by decide, by decide⟩ (x_rv C hTH749 (ci := 6) rfl ga0 rg_82) rfl hl735.1 rfl (Nat.le_of_ble_eq_true rfl) dX6_toneOf_46 hSH749 (AE_sub (fun _ _ => rfl) (by decide) hSH749.1) (fun vH754 H754 locsH754 pH754 zH754 kH754 hSH754 => ?_)
        obtain ⟨⟨x755, hvH754, bx755⟩, hTH754⟩ := pH754
        subst hvH754
        have m756 := (m750).trans (fI_kept (x_lt hTH749 kH754 ga3 (by decide))).symm
        have m757 := (m751).trans (fI_kept (x_lt hTH749 kH754 ga4 (by decide))).symm
        have m758 := (m752).trans (fI_kept (x_lt hTH749 kH754 ga5 (by decide))).symm
        have m759 := (m753).trans (fI_kept (x_lt hTH749 kH754 ga6 (by decide))).symm
        refine W.eq (g2 := F0 m 49 ls734 [.int x755, .int x736]) rfl ?_
        refine lv_iadd hx hb dX6_toneOf_49 ?_
        refine lv_topi (fun x760 ex760 => ?_)
        refine lv_istore (lv' := [(7, .int x760), (0, .ref a0), (1, .ref a1), (2, .int x2), (3, .ref a3), (4, .ref a4), (5, .ref a5), (6, .ref a6), (8, .int x737), (9, .int x738)]) hx hb dX6_toneOf_50 hl735 (by decide) rfl (fun ls761 hl762 => ?_)
        refine lv_iload hx hb dX6_toneOf_52 (lv_at hl762 8 rfl) ?_
        refine lv_aload_n hx hb dX6_toneOf_54 rfl (lv_at hl762 1 rfl) ?_
        refine lv_aload_n hx hb dX6_toneOf_55 rfl (lv_at hl762 2 rfl) ?_
        refine lv_iconst (v := 1) hx hb dX6_toneOf_56 (by decide) ?_
        refine lv_iload_n hx hb dX6_toneOf_57 rfl (lv_at hl762 3 rfl) ?_
        refine x_V (As := [.ref a1, .int 1, .int x2]) (rest := [.int x737]) C (a_X6_told l K G H754 (1) (x2) hTH754 ga0 ga1) yo_X6_told wM_X6_79 ⟨⟨by decide, by decide⟩, by decide, by decide⟩ (x_rv C hTH754 (ci := 6) rfl ga0 rg_82) rfl hl762.1 rfl (Nat.le_of_ble_eq_true rfl) dX6_toneOf_58 hSH754 (AE_sub (fun _ _ => rfl) (by decide) hSH754.1) (fun vH763 H763 locsH763 pH763 zH763 kH763 hSH763 => ?_)
        obtain ⟨⟨x764, hvH763, bx764⟩, hTH763⟩ := pH763
        subst hvH763
        have m765 := (m756).trans (fI_kept (x_lt hTH754 kH763 ga3 (by decide))).symm
        have m766 := (m757).trans (fI_kept (x_lt hTH754 kH763 ga4 (by decide))).symm
        have m767 := (m758).trans (fI_kept (x_lt hTH754 kH763 ga5 (by decide))).symm
        have m768 := (m759).trans (fI_kept (x_lt hTH754 kH763 ga6 (by decide))).symm
        refine W.eq (g2 := F0 m 61 ls761 [.int x764, .int x737]) rfl ?_
        refine lv_iadd hx hb dX6_toneOf_61 ?_
        refine lv_topi (fun x769 ex769 => ?_)
        refine lv_istore (lv' := [(8, .int x769), (7, .int x760), (0, .ref a0), (1, .ref a1), (2, .int x2), (3, .ref a3), (4, .ref a4), (5, .ref a5), (6, .ref a6), (9, .int x738)]) hx hb dX6_toneOf_62 hl762 (by decide) rfl (fun ls770 hl771 => ?_)
        obtain ⟨x772, ex772⟩ : ∃ y : Int32, y = x738 + 1 := ⟨_, rfl⟩
        have tx772 := i_add ex772 (by omega)
        refine lv_iinc (v := x772) (lv' := [(9, .int x772), (8, .int x769), (7, .int x760), (0, .ref a0), (1, .ref a1), (2, .int x2), (3, .ref a3), (4, .ref a4), (5, .ref a5), (6, .ref a6)]) hx hb dX6_toneOf_64 hl771 (k := 9) rfl (by rw [ex772]; rfl) (by decide) rfl (fun ls773 hl774 => ?_)
        refine lv_goto (tgt := 9) hx hb dX6_toneOf_67 (by decide) ?_
        exact ih9 ls773 H763 locsH763 (x760) (x769) (x772) (lv_sub hl774 [3, 4, 5, 6, 7, 8, 9, 2, 1, 0] rfl) hTH763 hSH763 (by have := i_rng x772; omega) (by omega)
  refine lv_iconst (v := 0) hx hb dX6_toneOf_0 (by decide) ?_
  refine lv_istore (lv' := [(7, .int 0), (0, .ref a0), (1, .ref a1), (2, .int x2), (3, .ref a3), (4, .ref a4), (5, .ref a5), (6, .ref a6)]) hx hb dX6_toneOf_1 hl (by decide) rfl (fun ls775 hl776 => ?_)
  refine lv_iconst (v := 0) hx hb dX6_toneOf_3 (by decide) ?_
  refine lv_istore (lv' := [(8, .int 0), (7, .int 0), (0, .ref a0), (1, .ref a1), (2, .int x2), (3, .ref a3), (4, .ref a4), (5, .ref a5), (6, .ref a6)]) hx hb dX6_toneOf_4 hl776 (by decide) rfl (fun ls777 hl778 => ?_)
  refine lv_iconst (v := 0) hx hb dX6_toneOf_6 (by decide) ?_
  refine lv_istore (lv' := [(9, .int 0), (8, .int 0), (7, .int 0), (0, .ref a0), (1, .ref a1), (2, .int x2), (3, .ref a3), (4, .ref a4), (5, .ref a5), (6, .ref a6)]) hx hb dX6_toneOf_7 hl778 (by decide) rfl (fun ls779 hl780 => ?_)
  exact J9 ((16 - (0 : Int32).toInt).toNat + 1) ls779 s.heap [] (0) (0) (0) (lv_sub hl780 [3, 4, 5, 6, 7, 8, 9, 2, 1, 0] rfl) hT hS (by decide) (by omega)

set_option maxHeartbeats 4000000 in
set_option maxRecDepth 100000 in
theorem a_X6_toneOf_p (l : Launch) (K : KE) (G : Nat → Option Nat) (H : Heap) {a0 : Nat} {a1 : Nat} (x2 : Int32) {a3 : Nat} {a4 : Nat} {a5 : Nat} {a6 : Nat} (hT : TY K G H) (ga0 : G a0 = some 82) (ga1 : G a1 = some 16) (ga3 : G a3 = some 1) (ga4 : G a4 = some 12) (ga5 : G a5 = some 3) (ga6 : G a6 = some 14) : MX l K yX6_toneOf cX6_toneOf 10 (some .int) 3 75 0 0 [.ref a0, .ref a1, .int x2, .ref a3, .ref a4, .ref a5, .ref a6] H (AE G [83, 84] H.size) (fun v H1 => ∃ (r : Int32), v = some (.int r) ∧ TY K G H1) := by
  refine MX.of (by decide +kernel) (Nat.le_of_ble_eq_true rfl) ?_
  intro p e s m below meth c ls Q C hH hl hQ
  subst hH
  have C : CX p K s m _ meth c RX6 cX6_toneOf 10 (some .int) "toneOf" := C
  obtain ⟨hx, hb, hml, hown, hts, hKT, hr, hlocks, hnm⟩ := id C
  have hl : lv_has ls 10 [(0, .ref a0), (1, .ref a1), (2, .int x2), (3, .ref a3), (4, .ref a4), (5, .ref a5), (6, .ref a6)] := hl
  have hS : va_S (AE G [83, 84] s.heap.size) s.heap s.heap [] := va_S.rf
  have n_0 : (0 : Int32).toInt = 0 := rfl
  have n_1 : (1 : Int32).toInt = 1 := rfl
  have J9 : ∀ (nf : Nat) (ls734 : Array Slot) (H733 : Heap) (locsH733 : List Loc) (x736 : Int32) (x737 : Int32) (x738 : Int32), lv_has ls734 10 [(0, .ref a0), (1, .ref a1), (2, .int x2), (3, .ref a3), (4, .ref a4), (5, .ref a5), (6, .ref a6), (7, .int x736), (8, .int x737), (9, .int x738)] → TY K G H733 → va_S (AE G [83, 84] s.heap.size) s.heap H733 locsH733 → (0 ≤ x738.toInt ∧ x738.toInt ≤ 16) → (16 - x738.toInt < (nf : Int)) → W p l e ({ frames := 3, cells := 0, slots := 0, locals := 75 } : Room) s m (([.ref a0, .ref a1, .int x2, .ref a3, .ref a4, .ref a5, .ref a6] : List Value).toArray) below meth c H733 locsH733 0 0 Q (F0 m 9 ls734 []) := by
    intro nf
    induction nf with
    | zero =>
      intro ls734 H733 locsH733 x736 x737 x738 hl735 hTH733 hSH733 bx738 hm9
      have rx736 := i_rng x736
      have rx737 := i_rng x737
      exfalso
      omega
    | succ nf ih9 =>
      intro ls734 H733 locsH733 x736 x737 x738 hl735 hTH733 hSH733 bx738 hm9
      have rx736 := i_rng x736
      have rx737 := i_rng x737
      refine lv_iload hx hb dX6_toneOf_9 (lv_at hl735 9 rfl) ?_
      refine lv_aload_n hx hb dX6_toneOf_11 rfl (lv_at hl735 3 rfl) ?_
      refine x_gi C hTH733 (ci := 0) (k := 0) rfl inX0 (by decide) wF_X6_18 ga3 rg_1 rfl dX6_toneOf_12 (fun x740 ex740 bx740 => ?_)
      refine lv_icmp_ge (tgt := 70) hx hb dX6_toneOf_15 (by decide) (fun c741 => ?_) (fun c741 => ?_)
      · have k742 := i_le c741
        refine lv_iload hx hb dX6_toneOf_70 (lv_at hl735 7 rfl) ?_
        refine lv_iload hx hb dX6_toneOf_72 (lv_at hl735 8 rfl) ?_
        refine x_SN (As := [.int x736, .int x737]) (rest := []) C (a_X9_ratio l K G H733 (x736) (x737) hTH733 ) yo_X9_ratio wN_X6_82 ⟨⟨by decide, by decide⟩, by decide, by decide⟩ rfl hl735.1 rfl (Nat.le_of_ble_eq_true rfl) dX6_toneOf_74 hSH733 (AE_sub (fun _ _ => rfl) (by decide) hSH733.1) (fun vH743 H743 locsH743 pH743 zH743 kH743 hSH743 => ?_)
        obtain ⟨⟨x744, hvH743, bx744⟩, hTH743⟩ := pH743
        subst hvH743
        have m745 := (ex740).trans (fI_kept (x_lt hTH733 kH743 ga3 (by decide))).symm
        refine W.eq (g2 := F0 m 77 ls734 [.int x744]) rfl ?_
        exact x_iret C hQ dX6_toneOf_77 hSH743 (by decide) (by decide) (⟨x744, rfl, hTH743⟩)
      · have k742 := i_nle c741
        refine lv_aload_n hx hb dX6_toneOf_18 rfl (lv_at hl735 0 rfl) ?_
        refine lv_aload_n hx hb dX6_toneOf_19 rfl (lv_at hl735 3 rfl) ?_
        refine lv_iload hx hb dX6_toneOf_20 (lv_at hl735 9 rfl) ?_
        refine lv_aload hx hb dX6_toneOf_22 (lv_at hl735 4 rfl) ?_
        refine lv_iload hx hb dX6_toneOf_24 (lv_at hl735 9 rfl) ?_
        refine x_ai C hTH733 ga4 rg_12 ⟨by omega, by show _ < ((16 : Nat) : Int); omega⟩ dX6_toneOf_26 (fun x746 ex746 bx746 => ?_)
        refine lv_aload hx hb dX6_toneOf_27 (lv_at hl735 5 rfl) ?_
        refine lv_iload hx hb dX6_toneOf_29 (lv_at hl735 9 rfl) ?_
        refine x_ai C hTH733 ga5 rg_3 ⟨by omega, by show _ < ((16 : Nat) : Int); omega⟩ dX6_toneOf_31 (fun x747 ex747 bx747 => ?_)
        refine lv_aload hx hb dX6_toneOf_32 (lv_at hl735 6 rfl) ?_
        refine lv_iload hx hb dX6_toneOf_34 (lv_at hl735 9 rfl) ?_
        refine x_ai C hTH733 ga6 rg_14 ⟨by omega, by show _ < ((16 : Nat) : Int); omega⟩ dX6_toneOf_36 (fun x748 ex748 bx748 => ?_)
        refine x_V (As := [.ref a3, .int x738, .int x746, .int x747, .int x748]) (rest := []) C (a_X6_seeSlice l K G H733 (x738) (x746) (x747) (x748) hTH733 ga0 ga3 (by omega)) yo_X6_seeSlice wM_X6_75 ⟨⟨by decide, by decide⟩, by decide, by decide⟩ (x_rv C hTH733 (ci := 6) rfl ga0 rg_82) rfl hl735.1 rfl (Nat.le_of_ble_eq_true rfl) dX6_toneOf_37 hSH733 (AE_sub (fun _ _ => rfl) (by decide) hSH733.1) (fun vH749 H749 locsH749 pH749 zH749 kH749 hSH749 => ?_)
        obtain ⟨hvH749, hTH749⟩ := pH749
        subst hvH749
        have m750 := (ex740).trans (fI_kept (x_lt hTH733 kH749 ga3 (by decide))).symm
        have m751 := (ex746).trans (fI_kept (x_lt hTH733 kH749 ga4 (by decide))).symm
        have m752 := (ex747).trans (fI_kept (x_lt hTH733 kH749 ga5 (by decide))).symm
        have m753 := (ex748).trans (fI_kept (x_lt hTH733 kH749 ga6 (by decide))).symm
        refine W.eq (g2 := F0 m 40 ls734 []) rfl ?_
        refine lv_iload hx hb dX6_toneOf_40 (lv_at hl735 7 rfl) ?_
        refine lv_aload_n hx hb dX6_toneOf_42 rfl (lv_at hl735 0 rfl) ?_
        refine lv_aload_n hx hb dX6_toneOf_43 rfl (lv_at hl735 1 rfl) ?_
        refine lv_iconst (v := 0) hx hb dX6_toneOf_44 (by decide) ?_
        refine lv_iload_n hx hb dX6_toneOf_45 rfl (lv_at hl735 2 rfl) ?_
        refine x_V (As := [.ref a1, .int 0, .int x2]) (rest := [.int x736]) C (a_X6_told l K G H749 (0) (x2) hTH749 ga0 ga1) yo_X6_told wM_X6_79 ⟨⟨by decide, by decide⟩, by decide, by decide⟩ (x_rv C hTH749 (ci := 6) rfl ga0 rg_82) rfl hl735.1 rfl (Nat.le_of_ble_eq_true rfl) dX6_toneOf_46 hSH749 (AE_sub (fun _ _ => rfl) (by decide) hSH749.1) (fun vH754 H754 locsH754 pH754 zH754 kH754 hSH754 => ?_)
        obtain ⟨⟨x755, hvH754, bx755⟩, hTH754⟩ := pH754
        subst hvH754
        have m756 := (m750).trans (fI_kept (x_lt hTH749 kH754 ga3 (by decide))).symm
        have m757 := (m751).trans (fI_kept (x_lt hTH749 kH754 ga4 (by decide))).symm
        have m758 := (m752).trans (fI_kept (x_lt hTH749 kH754 ga5 (by decide))).symm
        have m759 := (m753).trans (fI_kept (x_lt hTH749 kH754 ga6 (by decide))).symm
        refine W.eq (g2 := F0 m 49 ls734 [.int x755, .int x736]) rfl ?_
        refine lv_iadd hx hb dX6_toneOf_49 ?_
        refine lv_topi (fun x760 ex760 => ?_)
        refine lv_istore (lv' := [(7, .int x760), (0, .ref a0), (1, .ref a1), (2, .int x2), (3, .ref a3), (4, .ref a4), (5, .ref a5), (6, .ref a6), (8, .int x737), (9, .int x738)]) hx hb dX6_toneOf_50 hl735 (by decide) rfl (fun ls761 hl762 => ?_)
        refine lv_iload hx hb dX6_toneOf_52 (lv_at hl762 8 rfl) ?_
        refine lv_aload_n hx hb dX6_toneOf_54 rfl (lv_at hl762 1 rfl) ?_
        refine lv_aload_n hx hb dX6_toneOf_55 rfl (lv_at hl762 2 rfl) ?_
        refine lv_iconst (v := 1) hx hb dX6_toneOf_56 (by decide) ?_
        refine lv_iload_n hx hb dX6_toneOf_57 rfl (lv_at hl762 3 rfl) ?_
        refine x_V (As := [.ref a1, .int 1, .int x2]) (rest := [.int x737]) C (a_X6_told l K G H754 (1) (x2) hTH754 ga0 ga1) yo_X6_told wM_X6_79 ⟨⟨by decide, by decide⟩, by decide, by decide⟩ (x_rv C hTH754 (ci := 6) rfl ga0 rg_82) rfl hl762.1 rfl (Nat.le_of_ble_eq_true rfl) dX6_toneOf_58 hSH754 (AE_sub (fun _ _ => rfl) (by decide) hSH754.1) (fun vH763 H763 locsH763 pH763 zH763 kH763 hSH763 => ?_)
        obtain ⟨⟨x764, hvH763, bx764⟩, hTH763⟩ := pH763
        subst hvH763
        have m765 := (m756).trans (fI_kept (x_lt hTH754 kH763 ga3 (by decide))).symm
        have m766 := (m757).trans (fI_kept (x_lt hTH754 kH763 ga4 (by decide))).symm
        have m767 := (m758).trans (fI_kept (x_lt hTH754 kH763 ga5 (by decide))).symm
        have m768 := (m759).trans (fI_kept (x_lt hTH754 kH763 ga6 (by decide))).symm
        refine W.eq (g2 := F0 m 61 ls761 [.int x764, .int x737]) rfl ?_
        refine lv_iadd hx hb dX6_toneOf_61 ?_
        refine lv_topi (fun x769 ex769 => ?_)
        refine lv_istore (lv' := [(8, .int x769), (7, .int x760), (0, .ref a0), (1, .ref a1), (2, .int x2), (3, .ref a3), (4, .ref a4), (5, .ref a5), (6, .ref a6), (9, .int x738)]) hx hb dX6_toneOf_62 hl762 (by decide) rfl (fun ls770 hl771 => ?_)
        obtain ⟨x772, ex772⟩ : ∃ y : Int32, y = x738 + 1 := ⟨_, rfl⟩
        have tx772 := i_add ex772 (by omega)
        refine lv_iinc (v := x772) (lv' := [(9, .int x772), (8, .int x769), (7, .int x760), (0, .ref a0), (1, .ref a1), (2, .int x2), (3, .ref a3), (4, .ref a4), (5, .ref a5), (6, .ref a6)]) hx hb dX6_toneOf_64 hl771 (k := 9) rfl (by rw [ex772]; rfl) (by decide) rfl (fun ls773 hl774 => ?_)
        refine lv_goto (tgt := 9) hx hb dX6_toneOf_67 (by decide) ?_
        exact ih9 ls773 H763 locsH763 (x760) (x769) (x772) (lv_sub hl774 [3, 4, 5, 6, 7, 8, 9, 2, 1, 0] rfl) hTH763 hSH763 (by have := i_rng x772; omega) (by omega)
  refine lv_iconst (v := 0) hx hb dX6_toneOf_0 (by decide) ?_
  refine lv_istore (lv' := [(7, .int 0), (0, .ref a0), (1, .ref a1), (2, .int x2), (3, .ref a3), (4, .ref a4), (5, .ref a5), (6, .ref a6)]) hx hb dX6_toneOf_1 hl (by decide) rfl (fun ls775 hl776 => ?_)
  refine lv_iconst (v := 0) hx hb dX6_toneOf_3 (by decide) ?_
  refine lv_istore (lv' := [(8, .int 0), (7, .int 0), (0, .ref a0), (1, .ref a1), (2, .int x2), (3, .ref a3), (4, .ref a4), (5, .ref a5), (6, .ref a6)]) hx hb dX6_toneOf_4 hl776 (by decide) rfl (fun ls777 hl778 => ?_)
  refine lv_iconst (v := 0) hx hb dX6_toneOf_6 (by decide) ?_
  refine lv_istore (lv' := [(9, .int 0), (8, .int 0), (7, .int 0), (0, .ref a0), (1, .ref a1), (2, .int x2), (3, .ref a3), (4, .ref a4), (5, .ref a5), (6, .ref a6)]) hx hb dX6_toneOf_7 hl778 (by decide) rfl (fun ls779 hl780 => ?_)
  exact J9 ((16 - (0 : Int32).toInt).toNat + 1) ls779 s.heap [] (0) (0) (0) (lv_sub hl780 [3, 4, 5, 6, 7, 8, 9, 2, 1, 0] rfl) hT hS (by decide) (by omega)

set_option maxHeartbeats 4000000 in
set_option maxRecDepth 100000 in
theorem a_X9_offOf (l : Launch) (K : KE) (G : Nat → Option Nat) (H : Heap) {a0 : Nat} {a1 : Nat} (hT : TY K G H) (ga0 : G a0 = some 68) (ga1 : G a1 = some 16) : MX l K yX9_offOf cX9_offOf 8 (some .int) 4 104 0 0 [.ref a0, .ref a1] H (AE G [83, 84] H.size) (fun v H1 => ∃ (r : Int32), v = some (.int r) ∧ TY K G H1) := by
  refine MX.of (by decide +kernel) (Nat.le_of_ble_eq_true rfl) ?_
  intro p e s m below meth c ls Q C hH hl hQ
  subst hH
  have C : CX p K s m _ meth c RX9 cX9_offOf 8 (some .int) "offOf" := C
  obtain ⟨hx, hb, hml, hown, hts, hKT, hr, hlocks, hnm⟩ := id C
  have hl : lv_has ls 8 [(0, .ref a0), (1, .ref a1)] := hl
  have hS : va_S (AE G [83, 84] s.heap.size) s.heap s.heap [] := va_S.rf
  have n_0 : (0 : Int32).toInt = 0 := rfl
  have n_1 : (1 : Int32).toInt = 1 := rfl
  have l_0 : (0 : Int64).toInt = 0 := rfl
  have l_999999999 : (999999999 : Int64).toInt = 999999999 := rfl
  have J5 : ∀ (nf : Nat) (ls1138 : Array Slot) (H1137 : Heap) (locsH1137 : List Loc) (y1140 : Int64) (x1141 : Int32), lv_has ls1138 8 [(0, .ref a0), (1, .ref a1), (2, .long y1140), (4, .int x1141)] → TY K G H1137 → va_S (AE G [83, 84] s.heap.size) s.heap H1137 locsH1137 → (0 ≤ x1141.toInt ∧ x1141.toInt ≤ 10) → (10 - x1141.toInt < (nf : Int)) → W p l e ({ frames := 4, cells := 0, slots := 0, locals := 104 } : Room) s m (([.ref a0, .ref a1] : List Value).toArray) below meth c H1137 locsH1137 0 0 Q (F0 m 5 ls1138 []) := by
    intro nf
    induction nf with
    | zero =>
      intro ls1138 H1137 locsH1137 y1140 x1141 hl1139 hTH1137 hSH1137 bx1141 hm5
      exfalso
      omega
    | succ nf ih5 =>
      intro ls1138 H1137 locsH1137 y1140 x1141 hl1139 hTH1137 hSH1137 bx1141 hm5
      have J32 : ∀ (nf : Nat) (ls1144 : Array Slot) (H1143 : Heap) (locsH1143 : List Loc) (y1146 : Int64) (q1148 : Nat) (x1149 : Int32), lv_has ls1144 8 [(0, .ref a0), (1, .ref a1), (2, .long y1146), (4, .int x1141), (5, .ref q1148), (6, .int x1149)] → TY K G H1143 → va_S (AE G [83, 84] s.heap.size) s.heap H1143 locsH1143 → (0 ≤ x1141.toInt ∧ x1141.toInt ≤ 9) → (G q1148 = some 1) → (0 ≤ x1149.toInt ∧ x1149.toInt ≤ 12) → (12 - x1149.toInt < (nf : Int)) → W p l e ({ frames := 4, cells := 0, slots := 0, locals := 104 } : Room) s m (([.ref a0, .ref a1] : List Value).toArray) below meth c H1143 locsH1143 0 0 Q (F0 m 32 ls1144 []) := by
        intro nf
        induction nf with
        | zero =>
          intro ls1144 H1143 locsH1143 y1146 q1148 x1149 hl1145 hTH1143 hSH1143 b1147 gq1148 bx1149 hm32
          exfalso
          omega
        | succ nf ih32 =>
          intro ls1144 H1143 locsH1143 y1146 q1148 x1149 hl1145 hTH1143 hSH1143 b1147 gq1148 bx1149 hm32
          refine lv_iload hx hb dX9_offOf_32 (lv_at hl1145 5 rfl) ?_
          refine lv_aload hx hb dX9_offOf_34 (lv_at hl1145 4 rfl) ?_
          refine x_gi C hTH1143 (ci := 0) (k := 14) rfl inX0 (by decide) wF_X9_200 gq1148 rg_1 rfl dX9_offOf_36 (fun x1151 ex1151 bx1151 => ?_)
          refine lv_icmp_ge (tgt := 107) hx hb dX9_offOf_39 (by decide) (fun c1152 => ?_) (fun c1152 => ?_)
          · have k1153 := i_le c1152
            obtain ⟨x1154, ex1154⟩ : ∃ y : Int32, y = x1141 + 1 := ⟨_, rfl⟩
            have tx1154 := i_add ex1154 (by omega)
            refine lv_iinc (v := x1154) (lv' := [(4, .int x1154), (0, .ref a0), (1, .ref a1), (2, .long y1146), (5, .ref q1148), (6, .int x1149)]) hx hb dX9_offOf_107 hl1145 (k := 3) rfl (by rw [ex1154]; rfl) (by decide) rfl (fun ls1155 hl1156 => ?_)
            refine lv_goto (tgt := 5) hx hb dX9_offOf_110 (by decide) ?_
            exact ih5 ls1155 H1143 locsH1143 (y1146) (x1154) (lv_sub hl1156 [1, 2, 3, 0] rfl) hTH1143 hSH1143 (by have := i_rng x1154; omega) (by omega)
          · have k1153 := i_nle c1152
            refine lv_aload_n hx hb dX9_offOf_42 rfl (lv_at hl1145 0 rfl) ?_
            refine x_gr C hTH1143 (ci := 9) (k := 5) rfl inX9 (by decide) wF_X9_30 ga0 rg_68 rfl dX9_offOf_43 (fun q1157 eq1157 gq1157 => ?_)
            refine lv_aload_n hx hb dX9_offOf_46 rfl (lv_at hl1145 1 rfl) ?_
            refine lv_aload hx hb dX9_offOf_47 (lv_at hl1145 4 rfl) ?_
            refine x_gr C hTH1143 (ci := 0) (k := 10) rfl inX0 (by decide) wF_X9_398 gq1148 rg_1 rfl dX9_offOf_49 (fun q1158 eq1158 gq1158 => ?_)
            refine lv_iload hx hb dX9_offOf_52 (lv_at hl1145 5 rfl) ?_
            refine x_ai C hTH1143 gq1158 rg_9 ⟨by omega, by show _ < ((12 : Nat) : Int); omega⟩ dX9_offOf_54 (fun x1159 ex1159 bx1159 => ?_)
            refine lv_aload hx hb dX9_offOf_55 (lv_at hl1145 4 rfl) ?_
            refine lv_aload hx hb dX9_offOf_57 (lv_at hl1145 4 rfl) ?_
            refine x_gr C hTH1143 (ci := 0) (k := 12) rfl inX0 (by decide) wF_X9_401 gq1148 rg_1 rfl dX9_offOf_59 (fun q1160 eq1160 gq1160 => ?_)
            refine lv_iload hx hb dX9_offOf_62 (lv_at hl1145 5 rfl) ?_
            refine x_ar C hTH1143 rfl rfl gq1160 rg_11 ⟨by omega, by show _ < ((12 : Nat) : Int); omega⟩ dX9_offOf_64 (fun q1161 eq1161 gq1161 => ?_)
            refine lv_aload hx hb dX9_offOf_65 (lv_at hl1145 4 rfl) ?_
            refine x_gr C hTH1143 (ci := 0) (k := 2) rfl inX0 (by decide) wF_X9_96 gq1148 rg_1 rfl dX9_offOf_67 (fun q1162 eq1162 gq1162 => ?_)
            refine lv_aload hx hb dX9_offOf_70 (lv_at hl1145 4 rfl) ?_
            refine x_gr C hTH1143 (ci := 0) (k := 13) rfl inX0 (by decide) wF_X9_405 gq1148 rg_1 rfl dX9_offOf_72 (fun q1163 eq1163 gq1163 => ?_)
            refine lv_iload hx hb dX9_offOf_75 (lv_at hl1145 5 rfl) ?_
            refine x_ar C hTH1143 rfl rfl gq1163 rg_13 ⟨by omega, by show _ < ((12 : Nat) : Int); omega⟩ dX9_offOf_77 (fun q1164 eq1164 gq1164 => ?_)
            refine x_V (As := [.ref a1, .int x1159, .ref q1148, .ref q1161, .ref q1162, .ref q1164]) (rest := []) C (a_X6_toneOf_p l K G H1143 (x1159) hTH1143 gq1157 ga1 gq1148 gq1161 gq1162 gq1164) yo_X6_toneOf wM_X9_216 ⟨⟨by decide, by decide⟩, by decide, by decide⟩ (x_rv C hTH1143 (ci := 6) rfl gq1157 rg_82) rfl hl1145.1 rfl (Nat.le_of_ble_eq_true rfl) dX9_offOf_78 hSH1143 (AE_sub (fun _ _ => rfl) (by decide) hSH1143.1) (fun vH1165 H1165 locsH1165 pH1165 zH1165 kH1165 hSH1165 => ?_)
            obtain ⟨x1166, hvH1165, hTH1165⟩ := pH1165
            subst hvH1165
            have m1167 := (ex1151).trans (fI_kept (x_lt hTH1143 kH1165 gq1148 (by decide))).symm
            have m1168 := (eq1157).trans (fR_kept (x_lt hTH1143 kH1165 ga0 (by decide))).symm
            have m1169 := (eq1158).trans (fR_kept (x_lt hTH1143 kH1165 gq1148 (by decide))).symm
            have m1170 := (ex1159).trans (fI_kept (x_lt hTH1143 kH1165 gq1158 (by decide))).symm
            have m1171 := (eq1160).trans (fR_kept (x_lt hTH1143 kH1165 gq1148 (by decide))).symm
            have m1172 := (eq1162).trans (fR_kept (x_lt hTH1143 kH1165 gq1148 (by decide))).symm
            have m1173 := (eq1163).trans (fR_kept (x_lt hTH1143 kH1165 gq1148 (by decide))).symm
            refine W.eq (g2 := F0 m 81 ls1144 [.int x1166]) rfl ?_
            refine lv_istore (lv' := [(7, .int x1166), (0, .ref a0), (1, .ref a1), (2, .long y1146), (4, .int x1141), (5, .ref q1148), (6, .int x1149)]) hx hb dX9_offOf_81 hl1145 (by decide) rfl (fun ls1174 hl1175 => ?_)
            refine lv_lload_n hx hb dX9_offOf_83 rfl (lv_at hl1175 3 rfl) ?_
            refine lv_iload hx hb dX9_offOf_84 (lv_at hl1175 0 rfl) ?_
            refine lv_aload hx hb dX9_offOf_86 (lv_at hl1175 5 rfl) ?_
            refine x_gr C hTH1165 (ci := 0) (k := 11) rfl inX0 (by decide) wF_X9_408 gq1148 rg_1 rfl dX9_offOf_88 (fun q1176 eq1176 gq1176 => ?_)
            refine lv_iload hx hb dX9_offOf_91 (lv_at hl1175 6 rfl) ?_
            refine x_ai C hTH1165 gq1176 rg_10 ⟨by omega, by show _ < ((12 : Nat) : Int); omega⟩ dX9_offOf_93 (fun x1177 ex1177 bx1177 => ?_)
            refine lv_isub hx hb dX9_offOf_94 ?_
            refine lv_topi (fun x1178 ex1178 => ?_)
            refine va_mabs hx hb (hml.trans hl1175.1.symm) hown (hts _ wM_X9_362) (hts _ wST_J9_abs_0f7a4) (hts _ wIN_J9) (hts _ wCD_J9_abs_0f7a4) (by decide) (Nat.le_of_ble_eq_true rfl) (by decide) (by decide) dX9_offOf_95 ?_
            refine lv_topi (fun x1179 ex1179 => ?_)
            obtain ⟨y1180, ey1180⟩ : ∃ z : Int64, x1179.toInt64 = z := ⟨_, rfl⟩
            have ty1180 := j_i2l ey1180
            have ry1180 := i_rng x1179
            refine lv_i2l (v := y1180) hx hb dX9_offOf_98 ey1180 ?_
            refine lv_ladd hx hb dX9_offOf_99 ?_
            refine lv_topl (fun y1181 ey1181 => ?_)
            refine lv_lstore_n (lv' := [(2, .long y1181), (7, .int x1166), (0, .ref a0), (1, .ref a1), (4, .int x1141), (5, .ref q1148), (6, .int x1149)]) hx hb dX9_offOf_100 rfl hl1175 (by decide) rfl (fun ls1182 hl1183 => ?_)
            obtain ⟨x1184, ex1184⟩ : ∃ y : Int32, y = x1149 + 1 := ⟨_, rfl⟩
            have tx1184 := i_add ex1184 (by omega)
            refine lv_iinc (v := x1184) (lv' := [(6, .int x1184), (2, .long y1181), (7, .int x1166), (0, .ref a0), (1, .ref a1), (4, .int x1141), (5, .ref q1148)]) hx hb dX9_offOf_101 hl1183 (k := 6) rfl (by rw [ex1184]; rfl) (by decide) rfl (fun ls1185 hl1186 => ?_)
            refine lv_goto (tgt := 32) hx hb dX9_offOf_104 (by decide) ?_
            exact ih32 ls1185 H1165 locsH1165 (y1181) (q1148) (x1184) (lv_sub hl1186 [3, 4, 1, 5, 6, 0] rfl) hTH1165 hSH1165 (by have := i_rng x1141; omega) gq1148 (by have := i_rng x1184; omega) (by omega)
      refine lv_iload hx hb dX9_offOf_5 (lv_at hl1139 3 rfl) ?_
      refine lv_aload_n hx hb dX9_offOf_7 rfl (lv_at hl1139 0 rfl) ?_
      refine x_gr C hTH1137 (ci := 9) (k := 0) rfl inX9 (by decide) wF_X9_12 ga0 rg_68 rfl dX9_offOf_8 (fun q1187 eq1187 gq1187 => ?_)
      refine x_gi C hTH1137 (ci := 8) (k := 1) rfl inX8 (by decide) wF_X9_64 gq1187 rg_0 rfl dX9_offOf_11 (fun x1188 ex1188 bx1188 => ?_)
      refine lv_icmp_ge (tgt := 113) hx hb dX9_offOf_14 (by decide) (fun c1189 => ?_) (fun c1189 => ?_)
      · have k1190 := i_le c1189
        refine lv_lload_n hx hb dX9_offOf_113 rfl (lv_at hl1139 2 rfl) ?_
        refine lv_ldc2 (v := 999999999) hx hb hown (hts _ wK_X9_411) dX9_offOf_114 ?_
        refine va_mmin_long hx hb (hml.trans hl1139.1.symm) hown (hts _ wM_X9_413) (hts _ wST_J9_min_f86c9) (hts _ wIN_J9) (hts _ wCD_J9_min_f86c9) (by decide) (Nat.le_of_ble_eq_true rfl) (by decide) (by decide) dX9_offOf_117 ?_
        refine lv_topl (fun y1191 ey1191 => ?_)
        have ty1191 := j_min ey1191
        obtain ⟨x1192, ex1192⟩ : ∃ z : Int32, (y1191 : Int64).toInt32 = z := ⟨_, rfl⟩
        refine lv_l2i (v := x1192) hx hb dX9_offOf_120 ex1192 ?_
        exact x_iret C hQ dX9_offOf_121 hSH1137 (by decide) (by decide) (⟨x1192, rfl, hTH1137⟩)
      · have k1190 := i_nle c1189
        refine lv_aload_n hx hb dX9_offOf_17 rfl (lv_at hl1139 0 rfl) ?_
        refine x_gr C hTH1137 (ci := 9) (k := 0) rfl inX9 (by decide) wF_X9_12 ga0 rg_68 rfl dX9_offOf_18 (fun q1193 eq1193 gq1193 => ?_)
        have uq1193 : q1187 = q1193 := (eq1187).trans eq1193.symm
        subst uq1193
        refine x_gr C hTH1137 (ci := 8) (k := 0) rfl inX8 (by decide) wF_X9_68 gq1187 rg_0 rfl dX9_offOf_21 (fun q1194 eq1194 gq1194 => ?_)
        refine lv_iload hx hb dX9_offOf_24 (lv_at hl1139 3 rfl) ?_
        refine x_ar C hTH1137 rfl rfl gq1194 rg_25 ⟨by omega, by show _ < ((10 : Nat) : Int); omega⟩ dX9_offOf_26 (fun q1195 eq1195 gq1195 => ?_)
        refine lv_astore (lv' := [(5, .ref q1195), (0, .ref a0), (1, .ref a1), (2, .long y1140), (4, .int x1141)]) hx hb dX9_offOf_27 hl1139 (by decide) rfl (fun ls1196 hl1197 => ?_)
        refine lv_iconst (v := 0) hx hb dX9_offOf_29 (by decide) ?_
        refine lv_istore (lv' := [(6, .int 0), (5, .ref q1195), (0, .ref a0), (1, .ref a1), (2, .long y1140), (4, .int x1141)]) hx hb dX9_offOf_30 hl1197 (by decide) rfl (fun ls1198 hl1199 => ?_)
        exact J32 ((12 - (0 : Int32).toInt).toNat + 1) ls1198 H1137 locsH1137 (y1140) (q1195) (0) (lv_sub hl1199 [2, 3, 4, 5, 1, 0] rfl) hTH1137 hSH1137 (by have := i_rng x1141; omega) gq1195 (by decide) (by omega)
  refine lv_lconst (v := 0) hx hb dX9_offOf_0 (by decide) ?_
  refine lv_lstore_n (lv' := [(2, .long 0), (0, .ref a0), (1, .ref a1)]) hx hb dX9_offOf_1 rfl hl (by decide) rfl (fun ls1200 hl1201 => ?_)
  refine lv_iconst (v := 0) hx hb dX9_offOf_2 (by decide) ?_
  refine lv_istore (lv' := [(4, .int 0), (2, .long 0), (0, .ref a0), (1, .ref a1)]) hx hb dX9_offOf_3 hl1201 (by decide) rfl (fun ls1202 hl1203 => ?_)
  exact J5 ((10 - (0 : Int32).toInt).toNat + 1) ls1202 s.heap [] (0) (0) (lv_sub hl1203 [2, 3, 1, 0] rfl) hT hS (by decide) (by omega)

set_option maxHeartbeats 4000000 in
set_option maxRecDepth 100000 in
theorem a_X0_has_s (l : Launch) (K : KE) (G : Nat → Option Nat) (H : Heap) {a0 : Nat} (x1 : Int32) (sz : Int32) (hT : TY K G H) (ga0 : G a0 = some 1) (esz : sz = fI H a0 (K.1.2 0 0)) : MX l K yX0_has cX0_has 2 (some .boolean) 0 0 0 0 [.ref a0, .int x1] H (AE G [] H.size) (fun v H1 => ∃ (r : Int32), v = some (.int r) ∧ (0 ≤ r.toInt ∧ r.toInt ≤ 1) ∧ (r.toInt = 0 ∨ (0 ≤ x1.toInt ∧ x1.toInt < sz.toInt)) ∧ TY K G H1) := by
  refine MX.of (by decide +kernel) (Nat.le_of_ble_eq_true rfl) ?_
  intro p e s m below meth c ls Q C hH hl hQ
  subst hH
  have C : CX p K s m _ meth c RX0 cX0_has 2 (some .boolean) "has" := C
  obtain ⟨hx, hb, hml, hown, hts, hKT, hr, hlocks, hnm⟩ := id C
  have hl : lv_has ls 2 [(0, .ref a0), (1, .int x1)] := hl
  have hS : va_S (AE G [] s.heap.size) s.heap s.heap [] := va_S.rf
  have n_0 : (0 : Int32).toInt = 0 := rfl
  have n_1 : (1 : Int32).toInt = 1 := rfl
  have bsz := ty_fi (x := sz) (k := 0) esz hT ga0 rg_1 rfl
  refine lv_iload_n hx hb dX0_has_0 rfl (lv_at hl 1 rfl) ?_
  refine lv_if_lt (tgt := 16) hx hb dX0_has_1 (by decide) (fun c121 => ?_) (fun c121 => ?_)
  · have k122 := i_lt c121
    refine lv_iconst (v := 0) hx hb dX0_has_16 (by decide) ?_
    exact x_zret C hQ (Or.inl rfl) dX0_has_17 hS (by decide) (by decide) (⟨0, rfl, by decide, by omega, hT⟩)
  · have k122 := i_nlt c121
    refine lv_iload_n hx hb dX0_has_4 rfl (lv_at hl 1 rfl) ?_
    refine lv_aload_n hx hb dX0_has_5 rfl (lv_at hl 0 rfl) ?_
    refine x_gi C hT (ci := 0) (k := 0) rfl inX0 (by decide) wF_X0_50 ga0 rg_1 rfl dX0_has_6 (fun x123 ex123 bx123 => ?_)
    have ux123 : sz = x123 := (esz).trans ex123.symm
    subst ux123
    refine lv_icmp_ge (tgt := 16) hx hb dX0_has_9 (by decide) (fun c124 => ?_) (fun c124 => ?_)
    · have k125 := i_le c124
      refine lv_iconst (v := 0) hx hb dX0_has_16 (by decide) ?_
      exact x_zret C hQ (Or.inl rfl) dX0_has_17 hS (by decide) (by decide) (⟨0, rfl, by decide, by omega, hT⟩)
    · have k125 := i_nle c124
      refine lv_iconst (v := 1) hx hb dX0_has_12 (by decide) ?_
      refine lv_goto (tgt := 17) hx hb dX0_has_13 (by decide) ?_
      exact x_zret C hQ (Or.inr rfl) dX0_has_17 hS (by decide) (by decide) (⟨1, rfl, by decide, by omega, hT⟩)
