theorem DB.lt {H : Heap} {bq : Nat} (h : DB H bq) : ∀ {j i : Nat}, i < j → j < 10 → fR H bq i < fR H bq j := by
  intro j
  induction j with
  | zero => intro i hi _; exact absurd hi (Nat.not_lt_zero i)
  | succ j ih =>
    intro i hi hj
    have h1 := h j (by omega)
    by_cases e : i = j
    · subst e; exact h1
    · exact Nat.lt_trans (ih (by omega) (by omega)) h1
theorem DB.ne {H : Heap} {bq i j : Nat} (h : DB H bq) (hi : i < 10) (hj : j < 10) (hn : i ≠ j) : fR H bq i ≠ fR H bq j := by
  by_cases e : i < j
  · exact Nat.ne_of_lt (h.lt e hj)
  · exact (Nat.ne_of_lt (h.lt (show j < i by omega) hi)).symm
theorem CB.to {H0 H1 : Heap} {bq oq k N M : Nat} (h : ∀ j : Nat, j < 10 → j < N → fI H1 (fR H0 bq j) k = fI H0 (fR H0 oq j) k) (hM : M ≤ N) : ∀ j : Nat, j < 10 → j < M → fI H1 (fR H0 bq j) k = fI H0 (fR H0 oq j) k := fun j h10 hj => h j h10 (by omega)
theorem CB.step {G : Nat → Option Nat} {H0 H1 H2 : Heap} {bq oq k N B q1 q2 : Nat} {t u : Int32} (db : DB H0 bq) (gB : ∀ j : Nat, j < 10 → G (fR H0 bq j) = some B) (hN : N < 10) (cb : ∀ j : Nat, j < 10 → j < N → fI H1 (fR H0 bq j) k = fI H0 (fR H0 oq j) k) (rf : ∀ q : Nat, G q = some B → q ≠ q1 → fI H2 q k = fI H1 q k) (E1 : q1 = fR H0 bq N) (E2 : q2 = fR H0 oq N) (ht : t = fI H2 q1 k) (hu : u = fI H1 q2 k) (so : fI H1 q2 k = fI H0 q2 k) (e : t.toInt = u.toInt) : ∀ j : Nat, j < 10 → j < N + 1 → fI H2 (fR H0 bq j) k = fI H0 (fR H0 oq j) k := by
  intro j h10 hj
  by_cases h : j = N
  · subst h; rw [← E1, ← E2, ← ht, ← so, ← hu]; exact Int32.toInt_inj.mp e
  · have hlt := DB.lt db (show j < N by omega) hN
    rw [rf _ (gB j h10) (by rw [E1]; exact Nat.ne_of_lt hlt)]
    exact cb j h10 (by omega)
theorem CB.fin {G : Nat → Option Nat} {H0 H1 : Heap} {bq oq k N B : Nat} (cb : ∀ j : Nat, j < 10 → j < N → fI H1 (fR H0 bq j) k = fI H0 (fR H0 oq j) k) (rb : ∀ j : Nat, fR H1 bq j = fR H0 bq j) (ro : ∀ j : Nat, fR H1 oq j = fR H0 oq j) (so : ∀ q : Nat, G q = some B → fI H1 q k = fI H0 q k) (gO : ∀ j : Nat, j < 10 → G (fR H0 oq j) = some B) : ∀ j : Nat, j < 10 → j < N → fI H1 (fR H1 bq j) k = fI H1 (fR H1 oq j) k := fun j h10 hj => by
  rw [rb, ro, so _ (gO j h10)]
  exact cb j h10 hj
/-- one bar of a row was changed: the others not -/
theorem BX.one {G : Nat → Option Nat} {H0 H1 : Heap} {bq k B q : Nat} {x : Int32} (db : DB H0 bq) (gB : ∀ j : Nat, j < 10 → G (fR H0 bq j) = some B) (hx : 0 ≤ x.toInt ∧ x.toInt ≤ 9) (E : q = fR H0 bq x.toNatClampNeg) (rf : ∀ q1 : Nat, G q1 = some B → q1 ≠ q → fI H1 q1 k = fI H0 q1 k) : ∀ j : Nat, j < 10 → (j : Int) ≠ x.toInt → fI H1 (fR H0 bq j) k = fI H0 (fR H0 bq j) k := by
  intro j hj hn
  have hc := i_cl hx.1
  refine rf _ (gB j hj) ?_
  rw [E]
  exact DB.ne db hj (by omega) (by omega)
theorem bar_g {K : KE} {G : Nat → Option Nat} {H : Heap} {bq : Nat} (hT : TY K G H) (g : G bq = some 25) : ∀ j : Nat, j < 10 → G (fR H bq j) = some 1 := by
  intro j hj
  obtain ⟨c, -, -, -, -, -, h⟩ := hT.aref g rg_25 hj
  exact h
theorem bar_h {K : KE} {G : Nat → Option Nat} {H : Heap} {bq : Nat} (hT : TY K G H) (g : G bq = some 59) : ∀ j : Nat, j < 10 → G (fR H bq j) = some 35 := by
  intro j hj
  obtain ⟨c, -, -, -, -, -, h⟩ := hT.aref g rg_59 hj
  exact h
set_option maxHeartbeats 4000000 in
set_option maxRecDepth 100000 in
theorem a_X9_takeOff_q (l : Launch) (K : KE) (G : Nat → Option Nat) (H : Heap) {a0 : Nat} {a1 : Nat} (x2 : Int32) (x3 : Int32) (hT : TY K G H) (ga0 : G a0 = some 68) (ga1 : G a1 = some 1) : MX l K yX9_takeOff cX9_takeOff 4 (some .int) 5 126 0 0 [.ref a0, .ref a1, .int x2, .int x3] H (AE G [1, 2, 7, 8, 83, 84] H.size) (fun v H1 => ∃ (r : Int32), v = some (.int r) ∧ (∀ q : Nat, G q = some 1 → fI H1 q (K.1.2 0 14) = fI H q (K.1.2 0 14)) ∧ TY K G H1) := by
  refine MX.of (by decide +kernel) (Nat.le_of_ble_eq_true rfl) ?_
  intro p e s m below meth c ls Q C hH hl hQ
  subst hH
  have C : CX p K s m _ meth c RX9 cX9_takeOff 4 (some .int) "takeOff" := C
  obtain ⟨hx, hb, hml, hown, hts, hKT, hr, hlocks, hnm⟩ := id C
  have hl : lv_has ls 4 [(0, .ref a0), (1, .ref a1), (2, .int x2), (3, .int x3)] := hl
  have hS : va_S (AE G [1, 2, 7, 8, 83, 84] s.heap.size) s.heap s.heap [] := va_S.rf
  have n_m1 : ((-1) : Int32).toInt = -1 := rfl
  have n_0 : (0 : Int32).toInt = 0 := rfl
  have n_1 : (1 : Int32).toInt = 1 := rfl
  have n_9 : (9 : Int32).toInt = 9 := rfl
  have n_200 : (200 : Int32).toInt = 200 := rfl
  have f0_rf : ∀ q : Nat, G q = some 1 → fI s.heap q (K.1.2 0 14) = fI s.heap q (K.1.2 0 14) := fun _ _ => rfl
  have J38 : ∀ (ls450 : Array Slot) (H449 : Heap) (locsH449 : List Loc) , lv_has ls450 4 [] → TY K G H449 → va_S (AE G [1, 2, 7, 8, 83, 84] s.heap.size) s.heap H449 locsH449 → (∀ q : Nat, G q = some 1 → fI H449 q (K.1.2 0 14) = fI s.heap q (K.1.2 0 14)) → W p l e ({ frames := 5, cells := 0, slots := 0, locals := 126 } : Room) s m (([.ref a0, .ref a1, .int x2, .int x3] : List Value).toArray) below meth c H449 locsH449 0 0 Q (F0 m 38 ls450 []) := by
    intro ls450 H449 locsH449  hl451 hTH449 hSH449 fy452_rf
    refine lv_iconst (v := (-1)) hx hb dX9_takeOff_38 (by decide) ?_
    exact x_iret C hQ dX9_takeOff_39 hSH449 (by decide) (by decide) (⟨(-1), rfl, fy452_rf, hTH449⟩)
  have J103 : ∀ (ls454 : Array Slot) (H453 : Heap) (locsH453 : List Loc) , lv_has ls454 4 [(1, .ref a1)] → TY K G H453 → va_S (AE G [1, 2, 7, 8, 83, 84] s.heap.size) s.heap H453 locsH453 → (∀ q : Nat, G q = some 1 → fI H453 q (K.1.2 0 14) = fI s.heap q (K.1.2 0 14)) → W p l e ({ frames := 5, cells := 0, slots := 0, locals := 126 } : Room) s m (([.ref a0, .ref a1, .int x2, .int x3] : List Value).toArray) below meth c H453 locsH453 0 0 Q (F0 m 103 ls454 []) := by
    intro ls454 H453 locsH453  hl455 hTH453 hSH453 fy456_rf
    refine lv_aload_n hx hb dX9_takeOff_103 rfl (lv_at hl455 0 rfl) ?_
    refine x_gi C hTH453 (ci := 0) (k := 8) rfl inX0 (by decide) wF_X9_86 ga1 rg_1 rfl dX9_takeOff_104 (fun x457 ex457 bx457 => ?_)
    exact x_iret C hQ dX9_takeOff_107 hSH453 (by decide) (by decide) (⟨x457, rfl, fy456_rf, hTH453⟩)
  refine lv_aload_n hx hb dX9_takeOff_0 rfl (lv_at hl 1 rfl) ?_
  refine lv_iload_n hx hb dX9_takeOff_1 rfl (lv_at hl 2 rfl) ?_
  refine x_V (As := [.int x2]) (rest := []) C (a_X0_has l K G s.heap (x2) hT ga1) yo_X0_has wM_X9_82 ⟨⟨by decide, by decide⟩, by decide, by decide⟩ (x_rv C hT (ci := 0) rfl ga1 rg_1) rfl hl.1 rfl (Nat.le_of_ble_eq_true rfl) dX9_takeOff_2 hS (AE_sub (fun _ _ => rfl) (by decide) hS.1) (fun vH458 H458 locsH458 pH458 zH458 kH458 hSH458 => ?_)
  have hqH458 := pH458.1.symm
  subst hqH458
  rcases pH458.2 with ⟨hvH458, hcH458⟩ | hvH458
  · subst hvH458
    refine W.eq (g2 := F0 m 5 ls [.int 1]) rfl ?_
    refine lv_if_eq (tgt := 38) hx hb dX9_takeOff_5 (by decide) (fun c459 => ?_) (fun c459 => ?_)
    · have k460 := i_eq c459
      exfalso
      omega
    · have k460 := i_ne c459
      refine lv_iload_n hx hb dX9_takeOff_8 rfl (lv_at hl 3 rfl) ?_
      refine lv_iconst (v := 1) hx hb dX9_takeOff_9 (by decide) ?_
      refine lv_bipush (v := 9) hx hb dX9_takeOff_10 (by decide) ?_
      refine x_S (As := [.int x3, .int 1, .int 9]) (rest := []) C (c_X9_within l K G s.heap (x3) (1) (9) hT) yo_X9_within wM_X9_89 ⟨⟨by decide, by decide⟩, by decide, by decide⟩ rfl hl.1 rfl (Nat.le_of_ble_eq_true rfl) dX9_takeOff_12 hSH458 (AE_sub (fun _ _ => rfl) (by decide) hSH458.1) (fun vH461 H461 locsH461 pH461 zH461 kH461 hSH461 => ?_)
      have hqH461 := pH461.1.symm
      subst hqH461
      rcases pH461.2 with ⟨hvH461, hcH461⟩ | ⟨hvH461, hcH461⟩
      · subst hvH461
        refine W.eq (g2 := F0 m 15 ls [.int 1]) rfl ?_
        refine lv_if_eq (tgt := 38) hx hb dX9_takeOff_15 (by decide) (fun c462 => ?_) (fun c462 => ?_)
        · have k463 := i_eq c462
          exfalso
          omega
        · have k463 := i_ne c462
          refine lv_aload_n hx hb dX9_takeOff_18 rfl (lv_at hl 1 rfl) ?_
          refine x_gr C hT (ci := 0) (k := 1) rfl inX0 (by decide) wF_X9_93 ga1 rg_1 rfl dX9_takeOff_19 (fun q464 eq464 gq464 => ?_)
          refine lv_iload_n hx hb dX9_takeOff_22 rfl (lv_at hl 2 rfl) ?_
          refine x_ai C hT gq464 rg_2 ⟨by omega, by show _ < ((16 : Nat) : Int); omega⟩ dX9_takeOff_23 (fun x465 ex465 bx465 => ?_)
          refine lv_iload_n hx hb dX9_takeOff_24 rfl (lv_at hl 3 rfl) ?_
          refine lv_icmp_le (tgt := 38) hx hb dX9_takeOff_25 (by decide) (fun c466 => ?_) (fun c466 => ?_)
          · have k467 := i_le c466
            exact J38 ls s.heap locsH461 (lv_sub hl [] rfl) hT hSH461 f0_rf
          · have k467 := i_nle c466
            refine lv_aload_n hx hb dX9_takeOff_28 rfl (lv_at hl 1 rfl) ?_
            refine x_gi C hT (ci := 0) (k := 8) rfl inX0 (by decide) wF_X9_86 ga1 rg_1 rfl dX9_takeOff_29 (fun x468 ex468 bx468 => ?_)
            refine lv_sipush (v := 200) hx hb dX9_takeOff_32 (by decide) ?_
            refine lv_icmp_lt (tgt := 40) hx hb dX9_takeOff_35 (by decide) (fun c469 => ?_) (fun c469 => ?_)
            · have k470 := i_lt c469
              refine lv_aload_n hx hb dX9_takeOff_40 rfl (lv_at hl 1 rfl) ?_
              refine x_gr C hT (ci := 0) (k := 1) rfl inX0 (by decide) wF_X9_93 ga1 rg_1 rfl dX9_takeOff_41 (fun q471 eq471 gq471 => ?_)
              have uq471 : q464 = q471 := (eq464).trans eq471.symm
              subst uq471
              refine lv_iload_n hx hb dX9_takeOff_44 rfl (lv_at hl 2 rfl) ?_
              refine lv_dup2_11 hx hb dX9_takeOff_45 rfl rfl ?_
              refine x_ai C hT gq464 rg_2 ⟨by omega, by show _ < ((16 : Nat) : Int); omega⟩ dX9_takeOff_46 (fun x472 ex472 bx472 => ?_)
              have ux472 : x465 = x472 := (ex465).trans ex472.symm
              subst ux472
              refine lv_iload_n hx hb dX9_takeOff_47 rfl (lv_at hl 3 rfl) ?_
              refine lv_isub hx hb dX9_takeOff_48 ?_
              refine lv_topi (fun x473 ex473 => ?_)
              have tx473 := i_sub ex473 (by have := i_rng x465; omega)
              refine x_iast C hT hSH461 gq464 rg_2 (by omega) (by show _ < ((16 : Nat) : Int); omega) ⟨by have := i_rng x473; omega, by have := i_rng x473; omega⟩ (AE_in gq464 (by decide)) dX9_takeOff_49 (fun H474 locsH474 hTH474 hSH474 wH474 => ?_)
              have f475 : ∀ q : Nat, G q = some 1 → fI H474 q (K.1.2 0 14) = fI s.heap q (K.1.2 0 14) := fun q hq => (Wr.neI wH474 (Or.inl (G_ne hq gq464 (by decide)))).trans (f0_rf q hq)
              have m476 := eq464.trans (Wr.neR wH474 (Or.inl (G_ne ga1 gq464 (by decide)))).symm
              have m478 := ex468.trans (Wr.neI wH474 (Or.inl (G_ne ga1 gq464 (by decide)))).symm
              have m479 := Wr.I wH474
              have m479 := m479.symm
              refine lv_aload_n hx hb dX9_takeOff_50 rfl (lv_at hl 1 rfl) ?_
              refine x_gr C hTH474 (ci := 0) (k := 6) rfl inX0 (by decide) wF_X9_174 ga1 rg_1 rfl dX9_takeOff_51 (fun q480 eq480 gq480 => ?_)
              refine lv_aload_n hx hb dX9_takeOff_54 rfl (lv_at hl 1 rfl) ?_
              refine x_gi C hTH474 (ci := 0) (k := 8) rfl inX0 (by decide) wF_X9_86 ga1 rg_1 rfl dX9_takeOff_55 (fun x481 ex481 bx481 => ?_)
              have ux481 : x468 = x481 := (m478).trans ex481.symm
              subst ux481
              refine lv_iload_n hx hb dX9_takeOff_58 rfl (lv_at hl 2 rfl) ?_
              refine x_iast C hTH474 hSH474 gq480 rg_7 (by omega) (by show _ < ((200 : Nat) : Int); omega) ⟨by have := i_rng x2; omega, by have := i_rng x2; omega⟩ (AE_in gq480 (by decide)) dX9_takeOff_59 (fun H482 locsH482 hTH482 hSH482 wH482 => ?_)
              have f483 : ∀ q : Nat, G q = some 1 → fI H482 q (K.1.2 0 14) = fI s.heap q (K.1.2 0 14) := fun q hq => (Wr.neI wH482 (Or.inl (G_ne hq gq480 (by decide)))).trans (f475 q hq)
              have m484 := m476.trans (Wr.neR wH482 (Or.inl (G_ne ga1 gq480 (by decide)))).symm
              have m485 := m478.trans (Wr.neI wH482 (Or.inl (G_ne ga1 gq480 (by decide)))).symm
              have m486 := m479.trans (Wr.neI wH482 (Or.inl (G_ne gq464 gq480 (by decide)))).symm
              have m487 := eq480.trans (Wr.neR wH482 (Or.inl (G_ne ga1 gq480 (by decide)))).symm
              have m488 := Wr.I wH482
              have m488 := m488.symm
              refine lv_aload_n hx hb dX9_takeOff_60 rfl (lv_at hl 1 rfl) ?_
              refine x_gr C hTH482 (ci := 0) (k := 7) rfl inX0 (by decide) wF_X9_177 ga1 rg_1 rfl dX9_takeOff_61 (fun q489 eq489 gq489 => ?_)
              refine lv_aload_n hx hb dX9_takeOff_64 rfl (lv_at hl 1 rfl) ?_
              refine x_gi C hTH482 (ci := 0) (k := 8) rfl inX0 (by decide) wF_X9_86 ga1 rg_1 rfl dX9_takeOff_65 (fun x490 ex490 bx490 => ?_)
              have ux490 : x468 = x490 := (m485).trans ex490.symm
              subst ux490
              refine lv_iload_n hx hb dX9_takeOff_68 rfl (lv_at hl 3 rfl) ?_
              refine x_iast C hTH482 hSH482 gq489 rg_8 (by omega) (by show _ < ((200 : Nat) : Int); omega) ⟨by have := i_rng x3; omega, by have := i_rng x3; omega⟩ (AE_in gq489 (by decide)) dX9_takeOff_69 (fun H491 locsH491 hTH491 hSH491 wH491 => ?_)
              have f492 : ∀ q : Nat, G q = some 1 → fI H491 q (K.1.2 0 14) = fI s.heap q (K.1.2 0 14) := fun q hq => (Wr.neI wH491 (Or.inl (G_ne hq gq489 (by decide)))).trans (f483 q hq)
              have m493 := m484.trans (Wr.neR wH491 (Or.inl (G_ne ga1 gq489 (by decide)))).symm
              have m494 := m485.trans (Wr.neI wH491 (Or.inl (G_ne ga1 gq489 (by decide)))).symm
              have m495 := m486.trans (Wr.neI wH491 (Or.inl (G_ne gq464 gq489 (by decide)))).symm
              have m496 := m487.trans (Wr.neR wH491 (Or.inl (G_ne ga1 gq489 (by decide)))).symm
              have m497 := m488.trans (Wr.neI wH491 (Or.inl (G_ne gq480 gq489 (by decide)))).symm
              have m498 := eq489.trans (Wr.neR wH491 (Or.inl (G_ne ga1 gq489 (by decide)))).symm
              have m499 := Wr.I wH491
              have m499 := m499.symm
              refine lv_aload_n hx hb dX9_takeOff_70 rfl (lv_at hl 1 rfl) ?_
              refine lv_dup hx hb dX9_takeOff_71 rfl ?_
              refine x_gi C hTH491 (ci := 0) (k := 8) rfl inX0 (by decide) wF_X9_86 ga1 rg_1 rfl dX9_takeOff_72 (fun x500 ex500 bx500 => ?_)
              have ux500 : x468 = x500 := (m494).trans ex500.symm
              subst ux500
              refine lv_iconst (v := 1) hx hb dX9_takeOff_75 (by decide) ?_
              refine lv_iadd hx hb dX9_takeOff_76 ?_
              refine lv_topi (fun x501 ex501 => ?_)
              have tx501 := i_add ex501 (by omega)
              refine x_put C hTH491 hSH491 (ci := 0) (k := 8) (v := .int x501) (ty0 := tyX0) rfl inX0 tyX0_ok nmX0 (by decide) rfl wF_X9_86 ga1 rg_1 rfl rfl (okI (by have := i_rng x501; omega) (by have := i_rng x501; omega)) rfl rfl (AE_in ga1 (by decide)) dX9_takeOff_77 (fun H502 locsH502 hTH502 hSH502 wH502 => ?_)
              have f503 : ∀ q : Nat, G q = some 1 → fI H502 q (K.1.2 0 14) = fI s.heap q (K.1.2 0 14) := fun q hq => (Wr.neI wH502 (Or.inr (x_apart hKT hts inX0 tyX0 tyX0_ok nmX0 rfl 14 8 (by decide) (by decide) (by decide)))).trans (f492 q hq)
              have m504 := m493.trans (Wr.neR wH502 (Or.inr (x_apart hKT hts inX0 tyX0 tyX0_ok nmX0 rfl 1 8 (by decide) (by decide) (by decide)))).symm
              have m506 := m495.trans (Wr.neI wH502 (Or.inl (G_ne gq464 ga1 (by decide)))).symm
              have m507 := m496.trans (Wr.neR wH502 (Or.inr (x_apart hKT hts inX0 tyX0 tyX0_ok nmX0 rfl 6 8 (by decide) (by decide) (by decide)))).symm
              have m508 := m497.trans (Wr.neI wH502 (Or.inl (G_ne gq480 ga1 (by decide)))).symm
              have m509 := m498.trans (Wr.neR wH502 (Or.inr (x_apart hKT hts inX0 tyX0 tyX0_ok nmX0 rfl 7 8 (by decide) (by decide) (by decide)))).symm
              have m510 := m499.trans (Wr.neI wH502 (Or.inl (G_ne gq489 ga1 (by decide)))).symm
              have m511 := Wr.I wH502
              have m511 := m511.symm
              refine lv_aload_n hx hb dX9_takeOff_80 rfl (lv_at hl 1 rfl) ?_
              refine x_gi C hTH502 (ci := 0) (k := 9) rfl inX0 (by decide) wF_X9_197 ga1 rg_1 rfl dX9_takeOff_81 (fun x512 ex512 bx512 => ?_)
              refine lv_if_ne (tgt := 103) hx hb dX9_takeOff_84 (by decide) (fun c513 => ?_) (fun c513 => ?_)
              · have k514 := i_ne c513
                exact J103 ls H502 locsH502 (lv_sub hl [1] rfl) hTH502 hSH502 f503
              · have k514 := i_eq c513
                refine lv_aload_n hx hb dX9_takeOff_87 rfl (lv_at hl 0 rfl) ?_
                refine lv_aload_n hx hb dX9_takeOff_88 rfl (lv_at hl 1 rfl) ?_
                refine x_V (As := [.ref a1]) (rest := []) C (a_X9_isLost l K G H502  hTH502 ga0 ga1) yo_X9_isLost wM_X9_190 ⟨⟨by decide, by decide⟩, by decide, by decide⟩ (x_rv C hTH502 (ci := 9) rfl ga0 rg_68) rfl hl.1 rfl (Nat.le_of_ble_eq_true rfl) dX9_takeOff_89 hSH502 (AE_sub (fun _ _ => rfl) (by decide) hSH502.1) (fun vH515 H515 locsH515 pH515 zH515 kH515 hSH515 => ?_)
                obtain ⟨⟨x516, hvH515, bx516⟩, hTH515⟩ := pH515
                subst hvH515
                have f517 : ∀ q : Nat, G q = some 1 → fI H515 q (K.1.2 0 14) = fI s.heap q (K.1.2 0 14) := fun q hq => (fI_kept (x_lt hTH502 kH515 hq (by decide))).trans (f503 q hq)
                have m518 := (m504).trans (fR_kept (x_lt hTH502 kH515 ga1 (by decide))).symm
                have m519 := (m506).trans (fI_kept (x_lt hTH502 kH515 gq464 (by decide))).symm
                have m520 := (m507).trans (fR_kept (x_lt hTH502 kH515 ga1 (by decide))).symm
                have m521 := (m508).trans (fI_kept (x_lt hTH502 kH515 gq480 (by decide))).symm
                have m522 := (m509).trans (fR_kept (x_lt hTH502 kH515 ga1 (by decide))).symm
                have m523 := (m510).trans (fI_kept (x_lt hTH502 kH515 gq489 (by decide))).symm
                have m524 := (m511).trans (fI_kept (x_lt hTH502 kH515 ga1 (by decide))).symm
                have m525 := (ex512).trans (fI_kept (x_lt hTH502 kH515 ga1 (by decide))).symm
                refine W.eq (g2 := F0 m 92 ls [.int x516]) rfl ?_
                refine lv_if_eq (tgt := 103) hx hb dX9_takeOff_92 (by decide) (fun c526 => ?_) (fun c526 => ?_)
                · have k527 := i_eq c526
                  exact J103 ls H515 locsH515 (lv_sub hl [1] rfl) hTH515 hSH515 f517
                · have k527 := i_ne c526
                  refine lv_aload_n hx hb dX9_takeOff_95 rfl (lv_at hl 1 rfl) ?_
                  refine lv_aload_n hx hb dX9_takeOff_96 rfl (lv_at hl 1 rfl) ?_
                  refine x_gi C hTH515 (ci := 0) (k := 8) rfl inX0 (by decide) wF_X9_86 ga1 rg_1 rfl dX9_takeOff_97 (fun x528 ex528 bx528 => ?_)
                  have ux528 : x501 = x528 := (m524).trans ex528.symm
                  subst ux528
                  refine x_put C hTH515 hSH515 (ci := 0) (k := 9) (v := .int x501) (ty0 := tyX0) rfl inX0 tyX0_ok nmX0 (by decide) rfl wF_X9_197 ga1 rg_1 rfl rfl (okI (by have := i_rng x501; omega) (by have := i_rng x501; omega)) rfl rfl (AE_in ga1 (by decide)) dX9_takeOff_100 (fun H529 locsH529 hTH529 hSH529 wH529 => ?_)
                  have f530 : ∀ q : Nat, G q = some 1 → fI H529 q (K.1.2 0 14) = fI s.heap q (K.1.2 0 14) := fun q hq => (Wr.neI wH529 (Or.inr (x_apart hKT hts inX0 tyX0 tyX0_ok nmX0 rfl 14 9 (by decide) (by decide) (by decide)))).trans (f517 q hq)
                  have m531 := m518.trans (Wr.neR wH529 (Or.inr (x_apart hKT hts inX0 tyX0 tyX0_ok nmX0 rfl 1 9 (by decide) (by decide) (by decide)))).symm
                  have m532 := m519.trans (Wr.neI wH529 (Or.inl (G_ne gq464 ga1 (by decide)))).symm
                  have m533 := m520.trans (Wr.neR wH529 (Or.inr (x_apart hKT hts inX0 tyX0 tyX0_ok nmX0 rfl 6 9 (by decide) (by decide) (by decide)))).symm
                  have m534 := m521.trans (Wr.neI wH529 (Or.inl (G_ne gq480 ga1 (by decide)))).symm
                  have m535 := m522.trans (Wr.neR wH529 (Or.inr (x_apart hKT hts inX0 tyX0 tyX0_ok nmX0 rfl 7 9 (by decide) (by decide) (by decide)))).symm
                  have m536 := m523.trans (Wr.neI wH529 (Or.inl (G_ne gq489 ga1 (by decide)))).symm
                  have m537 := m524.trans (Wr.neI wH529 (Or.inr (x_apart hKT hts inX0 tyX0 tyX0_ok nmX0 rfl 8 9 (by decide) (by decide) (by decide)))).symm
                  have m539 := Wr.I wH529
                  have m539 := m539.symm
                  exact J103 ls H529 locsH529 (lv_sub hl [1] rfl) hTH529 hSH529 f530
            · have k470 := i_nlt c469
              exact J38 ls s.heap locsH461 (lv_sub hl [] rfl) hT hSH461 f0_rf
      · subst hvH461
        refine W.eq (g2 := F0 m 15 ls [.int 0]) rfl ?_
        refine lv_if_eq (tgt := 38) hx hb dX9_takeOff_15 (by decide) (fun c540 => ?_) (fun c540 => ?_)
        · have k541 := i_eq c540
          exact J38 ls s.heap locsH461 (lv_sub hl [] rfl) hT hSH461 f0_rf
        · have k541 := i_ne c540
          exfalso
          omega
  · subst hvH458
    refine W.eq (g2 := F0 m 5 ls [.int 0]) rfl ?_
    refine lv_if_eq (tgt := 38) hx hb dX9_takeOff_5 (by decide) (fun c542 => ?_) (fun c542 => ?_)
    · have k543 := i_eq c542
      exact J38 ls s.heap locsH458 (lv_sub hl [] rfl) hT hSH458 f0_rf
    · have k543 := i_ne c542
      exfalso
      omega

set_option maxHeartbeats 4000000 in
set_option maxRecDepth 100000 in
theorem a_X9_doLine_q (l : Launch) (K : KE) (G : Nat → Option Nat) (H : Heap) {a0 : Nat} {a1 : Nat} (x2 : Int32) {a3 : Nat} (hT : TY K G H) (ga0 : G a0 = some 68) (ga1 : G a1 = some 16) (hx2 : 0 ≤ x2.toInt ∧ x2.toInt ≤ 15) (ga3 : G a3 = some 1) : MX l K yX9_doLine cX9_doLine 9 none 6 149 0 0 [.ref a0, .ref a1, .int x2, .ref a3] H (AE G [1, 2, 7, 8, 83, 84, 5] H.size) (fun v H1 => v = none ∧ (∀ q : Nat, G q = some 1 → fI H1 q (K.1.2 0 14) = fI H q (K.1.2 0 14)) ∧ TY K G H1) := by
  refine MX.of (by decide +kernel) (Nat.le_of_ble_eq_true rfl) ?_
  intro p e s m below meth c ls Q C hH hl hQ
  subst hH
  have C : CX p K s m _ meth c RX9 cX9_doLine 9 none "doLine" := C
  obtain ⟨hx, hb, hml, hown, hts, hKT, hr, hlocks, hnm⟩ := id C
  have hl : lv_has ls 9 [(0, .ref a0), (1, .ref a1), (2, .int x2), (3, .ref a3)] := hl
  have hS : va_S (AE G [1, 2, 7, 8, 83, 84, 5] s.heap.size) s.heap s.heap [] := va_S.rf
  have n_0 : (0 : Int32).toInt = 0 := rfl
  have n_1 : (1 : Int32).toInt = 1 := rfl
  have n_2 : (2 : Int32).toInt = 2 := rfl
  have n_4 : (4 : Int32).toInt = 4 := rfl
  have n_6 : (6 : Int32).toInt = 6 := rfl
  have f0_rf : ∀ q : Nat, G q = some 1 → fI s.heap q (K.1.2 0 14) = fI s.heap q (K.1.2 0 14) := fun _ _ => rfl
  have J137 : ∀ (ls394 : Array Slot) (H393 : Heap) (locsH393 : List Loc) , lv_has ls394 9 [] → TY K G H393 → va_S (AE G [1, 2, 7, 8, 83, 84, 5] s.heap.size) s.heap H393 locsH393 → (∀ q : Nat, G q = some 1 → fI H393 q (K.1.2 0 14) = fI s.heap q (K.1.2 0 14)) → W p l e ({ frames := 6, cells := 0, slots := 0, locals := 149 } : Room) s m (([.ref a0, .ref a1, .int x2, .ref a3] : List Value).toArray) below meth c H393 locsH393 0 0 Q (F0 m 137 ls394 []) := by
    intro ls394 H393 locsH393  hl395 hTH393 hSH393 fy396_rf
    exact x_vret C hQ dX9_doLine_137 hSH393 (by decide) (by decide) (⟨rfl, fy396_rf, hTH393⟩)
  have J105 : ∀ (nf : Nat) (ls398 : Array Slot) (H397 : Heap) (locsH397 : List Loc) (x400 : Int32) (x401 : Int32) (x402 : Int32) (x403 : Int32), lv_has ls398 9 [(0, .ref a0), (3, .ref a3), (5, .int x400), (6, .int x401), (7, .int x402), (8, .int x403)] → TY K G H397 → va_S (AE G [1, 2, 7, 8, 83, 84, 5] s.heap.size) s.heap H397 locsH397 → ((-2147483648) ≤ x401.toInt ∧ x401.toInt ≤ 15) → (∀ q : Nat, G q = some 1 → fI H397 q (K.1.2 0 14) = fI s.heap q (K.1.2 0 14)) → (2147483647 - x403.toInt < (nf : Int)) → W p l e ({ frames := 6, cells := 0, slots := 0, locals := 149 } : Room) s m (([.ref a0, .ref a1, .int x2, .ref a3] : List Value).toArray) below meth c H397 locsH397 0 0 Q (F0 m 105 ls398 []) := by
    intro nf
    induction nf with
    | zero =>
      intro ls398 H397 locsH397 x400 x401 x402 x403 hl399 hTH397 hSH397 bx401 fy404_rf hm105
      have rx400 := i_rng x400
      have rx402 := i_rng x402
      have rx403 := i_rng x403
      exfalso
      omega
    | succ nf ih105 =>
      intro ls398 H397 locsH397 x400 x401 x402 x403 hl399 hTH397 hSH397 bx401 fy404_rf hm105
      have rx400 := i_rng x400
      have rx402 := i_rng x402
      have rx403 := i_rng x403
      refine lv_iload hx hb dX9_doLine_105 (lv_at hl399 5 rfl) ?_
      refine lv_iload hx hb dX9_doLine_107 (lv_at hl399 3 rfl) ?_
      refine lv_icmp_gt (tgt := 137) hx hb dX9_doLine_109 (by decide) (fun c405 => ?_) (fun c405 => ?_)
      · have k406 := i_lt c405
        exact J137 ls398 H397 locsH397 (lv_sub hl399 [] rfl) hTH397 hSH397 fy404_rf
      · have k406 := i_nlt c405
        refine lv_aload_n hx hb dX9_doLine_112 rfl (lv_at hl399 0 rfl) ?_
        refine lv_aload_n hx hb dX9_doLine_113 rfl (lv_at hl399 1 rfl) ?_
        refine lv_iload hx hb dX9_doLine_114 (lv_at hl399 5 rfl) ?_
        refine lv_iload hx hb dX9_doLine_116 (lv_at hl399 2 rfl) ?_
        refine lv_iload hx hb dX9_doLine_118 (lv_at hl399 5 rfl) ?_
        refine lv_iload hx hb dX9_doLine_120 (lv_at hl399 4 rfl) ?_
        refine lv_isub hx hb dX9_doLine_122 ?_
        refine lv_topi (fun x407 ex407 => ?_)
        refine va_mabs hx hb (hml.trans hl399.1.symm) hown (hts _ wM_X9_362) (hts _ wST_J9_abs_0f7a4) (hts _ wIN_J9) (hts _ wCD_J9_abs_0f7a4) (by decide) (Nat.le_of_ble_eq_true rfl) (by decide) (by decide) dX9_doLine_123 ?_
        refine lv_topi (fun x408 ex408 => ?_)
        refine lv_isub hx hb dX9_doLine_126 ?_
        refine lv_topi (fun x409 ex409 => ?_)
        refine x_V (As := [.ref a3, .int x403, .int x409]) (rest := []) C (a_X9_takeOff_q l K G H397 (x403) (x409) hTH397 ga0 ga3) yo_X9_takeOff wM_X9_170 ⟨⟨by decide, by decide⟩, by decide, by decide⟩ (x_rv C hTH397 (ci := 9) rfl ga0 rg_68) rfl hl399.1 rfl (Nat.le_of_ble_eq_true rfl) dX9_doLine_127 hSH397 (AE_sub (fun _ _ => rfl) (by decide) hSH397.1) (fun vH410 H410 locsH410 pH410 zH410 kH410 hSH410 => ?_)
        obtain ⟨x411, hvH410, m412, hTH410⟩ := pH410
        subst hvH410
        have f413 : ∀ q : Nat, G q = some 1 → fI H410 q (K.1.2 0 14) = fI s.heap q (K.1.2 0 14) := fun q hq => (m412 q hq).trans (fy404_rf q hq)
        refine W.eq (g2 := F0 m 130 ls398 [.int x411]) rfl ?_
        refine lv_pop hx hb dX9_doLine_130 rfl ?_
        obtain ⟨x414, ex414⟩ : ∃ y : Int32, y = x403 + 1 := ⟨_, rfl⟩
        have tx414 := i_add ex414 (by omega)
        refine lv_iinc (v := x414) (lv' := [(8, .int x414), (0, .ref a0), (3, .ref a3), (5, .int x400), (6, .int x401), (7, .int x402)]) hx hb dX9_doLine_131 hl399 (k := 5) rfl (by rw [ex414]; rfl) (by decide) rfl (fun ls415 hl416 => ?_)
        refine lv_goto (tgt := 105) hx hb dX9_doLine_134 (by decide) ?_
        exact ih105 ls415 H410 locsH410 (x400) (x401) (x402) (x414) (lv_sub hl416 [1, 2, 3, 4, 5, 0] rfl) hTH410 hSH410 (by have := i_rng x401; omega) f413 (by omega)
  refine lv_aload_n hx hb dX9_doLine_0 rfl (lv_at hl 1 rfl) ?_
  refine x_gr C hT (ci := 7) (k := 2) rfl inX7 (by decide) wF_X9_383 ga1 rg_16 rfl dX9_doLine_1 (fun q417 eq417 gq417 => ?_)
  refine lv_iload_n hx hb dX9_doLine_4 rfl (lv_at hl 2 rfl) ?_
  refine x_ai C hT gq417 rg_18 ⟨by omega, by show _ < ((16 : Nat) : Int); omega⟩ dX9_doLine_5 (fun x418 ex418 bx418 => ?_)
  refine lv_istore (lv' := [(4, .int x418), (0, .ref a0), (1, .ref a1), (2, .int x2), (3, .ref a3)]) hx hb dX9_doLine_6 hl (by decide) rfl (fun ls419 hl420 => ?_)
  refine lv_aload_n hx hb dX9_doLine_8 rfl (lv_at hl420 2 rfl) ?_
  refine x_gr C hT (ci := 7) (k := 4) rfl inX7 (by decide) wF_X9_386 ga1 rg_16 rfl dX9_doLine_9 (fun q421 eq421 gq421 => ?_)
  refine lv_iload_n hx hb dX9_doLine_12 rfl (lv_at hl420 3 rfl) ?_
  refine x_ai C hT gq421 rg_20 ⟨by omega, by show _ < ((16 : Nat) : Int); omega⟩ dX9_doLine_13 (fun x422 ex422 bx422 => ?_)
  refine lv_istore (lv' := [(5, .int x422), (4, .int x418), (0, .ref a0), (1, .ref a1), (2, .int x2), (3, .ref a3)]) hx hb dX9_doLine_14 hl420 (by decide) rfl (fun ls423 hl424 => ?_)
  refine lv_aload_n hx hb dX9_doLine_16 rfl (lv_at hl424 3 rfl) ?_
  refine x_gr C hT (ci := 7) (k := 1) rfl inX7 (by decide) wF_X9_389 ga1 rg_16 rfl dX9_doLine_17 (fun q425 eq425 gq425 => ?_)
  refine lv_iload_n hx hb dX9_doLine_20 rfl (lv_at hl424 4 rfl) ?_
  refine x_ai C hT gq425 rg_17 ⟨by omega, by show _ < ((16 : Nat) : Int); omega⟩ dX9_doLine_21 (fun x426 ex426 bx426 => ?_)
  refine lv_bipush (v := 6) hx hb dX9_doLine_22 (by decide) ?_
  refine lv_icmp_ne (tgt := 48) hx hb dX9_doLine_24 (by decide) (fun c427 => ?_) (fun c427 => ?_)
  · have k428 := i_ne c427
    refine lv_aload_n hx hb dX9_doLine_48 rfl (lv_at hl424 3 rfl) ?_
    refine x_gr C hT (ci := 7) (k := 1) rfl inX7 (by decide) wF_X9_389 ga1 rg_16 rfl dX9_doLine_49 (fun q429 eq429 gq429 => ?_)
    have uq429 : q425 = q429 := (eq425).trans eq429.symm
    subst uq429
    refine lv_iload_n hx hb dX9_doLine_52 rfl (lv_at hl424 4 rfl) ?_
    refine x_ai C hT gq425 rg_17 ⟨by omega, by show _ < ((16 : Nat) : Int); omega⟩ dX9_doLine_53 (fun x430 ex430 bx430 => ?_)
    have ux430 : x426 = x430 := (ex426).trans ex430.symm
    subst ux430
    refine lv_iconst (v := 4) hx hb dX9_doLine_54 (by decide) ?_
    refine lv_icmp_ne (tgt := 71) hx hb dX9_doLine_55 (by decide) (fun c431 => ?_) (fun c431 => ?_)
    · have k432 := i_ne c431
      refine lv_aload_n hx hb dX9_doLine_71 rfl (lv_at hl424 3 rfl) ?_
      refine x_gr C hT (ci := 7) (k := 3) rfl inX7 (by decide) wF_X9_392 ga1 rg_16 rfl dX9_doLine_72 (fun q433 eq433 gq433 => ?_)
      refine lv_iload_n hx hb dX9_doLine_75 rfl (lv_at hl424 4 rfl) ?_
      refine x_ai C hT gq433 rg_19 ⟨by omega, by show _ < ((16 : Nat) : Int); omega⟩ dX9_doLine_76 (fun x434 ex434 bx434 => ?_)
      refine lv_aload_n hx hb dX9_doLine_77 rfl (lv_at hl424 5 rfl) ?_
      refine x_gi C hT (ci := 0) (k := 0) rfl inX0 (by decide) wF_X9_187 ga3 rg_1 rfl dX9_doLine_78 (fun x435 ex435 bx435 => ?_)
      refine lv_iconst (v := 1) hx hb dX9_doLine_81 (by decide) ?_
      refine lv_isub hx hb dX9_doLine_82 ?_
      refine lv_topi (fun x436 ex436 => ?_)
      have tx436 := i_sub ex436 (by omega)
      refine va_mmin hx hb (hml.trans hl424.1.symm) hown (hts _ wM_X9_395) (hts _ wST_J9_min_7cf53) (hts _ wIN_J9) (hts _ wCD_J9_min_7cf53) (by decide) (Nat.le_of_ble_eq_true rfl) (by decide) (by decide) dX9_doLine_83 ?_
      refine lv_topi (fun x437 ex437 => ?_)
      have tx437 := i_min ex437
      refine lv_istore (lv' := [(6, .int x437), (5, .int x422), (4, .int x418), (0, .ref a0), (1, .ref a1), (2, .int x2), (3, .ref a3)]) hx hb dX9_doLine_86 hl424 (by decide) rfl (fun ls438 hl439 => ?_)
      refine lv_iload hx hb dX9_doLine_88 (lv_at hl439 2 rfl) ?_
      refine lv_aload_n hx hb dX9_doLine_90 rfl (lv_at hl439 4 rfl) ?_
      refine x_gr C hT (ci := 7) (k := 3) rfl inX7 (by decide) wF_X9_392 ga1 rg_16 rfl dX9_doLine_91 (fun q440 eq440 gq440 => ?_)
      have uq440 : q433 = q440 := (eq433).trans eq440.symm
      subst uq440
      refine lv_iload_n hx hb dX9_doLine_94 rfl (lv_at hl439 5 rfl) ?_
      refine x_ai C hT gq433 rg_19 ⟨by omega, by show _ < ((16 : Nat) : Int); omega⟩ dX9_doLine_95 (fun x441 ex441 bx441 => ?_)
      have ux441 : x434 = x441 := (ex434).trans ex441.symm
      subst ux441
      refine lv_iadd hx hb dX9_doLine_96 ?_
      refine lv_topi (fun x442 ex442 => ?_)
      refine lv_iconst (v := 2) hx hb dX9_doLine_97 (by decide) ?_
      refine lv_idiv hx hb dX9_doLine_98 (fun h => by have := i_eq h; omega) ?_
      refine lv_topi (fun x443 ex443 => ?_)
      refine lv_istore (lv' := [(7, .int x443), (6, .int x437), (5, .int x422), (4, .int x418), (0, .ref a0), (1, .ref a1), (2, .int x2), (3, .ref a3)]) hx hb dX9_doLine_99 hl439 (by decide) rfl (fun ls444 hl445 => ?_)
      refine lv_iload hx hb dX9_doLine_101 (lv_at hl445 3 rfl) ?_
      refine lv_istore (lv' := [(8, .int x418), (7, .int x443), (6, .int x437), (5, .int x422), (4, .int x418), (0, .ref a0), (1, .ref a1), (2, .int x2), (3, .ref a3)]) hx hb dX9_doLine_103 hl445 (by decide) rfl (fun ls446 hl447 => ?_)
      exact J105 ((2147483647 - x418.toInt).toNat + 1) ls446 s.heap [] (x422) (x437) (x443) (x418) (lv_sub hl447 [5, 8, 3, 2, 1, 0] rfl) hT hS (by have := i_rng x437; omega) f0_rf (by omega)
    · have k432 := i_eq c431
      refine lv_aload_n hx hb dX9_doLine_58 rfl (lv_at hl424 2 rfl) ?_
      refine lv_aload_n hx hb dX9_doLine_59 rfl (lv_at hl424 5 rfl) ?_
      refine lv_iload hx hb dX9_doLine_60 (lv_at hl424 1 rfl) ?_
      refine lv_iload hx hb dX9_doLine_62 (lv_at hl424 0 rfl) ?_
      refine x_V (As := [.ref a3, .int x418, .int x422]) (rest := []) C (a_X9_takeOff_q l K G s.heap (x418) (x422) hT ga0 ga3) yo_X9_takeOff wM_X9_170 ⟨⟨by decide, by decide⟩, by decide, by decide⟩ (x_rv C hT (ci := 9) rfl ga0 rg_68) rfl hl424.1 rfl (Nat.le_of_ble_eq_true rfl) dX9_doLine_64 hS (AE_sub (fun _ _ => rfl) (by decide) hS.1) (fun vH448 H448 locsH448 pH448 zH448 kH448 hSH448 => ?_)
      obtain ⟨x449, hvH448, m450, hTH448⟩ := pH448
      subst hvH448
      have m451 := (eq417).trans (fR_kept (x_lt hT kH448 ga1 (by decide))).symm
      have m452 := (ex418).trans (fI_kept (x_lt hT kH448 gq417 (by decide))).symm
      have m453 := (eq421).trans (fR_kept (x_lt hT kH448 ga1 (by decide))).symm
      have m454 := (ex422).trans (fI_kept (x_lt hT kH448 gq421 (by decide))).symm
      have m455 := (eq425).trans (fR_kept (x_lt hT kH448 ga1 (by decide))).symm
      have m456 := (ex426).trans (fI_kept (x_lt hT kH448 gq425 (by decide))).symm
      have f457 : ∀ q : Nat, G q = some 1 → fI H448 q (K.1.2 0 14) = fI s.heap q (K.1.2 0 14) := fun q hq => (m450 q hq).trans (f0_rf q hq)
      refine W.eq (g2 := F0 m 67 ls423 [.int x449]) rfl ?_
      refine lv_pop hx hb dX9_doLine_67 rfl ?_
      refine lv_goto (tgt := 137) hx hb dX9_doLine_68 (by decide) ?_
      exact J137 ls423 H448 locsH448 (lv_sub hl424 [] rfl) hTH448 hSH448 f457
  · have k428 := i_eq c427
    refine lv_aload_n hx hb dX9_doLine_27 rfl (lv_at hl424 5 rfl) ?_
    refine lv_iload hx hb dX9_doLine_28 (lv_at hl424 1 rfl) ?_
    refine x_V (As := [.int x418]) (rest := []) C (a_X0_has l K G s.heap (x418) hT ga3) yo_X0_has wM_X9_82 ⟨⟨by decide, by decide⟩, by decide, by decide⟩ (x_rv C hT (ci := 0) rfl ga3 rg_1) rfl hl424.1 rfl (Nat.le_of_ble_eq_true rfl) dX9_doLine_30 hS (AE_sub (fun _ _ => rfl) (by decide) hS.1) (fun vH458 H458 locsH458 pH458 zH458 kH458 hSH458 => ?_)
    have hqH458 := pH458.1.symm
    subst hqH458
    rcases pH458.2 with ⟨hvH458, hcH458⟩ | hvH458
    · subst hvH458
      refine W.eq (g2 := F0 m 33 ls423 [.int 1]) rfl ?_
      refine lv_if_eq (tgt := 137) hx hb dX9_doLine_33 (by decide) (fun c459 => ?_) (fun c459 => ?_)
      · have k460 := i_eq c459
        exfalso
        omega
      · have k460 := i_ne c459
        refine lv_aload_n hx hb dX9_doLine_36 rfl (lv_at hl424 5 rfl) ?_
        refine x_gr C hT (ci := 0) (k := 4) rfl inX0 (by decide) wF_X9_102 ga3 rg_1 rfl dX9_doLine_37 (fun q461 eq461 gq461 => ?_)
        refine lv_iload hx hb dX9_doLine_40 (lv_at hl424 1 rfl) ?_
        refine lv_iload hx hb dX9_doLine_42 (lv_at hl424 0 rfl) ?_
        refine x_iast C hT hSH458 gq461 rg_5 (by omega) (by show _ < ((16 : Nat) : Int); omega) ⟨by have := i_rng x422; omega, by have := i_rng x422; omega⟩ (AE_in gq461 (by decide)) dX9_doLine_44 (fun H462 locsH462 hTH462 hSH462 wH462 => ?_)
        have f463 : ∀ q : Nat, G q = some 1 → fI H462 q (K.1.2 0 14) = fI s.heap q (K.1.2 0 14) := fun q hq => (Wr.neI wH462 (Or.inl (G_ne hq gq461 (by decide)))).trans (f0_rf q hq)
        have m464 := eq417.trans (Wr.neR wH462 (Or.inl (G_ne ga1 gq461 (by decide)))).symm
        have m465 := ex418.trans (Wr.neI wH462 (Or.inl (G_ne gq417 gq461 (by decide)))).symm
        have m466 := eq421.trans (Wr.neR wH462 (Or.inl (G_ne ga1 gq461 (by decide)))).symm
        have m467 := ex422.trans (Wr.neI wH462 (Or.inl (G_ne gq421 gq461 (by decide)))).symm
        have m468 := eq425.trans (Wr.neR wH462 (Or.inl (G_ne ga1 gq461 (by decide)))).symm
        have m469 := ex426.trans (Wr.neI wH462 (Or.inl (G_ne gq425 gq461 (by decide)))).symm
        have m470 := eq461.trans (Wr.neR wH462 (Or.inl (G_ne ga3 gq461 (by decide)))).symm
        have m471 := Wr.I wH462
        have m471 := m471.symm
        refine lv_goto (tgt := 137) hx hb dX9_doLine_45 (by decide) ?_
        exact J137 ls423 H462 locsH462 (lv_sub hl424 [] rfl) hTH462 hSH462 f463
    · subst hvH458
      refine W.eq (g2 := F0 m 33 ls423 [.int 0]) rfl ?_
      refine lv_if_eq (tgt := 137) hx hb dX9_doLine_33 (by decide) (fun c472 => ?_) (fun c472 => ?_)
      · have k473 := i_eq c472
        exact J137 ls423 s.heap locsH458 (lv_sub hl424 [] rfl) hT hSH458 f0_rf
      · have k473 := i_ne c472
        exfalso
        omega

set_option maxHeartbeats 4000000 in
set_option maxRecDepth 100000 in
theorem a_X9_shave_q (l : Launch) (K : KE) (G : Nat → Option Nat) (H : Heap) {a0 : Nat} (x1 : Int32) (x2 : Int32) (x3 : Int32) (hT : TY K G H) (ga0 : G a0 = some 68) : MX l K yX9_shave cX9_shave 5 (some .int) 6 149 0 0 [.ref a0, .int x1, .int x2, .int x3] H (AE G [1, 2, 7, 8, 83, 84] H.size) (fun v H1 => ∃ (r : Int32), v = some (.int r) ∧ (∀ q : Nat, G q = some 1 → fI H1 q (K.1.2 0 14) = fI H q (K.1.2 0 14)) ∧ TY K G H1) := by
  refine MX.of (by decide +kernel) (Nat.le_of_ble_eq_true rfl) ?_
  intro p e s m below meth c ls Q C hH hl hQ
  subst hH
  have C : CX p K s m _ meth c RX9 cX9_shave 5 (some .int) "shave" := C
  obtain ⟨hx, hb, hml, hown, hts, hKT, hr, hlocks, hnm⟩ := id C
  have hl : lv_has ls 5 [(0, .ref a0), (1, .int x1), (2, .int x2), (3, .int x3)] := hl
  have hS : va_S (AE G [1, 2, 7, 8, 83, 84] s.heap.size) s.heap s.heap [] := va_S.rf
  have n_m1 : ((-1) : Int32).toInt = -1 := rfl
  have f0_rf : ∀ q : Nat, G q = some 1 → fI s.heap q (K.1.2 0 14) = fI s.heap q (K.1.2 0 14) := fun _ _ => rfl
  refine lv_aload_n hx hb dX9_shave_0 rfl (lv_at hl 0 rfl) ?_
  refine lv_iload_n hx hb dX9_shave_1 rfl (lv_at hl 1 rfl) ?_
  refine x_V (As := [.int x1]) (rest := []) C (a_X9_barAt l K G s.heap (x1) hT ga0) yo_X9_barAt wM_X9_78 ⟨⟨by decide, by decide⟩, by decide, by decide⟩ (x_rv C hT (ci := 9) rfl ga0 rg_68) rfl hl.1 rfl (Nat.le_of_ble_eq_true rfl) dX9_shave_2 hS (AE_sub (fun _ _ => rfl) (by decide) hS.1) (fun vH145 H145 locsH145 pH145 zH145 kH145 hSH145 => ?_)
  have hTH145 := pH145.2
  have f146 : ∀ q : Nat, G q = some 1 → fI H145 q (K.1.2 0 14) = fI s.heap q (K.1.2 0 14) := fun q hq => (fI_kept (x_lt hT kH145 hq (by decide))).trans (f0_rf q hq)
  rcases pH145.1 with hvH145 | ⟨q147, hvH145, gq147⟩
  · skip
    subst hvH145
    refine W.eq (g2 := F0 m 5 ls [.null]) rfl ?_
    refine lv_astoreN (lv' := [(4, .null), (0, .ref a0), (1, .int x1), (2, .int x2), (3, .int x3)]) hx hb dX9_shave_5 hl (by decide) rfl (fun ls148 hl149 => ?_)
    refine lv_aloadN hx hb dX9_shave_7 (lv_at hl149 0 rfl) ?_
    refine lv_ifnonnullN hx hb dX9_shave_9 ?_
    refine lv_iconst (v := (-1)) hx hb dX9_shave_12 (by decide) ?_
    exact x_iret C hQ dX9_shave_13 hSH145 (by decide) (by decide) (⟨(-1), rfl, f146, hTH145⟩)
  · skip
    subst hvH145
    refine W.eq (g2 := F0 m 5 ls [.ref q147]) rfl ?_
    refine lv_astore (lv' := [(4, .ref q147), (0, .ref a0), (1, .int x1), (2, .int x2), (3, .int x3)]) hx hb dX9_shave_5 hl (by decide) rfl (fun ls150 hl151 => ?_)
    refine lv_aload hx hb dX9_shave_7 (lv_at hl151 0 rfl) ?_
    refine lv_ifnonnull (tgt := 14) hx hb dX9_shave_9 (by decide) ?_
    refine lv_aload_n hx hb dX9_shave_14 rfl (lv_at hl151 1 rfl) ?_
    refine lv_aload hx hb dX9_shave_15 (lv_at hl151 0 rfl) ?_
    refine lv_iload_n hx hb dX9_shave_17 rfl (lv_at hl151 3 rfl) ?_
    refine lv_iload_n hx hb dX9_shave_18 rfl (lv_at hl151 4 rfl) ?_
    refine x_V (As := [.ref q147, .int x2, .int x3]) (rest := []) C (a_X9_takeOff_q l K G H145 (x2) (x3) hTH145 ga0 gq147) yo_X9_takeOff wM_X9_170 ⟨⟨by decide, by decide⟩, by decide, by decide⟩ (x_rv C hTH145 (ci := 9) rfl ga0 rg_68) rfl hl151.1 rfl (Nat.le_of_ble_eq_true rfl) dX9_shave_19 hSH145 (AE_sub (fun _ _ => rfl) (by decide) hSH145.1) (fun vH152 H152 locsH152 pH152 zH152 kH152 hSH152 => ?_)
    obtain ⟨x153, hvH152, m154, hTH152⟩ := pH152
    subst hvH152
    have f155 : ∀ q : Nat, G q = some 1 → fI H152 q (K.1.2 0 14) = fI s.heap q (K.1.2 0 14) := fun q hq => (m154 q hq).trans (f146 q hq)
    refine W.eq (g2 := F0 m 22 ls150 [.int x153]) rfl ?_
    exact x_iret C hQ dX9_shave_22 hSH152 (by decide) (by decide) (⟨x153, rfl, f155, hTH152⟩)

set_option maxHeartbeats 4000000 in
set_option maxRecDepth 100000 in
theorem a_X9_job_q (l : Launch) (K : KE) (G : Nat → Option Nat) (H : Heap) {a0 : Nat} (x1 : Int32) (x2 : Int32) (hT : TY K G H) (ga0 : G a0 = some 68) : MX l K yX9_job cX9_job 7 (some .int) 7 177 0 0 [.ref a0, .int x1, .int x2] H (AE G [1, 2, 7, 8, 83, 84, 5] H.size) (fun v H1 => ∃ (r : Int32), v = some (.int r) ∧ (∀ q : Nat, G q = some 1 → fI H1 q (K.1.2 0 14) = fI H q (K.1.2 0 14)) ∧ TY K G H1) := by
  refine MX.of (by decide +kernel) (Nat.le_of_ble_eq_true rfl) ?_
  intro p e s m below meth c ls Q C hH hl hQ
  subst hH
  have C : CX p K s m _ meth c RX9 cX9_job 7 (some .int) "job" := C
  obtain ⟨hx, hb, hml, hown, hts, hKT, hr, hlocks, hnm⟩ := id C
  have hl : lv_has ls 7 [(0, .ref a0), (1, .int x1), (2, .int x2)] := hl
  have hS : va_S (AE G [1, 2, 7, 8, 83, 84, 5] s.heap.size) s.heap s.heap [] := va_S.rf
  have n_m1 : ((-1) : Int32).toInt = -1 := rfl
  have n_0 : (0 : Int32).toInt = 0 := rfl
  have n_1 : (1 : Int32).toInt = 1 := rfl
  have n_3 : (3 : Int32).toInt = 3 := rfl
  have f0_rf : ∀ q : Nat, G q = some 1 → fI s.heap q (K.1.2 0 14) = fI s.heap q (K.1.2 0 14) := fun _ _ => rfl
  have J19 : ∀ (ls599 : Array Slot) (H598 : Heap) (locsH598 : List Loc) , lv_has ls599 7 [] → TY K G H598 → va_S (AE G [1, 2, 7, 8, 83, 84, 5] s.heap.size) s.heap H598 locsH598 → (∀ q : Nat, G q = some 1 → fI H598 q (K.1.2 0 14) = fI s.heap q (K.1.2 0 14)) → W p l e ({ frames := 7, cells := 0, slots := 0, locals := 177 } : Room) s m (([.ref a0, .int x1, .int x2] : List Value).toArray) below meth c H598 locsH598 0 0 Q (F0 m 19 ls599 []) := by
    intro ls599 H598 locsH598  hl600 hTH598 hSH598 fy601_rf
    refine lv_iconst (v := (-1)) hx hb dX9_job_19 (by decide) ?_
    exact x_iret C hQ dX9_job_20 hSH598 (by decide) (by decide) (⟨(-1), rfl, fy601_rf, hTH598⟩)
  have J41 : ∀ (nf : Nat) (ls603 : Array Slot) (H602 : Heap) (locsH602 : List Loc) (q605 : Nat) (x606 : Int32) (q607 : Nat) (x608 : Int32), lv_has ls603 7 [(0, .ref a0), (3, .ref q605), (4, .int x606), (5, .ref q607), (6, .int x608)] → TY K G H602 → va_S (AE G [1, 2, 7, 8, 83, 84, 5] s.heap.size) s.heap H602 locsH602 → (G q605 = some 1) → (0 ≤ x606.toInt ∧ x606.toInt ≤ 200) → (G q607 = some 16) → (0 ≤ x608.toInt ∧ x608.toInt ≤ 16) → (∀ q : Nat, G q = some 1 → fI H602 q (K.1.2 0 14) = fI s.heap q (K.1.2 0 14)) → (16 - x608.toInt < (nf : Int)) → W p l e ({ frames := 7, cells := 0, slots := 0, locals := 177 } : Room) s m (([.ref a0, .int x1, .int x2] : List Value).toArray) below meth c H602 locsH602 0 0 Q (F0 m 41 ls603 []) := by
    intro nf
    induction nf with
    | zero =>
      intro ls603 H602 locsH602 q605 x606 q607 x608 hl604 hTH602 hSH602 gq605 bx606 gq607 bx608 fy609_rf hm41
      exfalso
      omega
    | succ nf ih41 =>
      intro ls603 H602 locsH602 q605 x606 q607 x608 hl604 hTH602 hSH602 gq605 bx606 gq607 bx608 fy609_rf hm41
      have J72 : ∀ (ls611 : Array Slot) (H610 : Heap) (locsH610 : List Loc) , lv_has ls611 7 [(0, .ref a0), (3, .ref q605), (4, .int x606), (5, .ref q607), (6, .int x608)] → TY K G H610 → va_S (AE G [1, 2, 7, 8, 83, 84, 5] s.heap.size) s.heap H610 locsH610 → (0 ≤ x608.toInt ∧ x608.toInt ≤ 15) → (∀ q : Nat, G q = some 1 → fI H610 q (K.1.2 0 14) = fI s.heap q (K.1.2 0 14)) → W p l e ({ frames := 7, cells := 0, slots := 0, locals := 177 } : Room) s m (([.ref a0, .int x1, .int x2] : List Value).toArray) below meth c H610 locsH610 0 0 Q (F0 m 72 ls611 []) := by
        intro ls611 H610 locsH610  hl612 hTH610 hSH610 b613 fy614_rf
        obtain ⟨x615, ex615⟩ : ∃ y : Int32, y = x608 + 1 := ⟨_, rfl⟩
        have tx615 := i_add ex615 (by omega)
        refine lv_iinc (v := x615) (lv' := [(6, .int x615), (0, .ref a0), (3, .ref q605), (4, .int x606), (5, .ref q607)]) hx hb dX9_job_72 hl612 (k := 4) rfl (by rw [ex615]; rfl) (by decide) rfl (fun ls616 hl617 => ?_)
        refine lv_goto (tgt := 41) hx hb dX9_job_75 (by decide) ?_
        exact ih41 ls616 H610 locsH610 (q605) (x606) (q607) (x615) (lv_sub hl617 [1, 2, 3, 4, 0] rfl) hTH610 hSH610 gq605 (by have := i_rng x606; omega) gq607 (by have := i_rng x615; omega) fy614_rf (by omega)
      refine lv_iload hx hb dX9_job_41 (lv_at hl604 4 rfl) ?_
      refine lv_aload hx hb dX9_job_43 (lv_at hl604 3 rfl) ?_
      refine x_gi C hTH602 (ci := 7) (k := 0) rfl inX7 (by decide) wF_X9_144 gq607 rg_16 rfl dX9_job_45 (fun x618 ex618 bx618 => ?_)
      refine lv_icmp_ge (tgt := 78) hx hb dX9_job_48 (by decide) (fun c619 => ?_) (fun c619 => ?_)
      · have k620 := i_le c619
        refine lv_aload_n hx hb dX9_job_78 rfl (lv_at hl604 1 rfl) ?_
        refine x_gi C hTH602 (ci := 0) (k := 8) rfl inX0 (by decide) wF_X9_86 gq605 rg_1 rfl dX9_job_79 (fun x621 ex621 bx621 => ?_)
        refine lv_iload hx hb dX9_job_82 (lv_at hl604 2 rfl) ?_
        refine lv_isub hx hb dX9_job_84 ?_
        refine lv_topi (fun x622 ex622 => ?_)
        have tx622 := i_sub ex622 (by omega)
        exact x_iret C hQ dX9_job_85 hSH602 (by decide) (by decide) (⟨x622, rfl, fy609_rf, hTH602⟩)
      · have k620 := i_nle c619
        refine lv_aload_n hx hb dX9_job_51 rfl (lv_at hl604 0 rfl) ?_
        refine lv_aload hx hb dX9_job_52 (lv_at hl604 3 rfl) ?_
        refine lv_iload hx hb dX9_job_54 (lv_at hl604 4 rfl) ?_
        refine lv_aload_n hx hb dX9_job_56 rfl (lv_at hl604 1 rfl) ?_
        refine x_V (As := [.ref q607, .int x608, .ref q605]) (rest := []) C (a_X9_comesTrue l K G H602 (x608) hTH602 ga0 gq607 (by omega) gq605) yo_X9_comesTrue wM_X9_223 ⟨⟨by decide, by decide⟩, by decide, by decide⟩ (x_rv C hTH602 (ci := 9) rfl ga0 rg_68) rfl hl604.1 rfl (Nat.le_of_ble_eq_true rfl) dX9_job_57 hSH602 (AE_sub (fun _ _ => rfl) (by decide) hSH602.1) (fun vH623 H623 locsH623 pH623 zH623 kH623 hSH623 => ?_)
        obtain ⟨⟨x624, hvH623, bx624⟩, hTH623⟩ := pH623
        subst hvH623
        have f625 : ∀ q : Nat, G q = some 1 → fI H623 q (K.1.2 0 14) = fI s.heap q (K.1.2 0 14) := fun q hq => (fI_kept (x_lt hTH602 kH623 hq (by decide))).trans (fy609_rf q hq)
        have m626 := (ex618).trans (fI_kept (x_lt hTH602 kH623 gq607 (by decide))).symm
        refine W.eq (g2 := F0 m 60 ls603 [.int x624]) rfl ?_
        refine lv_if_eq (tgt := 72) hx hb dX9_job_60 (by decide) (fun c627 => ?_) (fun c627 => ?_)
        · have k628 := i_eq c627
          exact J72 ls603 H623 locsH623 (lv_sub hl604 [0, 1, 2, 3, 4] rfl) hTH623 hSH623 (by have := i_rng x608; omega) f625
        · have k628 := i_ne c627
          refine lv_aload_n hx hb dX9_job_63 rfl (lv_at hl604 0 rfl) ?_
          refine lv_aload hx hb dX9_job_64 (lv_at hl604 3 rfl) ?_
          refine lv_iload hx hb dX9_job_66 (lv_at hl604 4 rfl) ?_
          refine lv_aload_n hx hb dX9_job_68 rfl (lv_at hl604 1 rfl) ?_
          refine x_V (As := [.ref q607, .int x608, .ref q605]) (rest := []) C (a_X9_doLine_q l K G H623 (x608) hTH623 ga0 gq607 (by omega) gq605) yo_X9_doLine wM_X9_227 ⟨⟨by decide, by decide⟩, by decide, by decide⟩ (x_rv C hTH623 (ci := 9) rfl ga0 rg_68) rfl hl604.1 rfl (Nat.le_of_ble_eq_true rfl) dX9_job_69 hSH623 (AE_sub (fun _ _ => rfl) (by decide) hSH623.1) (fun vH629 H629 locsH629 pH629 zH629 kH629 hSH629 => ?_)
          obtain ⟨hvH629, m630, hTH629⟩ := pH629
          subst hvH629
          have m631 := (m626).trans (fI_kept (x_lt hTH623 kH629 gq607 (by decide))).symm
          have f632 : ∀ q : Nat, G q = some 1 → fI H629 q (K.1.2 0 14) = fI s.heap q (K.1.2 0 14) := fun q hq => (m630 q hq).trans (f625 q hq)
          refine W.eq (g2 := F0 m 72 ls603 []) rfl ?_
          exact J72 ls603 H629 locsH629 (lv_sub hl604 [0, 1, 2, 3, 4] rfl) hTH629 hSH629 (by have := i_rng x608; omega) f632
  refine lv_aload_n hx hb dX9_job_0 rfl (lv_at hl 0 rfl) ?_
  refine lv_iload_n hx hb dX9_job_1 rfl (lv_at hl 2 rfl) ?_
  refine x_V (As := [.int x2]) (rest := []) C (a_X9_barAt l K G s.heap (x2) hT ga0) yo_X9_barAt wM_X9_78 ⟨⟨by decide, by decide⟩, by decide, by decide⟩ (x_rv C hT (ci := 9) rfl ga0 rg_68) rfl hl.1 rfl (Nat.le_of_ble_eq_true rfl) dX9_job_2 hS (AE_sub (fun _ _ => rfl) (by decide) hS.1) (fun vH633 H633 locsH633 pH633 zH633 kH633 hSH633 => ?_)
  have hTH633 := pH633.2
  have f634 : ∀ q : Nat, G q = some 1 → fI H633 q (K.1.2 0 14) = fI s.heap q (K.1.2 0 14) := fun q hq => (fI_kept (x_lt hT kH633 hq (by decide))).trans (f0_rf q hq)
  rcases pH633.1 with hvH633 | ⟨q635, hvH633, gq635⟩
  · skip
    subst hvH633
    refine W.eq (g2 := F0 m 5 ls [.null]) rfl ?_
    refine lv_astore_nN (lv' := [(3, .null), (0, .ref a0), (1, .int x1), (2, .int x2)]) hx hb dX9_job_5 rfl hl (by decide) rfl (fun ls636 hl637 => ?_)
    refine lv_aload_nN hx hb dX9_job_6 rfl (lv_at hl637 0 rfl) ?_
    refine lv_ifnullN (tgt := 19) hx hb dX9_job_7 (by decide) ?_
    exact J19 ls636 H633 locsH633 (lv_sub hl637 [] rfl) hTH633 hSH633 f634
  · skip
    subst hvH633
    refine W.eq (g2 := F0 m 5 ls [.ref q635]) rfl ?_
    refine lv_astore_n (lv' := [(3, .ref q635), (0, .ref a0), (1, .int x1), (2, .int x2)]) hx hb dX9_job_5 rfl hl (by decide) rfl (fun ls638 hl639 => ?_)
    refine lv_aload_n hx hb dX9_job_6 rfl (lv_at hl639 0 rfl) ?_
    refine lv_ifnull hx hb dX9_job_7 ?_
    refine lv_iload_n hx hb dX9_job_10 rfl (lv_at hl639 2 rfl) ?_
    refine lv_iconst (v := 0) hx hb dX9_job_11 (by decide) ?_
    refine lv_iconst (v := 3) hx hb dX9_job_12 (by decide) ?_
    refine x_S (As := [.int x1, .int 0, .int 3]) (rest := []) C (c_X9_within l K G H633 (x1) (0) (3) hTH633) yo_X9_within wM_X9_89 ⟨⟨by decide, by decide⟩, by decide, by decide⟩ rfl hl639.1 rfl (Nat.le_of_ble_eq_true rfl) dX9_job_13 hSH633 (AE_sub (fun _ _ => rfl) (by decide) hSH633.1) (fun vH640 H640 locsH640 pH640 zH640 kH640 hSH640 => ?_)
    have hqH640 := pH640.1.symm
    subst hqH640
    rcases pH640.2 with ⟨hvH640, hcH640⟩ | ⟨hvH640, hcH640⟩
    · subst hvH640
      refine W.eq (g2 := F0 m 16 ls638 [.int 1]) rfl ?_
      refine lv_if_ne (tgt := 21) hx hb dX9_job_16 (by decide) (fun c641 => ?_) (fun c641 => ?_)
      · have k642 := i_ne c641
        refine lv_aload_n hx hb dX9_job_21 rfl (lv_at hl639 0 rfl) ?_
        refine x_gi C hTH633 (ci := 0) (k := 8) rfl inX0 (by decide) wF_X9_86 gq635 rg_1 rfl dX9_job_22 (fun x643 ex643 bx643 => ?_)
        refine lv_istore (lv' := [(4, .int x643), (3, .ref q635), (0, .ref a0), (1, .int x1), (2, .int x2)]) hx hb dX9_job_25 hl639 (by decide) rfl (fun ls644 hl645 => ?_)
        refine lv_aload_n hx hb dX9_job_27 rfl (lv_at hl645 2 rfl) ?_
        refine x_gr C hTH633 (ci := 9) (k := 0) rfl inX9 (by decide) wF_X9_12 ga0 rg_68 rfl dX9_job_28 (fun q646 eq646 gq646 => ?_)
        refine x_gr C hTH633 (ci := 8) (k := 3) rfl inX8 (by decide) wF_X9_220 gq646 rg_0 rfl dX9_job_31 (fun q647 eq647 gq647 => ?_)
        refine lv_iload_n hx hb dX9_job_34 rfl (lv_at hl645 3 rfl) ?_
        refine x_ar C hTH633 rfl rfl gq647 rg_27 ⟨by omega, by show _ < ((4 : Nat) : Int); omega⟩ dX9_job_35 (fun q648 eq648 gq648 => ?_)
        refine lv_astore (lv' := [(5, .ref q648), (4, .int x643), (3, .ref q635), (0, .ref a0), (1, .int x1), (2, .int x2)]) hx hb dX9_job_36 hl645 (by decide) rfl (fun ls649 hl650 => ?_)
        refine lv_iconst (v := 0) hx hb dX9_job_38 (by decide) ?_
        refine lv_istore (lv' := [(6, .int 0), (5, .ref q648), (4, .int x643), (3, .ref q635), (0, .ref a0), (1, .int x1), (2, .int x2)]) hx hb dX9_job_39 hl650 (by decide) rfl (fun ls651 hl652 => ?_)
        exact J41 ((16 - (0 : Int32).toInt).toNat + 1) ls651 H633 locsH640 (q635) (x643) (q648) (0) (lv_sub hl652 [4, 3, 2, 1, 0] rfl) hTH633 hSH640 gq635 (by have := i_rng x643; omega) gq648 (by decide) f634 (by omega)
      · have k642 := i_eq c641
        exfalso
        omega
    · subst hvH640
      refine W.eq (g2 := F0 m 16 ls638 [.int 0]) rfl ?_
      refine lv_if_ne (tgt := 21) hx hb dX9_job_16 (by decide) (fun c653 => ?_) (fun c653 => ?_)
      · have k654 := i_ne c653
        exfalso
        omega
      · have k654 := i_eq c653
        exact J19 ls638 H633 locsH640 (lv_sub hl639 [] rfl) hTH633 hSH640 f634

set_option maxHeartbeats 4000000 in
set_option maxRecDepth 100000 in
theorem a_X0_addTap_q (l : Launch) (K : KE) (G : Nat → Option Nat) (H : Heap) {a0 : Nat} (x1 : Int32) (x2 : Int32) (tc : Int32) (hT : TY K G H) (ga0 : G a0 = some 1) (etc : tc = fI H a0 (K.1.2 0 14)) (hp0 : tc.toInt ≤ 11) : MX l K yX0_addTap cX0_addTap 3 none 1 40 0 0 [.ref a0, .int x1, .int x2] H (AE G [1, 9, 10, 12, 14] H.size) (fun v H1 => ∃ (t0 : Int32), v = none ∧ t0 = fI H1 a0 (K.1.2 0 14) ∧ (t0.toInt = tc.toInt + 1) ∧ (∀ q : Nat, G q = some 1 → q ≠ a0 → fI H1 q (K.1.2 0 14) = fI H q (K.1.2 0 14)) ∧ TY K G H1) := by
  refine MX.of (by decide +kernel) (Nat.le_of_ble_eq_true rfl) ?_
  intro p e s m below meth c ls Q C hH hl hQ
  subst hH
  have C : CX p K s m _ meth c RX0 cX0_addTap 3 none "addTap" := C
  obtain ⟨hx, hb, hml, hown, hts, hKT, hr, hlocks, hnm⟩ := id C
  have hl : lv_has ls 3 [(0, .ref a0), (1, .int x1), (2, .int x2)] := hl
  have hS : va_S (AE G [1, 9, 10, 12, 14] s.heap.size) s.heap s.heap [] := va_S.rf
  have n_0 : (0 : Int32).toInt = 0 := rfl
  have n_1 : (1 : Int32).toInt = 1 := rfl
  have n_12 : (12 : Int32).toInt = 12 := rfl
  have n_16 : (16 : Int32).toInt = 16 := rfl
  have btc := ty_fi (x := tc) (k := 14) etc hT ga0 rg_1 rfl
  have f0_rf : ∀ q : Nat, G q = some 1 → q ≠ a0 → fI s.heap q (K.1.2 0 14) = fI s.heap q (K.1.2 0 14) := fun _ _ _ => rfl
  refine lv_aload_n hx hb dX0_addTap_0 rfl (lv_at hl 0 rfl) ?_
  refine x_gi C hT (ci := 0) (k := 14) rfl inX0 (by decide) wF_X0_66 ga0 rg_1 rfl dX0_addTap_1 (fun x345 ex345 bx345 => ?_)
  have ux345 : tc = x345 := (etc).trans ex345.symm
  subst ux345
  refine lv_bipush (v := 12) hx hb dX0_addTap_4 (by decide) ?_
  refine lv_icmp_ge (tgt := 79) hx hb dX0_addTap_6 (by decide) (fun c346 => ?_) (fun c346 => ?_)
  · have k347 := i_le c346
    exfalso
    omega
  · have k347 := i_nle c346
    refine lv_aload_n hx hb dX0_addTap_9 rfl (lv_at hl 0 rfl) ?_
    refine x_gr C hT (ci := 0) (k := 10) rfl inX0 (by decide) wF_X0_33 ga0 rg_1 rfl dX0_addTap_10 (fun q348 eq348 gq348 => ?_)
    refine lv_aload_n hx hb dX0_addTap_13 rfl (lv_at hl 0 rfl) ?_
    refine x_gi C hT (ci := 0) (k := 14) rfl inX0 (by decide) wF_X0_66 ga0 rg_1 rfl dX0_addTap_14 (fun x349 ex349 bx349 => ?_)
    have ux349 : tc = x349 := (etc).trans ex349.symm
    subst ux349
    refine lv_iload_n hx hb dX0_addTap_17 rfl (lv_at hl 1 rfl) ?_
    refine x_iast C hT hS gq348 rg_9 (by omega) (by show _ < ((12 : Nat) : Int); omega) ⟨by have := i_rng x1; omega, by have := i_rng x1; omega⟩ (AE_in gq348 (by decide)) dX0_addTap_18 (fun H350 locsH350 hTH350 hSH350 wH350 => ?_)
    have f351 : ∀ q : Nat, G q = some 1 → q ≠ a0 → fI H350 q (K.1.2 0 14) = fI s.heap q (K.1.2 0 14) := fun q hq hn => (Wr.neI wH350 (Or.inl (G_ne hq gq348 (by decide)))).trans (f0_rf q hq hn)
    have m352 := etc.trans (Wr.neI wH350 (Or.inl (G_ne ga0 gq348 (by decide)))).symm
    have m353 := eq348.trans (Wr.neR wH350 (Or.inl (G_ne ga0 gq348 (by decide)))).symm
    have m354 := Wr.I wH350
    have m354 := m354.symm
    refine lv_aload_n hx hb dX0_addTap_19 rfl (lv_at hl 0 rfl) ?_
    refine x_gr C hTH350 (ci := 0) (k := 11) rfl inX0 (by decide) wF_X0_36 ga0 rg_1 rfl dX0_addTap_20 (fun q355 eq355 gq355 => ?_)
    refine lv_aload_n hx hb dX0_addTap_23 rfl (lv_at hl 0 rfl) ?_
    refine x_gi C hTH350 (ci := 0) (k := 14) rfl inX0 (by decide) wF_X0_66 ga0 rg_1 rfl dX0_addTap_24 (fun x356 ex356 bx356 => ?_)
    have ux356 : tc = x356 := (m352).trans ex356.symm
    subst ux356
    refine lv_iload_n hx hb dX0_addTap_27 rfl (lv_at hl 2 rfl) ?_
    refine x_iast C hTH350 hSH350 gq355 rg_10 (by omega) (by show _ < ((12 : Nat) : Int); omega) ⟨by have := i_rng x2; omega, by have := i_rng x2; omega⟩ (AE_in gq355 (by decide)) dX0_addTap_28 (fun H357 locsH357 hTH357 hSH357 wH357 => ?_)
    have f358 : ∀ q : Nat, G q = some 1 → q ≠ a0 → fI H357 q (K.1.2 0 14) = fI s.heap q (K.1.2 0 14) := fun q hq hn => (Wr.neI wH357 (Or.inl (G_ne hq gq355 (by decide)))).trans (f351 q hq hn)
    have m359 := m352.trans (Wr.neI wH357 (Or.inl (G_ne ga0 gq355 (by decide)))).symm
    have m360 := m353.trans (Wr.neR wH357 (Or.inl (G_ne ga0 gq355 (by decide)))).symm
    have m361 := m354.trans (Wr.neI wH357 (Or.inl (G_ne gq348 gq355 (by decide)))).symm
    have m362 := eq355.trans (Wr.neR wH357 (Or.inl (G_ne ga0 gq355 (by decide)))).symm
    have m363 := Wr.I wH357
    have m363 := m363.symm
    refine lv_aload_n hx hb dX0_addTap_29 rfl (lv_at hl 0 rfl) ?_
    refine x_gr C hTH357 (ci := 0) (k := 1) rfl inX0 (by decide) wF_X0_9 ga0 rg_1 rfl dX0_addTap_30 (fun q364 eq364 gq364 => ?_)
    refine lv_iconst (v := 0) hx hb dX0_addTap_33 (by decide) ?_
    refine lv_aload_n hx hb dX0_addTap_34 rfl (lv_at hl 0 rfl) ?_
    refine x_gr C hTH357 (ci := 0) (k := 12) rfl inX0 (by decide) wF_X0_41 ga0 rg_1 rfl dX0_addTap_35 (fun q365 eq365 gq365 => ?_)
    refine lv_aload_n hx hb dX0_addTap_38 rfl (lv_at hl 0 rfl) ?_
    refine x_gi C hTH357 (ci := 0) (k := 14) rfl inX0 (by decide) wF_X0_66 ga0 rg_1 rfl dX0_addTap_39 (fun x366 ex366 bx366 => ?_)
    have ux366 : tc = x366 := (m359).trans ex366.symm
    subst ux366
    refine x_ar C hTH357 rfl rfl gq365 rg_11 ⟨by omega, by show _ < ((12 : Nat) : Int); omega⟩ dX0_addTap_42 (fun q367 eq367 gq367 => ?_)
    refine lv_iconst (v := 0) hx hb dX0_addTap_43 (by decide) ?_
    refine lv_bipush (v := 16) hx hb dX0_addTap_44 (by decide) ?_
    refine x_copy C hTH357 hSH357 wM_X0_75 wNT_arraycopy wST_arraycopy wIN_J10 gq364 gq367 rg_2 rg_12 (by decide) (by omega) (by omega) (by omega) (by show _ ≤ ((16 : Nat) : Int); omega) (by show _ ≤ ((16 : Nat) : Int); omega) (AE_in gq367 (by decide)) hl.1 (by decide) dX0_addTap_46 (fun H368 locsH368 hTH368 hSH368 zH368 oH368 vH368 wH368 => ?_)
    have m369 := (m359).trans (fI_kept (oH368 _ (G_ne ga0 gq367 (by decide)))).symm
    have m370 := (m360).trans (fR_kept (oH368 _ (G_ne ga0 gq367 (by decide)))).symm
    have m371 := (m361).trans (fI_kept (oH368 _ (G_ne gq348 gq367 (by decide)))).symm
    have m372 := (m362).trans (fR_kept (oH368 _ (G_ne ga0 gq367 (by decide)))).symm
    have m373 := (m363).trans (fI_kept (oH368 _ (G_ne gq355 gq367 (by decide)))).symm
    have m374 := (eq364).trans (fR_kept (oH368 _ (G_ne ga0 gq367 (by decide)))).symm
    have m375 := (eq365).trans (fR_kept (oH368 _ (G_ne ga0 gq367 (by decide)))).symm
    have f376 : ∀ q : Nat, G q = some 1 → q ≠ a0 → fI H368 q (K.1.2 0 14) = fI s.heap q (K.1.2 0 14) := fun q hq hn => (fI_kept (oH368 _ (G_ne hq gq367 (by decide)))).trans (f358 q hq hn)
    refine lv_aload_n hx hb dX0_addTap_49 rfl (lv_at hl 0 rfl) ?_
    refine x_gr C hTH368 (ci := 0) (k := 4) rfl inX0 (by decide) wF_X0_21 ga0 rg_1 rfl dX0_addTap_50 (fun q377 eq377 gq377 => ?_)
    refine lv_iconst (v := 0) hx hb dX0_addTap_53 (by decide) ?_
    refine lv_aload_n hx hb dX0_addTap_54 rfl (lv_at hl 0 rfl) ?_
    refine x_gr C hTH368 (ci := 0) (k := 13) rfl inX0 (by decide) wF_X0_44 ga0 rg_1 rfl dX0_addTap_55 (fun q378 eq378 gq378 => ?_)
    refine lv_aload_n hx hb dX0_addTap_58 rfl (lv_at hl 0 rfl) ?_
    refine x_gi C hTH368 (ci := 0) (k := 14) rfl inX0 (by decide) wF_X0_66 ga0 rg_1 rfl dX0_addTap_59 (fun x379 ex379 bx379 => ?_)
    have ux379 : tc = x379 := (m369).trans ex379.symm
    subst ux379
    refine x_ar C hTH368 rfl rfl gq378 rg_13 ⟨by omega, by show _ < ((12 : Nat) : Int); omega⟩ dX0_addTap_62 (fun q380 eq380 gq380 => ?_)
    refine lv_iconst (v := 0) hx hb dX0_addTap_63 (by decide) ?_
    refine lv_bipush (v := 16) hx hb dX0_addTap_64 (by decide) ?_
    refine x_copy C hTH368 hSH368 wM_X0_75 wNT_arraycopy wST_arraycopy wIN_J10 gq377 gq380 rg_5 rg_14 (by decide) (by omega) (by omega) (by omega) (by show _ ≤ ((16 : Nat) : Int); omega) (by show _ ≤ ((16 : Nat) : Int); omega) (AE_in gq380 (by decide)) hl.1 (by decide) dX0_addTap_66 (fun H381 locsH381 hTH381 hSH381 zH381 oH381 vH381 wH381 => ?_)
    have m382 := (m369).trans (fI_kept (oH381 _ (G_ne ga0 gq380 (by decide)))).symm
    have m383 := (m370).trans (fR_kept (oH381 _ (G_ne ga0 gq380 (by decide)))).symm
    have m384 := (m371).trans (fI_kept (oH381 _ (G_ne gq348 gq380 (by decide)))).symm
    have m385 := (m372).trans (fR_kept (oH381 _ (G_ne ga0 gq380 (by decide)))).symm
    have m386 := (m373).trans (fI_kept (oH381 _ (G_ne gq355 gq380 (by decide)))).symm
    have m387 := (m374).trans (fR_kept (oH381 _ (G_ne ga0 gq380 (by decide)))).symm
    have m388 := (m375).trans (fR_kept (oH381 _ (G_ne ga0 gq380 (by decide)))).symm
    have m389 := (eq377).trans (fR_kept (oH381 _ (G_ne ga0 gq380 (by decide)))).symm
    have m390 := (eq378).trans (fR_kept (oH381 _ (G_ne ga0 gq380 (by decide)))).symm
    have f391 : ∀ q : Nat, G q = some 1 → q ≠ a0 → fI H381 q (K.1.2 0 14) = fI s.heap q (K.1.2 0 14) := fun q hq hn => (fI_kept (oH381 _ (G_ne hq gq380 (by decide)))).trans (f376 q hq hn)
    refine lv_aload_n hx hb dX0_addTap_69 rfl (lv_at hl 0 rfl) ?_
    refine lv_dup hx hb dX0_addTap_70 rfl ?_
    refine x_gi C hTH381 (ci := 0) (k := 14) rfl inX0 (by decide) wF_X0_66 ga0 rg_1 rfl dX0_addTap_71 (fun x392 ex392 bx392 => ?_)
    have ux392 : tc = x392 := (m382).trans ex392.symm
    subst ux392
    refine lv_iconst (v := 1) hx hb dX0_addTap_74 (by decide) ?_
    refine lv_iadd hx hb dX0_addTap_75 ?_
    refine lv_topi (fun x393 ex393 => ?_)
    have tx393 := i_add ex393 (by omega)
    refine x_put C hTH381 hSH381 (ci := 0) (k := 14) (v := .int x393) (ty0 := tyX0) rfl inX0 tyX0_ok nmX0 (by decide) rfl wF_X0_66 ga0 rg_1 rfl rfl (okI (by have := i_rng x393; omega) (by have := i_rng x393; omega)) rfl rfl (AE_in ga0 (by decide)) dX0_addTap_76 (fun H394 locsH394 hTH394 hSH394 wH394 => ?_)
    have f395 : ∀ q : Nat, G q = some 1 → q ≠ a0 → fI H394 q (K.1.2 0 14) = fI s.heap q (K.1.2 0 14) := fun q hq hn => (Wr.neI wH394 (Or.inl hn)).trans (f391 q hq hn)
    have m397 := m383.trans (Wr.neR wH394 (Or.inr (x_apart hKT hts inX0 tyX0 tyX0_ok nmX0 rfl 10 14 (by decide) (by decide) (by decide)))).symm
    have m398 := m384.trans (Wr.neI wH394 (Or.inl (G_ne gq348 ga0 (by decide)))).symm
    have m399 := m385.trans (Wr.neR wH394 (Or.inr (x_apart hKT hts inX0 tyX0 tyX0_ok nmX0 rfl 11 14 (by decide) (by decide) (by decide)))).symm
    have m400 := m386.trans (Wr.neI wH394 (Or.inl (G_ne gq355 ga0 (by decide)))).symm
    have m401 := m387.trans (Wr.neR wH394 (Or.inr (x_apart hKT hts inX0 tyX0 tyX0_ok nmX0 rfl 1 14 (by decide) (by decide) (by decide)))).symm
    have m402 := m388.trans (Wr.neR wH394 (Or.inr (x_apart hKT hts inX0 tyX0 tyX0_ok nmX0 rfl 12 14 (by decide) (by decide) (by decide)))).symm
    have m403 := m389.trans (Wr.neR wH394 (Or.inr (x_apart hKT hts inX0 tyX0 tyX0_ok nmX0 rfl 4 14 (by decide) (by decide) (by decide)))).symm
    have m404 := m390.trans (Wr.neR wH394 (Or.inr (x_apart hKT hts inX0 tyX0 tyX0_ok nmX0 rfl 13 14 (by decide) (by decide) (by decide)))).symm
    have m405 := Wr.I wH394
    have m405 := m405.symm
    exact x_vret C hQ dX0_addTap_79 hSH394 (by decide) (by decide) (⟨x393, rfl, m405, by omega, f395, hTH394⟩)

set_option maxHeartbeats 4000000 in
set_option maxRecDepth 100000 in
theorem a_X9_holes_q (l : Launch) (K : KE) (G : Nat → Option Nat) (H : Heap) {a0 : Nat} (x1 : Int32) (x2 : Int32) (x3 : Int32) (hT : TY K G H) (ga0 : G a0 = some 68) : MX l K yX9_holes cX9_holes 5 (some .boolean) 2 43 0 0 [.ref a0, .int x1, .int x2, .int x3] H (AE G [1] H.size) (fun v H1 => ∃ (r : Int32), v = some (.int r) ∧ (0 ≤ r.toInt ∧ r.toInt ≤ 1) ∧ (∀ q : Nat, G q = some 1 → fI H1 q (K.1.2 0 14) = fI H q (K.1.2 0 14)) ∧ TY K G H1) := by
  refine MX.of (by decide +kernel) (Nat.le_of_ble_eq_true rfl) ?_
  intro p e s m below meth c ls Q C hH hl hQ
  subst hH
  have C : CX p K s m _ meth c RX9 cX9_holes 5 (some .boolean) "holes" := C
  obtain ⟨hx, hb, hml, hown, hts, hKT, hr, hlocks, hnm⟩ := id C
  have hl : lv_has ls 5 [(0, .ref a0), (1, .int x1), (2, .int x2), (3, .int x3)] := hl
  have hS : va_S (AE G [1] s.heap.size) s.heap s.heap [] := va_S.rf
  have n_0 : (0 : Int32).toInt = 0 := rfl
  have n_1 : (1 : Int32).toInt = 1 := rfl
  have f0_rf : ∀ q : Nat, G q = some 1 → fI s.heap q (K.1.2 0 14) = fI s.heap q (K.1.2 0 14) := fun _ _ => rfl
  have J35 : ∀ (ls206 : Array Slot) (H205 : Heap) (locsH205 : List Loc) , lv_has ls206 5 [] → TY K G H205 → va_S (AE G [1] s.heap.size) s.heap H205 locsH205 → (∀ q : Nat, G q = some 1 → fI H205 q (K.1.2 0 14) = fI s.heap q (K.1.2 0 14)) → W p l e ({ frames := 2, cells := 0, slots := 0, locals := 43 } : Room) s m (([.ref a0, .int x1, .int x2, .int x3] : List Value).toArray) below meth c H205 locsH205 0 0 Q (F0 m 35 ls206 []) := by
    intro ls206 H205 locsH205  hl207 hTH205 hSH205 fy208_rf
    refine lv_iconst (v := 0) hx hb dX9_holes_35 (by decide) ?_
    exact x_zret C hQ (Or.inl rfl) dX9_holes_36 hSH205 (by decide) (by decide) (⟨0, rfl, by decide, fy208_rf, hTH205⟩)
  refine lv_aload_n hx hb dX9_holes_0 rfl (lv_at hl 0 rfl) ?_
  refine lv_iload_n hx hb dX9_holes_1 rfl (lv_at hl 1 rfl) ?_
  refine x_V (As := [.int x1]) (rest := []) C (a_X9_barAt l K G s.heap (x1) hT ga0) yo_X9_barAt wM_X9_78 ⟨⟨by decide, by decide⟩, by decide, by decide⟩ (x_rv C hT (ci := 9) rfl ga0 rg_68) rfl hl.1 rfl (Nat.le_of_ble_eq_true rfl) dX9_holes_2 hS (AE_sub (fun _ _ => rfl) (by decide) hS.1) (fun vH209 H209 locsH209 pH209 zH209 kH209 hSH209 => ?_)
  have hTH209 := pH209.2
  have f210 : ∀ q : Nat, G q = some 1 → fI H209 q (K.1.2 0 14) = fI s.heap q (K.1.2 0 14) := fun q hq => (fI_kept (x_lt hT kH209 hq (by decide))).trans (f0_rf q hq)
  rcases pH209.1 with hvH209 | ⟨q211, hvH209, gq211⟩
  · skip
    subst hvH209
    refine W.eq (g2 := F0 m 5 ls [.null]) rfl ?_
    refine lv_astoreN (lv' := [(4, .null), (0, .ref a0), (1, .int x1), (2, .int x2), (3, .int x3)]) hx hb dX9_holes_5 hl (by decide) rfl (fun ls212 hl213 => ?_)
    refine lv_aloadN hx hb dX9_holes_7 (lv_at hl213 0 rfl) ?_
    refine lv_ifnullN (tgt := 35) hx hb dX9_holes_9 (by decide) ?_
    exact J35 ls212 H209 locsH209 (lv_sub hl213 [] rfl) hTH209 hSH209 f210
  · skip
    subst hvH209
    refine W.eq (g2 := F0 m 5 ls [.ref q211]) rfl ?_
    refine lv_astore (lv' := [(4, .ref q211), (0, .ref a0), (1, .int x1), (2, .int x2), (3, .int x3)]) hx hb dX9_holes_5 hl (by decide) rfl (fun ls214 hl215 => ?_)
    refine lv_aload hx hb dX9_holes_7 (lv_at hl215 0 rfl) ?_
    refine lv_ifnull hx hb dX9_holes_9 ?_
    refine lv_aload hx hb dX9_holes_12 (lv_at hl215 0 rfl) ?_
    refine lv_iload_n hx hb dX9_holes_14 rfl (lv_at hl215 3 rfl) ?_
    refine x_V (As := [.int x2]) (rest := []) C (a_X0_has l K G H209 (x2) hTH209 gq211) yo_X0_has wM_X9_82 ⟨⟨by decide, by decide⟩, by decide, by decide⟩ (x_rv C hTH209 (ci := 0) rfl gq211 rg_1) rfl hl215.1 rfl (Nat.le_of_ble_eq_true rfl) dX9_holes_15 hSH209 (AE_sub (fun _ _ => rfl) (by decide) hSH209.1) (fun vH216 H216 locsH216 pH216 zH216 kH216 hSH216 => ?_)
    have hqH216 := pH216.1.symm
    subst hqH216
    rcases pH216.2 with ⟨hvH216, hcH216⟩ | hvH216
    · subst hvH216
      refine W.eq (g2 := F0 m 18 ls214 [.int 1]) rfl ?_
      refine lv_if_eq (tgt := 35) hx hb dX9_holes_18 (by decide) (fun c217 => ?_) (fun c217 => ?_)
      · have k218 := i_eq c217
        exfalso
        omega
      · have k218 := i_ne c217
        refine lv_aload hx hb dX9_holes_21 (lv_at hl215 0 rfl) ?_
        refine lv_iload_n hx hb dX9_holes_23 rfl (lv_at hl215 4 rfl) ?_
        refine x_V (As := [.int x3]) (rest := []) C (a_X0_has l K G H209 (x3) hTH209 gq211) yo_X0_has wM_X9_82 ⟨⟨by decide, by decide⟩, by decide, by decide⟩ (x_rv C hTH209 (ci := 0) rfl gq211 rg_1) rfl hl215.1 rfl (Nat.le_of_ble_eq_true rfl) dX9_holes_24 hSH216 (AE_sub (fun _ _ => rfl) (by decide) hSH216.1) (fun vH219 H219 locsH219 pH219 zH219 kH219 hSH219 => ?_)
        have hqH219 := pH219.1.symm
        subst hqH219
        rcases pH219.2 with ⟨hvH219, hcH219⟩ | hvH219
        · subst hvH219
          refine W.eq (g2 := F0 m 27 ls214 [.int 1]) rfl ?_
          refine lv_if_eq (tgt := 35) hx hb dX9_holes_27 (by decide) (fun c220 => ?_) (fun c220 => ?_)
          · have k221 := i_eq c220
            exfalso
            omega
          · have k221 := i_ne c220
            refine lv_iload_n hx hb dX9_holes_30 rfl (lv_at hl215 3 rfl) ?_
            refine lv_iload_n hx hb dX9_holes_31 rfl (lv_at hl215 4 rfl) ?_
            refine lv_icmp_lt (tgt := 37) hx hb dX9_holes_32 (by decide) (fun c222 => ?_) (fun c222 => ?_)
            · have k223 := i_lt c222
              refine lv_aload hx hb dX9_holes_37 (lv_at hl215 0 rfl) ?_
              refine lv_iload_n hx hb dX9_holes_39 rfl (lv_at hl215 3 rfl) ?_
              refine x_put C hTH209 hSH219 (ci := 0) (k := 15) (v := .int x2) (ty0 := tyX0) rfl inX0 tyX0_ok nmX0 (by decide) rfl wF_X9_266 gq211 rg_1 rfl rfl (okI (by have := i_rng x2; omega) (by have := i_rng x2; omega)) rfl rfl (AE_in gq211 (by decide)) dX9_holes_40 (fun H224 locsH224 hTH224 hSH224 wH224 => ?_)
              have f225 : ∀ q : Nat, G q = some 1 → fI H224 q (K.1.2 0 14) = fI s.heap q (K.1.2 0 14) := fun q hq => (Wr.neI wH224 (Or.inr (x_apart hKT hts inX0 tyX0 tyX0_ok nmX0 rfl 14 15 (by decide) (by decide) (by decide)))).trans (f210 q hq)
              have m226 := Wr.I wH224
              have m226 := m226.symm
              refine lv_aload hx hb dX9_holes_43 (lv_at hl215 0 rfl) ?_
              refine lv_iload_n hx hb dX9_holes_45 rfl (lv_at hl215 4 rfl) ?_
              refine x_put C hTH224 hSH224 (ci := 0) (k := 16) (v := .int x3) (ty0 := tyX0) rfl inX0 tyX0_ok nmX0 (by decide) rfl wF_X9_269 gq211 rg_1 rfl rfl (okI (by have := i_rng x3; omega) (by have := i_rng x3; omega)) rfl rfl (AE_in gq211 (by decide)) dX9_holes_46 (fun H227 locsH227 hTH227 hSH227 wH227 => ?_)
              have f228 : ∀ q : Nat, G q = some 1 → fI H227 q (K.1.2 0 14) = fI s.heap q (K.1.2 0 14) := fun q hq => (Wr.neI wH227 (Or.inr (x_apart hKT hts inX0 tyX0 tyX0_ok nmX0 rfl 14 16 (by decide) (by decide) (by decide)))).trans (f225 q hq)
              have m229 := m226.trans (Wr.neI wH227 (Or.inr (x_apart hKT hts inX0 tyX0 tyX0_ok nmX0 rfl 15 16 (by decide) (by decide) (by decide)))).symm
              have m230 := Wr.I wH227
              have m230 := m230.symm
              refine lv_iconst (v := 1) hx hb dX9_holes_49 (by decide) ?_
              exact x_zret C hQ (Or.inr rfl) dX9_holes_50 hSH227 (by decide) (by decide) (⟨1, rfl, by decide, f228, hTH227⟩)
            · have k223 := i_nlt c222
              exact J35 ls214 H209 locsH219 (lv_sub hl215 [] rfl) hTH209 hSH219 f210
        · subst hvH219
          refine W.eq (g2 := F0 m 27 ls214 [.int 0]) rfl ?_
          refine lv_if_eq (tgt := 35) hx hb dX9_holes_27 (by decide) (fun c231 => ?_) (fun c231 => ?_)
          · have k232 := i_eq c231
            exact J35 ls214 H209 locsH219 (lv_sub hl215 [] rfl) hTH209 hSH219 f210
          · have k232 := i_ne c231
            exfalso
            omega
    · subst hvH216
      refine W.eq (g2 := F0 m 18 ls214 [.int 0]) rfl ?_
      refine lv_if_eq (tgt := 35) hx hb dX9_holes_18 (by decide) (fun c233 => ?_) (fun c233 => ?_)
      · have k234 := i_eq c233
        exact J35 ls214 H209 locsH216 (lv_sub hl215 [] rfl) hTH209 hSH216 f210
      · have k234 := i_ne c233
        exfalso
        omega

set_option maxHeartbeats 4000000 in
set_option maxRecDepth 100000 in
theorem a_X0_begin_q (l : Launch) (K : KE) (G : Nat → Option Nat) (H : Heap) {a0 : Nat} (x1 : Int32) (bk : Int32) (hT : TY K G H) (ga0 : G a0 = some 1) (hx1 : 3 ≤ x1.toInt ∧ x1.toInt ≤ 16) (ebk : bk = fI H a0 (K.1.2 0 14)) : MX l K yX0_begin cX0_begin 2 none 1 23 0 0 [.ref a0, .int x1] H (AE G [1, 2, 3, 4, 5, 6, 15] H.size) (fun v H1 => ∃ (t0 : Int32), v = none ∧ t0 = fI H1 a0 (K.1.2 0 14) ∧ (t0.toInt = 0) ∧ (∀ q : Nat, G q = some 1 → q ≠ a0 → fI H1 q (K.1.2 0 14) = fI H q (K.1.2 0 14)) ∧ TY K G H1) := by
  refine MX.of (by decide +kernel) (Nat.le_of_ble_eq_true rfl) ?_
  intro p e s m below meth c ls Q C hH hl hQ
  subst hH
  have C : CX p K s m _ meth c RX0 cX0_begin 2 none "begin" := C
  obtain ⟨hx, hb, hml, hown, hts, hKT, hr, hlocks, hnm⟩ := id C
  have hl : lv_has ls 2 [(0, .ref a0), (1, .int x1)] := hl
  have hS : va_S (AE G [1, 2, 3, 4, 5, 6, 15] s.heap.size) s.heap s.heap [] := va_S.rf
  have n_m1 : ((-1) : Int32).toInt = -1 := rfl
  have n_0 : (0 : Int32).toInt = 0 := rfl
  have n_5 : (5 : Int32).toInt = 5 := rfl
  have n_20 : (20 : Int32).toInt = 20 := rfl
  have n_500 : (500 : Int32).toInt = 500 := rfl
  have bbk := ty_fi (x := bk) (k := 14) ebk hT ga0 rg_1 rfl
  have f0_rf : ∀ q : Nat, G q = some 1 → q ≠ a0 → fI s.heap q (K.1.2 0 14) = fI s.heap q (K.1.2 0 14) := fun _ _ _ => rfl
  refine lv_aload_n hx hb dX0_begin_0 rfl (lv_at hl 0 rfl) ?_
  refine lv_iload_n hx hb dX0_begin_1 rfl (lv_at hl 1 rfl) ?_
  refine x_put C hT hS (ci := 0) (k := 0) (v := .int x1) (ty0 := tyX0) rfl inX0 tyX0_ok nmX0 (by decide) rfl wF_X0_50 ga0 rg_1 rfl rfl (okI (by have := i_rng x1; omega) (by have := i_rng x1; omega)) rfl rfl (AE_in ga0 (by decide)) dX0_begin_2 (fun H573 locsH573 hTH573 hSH573 wH573 => ?_)
  have f574 : ∀ q : Nat, G q = some 1 → q ≠ a0 → fI H573 q (K.1.2 0 14) = fI s.heap q (K.1.2 0 14) := fun q hq hn => (Wr.neI wH573 (Or.inr (x_apart hKT hts inX0 tyX0 tyX0_ok nmX0 rfl 14 0 (by decide) (by decide) (by decide)))).trans (f0_rf q hq hn)
  have m575 := ebk.trans (Wr.neI wH573 (Or.inr (x_apart hKT hts inX0 tyX0 tyX0_ok nmX0 rfl 14 0 (by decide) (by decide) (by decide)))).symm
  have m576 := Wr.I wH573
  have m576 := m576.symm
  refine lv_aload_n hx hb dX0_begin_5 rfl (lv_at hl 0 rfl) ?_
  refine x_gr C hTH573 (ci := 0) (k := 1) rfl inX0 (by decide) wF_X0_9 ga0 rg_1 rfl dX0_begin_6 (fun q577 eq577 gq577 => ?_)
  refine lv_bipush (v := 20) hx hb dX0_begin_9 (by decide) ?_
  refine x_S (As := [.ref q577, .int 20]) (rest := []) C (c_fill l K G H573 (20) hTH573 gq577 rg_2 (by decide) ⟨by have := i_rng (20 : Int32); omega, by have := i_rng (20 : Int32); omega⟩) yo_J7_fill_53178 wM_X0_54 ⟨⟨by decide, by decide⟩, by decide, by decide⟩ rfl hl.1 rfl (Nat.le_of_ble_eq_true rfl) dX0_begin_11 hSH573 (AE_sub (fun _ _ => rfl) (by decide) hSH573.1) (fun vH578 H578 locsH578 pH578 zH578 kH578 hSH578 => ?_)
  have hTH578 := pH578.2.1
  have hvH578 := pH578.1
  subst hvH578
  have f579 : ∀ q : Nat, G q = some 1 → q ≠ a0 → fI H578 q (K.1.2 0 14) = fI s.heap q (K.1.2 0 14) := fun q hq hn => (fI_kept (x_lt hTH573 kH578 hq (by decide))).trans (f574 q hq hn)
  have m580 := (m575).trans (fI_kept (x_lt hTH573 kH578 ga0 (by decide))).symm
  have m581 := (m576).trans (fI_kept (x_lt hTH573 kH578 ga0 (by decide))).symm
  have m582 := (eq577).trans (fR_kept (x_lt hTH573 kH578 ga0 (by decide))).symm
  refine W.eq (g2 := F0 m 14 ls []) rfl ?_
  refine lv_aload_n hx hb dX0_begin_14 rfl (lv_at hl 0 rfl) ?_
  refine x_gr C hTH578 (ci := 0) (k := 2) rfl inX0 (by decide) wF_X0_15 ga0 rg_1 rfl dX0_begin_15 (fun q583 eq583 gq583 => ?_)
  refine lv_iconst (v := 5) hx hb dX0_begin_18 (by decide) ?_
  refine x_S (As := [.ref q583, .int 5]) (rest := []) C (c_fill l K G H578 (5) hTH578 gq583 rg_3 (by decide) ⟨by have := i_rng (5 : Int32); omega, by have := i_rng (5 : Int32); omega⟩) yo_J7_fill_53178 wM_X0_54 ⟨⟨by decide, by decide⟩, by decide, by decide⟩ rfl hl.1 rfl (Nat.le_of_ble_eq_true rfl) dX0_begin_19 hSH578 (AE_sub (fun _ _ => rfl) (by decide) hSH578.1) (fun vH584 H584 locsH584 pH584 zH584 kH584 hSH584 => ?_)
  have hTH584 := pH584.2.1
  have hvH584 := pH584.1
  subst hvH584
  have f585 : ∀ q : Nat, G q = some 1 → q ≠ a0 → fI H584 q (K.1.2 0 14) = fI s.heap q (K.1.2 0 14) := fun q hq hn => (fI_kept (x_lt hTH578 kH584 hq (by decide))).trans (f579 q hq hn)
  have m586 := (m580).trans (fI_kept (x_lt hTH578 kH584 ga0 (by decide))).symm
  have m587 := (m581).trans (fI_kept (x_lt hTH578 kH584 ga0 (by decide))).symm
  have m588 := (m582).trans (fR_kept (x_lt hTH578 kH584 ga0 (by decide))).symm
  have m589 := (eq583).trans (fR_kept (x_lt hTH578 kH584 ga0 (by decide))).symm
  refine W.eq (g2 := F0 m 22 ls []) rfl ?_
  refine lv_aload_n hx hb dX0_begin_22 rfl (lv_at hl 0 rfl) ?_
  refine x_gr C hTH584 (ci := 0) (k := 3) rfl inX0 (by decide) wF_X0_18 ga0 rg_1 rfl dX0_begin_23 (fun q590 eq590 gq590 => ?_)
  refine lv_iconst (v := 5) hx hb dX0_begin_26 (by decide) ?_
  refine x_S (As := [.ref q590, .int 5]) (rest := []) C (c_fill l K G H584 (5) hTH584 gq590 rg_4 (by decide) ⟨by have := i_rng (5 : Int32); omega, by have := i_rng (5 : Int32); omega⟩) yo_J7_fill_53178 wM_X0_54 ⟨⟨by decide, by decide⟩, by decide, by decide⟩ rfl hl.1 rfl (Nat.le_of_ble_eq_true rfl) dX0_begin_27 hSH584 (AE_sub (fun _ _ => rfl) (by decide) hSH584.1) (fun vH591 H591 locsH591 pH591 zH591 kH591 hSH591 => ?_)
  have hTH591 := pH591.2.1
  have hvH591 := pH591.1
  subst hvH591
  have f592 : ∀ q : Nat, G q = some 1 → q ≠ a0 → fI H591 q (K.1.2 0 14) = fI s.heap q (K.1.2 0 14) := fun q hq hn => (fI_kept (x_lt hTH584 kH591 hq (by decide))).trans (f585 q hq hn)
  have m593 := (m586).trans (fI_kept (x_lt hTH584 kH591 ga0 (by decide))).symm
  have m594 := (m587).trans (fI_kept (x_lt hTH584 kH591 ga0 (by decide))).symm
  have m595 := (m588).trans (fR_kept (x_lt hTH584 kH591 ga0 (by decide))).symm
  have m596 := (m589).trans (fR_kept (x_lt hTH584 kH591 ga0 (by decide))).symm
  have m597 := (eq590).trans (fR_kept (x_lt hTH584 kH591 ga0 (by decide))).symm
  refine W.eq (g2 := F0 m 30 ls []) rfl ?_
  refine lv_aload_n hx hb dX0_begin_30 rfl (lv_at hl 0 rfl) ?_
  refine x_gr C hTH591 (ci := 0) (k := 4) rfl inX0 (by decide) wF_X0_21 ga0 rg_1 rfl dX0_begin_31 (fun q598 eq598 gq598 => ?_)
  refine lv_iconst (v := 0) hx hb dX0_begin_34 (by decide) ?_
  refine x_S (As := [.ref q598, .int 0]) (rest := []) C (c_fill l K G H591 (0) hTH591 gq598 rg_5 (by decide) ⟨by have := i_rng (0 : Int32); omega, by have := i_rng (0 : Int32); omega⟩) yo_J7_fill_53178 wM_X0_54 ⟨⟨by decide, by decide⟩, by decide, by decide⟩ rfl hl.1 rfl (Nat.le_of_ble_eq_true rfl) dX0_begin_35 hSH591 (AE_sub (fun _ _ => rfl) (by decide) hSH591.1) (fun vH599 H599 locsH599 pH599 zH599 kH599 hSH599 => ?_)
  have hTH599 := pH599.2.1
  have hvH599 := pH599.1
  subst hvH599
  have f600 : ∀ q : Nat, G q = some 1 → q ≠ a0 → fI H599 q (K.1.2 0 14) = fI s.heap q (K.1.2 0 14) := fun q hq hn => (fI_kept (x_lt hTH591 kH599 hq (by decide))).trans (f592 q hq hn)
  have m601 := (m593).trans (fI_kept (x_lt hTH591 kH599 ga0 (by decide))).symm
  have m602 := (m594).trans (fI_kept (x_lt hTH591 kH599 ga0 (by decide))).symm
  have m603 := (m595).trans (fR_kept (x_lt hTH591 kH599 ga0 (by decide))).symm
  have m604 := (m596).trans (fR_kept (x_lt hTH591 kH599 ga0 (by decide))).symm
  have m605 := (m597).trans (fR_kept (x_lt hTH591 kH599 ga0 (by decide))).symm
  have m606 := (eq598).trans (fR_kept (x_lt hTH591 kH599 ga0 (by decide))).symm
  refine W.eq (g2 := F0 m 38 ls []) rfl ?_
  refine lv_aload_n hx hb dX0_begin_38 rfl (lv_at hl 0 rfl) ?_
  refine x_gr C hTH599 (ci := 0) (k := 5) rfl inX0 (by decide) wF_X0_24 ga0 rg_1 rfl dX0_begin_39 (fun q607 eq607 gq607 => ?_)
  refine lv_iconst (v := 0) hx hb dX0_begin_42 (by decide) ?_
  refine x_S (As := [.ref q607, .int 0]) (rest := []) C (c_fill l K G H599 (0) hTH599 gq607 rg_6 (by decide) ⟨by have := i_rng (0 : Int32); omega, by have := i_rng (0 : Int32); omega⟩) yo_J7_fill_53178 wM_X0_54 ⟨⟨by decide, by decide⟩, by decide, by decide⟩ rfl hl.1 rfl (Nat.le_of_ble_eq_true rfl) dX0_begin_43 hSH599 (AE_sub (fun _ _ => rfl) (by decide) hSH599.1) (fun vH608 H608 locsH608 pH608 zH608 kH608 hSH608 => ?_)
  have hTH608 := pH608.2.1
  have hvH608 := pH608.1
  subst hvH608
  have f609 : ∀ q : Nat, G q = some 1 → q ≠ a0 → fI H608 q (K.1.2 0 14) = fI s.heap q (K.1.2 0 14) := fun q hq hn => (fI_kept (x_lt hTH599 kH608 hq (by decide))).trans (f600 q hq hn)
  have m610 := (m601).trans (fI_kept (x_lt hTH599 kH608 ga0 (by decide))).symm
  have m611 := (m602).trans (fI_kept (x_lt hTH599 kH608 ga0 (by decide))).symm
  have m612 := (m603).trans (fR_kept (x_lt hTH599 kH608 ga0 (by decide))).symm
  have m613 := (m604).trans (fR_kept (x_lt hTH599 kH608 ga0 (by decide))).symm
  have m614 := (m605).trans (fR_kept (x_lt hTH599 kH608 ga0 (by decide))).symm
  have m615 := (m606).trans (fR_kept (x_lt hTH599 kH608 ga0 (by decide))).symm
  have m616 := (eq607).trans (fR_kept (x_lt hTH599 kH608 ga0 (by decide))).symm
  refine W.eq (g2 := F0 m 46 ls []) rfl ?_
  refine lv_aload_n hx hb dX0_begin_46 rfl (lv_at hl 0 rfl) ?_
  refine x_gr C hTH608 (ci := 0) (k := 17) rfl inX0 (by decide) wF_X0_47 ga0 rg_1 rfl dX0_begin_47 (fun q617 eq617 gq617 => ?_)
  refine lv_sipush (v := 500) hx hb dX0_begin_50 (by decide) ?_
  refine x_S (As := [.ref q617, .int 500]) (rest := []) C (c_fill l K G H608 (500) hTH608 gq617 rg_15 (by decide) ⟨by have := i_rng (500 : Int32); omega, by have := i_rng (500 : Int32); omega⟩) yo_J7_fill_53178 wM_X0_54 ⟨⟨by decide, by decide⟩, by decide, by decide⟩ rfl hl.1 rfl (Nat.le_of_ble_eq_true rfl) dX0_begin_53 hSH608 (AE_sub (fun _ _ => rfl) (by decide) hSH608.1) (fun vH618 H618 locsH618 pH618 zH618 kH618 hSH618 => ?_)
  have hTH618 := pH618.2.1
  have hvH618 := pH618.1
  subst hvH618
  have f619 : ∀ q : Nat, G q = some 1 → q ≠ a0 → fI H618 q (K.1.2 0 14) = fI s.heap q (K.1.2 0 14) := fun q hq hn => (fI_kept (x_lt hTH608 kH618 hq (by decide))).trans (f609 q hq hn)
  have m620 := (m610).trans (fI_kept (x_lt hTH608 kH618 ga0 (by decide))).symm
  have m621 := (m611).trans (fI_kept (x_lt hTH608 kH618 ga0 (by decide))).symm
  have m622 := (m612).trans (fR_kept (x_lt hTH608 kH618 ga0 (by decide))).symm
  have m623 := (m613).trans (fR_kept (x_lt hTH608 kH618 ga0 (by decide))).symm
  have m624 := (m614).trans (fR_kept (x_lt hTH608 kH618 ga0 (by decide))).symm
  have m625 := (m615).trans (fR_kept (x_lt hTH608 kH618 ga0 (by decide))).symm
  have m626 := (m616).trans (fR_kept (x_lt hTH608 kH618 ga0 (by decide))).symm
  have m627 := (eq617).trans (fR_kept (x_lt hTH608 kH618 ga0 (by decide))).symm
  refine W.eq (g2 := F0 m 56 ls []) rfl ?_
  refine lv_aload_n hx hb dX0_begin_56 rfl (lv_at hl 0 rfl) ?_
  refine lv_iconst (v := 0) hx hb dX0_begin_57 (by decide) ?_
  refine x_put C hTH618 hSH618 (ci := 0) (k := 8) (v := .int 0) (ty0 := tyX0) rfl inX0 tyX0_ok nmX0 (by decide) rfl wF_X0_60 ga0 rg_1 rfl rfl (okI (by have := i_rng (0 : Int32); omega) (by have := i_rng (0 : Int32); omega)) rfl rfl (AE_in ga0 (by decide)) dX0_begin_58 (fun H628 locsH628 hTH628 hSH628 wH628 => ?_)
  have f629 : ∀ q : Nat, G q = some 1 → q ≠ a0 → fI H628 q (K.1.2 0 14) = fI s.heap q (K.1.2 0 14) := fun q hq hn => (Wr.neI wH628 (Or.inr (x_apart hKT hts inX0 tyX0 tyX0_ok nmX0 rfl 14 8 (by decide) (by decide) (by decide)))).trans (f619 q hq hn)
  have m630 := m620.trans (Wr.neI wH628 (Or.inr (x_apart hKT hts inX0 tyX0 tyX0_ok nmX0 rfl 14 8 (by decide) (by decide) (by decide)))).symm
  have m631 := m621.trans (Wr.neI wH628 (Or.inr (x_apart hKT hts inX0 tyX0 tyX0_ok nmX0 rfl 0 8 (by decide) (by decide) (by decide)))).symm
  have m632 := m622.trans (Wr.neR wH628 (Or.inr (x_apart hKT hts inX0 tyX0 tyX0_ok nmX0 rfl 1 8 (by decide) (by decide) (by decide)))).symm
  have m633 := m623.trans (Wr.neR wH628 (Or.inr (x_apart hKT hts inX0 tyX0 tyX0_ok nmX0 rfl 2 8 (by decide) (by decide) (by decide)))).symm
  have m634 := m624.trans (Wr.neR wH628 (Or.inr (x_apart hKT hts inX0 tyX0 tyX0_ok nmX0 rfl 3 8 (by decide) (by decide) (by decide)))).symm
  have m635 := m625.trans (Wr.neR wH628 (Or.inr (x_apart hKT hts inX0 tyX0 tyX0_ok nmX0 rfl 4 8 (by decide) (by decide) (by decide)))).symm
  have m636 := m626.trans (Wr.neR wH628 (Or.inr (x_apart hKT hts inX0 tyX0 tyX0_ok nmX0 rfl 5 8 (by decide) (by decide) (by decide)))).symm
  have m637 := m627.trans (Wr.neR wH628 (Or.inr (x_apart hKT hts inX0 tyX0 tyX0_ok nmX0 rfl 17 8 (by decide) (by decide) (by decide)))).symm
  have m638 := Wr.I wH628
  refine lv_aload_n hx hb dX0_begin_61 rfl (lv_at hl 0 rfl) ?_
  refine lv_iconst (v := 0) hx hb dX0_begin_62 (by decide) ?_
  refine x_put C hTH628 hSH628 (ci := 0) (k := 9) (v := .int 0) (ty0 := tyX0) rfl inX0 tyX0_ok nmX0 (by decide) rfl wF_X0_63 ga0 rg_1 rfl rfl (okI (by have := i_rng (0 : Int32); omega) (by have := i_rng (0 : Int32); omega)) rfl rfl (AE_in ga0 (by decide)) dX0_begin_63 (fun H639 locsH639 hTH639 hSH639 wH639 => ?_)
  have f640 : ∀ q : Nat, G q = some 1 → q ≠ a0 → fI H639 q (K.1.2 0 14) = fI s.heap q (K.1.2 0 14) := fun q hq hn => (Wr.neI wH639 (Or.inr (x_apart hKT hts inX0 tyX0 tyX0_ok nmX0 rfl 14 9 (by decide) (by decide) (by decide)))).trans (f629 q hq hn)
  have m641 := m630.trans (Wr.neI wH639 (Or.inr (x_apart hKT hts inX0 tyX0 tyX0_ok nmX0 rfl 14 9 (by decide) (by decide) (by decide)))).symm
  have m642 := m631.trans (Wr.neI wH639 (Or.inr (x_apart hKT hts inX0 tyX0 tyX0_ok nmX0 rfl 0 9 (by decide) (by decide) (by decide)))).symm
  have m643 := m632.trans (Wr.neR wH639 (Or.inr (x_apart hKT hts inX0 tyX0 tyX0_ok nmX0 rfl 1 9 (by decide) (by decide) (by decide)))).symm
  have m644 := m633.trans (Wr.neR wH639 (Or.inr (x_apart hKT hts inX0 tyX0 tyX0_ok nmX0 rfl 2 9 (by decide) (by decide) (by decide)))).symm
  have m645 := m634.trans (Wr.neR wH639 (Or.inr (x_apart hKT hts inX0 tyX0 tyX0_ok nmX0 rfl 3 9 (by decide) (by decide) (by decide)))).symm
  have m646 := m635.trans (Wr.neR wH639 (Or.inr (x_apart hKT hts inX0 tyX0 tyX0_ok nmX0 rfl 4 9 (by decide) (by decide) (by decide)))).symm
  have m647 := m636.trans (Wr.neR wH639 (Or.inr (x_apart hKT hts inX0 tyX0 tyX0_ok nmX0 rfl 5 9 (by decide) (by decide) (by decide)))).symm
  have m648 := m637.trans (Wr.neR wH639 (Or.inr (x_apart hKT hts inX0 tyX0 tyX0_ok nmX0 rfl 17 9 (by decide) (by decide) (by decide)))).symm
  have m649 := (Wr.neI wH639 (Or.inr (x_apart hKT hts inX0 tyX0 tyX0_ok nmX0 rfl 8 9 (by decide) (by decide) (by decide)))).trans m638
  have m650 := Wr.I wH639
  refine lv_aload_n hx hb dX0_begin_66 rfl (lv_at hl 0 rfl) ?_
  refine lv_iconst (v := 0) hx hb dX0_begin_67 (by decide) ?_
  refine x_put C hTH639 hSH639 (ci := 0) (k := 14) (v := .int 0) (ty0 := tyX0) rfl inX0 tyX0_ok nmX0 (by decide) rfl wF_X0_66 ga0 rg_1 rfl rfl (okI (by have := i_rng (0 : Int32); omega) (by have := i_rng (0 : Int32); omega)) rfl rfl (AE_in ga0 (by decide)) dX0_begin_68 (fun H651 locsH651 hTH651 hSH651 wH651 => ?_)
  have f652 : ∀ q : Nat, G q = some 1 → q ≠ a0 → fI H651 q (K.1.2 0 14) = fI s.heap q (K.1.2 0 14) := fun q hq hn => (Wr.neI wH651 (Or.inl hn)).trans (f640 q hq hn)
  have m654 := m642.trans (Wr.neI wH651 (Or.inr (x_apart hKT hts inX0 tyX0 tyX0_ok nmX0 rfl 0 14 (by decide) (by decide) (by decide)))).symm
  have m655 := m643.trans (Wr.neR wH651 (Or.inr (x_apart hKT hts inX0 tyX0 tyX0_ok nmX0 rfl 1 14 (by decide) (by decide) (by decide)))).symm
  have m656 := m644.trans (Wr.neR wH651 (Or.inr (x_apart hKT hts inX0 tyX0 tyX0_ok nmX0 rfl 2 14 (by decide) (by decide) (by decide)))).symm
  have m657 := m645.trans (Wr.neR wH651 (Or.inr (x_apart hKT hts inX0 tyX0 tyX0_ok nmX0 rfl 3 14 (by decide) (by decide) (by decide)))).symm
  have m658 := m646.trans (Wr.neR wH651 (Or.inr (x_apart hKT hts inX0 tyX0 tyX0_ok nmX0 rfl 4 14 (by decide) (by decide) (by decide)))).symm
  have m659 := m647.trans (Wr.neR wH651 (Or.inr (x_apart hKT hts inX0 tyX0 tyX0_ok nmX0 rfl 5 14 (by decide) (by decide) (by decide)))).symm
  have m660 := m648.trans (Wr.neR wH651 (Or.inr (x_apart hKT hts inX0 tyX0 tyX0_ok nmX0 rfl 17 14 (by decide) (by decide) (by decide)))).symm
  have m661 := (Wr.neI wH651 (Or.inr (x_apart hKT hts inX0 tyX0 tyX0_ok nmX0 rfl 8 14 (by decide) (by decide) (by decide)))).trans m649
  have m662 := (Wr.neI wH651 (Or.inr (x_apart hKT hts inX0 tyX0 tyX0_ok nmX0 rfl 9 14 (by decide) (by decide) (by decide)))).trans m650
  have m663 := Wr.I wH651
  refine lv_aload_n hx hb dX0_begin_71 rfl (lv_at hl 0 rfl) ?_
  refine lv_iconst (v := (-1)) hx hb dX0_begin_72 (by decide) ?_
  refine x_put C hTH651 hSH651 (ci := 0) (k := 15) (v := .int (-1)) (ty0 := tyX0) rfl inX0 tyX0_ok nmX0 (by decide) rfl wF_X0_69 ga0 rg_1 rfl rfl (okI (by have := i_rng ((-1) : Int32); omega) (by have := i_rng ((-1) : Int32); omega)) rfl rfl (AE_in ga0 (by decide)) dX0_begin_73 (fun H664 locsH664 hTH664 hSH664 wH664 => ?_)
  have f665 : ∀ q : Nat, G q = some 1 → q ≠ a0 → fI H664 q (K.1.2 0 14) = fI s.heap q (K.1.2 0 14) := fun q hq hn => (Wr.neI wH664 (Or.inr (x_apart hKT hts inX0 tyX0 tyX0_ok nmX0 rfl 14 15 (by decide) (by decide) (by decide)))).trans (f652 q hq hn)
  have m666 := m654.trans (Wr.neI wH664 (Or.inr (x_apart hKT hts inX0 tyX0 tyX0_ok nmX0 rfl 0 15 (by decide) (by decide) (by decide)))).symm
  have m667 := m655.trans (Wr.neR wH664 (Or.inr (x_apart hKT hts inX0 tyX0 tyX0_ok nmX0 rfl 1 15 (by decide) (by decide) (by decide)))).symm
  have m668 := m656.trans (Wr.neR wH664 (Or.inr (x_apart hKT hts inX0 tyX0 tyX0_ok nmX0 rfl 2 15 (by decide) (by decide) (by decide)))).symm
  have m669 := m657.trans (Wr.neR wH664 (Or.inr (x_apart hKT hts inX0 tyX0 tyX0_ok nmX0 rfl 3 15 (by decide) (by decide) (by decide)))).symm
  have m670 := m658.trans (Wr.neR wH664 (Or.inr (x_apart hKT hts inX0 tyX0 tyX0_ok nmX0 rfl 4 15 (by decide) (by decide) (by decide)))).symm
  have m671 := m659.trans (Wr.neR wH664 (Or.inr (x_apart hKT hts inX0 tyX0 tyX0_ok nmX0 rfl 5 15 (by decide) (by decide) (by decide)))).symm
  have m672 := m660.trans (Wr.neR wH664 (Or.inr (x_apart hKT hts inX0 tyX0 tyX0_ok nmX0 rfl 17 15 (by decide) (by decide) (by decide)))).symm
  have m673 := (Wr.neI wH664 (Or.inr (x_apart hKT hts inX0 tyX0 tyX0_ok nmX0 rfl 8 15 (by decide) (by decide) (by decide)))).trans m661
  have m674 := (Wr.neI wH664 (Or.inr (x_apart hKT hts inX0 tyX0 tyX0_ok nmX0 rfl 9 15 (by decide) (by decide) (by decide)))).trans m662
  have m675 := (Wr.neI wH664 (Or.inr (x_apart hKT hts inX0 tyX0 tyX0_ok nmX0 rfl 14 15 (by decide) (by decide) (by decide)))).trans m663
  have m676 := Wr.I wH664
  refine lv_aload_n hx hb dX0_begin_76 rfl (lv_at hl 0 rfl) ?_
  refine lv_iconst (v := (-1)) hx hb dX0_begin_77 (by decide) ?_
  refine x_put C hTH664 hSH664 (ci := 0) (k := 16) (v := .int (-1)) (ty0 := tyX0) rfl inX0 tyX0_ok nmX0 (by decide) rfl wF_X0_72 ga0 rg_1 rfl rfl (okI (by have := i_rng ((-1) : Int32); omega) (by have := i_rng ((-1) : Int32); omega)) rfl rfl (AE_in ga0 (by decide)) dX0_begin_78 (fun H677 locsH677 hTH677 hSH677 wH677 => ?_)
  have f678 : ∀ q : Nat, G q = some 1 → q ≠ a0 → fI H677 q (K.1.2 0 14) = fI s.heap q (K.1.2 0 14) := fun q hq hn => (Wr.neI wH677 (Or.inr (x_apart hKT hts inX0 tyX0 tyX0_ok nmX0 rfl 14 16 (by decide) (by decide) (by decide)))).trans (f665 q hq hn)
  have m679 := m666.trans (Wr.neI wH677 (Or.inr (x_apart hKT hts inX0 tyX0 tyX0_ok nmX0 rfl 0 16 (by decide) (by decide) (by decide)))).symm
  have m680 := m667.trans (Wr.neR wH677 (Or.inr (x_apart hKT hts inX0 tyX0 tyX0_ok nmX0 rfl 1 16 (by decide) (by decide) (by decide)))).symm
  have m681 := m668.trans (Wr.neR wH677 (Or.inr (x_apart hKT hts inX0 tyX0 tyX0_ok nmX0 rfl 2 16 (by decide) (by decide) (by decide)))).symm
  have m682 := m669.trans (Wr.neR wH677 (Or.inr (x_apart hKT hts inX0 tyX0 tyX0_ok nmX0 rfl 3 16 (by decide) (by decide) (by decide)))).symm
  have m683 := m670.trans (Wr.neR wH677 (Or.inr (x_apart hKT hts inX0 tyX0 tyX0_ok nmX0 rfl 4 16 (by decide) (by decide) (by decide)))).symm
  have m684 := m671.trans (Wr.neR wH677 (Or.inr (x_apart hKT hts inX0 tyX0 tyX0_ok nmX0 rfl 5 16 (by decide) (by decide) (by decide)))).symm
  have m685 := m672.trans (Wr.neR wH677 (Or.inr (x_apart hKT hts inX0 tyX0 tyX0_ok nmX0 rfl 17 16 (by decide) (by decide) (by decide)))).symm
  have m686 := (Wr.neI wH677 (Or.inr (x_apart hKT hts inX0 tyX0 tyX0_ok nmX0 rfl 8 16 (by decide) (by decide) (by decide)))).trans m673
  have m687 := (Wr.neI wH677 (Or.inr (x_apart hKT hts inX0 tyX0 tyX0_ok nmX0 rfl 9 16 (by decide) (by decide) (by decide)))).trans m674
  have m688 := (Wr.neI wH677 (Or.inr (x_apart hKT hts inX0 tyX0 tyX0_ok nmX0 rfl 14 16 (by decide) (by decide) (by decide)))).trans m675
  have m689 := (Wr.neI wH677 (Or.inr (x_apart hKT hts inX0 tyX0 tyX0_ok nmX0 rfl 15 16 (by decide) (by decide) (by decide)))).trans m676
  have m690 := Wr.I wH677
  exact x_vret C hQ dX0_begin_81 hSH677 (by decide) (by decide) (⟨0, rfl, (m688).symm, by omega, f678, hTH677⟩)

set_option maxHeartbeats 4000000 in
set_option maxRecDepth 100000 in
theorem a_X9_barAt_b (l : Launch) (K : KE) (G : Nat → Option Nat) (H : Heap) {a0 wq bq : Nat} (x1 s1 : Int32) (hT : TY K G H) (ga0 : G a0 = some 68) (gwq : G wq = some 0) (ewq : wq = fR H a0 (K.1.2 9 0)) (gbq : G bq = some 25) (ebq : bq = fR H wq (K.1.2 8 0)) (es1 : s1 = fI H wq (K.1.2 8 1)) : MX l K yX9_barAt cX9_barAt 2 (some (.object "RingBars$Bar")) 1 22 0 0 [.ref a0, .int x1] H (AE G [] H.size) (fun v H1 => TY K G H1 ∧ ((v = some .null ∧ (x1.toInt < 0 ∨ s1.toInt ≤ x1.toInt)) ∨ ∃ q : Nat, v = some (.ref q) ∧ q = fR H bq x1.toNatClampNeg ∧ G q = some 1 ∧ 0 ≤ x1.toInt ∧ x1.toInt < s1.toInt)) := by
  refine MX.of (by decide +kernel) (Nat.le_of_ble_eq_true rfl) ?_
  intro p e s m below meth c ls Q C hH hl hQ
  subst hH
  have C : CX p K s m _ meth c RX9 cX9_barAt 2 (some (.object "RingBars$Bar")) "barAt" := C
  obtain ⟨hx, hb, hml, hown, hts, hKT, hr, hlocks, hnm⟩ := id C
  have hl : lv_has ls 2 [(0, .ref a0), (1, .int x1)] := hl
  have hS : va_S (AE G [] s.heap.size) s.heap s.heap [] := va_S.rf
  have n_0 : (0 : Int32).toInt = 0 := rfl
  have n_1 : (1 : Int32).toInt = 1 := rfl
  have bs1 := ty_fi (x := s1) (k := 1) es1 hT gwq rg_0 rfl
  refine lv_iload_n hx hb dX9_barAt_0 rfl (lv_at hl 1 rfl) ?_
  refine lv_iconst (v := 0) hx hb dX9_barAt_1 (by decide) ?_
  refine lv_aload_n hx hb dX9_barAt_2 rfl (lv_at hl 0 rfl) ?_
  refine x_gr C hT (ci := 9) (k := 0) rfl inX9 (by decide) wF_X9_12 ga0 rg_68 rfl dX9_barAt_3 (fun q101 eq101 gq101 => ?_)
  have uq101 : wq = q101 := (ewq).trans eq101.symm
  subst uq101
  refine x_gi C hT (ci := 8) (k := 1) rfl inX8 (by decide) wF_X9_64 gwq rg_0 rfl dX9_barAt_6 (fun x102 ex102 bx102 => ?_)
  have ux102 : s1 = x102 := (es1).trans ex102.symm
  subst ux102
  refine lv_iconst (v := 1) hx hb dX9_barAt_9 (by decide) ?_
  refine lv_isub hx hb dX9_barAt_10 ?_
  refine lv_topi (fun x103 ex103 => ?_)
  have tx103 := i_sub ex103 (by omega)
  refine x_S (As := [.int x1, .int 0, .int x103]) (rest := []) C (c_X9_within l K G s.heap (x1) (0) (x103) hT) yo_X9_within wM_X9_89 ⟨⟨by decide, by decide⟩, by decide, by decide⟩ rfl hl.1 rfl (Nat.le_of_ble_eq_true rfl) dX9_barAt_11 hS (AE_sub (fun _ _ => rfl) (by decide) hS.1) (fun vH104 H104 locsH104 pH104 zH104 kH104 hSH104 => ?_)
  have hqH104 := pH104.1.symm
  subst hqH104
  rcases pH104.2 with ⟨hvH104, hcH104⟩ | ⟨hvH104, hcH104⟩
  · subst hvH104
    refine W.eq (g2 := F0 m 14 ls [.int 1]) rfl ?_
    refine lv_if_eq (tgt := 29) hx hb dX9_barAt_14 (by decide) (fun c105 => ?_) (fun c105 => ?_)
    · have k106 := i_eq c105
      exfalso
      omega
    · have k106 := i_ne c105
      refine lv_aload_n hx hb dX9_barAt_17 rfl (lv_at hl 0 rfl) ?_
      refine x_gr C hT (ci := 9) (k := 0) rfl inX9 (by decide) wF_X9_12 ga0 rg_68 rfl dX9_barAt_18 (fun q107 eq107 gq107 => ?_)
      have uq107 : wq = q107 := (ewq).trans eq107.symm
      subst uq107
      refine x_gr C hT (ci := 8) (k := 0) rfl inX8 (by decide) wF_X9_68 gwq rg_0 rfl dX9_barAt_21 (fun q108 eq108 gq108 => ?_)
      have uq108 : bq = q108 := (ebq).trans eq108.symm
      subst uq108
      refine lv_iload_n hx hb dX9_barAt_24 rfl (lv_at hl 1 rfl) ?_
      refine x_ar C hT rfl rfl gbq rg_25 ⟨by omega, by show _ < ((10 : Nat) : Int); omega⟩ dX9_barAt_25 (fun q109 eq109 gq109 => ?_)
      refine lv_goto (tgt := 30) hx hb dX9_barAt_26 (by decide) ?_
      exact x_aret C hQ (Or.inr ⟨_, rfl⟩) dX9_barAt_30 hSH104 (by decide) (by decide) (⟨hT, Or.inr ⟨q109, rfl, eq109, gq109, by omega, by omega⟩⟩)
  · subst hvH104
    refine W.eq (g2 := F0 m 14 ls [.int 0]) rfl ?_
    refine lv_if_eq (tgt := 29) hx hb dX9_barAt_14 (by decide) (fun c110 => ?_) (fun c110 => ?_)
    · have k111 := i_eq c110
      refine lv_null hx hb dX9_barAt_29 ?_
      exact x_aret C hQ (Or.inl rfl) dX9_barAt_30 hSH104 (by decide) (by decide) (⟨hT, Or.inl ⟨rfl, by omega⟩⟩)
    · have k111 := i_ne c110
      exfalso
      omega

set_option maxHeartbeats 4000000 in
set_option maxRecDepth 100000 in
theorem a_X9_bar_b (l : Launch) (K : KE) (G : Nat → Option Nat) (H : Heap) {a0 : Nat} (x1 : Int32) {wq : Nat} {bq : Nat} (s1 : Int32) (s4 : Int32) (s5 : Int32) (s10 : Int32) (s13 : Int32) (s16 : Int32) (hT : TY K G H) (ga0 : G a0 = some 68) (gwq : G wq = some 0) (ewq : wq = fR H a0 (K.1.2 9 0)) (gbq : G bq = some 25) (ebq : bq = fR H wq (K.1.2 8 0)) (es1 : s1 = fI H wq (K.1.2 8 1)) (es4 : s4 = fI H wq (K.1.2 8 4)) (es5 : s5 = fI H wq (K.1.2 8 5)) (es10 : s10 = fI H wq (K.1.2 8 10)) (es13 : s13 = fI H wq (K.1.2 8 13)) (es16 : s16 = fI H wq (K.1.2 8 16)) (hy0 : DB H bq) : MX l K yX9_bar cX9_bar 2 (some .int) 2 44 0 0 [.ref a0, .int x1] H (AE G [0, 1, 2, 3, 4, 5, 6, 15] H.size) (fun v H1 => ∃ (r : Int32) (t0 : Int32) (t1 : Int32) (t2 : Int32) (t3 : Int32) (t4 : Int32) (t5 : Int32), v = some (.int r) ∧ t0 = fI H1 wq (K.1.2 8 1) ∧ t1 = fI H1 wq (K.1.2 8 4) ∧ t2 = fI H1 wq (K.1.2 8 5) ∧ t3 = fI H1 wq (K.1.2 8 10) ∧ t4 = fI H1 wq (K.1.2 8 13) ∧ t5 = fI H1 wq (K.1.2 8 16) ∧ (((3 ≤ x1.toInt ∧ x1.toInt ≤ 16 ∧ s1.toInt ≤ 9 ∧ r.toInt = s1.toInt ∧ t0.toInt = s1.toInt + 1) ∨ ((x1.toInt < 3 ∨ 16 < x1.toInt ∨ 9 < s1.toInt) ∧ r.toInt = -1 ∧ t0.toInt = s1.toInt)) ∧ t1.toInt = s4.toInt ∧ t2.toInt = s5.toInt ∧ t3.toInt = s10.toInt ∧ t4.toInt = s13.toInt ∧ t5.toInt = s16.toInt) ∧ bq = fR H1 wq (K.1.2 8 0) ∧ (∀ j : Nat, j < 10 → (j : Int) ≠ s1.toInt → fI H1 (fR H bq j) (K.1.2 0 14) = fI H (fR H bq j) (K.1.2 0 14)) ∧ (3 ≤ x1.toInt ∧ x1.toInt ≤ 16 ∧ s1.toInt ≤ 9 → ∃ t : Int32, t = fI H1 (fR H bq s1.toNatClampNeg) (K.1.2 0 14) ∧ t.toInt = 0) ∧ (¬ (3 ≤ x1.toInt ∧ x1.toInt ≤ 16 ∧ s1.toInt ≤ 9) → ∀ j : Nat, j < 10 → fI H1 (fR H bq j) (K.1.2 0 14) = fI H (fR H bq j) (K.1.2 0 14)) ∧ TY K G H1) := by
  refine MX.of (by decide +kernel) (Nat.le_of_ble_eq_true rfl) ?_
  intro p e s m below meth c ls Q C hH hl hQ
  subst hH
  have C : CX p K s m _ meth c RX9 cX9_bar 2 (some .int) "bar" := C
  obtain ⟨hx, hb, hml, hown, hts, hKT, hr, hlocks, hnm⟩ := id C
  have hl : lv_has ls 2 [(0, .ref a0), (1, .int x1)] := hl
  have hS : va_S (AE G [0, 1, 2, 3, 4, 5, 6, 15] s.heap.size) s.heap s.heap [] := va_S.rf
  have n_m1 : ((-1) : Int32).toInt = -1 := rfl
  have n_1 : (1 : Int32).toInt = 1 := rfl
  have n_3 : (3 : Int32).toInt = 3 := rfl
  have n_10 : (10 : Int32).toInt = 10 := rfl
  have n_16 : (16 : Int32).toInt = 16 := rfl
  have bs1 := ty_fi (x := s1) (k := 1) es1 hT gwq rg_0 rfl
  have bs4 := ty_fi (x := s4) (k := 4) es4 hT gwq rg_0 rfl
  have bs5 := ty_fi (x := s5) (k := 5) es5 hT gwq rg_0 rfl
  have bs10 := ty_fi (x := s10) (k := 10) es10 hT gwq rg_0 rfl
  have bs13 := ty_fi (x := s13) (k := 13) es13 hT gwq rg_0 rfl
  have bs16 := ty_fi (x := s16) (k := 16) es16 hT gwq rg_0 rfl
  have hdb := hy0
  have f0_rf : ∀ q : Nat, G q = some 1 → fI s.heap q (K.1.2 0 14) = fI s.heap q (K.1.2 0 14) := fun _ _ => rfl
  refine lv_iload_n hx hb dX9_bar_0 rfl (lv_at hl 1 rfl) ?_
  refine lv_iconst (v := 3) hx hb dX9_bar_1 (by decide) ?_
  refine lv_icmp_lt (tgt := 23) hx hb dX9_bar_2 (by decide) (fun c277 => ?_) (fun c277 => ?_)
  · have k278 := i_lt c277
    refine lv_iconst (v := (-1)) hx hb dX9_bar_23 (by decide) ?_
    exact x_iret C hQ dX9_bar_24 hS (by decide) (by decide) (⟨(-1), s1, s4, s5, s10, s13, s16, rfl, es1, es4, es5, es10, es13, es16, by omega, ebq, fun j hj hn => rfl, fun h => by exfalso; omega, fun _ j hj => rfl, hT⟩)
  · have k278 := i_nlt c277
    refine lv_iload_n hx hb dX9_bar_5 rfl (lv_at hl 1 rfl) ?_
    refine lv_bipush (v := 16) hx hb dX9_bar_6 (by decide) ?_
    refine lv_icmp_gt (tgt := 23) hx hb dX9_bar_8 (by decide) (fun c279 => ?_) (fun c279 => ?_)
    · have k280 := i_lt c279
      refine lv_iconst (v := (-1)) hx hb dX9_bar_23 (by decide) ?_
      exact x_iret C hQ dX9_bar_24 hS (by decide) (by decide) (⟨(-1), s1, s4, s5, s10, s13, s16, rfl, es1, es4, es5, es10, es13, es16, by omega, ebq, fun j hj hn => rfl, fun h => by exfalso; omega, fun _ j hj => rfl, hT⟩)
    · have k280 := i_nlt c279
      refine lv_aload_n hx hb dX9_bar_11 rfl (lv_at hl 0 rfl) ?_
      refine x_gr C hT (ci := 9) (k := 0) rfl inX9 (by decide) wF_X9_12 ga0 rg_68 rfl dX9_bar_12 (fun q281 eq281 gq281 => ?_)
      have uq281 : wq = q281 := (ewq).trans eq281.symm
      subst uq281
      refine x_gi C hT (ci := 8) (k := 1) rfl inX8 (by decide) wF_X9_64 gwq rg_0 rfl dX9_bar_15 (fun x282 ex282 bx282 => ?_)
      have ux282 : s1 = x282 := (es1).trans ex282.symm
      subst ux282
      refine lv_bipush (v := 10) hx hb dX9_bar_18 (by decide) ?_
      refine lv_icmp_lt (tgt := 25) hx hb dX9_bar_20 (by decide) (fun c283 => ?_) (fun c283 => ?_)
      · have k284 := i_lt c283
        refine lv_aload_n hx hb dX9_bar_25 rfl (lv_at hl 0 rfl) ?_
        refine x_gr C hT (ci := 9) (k := 0) rfl inX9 (by decide) wF_X9_12 ga0 rg_68 rfl dX9_bar_26 (fun q285 eq285 gq285 => ?_)
        have uq285 : wq = q285 := (ewq).trans eq285.symm
        subst uq285
        refine x_gr C hT (ci := 8) (k := 0) rfl inX8 (by decide) wF_X9_68 gwq rg_0 rfl dX9_bar_29 (fun q286 eq286 gq286 => ?_)
        have uq286 : bq = q286 := (ebq).trans eq286.symm
        subst uq286
        refine lv_aload_n hx hb dX9_bar_32 rfl (lv_at hl 0 rfl) ?_
        refine x_gr C hT (ci := 9) (k := 0) rfl inX9 (by decide) wF_X9_12 ga0 rg_68 rfl dX9_bar_33 (fun q287 eq287 gq287 => ?_)
        have uq287 : wq = q287 := (ewq).trans eq287.symm
        subst uq287
        refine x_gi C hT (ci := 8) (k := 1) rfl inX8 (by decide) wF_X9_64 gwq rg_0 rfl dX9_bar_36 (fun x288 ex288 bx288 => ?_)
        have ux288 : s1 = x288 := (es1).trans ex288.symm
        subst ux288
        refine x_ar C hT rfl rfl gbq rg_25 ⟨by omega, by show _ < ((10 : Nat) : Int); omega⟩ dX9_bar_39 (fun q289 eq289 gq289 => ?_)
        refine lv_iload_n hx hb dX9_bar_40 rfl (lv_at hl 1 rfl) ?_
        obtain ⟨x290, ex290⟩ : ∃ z : Int32, z = fI s.heap q289 (K.1.2 0 14) := ⟨_, rfl⟩
        have bx290 := ty_fi (x := x290) (k := 14) ex290 hT gq289 rg_1 rfl
        refine x_V (As := [.int x1]) (rest := []) C (a_X0_begin_q l K G s.heap (x1) (x290) hT gq289 (by omega) ex290) yo_X0_begin wM_X9_72 ⟨⟨by decide, by decide⟩, by decide, by decide⟩ (x_rv C hT (ci := 0) rfl gq289 rg_1) rfl hl.1 rfl (Nat.le_of_ble_eq_true rfl) dX9_bar_41 hS (AE_sub (fun _ _ => rfl) (by decide) hS.1) (fun vH291 H291 locsH291 pH291 zH291 kH291 hSH291 => ?_)
        obtain ⟨x292, hvH291, ex292, hrH291, m293, hTH291⟩ := pH291
        subst hvH291
        have m294 := (ewq).trans (fR_kept (x_lt hT kH291 ga0 (by decide))).symm
        have m295 := (ebq).trans (fR_kept (x_lt hT kH291 gwq (by decide))).symm
        have m296 := (es1).trans (fI_kept (x_lt hT kH291 gwq (by decide))).symm
        have m297 := (es4).trans (fI_kept (x_lt hT kH291 gwq (by decide))).symm
        have m298 := (es5).trans (fI_kept (x_lt hT kH291 gwq (by decide))).symm
        have m299 := (es10).trans (fI_kept (x_lt hT kH291 gwq (by decide))).symm
        have m300 := (es13).trans (fI_kept (x_lt hT kH291 gwq (by decide))).symm
        have m301 := (es16).trans (fI_kept (x_lt hT kH291 gwq (by decide))).symm
        have bx292 := ty_fi (x := x292) (k := 14) ex292 hTH291 gq289 rg_1 rfl
        have f302 : ∀ q : Nat, G q = some 1 → q ≠ q289 → fI H291 q (K.1.2 0 14) = fI s.heap q (K.1.2 0 14) := fun q hq hn => (m293 q hq hn).trans (f0_rf q hq)
        refine W.eq (g2 := F0 m 44 ls []) rfl ?_
        refine lv_aload_n hx hb dX9_bar_44 rfl (lv_at hl 0 rfl) ?_
        refine x_gr C hTH291 (ci := 9) (k := 0) rfl inX9 (by decide) wF_X9_12 ga0 rg_68 rfl dX9_bar_45 (fun q303 eq303 gq303 => ?_)
        have uq303 : wq = q303 := (m294).trans eq303.symm
        subst uq303
        refine lv_dup hx hb dX9_bar_48 rfl ?_
        refine x_gi C hTH291 (ci := 8) (k := 1) rfl inX8 (by decide) wF_X9_64 gwq rg_0 rfl dX9_bar_49 (fun x304 ex304 bx304 => ?_)
        have ux304 : s1 = x304 := (m296).trans ex304.symm
        subst ux304
        refine lv_iconst (v := 1) hx hb dX9_bar_52 (by decide) ?_
        refine lv_iadd hx hb dX9_bar_53 ?_
        refine lv_topi (fun x305 ex305 => ?_)
        have tx305 := i_add ex305 (by omega)
        refine x_put C hTH291 hSH291 (ci := 8) (k := 1) (v := .int x305) (ty0 := tyX8) rfl inX8 tyX8_ok nmX8 (by decide) rfl wF_X9_64 gwq rg_0 rfl rfl (okI (by have := i_rng x305; omega) (by have := i_rng x305; omega)) rfl rfl (AE_in gwq (by decide)) dX9_bar_54 (fun H306 locsH306 hTH306 hSH306 wH306 => ?_)
        have f307 : ∀ q : Nat, G q = some 1 → q ≠ q289 → fI H306 q (K.1.2 0 14) = fI s.heap q (K.1.2 0 14) := fun q hq hn => (Wr.neI wH306 (Or.inl (G_ne hq gwq (by decide)))).trans (f302 q hq hn)
        have m308 := m294.trans (Wr.neR wH306 (Or.inl (G_ne ga0 gwq (by decide)))).symm
        have m309 := m295.trans (Wr.neR wH306 (Or.inr (x_apart hKT hts inX8 tyX8 tyX8_ok nmX8 rfl 0 1 (by decide) (by decide) (by decide)))).symm
        have m311 := m297.trans (Wr.neI wH306 (Or.inr (x_apart hKT hts inX8 tyX8 tyX8_ok nmX8 rfl 4 1 (by decide) (by decide) (by decide)))).symm
        have m312 := m298.trans (Wr.neI wH306 (Or.inr (x_apart hKT hts inX8 tyX8 tyX8_ok nmX8 rfl 5 1 (by decide) (by decide) (by decide)))).symm
        have m313 := m299.trans (Wr.neI wH306 (Or.inr (x_apart hKT hts inX8 tyX8 tyX8_ok nmX8 rfl 10 1 (by decide) (by decide) (by decide)))).symm
        have m314 := m300.trans (Wr.neI wH306 (Or.inr (x_apart hKT hts inX8 tyX8 tyX8_ok nmX8 rfl 13 1 (by decide) (by decide) (by decide)))).symm
        have m315 := m301.trans (Wr.neI wH306 (Or.inr (x_apart hKT hts inX8 tyX8 tyX8_ok nmX8 rfl 16 1 (by decide) (by decide) (by decide)))).symm
        have m316 := ex292.trans (Wr.neI wH306 (Or.inl (G_ne gq289 gwq (by decide)))).symm
        have m317 := Wr.I wH306
        have m317 := m317.symm
        refine lv_aload_n hx hb dX9_bar_57 rfl (lv_at hl 0 rfl) ?_
        refine x_gr C hTH306 (ci := 9) (k := 0) rfl inX9 (by decide) wF_X9_12 ga0 rg_68 rfl dX9_bar_58 (fun q318 eq318 gq318 => ?_)
        have uq318 : wq = q318 := (m308).trans eq318.symm
        subst uq318
        refine x_gi C hTH306 (ci := 8) (k := 1) rfl inX8 (by decide) wF_X9_64 gwq rg_0 rfl dX9_bar_61 (fun x319 ex319 bx319 => ?_)
        have ux319 : x305 = x319 := (m317).trans ex319.symm
        subst ux319
        refine lv_iconst (v := 1) hx hb dX9_bar_64 (by decide) ?_
        refine lv_isub hx hb dX9_bar_65 ?_
        refine lv_topi (fun x320 ex320 => ?_)
        have tx320 := i_sub ex320 (by omega)
        exact x_iret C hQ dX9_bar_66 hSH306 (by decide) (by decide) (⟨x320, x305, s4, s5, s10, s13, s16, rfl, m317, m311, m312, m313, m314, m315, by omega, m309, BX.one (B := 1) hdb (bar_g hT gbq) (by omega) eq289 f307, fun _ => ⟨x292, by rw [← eq289]; exact m316, by omega⟩, fun h => by exfalso; exact h (by omega), hTH306⟩)
      · have k284 := i_nlt c283
        refine lv_iconst (v := (-1)) hx hb dX9_bar_23 (by decide) ?_
        exact x_iret C hQ dX9_bar_24 hS (by decide) (by decide) (⟨(-1), s1, s4, s5, s10, s13, s16, rfl, es1, es4, es5, es10, es13, es16, by omega, ebq, fun j hj hn => rfl, fun h => by exfalso; omega, fun _ j hj => rfl, hT⟩)

set_option maxHeartbeats 4000000 in
set_option maxRecDepth 100000 in
theorem a_X9_tap_b (l : Launch) (K : KE) (G : Nat → Option Nat) (H : Heap) {a0 : Nat} (x1 : Int32) (x2 : Int32) (x3 : Int32) {wq : Nat} {bq : Nat} (z : Int32) (s1 : Int32) (hT : TY K G H) (ga0 : G a0 = some 68) (gwq : G wq = some 0) (ewq : wq = fR H a0 (K.1.2 9 0)) (gbq : G bq = some 25) (ebq : bq = fR H wq (K.1.2 8 0)) (es1 : s1 = fI H wq (K.1.2 8 1)) (hy0 : z = fI H (fR H bq x1.toNatClampNeg) (K.1.2 0 14)) (hy1 : DB H bq) : MX l K yX9_tap cX9_tap 5 (some .int) 2 62 0 0 [.ref a0, .int x1, .int x2, .int x3] H (AE G [1, 9, 10, 12, 14] H.size) (fun v H1 => ∃ (r : Int32), v = some (.int r) ∧ ((0 ≤ x1.toInt ∧ x1.toInt < s1.toInt ∧ 0 ≤ x2.toInt ∧ x2.toInt ≤ 2 ∧ 0 ≤ x3.toInt ∧ x3.toInt ≤ 9999999 ∧ z.toInt ≤ 11 ∧ r.toInt = z.toInt + 1) ∨ ((x1.toInt < 0 ∨ s1.toInt ≤ x1.toInt ∨ x2.toInt < 0 ∨ 2 < x2.toInt ∨ x3.toInt < 0 ∨ 9999999 < x3.toInt ∨ 11 < z.toInt) ∧ r.toInt = -1)) ∧ (∀ j : Nat, j < 10 → (j : Int) ≠ x1.toInt → fI H1 (fR H bq j) (K.1.2 0 14) = fI H (fR H bq j) (K.1.2 0 14)) ∧ (0 ≤ x1.toInt ∧ x1.toInt < s1.toInt ∧ 0 ≤ x2.toInt ∧ x2.toInt ≤ 2 ∧ 0 ≤ x3.toInt ∧ x3.toInt ≤ 9999999 ∧ z.toInt ≤ 11 → ∃ t : Int32, t = fI H1 (fR H bq x1.toNatClampNeg) (K.1.2 0 14) ∧ t.toInt = z.toInt + 1) ∧ (¬ (0 ≤ x1.toInt ∧ x1.toInt < s1.toInt ∧ 0 ≤ x2.toInt ∧ x2.toInt ≤ 2 ∧ 0 ≤ x3.toInt ∧ x3.toInt ≤ 9999999 ∧ z.toInt ≤ 11) → ∀ j : Nat, j < 10 → fI H1 (fR H bq j) (K.1.2 0 14) = fI H (fR H bq j) (K.1.2 0 14)) ∧ TY K G H1) := by
  refine MX.of (by decide +kernel) (Nat.le_of_ble_eq_true rfl) ?_
  intro p e s m below meth c ls Q C hH hl hQ
  subst hH
  have C : CX p K s m _ meth c RX9 cX9_tap 5 (some .int) "tap" := C
  obtain ⟨hx, hb, hml, hown, hts, hKT, hr, hlocks, hnm⟩ := id C
  have hl : lv_has ls 5 [(0, .ref a0), (1, .int x1), (2, .int x2), (3, .int x3)] := hl
  have hS : va_S (AE G [1, 9, 10, 12, 14] s.heap.size) s.heap s.heap [] := va_S.rf
  have n_m1 : ((-1) : Int32).toInt = -1 := rfl
  have n_0 : (0 : Int32).toInt = 0 := rfl
  have n_1 : (1 : Int32).toInt = 1 := rfl
  have n_12 : (12 : Int32).toInt = 12 := rfl
  have n_9999999 : (9999999 : Int32).toInt = 9999999 := rfl
  have bs1 := ty_fi (x := s1) (k := 1) es1 hT gwq rg_0 rfl
  have hdb := hy1
  have f0_rf : ∀ q : Nat, G q = some 1 → fI s.heap q (K.1.2 0 14) = fI s.heap q (K.1.2 0 14) := fun _ _ => rfl
  refine lv_aload_n hx hb dX9_tap_0 rfl (lv_at hl 0 rfl) ?_
  refine lv_iload_n hx hb dX9_tap_1 rfl (lv_at hl 1 rfl) ?_
  refine x_V (As := [.int x1]) (rest := []) C (a_X9_barAt_b l K G s.heap (x1) (s1) hT ga0 gwq ewq gbq ebq es1) yo_X9_barAt wM_X9_78 ⟨⟨by decide, by decide⟩, by decide, by decide⟩ (x_rv C hT (ci := 9) rfl ga0 rg_68) rfl hl.1 rfl (Nat.le_of_ble_eq_true rfl) dX9_tap_2 hS (AE_sub (fun _ _ => rfl) (by decide) hS.1) (fun vH233 H233 locsH233 pH233 zH233 kH233 hSH233 => ?_)
  obtain ⟨hTH233, pdH233⟩ := pH233
  have f234 : ∀ q : Nat, G q = some 1 → fI H233 q (K.1.2 0 14) = fI s.heap q (K.1.2 0 14) := fun q hq => (fI_kept (x_lt hT kH233 hq (by decide))).trans (f0_rf q hq)
  have m235 := (ewq).trans (fR_kept (x_lt hT kH233 ga0 (by decide))).symm
  have m236 := (ebq).trans (fR_kept (x_lt hT kH233 gwq (by decide))).symm
  have m237 := (es1).trans (fI_kept (x_lt hT kH233 gwq (by decide))).symm
  rcases pdH233 with ⟨hvH233, hcH233⟩ | ⟨q238, hvH233, Eq238, gq238, hcH233, hdH233⟩
  · skip
    subst hvH233
    refine W.eq (g2 := F0 m 5 ls [.null]) rfl ?_
    refine lv_astoreN (lv' := [(4, .null), (0, .ref a0), (1, .int x1), (2, .int x2), (3, .int x3)]) hx hb dX9_tap_5 hl (by decide) rfl (fun ls239 hl240 => ?_)
    refine lv_aloadN hx hb dX9_tap_7 (lv_at hl240 0 rfl) ?_
    refine lv_ifnullN (tgt := 39) hx hb dX9_tap_9 (by decide) ?_
    refine lv_iconst (v := (-1)) hx hb dX9_tap_39 (by decide) ?_
    exact x_iret C hQ dX9_tap_40 hSH233 (by decide) (by decide) (⟨(-1), rfl, by omega, fun j hj hn => fI_kept (x_lt hT kH233 (bar_g hT gbq j hj) (by decide)), fun h => by exfalso; omega, fun _ j hj => fI_kept (x_lt hT kH233 (bar_g hT gbq j hj) (by decide)), hTH233⟩)
  · skip
    have m241 : z = fI s.heap q238 (K.1.2 0 14) := by rw [Eq238]; exact hy0
    have m242 := m241.trans (fI_kept (x_lt hT kH233 gq238 (by decide))).symm
    have bzq238 := ty_fi (x := z) (k := 14) m241 hT gq238 rg_1 rfl
    subst hvH233
    refine W.eq (g2 := F0 m 5 ls [.ref q238]) rfl ?_
    refine lv_astore (lv' := [(4, .ref q238), (0, .ref a0), (1, .int x1), (2, .int x2), (3, .int x3)]) hx hb dX9_tap_5 hl (by decide) rfl (fun ls243 hl244 => ?_)
    refine lv_aload hx hb dX9_tap_7 (lv_at hl244 0 rfl) ?_
    refine lv_ifnull hx hb dX9_tap_9 ?_
    refine lv_iload_n hx hb dX9_tap_12 rfl (lv_at hl244 3 rfl) ?_
    refine x_S (As := [.int x2]) (rest := []) C (c_X9_isTone l K G H233 (x2) hTH233) yo_X9_isTone wM_X9_150 ⟨⟨by decide, by decide⟩, by decide, by decide⟩ rfl hl244.1 rfl (Nat.le_of_ble_eq_true rfl) dX9_tap_13 hSH233 (AE_sub (fun _ _ => rfl) (by decide) hSH233.1) (fun vH245 H245 locsH245 pH245 zH245 kH245 hSH245 => ?_)
    have hqH245 := pH245.1.symm
    subst hqH245
    rcases pH245.2 with ⟨hvH245, hcH245⟩ | ⟨hvH245, hcH245⟩
    · subst hvH245
      refine W.eq (g2 := F0 m 16 ls243 [.int 1]) rfl ?_
      refine lv_if_eq (tgt := 39) hx hb dX9_tap_16 (by decide) (fun c246 => ?_) (fun c246 => ?_)
      · have k247 := i_eq c246
        exfalso
        omega
      · have k247 := i_ne c246
        refine lv_iload_n hx hb dX9_tap_19 rfl (lv_at hl244 4 rfl) ?_
        refine lv_iconst (v := 0) hx hb dX9_tap_20 (by decide) ?_
        refine lv_ldc (v := 9999999) hx hb hown (hts _ wK_X9_242) dX9_tap_21 ?_
        refine x_S (As := [.int x3, .int 0, .int 9999999]) (rest := []) C (c_X9_within l K G H233 (x3) (0) (9999999) hTH233) yo_X9_within wM_X9_89 ⟨⟨by decide, by decide⟩, by decide, by decide⟩ rfl hl244.1 rfl (Nat.le_of_ble_eq_true rfl) dX9_tap_23 hSH245 (AE_sub (fun _ _ => rfl) (by decide) hSH245.1) (fun vH248 H248 locsH248 pH248 zH248 kH248 hSH248 => ?_)
        have hqH248 := pH248.1.symm
        subst hqH248
        rcases pH248.2 with ⟨hvH248, hcH248⟩ | ⟨hvH248, hcH248⟩
        · subst hvH248
          refine W.eq (g2 := F0 m 26 ls243 [.int 1]) rfl ?_
          refine lv_if_eq (tgt := 39) hx hb dX9_tap_26 (by decide) (fun c249 => ?_) (fun c249 => ?_)
          · have k250 := i_eq c249
            exfalso
            omega
          · have k250 := i_ne c249
            refine lv_aload hx hb dX9_tap_29 (lv_at hl244 0 rfl) ?_
            refine x_gi C hTH233 (ci := 0) (k := 14) rfl inX0 (by decide) wF_X9_200 gq238 rg_1 rfl dX9_tap_31 (fun x251 ex251 bx251 => ?_)
            have ux251 : z = x251 := (m242).trans ex251.symm
            subst ux251
            refine lv_bipush (v := 12) hx hb dX9_tap_34 (by decide) ?_
            refine lv_icmp_lt (tgt := 41) hx hb dX9_tap_36 (by decide) (fun c252 => ?_) (fun c252 => ?_)
            · have k253 := i_lt c252
              refine lv_aload hx hb dX9_tap_41 (lv_at hl244 0 rfl) ?_
              refine lv_iload_n hx hb dX9_tap_43 rfl (lv_at hl244 3 rfl) ?_
              refine lv_iload_n hx hb dX9_tap_44 rfl (lv_at hl244 4 rfl) ?_
              refine x_V (As := [.int x2, .int x3]) (rest := []) C (a_X0_addTap_q l K G H233 (x2) (x3) (z) hTH233 gq238 m242 (by omega)) yo_X0_addTap wM_X9_243 ⟨⟨by decide, by decide⟩, by decide, by decide⟩ (x_rv C hTH233 (ci := 0) rfl gq238 rg_1) rfl hl244.1 rfl (Nat.le_of_ble_eq_true rfl) dX9_tap_45 hSH248 (AE_sub (fun _ _ => rfl) (by decide) hSH248.1) (fun vH254 H254 locsH254 pH254 zH254 kH254 hSH254 => ?_)
              obtain ⟨x255, hvH254, ex255, hrH254, m256, hTH254⟩ := pH254
              subst hvH254
              have m257 := (m235).trans (fR_kept (x_lt hTH233 kH254 ga0 (by decide))).symm
              have m258 := (m236).trans (fR_kept (x_lt hTH233 kH254 gwq (by decide))).symm
              have m259 := (m237).trans (fI_kept (x_lt hTH233 kH254 gwq (by decide))).symm
              have bx255 := ty_fi (x := x255) (k := 14) ex255 hTH254 gq238 rg_1 rfl
              have f260 : ∀ q : Nat, G q = some 1 → q ≠ q238 → fI H254 q (K.1.2 0 14) = fI s.heap q (K.1.2 0 14) := fun q hq hn => (m256 q hq hn).trans (f234 q hq)
              refine W.eq (g2 := F0 m 48 ls243 []) rfl ?_
              refine lv_aload hx hb dX9_tap_48 (lv_at hl244 0 rfl) ?_
              refine x_gi C hTH254 (ci := 0) (k := 14) rfl inX0 (by decide) wF_X9_200 gq238 rg_1 rfl dX9_tap_50 (fun x261 ex261 bx261 => ?_)
              have ux261 : x255 = x261 := (ex255).trans ex261.symm
              subst ux261
              exact x_iret C hQ dX9_tap_53 hSH254 (by decide) (by decide) (⟨x255, rfl, by omega, BX.one (B := 1) hdb (bar_g hT gbq) (by omega) Eq238 f260, fun _ => ⟨x255, by rw [← Eq238]; exact ex255, by omega⟩, fun h => by exfalso; exact h (by omega), hTH254⟩)
            · have k253 := i_nlt c252
              refine lv_iconst (v := (-1)) hx hb dX9_tap_39 (by decide) ?_
              exact x_iret C hQ dX9_tap_40 hSH248 (by decide) (by decide) (⟨(-1), rfl, by omega, fun j hj hn => fI_kept (x_lt hT kH233 (bar_g hT gbq j hj) (by decide)), fun h => by exfalso; omega, fun _ j hj => fI_kept (x_lt hT kH233 (bar_g hT gbq j hj) (by decide)), hTH233⟩)
        · subst hvH248
          refine W.eq (g2 := F0 m 26 ls243 [.int 0]) rfl ?_
          refine lv_if_eq (tgt := 39) hx hb dX9_tap_26 (by decide) (fun c262 => ?_) (fun c262 => ?_)
          · have k263 := i_eq c262
            refine lv_iconst (v := (-1)) hx hb dX9_tap_39 (by decide) ?_
            exact x_iret C hQ dX9_tap_40 hSH248 (by decide) (by decide) (⟨(-1), rfl, by omega, fun j hj hn => fI_kept (x_lt hT kH233 (bar_g hT gbq j hj) (by decide)), fun h => by exfalso; omega, fun _ j hj => fI_kept (x_lt hT kH233 (bar_g hT gbq j hj) (by decide)), hTH233⟩)
          · have k263 := i_ne c262
            exfalso
            omega
    · subst hvH245
      refine W.eq (g2 := F0 m 16 ls243 [.int 0]) rfl ?_
      refine lv_if_eq (tgt := 39) hx hb dX9_tap_16 (by decide) (fun c264 => ?_) (fun c264 => ?_)
      · have k265 := i_eq c264
        refine lv_iconst (v := (-1)) hx hb dX9_tap_39 (by decide) ?_
        exact x_iret C hQ dX9_tap_40 hSH245 (by decide) (by decide) (⟨(-1), rfl, by omega, fun j hj hn => fI_kept (x_lt hT kH233 (bar_g hT gbq j hj) (by decide)), fun h => by exfalso; omega, fun _ j hj => fI_kept (x_lt hT kH233 (bar_g hT gbq j hj) (by decide)), hTH233⟩)
      · have k265 := i_ne c264
        exfalso
        omega
