theorem DB.lt {H : Heap} {bq : Nat} (h : DB H bq) : ∀ {j i : Nat}, i < j → j < 10 → fR H bq i < fR H bq j := by
  intro j
  induction j with
  | zero => intro i hi _; exact absurd hi (Nat.not_lt_zero i)
  | succ j ih =>
    intro i hi hj
    have h1 := h j (by omega)
    by_cases e : i = j
    · subst e; exact h1
    · exact Nat.lt_trans (ih (by omega) (by omega)) h1
theorem DB.ne {H : Heap} {bq i j : Nat} (h : DB H bq) (hi : i < 10) (hj : j < 10) (hn : i ≠ j) : fR H bq i ≠ fR H bq j := by
  by_cases e : i < j
  · exact Nat.ne_of_lt (h.lt e hj)
  · exact (Nat.ne_of_lt (h.lt (show j < i by omega) hi)).symm
theorem CB.to {H0 H1 : Heap} {bq oq k N M : Nat} (h : ∀ j : Nat, j < 10 → j < N → fI H1 (fR H0 bq j) k = fI H0 (fR H0 oq j) k) (hM : M ≤ N) : ∀ j : Nat, j < 10 → j < M → fI H1 (fR H0 bq j) k = fI H0 (fR H0 oq j) k := fun j h10 hj => h j h10 (by omega)
theorem CB.step {G : Nat → Option Nat} {H0 H1 H2 : Heap} {bq oq k N B q1 q2 : Nat} {t u : Int32} (db : DB H0 bq) (gB : ∀ j : Nat, j < 10 → G (fR H0 bq j) = some B) (hN : N < 10) (cb : ∀ j : Nat, j < 10 → j < N → fI H1 (fR H0 bq j) k = fI H0 (fR H0 oq j) k) (rf : ∀ q : Nat, G q = some B → q ≠ q1 → fI H2 q k = fI H1 q k) (E1 : q1 = fR H0 bq N) (E2 : q2 = fR H0 oq N) (ht : t = fI H2 q1 k) (hu : u = fI H1 q2 k) (so : fI H1 q2 k = fI H0 q2 k) (e : t.toInt = u.toInt) : ∀ j : Nat, j < 10 → j < N + 1 → fI H2 (fR H0 bq j) k = fI H0 (fR H0 oq j) k := by
  intro j h10 hj
  by_cases h : j = N
  · subst h; rw [← E1, ← E2, ← ht, ← so, ← hu]; exact Int32.toInt_inj.mp e
  · have hlt := DB.lt db (show j < N by omega) hN
    rw [rf _ (gB j h10) (by rw [E1]; exact Nat.ne_of_lt hlt)]
    exact cb j h10 (by omega)
theorem CB.fin {G : Nat → Option Nat} {H0 H1 : Heap} {bq oq k N B : Nat} (cb : ∀ j : Nat, j < 10 → j < N → fI H1 (fR H0 bq j) k = fI H0 (fR H0 oq j) k) (rb : ∀ j : Nat, fR H1 bq j = fR H0 bq j) (ro : ∀ j : Nat, fR H1 oq j = fR H0 oq j) (so : ∀ q : Nat, G q = some B → fI H1 q k = fI H0 q k) (gO : ∀ j : Nat, j < 10 → G (fR H0 oq j) = some B) : ∀ j : Nat, j < 10 → j < N → fI H1 (fR H1 bq j) k = fI H1 (fR H1 oq j) k := fun j h10 hj => by
  rw [rb, ro, so _ (gO j h10)]
  exact cb j h10 hj
/-- one bar of a row was changed: the others not -/
theorem BX.one {G : Nat → Option Nat} {H0 H1 : Heap} {bq k B q : Nat} {x : Int32} (db : DB H0 bq) (gB : ∀ j : Nat, j < 10 → G (fR H0 bq j) = some B) (hx : 0 ≤ x.toInt ∧ x.toInt ≤ 9) (E : q = fR H0 bq x.toNatClampNeg) (rf : ∀ q1 : Nat, G q1 = some B → q1 ≠ q → fI H1 q1 k = fI H0 q1 k) : ∀ j : Nat, j < 10 → (j : Int) ≠ x.toInt → fI H1 (fR H0 bq j) k = fI H0 (fR H0 bq j) k := by
  intro j hj hn
  have hc := i_cl hx.1
  refine rf _ (gB j hj) ?_
  rw [E]
  exact DB.ne db hj (by omega) (by omega)
theorem bar_g {K : KE} {G : Nat → Option Nat} {H : Heap} {bq : Nat} (hT : TY K G H) (g : G bq = some 25) : ∀ j : Nat, j < 10 → G (fR H bq j) = some 1 := by
  intro j hj
  obtain ⟨c, -, -, -, -, -, h⟩ := hT.aref g rg_25 hj
  exact h
theorem bar_h {K : KE} {G : Nat → Option Nat} {H : Heap} {bq : Nat} (hT : TY K G H) (g : G bq = some 59) : ∀ j : Nat, j < 10 → G (fR H bq j) = some 35 := by
  intro j hj
  obtain ⟨c, -, -, -, -, -, h⟩ := hT.aref g rg_59 hj
  exact h
set_option maxHeartbeats 4000000 in
set_option maxRecDepth 100000 in
theorem a_X9_takeOff_q (l : Launch) (K : KE) (G : Nat → Option Nat) (H : Heap) {a0 : Nat} {a1 : Nat} (x2 : Int32) (x3 : Int32) (hT : TY K G H) (ga0 : G a0 = some 68) (ga1 : G a1 = some 1) : MX l K yX9_takeOff cX9_takeOff 4 (some .int) 5 126 0 0 [.ref a0, .ref a1, .int x2, .int x3] H (AE G [1, 2, 7, 8, 83, 84] H.size) (fun v H1 => ∃ (r : Int32), v = some (.int r) ∧ (∀ q : Nat, G q = some 1 → fI H1 q (K.1.2 0 0) = fI H q (K.1.2 0 0)) ∧ TY K G H1) := by
  refine MX.of (by decide +kernel) (Nat.le_of_ble_eq_true rfl) ?_
  intro p e s m below meth c ls Q C hH hl hQ
  subst hH
  have C : CX p K s m _ meth c RX9 cX9_takeOff 4 (some .int) "takeOff" := C
  obtain ⟨hx, hb, hml, hown, hts, hKT, hr, hlocks, hnm⟩ := id C
  have hl : lv_has ls 4 [(0, .ref a0), (1, .ref a1), (2, .int x2), (3, .int x3)] := hl
  have hS : va_S (AE G [1, 2, 7, 8, 83, 84] s.heap.size) s.heap s.heap [] := va_S.rf
  have n_m1 : ((-1) : Int32).toInt = -1 := rfl
  have n_0 : (0 : Int32).toInt = 0 := rfl
  have n_1 : (1 : Int32).toInt = 1 := rfl
  have n_9 : (9 : Int32).toInt = 9 := rfl
  have n_200 : (200 : Int32).toInt = 200 := rfl
  have f0_rf : ∀ q : Nat, G q = some 1 → fI s.heap q (K.1.2 0 0) = fI s.heap q (K.1.2 0 0) := fun _ _ => rfl
  have J38 : ∀ (ls450 : Array Slot) (H449 : Heap) (locsH449 : List Loc) , lv_has ls450 4 [] → TY K G H449 → va_S (AE G [1, 2, 7, 8, 83, 84] s.heap.size) s.heap H449 locsH449 → (∀ q : Nat, G q = some 1 → fI H449 q (K.1.2 0 0) = fI s.heap q (K.1.2 0 0)) → W p l e ({ frames := 5, cells := 0, slots := 0, locals := 126 } : Room) s m (([.ref a0, .ref a1, .int x2, .int x3] : List Value).toArray) below meth c H449 locsH449 0 0 Q (F0 m 38 ls450 []) := by
    intro ls450 H449 locsH449  hl451 hTH449 hSH449 fy452_rf
    refine lv_iconst (v := (-1)) hx hb dX9_takeOff_38 (by decide) ?_
    exact x_iret C hQ dX9_takeOff_39 hSH449 (by decide) (by decide) (⟨(-1), rfl, fy452_rf, hTH449⟩)
  have J103 : ∀ (ls454 : Array Slot) (H453 : Heap) (locsH453 : List Loc) , lv_has ls454 4 [(1, .ref a1)] → TY K G H453 → va_S (AE G [1, 2, 7, 8, 83, 84] s.heap.size) s.heap H453 locsH453 → (∀ q : Nat, G q = some 1 → fI H453 q (K.1.2 0 0) = fI s.heap q (K.1.2 0 0)) → W p l e ({ frames := 5, cells := 0, slots := 0, locals := 126 } : Room) s m (([.ref a0, .ref a1, .int x2, .int x3] : List Value).toArray) below meth c H453 locsH453 0 0 Q (F0 m 103 ls454 []) := by
    intro ls454 H453 locsH453  hl455 hTH453 hSH453 fy456_rf
    refine lv_aload_n hx hb dX9_takeOff_103 rfl (lv_at hl455 0 rfl) ?_
    refine x_gi C hTH453 (ci := 0) (k := 8) rfl inX0 (by decide) wF_X9_86 ga1 rg_1 rfl dX9_takeOff_104 (fun x457 ex457 bx457 => ?_)
    exact x_iret C hQ dX9_takeOff_107 hSH453 (by decide) (by decide) (⟨x457, rfl, fy456_rf, hTH453⟩)
  refine lv_aload_n hx hb dX9_takeOff_0 rfl (lv_at hl 1 rfl) ?_
  refine lv_iload_n hx hb dX9_takeOff_1 rfl (lv_at hl 2 rfl) ?_
  refine x_V (As := [.int x2]) (rest := []) C (a_X0_has l K G s.heap (x2) hT ga1) yo_X0_has wM_X9_82 ⟨⟨by decide, by decide⟩, by decide, by decide⟩ (x_rv C hT (ci := 0) rfl ga1 rg_1) rfl hl.1 rfl (Nat.le_of_ble_eq_true rfl) dX9_takeOff_2 hS (AE_sub (fun _ _ => rfl) (by decide) hS.1) (fun vH458 H458 locsH458 pH458 zH458 kH458 hSH458 => ?_)
  have hqH458 := pH458.1.symm
  subst hqH458
  rcases pH458.2 with ⟨hvH458, hcH458⟩ | hvH458
  · subst hvH458
    refine W.eq (g2 := F0 m 5 ls [.int 1]) rfl ?_
    refine lv_if_eq (tgt := 38) hx hb dX9_takeOff_5 (by decide) (fun c459 => ?_) (fun c459 => ?_)
    · have k460 := i_eq c459
      exfalso
      omega
    · have k460 := i_ne c459
      refine lv_iload_n hx hb dX9_takeOff_8 rfl (lv_at hl 3 rfl) ?_
      refine lv_iconst (v := 1) hx hb dX9_takeOff_9 (by decide) ?_
      refine lv_bipush (v := 9) hx hb dX9_takeOff_10 (by decide) ?_
      refine x_S (As := [.int x3, .int 1, .int 9]) (rest := []) C (c_X9_within l K G s.heap (x3) (1) (9) hT) yo_X9_within wM_X9_89 ⟨⟨by decide, by decide⟩, by decide, by decide⟩ rfl hl.1 rfl (Nat.le_of_ble_eq_true rfl) dX9_takeOff_12 hSH458 (AE_sub (fun _ _ => rfl) (by decide) hSH458.1) (fun vH461 H461 locsH461 pH461 zH461 kH461 hSH461 => ?_)
      have hqH461 := pH461.1.symm
      subst hqH461
      rcases pH461.2 with ⟨hvH461, hcH461⟩ | ⟨hvH461, hcH461⟩
      · subst hvH461
        refine W.eq (g2 := F0 m 15 ls [.int 1]) rfl ?_
        refine lv_if_eq (tgt := 38) hx hb dX9_takeOff_15 (by decide) (fun c462 => ?_) (fun c462 => ?_)
        · have k463 := i_eq c462
          exfalso
          omega
        · have k463 := i_ne c462
          refine lv_aload_n hx hb dX9_takeOff_18 rfl (lv_at hl 1 rfl) ?_
          refine x_gr C hT (ci := 0) (k := 1) rfl inX0 (by decide) wF_X9_93 ga1 rg_1 rfl dX9_takeOff_19 (fun q464 eq464 gq464 => ?_)
          refine lv_iload_n hx hb dX9_takeOff_22 rfl (lv_at hl 2 rfl) ?_
          refine x_ai C hT gq464 rg_2 ⟨by omega, by show _ < ((16 : Nat) : Int); omega⟩ dX9_takeOff_23 (fun x465 ex465 bx465 => ?_)
          refine lv_iload_n hx hb dX9_takeOff_24 rfl (lv_at hl 3 rfl) ?_
          refine lv_icmp_le (tgt := 38) hx hb dX9_takeOff_25 (by decide) (fun c466 => ?_) (fun c466 => ?_)
          · have k467 := i_le c466
            exact J38 ls s.heap locsH461 (lv_sub hl [] rfl) hT hSH461 f0_rf
          · have k467 := i_nle c466
            refine lv_aload_n hx hb dX9_takeOff_28 rfl (lv_at hl 1 rfl) ?_
            refine x_gi C hT (ci := 0) (k := 8) rfl inX0 (by decide) wF_X9_86 ga1 rg_1 rfl dX9_takeOff_29 (fun x468 ex468 bx468 => ?_)
            refine lv_sipush (v := 200) hx hb dX9_takeOff_32 (by decide) ?_
            refine lv_icmp_lt (tgt := 40) hx hb dX9_takeOff_35 (by decide) (fun c469 => ?_) (fun c469 => ?_)
            · have k470 := i_lt c469
              refine lv_aload_n hx hb dX9_takeOff_40 rfl (lv_at hl 1 rfl) ?_
              refine x_gr C hT (ci := 0) (k := 1) rfl inX0 (by decide) wF_X9_93 ga1 rg_1 rfl dX9_takeOff_41 (fun q471 eq471 gq471 => ?_)
              have uq471 : q464 = q471 := (eq464).trans eq471.symm
              subst uq471
              refine lv_iload_n hx hb dX9_takeOff_44 rfl (lv_at hl 2 rfl) ?_
              refine lv_dup2_11 hx hb dX9_takeOff_45 rfl rfl ?_
              refine x_ai C hT gq464 rg_2 ⟨by omega, by show _ < ((16 : Nat) : Int); omega⟩ dX9_takeOff_46 (fun x472 ex472 bx472 => ?_)
              have ux472 : x465 = x472 := (ex465).trans ex472.symm
              subst ux472
              refine lv_iload_n hx hb dX9_takeOff_47 rfl (lv_at hl 3 rfl) ?_
              refine lv_isub hx hb dX9_takeOff_48 ?_
              refine lv_topi (fun x473 ex473 => ?_)
              have tx473 := i_sub ex473 (by have := i_rng x465; omega)
              refine x_iast C hT hSH461 gq464 rg_2 (by omega) (by show _ < ((16 : Nat) : Int); omega) ⟨by have := i_rng x473; omega, by have := i_rng x473; omega⟩ (AE_in gq464 (by decide)) dX9_takeOff_49 (fun H474 locsH474 hTH474 hSH474 wH474 => ?_)
              have f475 : ∀ q : Nat, G q = some 1 → fI H474 q (K.1.2 0 0) = fI s.heap q (K.1.2 0 0) := fun q hq => (Wr.neI wH474 (Or.inl (G_ne hq gq464 (by decide)))).trans (f0_rf q hq)
              have m476 := eq464.trans (Wr.neR wH474 (Or.inl (G_ne ga1 gq464 (by decide)))).symm
              have m478 := ex468.trans (Wr.neI wH474 (Or.inl (G_ne ga1 gq464 (by decide)))).symm
              have m479 := Wr.I wH474
              have m479 := m479.symm
              refine lv_aload_n hx hb dX9_takeOff_50 rfl (lv_at hl 1 rfl) ?_
              refine x_gr C hTH474 (ci := 0) (k := 6) rfl inX0 (by decide) wF_X9_174 ga1 rg_1 rfl dX9_takeOff_51 (fun q480 eq480 gq480 => ?_)
              refine lv_aload_n hx hb dX9_takeOff_54 rfl (lv_at hl 1 rfl) ?_
              refine x_gi C hTH474 (ci := 0) (k := 8) rfl inX0 (by decide) wF_X9_86 ga1 rg_1 rfl dX9_takeOff_55 (fun x481 ex481 bx481 => ?_)
              have ux481 : x468 = x481 := (m478).trans ex481.symm
              subst ux481
              refine lv_iload_n hx hb dX9_takeOff_58 rfl (lv_at hl 2 rfl) ?_
              refine x_iast C hTH474 hSH474 gq480 rg_7 (by omega) (by show _ < ((200 : Nat) : Int); omega) ⟨by have := i_rng x2; omega, by have := i_rng x2; omega⟩ (AE_in gq480 (by decide)) dX9_takeOff_59 (fun H482 locsH482 hTH482 hSH482 wH482 => ?_)
              have f483 : ∀ q : Nat, G q = some 1 → fI H482 q (K.1.2 0 0) = fI s.heap q (K.1.2 0 0) := fun q hq => (Wr.neI wH482 (Or.inl (G_ne hq gq480 (by decide)))).trans (f475 q hq)
              have m484 := m476.trans (Wr.neR wH482 (Or.inl (G_ne ga1 gq480 (by decide)))).symm
              have m485 := m478.trans (Wr.neI wH482 (Or.inl (G_ne ga1 gq480 (by decide)))).symm
              have m486 := m479.trans (Wr.neI wH482 (Or.inl (G_ne gq464 gq480 (by decide)))).symm
              have m487 := eq480.trans (Wr.neR wH482 (Or.inl (G_ne ga1 gq480 (by decide)))).symm
              have m488 := Wr.I wH482
              have m488 := m488.symm
              refine lv_aload_n hx hb dX9_takeOff_60 rfl (lv_at hl 1 rfl) ?_
              refine x_gr C hTH482 (ci := 0) (k := 7) rfl inX0 (by decide) wF_X9_177 ga1 rg_1 rfl dX9_takeOff_61 (fun q489 eq489 gq489 => ?_)
              refine lv_aload_n hx hb dX9_takeOff_64 rfl (lv_at hl 1 rfl) ?_
              refine x_gi C hTH482 (ci := 0) (k := 8) rfl inX0 (by decide) wF_X9_86 ga1 rg_1 rfl dX9_takeOff_65 (fun x490 ex490 bx490 => ?_)
              have ux490 : x468 = x490 := (m485).trans ex490.symm
              subst ux490
              refine lv_iload_n hx hb dX9_takeOff_68 rfl (lv_at hl 3 rfl) ?_
              refine x_iast C hTH482 hSH482 gq489 rg_8 (by omega) (by show _ < ((200 : Nat) : Int); omega) ⟨by have := i_rng x3; omega, by have := i_rng x3; omega⟩ (AE_in gq489 (by decide)) dX9_takeOff_69 (fun H491 locsH491 hTH491 hSH491 wH491 => ?_)
              have f492 : ∀ q : Nat, G q = some 1 → fI H491 q (K.1.2 0 0) = fI s.heap q (K.1.2 0 0) := fun q hq => (Wr.neI wH491 (Or.inl (G_ne hq gq489 (by decide)))).trans (f483 q hq)
              have m493 := m484.trans (Wr.neR wH491 (Or.inl (G_ne ga1 gq489 (by decide)))).symm
              have m494 := m485.trans (Wr.neI wH491 (Or.inl (G_ne ga1 gq489 (by decide)))).symm
              have m495 := m486.trans (Wr.neI wH491 (Or.inl (G_ne gq464 gq489 (by decide)))).symm
              have m496 := m487.trans (Wr.neR wH491 (Or.inl (G_ne ga1 gq489 (by decide)))).symm
              have m497 := m488.trans (Wr.neI wH491 (Or.inl (G_ne gq480 gq489 (by decide)))).symm
              have m498 := eq489.trans (Wr.neR wH491 (Or.inl (G_ne ga1 gq489 (by decide)))).symm
              have m499 := Wr.I wH491
              have m499 := m499.symm
              refine lv_aload_n hx hb dX9_takeOff_70 rfl (lv_at hl 1 rfl) ?_
              refine lv_dup hx hb dX9_takeOff_71 rfl ?_
              refine x_gi C hTH491 (ci := 0) (k := 8) rfl inX0 (by decide) wF_X9_86 ga1 rg_1 rfl dX9_takeOff_72 (fun x500 ex500 bx500 => ?_)
              have ux500 : x468 = x500 := (m494).trans ex500.symm
              subst ux500
              refine lv_iconst (v := 1) hx hb dX9_takeOff_75 (by decide) ?_
              refine lv_iadd hx hb dX9_takeOff_76 ?_
              refine lv_topi (fun x501 ex501 => ?_)
              have tx501 := i_add ex501 (by omega)
              refine x_put C hTH491 hSH491 (ci := 0) (k := 8) (v := .int x501) (ty0 := tyX0) rfl inX0 tyX0_ok nmX0 (by decide) rfl wF_X9_86 ga1 rg_1 rfl rfl (okI (by have := i_rng x501; omega) (by have := i_rng x501; omega)) rfl rfl (AE_in ga1 (by decide)) dX9_takeOff_77 (fun H502 locsH502 hTH502 hSH502 wH502 => ?_)
              have f503 : ∀ q : Nat, G q = some 1 → fI H502 q (K.1.2 0 0) = fI s.heap q (K.1.2 0 0) := fun q hq => (Wr.neI wH502 (Or.inr (x_apart hKT hts inX0 tyX0 tyX0_ok nmX0 rfl 0 8 (by decide) (by decide) (by decide)))).trans (f492 q hq)
              have m504 := m493.trans (Wr.neR wH502 (Or.inr (x_apart hKT hts inX0 tyX0 tyX0_ok nmX0 rfl 1 8 (by decide) (by decide) (by decide)))).symm
              have m506 := m495.trans (Wr.neI wH502 (Or.inl (G_ne gq464 ga1 (by decide)))).symm
              have m507 := m496.trans (Wr.neR wH502 (Or.inr (x_apart hKT hts inX0 tyX0 tyX0_ok nmX0 rfl 6 8 (by decide) (by decide) (by decide)))).symm
              have m508 := m497.trans (Wr.neI wH502 (Or.inl (G_ne gq480 ga1 (by decide)))).symm
              have m509 := m498.trans (Wr.neR wH502 (Or.inr (x_apart hKT hts inX0 tyX0 tyX0_ok nmX0 rfl 7 8 (by decide) (by decide) (by decide)))).symm
              have m510 := m499.trans (Wr.neI wH502 (Or.inl (G_ne gq489 ga1 (by decide)))).symm
              have m511 := Wr.I wH502
              have m511 := m511.symm
              refine lv_aload_n hx hb dX9_takeOff_80 rfl (lv_at hl 1 rfl) ?_
              refine x_gi C hTH502 (ci := 0) (k := 9) rfl inX0 (by decide) wF_X9_197 ga1 rg_1 rfl dX9_takeOff_81 (fun x512 ex512 bx512 => ?_)
              refine lv_if_ne (tgt := 103) hx hb dX9_takeOff_84 (by decide) (fun c513 => ?_) (fun c513 => ?_)
              · have k514 := i_ne c513
                exact J103 ls H502 locsH502 (lv_sub hl [1] rfl) hTH502 hSH502 f503
              · have k514 := i_eq c513
                refine lv_aload_n hx hb dX9_takeOff_87 rfl (lv_at hl 0 rfl) ?_
                refine lv_aload_n hx hb dX9_takeOff_88 rfl (lv_at hl 1 rfl) ?_
                refine x_V (As := [.ref a1]) (rest := []) C (a_X9_isLost l K G H502  hTH502 ga0 ga1) yo_X9_isLost wM_X9_190 ⟨⟨by decide, by decide⟩, by decide, by decide⟩ (x_rv C hTH502 (ci := 9) rfl ga0 rg_68) rfl hl.1 rfl (Nat.le_of_ble_eq_true rfl) dX9_takeOff_89 hSH502 (AE_sub (fun _ _ => rfl) (by decide) hSH502.1) (fun vH515 H515 locsH515 pH515 zH515 kH515 hSH515 => ?_)
                obtain ⟨⟨x516, hvH515, bx516⟩, hTH515⟩ := pH515
                subst hvH515
                have f517 : ∀ q : Nat, G q = some 1 → fI H515 q (K.1.2 0 0) = fI s.heap q (K.1.2 0 0) := fun q hq => (fI_kept (x_lt hTH502 kH515 hq (by decide))).trans (f503 q hq)
                have m518 := (m504).trans (fR_kept (x_lt hTH502 kH515 ga1 (by decide))).symm
                have m519 := (m506).trans (fI_kept (x_lt hTH502 kH515 gq464 (by decide))).symm
                have m520 := (m507).trans (fR_kept (x_lt hTH502 kH515 ga1 (by decide))).symm
                have m521 := (m508).trans (fI_kept (x_lt hTH502 kH515 gq480 (by decide))).symm
                have m522 := (m509).trans (fR_kept (x_lt hTH502 kH515 ga1 (by decide))).symm
                have m523 := (m510).trans (fI_kept (x_lt hTH502 kH515 gq489 (by decide))).symm
                have m524 := (m511).trans (fI_kept (x_lt hTH502 kH515 ga1 (by decide))).symm
                have m525 := (ex512).trans (fI_kept (x_lt hTH502 kH515 ga1 (by decide))).symm
                refine W.eq (g2 := F0 m 92 ls [.int x516]) rfl ?_
                refine lv_if_eq (tgt := 103) hx hb dX9_takeOff_92 (by decide) (fun c526 => ?_) (fun c526 => ?_)
                · have k527 := i_eq c526
                  exact J103 ls H515 locsH515 (lv_sub hl [1] rfl) hTH515 hSH515 f517
                · have k527 := i_ne c526
                  refine lv_aload_n hx hb dX9_takeOff_95 rfl (lv_at hl 1 rfl) ?_
                  refine lv_aload_n hx hb dX9_takeOff_96 rfl (lv_at hl 1 rfl) ?_
                  refine x_gi C hTH515 (ci := 0) (k := 8) rfl inX0 (by decide) wF_X9_86 ga1 rg_1 rfl dX9_takeOff_97 (fun x528 ex528 bx528 => ?_)
                  have ux528 : x501 = x528 := (m524).trans ex528.symm
                  subst ux528
                  refine x_put C hTH515 hSH515 (ci := 0) (k := 9) (v := .int x501) (ty0 := tyX0) rfl inX0 tyX0_ok nmX0 (by decide) rfl wF_X9_197 ga1 rg_1 rfl rfl (okI (by have := i_rng x501; omega) (by have := i_rng x501; omega)) rfl rfl (AE_in ga1 (by decide)) dX9_takeOff_100 (fun H529 locsH529 hTH529 hSH529 wH529 => ?_)
                  have f530 : ∀ q : Nat, G q = some 1 → fI H529 q (K.1.2 0 0) = fI s.heap q (K.1.2 0 0) := fun q hq => (Wr.neI wH529 (Or.inr (x_apart hKT hts inX0 tyX0 tyX0_ok nmX0 rfl 0 9 (by decide) (by decide) (by decide)))).trans (f517 q hq)
                  have m531 := m518.trans (Wr.neR wH529 (Or.inr (x_apart hKT hts inX0 tyX0 tyX0_ok nmX0 rfl 1 9 (by decide) (by decide) (by decide)))).symm
                  have m532 := m519.trans (Wr.neI wH529 (Or.inl (G_ne gq464 ga1 (by decide)))).symm
                  have m533 := m520.trans (Wr.neR wH529 (Or.inr (x_apart hKT hts inX0 tyX0 tyX0_ok nmX0 rfl 6 9 (by decide) (by decide) (by decide)))).symm
                  have m534 := m521.trans (Wr.neI wH529 (Or.inl (G_ne gq480 ga1 (by decide)))).symm
                  have m535 := m522.trans (Wr.neR wH529 (Or.inr (x_apart hKT hts inX0 tyX0 tyX0_ok nmX0 rfl 7 9 (by decide) (by decide) (by decide)))).symm
                  have m536 := m523.trans (Wr.neI wH529 (Or.inl (G_ne gq489 ga1 (by decide)))).symm
                  have m537 := m524.trans (Wr.neI wH529 (Or.inr (x_apart hKT hts inX0 tyX0 tyX0_ok nmX0 rfl 8 9 (by decide) (by decide) (by decide)))).symm
                  have m539 := Wr.I wH529
                  have m539 := m539.symm
                  exact J103 ls H529 locsH529 (lv_sub hl [1] rfl) hTH529 hSH529 f530
            · have k470 := i_nlt c469
              exact J38 ls s.heap locsH461 (lv_sub hl [] rfl) hT hSH461 f0_rf
      · subst hvH461
        refine W.eq (g2 := F0 m 15 ls [.int 0]) rfl ?_
        refine lv_if_eq (tgt := 38) hx hb dX9_takeOff_15 (by decide) (fun c540 => ?_) (fun c540 => ?_)
        · have k541 := i_eq c540
          exact J38 ls s.heap locsH461 (lv_sub hl [] rfl) hT hSH461 f0_rf
        · have k541 := i_ne c540
          exfalso
          omega
  · subst hvH458
    refine W.eq (g2 := F0 m 5 ls [.int 0]) rfl ?_
    refine lv_if_eq (tgt := 38) hx hb dX9_takeOff_5 (by decide) (fun c542 => ?_) (fun c542 => ?_)
    · have k543 := i_eq c542
      exact J38 ls s.heap locsH458 (lv_sub hl [] rfl) hT hSH458 f0_rf
    · have k543 := i_ne c542
      exfalso
      omega

set_option maxHeartbeats 4000000 in
set_option maxRecDepth 100000 in
theorem a_X9_doLine_q (l : Launch) (K : KE) (G : Nat → Option Nat) (H : Heap) {a0 : Nat} {a1 : Nat} (x2 : Int32) {a3 : Nat} (hT : TY K G H) (ga0 : G a0 = some 68) (ga1 : G a1 = some 16) (hx2 : 0 ≤ x2.toInt ∧ x2.toInt ≤ 15) (ga3 : G a3 = some 1) : MX l K yX9_doLine cX9_doLine 9 none 6 149 0 0 [.ref a0, .ref a1, .int x2, .ref a3] H (AE G [1, 2, 7, 8, 83, 84, 5] H.size) (fun v H1 => v = none ∧ (∀ q : Nat, G q = some 1 → fI H1 q (K.1.2 0 0) = fI H q (K.1.2 0 0)) ∧ TY K G H1) := by
  refine MX.of (by decide +kernel) (Nat.le_of_ble_eq_true rfl) ?_
  intro p e s m below meth c ls Q C hH hl hQ
  subst hH
  have C : CX p K s m _ meth c RX9 cX9_doLine 9 none "doLine" := C
  obtain ⟨hx, hb, hml, hown, hts, hKT, hr, hlocks, hnm⟩ := id C
  have hl : lv_has ls 9 [(0, .ref a0), (1, .ref a1), (2, .int x2), (3, .ref a3)] := hl
  have hS : va_S (AE G [1, 2, 7, 8, 83, 84, 5] s.heap.size) s.heap s.heap [] := va_S.rf
  have n_0 : (0 : Int32).toInt = 0 := rfl
  have n_1 : (1 : Int32).toInt = 1 := rfl
  have n_2 : (2 : Int32).toInt = 2 := rfl
  have n_4 : (4 : Int32).toInt = 4 := rfl
  have n_6 : (6 : Int32).toInt = 6 := rfl
  have f0_rf : ∀ q : Nat, G q = some 1 → fI s.heap q (K.1.2 0 0) = fI s.heap q (K.1.2 0 0) := fun _ _ => rfl
  have J137 : ∀ (ls394 : Array Slot) (H393 : Heap) (locsH393 : List Loc) , lv_has ls394 9 [] → TY K G H393 → va_S (AE G [1, 2, 7, 8, 83, 84, 5] s.heap.size) s.heap H393 locsH393 → (∀ q : Nat, G q = some 1 → fI H393 q (K.1.2 0 0) = fI s.heap q (K.1.2 0 0)) → W p l e ({ frames := 6, cells := 0, slots := 0, locals := 149 } : Room) s m (([.ref a0, .ref a1, .int x2, .ref a3] : List Value).toArray) below meth c H393 locsH393 0 0 Q (F0 m 137 ls394 []) := by
    intro ls394 H393 locsH393  hl395 hTH393 hSH393 fy396_rf
    exact x_vret C hQ dX9_doLine_137 hSH393 (by decide) (by decide) (⟨rfl, fy396_rf, hTH393⟩)
  have J105 : ∀ (nf : Nat) (ls398 : Array Slot) (H397 : Heap) (locsH397 : List Loc) (x400 : Int32) (x401 : Int32) (x402 : Int32) (x403 : Int32), lv_has ls398 9 [(0, .ref a0), (3, .ref a3), (5, .int x400), (6, .int x401), (7, .int x402), (8, .int x403)] → TY K G H397 → va_S (AE G [1, 2, 7, 8, 83, 84, 5] s.heap.size) s.heap H397 locsH397 → ((-2147483648) ≤ x401.toInt ∧ x401.toInt ≤ 15) → (∀ q : Nat, G q = some 1 → fI H397 q (K.1.2 0 0) = fI s.heap q (K.1.2 0 0)) → (2147483647 - x403.toInt < (nf : Int)) → W p l e ({ frames := 6, cells := 0, slots := 0, locals := 149 } : Room) s m (([.ref a0, .ref a1, .int x2, .ref a3] : List Value).toArray) below meth c H397 locsH397 0 0 Q (F0 m 105 ls398 []) := by
    intro nf
    induction nf with
    | zero =>
      intro ls398 H397 locsH397 x400 x401 x402 x403 hl399 hTH397 hSH397 bx401 fy404_rf hm105
      have rx400 := i_rng x400
      have rx402 := i_rng x402
      have rx403 := i_rng x403
      exfalso
      omega
    | succ nf ih105 =>
      intro ls398 H397 locsH397 x400 x401 x402 x403 hl399 hTH397 hSH397 bx401 fy404_rf hm105
      have rx400 := i_rng x400
      have rx402 := i_rng x402
      have rx403 := i_rng x403
      refine lv_iload hx hb dX9_doLine_105 (lv_at hl399 5 rfl) ?_
      refine lv_iload hx hb dX9_doLine_107 (lv_at hl399 3 rfl) ?_
      refine lv_icmp_gt (tgt := 137) hx hb dX9_doLine_109 (by decide) (fun c405 => ?_) (fun c405 => ?_)
      · have k406 := i_lt c405
        exact J137 ls398 H397 locsH397 (lv_sub hl399 [] rfl) hTH397 hSH397 fy404_rf
      · have k406 := i_nlt c405
        refine lv_aload_n hx hb dX9_doLine_112 rfl (lv_at hl399 0 rfl) ?_
        refine lv_aload_n hx hb dX9_doLine_113 rfl (lv_at hl399 1 rfl) ?_
        refine lv_iload hx hb dX9_doLine_114 (lv_at hl399 5 rfl) ?_
        refine lv_iload hx hb dX9_doLine_116 (lv_at hl399 2 rfl) ?_
        refine lv_iload hx hb dX9_doLine_118 (lv_at hl399 5 rfl) ?_
        refine lv_iload hx hb dX9_doLine_120 (lv_at hl399 4 rfl) ?_
        refine lv_isub hx hb dX9_doLine_122 ?_
        refine lv_topi (fun x407 ex407 => ?_)
        refine va_mabs hx hb (hml.trans hl399.1.symm) hown (hts _ wM_X9_362) (hts _ wST_J9_abs_0f7a4) (hts _ wIN_J9) (hts _ wCD_J9_abs_0f7a4) (by decide) (Nat.le_of_ble_eq_true rfl) (by decide) (by decide) dX9_doLine_123 ?_
        refine lv_topi (fun x408 ex408 => ?_)
        refine lv_isub hx hb dX9_doLine_126 ?_
        refine lv_topi (fun x409 ex409 => ?_)
        refine x_V (As := [.ref a3, .int x403, .int x409]) (rest := []) C (a_X9_takeOff_q l K G H397 (x403) (x409) hTH397 ga0 ga3) yo_X9_takeOff wM_X9_170 ⟨⟨by decide, by decide⟩, by decide, by decide⟩ (x_rv C hTH397 (ci := 9) rfl ga0 rg_68) rfl hl399.1 rfl (Nat.le_of_ble_eq_true rfl) dX9_doLine_127 hSH397 (AE_sub (fun _ _ => rfl) (by decide) hSH397.1) (fun vH410 H410 locsH410 pH410 zH410 kH410 hSH410 => ?_)
        obtain ⟨x411, hvH410, m412, hTH410⟩ := pH410
        subst hvH410
        have f413 : ∀ q : Nat, G q = some 1 → fI H410 q (K.1.2 0 0) = fI s.heap q (K.1.2 0 0) := fun q hq => (m412 q hq).trans (fy404_rf q hq)
        refine W.eq (g2 := F0 m 130 ls398 [.int x411]) rfl ?_
        refine lv_pop hx hb dX9_doLine_130 rfl ?_
        obtain ⟨x414, ex414⟩ : ∃ y : Int32, y = x403 + 1 := ⟨_, rfl⟩
        have tx414 := i_add ex414 (by omega)
        refine lv_iinc (v := x414) (lv' := [(8, .int x414), (0, .ref a0), (3, .ref a3), (5, .int x400), (6, .int x401), (7, .int x402)]) hx hb dX9_doLine_131 hl399 (k := 5) rfl (by rw [ex414]; rfl) (by decide) rfl (fun ls415 hl416 => ?_)
        refine lv_goto (tgt := 105) hx hb dX9_doLine_134 (by decide) ?_
        exact ih105 ls415 H410 locsH410 (x400) (x401) (x402) (x414) (lv_sub hl416 [1, 2, 3, 4, 5, 0] rfl) hTH410 hSH410 (by have := i_rng x401; omega) f413 (by omega)
  refine lv_aload_n hx hb dX9_doLine_0 rfl (lv_at hl 1 rfl) ?_
  refine x_gr C hT (ci := 7) (k := 2) rfl inX7 (by decide) wF_X9_383 ga1 rg_16 rfl dX9_doLine_1 (fun q417 eq417 gq417 => ?_)
  refine lv_iload_n hx hb dX9_doLine_4 rfl (lv_at hl 2 rfl) ?_
  refine x_ai C hT gq417 rg_18 ⟨by omega, by show _ < ((16 : Nat) : Int); omega⟩ dX9_doLine_5 (fun x418 ex418 bx418 => ?_)
  refine lv_istore (lv' := [(4, .int x418), (0, .ref a0), (1, .ref a1), (2, .int x2), (3, .ref a3)]) hx hb dX9_doLine_6 hl (by decide) rfl (fun ls419 hl420 => ?_)
  refine lv_aload_n hx hb dX9_doLine_8 rfl (lv_at hl420 2 rfl) ?_
  refine x_gr C hT (ci := 7) (k := 4) rfl inX7 (by decide) wF_X9_386 ga1 rg_16 rfl dX9_doLine_9 (fun q421 eq421 gq421 => ?_)
  refine lv_iload_n hx hb dX9_doLine_12 rfl (lv_at hl420 3 rfl) ?_
  refine x_ai C hT gq421 rg_20 ⟨by omega, by show _ < ((16 : Nat) : Int); omega⟩ dX9_doLine_13 (fun x422 ex422 bx422 => ?_)
  refine lv_istore (lv' := [(5, .int x422), (4, .int x418), (0, .ref a0), (1, .ref a1), (2, .int x2), (3, .ref a3)]) hx hb dX9_doLine_14 hl420 (by decide) rfl (fun ls423 hl424 => ?_)
  refine lv_aload_n hx hb dX9_doLine_16 rfl (lv_at hl424 3 rfl) ?_
  refine x_gr C hT (ci := 7) (k := 1) rfl inX7 (by decide) wF_X9_389 ga1 rg_16 rfl dX9_doLine_17 (fun q425 eq425 gq425 => ?_)
  refine lv_iload_n hx hb dX9_doLine_20 rfl (lv_at hl424 4 rfl) ?_
  refine x_ai C hT gq425 rg_17 ⟨by omega, by show _ < ((16 : Nat) : Int); omega⟩ dX9_doLine_21 (fun x426 ex426 bx426 => ?_)
  refine lv_bipush (v := 6) hx hb dX9_doLine_22 (by decide) ?_
  refine lv_icmp_ne (tgt := 48) hx hb dX9_doLine_24 (by decide) (fun c427 => ?_) (fun c427 => ?_)
  · have k428 := i_ne c427
    refine lv_aload_n hx hb dX9_doLine_48 rfl (lv_at hl424 3 rfl) ?_
    refine x_gr C hT (ci := 7) (k := 1) rfl inX7 (by decide) wF_X9_389 ga1 rg_16 rfl dX9_doLine_49 (fun q429 eq429 gq429 => ?_)
    have uq429 : q425 = q429 := (eq425).trans eq429.symm
    subst uq429
    refine lv_iload_n hx hb dX9_doLine_52 rfl (lv_at hl424 4 rfl) ?_
    refine x_ai C hT gq425 rg_17 ⟨by omega, by show _ < ((16 : Nat) : Int); omega⟩ dX9_doLine_53 (fun x430 ex430 bx430 => ?_)
    have ux430 : x426 = x430 := (ex426).trans ex430.symm
    subst ux430
    refine lv_iconst (v := 4) hx hb dX9_doLine_54 (by decide) ?_
    refine lv_icmp_ne (tgt := 71) hx hb dX9_doLine_55 (by decide) (fun c431 => ?_) (fun c431 => ?_)
    · have k432 := i_ne c431
      refine lv_aload_n hx hb dX9_doLine_71 rfl (lv_at hl424 3 rfl) ?_
      refine x_gr C hT (ci := 7) (k := 3) rfl inX7 (by decide) wF_X9_392 ga1 rg_16 rfl dX9_doLine_72 (fun q433 eq433 gq433 => ?_)
      refine lv_iload_n hx hb dX9_doLine_75 rfl (lv_at hl424 4 rfl) ?_
      refine x_ai C hT gq433 rg_19 ⟨by omega, by show _ < ((16 : Nat) : Int); omega⟩ dX9_doLine_76 (fun x434 ex434 bx434 => ?_)
      refine lv_aload_n hx hb dX9_doLine_77 rfl (lv_at hl424 5 rfl) ?_
      refine x_gi C hT (ci := 0) (k := 0) rfl inX0 (by decide) wF_X9_187 ga3 rg_1 rfl dX9_doLine_78 (fun x435 ex435 bx435 => ?_)
      refine lv_iconst (v := 1) hx hb dX9_doLine_81 (by decide) ?_
      refine lv_isub hx hb dX9_doLine_82 ?_
      refine lv_topi (fun x436 ex436 => ?_)
      have tx436 := i_sub ex436 (by omega)
      refine va_mmin hx hb (hml.trans hl424.1.symm) hown (hts _ wM_X9_395) (hts _ wST_J9_min_7cf53) (hts _ wIN_J9) (hts _ wCD_J9_min_7cf53) (by decide) (Nat.le_of_ble_eq_true rfl) (by decide) (by decide) dX9_doLine_83 ?_
      refine lv_topi (fun x437 ex437 => ?_)
      have tx437 := i_min ex437
      refine lv_istore (lv' := [(6, .int x437), (5, .int x422), (4, .int x418), (0, .ref a0), (1, .ref a1), (2, .int x2), (3, .ref a3)]) hx hb dX9_doLine_86 hl424 (by decide) rfl (fun ls438 hl439 => ?_)
      refine lv_iload hx hb dX9_doLine_88 (lv_at hl439 2 rfl) ?_
      refine lv_aload_n hx hb dX9_doLine_90 rfl (lv_at hl439 4 rfl) ?_
      refine x_gr C hT (ci := 7) (k := 3) rfl inX7 (by decide) wF_X9_392 ga1 rg_16 rfl dX9_doLine_91 (fun q440 eq440 gq440 => ?_)
      have uq440 : q433 = q440 := (eq433).trans eq440.symm
      subst uq440
      refine lv_iload_n hx hb dX9_doLine_94 rfl (lv_at hl439 5 rfl) ?_
      refine x_ai C hT gq433 rg_19 ⟨by omega, by show _ < ((16 : Nat) : Int); omega⟩ dX9_doLine_95 (fun x441 ex441 bx441 => ?_)
      have ux441 : x434 = x441 := (ex434).trans ex441.symm
      subst ux441
      refine lv_iadd hx hb dX9_doLine_96 ?_
      refine lv_topi (fun x442 ex442 => ?_)
      refine lv_iconst (v := 2) hx hb dX9_doLine_97 (by decide) ?_
      refine lv_idiv hx hb dX9_doLine_98 (fun h => by have := i_eq h; omega) ?_
      refine lv_topi (fun x443 ex443 => ?_)
      refine lv_istore (lv' := [(7, .int x443), (6, .int x437), (5, .int x422), (4, .int x418), (0, .ref a0), (1, .ref a1), (2, .int x2), (3, .ref a3)]) hx hb dX9_doLine_99 hl439 (by decide) rfl (fun ls444 hl445 => ?_)
      refine lv_iload hx hb dX9_doLine_101 (lv_at hl445 3 rfl) ?_
      refine lv_istore (lv' := [(8, .int x418), (7, .int x443), (6, .int x437), (5, .int x422), (4, .int x418), (0, .ref a0), (1, .ref a1), (2, .int x2), (3, .ref a3)]) hx hb dX9_doLine_103 hl445 (by decide) rfl (fun ls446 hl447 => ?_)
      exact J105 ((2147483647 - x418.toInt).toNat + 1) ls446 s.heap [] (x422) (x437) (x443) (x418) (lv_sub hl447 [5, 8, 3, 2, 1, 0] rfl) hT hS (by have := i_rng x437; omega) f0_rf (by omega)
    · have k432 := i_eq c431
      refine lv_aload_n hx hb dX9_doLine_58 rfl (lv_at hl424 2 rfl) ?_
      refine lv_aload_n hx hb dX9_doLine_59 rfl (lv_at hl424 5 rfl) ?_
      refine lv_iload hx hb dX9_doLine_60 (lv_at hl424 1 rfl) ?_
      refine lv_iload hx hb dX9_doLine_62 (lv_at hl424 0 rfl) ?_
      refine x_V (As := [.ref a3, .int x418, .int x422]) (rest := []) C (a_X9_takeOff_q l K G s.heap (x418) (x422) hT ga0 ga3) yo_X9_takeOff wM_X9_170 ⟨⟨by decide, by decide⟩, by decide, by decide⟩ (x_rv C hT (ci := 9) rfl ga0 rg_68) rfl hl424.1 rfl (Nat.le_of_ble_eq_true rfl) dX9_doLine_64 hS (AE_sub (fun _ _ => rfl) (by decide) hS.1) (fun vH448 H448 locsH448 pH448 zH448 kH448 hSH448 => ?_)
      obtain ⟨x449, hvH448, m450, hTH448⟩ := pH448
      subst hvH448
      have m451 := (eq417).trans (fR_kept (x_lt hT kH448 ga1 (by decide))).symm
      have m452 := (ex418).trans (fI_kept (x_lt hT kH448 gq417 (by decide))).symm
      have m453 := (eq421).trans (fR_kept (x_lt hT kH448 ga1 (by decide))).symm
      have m454 := (ex422).trans (fI_kept (x_lt hT kH448 gq421 (by decide))).symm
      have m455 := (eq425).trans (fR_kept (x_lt hT kH448 ga1 (by decide))).symm
      have m456 := (ex426).trans (fI_kept (x_lt hT kH448 gq425 (by decide))).symm
      have f457 : ∀ q : Nat, G q = some 1 → fI H448 q (K.1.2 0 0) = fI s.heap q (K.1.2 0 0) := fun q hq => (m450 q hq).trans (f0_rf q hq)
      refine W.eq (g2 := F0 m 67 ls423 [.int x449]) rfl ?_
      refine lv_pop hx hb dX9_doLine_67 rfl ?_
      refine lv_goto (tgt := 137) hx hb dX9_doLine_68 (by decide) ?_
      exact J137 ls423 H448 locsH448 (lv_sub hl424 [] rfl) hTH448 hSH448 f457
  · have k428 := i_eq c427
    refine lv_aload_n hx hb dX9_doLine_27 rfl (lv_at hl424 5 rfl) ?_
    refine lv_iload hx hb dX9_doLine_28 (lv_at hl424 1 rfl) ?_
    refine x_V (As := [.int x418]) (rest := []) C (a_X0_has l K G s.heap (x418) hT ga3) yo_X0_has wM_X9_82 ⟨⟨by decide, by decide⟩, by decide, by decide⟩ (x_rv C hT (ci := 0) rfl ga3 rg_1) rfl hl424.1 rfl (Nat.le_of_ble_eq_true rfl) dX9_doLine_30 hS (AE_sub (fun _ _ => rfl) (by decide) hS.1) (fun vH458 H458 locsH458 pH458 zH458 kH458 hSH458 => ?_)
    have hqH458 := pH458.1.symm
    subst hqH458
    rcases pH458.2 with ⟨hvH458, hcH458⟩ | hvH458
    · subst hvH458
      refine W.eq (g2 := F0 m 33 ls423 [.int 1]) rfl ?_
      refine lv_if_eq (tgt := 137) hx hb dX9_doLine_33 (by decide) (fun c459 => ?_) (fun c459 => ?_)
      · have k460 := i_eq c459
        exfalso
        omega
      · have k460 := i_ne c459
        refine lv_aload_n hx hb dX9_doLine_36 rfl (lv_at hl424 5 rfl) ?_
        refine x_gr C hT (ci := 0) (k := 4) rfl inX0 (by decide) wF_X9_102 ga3 rg_1 rfl dX9_doLine_37 (fun q461 eq461 gq461 => ?_)
        refine lv_iload hx hb dX9_doLine_40 (lv_at hl424 1 rfl) ?_
        refine lv_iload hx hb dX9_doLine_42 (lv_at hl424 0 rfl) ?_
        refine x_iast C hT hSH458 gq461 rg_5 (by omega) (by show _ < ((16 : Nat) : Int); omega) ⟨by have := i_rng x422; omega, by have := i_rng x422; omega⟩ (AE_in gq461 (by decide)) dX9_doLine_44 (fun H462 locsH462 hTH462 hSH462 wH462 => ?_)
        have f463 : ∀ q : Nat, G q = some 1 → fI H462 q (K.1.2 0 0) = fI s.heap q (K.1.2 0 0) := fun q hq => (Wr.neI wH462 (Or.inl (G_ne hq gq461 (by decide)))).trans (f0_rf q hq)
        have m464 := eq417.trans (Wr.neR wH462 (Or.inl (G_ne ga1 gq461 (by decide)))).symm
        have m465 := ex418.trans (Wr.neI wH462 (Or.inl (G_ne gq417 gq461 (by decide)))).symm
        have m466 := eq421.trans (Wr.neR wH462 (Or.inl (G_ne ga1 gq461 (by decide)))).symm
        have m467 := ex422.trans (Wr.neI wH462 (Or.inl (G_ne gq421 gq461 (by decide)))).symm
        have m468 := eq425.trans (Wr.neR wH462 (Or.inl (G_ne ga1 gq461 (by decide)))).symm
        have m469 := ex426.trans (Wr.neI wH462 (Or.inl (G_ne gq425 gq461 (by decide)))).symm
        have m470 := eq461.trans (Wr.neR wH462 (Or.inl (G_ne ga3 gq461 (by decide)))).symm
        have m471 := Wr.I wH462
        have m471 := m471.symm
        refine lv_goto (tgt := 137) hx hb dX9_doLine_45 (by decide) ?_
        exact J137 ls423 H462 locsH462 (lv_sub hl424 [] rfl) hTH462 hSH462 f463
    · subst hvH458
      refine W.eq (g2 := F0 m 33 ls423 [.int 0]) rfl ?_
      refine lv_if_eq (tgt := 137) hx hb dX9_doLine_33 (by decide) (fun c472 => ?_) (fun c472 => ?_)
      · have k473 := i_eq c472
        exact J137 ls423 s.heap locsH458 (lv_sub hl424 [] rfl) hT hSH458 f0_rf
      · have k473 := i_ne c472
        exfalso
        omega

set_option maxHeartbeats 4000000 in
set_option maxRecDepth 100000 in
theorem a_X9_shave_q (l : Launch) (K : KE) (G : Nat → Option Nat) (H : Heap) {a0 : Nat} (x1 : Int32) (x2 : Int32) (x3 : Int32) (hT : TY K G H) (ga0 : G a0 = some 68) : MX l K yX9_shave cX9_shave 5 (some .int) 6 149 0 0 [.ref a0, .int x1, .int x2, .int x3] H (AE G [1, 2, 7, 8, 83, 84] H.size) (fun v H1 => ∃ (r : Int32), v = some (.int r) ∧ (∀ q : Nat, G q = some 1 → fI H1 q (K.1.2 0 0) = fI H q (K.1.2 0 0)) ∧ TY K G H1) := by
  refine MX.of (by decide +kernel) (Nat.le_of_ble_eq_true rfl) ?_
  intro p e s m below meth c ls Q C hH hl hQ
  subst hH
  have C : CX p K s m _ meth c RX9 cX9_shave 5 (some .int) "shave" := C
  obtain ⟨hx, hb, hml, hown, hts, hKT, hr, hlocks, hnm⟩ := id C
  have hl : lv_has ls 5 [(0, .ref a0), (1, .int x1), (2, .int x2), (3, .int x3)] := hl
  have hS : va_S (AE G [1, 2, 7, 8, 83, 84] s.heap.size) s.heap s.heap [] := va_S.rf
  have n_m1 : ((-1) : Int32).toInt = -1 := rfl
  have f0_rf : ∀ q : Nat, G q = some 1 → fI s.heap q (K.1.2 0 0) = fI s.heap q (K.1.2 0 0) := fun _ _ => rfl
  refine lv_aload_n hx hb dX9_shave_0 rfl (lv_at hl 0 rfl) ?_
  refine lv_iload_n hx hb dX9_shave_1 rfl (lv_at hl 1 rfl) ?_
  refine x_V (As := [.int x1]) (rest := []) C (a_X9_barAt l K G s.heap (x1) hT ga0) yo_X9_barAt wM_X9_78 ⟨⟨by decide, by decide⟩, by decide, by decide⟩ (x_rv C hT (ci := 9) rfl ga0 rg_68) rfl hl.1 rfl (Nat.le_of_ble_eq_true rfl) dX9_shave_2 hS (AE_sub (fun _ _ => rfl) (by decide) hS.1) (fun vH145 H145 locsH145 pH145 zH145 kH145 hSH145 => ?_)
  have hTH145 := pH145.2
  have f146 : ∀ q : Nat, G q = some 1 → fI H145 q (K.1.2 0 0) = fI s.heap q (K.1.2 0 0) := fun q hq => (fI_kept (x_lt hT kH145 hq (by decide))).trans (f0_rf q hq)
  rcases pH145.1 with hvH145 | ⟨q147, hvH145, gq147⟩
  · skip
    subst hvH145
    refine W.eq (g2 := F0 m 5 ls [.null]) rfl ?_
    refine lv_astoreN (lv' := [(4, .null), (0, .ref a0), (1, .int x1), (2, .int x2), (3, .int x3)]) hx hb dX9_shave_5 hl (by decide) rfl (fun ls148 hl149 => ?_)
    refine lv_aloadN hx hb dX9_shave_7 (lv_at hl149 0 rfl) ?_
    refine lv_ifnonnullN hx hb dX9_shave_9 ?_
    refine lv_iconst (v := (-1)) hx hb dX9_shave_12 (by decide) ?_
    exact x_iret C hQ dX9_shave_13 hSH145 (by decide) (by decide) (⟨(-1), rfl, f146, hTH145⟩)
  · skip
    subst hvH145
    refine W.eq (g2 := F0 m 5 ls [.ref q147]) rfl ?_
    refine lv_astore (lv' := [(4, .ref q147), (0, .ref a0), (1, .int x1), (2, .int x2), (3, .int x3)]) hx hb dX9_shave_5 hl (by decide) rfl (fun ls150 hl151 => ?_)
    refine lv_aload hx hb dX9_shave_7 (lv_at hl151 0 rfl) ?_
    refine lv_ifnonnull (tgt := 14) hx hb dX9_shave_9 (by decide) ?_
    refine lv_aload_n hx hb dX9_shave_14 rfl (lv_at hl151 1 rfl) ?_
    refine lv_aload hx hb dX9_shave_15 (lv_at hl151 0 rfl) ?_
    refine lv_iload_n hx hb dX9_shave_17 rfl (lv_at hl151 3 rfl) ?_
    refine lv_iload_n hx hb dX9_shave_18 rfl (lv_at hl151 4 rfl) ?_
    refine x_V (As := [.ref q147, .int x2, .int x3]) (rest := []) C (a_X9_takeOff_q l K G H145 (x2) (x3) hTH145 ga0 gq147) yo_X9_takeOff wM_X9_170 ⟨⟨by decide, by decide⟩, by decide, by decide⟩ (x_rv C hTH145 (ci := 9) rfl ga0 rg_68) rfl hl151.1 rfl (Nat.le_of_ble_eq_true rfl) dX9_shave_19 hSH145 (AE_sub (fun _ _ => rfl) (by decide) hSH145.1) (fun vH152 H152 locsH152 pH152 zH152 kH152 hSH152 => ?_)
    obtain ⟨x153, hvH152, m154, hTH152⟩ := pH152
    subst hvH152
    have f155 : ∀ q : Nat, G q = some 1 → fI H152 q (K.1.2 0 0) = fI s.heap q (K.1.2 0 0) := fun q hq => (m154 q hq).trans (f146 q hq)
    refine W.eq (g2 := F0 m 22 ls150 [.int x153]) rfl ?_
    exact x_iret C hQ dX9_shave_22 hSH152 (by decide) (by decide) (⟨x153, rfl, f155, hTH152⟩)

set_option maxHeartbeats 4000000 in
set_option maxRecDepth 100000 in
theorem a_X9_job_q (l : Launch) (K : KE) (G : Nat → Option Nat) (H : Heap) {a0 : Nat} (x1 : Int32) (x2 : Int32) (hT : TY K G H) (ga0 : G a0 = some 68) : MX l K yX9_job cX9_job 7 (some .int) 7 177 0 0 [.ref a0, .int x1, .int x2] H (AE G [1, 2, 7, 8, 83, 84, 5] H.size) (fun v H1 => ∃ (r : Int32), v = some (.int r) ∧ (∀ q : Nat, G q = some 1 → fI H1 q (K.1.2 0 0) = fI H q (K.1.2 0 0)) ∧ TY K G H1) := by
  refine MX.of (by decide +kernel) (Nat.le_of_ble_eq_true rfl) ?_
  intro p e s m below meth c ls Q C hH hl hQ
  subst hH
  have C : CX p K s m _ meth c RX9 cX9_job 7 (some .int) "job" := C
  obtain ⟨hx, hb, hml, hown, hts, hKT, hr, hlocks, hnm⟩ := id C
  have hl : lv_has ls 7 [(0, .ref a0), (1, .int x1), (2, .int x2)] := hl
  have hS : va_S (AE G [1, 2, 7, 8, 83, 84, 5] s.heap.size) s.heap s.heap [] := va_S.rf
  have n_m1 : ((-1) : Int32).toInt = -1 := rfl
  have n_0 : (0 : Int32).toInt = 0 := rfl
  have n_1 : (1 : Int32).toInt = 1 := rfl
  have n_3 : (3 : Int32).toInt = 3 := rfl
  have f0_rf : ∀ q : Nat, G q = some 1 → fI s.heap q (K.1.2 0 0) = fI s.heap q (K.1.2 0 0) := fun _ _ => rfl
  have J19 : ∀ (ls599 : Array Slot) (H598 : Heap) (locsH598 : List Loc) , lv_has ls599 7 [] → TY K G H598 → va_S (AE G [1, 2, 7, 8, 83, 84, 5] s.heap.size) s.heap H598 locsH598 → (∀ q : Nat, G q = some 1 → fI H598 q (K.1.2 0 0) = fI s.heap q (K.1.2 0 0)) → W p l e ({ frames := 7, cells := 0, slots := 0, locals := 177 } : Room) s m (([.ref a0, .int x1, .int x2] : List Value).toArray) below meth c H598 locsH598 0 0 Q (F0 m 19 ls599 []) := by
    intro ls599 H598 locsH598  hl600 hTH598 hSH598 fy601_rf
    refine lv_iconst (v := (-1)) hx hb dX9_job_19 (by decide) ?_
    exact x_iret C hQ dX9_job_20 hSH598 (by decide) (by decide) (⟨(-1), rfl, fy601_rf, hTH598⟩)
  have J41 : ∀ (nf : Nat) (ls603 : Array Slot) (H602 : Heap) (locsH602 : List Loc) (q605 : Nat) (x606 : Int32) (q607 : Nat) (x608 : Int32), lv_has ls603 7 [(0, .ref a0), (3, .ref q605), (4, .int x606), (5, .ref q607), (6, .int x608)] → TY K G H602 → va_S (AE G [1, 2, 7, 8, 83, 84, 5] s.heap.size) s.heap H602 locsH602 → (G q605 = some 1) → (0 ≤ x606.toInt ∧ x606.toInt ≤ 200) → (G q607 = some 16) → (0 ≤ x608.toInt ∧ x608.toInt ≤ 16) → (∀ q : Nat, G q = some 1 → fI H602 q (K.1.2 0 0) = fI s.heap q (K.1.2 0 0)) → (16 - x608.toInt < (nf : Int)) → W p l e ({ frames := 7, cells := 0, slots := 0, locals := 177 } : Room) s m (([.ref a0, .int x1, .int x2] : List Value).toArray) below meth c H602 locsH602 0 0 Q (F0 m 41 ls603 []) := by
    intro nf
    induction nf with
    | zero =>
      intro ls603 H602 locsH602 q605 x606 q607 x608 hl604 hTH602 hSH602 gq605 bx606 gq607 bx608 fy609_rf hm41
      exfalso
      omega
    | succ nf ih41 =>
      intro ls603 H602 locsH602 q605 x606 q607 x608 hl604 hTH602 hSH602 gq605 bx606 gq607 bx608 fy609_rf hm41
      have J72 : ∀ (ls611 : Array Slot) (H610 : Heap) (locsH610 : List Loc) , lv_has ls611 7 [(0, .ref a0), (3, .ref q605), (4, .int x606), (5, .ref q607), (6, .int x608)] → TY K G H610 → va_S (AE G [1, 2, 7, 8, 83, 84, 5] s.heap.size) s.heap H610 locsH610 → (0 ≤ x608.toInt ∧ x608.toInt ≤ 15) → (∀ q : Nat, G q = some 1 → fI H610 q (K.1.2 0 0) = fI s.heap q (K.1.2 0 0)) → W p l e ({ frames := 7, cells := 0, slots := 0, locals := 177 } : Room) s m (([.ref a0, .int x1, .int x2] : List Value).toArray) below meth c H610 locsH610 0 0 Q (F0 m 72 ls611 []) := by
        intro ls611 H610 locsH610  hl612 hTH610 hSH610 b613 fy614_rf
        obtain ⟨x615, ex615⟩ : ∃ y : Int32, y = x608 + 1 := ⟨_, rfl⟩
        have tx615 := i_add ex615 (by omega)
        refine lv_iinc (v := x615) (lv' := [(6, .int x615), (0, .ref a0), (3, .ref q605), (4, .int x606), (5, .ref q607)]) hx hb dX9_job_72 hl612 (k := 4) rfl (by rw [ex615]; rfl) (by decide) rfl (fun ls616 hl617 => ?_)
        refine lv_goto (tgt := 41) hx hb dX9_job_75 (by decide) ?_
        exact ih41 ls616 H610 locsH610 (q605) (x606) (q607) (x615) (lv_sub hl617 [1, 2, 3, 4, 0] rfl) hTH610 hSH610 gq605 (by have := i_rng x606; omega) gq607 (by have := i_rng x615; omega) fy614_rf (by omega)
      refine lv_iload hx hb dX9_job_41 (lv_at hl604 4 rfl) ?_
      refine lv_aload hx hb dX9_job_43 (lv_at hl604 3 rfl) ?_
      refine x_gi C hTH602 (ci := 7) (k := 0) rfl inX7 (by decide) wF_X9_144 gq607 rg_16 rfl dX9_job_45 (fun x618 ex618 bx618 => ?_)
      refine lv_icmp_ge (tgt := 78) hx hb dX9_job_48 (by decide) (fun c619 => ?_) (fun c619 => ?_)
      · have k620 := i_le c619
        refine lv_aload_n hx hb dX9_job_78 rfl (lv_at hl604 1 rfl) ?_
        refine x_gi C hTH602 (ci := 0) (k := 8) rfl inX0 (by decide) wF_X9_86 gq605 rg_1 rfl dX9_job_79 (fun x621 ex621 bx621 => ?_)
        refine lv_iload hx hb dX9_job_82 (lv_at hl604 2 rfl) ?_
        refine lv_isub hx hb dX9_job_84 ?_
        refine lv_topi (fun x622 ex622 => ?_)
        have tx622 := i_sub ex622 (by omega)
        exact x_iret C hQ dX9_job_85 hSH602 (by decide) (by decide) (⟨x622, rfl, fy609_rf, hTH602⟩)
      · have k620 := i_nle c619
        refine lv_aload_n hx hb dX9_job_51 rfl (lv_at hl604 0 rfl) ?_
        refine lv_aload hx hb dX9_job_52 (lv_at hl604 3 rfl) ?_
        refine lv_iload hx hb dX9_job_54 (lv_at hl604 4 rfl) ?_
        refine lv_aload_n hx hb dX9_job_56 rfl (lv_at hl604 1 rfl) ?_
        refine x_V (As := [.ref q607, .int x608, .ref q605]) (rest := []) C (a_X9_comesTrue l K G H602 (x608) hTH602 ga0 gq607 (by omega) gq605) yo_X9_comesTrue wM_X9_223 ⟨⟨by decide, by decide⟩, by decide, by decide⟩ (x_rv C hTH602 (ci := 9) rfl ga0 rg_68) rfl hl604.1 rfl (Nat.le_of_ble_eq_true rfl) dX9_job_57 hSH602 (AE_sub (fun _ _ => rfl) (by decide) hSH602.1) (fun vH623 H623 locsH623 pH623 zH623 kH623 hSH623 => ?_)
        obtain ⟨⟨x624, hvH623, bx624⟩, hTH623⟩ := pH623
        subst hvH623
        have f625 : ∀ q : Nat, G q = some 1 → fI H623 q (K.1.2 0 0) = fI s.heap q (K.1.2 0 0) := fun q hq => (fI_kept (x_lt hTH602 kH623 hq (by decide))).trans (fy609_rf q hq)
        have m626 := (ex618).trans (fI_kept (x_lt hTH602 kH623 gq607 (by decide))).symm
        refine W.eq (g2 := F0 m 60 ls603 [.int x624]) rfl ?_
        refine lv_if_eq (tgt := 72) hx hb dX9_job_60 (by decide) (fun c627 => ?_) (fun c627 => ?_)
        · have k628 := i_eq c627
          exact J72 ls603 H623 locsH623 (lv_sub hl604 [0, 1, 2, 3, 4] rfl) hTH623 hSH623 (by have := i_rng x608; omega) f625
        · have k628 := i_ne c627
          refine lv_aload_n hx hb dX9_job_63 rfl (lv_at hl604 0 rfl) ?_
          refine lv_aload hx hb dX9_job_64 (lv_at hl604 3 rfl) ?_
          refine lv_iload hx hb dX9_job_66 (lv_at hl604 4 rfl) ?_
          refine lv_aload_n hx hb dX9_job_68 rfl (lv_at hl604 1 rfl) ?_
          refine x_V (As := [.ref q607, .int x608, .ref q605]) (rest := []) C (a_X9_doLine_q l K G H623 (x608) hTH623 ga0 gq607 (by omega) gq605) yo_X9_doLine wM_X9_227 ⟨⟨by decide, by decide⟩, by decide, by decide⟩ (x_rv C hTH623 (ci := 9) rfl ga0 rg_68) rfl hl604.1 rfl (Nat.le_of_ble_eq_true rfl) dX9_job_69 hSH623 (AE_sub (fun _ _ => rfl) (by decide) hSH623.1) (fun vH629 H629 locsH629 pH629 zH629 kH629 hSH629 => ?_)
          obtain ⟨hvH629, m630, hTH629⟩ := pH629
          subst hvH629
          have m631 := (m626).trans (fI_kept (x_lt hTH623 kH629 gq607 (by decide))).symm
          have f632 : ∀ q : Nat, G q = some 1 → fI H629 q (K.1.2 0 0) = fI s.heap q (K.1.2 0 0) := fun q hq => (m630 q hq).trans (f625 q hq)
          refine W.eq (g2 := F0 m 72 ls603 []) rfl ?_
          exact J72 ls603 H629 locsH629 (lv_sub hl604 [0, 1, 2, 3, 4] rfl) hTH629 hSH629 (by have := i_rng x608; omega) f632
  refine lv_aload_n hx hb dX9_job_0 rfl (lv_at hl 0 rfl) ?_
  refine lv_iload_n hx hb dX9_job_1 rfl (lv_at hl 2 rfl) ?_
  refine x_V (As := [.int x2]) (rest := []) C (a_X9_barAt l K G s.heap (x2) hT ga0) yo_X9_barAt wM_X9_78 ⟨⟨by decide, by decide⟩, by decide, by decide⟩ (x_rv C hT (ci := 9) rfl ga0 rg_68) rfl hl.1 rfl (Nat.le_of_ble_eq_true rfl) dX9_job_2 hS (AE_sub (fun _ _ => rfl) (by decide) hS.1) (fun vH633 H633 locsH633 pH633 zH633 kH633 hSH633 => ?_)
  have hTH633 := pH633.2
  have f634 : ∀ q : Nat, G q = some 1 → fI H633 q (K.1.2 0 0) = fI s.heap q (K.1.2 0 0) := fun q hq => (fI_kept (x_lt hT kH633 hq (by decide))).trans (f0_rf q hq)
  rcases pH633.1 with hvH633 | ⟨q635, hvH633, gq635⟩
  · skip
    subst hvH633
    refine W.eq (g2 := F0 m 5 ls [.null]) rfl ?_
    refine lv_astore_nN (lv' := [(3, .null), (0, .ref a0), (1, .int x1), (2, .int x2)]) hx hb dX9_job_5 rfl hl (by decide) rfl (fun ls636 hl637 => ?_)
    refine lv_aload_nN hx hb dX9_job_6 rfl (lv_at hl637 0 rfl) ?_
    refine lv_ifnullN (tgt := 19) hx hb dX9_job_7 (by decide) ?_
    exact J19 ls636 H633 locsH633 (lv_sub hl637 [] rfl) hTH633 hSH633 f634
  · skip
    subst hvH633
    refine W.eq (g2 := F0 m 5 ls [.ref q635]) rfl ?_
    refine lv_astore_n (lv' := [(3, .ref q635), (0, .ref a0), (1, .int x1), (2, .int x2)]) hx hb dX9_job_5 rfl hl (by decide) rfl (fun ls638 hl639 => ?_)
    refine lv_aload_n hx hb dX9_job_6 rfl (lv_at hl639 0 rfl) ?_
    refine lv_ifnull hx hb dX9_job_7 ?_
    refine lv_iload_n hx hb dX9_job_10 rfl (lv_at hl639 2 rfl) ?_
    refine lv_iconst (v := 0) hx hb dX9_job_11 (by decide) ?_
    refine lv_iconst (v := 3) hx hb dX9_job_12 (by decide) ?_
    refine x_S (As := [.int x1, .int 0, .int 3]) (rest := []) C (c_X9_within l K G H633 (x1) (0) (3) hTH633) yo_X9_within wM_X9_89 ⟨⟨by decide, by decide⟩, by decide, by decide⟩ rfl hl639.1 rfl (Nat.le_of_ble_eq_true rfl) dX9_job_13 hSH633 (AE_sub (fun _ _ => rfl) (by decide) hSH633.1) (fun vH640 H640 locsH640 pH640 zH640 kH640 hSH640 => ?_)
    have hqH640 := pH640.1.symm
    subst hqH640
    rcases pH640.2 with ⟨hvH640, hcH640⟩ | ⟨hvH640, hcH640⟩
    · subst hvH640
      refine W.eq (g2 := F0 m 16 ls638 [.int 1]) rfl ?_
      refine lv_if_ne (tgt := 21) hx hb dX9_job_16 (by decide) (fun c641 => ?_) (fun c641 => ?_)
      · have k642 := i_ne c641
        refine lv_aload_n hx hb dX9_job_21 rfl (lv_at hl639 0 rfl) ?_
        refine x_gi C hTH633 (ci := 0) (k := 8) rfl inX0 (by decide) wF_X9_86 gq635 rg_1 rfl dX9_job_22 (fun x643 ex643 bx643 => ?_)
        refine lv_istore (lv' := [(4, .int x643), (3, .ref q635), (0, .ref a0), (1, .int x1), (2, .int x2)]) hx hb dX9_job_25 hl639 (by decide) rfl (fun ls644 hl645 => ?_)
        refine lv_aload_n hx hb dX9_job_27 rfl (lv_at hl645 2 rfl) ?_
        refine x_gr C hTH633 (ci := 9) (k := 0) rfl inX9 (by decide) wF_X9_12 ga0 rg_68 rfl dX9_job_28 (fun q646 eq646 gq646 => ?_)
        refine x_gr C hTH633 (ci := 8) (k := 3) rfl inX8 (by decide) wF_X9_220 gq646 rg_0 rfl dX9_job_31 (fun q647 eq647 gq647 => ?_)
        refine lv_iload_n hx hb dX9_job_34 rfl (lv_at hl645 3 rfl) ?_
        refine x_ar C hTH633 rfl rfl gq647 rg_27 ⟨by omega, by show _ < ((4 : Nat) : Int); omega⟩ dX9_job_35 (fun q648 eq648 gq648 => ?_)
        refine lv_astore (lv' := [(5, .ref q648), (4, .int x643), (3, .ref q635), (0, .ref a0), (1, .int x1), (2, .int x2)]) hx hb dX9_job_36 hl645 (by decide) rfl (fun ls649 hl650 => ?_)
        refine lv_iconst (v := 0) hx hb dX9_job_38 (by decide) ?_
        refine lv_istore (lv' := [(6, .int 0), (5, .ref q648), (4, .int x643), (3, .ref q635), (0, .ref a0), (1, .int x1), (2, .int x2)]) hx hb dX9_job_39 hl650 (by decide) rfl (fun ls651 hl652 => ?_)
        exact J41 ((16 - (0 : Int32).toInt).toNat + 1) ls651 H633 locsH640 (q635) (x643) (q648) (0) (lv_sub hl652 [4, 3, 2, 1, 0] rfl) hTH633 hSH640 gq635 (by have := i_rng x643; omega) gq648 (by decide) f634 (by omega)
      · have k642 := i_eq c641
        exfalso
        omega
    · subst hvH640
      refine W.eq (g2 := F0 m 16 ls638 [.int 0]) rfl ?_
      refine lv_if_ne (tgt := 21) hx hb dX9_job_16 (by decide) (fun c653 => ?_) (fun c653 => ?_)
      · have k654 := i_ne c653
        exfalso
        omega
      · have k654 := i_eq c653
        exact J19 ls638 H633 locsH640 (lv_sub hl639 [] rfl) hTH633 hSH640 f634

set_option maxHeartbeats 4000000 in
set_option maxRecDepth 100000 in
theorem a_X0_addTap_q (l : Launch) (K : KE) (G : Nat → Option Nat) (H : Heap) {a0 : Nat} (x1 : Int32) (x2 : Int32) (hT : TY K G H) (ga0 : G a0 = some 1) : MX l K yX0_addTap cX0_addTap 3 none 1 40 0 0 [.ref a0, .int x1, .int x2] H (AE G [1, 9, 10, 12, 14] H.size) (fun v H1 => v = none ∧ (∀ q : Nat, G q = some 1 → fI H1 q (K.1.2 0 0) = fI H q (K.1.2 0 0)) ∧ TY K G H1) := by
  refine MX.of (by decide +kernel) (Nat.le_of_ble_eq_true rfl) ?_
  intro p e s m below meth c ls Q C hH hl hQ
  subst hH
  have C : CX p K s m _ meth c RX0 cX0_addTap 3 none "addTap" := C
  obtain ⟨hx, hb, hml, hown, hts, hKT, hr, hlocks, hnm⟩ := id C
  have hl : lv_has ls 3 [(0, .ref a0), (1, .int x1), (2, .int x2)] := hl
  have hS : va_S (AE G [1, 9, 10, 12, 14] s.heap.size) s.heap s.heap [] := va_S.rf
  have n_0 : (0 : Int32).toInt = 0 := rfl
  have n_1 : (1 : Int32).toInt = 1 := rfl
  have n_12 : (12 : Int32).toInt = 12 := rfl
  have n_16 : (16 : Int32).toInt = 16 := rfl
  have f0_rf : ∀ q : Nat, G q = some 1 → fI s.heap q (K.1.2 0 0) = fI s.heap q (K.1.2 0 0) := fun _ _ => rfl
  have J79 : ∀ (ls346 : Array Slot) (H345 : Heap) (locsH345 : List Loc) , lv_has ls346 3 [] → TY K G H345 → va_S (AE G [1, 9, 10, 12, 14] s.heap.size) s.heap H345 locsH345 → (∀ q : Nat, G q = some 1 → fI H345 q (K.1.2 0 0) = fI s.heap q (K.1.2 0 0)) → W p l e ({ frames := 1, cells := 0, slots := 0, locals := 40 } : Room) s m (([.ref a0, .int x1, .int x2] : List Value).toArray) below meth c H345 locsH345 0 0 Q (F0 m 79 ls346 []) := by
    intro ls346 H345 locsH345  hl347 hTH345 hSH345 fy348_rf
    exact x_vret C hQ dX0_addTap_79 hSH345 (by decide) (by decide) (⟨rfl, fy348_rf, hTH345⟩)
  refine lv_aload_n hx hb dX0_addTap_0 rfl (lv_at hl 0 rfl) ?_
  refine x_gi C hT (ci := 0) (k := 14) rfl inX0 (by decide) wF_X0_66 ga0 rg_1 rfl dX0_addTap_1 (fun x349 ex349 bx349 => ?_)
  refine lv_bipush (v := 12) hx hb dX0_addTap_4 (by decide) ?_
  refine lv_icmp_ge (tgt := 79) hx hb dX0_addTap_6 (by decide) (fun c350 => ?_) (fun c350 => ?_)
  · have k351 := i_le c350
    exact J79 ls s.heap [] (lv_sub hl [] rfl) hT hS f0_rf
  · have k351 := i_nle c350
    refine lv_aload_n hx hb dX0_addTap_9 rfl (lv_at hl 0 rfl) ?_
    refine x_gr C hT (ci := 0) (k := 10) rfl inX0 (by decide) wF_X0_33 ga0 rg_1 rfl dX0_addTap_10 (fun q352 eq352 gq352 => ?_)
    refine lv_aload_n hx hb dX0_addTap_13 rfl (lv_at hl 0 rfl) ?_
    refine x_gi C hT (ci := 0) (k := 14) rfl inX0 (by decide) wF_X0_66 ga0 rg_1 rfl dX0_addTap_14 (fun x353 ex353 bx353 => ?_)
    have ux353 : x349 = x353 := (ex349).trans ex353.symm
    subst ux353
    refine lv_iload_n hx hb dX0_addTap_17 rfl (lv_at hl 1 rfl) ?_
    refine x_iast C hT hS gq352 rg_9 (by omega) (by show _ < ((12 : Nat) : Int); omega) ⟨by have := i_rng x1; omega, by have := i_rng x1; omega⟩ (AE_in gq352 (by decide)) dX0_addTap_18 (fun H354 locsH354 hTH354 hSH354 wH354 => ?_)
    have f355 : ∀ q : Nat, G q = some 1 → fI H354 q (K.1.2 0 0) = fI s.heap q (K.1.2 0 0) := fun q hq => (Wr.neI wH354 (Or.inl (G_ne hq gq352 (by decide)))).trans (f0_rf q hq)
    have m356 := ex349.trans (Wr.neI wH354 (Or.inl (G_ne ga0 gq352 (by decide)))).symm
    have m357 := eq352.trans (Wr.neR wH354 (Or.inl (G_ne ga0 gq352 (by decide)))).symm
    have m358 := Wr.I wH354
    have m358 := m358.symm
    refine lv_aload_n hx hb dX0_addTap_19 rfl (lv_at hl 0 rfl) ?_
    refine x_gr C hTH354 (ci := 0) (k := 11) rfl inX0 (by decide) wF_X0_36 ga0 rg_1 rfl dX0_addTap_20 (fun q359 eq359 gq359 => ?_)
    refine lv_aload_n hx hb dX0_addTap_23 rfl (lv_at hl 0 rfl) ?_
    refine x_gi C hTH354 (ci := 0) (k := 14) rfl inX0 (by decide) wF_X0_66 ga0 rg_1 rfl dX0_addTap_24 (fun x360 ex360 bx360 => ?_)
    have ux360 : x349 = x360 := (m356).trans ex360.symm
    subst ux360
    refine lv_iload_n hx hb dX0_addTap_27 rfl (lv_at hl 2 rfl) ?_
    refine x_iast C hTH354 hSH354 gq359 rg_10 (by omega) (by show _ < ((12 : Nat) : Int); omega) ⟨by have := i_rng x2; omega, by have := i_rng x2; omega⟩ (AE_in gq359 (by decide)) dX0_addTap_28 (fun H361 locsH361 hTH361 hSH361 wH361 => ?_)
    have f362 : ∀ q : Nat, G q = some 1 → fI H361 q (K.1.2 0 0) = fI s.heap q (K.1.2 0 0) := fun q hq => (Wr.neI wH361 (Or.inl (G_ne hq gq359 (by decide)))).trans (f355 q hq)
    have m363 := m356.trans (Wr.neI wH361 (Or.inl (G_ne ga0 gq359 (by decide)))).symm
    have m364 := m357.trans (Wr.neR wH361 (Or.inl (G_ne ga0 gq359 (by decide)))).symm
    have m365 := m358.trans (Wr.neI wH361 (Or.inl (G_ne gq352 gq359 (by decide)))).symm
    have m366 := eq359.trans (Wr.neR wH361 (Or.inl (G_ne ga0 gq359 (by decide)))).symm
    have m367 := Wr.I wH361
    have m367 := m367.symm
    refine lv_aload_n hx hb dX0_addTap_29 rfl (lv_at hl 0 rfl) ?_
    refine x_gr C hTH361 (ci := 0) (k := 1) rfl inX0 (by decide) wF_X0_9 ga0 rg_1 rfl dX0_addTap_30 (fun q368 eq368 gq368 => ?_)
    refine lv_iconst (v := 0) hx hb dX0_addTap_33 (by decide) ?_
    refine lv_aload_n hx hb dX0_addTap_34 rfl (lv_at hl 0 rfl) ?_
    refine x_gr C hTH361 (ci := 0) (k := 12) rfl inX0 (by decide) wF_X0_41 ga0 rg_1 rfl dX0_addTap_35 (fun q369 eq369 gq369 => ?_)
    refine lv_aload_n hx hb dX0_addTap_38 rfl (lv_at hl 0 rfl) ?_
    refine x_gi C hTH361 (ci := 0) (k := 14) rfl inX0 (by decide) wF_X0_66 ga0 rg_1 rfl dX0_addTap_39 (fun x370 ex370 bx370 => ?_)
    have ux370 : x349 = x370 := (m363).trans ex370.symm
    subst ux370
    refine x_ar C hTH361 rfl rfl gq369 rg_11 ⟨by omega, by show _ < ((12 : Nat) : Int); omega⟩ dX0_addTap_42 (fun q371 eq371 gq371 => ?_)
    refine lv_iconst (v := 0) hx hb dX0_addTap_43 (by decide) ?_
    refine lv_bipush (v := 16) hx hb dX0_addTap_44 (by decide) ?_
    refine x_copy C hTH361 hSH361 wM_X0_75 wNT_arraycopy wST_arraycopy wIN_J10 gq368 gq371 rg_2 rg_12 (by decide) (by omega) (by omega) (by omega) (by show _ ≤ ((16 : Nat) : Int); omega) (by show _ ≤ ((16 : Nat) : Int); omega) (AE_in gq371 (by decide)) hl.1 (by decide) dX0_addTap_46 (fun H372 locsH372 hTH372 hSH372 zH372 oH372 vH372 wH372 => ?_)
    have m373 := (m363).trans (fI_kept (oH372 _ (G_ne ga0 gq371 (by decide)))).symm
    have m374 := (m364).trans (fR_kept (oH372 _ (G_ne ga0 gq371 (by decide)))).symm
    have m375 := (m365).trans (fI_kept (oH372 _ (G_ne gq352 gq371 (by decide)))).symm
    have m376 := (m366).trans (fR_kept (oH372 _ (G_ne ga0 gq371 (by decide)))).symm
    have m377 := (m367).trans (fI_kept (oH372 _ (G_ne gq359 gq371 (by decide)))).symm
    have m378 := (eq368).trans (fR_kept (oH372 _ (G_ne ga0 gq371 (by decide)))).symm
    have m379 := (eq369).trans (fR_kept (oH372 _ (G_ne ga0 gq371 (by decide)))).symm
    have f380 : ∀ q : Nat, G q = some 1 → fI H372 q (K.1.2 0 0) = fI s.heap q (K.1.2 0 0) := fun q hq => (fI_kept (oH372 _ (G_ne hq gq371 (by decide)))).trans (f362 q hq)
    refine lv_aload_n hx hb dX0_addTap_49 rfl (lv_at hl 0 rfl) ?_
    refine x_gr C hTH372 (ci := 0) (k := 4) rfl inX0 (by decide) wF_X0_21 ga0 rg_1 rfl dX0_addTap_50 (fun q381 eq381 gq381 => ?_)
    refine lv_iconst (v := 0) hx hb dX0_addTap_53 (by decide) ?_
    refine lv_aload_n hx hb dX0_addTap_54 rfl (lv_at hl 0 rfl) ?_
    refine x_gr C hTH372 (ci := 0) (k := 13) rfl inX0 (by decide) wF_X0_44 ga0 rg_1 rfl dX0_addTap_55 (fun q382 eq382 gq382 => ?_)
    refine lv_aload_n hx hb dX0_addTap_58 rfl (lv_at hl 0 rfl) ?_
    refine x_gi C hTH372 (ci := 0) (k := 14) rfl inX0 (by decide) wF_X0_66 ga0 rg_1 rfl dX0_addTap_59 (fun x383 ex383 bx383 => ?_)
    have ux383 : x349 = x383 := (m373).trans ex383.symm
    subst ux383
    refine x_ar C hTH372 rfl rfl gq382 rg_13 ⟨by omega, by show _ < ((12 : Nat) : Int); omega⟩ dX0_addTap_62 (fun q384 eq384 gq384 => ?_)
    refine lv_iconst (v := 0) hx hb dX0_addTap_63 (by decide) ?_
    refine lv_bipush (v := 16) hx hb dX0_addTap_64 (by decide) ?_
    refine x_copy C hTH372 hSH372 wM_X0_75 wNT_arraycopy wST_arraycopy wIN_J10 gq381 gq384 rg_5 rg_14 (by decide) (by omega) (by omega) (by omega) (by show _ ≤ ((16 : Nat) : Int); omega) (by show _ ≤ ((16 : Nat) : Int); omega) (AE_in gq384 (by decide)) hl.1 (by decide) dX0_addTap_66 (fun H385 locsH385 hTH385 hSH385 zH385 oH385 vH385 wH385 => ?_)
    have m386 := (m373).trans (fI_kept (oH385 _ (G_ne ga0 gq384 (by decide)))).symm
    have m387 := (m374).trans (fR_kept (oH385 _ (G_ne ga0 gq384 (by decide)))).symm
    have m388 := (m375).trans (fI_kept (oH385 _ (G_ne gq352 gq384 (by decide)))).symm
    have m389 := (m376).trans (fR_kept (oH385 _ (G_ne ga0 gq384 (by decide)))).symm
    have m390 := (m377).trans (fI_kept (oH385 _ (G_ne gq359 gq384 (by decide)))).symm
    have m391 := (m378).trans (fR_kept (oH385 _ (G_ne ga0 gq384 (by decide)))).symm
    have m392 := (m379).trans (fR_kept (oH385 _ (G_ne ga0 gq384 (by decide)))).symm
    have m393 := (eq381).trans (fR_kept (oH385 _ (G_ne ga0 gq384 (by decide)))).symm
    have m394 := (eq382).trans (fR_kept (oH385 _ (G_ne ga0 gq384 (by decide)))).symm
    have f395 : ∀ q : Nat, G q = some 1 → fI H385 q (K.1.2 0 0) = fI s.heap q (K.1.2 0 0) := fun q hq => (fI_kept (oH385 _ (G_ne hq gq384 (by decide)))).trans (f380 q hq)
    refine lv_aload_n hx hb dX0_addTap_69 rfl (lv_at hl 0 rfl) ?_
    refine lv_dup hx hb dX0_addTap_70 rfl ?_
    refine x_gi C hTH385 (ci := 0) (k := 14) rfl inX0 (by decide) wF_X0_66 ga0 rg_1 rfl dX0_addTap_71 (fun x396 ex396 bx396 => ?_)
    have ux396 : x349 = x396 := (m386).trans ex396.symm
    subst ux396
    refine lv_iconst (v := 1) hx hb dX0_addTap_74 (by decide) ?_
    refine lv_iadd hx hb dX0_addTap_75 ?_
    refine lv_topi (fun x397 ex397 => ?_)
    have tx397 := i_add ex397 (by omega)
    refine x_put C hTH385 hSH385 (ci := 0) (k := 14) (v := .int x397) (ty0 := tyX0) rfl inX0 tyX0_ok nmX0 (by decide) rfl wF_X0_66 ga0 rg_1 rfl rfl (okI (by have := i_rng x397; omega) (by have := i_rng x397; omega)) rfl rfl (AE_in ga0 (by decide)) dX0_addTap_76 (fun H398 locsH398 hTH398 hSH398 wH398 => ?_)
    have f399 : ∀ q : Nat, G q = some 1 → fI H398 q (K.1.2 0 0) = fI s.heap q (K.1.2 0 0) := fun q hq => (Wr.neI wH398 (Or.inr (x_apart hKT hts inX0 tyX0 tyX0_ok nmX0 rfl 0 14 (by decide) (by decide) (by decide)))).trans (f395 q hq)
    have m401 := m387.trans (Wr.neR wH398 (Or.inr (x_apart hKT hts inX0 tyX0 tyX0_ok nmX0 rfl 10 14 (by decide) (by decide) (by decide)))).symm
    have m402 := m388.trans (Wr.neI wH398 (Or.inl (G_ne gq352 ga0 (by decide)))).symm
    have m403 := m389.trans (Wr.neR wH398 (Or.inr (x_apart hKT hts inX0 tyX0 tyX0_ok nmX0 rfl 11 14 (by decide) (by decide) (by decide)))).symm
    have m404 := m390.trans (Wr.neI wH398 (Or.inl (G_ne gq359 ga0 (by decide)))).symm
    have m405 := m391.trans (Wr.neR wH398 (Or.inr (x_apart hKT hts inX0 tyX0 tyX0_ok nmX0 rfl 1 14 (by decide) (by decide) (by decide)))).symm
    have m406 := m392.trans (Wr.neR wH398 (Or.inr (x_apart hKT hts inX0 tyX0 tyX0_ok nmX0 rfl 12 14 (by decide) (by decide) (by decide)))).symm
    have m407 := m393.trans (Wr.neR wH398 (Or.inr (x_apart hKT hts inX0 tyX0 tyX0_ok nmX0 rfl 4 14 (by decide) (by decide) (by decide)))).symm
    have m408 := m394.trans (Wr.neR wH398 (Or.inr (x_apart hKT hts inX0 tyX0 tyX0_ok nmX0 rfl 13 14 (by decide) (by decide) (by decide)))).symm
    have m409 := Wr.I wH398
    have m409 := m409.symm
    exact J79 ls H398 locsH398 (lv_sub hl [] rfl) hTH398 hSH398 f399

set_option maxHeartbeats 4000000 in
set_option maxRecDepth 100000 in
theorem a_X9_tap_q (l : Launch) (K : KE) (G : Nat → Option Nat) (H : Heap) {a0 : Nat} (x1 : Int32) (x2 : Int32) (x3 : Int32) (hT : TY K G H) (ga0 : G a0 = some 68) : MX l K yX9_tap cX9_tap 5 (some .int) 2 62 0 0 [.ref a0, .int x1, .int x2, .int x3] H (AE G [1, 9, 10, 12, 14] H.size) (fun v H1 => ∃ (r : Int32), v = some (.int r) ∧ (∀ q : Nat, G q = some 1 → fI H1 q (K.1.2 0 0) = fI H q (K.1.2 0 0)) ∧ TY K G H1) := by
  refine MX.of (by decide +kernel) (Nat.le_of_ble_eq_true rfl) ?_
  intro p e s m below meth c ls Q C hH hl hQ
  subst hH
  have C : CX p K s m _ meth c RX9 cX9_tap 5 (some .int) "tap" := C
  obtain ⟨hx, hb, hml, hown, hts, hKT, hr, hlocks, hnm⟩ := id C
  have hl : lv_has ls 5 [(0, .ref a0), (1, .int x1), (2, .int x2), (3, .int x3)] := hl
  have hS : va_S (AE G [1, 9, 10, 12, 14] s.heap.size) s.heap s.heap [] := va_S.rf
  have n_m1 : ((-1) : Int32).toInt = -1 := rfl
  have n_0 : (0 : Int32).toInt = 0 := rfl
  have n_1 : (1 : Int32).toInt = 1 := rfl
  have n_12 : (12 : Int32).toInt = 12 := rfl
  have n_9999999 : (9999999 : Int32).toInt = 9999999 := rfl
  have f0_rf : ∀ q : Nat, G q = some 1 → fI s.heap q (K.1.2 0 0) = fI s.heap q (K.1.2 0 0) := fun _ _ => rfl
  have J39 : ∀ (ls198 : Array Slot) (H197 : Heap) (locsH197 : List Loc) , lv_has ls198 5 [] → TY K G H197 → va_S (AE G [1, 9, 10, 12, 14] s.heap.size) s.heap H197 locsH197 → (∀ q : Nat, G q = some 1 → fI H197 q (K.1.2 0 0) = fI s.heap q (K.1.2 0 0)) → W p l e ({ frames := 2, cells := 0, slots := 0, locals := 62 } : Room) s m (([.ref a0, .int x1, .int x2, .int x3] : List Value).toArray) below meth c H197 locsH197 0 0 Q (F0 m 39 ls198 []) := by
    intro ls198 H197 locsH197  hl199 hTH197 hSH197 fy200_rf
    refine lv_iconst (v := (-1)) hx hb dX9_tap_39 (by decide) ?_
    exact x_iret C hQ dX9_tap_40 hSH197 (by decide) (by decide) (⟨(-1), rfl, fy200_rf, hTH197⟩)
  refine lv_aload_n hx hb dX9_tap_0 rfl (lv_at hl 0 rfl) ?_
  refine lv_iload_n hx hb dX9_tap_1 rfl (lv_at hl 1 rfl) ?_
  refine x_V (As := [.int x1]) (rest := []) C (a_X9_barAt l K G s.heap (x1) hT ga0) yo_X9_barAt wM_X9_78 ⟨⟨by decide, by decide⟩, by decide, by decide⟩ (x_rv C hT (ci := 9) rfl ga0 rg_68) rfl hl.1 rfl (Nat.le_of_ble_eq_true rfl) dX9_tap_2 hS (AE_sub (fun _ _ => rfl) (by decide) hS.1) (fun vH201 H201 locsH201 pH201 zH201 kH201 hSH201 => ?_)
  have hTH201 := pH201.2
  have f202 : ∀ q : Nat, G q = some 1 → fI H201 q (K.1.2 0 0) = fI s.heap q (K.1.2 0 0) := fun q hq => (fI_kept (x_lt hT kH201 hq (by decide))).trans (f0_rf q hq)
  rcases pH201.1 with hvH201 | ⟨q203, hvH201, gq203⟩
  · skip
    subst hvH201
    refine W.eq (g2 := F0 m 5 ls [.null]) rfl ?_
    refine lv_astoreN (lv' := [(4, .null), (0, .ref a0), (1, .int x1), (2, .int x2), (3, .int x3)]) hx hb dX9_tap_5 hl (by decide) rfl (fun ls204 hl205 => ?_)
    refine lv_aloadN hx hb dX9_tap_7 (lv_at hl205 0 rfl) ?_
    refine lv_ifnullN (tgt := 39) hx hb dX9_tap_9 (by decide) ?_
    exact J39 ls204 H201 locsH201 (lv_sub hl205 [] rfl) hTH201 hSH201 f202
  · skip
    subst hvH201
    refine W.eq (g2 := F0 m 5 ls [.ref q203]) rfl ?_
    refine lv_astore (lv' := [(4, .ref q203), (0, .ref a0), (1, .int x1), (2, .int x2), (3, .int x3)]) hx hb dX9_tap_5 hl (by decide) rfl (fun ls206 hl207 => ?_)
    refine lv_aload hx hb dX9_tap_7 (lv_at hl207 0 rfl) ?_
    refine lv_ifnull hx hb dX9_tap_9 ?_
    refine lv_iload_n hx hb dX9_tap_12 rfl (lv_at hl207 3 rfl) ?_
    refine x_S (As := [.int x2]) (rest := []) C (c_X9_isTone l K G H201 (x2) hTH201) yo_X9_isTone wM_X9_150 ⟨⟨by decide, by decide⟩, by decide, by decide⟩ rfl hl207.1 rfl (Nat.le_of_ble_eq_true rfl) dX9_tap_13 hSH201 (AE_sub (fun _ _ => rfl) (by decide) hSH201.1) (fun vH208 H208 locsH208 pH208 zH208 kH208 hSH208 => ?_)
    have hqH208 := pH208.1.symm
    subst hqH208
    rcases pH208.2 with ⟨hvH208, hcH208⟩ | ⟨hvH208, hcH208⟩
    · subst hvH208
      refine W.eq (g2 := F0 m 16 ls206 [.int 1]) rfl ?_
      refine lv_if_eq (tgt := 39) hx hb dX9_tap_16 (by decide) (fun c209 => ?_) (fun c209 => ?_)
      · have k210 := i_eq c209
        exfalso
        omega
      · have k210 := i_ne c209
        refine lv_iload_n hx hb dX9_tap_19 rfl (lv_at hl207 4 rfl) ?_
        refine lv_iconst (v := 0) hx hb dX9_tap_20 (by decide) ?_
        refine lv_ldc (v := 9999999) hx hb hown (hts _ wK_X9_242) dX9_tap_21 ?_
        refine x_S (As := [.int x3, .int 0, .int 9999999]) (rest := []) C (c_X9_within l K G H201 (x3) (0) (9999999) hTH201) yo_X9_within wM_X9_89 ⟨⟨by decide, by decide⟩, by decide, by decide⟩ rfl hl207.1 rfl (Nat.le_of_ble_eq_true rfl) dX9_tap_23 hSH208 (AE_sub (fun _ _ => rfl) (by decide) hSH208.1) (fun vH211 H211 locsH211 pH211 zH211 kH211 hSH211 => ?_)
        have hqH211 := pH211.1.symm
        subst hqH211
        rcases pH211.2 with ⟨hvH211, hcH211⟩ | ⟨hvH211, hcH211⟩
        · subst hvH211
          refine W.eq (g2 := F0 m 26 ls206 [.int 1]) rfl ?_
          refine lv_if_eq (tgt := 39) hx hb dX9_tap_26 (by decide) (fun c212 => ?_) (fun c212 => ?_)
          · have k213 := i_eq c212
            exfalso
            omega
          · have k213 := i_ne c212
            refine lv_aload hx hb dX9_tap_29 (lv_at hl207 0 rfl) ?_
            refine x_gi C hTH201 (ci := 0) (k := 14) rfl inX0 (by decide) wF_X9_200 gq203 rg_1 rfl dX9_tap_31 (fun x214 ex214 bx214 => ?_)
            refine lv_bipush (v := 12) hx hb dX9_tap_34 (by decide) ?_
            refine lv_icmp_lt (tgt := 41) hx hb dX9_tap_36 (by decide) (fun c215 => ?_) (fun c215 => ?_)
            · have k216 := i_lt c215
              refine lv_aload hx hb dX9_tap_41 (lv_at hl207 0 rfl) ?_
              refine lv_iload_n hx hb dX9_tap_43 rfl (lv_at hl207 3 rfl) ?_
              refine lv_iload_n hx hb dX9_tap_44 rfl (lv_at hl207 4 rfl) ?_
              refine x_V (As := [.int x2, .int x3]) (rest := []) C (a_X0_addTap_q l K G H201 (x2) (x3) hTH201 gq203) yo_X0_addTap wM_X9_243 ⟨⟨by decide, by decide⟩, by decide, by decide⟩ (x_rv C hTH201 (ci := 0) rfl gq203 rg_1) rfl hl207.1 rfl (Nat.le_of_ble_eq_true rfl) dX9_tap_45 hSH211 (AE_sub (fun _ _ => rfl) (by decide) hSH211.1) (fun vH217 H217 locsH217 pH217 zH217 kH217 hSH217 => ?_)
              obtain ⟨hvH217, m218, hTH217⟩ := pH217
              subst hvH217
              have f219 : ∀ q : Nat, G q = some 1 → fI H217 q (K.1.2 0 0) = fI s.heap q (K.1.2 0 0) := fun q hq => (m218 q hq).trans (f202 q hq)
              refine W.eq (g2 := F0 m 48 ls206 []) rfl ?_
              refine lv_aload hx hb dX9_tap_48 (lv_at hl207 0 rfl) ?_
              refine x_gi C hTH217 (ci := 0) (k := 14) rfl inX0 (by decide) wF_X9_200 gq203 rg_1 rfl dX9_tap_50 (fun x220 ex220 bx220 => ?_)
              exact x_iret C hQ dX9_tap_53 hSH217 (by decide) (by decide) (⟨x220, rfl, f219, hTH217⟩)
            · have k216 := i_nlt c215
              exact J39 ls206 H201 locsH211 (lv_sub hl207 [] rfl) hTH201 hSH211 f202
        · subst hvH211
          refine W.eq (g2 := F0 m 26 ls206 [.int 0]) rfl ?_
          refine lv_if_eq (tgt := 39) hx hb dX9_tap_26 (by decide) (fun c221 => ?_) (fun c221 => ?_)
          · have k222 := i_eq c221
            exact J39 ls206 H201 locsH211 (lv_sub hl207 [] rfl) hTH201 hSH211 f202
          · have k222 := i_ne c221
            exfalso
            omega
    · subst hvH208
      refine W.eq (g2 := F0 m 16 ls206 [.int 0]) rfl ?_
      refine lv_if_eq (tgt := 39) hx hb dX9_tap_16 (by decide) (fun c223 => ?_) (fun c223 => ?_)
      · have k224 := i_eq c223
        exact J39 ls206 H201 locsH208 (lv_sub hl207 [] rfl) hTH201 hSH208 f202
      · have k224 := i_ne c223
        exfalso
        omega

set_option maxHeartbeats 4000000 in
set_option maxRecDepth 100000 in
theorem a_X0_begin_q (l : Launch) (K : KE) (G : Nat → Option Nat) (H : Heap) {a0 : Nat} (x1 : Int32) (bk : Int32) (hT : TY K G H) (ga0 : G a0 = some 1) (hx1 : 3 ≤ x1.toInt ∧ x1.toInt ≤ 16) (ebk : bk = fI H a0 (K.1.2 0 0)) : MX l K yX0_begin cX0_begin 2 none 1 23 0 0 [.ref a0, .int x1] H (AE G [1, 2, 3, 4, 5, 6, 15] H.size) (fun v H1 => ∃ (t0 : Int32), v = none ∧ t0 = fI H1 a0 (K.1.2 0 0) ∧ (t0.toInt = x1.toInt) ∧ (∀ q : Nat, G q = some 1 → q ≠ a0 → fI H1 q (K.1.2 0 0) = fI H q (K.1.2 0 0)) ∧ TY K G H1) := by
  refine MX.of (by decide +kernel) (Nat.le_of_ble_eq_true rfl) ?_
  intro p e s m below meth c ls Q C hH hl hQ
  subst hH
  have C : CX p K s m _ meth c RX0 cX0_begin 2 none "begin" := C
  obtain ⟨hx, hb, hml, hown, hts, hKT, hr, hlocks, hnm⟩ := id C
  have hl : lv_has ls 2 [(0, .ref a0), (1, .int x1)] := hl
  have hS : va_S (AE G [1, 2, 3, 4, 5, 6, 15] s.heap.size) s.heap s.heap [] := va_S.rf
  have n_m1 : ((-1) : Int32).toInt = -1 := rfl
  have n_0 : (0 : Int32).toInt = 0 := rfl
  have n_5 : (5 : Int32).toInt = 5 := rfl
  have n_20 : (20 : Int32).toInt = 20 := rfl
  have n_500 : (500 : Int32).toInt = 500 := rfl
  have bbk := ty_fi (x := bk) (k := 0) ebk hT ga0 rg_1 rfl
  have f0_rf : ∀ q : Nat, G q = some 1 → q ≠ a0 → fI s.heap q (K.1.2 0 0) = fI s.heap q (K.1.2 0 0) := fun _ _ _ => rfl
  refine lv_aload_n hx hb dX0_begin_0 rfl (lv_at hl 0 rfl) ?_
  refine lv_iload_n hx hb dX0_begin_1 rfl (lv_at hl 1 rfl) ?_
  refine x_put C hT hS (ci := 0) (k := 0) (v := .int x1) (ty0 := tyX0) rfl inX0 tyX0_ok nmX0 (by decide) rfl wF_X0_50 ga0 rg_1 rfl rfl (okI (by have := i_rng x1; omega) (by have := i_rng x1; omega)) rfl rfl (AE_in ga0 (by decide)) dX0_begin_2 (fun H537 locsH537 hTH537 hSH537 wH537 => ?_)
  have f538 : ∀ q : Nat, G q = some 1 → q ≠ a0 → fI H537 q (K.1.2 0 0) = fI s.heap q (K.1.2 0 0) := fun q hq hn => (Wr.neI wH537 (Or.inl hn)).trans (f0_rf q hq hn)
  have m540 := Wr.I wH537
  have m540 := m540.symm
  refine lv_aload_n hx hb dX0_begin_5 rfl (lv_at hl 0 rfl) ?_
  refine x_gr C hTH537 (ci := 0) (k := 1) rfl inX0 (by decide) wF_X0_9 ga0 rg_1 rfl dX0_begin_6 (fun q541 eq541 gq541 => ?_)
  refine lv_bipush (v := 20) hx hb dX0_begin_9 (by decide) ?_
  refine x_S (As := [.ref q541, .int 20]) (rest := []) C (c_fill l K G H537 (20) hTH537 gq541 rg_2 (by decide) ⟨by have := i_rng (20 : Int32); omega, by have := i_rng (20 : Int32); omega⟩) yo_J7_fill_53178 wM_X0_54 ⟨⟨by decide, by decide⟩, by decide, by decide⟩ rfl hl.1 rfl (Nat.le_of_ble_eq_true rfl) dX0_begin_11 hSH537 (AE_sub (fun _ _ => rfl) (by decide) hSH537.1) (fun vH542 H542 locsH542 pH542 zH542 kH542 hSH542 => ?_)
  have hTH542 := pH542.2.1
  have hvH542 := pH542.1
  subst hvH542
  have f543 : ∀ q : Nat, G q = some 1 → q ≠ a0 → fI H542 q (K.1.2 0 0) = fI s.heap q (K.1.2 0 0) := fun q hq hn => (fI_kept (x_lt hTH537 kH542 hq (by decide))).trans (f538 q hq hn)
  have m544 := (m540).trans (fI_kept (x_lt hTH537 kH542 ga0 (by decide))).symm
  have m545 := (eq541).trans (fR_kept (x_lt hTH537 kH542 ga0 (by decide))).symm
  refine W.eq (g2 := F0 m 14 ls []) rfl ?_
  refine lv_aload_n hx hb dX0_begin_14 rfl (lv_at hl 0 rfl) ?_
  refine x_gr C hTH542 (ci := 0) (k := 2) rfl inX0 (by decide) wF_X0_15 ga0 rg_1 rfl dX0_begin_15 (fun q546 eq546 gq546 => ?_)
  refine lv_iconst (v := 5) hx hb dX0_begin_18 (by decide) ?_
  refine x_S (As := [.ref q546, .int 5]) (rest := []) C (c_fill l K G H542 (5) hTH542 gq546 rg_3 (by decide) ⟨by have := i_rng (5 : Int32); omega, by have := i_rng (5 : Int32); omega⟩) yo_J7_fill_53178 wM_X0_54 ⟨⟨by decide, by decide⟩, by decide, by decide⟩ rfl hl.1 rfl (Nat.le_of_ble_eq_true rfl) dX0_begin_19 hSH542 (AE_sub (fun _ _ => rfl) (by decide) hSH542.1) (fun vH547 H547 locsH547 pH547 zH547 kH547 hSH547 => ?_)
  have hTH547 := pH547.2.1
  have hvH547 := pH547.1
  subst hvH547
  have f548 : ∀ q : Nat, G q = some 1 → q ≠ a0 → fI H547 q (K.1.2 0 0) = fI s.heap q (K.1.2 0 0) := fun q hq hn => (fI_kept (x_lt hTH542 kH547 hq (by decide))).trans (f543 q hq hn)
  have m549 := (m544).trans (fI_kept (x_lt hTH542 kH547 ga0 (by decide))).symm
  have m550 := (m545).trans (fR_kept (x_lt hTH542 kH547 ga0 (by decide))).symm
  have m551 := (eq546).trans (fR_kept (x_lt hTH542 kH547 ga0 (by decide))).symm
  refine W.eq (g2 := F0 m 22 ls []) rfl ?_
  refine lv_aload_n hx hb dX0_begin_22 rfl (lv_at hl 0 rfl) ?_
  refine x_gr C hTH547 (ci := 0) (k := 3) rfl inX0 (by decide) wF_X0_18 ga0 rg_1 rfl dX0_begin_23 (fun q552 eq552 gq552 => ?_)
  refine lv_iconst (v := 5) hx hb dX0_begin_26 (by decide) ?_
  refine x_S (As := [.ref q552, .int 5]) (rest := []) C (c_fill l K G H547 (5) hTH547 gq552 rg_4 (by decide) ⟨by have := i_rng (5 : Int32); omega, by have := i_rng (5 : Int32); omega⟩) yo_J7_fill_53178 wM_X0_54 ⟨⟨by decide, by decide⟩, by decide, by decide⟩ rfl hl.1 rfl (Nat.le_of_ble_eq_true rfl) dX0_begin_27 hSH547 (AE_sub (fun _ _ => rfl) (by decide) hSH547.1) (fun vH553 H553 locsH553 pH553 zH553 kH553 hSH553 => ?_)
  have hTH553 := pH553.2.1
  have hvH553 := pH553.1
  subst hvH553
  have f554 : ∀ q : Nat, G q = some 1 → q ≠ a0 → fI H553 q (K.1.2 0 0) = fI s.heap q (K.1.2 0 0) := fun q hq hn => (fI_kept (x_lt hTH547 kH553 hq (by decide))).trans (f548 q hq hn)
  have m555 := (m549).trans (fI_kept (x_lt hTH547 kH553 ga0 (by decide))).symm
  have m556 := (m550).trans (fR_kept (x_lt hTH547 kH553 ga0 (by decide))).symm
  have m557 := (m551).trans (fR_kept (x_lt hTH547 kH553 ga0 (by decide))).symm
  have m558 := (eq552).trans (fR_kept (x_lt hTH547 kH553 ga0 (by decide))).symm
  refine W.eq (g2 := F0 m 30 ls []) rfl ?_
  refine lv_aload_n hx hb dX0_begin_30 rfl (lv_at hl 0 rfl) ?_
  refine x_gr C hTH553 (ci := 0) (k := 4) rfl inX0 (by decide) wF_X0_21 ga0 rg_1 rfl dX0_begin_31 (fun q559 eq559 gq559 => ?_)
  refine lv_iconst (v := 0) hx hb dX0_begin_34 (by decide) ?_
  refine x_S (As := [.ref q559, .int 0]) (rest := []) C (c_fill l K G H553 (0) hTH553 gq559 rg_5 (by decide) ⟨by have := i_rng (0 : Int32); omega, by have := i_rng (0 : Int32); omega⟩) yo_J7_fill_53178 wM_X0_54 ⟨⟨by decide, by decide⟩, by decide, by decide⟩ rfl hl.1 rfl (Nat.le_of_ble_eq_true rfl) dX0_begin_35 hSH553 (AE_sub (fun _ _ => rfl) (by decide) hSH553.1) (fun vH560 H560 locsH560 pH560 zH560 kH560 hSH560 => ?_)
  have hTH560 := pH560.2.1
  have hvH560 := pH560.1
  subst hvH560
  have f561 : ∀ q : Nat, G q = some 1 → q ≠ a0 → fI H560 q (K.1.2 0 0) = fI s.heap q (K.1.2 0 0) := fun q hq hn => (fI_kept (x_lt hTH553 kH560 hq (by decide))).trans (f554 q hq hn)
  have m562 := (m555).trans (fI_kept (x_lt hTH553 kH560 ga0 (by decide))).symm
  have m563 := (m556).trans (fR_kept (x_lt hTH553 kH560 ga0 (by decide))).symm
  have m564 := (m557).trans (fR_kept (x_lt hTH553 kH560 ga0 (by decide))).symm
  have m565 := (m558).trans (fR_kept (x_lt hTH553 kH560 ga0 (by decide))).symm
  have m566 := (eq559).trans (fR_kept (x_lt hTH553 kH560 ga0 (by decide))).symm
  refine W.eq (g2 := F0 m 38 ls []) rfl ?_
  refine lv_aload_n hx hb dX0_begin_38 rfl (lv_at hl 0 rfl) ?_
  refine x_gr C hTH560 (ci := 0) (k := 5) rfl inX0 (by decide) wF_X0_24 ga0 rg_1 rfl dX0_begin_39 (fun q567 eq567 gq567 => ?_)
  refine lv_iconst (v := 0) hx hb dX0_begin_42 (by decide) ?_
  refine x_S (As := [.ref q567, .int 0]) (rest := []) C (c_fill l K G H560 (0) hTH560 gq567 rg_6 (by decide) ⟨by have := i_rng (0 : Int32); omega, by have := i_rng (0 : Int32); omega⟩) yo_J7_fill_53178 wM_X0_54 ⟨⟨by decide, by decide⟩, by decide, by decide⟩ rfl hl.1 rfl (Nat.le_of_ble_eq_true rfl) dX0_begin_43 hSH560 (AE_sub (fun _ _ => rfl) (by decide) hSH560.1) (fun vH568 H568 locsH568 pH568 zH568 kH568 hSH568 => ?_)
  have hTH568 := pH568.2.1
  have hvH568 := pH568.1
  subst hvH568
  have f569 : ∀ q : Nat, G q = some 1 → q ≠ a0 → fI H568 q (K.1.2 0 0) = fI s.heap q (K.1.2 0 0) := fun q hq hn => (fI_kept (x_lt hTH560 kH568 hq (by decide))).trans (f561 q hq hn)
  have m570 := (m562).trans (fI_kept (x_lt hTH560 kH568 ga0 (by decide))).symm
  have m571 := (m563).trans (fR_kept (x_lt hTH560 kH568 ga0 (by decide))).symm
  have m572 := (m564).trans (fR_kept (x_lt hTH560 kH568 ga0 (by decide))).symm
  have m573 := (m565).trans (fR_kept (x_lt hTH560 kH568 ga0 (by decide))).symm
  have m574 := (m566).trans (fR_kept (x_lt hTH560 kH568 ga0 (by decide))).symm
  have m575 := (eq567).trans (fR_kept (x_lt hTH560 kH568 ga0 (by decide))).symm
  refine W.eq (g2 := F0 m 46 ls []) rfl ?_
  refine lv_aload_n hx hb dX0_begin_46 rfl (lv_at hl 0 rfl) ?_
  refine x_gr C hTH568 (ci := 0) (k := 17) rfl inX0 (by decide) wF_X0_47 ga0 rg_1 rfl dX0_begin_47 (fun q576 eq576 gq576 => ?_)
  refine lv_sipush (v := 500) hx hb dX0_begin_50 (by decide) ?_
  refine x_S (As := [.ref q576, .int 500]) (rest := []) C (c_fill l K G H568 (500) hTH568 gq576 rg_15 (by decide) ⟨by have := i_rng (500 : Int32); omega, by have := i_rng (500 : Int32); omega⟩) yo_J7_fill_53178 wM_X0_54 ⟨⟨by decide, by decide⟩, by decide, by decide⟩ rfl hl.1 rfl (Nat.le_of_ble_eq_true rfl) dX0_begin_53 hSH568 (AE_sub (fun _ _ => rfl) (by decide) hSH568.1) (fun vH577 H577 locsH577 pH577 zH577 kH577 hSH577 => ?_)
  have hTH577 := pH577.2.1
  have hvH577 := pH577.1
  subst hvH577
  have f578 : ∀ q : Nat, G q = some 1 → q ≠ a0 → fI H577 q (K.1.2 0 0) = fI s.heap q (K.1.2 0 0) := fun q hq hn => (fI_kept (x_lt hTH568 kH577 hq (by decide))).trans (f569 q hq hn)
  have m579 := (m570).trans (fI_kept (x_lt hTH568 kH577 ga0 (by decide))).symm
  have m580 := (m571).trans (fR_kept (x_lt hTH568 kH577 ga0 (by decide))).symm
  have m581 := (m572).trans (fR_kept (x_lt hTH568 kH577 ga0 (by decide))).symm
  have m582 := (m573).trans (fR_kept (x_lt hTH568 kH577 ga0 (by decide))).symm
  have m583 := (m574).trans (fR_kept (x_lt hTH568 kH577 ga0 (by decide))).symm
  have m584 := (m575).trans (fR_kept (x_lt hTH568 kH577 ga0 (by decide))).symm
  have m585 := (eq576).trans (fR_kept (x_lt hTH568 kH577 ga0 (by decide))).symm
  refine W.eq (g2 := F0 m 56 ls []) rfl ?_
  refine lv_aload_n hx hb dX0_begin_56 rfl (lv_at hl 0 rfl) ?_
  refine lv_iconst (v := 0) hx hb dX0_begin_57 (by decide) ?_
  refine x_put C hTH577 hSH577 (ci := 0) (k := 8) (v := .int 0) (ty0 := tyX0) rfl inX0 tyX0_ok nmX0 (by decide) rfl wF_X0_60 ga0 rg_1 rfl rfl (okI (by have := i_rng (0 : Int32); omega) (by have := i_rng (0 : Int32); omega)) rfl rfl (AE_in ga0 (by decide)) dX0_begin_58 (fun H586 locsH586 hTH586 hSH586 wH586 => ?_)
  have f587 : ∀ q : Nat, G q = some 1 → q ≠ a0 → fI H586 q (K.1.2 0 0) = fI s.heap q (K.1.2 0 0) := fun q hq hn => (Wr.neI wH586 (Or.inr (x_apart hKT hts inX0 tyX0 tyX0_ok nmX0 rfl 0 8 (by decide) (by decide) (by decide)))).trans (f578 q hq hn)
  have m588 := m579.trans (Wr.neI wH586 (Or.inr (x_apart hKT hts inX0 tyX0 tyX0_ok nmX0 rfl 0 8 (by decide) (by decide) (by decide)))).symm
  have m589 := m580.trans (Wr.neR wH586 (Or.inr (x_apart hKT hts inX0 tyX0 tyX0_ok nmX0 rfl 1 8 (by decide) (by decide) (by decide)))).symm
  have m590 := m581.trans (Wr.neR wH586 (Or.inr (x_apart hKT hts inX0 tyX0 tyX0_ok nmX0 rfl 2 8 (by decide) (by decide) (by decide)))).symm
  have m591 := m582.trans (Wr.neR wH586 (Or.inr (x_apart hKT hts inX0 tyX0 tyX0_ok nmX0 rfl 3 8 (by decide) (by decide) (by decide)))).symm
  have m592 := m583.trans (Wr.neR wH586 (Or.inr (x_apart hKT hts inX0 tyX0 tyX0_ok nmX0 rfl 4 8 (by decide) (by decide) (by decide)))).symm
  have m593 := m584.trans (Wr.neR wH586 (Or.inr (x_apart hKT hts inX0 tyX0 tyX0_ok nmX0 rfl 5 8 (by decide) (by decide) (by decide)))).symm
  have m594 := m585.trans (Wr.neR wH586 (Or.inr (x_apart hKT hts inX0 tyX0 tyX0_ok nmX0 rfl 17 8 (by decide) (by decide) (by decide)))).symm
  have m595 := Wr.I wH586
  refine lv_aload_n hx hb dX0_begin_61 rfl (lv_at hl 0 rfl) ?_
  refine lv_iconst (v := 0) hx hb dX0_begin_62 (by decide) ?_
  refine x_put C hTH586 hSH586 (ci := 0) (k := 9) (v := .int 0) (ty0 := tyX0) rfl inX0 tyX0_ok nmX0 (by decide) rfl wF_X0_63 ga0 rg_1 rfl rfl (okI (by have := i_rng (0 : Int32); omega) (by have := i_rng (0 : Int32); omega)) rfl rfl (AE_in ga0 (by decide)) dX0_begin_63 (fun H596 locsH596 hTH596 hSH596 wH596 => ?_)
  have f597 : ∀ q : Nat, G q = some 1 → q ≠ a0 → fI H596 q (K.1.2 0 0) = fI s.heap q (K.1.2 0 0) := fun q hq hn => (Wr.neI wH596 (Or.inr (x_apart hKT hts inX0 tyX0 tyX0_ok nmX0 rfl 0 9 (by decide) (by decide) (by decide)))).trans (f587 q hq hn)
  have m598 := m588.trans (Wr.neI wH596 (Or.inr (x_apart hKT hts inX0 tyX0 tyX0_ok nmX0 rfl 0 9 (by decide) (by decide) (by decide)))).symm
  have m599 := m589.trans (Wr.neR wH596 (Or.inr (x_apart hKT hts inX0 tyX0 tyX0_ok nmX0 rfl 1 9 (by decide) (by decide) (by decide)))).symm
  have m600 := m590.trans (Wr.neR wH596 (Or.inr (x_apart hKT hts inX0 tyX0 tyX0_ok nmX0 rfl 2 9 (by decide) (by decide) (by decide)))).symm
  have m601 := m591.trans (Wr.neR wH596 (Or.inr (x_apart hKT hts inX0 tyX0 tyX0_ok nmX0 rfl 3 9 (by decide) (by decide) (by decide)))).symm
  have m602 := m592.trans (Wr.neR wH596 (Or.inr (x_apart hKT hts inX0 tyX0 tyX0_ok nmX0 rfl 4 9 (by decide) (by decide) (by decide)))).symm
  have m603 := m593.trans (Wr.neR wH596 (Or.inr (x_apart hKT hts inX0 tyX0 tyX0_ok nmX0 rfl 5 9 (by decide) (by decide) (by decide)))).symm
  have m604 := m594.trans (Wr.neR wH596 (Or.inr (x_apart hKT hts inX0 tyX0 tyX0_ok nmX0 rfl 17 9 (by decide) (by decide) (by decide)))).symm
  have m605 := (Wr.neI wH596 (Or.inr (x_apart hKT hts inX0 tyX0 tyX0_ok nmX0 rfl 8 9 (by decide) (by decide) (by decide)))).trans m595
  have m606 := Wr.I wH596
  refine lv_aload_n hx hb dX0_begin_66 rfl (lv_at hl 0 rfl) ?_
  refine lv_iconst (v := 0) hx hb dX0_begin_67 (by decide) ?_
  refine x_put C hTH596 hSH596 (ci := 0) (k := 14) (v := .int 0) (ty0 := tyX0) rfl inX0 tyX0_ok nmX0 (by decide) rfl wF_X0_66 ga0 rg_1 rfl rfl (okI (by have := i_rng (0 : Int32); omega) (by have := i_rng (0 : Int32); omega)) rfl rfl (AE_in ga0 (by decide)) dX0_begin_68 (fun H607 locsH607 hTH607 hSH607 wH607 => ?_)
  have f608 : ∀ q : Nat, G q = some 1 → q ≠ a0 → fI H607 q (K.1.2 0 0) = fI s.heap q (K.1.2 0 0) := fun q hq hn => (Wr.neI wH607 (Or.inr (x_apart hKT hts inX0 tyX0 tyX0_ok nmX0 rfl 0 14 (by decide) (by decide) (by decide)))).trans (f597 q hq hn)
  have m609 := m598.trans (Wr.neI wH607 (Or.inr (x_apart hKT hts inX0 tyX0 tyX0_ok nmX0 rfl 0 14 (by decide) (by decide) (by decide)))).symm
  have m610 := m599.trans (Wr.neR wH607 (Or.inr (x_apart hKT hts inX0 tyX0 tyX0_ok nmX0 rfl 1 14 (by decide) (by decide) (by decide)))).symm
  have m611 := m600.trans (Wr.neR wH607 (Or.inr (x_apart hKT hts inX0 tyX0 tyX0_ok nmX0 rfl 2 14 (by decide) (by decide) (by decide)))).symm
  have m612 := m601.trans (Wr.neR wH607 (Or.inr (x_apart hKT hts inX0 tyX0 tyX0_ok nmX0 rfl 3 14 (by decide) (by decide) (by decide)))).symm
  have m613 := m602.trans (Wr.neR wH607 (Or.inr (x_apart hKT hts inX0 tyX0 tyX0_ok nmX0 rfl 4 14 (by decide) (by decide) (by decide)))).symm
  have m614 := m603.trans (Wr.neR wH607 (Or.inr (x_apart hKT hts inX0 tyX0 tyX0_ok nmX0 rfl 5 14 (by decide) (by decide) (by decide)))).symm
  have m615 := m604.trans (Wr.neR wH607 (Or.inr (x_apart hKT hts inX0 tyX0 tyX0_ok nmX0 rfl 17 14 (by decide) (by decide) (by decide)))).symm
  have m616 := (Wr.neI wH607 (Or.inr (x_apart hKT hts inX0 tyX0 tyX0_ok nmX0 rfl 8 14 (by decide) (by decide) (by decide)))).trans m605
  have m617 := (Wr.neI wH607 (Or.inr (x_apart hKT hts inX0 tyX0 tyX0_ok nmX0 rfl 9 14 (by decide) (by decide) (by decide)))).trans m606
  have m618 := Wr.I wH607
  refine lv_aload_n hx hb dX0_begin_71 rfl (lv_at hl 0 rfl) ?_
  refine lv_iconst (v := (-1)) hx hb dX0_begin_72 (by decide) ?_
  refine x_put C hTH607 hSH607 (ci := 0) (k := 15) (v := .int (-1)) (ty0 := tyX0) rfl inX0 tyX0_ok nmX0 (by decide) rfl wF_X0_69 ga0 rg_1 rfl rfl (okI (by have := i_rng ((-1) : Int32); omega) (by have := i_rng ((-1) : Int32); omega)) rfl rfl (AE_in ga0 (by decide)) dX0_begin_73 (fun H619 locsH619 hTH619 hSH619 wH619 => ?_)
  have f620 : ∀ q : Nat, G q = some 1 → q ≠ a0 → fI H619 q (K.1.2 0 0) = fI s.heap q (K.1.2 0 0) := fun q hq hn => (Wr.neI wH619 (Or.inr (x_apart hKT hts inX0 tyX0 tyX0_ok nmX0 rfl 0 15 (by decide) (by decide) (by decide)))).trans (f608 q hq hn)
  have m621 := m609.trans (Wr.neI wH619 (Or.inr (x_apart hKT hts inX0 tyX0 tyX0_ok nmX0 rfl 0 15 (by decide) (by decide) (by decide)))).symm
  have m622 := m610.trans (Wr.neR wH619 (Or.inr (x_apart hKT hts inX0 tyX0 tyX0_ok nmX0 rfl 1 15 (by decide) (by decide) (by decide)))).symm
  have m623 := m611.trans (Wr.neR wH619 (Or.inr (x_apart hKT hts inX0 tyX0 tyX0_ok nmX0 rfl 2 15 (by decide) (by decide) (by decide)))).symm
  have m624 := m612.trans (Wr.neR wH619 (Or.inr (x_apart hKT hts inX0 tyX0 tyX0_ok nmX0 rfl 3 15 (by decide) (by decide) (by decide)))).symm
  have m625 := m613.trans (Wr.neR wH619 (Or.inr (x_apart hKT hts inX0 tyX0 tyX0_ok nmX0 rfl 4 15 (by decide) (by decide) (by decide)))).symm
  have m626 := m614.trans (Wr.neR wH619 (Or.inr (x_apart hKT hts inX0 tyX0 tyX0_ok nmX0 rfl 5 15 (by decide) (by decide) (by decide)))).symm
  have m627 := m615.trans (Wr.neR wH619 (Or.inr (x_apart hKT hts inX0 tyX0 tyX0_ok nmX0 rfl 17 15 (by decide) (by decide) (by decide)))).symm
  have m628 := (Wr.neI wH619 (Or.inr (x_apart hKT hts inX0 tyX0 tyX0_ok nmX0 rfl 8 15 (by decide) (by decide) (by decide)))).trans m616
  have m629 := (Wr.neI wH619 (Or.inr (x_apart hKT hts inX0 tyX0 tyX0_ok nmX0 rfl 9 15 (by decide) (by decide) (by decide)))).trans m617
  have m630 := (Wr.neI wH619 (Or.inr (x_apart hKT hts inX0 tyX0 tyX0_ok nmX0 rfl 14 15 (by decide) (by decide) (by decide)))).trans m618
  have m631 := Wr.I wH619
  refine lv_aload_n hx hb dX0_begin_76 rfl (lv_at hl 0 rfl) ?_
  refine lv_iconst (v := (-1)) hx hb dX0_begin_77 (by decide) ?_
  refine x_put C hTH619 hSH619 (ci := 0) (k := 16) (v := .int (-1)) (ty0 := tyX0) rfl inX0 tyX0_ok nmX0 (by decide) rfl wF_X0_72 ga0 rg_1 rfl rfl (okI (by have := i_rng ((-1) : Int32); omega) (by have := i_rng ((-1) : Int32); omega)) rfl rfl (AE_in ga0 (by decide)) dX0_begin_78 (fun H632 locsH632 hTH632 hSH632 wH632 => ?_)
  have f633 : ∀ q : Nat, G q = some 1 → q ≠ a0 → fI H632 q (K.1.2 0 0) = fI s.heap q (K.1.2 0 0) := fun q hq hn => (Wr.neI wH632 (Or.inr (x_apart hKT hts inX0 tyX0 tyX0_ok nmX0 rfl 0 16 (by decide) (by decide) (by decide)))).trans (f620 q hq hn)
  have m634 := m621.trans (Wr.neI wH632 (Or.inr (x_apart hKT hts inX0 tyX0 tyX0_ok nmX0 rfl 0 16 (by decide) (by decide) (by decide)))).symm
  have m635 := m622.trans (Wr.neR wH632 (Or.inr (x_apart hKT hts inX0 tyX0 tyX0_ok nmX0 rfl 1 16 (by decide) (by decide) (by decide)))).symm
  have m636 := m623.trans (Wr.neR wH632 (Or.inr (x_apart hKT hts inX0 tyX0 tyX0_ok nmX0 rfl 2 16 (by decide) (by decide) (by decide)))).symm
  have m637 := m624.trans (Wr.neR wH632 (Or.inr (x_apart hKT hts inX0 tyX0 tyX0_ok nmX0 rfl 3 16 (by decide) (by decide) (by decide)))).symm
  have m638 := m625.trans (Wr.neR wH632 (Or.inr (x_apart hKT hts inX0 tyX0 tyX0_ok nmX0 rfl 4 16 (by decide) (by decide) (by decide)))).symm
  have m639 := m626.trans (Wr.neR wH632 (Or.inr (x_apart hKT hts inX0 tyX0 tyX0_ok nmX0 rfl 5 16 (by decide) (by decide) (by decide)))).symm
  have m640 := m627.trans (Wr.neR wH632 (Or.inr (x_apart hKT hts inX0 tyX0 tyX0_ok nmX0 rfl 17 16 (by decide) (by decide) (by decide)))).symm
  have m641 := (Wr.neI wH632 (Or.inr (x_apart hKT hts inX0 tyX0 tyX0_ok nmX0 rfl 8 16 (by decide) (by decide) (by decide)))).trans m628
  have m642 := (Wr.neI wH632 (Or.inr (x_apart hKT hts inX0 tyX0 tyX0_ok nmX0 rfl 9 16 (by decide) (by decide) (by decide)))).trans m629
  have m643 := (Wr.neI wH632 (Or.inr (x_apart hKT hts inX0 tyX0 tyX0_ok nmX0 rfl 14 16 (by decide) (by decide) (by decide)))).trans m630
  have m644 := (Wr.neI wH632 (Or.inr (x_apart hKT hts inX0 tyX0 tyX0_ok nmX0 rfl 15 16 (by decide) (by decide) (by decide)))).trans m631
  have m645 := Wr.I wH632
  exact x_vret C hQ dX0_begin_81 hSH632 (by decide) (by decide) (⟨x1, rfl, m634, by omega, f633, hTH632⟩)

set_option maxHeartbeats 4000000 in
set_option maxRecDepth 100000 in
theorem a_X9_barAt_b (l : Launch) (K : KE) (G : Nat → Option Nat) (H : Heap) {a0 wq bq : Nat} (x1 s1 : Int32) (hT : TY K G H) (ga0 : G a0 = some 68) (gwq : G wq = some 0) (ewq : wq = fR H a0 (K.1.2 9 0)) (gbq : G bq = some 25) (ebq : bq = fR H wq (K.1.2 8 0)) (es1 : s1 = fI H wq (K.1.2 8 1)) : MX l K yX9_barAt cX9_barAt 2 (some (.object "RingBars$Bar")) 1 22 0 0 [.ref a0, .int x1] H (AE G [] H.size) (fun v H1 => TY K G H1 ∧ ((v = some .null ∧ (x1.toInt < 0 ∨ s1.toInt ≤ x1.toInt)) ∨ ∃ q : Nat, v = some (.ref q) ∧ q = fR H bq x1.toNatClampNeg ∧ G q = some 1 ∧ 0 ≤ x1.toInt ∧ x1.toInt < s1.toInt)) := by
  refine MX.of (by decide +kernel) (Nat.le_of_ble_eq_true rfl) ?_
  intro p e s m below meth c ls Q C hH hl hQ
  subst hH
  have C : CX p K s m _ meth c RX9 cX9_barAt 2 (some (.object "RingBars$Bar")) "barAt" := C
  obtain ⟨hx, hb, hml, hown, hts, hKT, hr, hlocks, hnm⟩ := id C
  have hl : lv_has ls 2 [(0, .ref a0), (1, .int x1)] := hl
  have hS : va_S (AE G [] s.heap.size) s.heap s.heap [] := va_S.rf
  have n_0 : (0 : Int32).toInt = 0 := rfl
  have n_1 : (1 : Int32).toInt = 1 := rfl
  have bs1 := ty_fi (x := s1) (k := 1) es1 hT gwq rg_0 rfl
  refine lv_iload_n hx hb dX9_barAt_0 rfl (lv_at hl 1 rfl) ?_
  refine lv_iconst (v := 0) hx hb dX9_barAt_1 (by decide) ?_
  refine lv_aload_n hx hb dX9_barAt_2 rfl (lv_at hl 0 rfl) ?_
  refine x_gr C hT (ci := 9) (k := 0) rfl inX9 (by decide) wF_X9_12 ga0 rg_68 rfl dX9_barAt_3 (fun q101 eq101 gq101 => ?_)
  have uq101 : wq = q101 := (ewq).trans eq101.symm
  subst uq101
  refine x_gi C hT (ci := 8) (k := 1) rfl inX8 (by decide) wF_X9_64 gwq rg_0 rfl dX9_barAt_6 (fun x102 ex102 bx102 => ?_)
  have ux102 : s1 = x102 := (es1).trans ex102.symm
  subst ux102
  refine lv_iconst (v := 1) hx hb dX9_barAt_9 (by decide) ?_
  refine lv_isub hx hb dX9_barAt_10 ?_
  refine lv_topi (fun x103 ex103 => ?_)
  have tx103 := i_sub ex103 (by omega)
  refine x_S (As := [.int x1, .int 0, .int x103]) (rest := []) C (c_X9_within l K G s.heap (x1) (0) (x103) hT) yo_X9_within wM_X9_89 ⟨⟨by decide, by decide⟩, by decide, by decide⟩ rfl hl.1 rfl (Nat.le_of_ble_eq_true rfl) dX9_barAt_11 hS (AE_sub (fun _ _ => rfl) (by decide) hS.1) (fun vH104 H104 locsH104 pH104 zH104 kH104 hSH104 => ?_)
  have hqH104 := pH104.1.symm
  subst hqH104
  rcases pH104.2 with ⟨hvH104, hcH104⟩ | ⟨hvH104, hcH104⟩
  · subst hvH104
    refine W.eq (g2 := F0 m 14 ls [.int 1]) rfl ?_
    refine lv_if_eq (tgt := 29) hx hb dX9_barAt_14 (by decide) (fun c105 => ?_) (fun c105 => ?_)
    · have k106 := i_eq c105
      exfalso
      omega
    · have k106 := i_ne c105
      refine lv_aload_n hx hb dX9_barAt_17 rfl (lv_at hl 0 rfl) ?_
      refine x_gr C hT (ci := 9) (k := 0) rfl inX9 (by decide) wF_X9_12 ga0 rg_68 rfl dX9_barAt_18 (fun q107 eq107 gq107 => ?_)
      have uq107 : wq = q107 := (ewq).trans eq107.symm
      subst uq107
      refine x_gr C hT (ci := 8) (k := 0) rfl inX8 (by decide) wF_X9_68 gwq rg_0 rfl dX9_barAt_21 (fun q108 eq108 gq108 => ?_)
      have uq108 : bq = q108 := (ebq).trans eq108.symm
      subst uq108
      refine lv_iload_n hx hb dX9_barAt_24 rfl (lv_at hl 1 rfl) ?_
      refine x_ar C hT rfl rfl gbq rg_25 ⟨by omega, by show _ < ((10 : Nat) : Int); omega⟩ dX9_barAt_25 (fun q109 eq109 gq109 => ?_)
      refine lv_goto (tgt := 30) hx hb dX9_barAt_26 (by decide) ?_
      exact x_aret C hQ (Or.inr ⟨_, rfl⟩) dX9_barAt_30 hSH104 (by decide) (by decide) (⟨hT, Or.inr ⟨q109, rfl, eq109, gq109, by omega, by omega⟩⟩)
  · subst hvH104
    refine W.eq (g2 := F0 m 14 ls [.int 0]) rfl ?_
    refine lv_if_eq (tgt := 29) hx hb dX9_barAt_14 (by decide) (fun c110 => ?_) (fun c110 => ?_)
    · have k111 := i_eq c110
      refine lv_null hx hb dX9_barAt_29 ?_
      exact x_aret C hQ (Or.inl rfl) dX9_barAt_30 hSH104 (by decide) (by decide) (⟨hT, Or.inl ⟨rfl, by omega⟩⟩)
    · have k111 := i_ne c110
      exfalso
      omega

set_option maxHeartbeats 4000000 in
set_option maxRecDepth 100000 in
theorem a_X0_has_x (l : Launch) (K : KE) (G : Nat → Option Nat) (H : Heap) {a0 : Nat} (x1 : Int32) (sz : Int32) (hT : TY K G H) (ga0 : G a0 = some 1) (esz : sz = fI H a0 (K.1.2 0 0)) : MX l K yX0_has cX0_has 2 (some .boolean) 0 0 0 0 [.ref a0, .int x1] H (AE G [] H.size) (fun v H1 => ∃ (r : Int32), v = some (.int r) ∧ (0 ≤ r.toInt ∧ r.toInt ≤ 1) ∧ ((r.toInt = 1 ∧ 0 ≤ x1.toInt ∧ x1.toInt < sz.toInt) ∨ (r.toInt = 0 ∧ (x1.toInt < 0 ∨ sz.toInt ≤ x1.toInt))) ∧ TY K G H1) := by
  refine MX.of (by decide +kernel) (Nat.le_of_ble_eq_true rfl) ?_
  intro p e s m below meth c ls Q C hH hl hQ
  subst hH
  have C : CX p K s m _ meth c RX0 cX0_has 2 (some .boolean) "has" := C
  obtain ⟨hx, hb, hml, hown, hts, hKT, hr, hlocks, hnm⟩ := id C
  have hl : lv_has ls 2 [(0, .ref a0), (1, .int x1)] := hl
  have hS : va_S (AE G [] s.heap.size) s.heap s.heap [] := va_S.rf
  have n_0 : (0 : Int32).toInt = 0 := rfl
  have n_1 : (1 : Int32).toInt = 1 := rfl
  have bsz := ty_fi (x := sz) (k := 0) esz hT ga0 rg_1 rfl
  refine lv_iload_n hx hb dX0_has_0 rfl (lv_at hl 1 rfl) ?_
  refine lv_if_lt (tgt := 16) hx hb dX0_has_1 (by decide) (fun c121 => ?_) (fun c121 => ?_)
  · have k122 := i_lt c121
    refine lv_iconst (v := 0) hx hb dX0_has_16 (by decide) ?_
    exact x_zret C hQ (Or.inl rfl) dX0_has_17 hS (by decide) (by decide) (⟨0, rfl, by decide, by omega, hT⟩)
  · have k122 := i_nlt c121
    refine lv_iload_n hx hb dX0_has_4 rfl (lv_at hl 1 rfl) ?_
    refine lv_aload_n hx hb dX0_has_5 rfl (lv_at hl 0 rfl) ?_
    refine x_gi C hT (ci := 0) (k := 0) rfl inX0 (by decide) wF_X0_50 ga0 rg_1 rfl dX0_has_6 (fun x123 ex123 bx123 => ?_)
    have ux123 : sz = x123 := (esz).trans ex123.symm
    subst ux123
    refine lv_icmp_ge (tgt := 16) hx hb dX0_has_9 (by decide) (fun c124 => ?_) (fun c124 => ?_)
    · have k125 := i_le c124
      refine lv_iconst (v := 0) hx hb dX0_has_16 (by decide) ?_
      exact x_zret C hQ (Or.inl rfl) dX0_has_17 hS (by decide) (by decide) (⟨0, rfl, by decide, by omega, hT⟩)
    · have k125 := i_nle c124
      refine lv_iconst (v := 1) hx hb dX0_has_12 (by decide) ?_
      refine lv_goto (tgt := 17) hx hb dX0_has_13 (by decide) ?_
      exact x_zret C hQ (Or.inr rfl) dX0_has_17 hS (by decide) (by decide) (⟨1, rfl, by decide, by omega, hT⟩)

set_option maxHeartbeats 4000000 in
set_option maxRecDepth 100000 in
theorem a_X9_wax_b (l : Launch) (K : KE) (G : Nat → Option Nat) (H : Heap) {a0 : Nat} (x1 : Int32) (x2 : Int32) (x3 : Int32) {wq : Nat} {bq : Nat} (z : Int32) (s1 : Int32) (hT : TY K G H) (ga0 : G a0 = some 68) (gwq : G wq = some 0) (ewq : wq = fR H a0 (K.1.2 9 0)) (gbq : G bq = some 25) (ebq : bq = fR H wq (K.1.2 8 0)) (es1 : s1 = fI H wq (K.1.2 8 1)) (hy0 : z = fI H (fR H bq x1.toNatClampNeg) (K.1.2 0 0)) : MX l K yX9_wax cX9_wax 5 (some .boolean) 2 43 0 0 [.ref a0, .int x1, .int x2, .int x3] H (AE G [5] H.size) (fun v H1 => ∃ (r : Int32), v = some (.int r) ∧ (0 ≤ r.toInt ∧ r.toInt ≤ 1) ∧ ((0 ≤ x1.toInt ∧ x1.toInt < s1.toInt ∧ 0 ≤ x2.toInt ∧ x2.toInt < z.toInt ∧ 0 ≤ x3.toInt ∧ x3.toInt ≤ 99 ∧ r.toInt = 1) ∨ ((x1.toInt < 0 ∨ s1.toInt ≤ x1.toInt ∨ x2.toInt < 0 ∨ z.toInt ≤ x2.toInt ∨ x3.toInt < 0 ∨ 99 < x3.toInt) ∧ r.toInt = 0)) ∧ TY K G H1) := by
  refine MX.of (by decide +kernel) (Nat.le_of_ble_eq_true rfl) ?_
  intro p e s m below meth c ls Q C hH hl hQ
  subst hH
  have C : CX p K s m _ meth c RX9 cX9_wax 5 (some .boolean) "wax" := C
  obtain ⟨hx, hb, hml, hown, hts, hKT, hr, hlocks, hnm⟩ := id C
  have hl : lv_has ls 5 [(0, .ref a0), (1, .int x1), (2, .int x2), (3, .int x3)] := hl
  have hS : va_S (AE G [5] s.heap.size) s.heap s.heap [] := va_S.rf
  have n_0 : (0 : Int32).toInt = 0 := rfl
  have n_1 : (1 : Int32).toInt = 1 := rfl
  have n_99 : (99 : Int32).toInt = 99 := rfl
  have bs1 := ty_fi (x := s1) (k := 1) es1 hT gwq rg_0 rfl
  refine lv_aload_n hx hb dX9_wax_0 rfl (lv_at hl 0 rfl) ?_
  refine lv_iload_n hx hb dX9_wax_1 rfl (lv_at hl 1 rfl) ?_
  refine x_V (As := [.int x1]) (rest := []) C (a_X9_barAt_b l K G s.heap (x1) (s1) hT ga0 gwq ewq gbq ebq es1) yo_X9_barAt wM_X9_78 ⟨⟨by decide, by decide⟩, by decide, by decide⟩ (x_rv C hT (ci := 9) rfl ga0 rg_68) rfl hl.1 rfl (Nat.le_of_ble_eq_true rfl) dX9_wax_2 hS (AE_sub (fun _ _ => rfl) (by decide) hS.1) (fun vH229 H229 locsH229 pH229 zH229 kH229 hSH229 => ?_)
  obtain ⟨hTH229, pdH229⟩ := pH229
  have m230 := (ewq).trans (fR_kept (x_lt hT kH229 ga0 (by decide))).symm
  have m231 := (ebq).trans (fR_kept (x_lt hT kH229 gwq (by decide))).symm
  have m232 := (es1).trans (fI_kept (x_lt hT kH229 gwq (by decide))).symm
  rcases pdH229 with ⟨hvH229, hcH229⟩ | ⟨q233, hvH229, Eq233, gq233, hcH229, hdH229⟩
  · skip
    subst hvH229
    refine W.eq (g2 := F0 m 5 ls [.null]) rfl ?_
    refine lv_astoreN (lv' := [(4, .null), (0, .ref a0), (1, .int x1), (2, .int x2), (3, .int x3)]) hx hb dX9_wax_5 hl (by decide) rfl (fun ls234 hl235 => ?_)
    refine lv_aloadN hx hb dX9_wax_7 (lv_at hl235 0 rfl) ?_
    refine lv_ifnullN (tgt := 31) hx hb dX9_wax_9 (by decide) ?_
    refine lv_iconst (v := 0) hx hb dX9_wax_31 (by decide) ?_
    exact x_zret C hQ (Or.inl rfl) dX9_wax_32 hSH229 (by decide) (by decide) (⟨0, rfl, by decide, by omega, hTH229⟩)
  · skip
    have m236 : z = fI s.heap q233 (K.1.2 0 0) := by rw [Eq233]; exact hy0
    have m237 := m236.trans (fI_kept (x_lt hT kH229 gq233 (by decide))).symm
    have bzq233 := ty_fi (x := z) (k := 0) m236 hT gq233 rg_1 rfl
    subst hvH229
    refine W.eq (g2 := F0 m 5 ls [.ref q233]) rfl ?_
    refine lv_astore (lv' := [(4, .ref q233), (0, .ref a0), (1, .int x1), (2, .int x2), (3, .int x3)]) hx hb dX9_wax_5 hl (by decide) rfl (fun ls238 hl239 => ?_)
    refine lv_aload hx hb dX9_wax_7 (lv_at hl239 0 rfl) ?_
    refine lv_ifnull hx hb dX9_wax_9 ?_
    refine lv_aload hx hb dX9_wax_12 (lv_at hl239 0 rfl) ?_
    refine lv_iload_n hx hb dX9_wax_14 rfl (lv_at hl239 3 rfl) ?_
    refine x_V (As := [.int x2]) (rest := []) C (a_X0_has_x l K G H229 (x2) (z) hTH229 gq233 m237) yo_X0_has wM_X9_82 ⟨⟨by decide, by decide⟩, by decide, by decide⟩ (x_rv C hTH229 (ci := 0) rfl gq233 rg_1) rfl hl239.1 rfl (Nat.le_of_ble_eq_true rfl) dX9_wax_15 hSH229 (AE_sub (fun _ _ => rfl) (by decide) hSH229.1) (fun vH240 H240 locsH240 pH240 zH240 kH240 hSH240 => ?_)
    obtain ⟨x241, hvH240, bx241, hrH240, hTH240⟩ := pH240
    subst hvH240
    have m242 := (m230).trans (fR_kept (x_lt hTH229 kH240 ga0 (by decide))).symm
    have m243 := (m231).trans (fR_kept (x_lt hTH229 kH240 gwq (by decide))).symm
    have m244 := (m232).trans (fI_kept (x_lt hTH229 kH240 gwq (by decide))).symm
    have m245 := (m237).trans (fI_kept (x_lt hTH229 kH240 gq233 (by decide))).symm
    refine W.eq (g2 := F0 m 18 ls238 [.int x241]) rfl ?_
    refine lv_if_eq (tgt := 31) hx hb dX9_wax_18 (by decide) (fun c246 => ?_) (fun c246 => ?_)
    · have k247 := i_eq c246
      refine lv_iconst (v := 0) hx hb dX9_wax_31 (by decide) ?_
      exact x_zret C hQ (Or.inl rfl) dX9_wax_32 hSH240 (by decide) (by decide) (⟨0, rfl, by decide, by omega, hTH240⟩)
    · have k247 := i_ne c246
      refine lv_iload_n hx hb dX9_wax_21 rfl (lv_at hl239 4 rfl) ?_
      refine lv_iconst (v := 0) hx hb dX9_wax_22 (by decide) ?_
      refine lv_bipush (v := 99) hx hb dX9_wax_23 (by decide) ?_
      refine x_S (As := [.int x3, .int 0, .int 99]) (rest := []) C (c_X9_within l K G H240 (x3) (0) (99) hTH240) yo_X9_within wM_X9_89 ⟨⟨by decide, by decide⟩, by decide, by decide⟩ rfl hl239.1 rfl (Nat.le_of_ble_eq_true rfl) dX9_wax_25 hSH240 (AE_sub (fun _ _ => rfl) (by decide) hSH240.1) (fun vH248 H248 locsH248 pH248 zH248 kH248 hSH248 => ?_)
      have hqH248 := pH248.1.symm
      subst hqH248
      rcases pH248.2 with ⟨hvH248, hcH248⟩ | ⟨hvH248, hcH248⟩
      · subst hvH248
        refine W.eq (g2 := F0 m 28 ls238 [.int 1]) rfl ?_
        refine lv_if_ne (tgt := 33) hx hb dX9_wax_28 (by decide) (fun c249 => ?_) (fun c249 => ?_)
        · have k250 := i_ne c249
          refine lv_aload hx hb dX9_wax_33 (lv_at hl239 0 rfl) ?_
          refine x_gr C hTH240 (ci := 0) (k := 4) rfl inX0 (by decide) wF_X9_102 gq233 rg_1 rfl dX9_wax_35 (fun q251 eq251 gq251 => ?_)
          refine lv_iload_n hx hb dX9_wax_38 rfl (lv_at hl239 3 rfl) ?_
          refine lv_iload_n hx hb dX9_wax_39 rfl (lv_at hl239 4 rfl) ?_
          refine x_iast C hTH240 hSH248 gq251 rg_5 (by omega) (by show _ < ((16 : Nat) : Int); omega) ⟨by have := i_rng x3; omega, by have := i_rng x3; omega⟩ (AE_in gq251 (by decide)) dX9_wax_40 (fun H252 locsH252 hTH252 hSH252 wH252 => ?_)
          have m253 := m242.trans (Wr.neR wH252 (Or.inl (G_ne ga0 gq251 (by decide)))).symm
          have m254 := m243.trans (Wr.neR wH252 (Or.inl (G_ne gwq gq251 (by decide)))).symm
          have m255 := m244.trans (Wr.neI wH252 (Or.inl (G_ne gwq gq251 (by decide)))).symm
          have m256 := m245.trans (Wr.neI wH252 (Or.inl (G_ne gq233 gq251 (by decide)))).symm
          have m257 := eq251.trans (Wr.neR wH252 (Or.inl (G_ne gq233 gq251 (by decide)))).symm
          have m258 := Wr.I wH252
          have m258 := m258.symm
          refine lv_iconst (v := 1) hx hb dX9_wax_41 (by decide) ?_
          exact x_zret C hQ (Or.inr rfl) dX9_wax_42 hSH252 (by decide) (by decide) (⟨1, rfl, by decide, by omega, hTH252⟩)
        · have k250 := i_eq c249
          exfalso
          omega
      · subst hvH248
        refine W.eq (g2 := F0 m 28 ls238 [.int 0]) rfl ?_
        refine lv_if_ne (tgt := 33) hx hb dX9_wax_28 (by decide) (fun c259 => ?_) (fun c259 => ?_)
        · have k260 := i_ne c259
          exfalso
          omega
        · have k260 := i_eq c259
          refine lv_iconst (v := 0) hx hb dX9_wax_31 (by decide) ?_
          exact x_zret C hQ (Or.inl rfl) dX9_wax_32 hSH248 (by decide) (by decide) (⟨0, rfl, by decide, by omega, hTH240⟩)

set_option maxHeartbeats 4000000 in
set_option maxRecDepth 100000 in
theorem a_X9_holes_b (l : Launch) (K : KE) (G : Nat → Option Nat) (H : Heap) {a0 : Nat} (x1 : Int32) (x2 : Int32) (x3 : Int32) {wq : Nat} {bq : Nat} (z : Int32) (s1 : Int32) (hT : TY K G H) (ga0 : G a0 = some 68) (gwq : G wq = some 0) (ewq : wq = fR H a0 (K.1.2 9 0)) (gbq : G bq = some 25) (ebq : bq = fR H wq (K.1.2 8 0)) (es1 : s1 = fI H wq (K.1.2 8 1)) (hy0 : z = fI H (fR H bq x1.toNatClampNeg) (K.1.2 0 0)) : MX l K yX9_holes cX9_holes 5 (some .boolean) 2 43 0 0 [.ref a0, .int x1, .int x2, .int x3] H (AE G [1] H.size) (fun v H1 => ∃ (r : Int32), v = some (.int r) ∧ (0 ≤ r.toInt ∧ r.toInt ≤ 1) ∧ ((0 ≤ x1.toInt ∧ x1.toInt < s1.toInt ∧ 0 ≤ x2.toInt ∧ x2.toInt < x3.toInt ∧ x3.toInt < z.toInt ∧ r.toInt = 1) ∨ ((x1.toInt < 0 ∨ s1.toInt ≤ x1.toInt ∨ x2.toInt < 0 ∨ x3.toInt ≤ x2.toInt ∨ z.toInt ≤ x3.toInt) ∧ r.toInt = 0)) ∧ (∀ q : Nat, G q = some 1 → fI H1 q (K.1.2 0 0) = fI H q (K.1.2 0 0)) ∧ TY K G H1) := by
  refine MX.of (by decide +kernel) (Nat.le_of_ble_eq_true rfl) ?_
  intro p e s m below meth c ls Q C hH hl hQ
  subst hH
  have C : CX p K s m _ meth c RX9 cX9_holes 5 (some .boolean) "holes" := C
  obtain ⟨hx, hb, hml, hown, hts, hKT, hr, hlocks, hnm⟩ := id C
  have hl : lv_has ls 5 [(0, .ref a0), (1, .int x1), (2, .int x2), (3, .int x3)] := hl
  have hS : va_S (AE G [1] s.heap.size) s.heap s.heap [] := va_S.rf
  have n_0 : (0 : Int32).toInt = 0 := rfl
  have n_1 : (1 : Int32).toInt = 1 := rfl
  have bs1 := ty_fi (x := s1) (k := 1) es1 hT gwq rg_0 rfl
  have f0_rf : ∀ q : Nat, G q = some 1 → fI s.heap q (K.1.2 0 0) = fI s.heap q (K.1.2 0 0) := fun _ _ => rfl
  refine lv_aload_n hx hb dX9_holes_0 rfl (lv_at hl 0 rfl) ?_
  refine lv_iload_n hx hb dX9_holes_1 rfl (lv_at hl 1 rfl) ?_
  refine x_V (As := [.int x1]) (rest := []) C (a_X9_barAt_b l K G s.heap (x1) (s1) hT ga0 gwq ewq gbq ebq es1) yo_X9_barAt wM_X9_78 ⟨⟨by decide, by decide⟩, by decide, by decide⟩ (x_rv C hT (ci := 9) rfl ga0 rg_68) rfl hl.1 rfl (Nat.le_of_ble_eq_true rfl) dX9_holes_2 hS (AE_sub (fun _ _ => rfl) (by decide) hS.1) (fun vH289 H289 locsH289 pH289 zH289 kH289 hSH289 => ?_)
  obtain ⟨hTH289, pdH289⟩ := pH289
  have f290 : ∀ q : Nat, G q = some 1 → fI H289 q (K.1.2 0 0) = fI s.heap q (K.1.2 0 0) := fun q hq => (fI_kept (x_lt hT kH289 hq (by decide))).trans (f0_rf q hq)
  have m291 := (ewq).trans (fR_kept (x_lt hT kH289 ga0 (by decide))).symm
  have m292 := (ebq).trans (fR_kept (x_lt hT kH289 gwq (by decide))).symm
  have m293 := (es1).trans (fI_kept (x_lt hT kH289 gwq (by decide))).symm
  rcases pdH289 with ⟨hvH289, hcH289⟩ | ⟨q294, hvH289, Eq294, gq294, hcH289, hdH289⟩
  · skip
    subst hvH289
    refine W.eq (g2 := F0 m 5 ls [.null]) rfl ?_
    refine lv_astoreN (lv' := [(4, .null), (0, .ref a0), (1, .int x1), (2, .int x2), (3, .int x3)]) hx hb dX9_holes_5 hl (by decide) rfl (fun ls295 hl296 => ?_)
    refine lv_aloadN hx hb dX9_holes_7 (lv_at hl296 0 rfl) ?_
    refine lv_ifnullN (tgt := 35) hx hb dX9_holes_9 (by decide) ?_
    refine lv_iconst (v := 0) hx hb dX9_holes_35 (by decide) ?_
    exact x_zret C hQ (Or.inl rfl) dX9_holes_36 hSH289 (by decide) (by decide) (⟨0, rfl, by decide, by omega, f290, hTH289⟩)
  · skip
    have m297 : z = fI s.heap q294 (K.1.2 0 0) := by rw [Eq294]; exact hy0
    have m298 := m297.trans (fI_kept (x_lt hT kH289 gq294 (by decide))).symm
    have bzq294 := ty_fi (x := z) (k := 0) m297 hT gq294 rg_1 rfl
    subst hvH289
    refine W.eq (g2 := F0 m 5 ls [.ref q294]) rfl ?_
    refine lv_astore (lv' := [(4, .ref q294), (0, .ref a0), (1, .int x1), (2, .int x2), (3, .int x3)]) hx hb dX9_holes_5 hl (by decide) rfl (fun ls299 hl300 => ?_)
    refine lv_aload hx hb dX9_holes_7 (lv_at hl300 0 rfl) ?_
    refine lv_ifnull hx hb dX9_holes_9 ?_
    refine lv_aload hx hb dX9_holes_12 (lv_at hl300 0 rfl) ?_
    refine lv_iload_n hx hb dX9_holes_14 rfl (lv_at hl300 3 rfl) ?_
    refine x_V (As := [.int x2]) (rest := []) C (a_X0_has_x l K G H289 (x2) (z) hTH289 gq294 m298) yo_X0_has wM_X9_82 ⟨⟨by decide, by decide⟩, by decide, by decide⟩ (x_rv C hTH289 (ci := 0) rfl gq294 rg_1) rfl hl300.1 rfl (Nat.le_of_ble_eq_true rfl) dX9_holes_15 hSH289 (AE_sub (fun _ _ => rfl) (by decide) hSH289.1) (fun vH301 H301 locsH301 pH301 zH301 kH301 hSH301 => ?_)
    obtain ⟨x302, hvH301, bx302, hrH301, hTH301⟩ := pH301
    subst hvH301
    have f303 : ∀ q : Nat, G q = some 1 → fI H301 q (K.1.2 0 0) = fI s.heap q (K.1.2 0 0) := fun q hq => (fI_kept (x_lt hTH289 kH301 hq (by decide))).trans (f290 q hq)
    have m304 := (m291).trans (fR_kept (x_lt hTH289 kH301 ga0 (by decide))).symm
    have m305 := (m292).trans (fR_kept (x_lt hTH289 kH301 gwq (by decide))).symm
    have m306 := (m293).trans (fI_kept (x_lt hTH289 kH301 gwq (by decide))).symm
    have m307 := (m298).trans (fI_kept (x_lt hTH289 kH301 gq294 (by decide))).symm
    refine W.eq (g2 := F0 m 18 ls299 [.int x302]) rfl ?_
    refine lv_if_eq (tgt := 35) hx hb dX9_holes_18 (by decide) (fun c308 => ?_) (fun c308 => ?_)
    · have k309 := i_eq c308
      refine lv_iconst (v := 0) hx hb dX9_holes_35 (by decide) ?_
      exact x_zret C hQ (Or.inl rfl) dX9_holes_36 hSH301 (by decide) (by decide) (⟨0, rfl, by decide, by omega, f303, hTH301⟩)
    · have k309 := i_ne c308
      refine lv_aload hx hb dX9_holes_21 (lv_at hl300 0 rfl) ?_
      refine lv_iload_n hx hb dX9_holes_23 rfl (lv_at hl300 4 rfl) ?_
      refine x_V (As := [.int x3]) (rest := []) C (a_X0_has_x l K G H301 (x3) (z) hTH301 gq294 m307) yo_X0_has wM_X9_82 ⟨⟨by decide, by decide⟩, by decide, by decide⟩ (x_rv C hTH301 (ci := 0) rfl gq294 rg_1) rfl hl300.1 rfl (Nat.le_of_ble_eq_true rfl) dX9_holes_24 hSH301 (AE_sub (fun _ _ => rfl) (by decide) hSH301.1) (fun vH310 H310 locsH310 pH310 zH310 kH310 hSH310 => ?_)
      obtain ⟨x311, hvH310, bx311, hrH310, hTH310⟩ := pH310
      subst hvH310
      have f312 : ∀ q : Nat, G q = some 1 → fI H310 q (K.1.2 0 0) = fI s.heap q (K.1.2 0 0) := fun q hq => (fI_kept (x_lt hTH301 kH310 hq (by decide))).trans (f303 q hq)
      have m313 := (m304).trans (fR_kept (x_lt hTH301 kH310 ga0 (by decide))).symm
      have m314 := (m305).trans (fR_kept (x_lt hTH301 kH310 gwq (by decide))).symm
      have m315 := (m306).trans (fI_kept (x_lt hTH301 kH310 gwq (by decide))).symm
      have m316 := (m307).trans (fI_kept (x_lt hTH301 kH310 gq294 (by decide))).symm
      refine W.eq (g2 := F0 m 27 ls299 [.int x311]) rfl ?_
      refine lv_if_eq (tgt := 35) hx hb dX9_holes_27 (by decide) (fun c317 => ?_) (fun c317 => ?_)
      · have k318 := i_eq c317
        refine lv_iconst (v := 0) hx hb dX9_holes_35 (by decide) ?_
        exact x_zret C hQ (Or.inl rfl) dX9_holes_36 hSH310 (by decide) (by decide) (⟨0, rfl, by decide, by omega, f312, hTH310⟩)
      · have k318 := i_ne c317
        refine lv_iload_n hx hb dX9_holes_30 rfl (lv_at hl300 3 rfl) ?_
        refine lv_iload_n hx hb dX9_holes_31 rfl (lv_at hl300 4 rfl) ?_
        refine lv_icmp_lt (tgt := 37) hx hb dX9_holes_32 (by decide) (fun c319 => ?_) (fun c319 => ?_)
        · have k320 := i_lt c319
          refine lv_aload hx hb dX9_holes_37 (lv_at hl300 0 rfl) ?_
          refine lv_iload_n hx hb dX9_holes_39 rfl (lv_at hl300 3 rfl) ?_
          refine x_put C hTH310 hSH310 (ci := 0) (k := 15) (v := .int x2) (ty0 := tyX0) rfl inX0 tyX0_ok nmX0 (by decide) rfl wF_X9_266 gq294 rg_1 rfl rfl (okI (by have := i_rng x2; omega) (by have := i_rng x2; omega)) rfl rfl (AE_in gq294 (by decide)) dX9_holes_40 (fun H321 locsH321 hTH321 hSH321 wH321 => ?_)
          have f322 : ∀ q : Nat, G q = some 1 → fI H321 q (K.1.2 0 0) = fI s.heap q (K.1.2 0 0) := fun q hq => (Wr.neI wH321 (Or.inr (x_apart hKT hts inX0 tyX0 tyX0_ok nmX0 rfl 0 15 (by decide) (by decide) (by decide)))).trans (f312 q hq)
          have m323 := m313.trans (Wr.neR wH321 (Or.inl (G_ne ga0 gq294 (by decide)))).symm
          have m324 := m314.trans (Wr.neR wH321 (Or.inl (G_ne gwq gq294 (by decide)))).symm
          have m325 := m315.trans (Wr.neI wH321 (Or.inl (G_ne gwq gq294 (by decide)))).symm
          have m326 := m316.trans (Wr.neI wH321 (Or.inr (x_apart hKT hts inX0 tyX0 tyX0_ok nmX0 rfl 0 15 (by decide) (by decide) (by decide)))).symm
          have m327 := Wr.I wH321
          have m327 := m327.symm
          refine lv_aload hx hb dX9_holes_43 (lv_at hl300 0 rfl) ?_
          refine lv_iload_n hx hb dX9_holes_45 rfl (lv_at hl300 4 rfl) ?_
          refine x_put C hTH321 hSH321 (ci := 0) (k := 16) (v := .int x3) (ty0 := tyX0) rfl inX0 tyX0_ok nmX0 (by decide) rfl wF_X9_269 gq294 rg_1 rfl rfl (okI (by have := i_rng x3; omega) (by have := i_rng x3; omega)) rfl rfl (AE_in gq294 (by decide)) dX9_holes_46 (fun H328 locsH328 hTH328 hSH328 wH328 => ?_)
          have f329 : ∀ q : Nat, G q = some 1 → fI H328 q (K.1.2 0 0) = fI s.heap q (K.1.2 0 0) := fun q hq => (Wr.neI wH328 (Or.inr (x_apart hKT hts inX0 tyX0 tyX0_ok nmX0 rfl 0 16 (by decide) (by decide) (by decide)))).trans (f322 q hq)
          have m330 := m323.trans (Wr.neR wH328 (Or.inl (G_ne ga0 gq294 (by decide)))).symm
          have m331 := m324.trans (Wr.neR wH328 (Or.inl (G_ne gwq gq294 (by decide)))).symm
          have m332 := m325.trans (Wr.neI wH328 (Or.inl (G_ne gwq gq294 (by decide)))).symm
          have m333 := m326.trans (Wr.neI wH328 (Or.inr (x_apart hKT hts inX0 tyX0 tyX0_ok nmX0 rfl 0 16 (by decide) (by decide) (by decide)))).symm
          have m334 := m327.trans (Wr.neI wH328 (Or.inr (x_apart hKT hts inX0 tyX0 tyX0_ok nmX0 rfl 15 16 (by decide) (by decide) (by decide)))).symm
          have m335 := Wr.I wH328
          have m335 := m335.symm
          refine lv_iconst (v := 1) hx hb dX9_holes_49 (by decide) ?_
          exact x_zret C hQ (Or.inr rfl) dX9_holes_50 hSH328 (by decide) (by decide) (⟨1, rfl, by decide, by omega, f329, hTH328⟩)
        · have k320 := i_nlt c319
          refine lv_iconst (v := 0) hx hb dX9_holes_35 (by decide) ?_
          exact x_zret C hQ (Or.inl rfl) dX9_holes_36 hSH310 (by decide) (by decide) (⟨0, rfl, by decide, by omega, f312, hTH310⟩)

set_option maxHeartbeats 4000000 in
set_option maxRecDepth 100000 in
theorem a_X9_bar_b (l : Launch) (K : KE) (G : Nat → Option Nat) (H : Heap) {a0 : Nat} (x1 : Int32) {wq : Nat} {bq : Nat} (s1 : Int32) (s4 : Int32) (s5 : Int32) (s10 : Int32) (s13 : Int32) (s16 : Int32) (hT : TY K G H) (ga0 : G a0 = some 68) (gwq : G wq = some 0) (ewq : wq = fR H a0 (K.1.2 9 0)) (gbq : G bq = some 25) (ebq : bq = fR H wq (K.1.2 8 0)) (es1 : s1 = fI H wq (K.1.2 8 1)) (es4 : s4 = fI H wq (K.1.2 8 4)) (es5 : s5 = fI H wq (K.1.2 8 5)) (es10 : s10 = fI H wq (K.1.2 8 10)) (es13 : s13 = fI H wq (K.1.2 8 13)) (es16 : s16 = fI H wq (K.1.2 8 16)) (hy0 : DB H bq) : MX l K yX9_bar cX9_bar 2 (some .int) 2 44 0 0 [.ref a0, .int x1] H (AE G [0, 1, 2, 3, 4, 5, 6, 15] H.size) (fun v H1 => ∃ (r : Int32) (t0 : Int32) (t1 : Int32) (t2 : Int32) (t3 : Int32) (t4 : Int32) (t5 : Int32), v = some (.int r) ∧ t0 = fI H1 wq (K.1.2 8 1) ∧ t1 = fI H1 wq (K.1.2 8 4) ∧ t2 = fI H1 wq (K.1.2 8 5) ∧ t3 = fI H1 wq (K.1.2 8 10) ∧ t4 = fI H1 wq (K.1.2 8 13) ∧ t5 = fI H1 wq (K.1.2 8 16) ∧ (((3 ≤ x1.toInt ∧ x1.toInt ≤ 16 ∧ s1.toInt ≤ 9 ∧ r.toInt = s1.toInt ∧ t0.toInt = s1.toInt + 1) ∨ ((x1.toInt < 3 ∨ 16 < x1.toInt ∨ 9 < s1.toInt) ∧ r.toInt = -1 ∧ t0.toInt = s1.toInt)) ∧ t1.toInt = s4.toInt ∧ t2.toInt = s5.toInt ∧ t3.toInt = s10.toInt ∧ t4.toInt = s13.toInt ∧ t5.toInt = s16.toInt) ∧ bq = fR H1 wq (K.1.2 8 0) ∧ (∀ j : Nat, j < 10 → (j : Int) ≠ s1.toInt → fI H1 (fR H bq j) (K.1.2 0 0) = fI H (fR H bq j) (K.1.2 0 0)) ∧ (3 ≤ x1.toInt ∧ x1.toInt ≤ 16 ∧ s1.toInt ≤ 9 → ∃ t : Int32, t = fI H1 (fR H bq s1.toNatClampNeg) (K.1.2 0 0) ∧ t.toInt = x1.toInt) ∧ (¬ (3 ≤ x1.toInt ∧ x1.toInt ≤ 16 ∧ s1.toInt ≤ 9) → ∀ j : Nat, j < 10 → fI H1 (fR H bq j) (K.1.2 0 0) = fI H (fR H bq j) (K.1.2 0 0)) ∧ TY K G H1) := by
  refine MX.of (by decide +kernel) (Nat.le_of_ble_eq_true rfl) ?_
  intro p e s m below meth c ls Q C hH hl hQ
  subst hH
  have C : CX p K s m _ meth c RX9 cX9_bar 2 (some .int) "bar" := C
  obtain ⟨hx, hb, hml, hown, hts, hKT, hr, hlocks, hnm⟩ := id C
  have hl : lv_has ls 2 [(0, .ref a0), (1, .int x1)] := hl
  have hS : va_S (AE G [0, 1, 2, 3, 4, 5, 6, 15] s.heap.size) s.heap s.heap [] := va_S.rf
  have n_m1 : ((-1) : Int32).toInt = -1 := rfl
  have n_1 : (1 : Int32).toInt = 1 := rfl
  have n_3 : (3 : Int32).toInt = 3 := rfl
  have n_10 : (10 : Int32).toInt = 10 := rfl
  have n_16 : (16 : Int32).toInt = 16 := rfl
  have bs1 := ty_fi (x := s1) (k := 1) es1 hT gwq rg_0 rfl
  have bs4 := ty_fi (x := s4) (k := 4) es4 hT gwq rg_0 rfl
  have bs5 := ty_fi (x := s5) (k := 5) es5 hT gwq rg_0 rfl
  have bs10 := ty_fi (x := s10) (k := 10) es10 hT gwq rg_0 rfl
  have bs13 := ty_fi (x := s13) (k := 13) es13 hT gwq rg_0 rfl
  have bs16 := ty_fi (x := s16) (k := 16) es16 hT gwq rg_0 rfl
  have hdb := hy0
  have f0_rf : ∀ q : Nat, G q = some 1 → fI s.heap q (K.1.2 0 0) = fI s.heap q (K.1.2 0 0) := fun _ _ => rfl
  refine lv_iload_n hx hb dX9_bar_0 rfl (lv_at hl 1 rfl) ?_
  refine lv_iconst (v := 3) hx hb dX9_bar_1 (by decide) ?_
  refine lv_icmp_lt (tgt := 23) hx hb dX9_bar_2 (by decide) (fun c277 => ?_) (fun c277 => ?_)
  · have k278 := i_lt c277
    refine lv_iconst (v := (-1)) hx hb dX9_bar_23 (by decide) ?_
    exact x_iret C hQ dX9_bar_24 hS (by decide) (by decide) (⟨(-1), s1, s4, s5, s10, s13, s16, rfl, es1, es4, es5, es10, es13, es16, by omega, ebq, fun j hj hn => rfl, fun h => by exfalso; omega, fun _ j hj => rfl, hT⟩)
  · have k278 := i_nlt c277
    refine lv_iload_n hx hb dX9_bar_5 rfl (lv_at hl 1 rfl) ?_
    refine lv_bipush (v := 16) hx hb dX9_bar_6 (by decide) ?_
    refine lv_icmp_gt (tgt := 23) hx hb dX9_bar_8 (by decide) (fun c279 => ?_) (fun c279 => ?_)
    · have k280 := i_lt c279
      refine lv_iconst (v := (-1)) hx hb dX9_bar_23 (by decide) ?_
      exact x_iret C hQ dX9_bar_24 hS (by decide) (by decide) (⟨(-1), s1, s4, s5, s10, s13, s16, rfl, es1, es4, es5, es10, es13, es16, by omega, ebq, fun j hj hn => rfl, fun h => by exfalso; omega, fun _ j hj => rfl, hT⟩)
    · have k280 := i_nlt c279
      refine lv_aload_n hx hb dX9_bar_11 rfl (lv_at hl 0 rfl) ?_
      refine x_gr C hT (ci := 9) (k := 0) rfl inX9 (by decide) wF_X9_12 ga0 rg_68 rfl dX9_bar_12 (fun q281 eq281 gq281 => ?_)
      have uq281 : wq = q281 := (ewq).trans eq281.symm
      subst uq281
      refine x_gi C hT (ci := 8) (k := 1) rfl inX8 (by decide) wF_X9_64 gwq rg_0 rfl dX9_bar_15 (fun x282 ex282 bx282 => ?_)
      have ux282 : s1 = x282 := (es1).trans ex282.symm
      subst ux282
      refine lv_bipush (v := 10) hx hb dX9_bar_18 (by decide) ?_
      refine lv_icmp_lt (tgt := 25) hx hb dX9_bar_20 (by decide) (fun c283 => ?_) (fun c283 => ?_)
      · have k284 := i_lt c283
        refine lv_aload_n hx hb dX9_bar_25 rfl (lv_at hl 0 rfl) ?_
        refine x_gr C hT (ci := 9) (k := 0) rfl inX9 (by decide) wF_X9_12 ga0 rg_68 rfl dX9_bar_26 (fun q285 eq285 gq285 => ?_)
        have uq285 : wq = q285 := (ewq).trans eq285.symm
        subst uq285
        refine x_gr C hT (ci := 8) (k := 0) rfl inX8 (by decide) wF_X9_68 gwq rg_0 rfl dX9_bar_29 (fun q286 eq286 gq286 => ?_)
        have uq286 : bq = q286 := (ebq).trans eq286.symm
        subst uq286
        refine lv_aload_n hx hb dX9_bar_32 rfl (lv_at hl 0 rfl) ?_
        refine x_gr C hT (ci := 9) (k := 0) rfl inX9 (by decide) wF_X9_12 ga0 rg_68 rfl dX9_bar_33 (fun q287 eq287 gq287 => ?_)
        have uq287 : wq = q287 := (ewq).trans eq287.symm
        subst uq287
        refine x_gi C hT (ci := 8) (k := 1) rfl inX8 (by decide) wF_X9_64 gwq rg_0 rfl dX9_bar_36 (fun x288 ex288 bx288 => ?_)
        have ux288 : s1 = x288 := (es1).trans ex288.symm
        subst ux288
        refine x_ar C hT rfl rfl gbq rg_25 ⟨by omega, by show _ < ((10 : Nat) : Int); omega⟩ dX9_bar_39 (fun q289 eq289 gq289 => ?_)
        refine lv_iload_n hx hb dX9_bar_40 rfl (lv_at hl 1 rfl) ?_
        obtain ⟨x290, ex290⟩ : ∃ z : Int32, z = fI s.heap q289 (K.1.2 0 0) := ⟨_, rfl⟩
        have bx290 := ty_fi (x := x290) (k := 0) ex290 hT gq289 rg_1 rfl
        refine x_V (As := [.int x1]) (rest := []) C (a_X0_begin_q l K G s.heap (x1) (x290) hT gq289 (by omega) ex290) yo_X0_begin wM_X9_72 ⟨⟨by decide, by decide⟩, by decide, by decide⟩ (x_rv C hT (ci := 0) rfl gq289 rg_1) rfl hl.1 rfl (Nat.le_of_ble_eq_true rfl) dX9_bar_41 hS (AE_sub (fun _ _ => rfl) (by decide) hS.1) (fun vH291 H291 locsH291 pH291 zH291 kH291 hSH291 => ?_)
        obtain ⟨x292, hvH291, ex292, hrH291, m293, hTH291⟩ := pH291
        subst hvH291
        have m294 := (ewq).trans (fR_kept (x_lt hT kH291 ga0 (by decide))).symm
        have m295 := (ebq).trans (fR_kept (x_lt hT kH291 gwq (by decide))).symm
        have m296 := (es1).trans (fI_kept (x_lt hT kH291 gwq (by decide))).symm
        have m297 := (es4).trans (fI_kept (x_lt hT kH291 gwq (by decide))).symm
        have m298 := (es5).trans (fI_kept (x_lt hT kH291 gwq (by decide))).symm
        have m299 := (es10).trans (fI_kept (x_lt hT kH291 gwq (by decide))).symm
        have m300 := (es13).trans (fI_kept (x_lt hT kH291 gwq (by decide))).symm
        have m301 := (es16).trans (fI_kept (x_lt hT kH291 gwq (by decide))).symm
        have bx292 := ty_fi (x := x292) (k := 0) ex292 hTH291 gq289 rg_1 rfl
        have f302 : ∀ q : Nat, G q = some 1 → q ≠ q289 → fI H291 q (K.1.2 0 0) = fI s.heap q (K.1.2 0 0) := fun q hq hn => (m293 q hq hn).trans (f0_rf q hq)
        refine W.eq (g2 := F0 m 44 ls []) rfl ?_
        refine lv_aload_n hx hb dX9_bar_44 rfl (lv_at hl 0 rfl) ?_
        refine x_gr C hTH291 (ci := 9) (k := 0) rfl inX9 (by decide) wF_X9_12 ga0 rg_68 rfl dX9_bar_45 (fun q303 eq303 gq303 => ?_)
        have uq303 : wq = q303 := (m294).trans eq303.symm
        subst uq303
        refine lv_dup hx hb dX9_bar_48 rfl ?_
        refine x_gi C hTH291 (ci := 8) (k := 1) rfl inX8 (by decide) wF_X9_64 gwq rg_0 rfl dX9_bar_49 (fun x304 ex304 bx304 => ?_)
        have ux304 : s1 = x304 := (m296).trans ex304.symm
        subst ux304
        refine lv_iconst (v := 1) hx hb dX9_bar_52 (by decide) ?_
        refine lv_iadd hx hb dX9_bar_53 ?_
        refine lv_topi (fun x305 ex305 => ?_)
        have tx305 := i_add ex305 (by omega)
        refine x_put C hTH291 hSH291 (ci := 8) (k := 1) (v := .int x305) (ty0 := tyX8) rfl inX8 tyX8_ok nmX8 (by decide) rfl wF_X9_64 gwq rg_0 rfl rfl (okI (by have := i_rng x305; omega) (by have := i_rng x305; omega)) rfl rfl (AE_in gwq (by decide)) dX9_bar_54 (fun H306 locsH306 hTH306 hSH306 wH306 => ?_)
        have f307 : ∀ q : Nat, G q = some 1 → q ≠ q289 → fI H306 q (K.1.2 0 0) = fI s.heap q (K.1.2 0 0) := fun q hq hn => (Wr.neI wH306 (Or.inl (G_ne hq gwq (by decide)))).trans (f302 q hq hn)
        have m308 := m294.trans (Wr.neR wH306 (Or.inl (G_ne ga0 gwq (by decide)))).symm
        have m309 := m295.trans (Wr.neR wH306 (Or.inr (x_apart hKT hts inX8 tyX8 tyX8_ok nmX8 rfl 0 1 (by decide) (by decide) (by decide)))).symm
        have m311 := m297.trans (Wr.neI wH306 (Or.inr (x_apart hKT hts inX8 tyX8 tyX8_ok nmX8 rfl 4 1 (by decide) (by decide) (by decide)))).symm
        have m312 := m298.trans (Wr.neI wH306 (Or.inr (x_apart hKT hts inX8 tyX8 tyX8_ok nmX8 rfl 5 1 (by decide) (by decide) (by decide)))).symm
        have m313 := m299.trans (Wr.neI wH306 (Or.inr (x_apart hKT hts inX8 tyX8 tyX8_ok nmX8 rfl 10 1 (by decide) (by decide) (by decide)))).symm
        have m314 := m300.trans (Wr.neI wH306 (Or.inr (x_apart hKT hts inX8 tyX8 tyX8_ok nmX8 rfl 13 1 (by decide) (by decide) (by decide)))).symm
        have m315 := m301.trans (Wr.neI wH306 (Or.inr (x_apart hKT hts inX8 tyX8 tyX8_ok nmX8 rfl 16 1 (by decide) (by decide) (by decide)))).symm
        have m316 := ex292.trans (Wr.neI wH306 (Or.inl (G_ne gq289 gwq (by decide)))).symm
        have m317 := Wr.I wH306
        have m317 := m317.symm
        refine lv_aload_n hx hb dX9_bar_57 rfl (lv_at hl 0 rfl) ?_
        refine x_gr C hTH306 (ci := 9) (k := 0) rfl inX9 (by decide) wF_X9_12 ga0 rg_68 rfl dX9_bar_58 (fun q318 eq318 gq318 => ?_)
        have uq318 : wq = q318 := (m308).trans eq318.symm
        subst uq318
        refine x_gi C hTH306 (ci := 8) (k := 1) rfl inX8 (by decide) wF_X9_64 gwq rg_0 rfl dX9_bar_61 (fun x319 ex319 bx319 => ?_)
        have ux319 : x305 = x319 := (m317).trans ex319.symm
        subst ux319
        refine lv_iconst (v := 1) hx hb dX9_bar_64 (by decide) ?_
        refine lv_isub hx hb dX9_bar_65 ?_
        refine lv_topi (fun x320 ex320 => ?_)
        have tx320 := i_sub ex320 (by omega)
        exact x_iret C hQ dX9_bar_66 hSH306 (by decide) (by decide) (⟨x320, x305, s4, s5, s10, s13, s16, rfl, m317, m311, m312, m313, m314, m315, by omega, m309, BX.one (B := 1) hdb (bar_g hT gbq) (by omega) eq289 f307, fun _ => ⟨x292, by rw [← eq289]; exact m316, by omega⟩, fun h => by exfalso; exact h (by omega), hTH306⟩)
      · have k284 := i_nlt c283
        refine lv_iconst (v := (-1)) hx hb dX9_bar_23 (by decide) ?_
        exact x_iret C hQ dX9_bar_24 hS (by decide) (by decide) (⟨(-1), s1, s4, s5, s10, s13, s16, rfl, es1, es4, es5, es10, es13, es16, by omega, ebq, fun j hj hn => rfl, fun h => by exfalso; omega, fun _ j hj => rfl, hT⟩)
