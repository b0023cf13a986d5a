set_option maxRecDepth 100000 in
theorem lw_switch {p : Program} {l : Launch} {e : Env} {s : State} {m : MethodId} {below : List Frame} {meth : Method} {c : Code} {K : KE} {b0 L : Nat} {xs : Nat → Int32} {G : Nat → Option Nat} {H : Heap} {locs : List Loc} {a b : Nat} {cells slots : Nat} {ls : Array Slot} {i : Int32} {n : Nat} (D : LC p K s m meth c b0 L xs) (S : SX K s G H locs a b) (hl : lv_has ls 4 [(3, .int i), (2, .ref b), (1, .ref a), (0, .ref b0)]) (hi : 0 ≤ i.toInt ∧ i.toInt + 6 ≤ L) (hn : n ≤ 511) (hB : BD K H a cells slots) (nx : ∀ (G : Nat → Option Nat) (H : Heap) (locs : List Loc) (cells slots : Nat) (ls : Array Slot), SX K s G H locs a b → lv_has ls 4 [(3, .int i), (2, .ref b), (1, .ref a), (0, .ref b0)] → BD K H a cells slots → W p l e room_1 s m #[Value.ref b0] below meth c H locs cells slots (lw_Z below #[Value.ref b0] s) (F0 m 1509 ls [])) : W p l e room_1 s m #[Value.ref b0] below meth c H locs cells slots (lw_Z below #[Value.ref b0] s) (F0 m 27 ls []) := by
  obtain ⟨C, hX, hbl, hL⟩ := id D
  obtain ⟨hx, hb, hml, hown, hts, hKT, hr, hlocks, hnm⟩ := id C
  have hS := S.2.2.2.2.2.2.2.2.2.2.2.2
  refine lv_aload_n hx hb dL_law_27 rfl (lv_at hl 3 rfl) ?_
  refine lv_iload_n hx hb dL_law_28 rfl (lv_at hl 0 rfl) ?_
  refine va_sld hx hb hX hbl (Nat.not_le.mpr hbl) hS (vp_in_iff.mpr (by omega)) dL_law_29 ?_
  refine lv_bipush (v := 63) hx hb dL_law_30 (by decide) ?_
  refine lv_iand hx hb dL_law_32 ?_
  refine lv_topi (fun x ex => ?_)
  have bx := i_and63 ex
  clear ex
  by_cases h0 : x = 0
  · have n0 : (0 : Int32).toInt = 0 := rfl
    have n1 : (34 : Int32).toInt = 34 := rfl
    have n2 : x.toInt = 0 := by rw [h0]; rfl
    refine lv_tableIn (tgt := 188) hx hb dL_law_33 (by omega) (by omega) (off := 155) (by rw [h0]; rfl) (by decide) ?_
    exact lw_c0 D S hl hi hn hB nx
  replace h0 := i_ne h0
  rw [show (0 : Int32).toInt = 0 from rfl] at h0
  by_cases h1 : x = 1
  · have n0 : (0 : Int32).toInt = 0 := rfl
    have n1 : (34 : Int32).toInt = 34 := rfl
    have n2 : x.toInt = 1 := by rw [h1]; rfl
    refine lv_tableIn (tgt := 211) hx hb dL_law_33 (by omega) (by omega) (off := 178) (by rw [h1]; rfl) (by decide) ?_
    exact lw_c1 D S hl hi hn hB nx
  replace h1 := i_ne h1
  rw [show (1 : Int32).toInt = 1 from rfl] at h1
  by_cases h2 : x = 2
  · have n0 : (0 : Int32).toInt = 0 := rfl
    have n1 : (34 : Int32).toInt = 34 := rfl
    have n2 : x.toInt = 2 := by rw [h2]; rfl
    refine lv_tableIn (tgt := 274) hx hb dL_law_33 (by omega) (by omega) (off := 241) (by rw [h2]; rfl) (by decide) ?_
    exact lw_c2 D S hl hi hn hB nx
  replace h2 := i_ne h2
  rw [show (2 : Int32).toInt = 2 from rfl] at h2
  by_cases h3 : x = 3
  · have n0 : (0 : Int32).toInt = 0 := rfl
    have n1 : (34 : Int32).toInt = 34 := rfl
    have n2 : x.toInt = 3 := by rw [h3]; rfl
    refine lv_tableIn (tgt := 317) hx hb dL_law_33 (by omega) (by omega) (off := 284) (by rw [h3]; rfl) (by decide) ?_
    exact lw_c3 D S hl hi hn hB nx
  replace h3 := i_ne h3
  rw [show (3 : Int32).toInt = 3 from rfl] at h3
  by_cases h4 : x = 4
  · have n0 : (0 : Int32).toInt = 0 := rfl
    have n1 : (34 : Int32).toInt = 34 := rfl
    have n2 : x.toInt = 4 := by rw [h4]; rfl
    refine lv_tableIn (tgt := 360) hx hb dL_law_33 (by omega) (by omega) (off := 327) (by rw [h4]; rfl) (by decide) ?_
    exact lw_c4 D S hl hi hn hB nx
  replace h4 := i_ne h4
  rw [show (4 : Int32).toInt = 4 from rfl] at h4
  by_cases h5 : x = 5
  · have n0 : (0 : Int32).toInt = 0 := rfl
    have n1 : (34 : Int32).toInt = 34 := rfl
    have n2 : x.toInt = 5 := by rw [h5]; rfl
    refine lv_tableIn (tgt := 423) hx hb dL_law_33 (by omega) (by omega) (off := 390) (by rw [h5]; rfl) (by decide) ?_
    exact lw_c5 D S hl hi hn hB nx
  replace h5 := i_ne h5
  rw [show (5 : Int32).toInt = 5 from rfl] at h5
  by_cases h6 : x = 6
  · have n0 : (0 : Int32).toInt = 0 := rfl
    have n1 : (34 : Int32).toInt = 34 := rfl
    have n2 : x.toInt = 6 := by rw [h6]; rfl
    refine lv_tableIn (tgt := 446) hx hb dL_law_33 (by omega) (by omega) (off := 413) (by rw [h6]; rfl) (by decide) ?_
    exact lw_c6 D S hl hi hn hB nx
  replace h6 := i_ne h6
  rw [show (6 : Int32).toInt = 6 from rfl] at h6
  by_cases h7 : x = 7
  · have n0 : (0 : Int32).toInt = 0 := rfl
    have n1 : (34 : Int32).toInt = 34 := rfl
    have n2 : x.toInt = 7 := by rw [h7]; rfl
    refine lv_tableIn (tgt := 479) hx hb dL_law_33 (by omega) (by omega) (off := 446) (by rw [h7]; rfl) (by decide) ?_
    exact lw_c7 D S hl hi hn hB nx
  replace h7 := i_ne h7
  rw [show (7 : Int32).toInt = 7 from rfl] at h7
  by_cases h8 : x = 8
  · have n0 : (0 : Int32).toInt = 0 := rfl
    have n1 : (34 : Int32).toInt = 34 := rfl
    have n2 : x.toInt = 8 := by rw [h8]; rfl
    refine lv_tableIn (tgt := 502) hx hb dL_law_33 (by omega) (by omega) (off := 469) (by rw [h8]; rfl) (by decide) ?_
    exact lw_c8 D S hl hi hn hB nx
  replace h8 := i_ne h8
  rw [show (8 : Int32).toInt = 8 from rfl] at h8
  by_cases h9 : x = 9
  · have n0 : (0 : Int32).toInt = 0 := rfl
    have n1 : (34 : Int32).toInt = 34 := rfl
    have n2 : x.toInt = 9 := by rw [h9]; rfl
    refine lv_tableIn (tgt := 525) hx hb dL_law_33 (by omega) (by omega) (off := 492) (by rw [h9]; rfl) (by decide) ?_
    exact lw_c9 D S hl hi hn hB nx
  replace h9 := i_ne h9
  rw [show (9 : Int32).toInt = 9 from rfl] at h9
  by_cases h10 : x = 10
  · have n0 : (0 : Int32).toInt = 0 := rfl
    have n1 : (34 : Int32).toInt = 34 := rfl
    have n2 : x.toInt = 10 := by rw [h10]; rfl
    refine lv_tableIn (tgt := 588) hx hb dL_law_33 (by omega) (by omega) (off := 555) (by rw [h10]; rfl) (by decide) ?_
    exact lw_c10 D S hl hi hn hB nx
  replace h10 := i_ne h10
  rw [show (10 : Int32).toInt = 10 from rfl] at h10
  by_cases h11 : x = 11
  · have n0 : (0 : Int32).toInt = 0 := rfl
    have n1 : (34 : Int32).toInt = 34 := rfl
    have n2 : x.toInt = 11 := by rw [h11]; rfl
    refine lv_tableIn (tgt := 621) hx hb dL_law_33 (by omega) (by omega) (off := 588) (by rw [h11]; rfl) (by decide) ?_
    exact lw_c11 D S hl hi hn hB nx
  replace h11 := i_ne h11
  rw [show (11 : Int32).toInt = 11 from rfl] at h11
  by_cases h12 : x = 12
  · have n0 : (0 : Int32).toInt = 0 := rfl
    have n1 : (34 : Int32).toInt = 34 := rfl
    have n2 : x.toInt = 12 := by rw [h12]; rfl
    refine lv_tableIn (tgt := 664) hx hb dL_law_33 (by omega) (by omega) (off := 631) (by rw [h12]; rfl) (by decide) ?_
    exact lw_c12 D S hl hi hn hB nx
  replace h12 := i_ne h12
  rw [show (12 : Int32).toInt = 12 from rfl] at h12
  by_cases h13 : x = 13
  · have n0 : (0 : Int32).toInt = 0 := rfl
    have n1 : (34 : Int32).toInt = 34 := rfl
    have n2 : x.toInt = 13 := by rw [h13]; rfl
    refine lv_tableIn (tgt := 707) hx hb dL_law_33 (by omega) (by omega) (off := 674) (by rw [h13]; rfl) (by decide) ?_
    exact lw_c13 D S hl hi hn hB nx
  replace h13 := i_ne h13
  rw [show (13 : Int32).toInt = 13 from rfl] at h13
  by_cases h14 : x = 14
  · have n0 : (0 : Int32).toInt = 0 := rfl
    have n1 : (34 : Int32).toInt = 34 := rfl
    have n2 : x.toInt = 14 := by rw [h14]; rfl
    refine lv_tableIn (tgt := 750) hx hb dL_law_33 (by omega) (by omega) (off := 717) (by rw [h14]; rfl) (by decide) ?_
    exact lw_c14 D S hl hi hn hB nx
  replace h14 := i_ne h14
  rw [show (14 : Int32).toInt = 14 from rfl] at h14
  by_cases h15 : x = 15
  · have n0 : (0 : Int32).toInt = 0 := rfl
    have n1 : (34 : Int32).toInt = 34 := rfl
    have n2 : x.toInt = 15 := by rw [h15]; rfl
    refine lv_tableIn (tgt := 773) hx hb dL_law_33 (by omega) (by omega) (off := 740) (by rw [h15]; rfl) (by decide) ?_
    exact lw_c15 D S hl hi hn hB nx
  replace h15 := i_ne h15
  rw [show (15 : Int32).toInt = 15 from rfl] at h15
  by_cases h16 : x = 16
  · have n0 : (0 : Int32).toInt = 0 := rfl
    have n1 : (34 : Int32).toInt = 34 := rfl
    have n2 : x.toInt = 16 := by rw [h16]; rfl
    refine lv_tableIn (tgt := 806) hx hb dL_law_33 (by omega) (by omega) (off := 773) (by rw [h16]; rfl) (by decide) ?_
    exact lw_c16 D S hl hi hn hB nx
  replace h16 := i_ne h16
  rw [show (16 : Int32).toInt = 16 from rfl] at h16
  by_cases h17 : x = 17
  · have n0 : (0 : Int32).toInt = 0 := rfl
    have n1 : (34 : Int32).toInt = 34 := rfl
    have n2 : x.toInt = 17 := by rw [h17]; rfl
    refine lv_tableIn (tgt := 849) hx hb dL_law_33 (by omega) (by omega) (off := 816) (by rw [h17]; rfl) (by decide) ?_
    exact lw_c17 D S hl hi hn hB nx
  replace h17 := i_ne h17
  rw [show (17 : Int32).toInt = 17 from rfl] at h17
  by_cases h18 : x = 18
  · have n0 : (0 : Int32).toInt = 0 := rfl
    have n1 : (34 : Int32).toInt = 34 := rfl
    have n2 : x.toInt = 18 := by rw [h18]; rfl
    refine lv_tableIn (tgt := 882) hx hb dL_law_33 (by omega) (by omega) (off := 849) (by rw [h18]; rfl) (by decide) ?_
    exact lw_c18 D S hl hi hn hB nx
  replace h18 := i_ne h18
  rw [show (18 : Int32).toInt = 18 from rfl] at h18
  by_cases h19 : x = 19
  · have n0 : (0 : Int32).toInt = 0 := rfl
    have n1 : (34 : Int32).toInt = 34 := rfl
    have n2 : x.toInt = 19 := by rw [h19]; rfl
    refine lv_tableIn (tgt := 915) hx hb dL_law_33 (by omega) (by omega) (off := 882) (by rw [h19]; rfl) (by decide) ?_
    exact lw_c19 D S hl hi hn hB nx
  replace h19 := i_ne h19
  rw [show (19 : Int32).toInt = 19 from rfl] at h19
  by_cases h20 : x = 20
  · have n0 : (0 : Int32).toInt = 0 := rfl
    have n1 : (34 : Int32).toInt = 34 := rfl
    have n2 : x.toInt = 20 := by rw [h20]; rfl
    refine lv_tableIn (tgt := 958) hx hb dL_law_33 (by omega) (by omega) (off := 925) (by rw [h20]; rfl) (by decide) ?_
    exact lw_c20 D S hl hi hn hB nx
  replace h20 := i_ne h20
  rw [show (20 : Int32).toInt = 20 from rfl] at h20
  by_cases h21 : x = 21
  · have n0 : (0 : Int32).toInt = 0 := rfl
    have n1 : (34 : Int32).toInt = 34 := rfl
    have n2 : x.toInt = 21 := by rw [h21]; rfl
    refine lv_tableIn (tgt := 1011) hx hb dL_law_33 (by omega) (by omega) (off := 978) (by rw [h21]; rfl) (by decide) ?_
    exact lw_c21 D S hl hi hn hB nx
  replace h21 := i_ne h21
  rw [show (21 : Int32).toInt = 21 from rfl] at h21
  by_cases h22 : x = 22
  · have n0 : (0 : Int32).toInt = 0 := rfl
    have n1 : (34 : Int32).toInt = 34 := rfl
    have n2 : x.toInt = 22 := by rw [h22]; rfl
    refine lv_tableIn (tgt := 1034) hx hb dL_law_33 (by omega) (by omega) (off := 1001) (by rw [h22]; rfl) (by decide) ?_
    exact lw_c22 D S hl hi hn hB nx
  replace h22 := i_ne h22
  rw [show (22 : Int32).toInt = 22 from rfl] at h22
  by_cases h23 : x = 23
  · have n0 : (0 : Int32).toInt = 0 := rfl
    have n1 : (34 : Int32).toInt = 34 := rfl
    have n2 : x.toInt = 23 := by rw [h23]; rfl
    refine lv_tableIn (tgt := 1077) hx hb dL_law_33 (by omega) (by omega) (off := 1044) (by rw [h23]; rfl) (by decide) ?_
    exact lw_c23 D S hl hi hn hB nx
  replace h23 := i_ne h23
  rw [show (23 : Int32).toInt = 23 from rfl] at h23
  by_cases h24 : x = 24
  · have n0 : (0 : Int32).toInt = 0 := rfl
    have n1 : (34 : Int32).toInt = 34 := rfl
    have n2 : x.toInt = 24 := by rw [h24]; rfl
    refine lv_tableIn (tgt := 1120) hx hb dL_law_33 (by omega) (by omega) (off := 1087) (by rw [h24]; rfl) (by decide) ?_
    exact lw_c24 D S hl hi hn hB nx
  replace h24 := i_ne h24
  rw [show (24 : Int32).toInt = 24 from rfl] at h24
  by_cases h25 : x = 25
  · have n0 : (0 : Int32).toInt = 0 := rfl
    have n1 : (34 : Int32).toInt = 34 := rfl
    have n2 : x.toInt = 25 := by rw [h25]; rfl
    refine lv_tableIn (tgt := 1163) hx hb dL_law_33 (by omega) (by omega) (off := 1130) (by rw [h25]; rfl) (by decide) ?_
    exact lw_c25 D S hl hi hn hB nx
  replace h25 := i_ne h25
  rw [show (25 : Int32).toInt = 25 from rfl] at h25
  by_cases h26 : x = 26
  · have n0 : (0 : Int32).toInt = 0 := rfl
    have n1 : (34 : Int32).toInt = 34 := rfl
    have n2 : x.toInt = 26 := by rw [h26]; rfl
    refine lv_tableIn (tgt := 1216) hx hb dL_law_33 (by omega) (by omega) (off := 1183) (by rw [h26]; rfl) (by decide) ?_
    exact lw_c26 D S hl hi hn hB nx
  replace h26 := i_ne h26
  rw [show (26 : Int32).toInt = 26 from rfl] at h26
  by_cases h27 : x = 27
  · have n0 : (0 : Int32).toInt = 0 := rfl
    have n1 : (34 : Int32).toInt = 34 := rfl
    have n2 : x.toInt = 27 := by rw [h27]; rfl
    refine lv_tableIn (tgt := 1249) hx hb dL_law_33 (by omega) (by omega) (off := 1216) (by rw [h27]; rfl) (by decide) ?_
    exact lw_c27 D S hl hi hn hB nx
  replace h27 := i_ne h27
  rw [show (27 : Int32).toInt = 27 from rfl] at h27
  by_cases h28 : x = 28
  · have n0 : (0 : Int32).toInt = 0 := rfl
    have n1 : (34 : Int32).toInt = 34 := rfl
    have n2 : x.toInt = 28 := by rw [h28]; rfl
    refine lv_tableIn (tgt := 1282) hx hb dL_law_33 (by omega) (by omega) (off := 1249) (by rw [h28]; rfl) (by decide) ?_
    exact lw_c28 D S hl hi hn hB nx
  replace h28 := i_ne h28
  rw [show (28 : Int32).toInt = 28 from rfl] at h28
  by_cases h29 : x = 29
  · have n0 : (0 : Int32).toInt = 0 := rfl
    have n1 : (34 : Int32).toInt = 34 := rfl
    have n2 : x.toInt = 29 := by rw [h29]; rfl
    refine lv_tableIn (tgt := 1315) hx hb dL_law_33 (by omega) (by omega) (off := 1282) (by rw [h29]; rfl) (by decide) ?_
    exact lw_c29 D S hl hi hn hB nx
  replace h29 := i_ne h29
  rw [show (29 : Int32).toInt = 29 from rfl] at h29
  by_cases h30 : x = 30
  · have n0 : (0 : Int32).toInt = 0 := rfl
    have n1 : (34 : Int32).toInt = 34 := rfl
    have n2 : x.toInt = 30 := by rw [h30]; rfl
    refine lv_tableIn (tgt := 1348) hx hb dL_law_33 (by omega) (by omega) (off := 1315) (by rw [h30]; rfl) (by decide) ?_
    exact lw_c30 D S hl hi hn hB nx
  replace h30 := i_ne h30
  rw [show (30 : Int32).toInt = 30 from rfl] at h30
  by_cases h31 : x = 31
  · have n0 : (0 : Int32).toInt = 0 := rfl
    have n1 : (34 : Int32).toInt = 34 := rfl
    have n2 : x.toInt = 31 := by rw [h31]; rfl
    refine lv_tableIn (tgt := 1381) hx hb dL_law_33 (by omega) (by omega) (off := 1348) (by rw [h31]; rfl) (by decide) ?_
    exact lw_c31 D S hl hi hn hB nx
  replace h31 := i_ne h31
  rw [show (31 : Int32).toInt = 31 from rfl] at h31
  by_cases h32 : x = 32
  · have n0 : (0 : Int32).toInt = 0 := rfl
    have n1 : (34 : Int32).toInt = 34 := rfl
    have n2 : x.toInt = 32 := by rw [h32]; rfl
    refine lv_tableIn (tgt := 1404) hx hb dL_law_33 (by omega) (by omega) (off := 1371) (by rw [h32]; rfl) (by decide) ?_
    exact lw_c32 D S hl hi hn hB nx
  replace h32 := i_ne h32
  rw [show (32 : Int32).toInt = 32 from rfl] at h32
  by_cases h33 : x = 33
  · have n0 : (0 : Int32).toInt = 0 := rfl
    have n1 : (34 : Int32).toInt = 34 := rfl
    have n2 : x.toInt = 33 := by rw [h33]; rfl
    refine lv_tableIn (tgt := 1447) hx hb dL_law_33 (by omega) (by omega) (off := 1414) (by rw [h33]; rfl) (by decide) ?_
    exact lw_c33 D S hl hi hn hB nx
  replace h33 := i_ne h33
  rw [show (33 : Int32).toInt = 33 from rfl] at h33
  by_cases h34 : x = 34
  · have n0 : (0 : Int32).toInt = 0 := rfl
    have n1 : (34 : Int32).toInt = 34 := rfl
    have n2 : x.toInt = 34 := by rw [h34]; rfl
    refine lv_tableIn (tgt := 1486) hx hb dL_law_33 (by omega) (by omega) (off := 1453) (by rw [h34]; rfl) (by decide) ?_
    exact lw_c34 D S hl hi hn hB nx
  replace h34 := i_ne h34
  rw [show (34 : Int32).toInt = 34 from rfl] at h34
  refine lv_tableOut (tgt := 1509) hx hb dL_law_33 (by omega) (by decide) ?_
  exact nx G H locs cells slots ls S hl hB
set_option maxRecDepth 100000 in
theorem lw_loop {p : Program} {l : Launch} {e : Env} {s : State} {m : MethodId} {below : List Frame} {meth : Method} {c : Code} {K : KE} {b0 L : Nat} {xs : Nat → Int32} {a b : Nat} (D : LC p K s m meth c b0 L xs) : ∀ (f n : Nat) (i : Int32) (G : Nat → Option Nat) (H : Heap) (locs : List Loc) (cells slots : Nat) (ls : Array Slot), SX K s G H locs a b → lv_has ls 4 [(3, .int i), (2, .ref b), (1, .ref a), (0, .ref b0)] → i.toInt = 6 * (n : Int) → n ≤ 512 → BD K H a cells slots → 513 - (n : Int) ≤ (f : Int) → W p l e room_1 s m #[Value.ref b0] below meth c H locs cells slots (lw_Z below #[Value.ref b0] s) (F0 m 18 ls []) := by
  obtain ⟨C, hX, hbl, hL⟩ := id D
  obtain ⟨hx, hb, hml, hown, hts, hKT, hr, hlocks, hnm⟩ := id C
  have n_6 : (6 : Int32).toInt = 6 := rfl
  have eL : (Int32.ofNat L).toInt = (L : Int) := Int32.toInt_ofNat_of_lt (by omega)
  intro f
  induction f with
  | zero => intro n i G H locs cells slots ls S hl hi hn hB hf; exfalso; omega
  | succ f ih =>
    intro n i G H locs cells slots ls S hl hi hn hB hf
    have hc := hB.1
    have hs := hB.2.1
    have hS := S.2.2.2.2.2.2.2.2.2.2.2.2
    refine lv_iload_n hx hb dL_law_18 rfl (lv_at hl 0 rfl) ?_
    refine lv_aload_n hx hb dL_law_19 rfl (lv_at hl 3 rfl) ?_
    refine va_slen hx hb hX hbl (Nat.not_le.mpr hbl) hS dL_law_20 ?_
    refine lv_bipush (v := 6) hx hb dL_law_21 (by decide) ?_
    refine lv_isub hx hb dL_law_23 ?_
    refine lv_topi (fun y ey => ?_)
    have ty := i_sub ey (by omega)
    refine lv_icmp_gt (tgt := 1515) hx hb dL_law_24 (by decide) (fun c1 => ?_) (fun c1 => ?_)
    · refine lv_iconst (v := 1) hx hb dL_law_1515 (by decide) ?_
      refine W.widen (show cells ≤ 60000 by omega) (show slots ≤ 8922250 by omega) ?_
      exact W.forget (locs := []) (L := locs) (fun q hq => hS.2.2 q hq) (lw_ret hx hb hr hlocks dL_law_1516)
    · have hle := i_nlt c1
      refine lw_switch (n := n) D S hl (by omega) (by omega) hB (fun G H locs cells slots ls S hl hB => ?_)
      obtain ⟨i2, ei2⟩ : ∃ z : Int32, z = i + 6 := ⟨_, rfl⟩
      have ti := i_add ei2 (by omega)
      refine lv_iinc (v := i2) (lv' := [(3, .int i2), (2, .ref b), (1, .ref a), (0, .ref b0)]) hx hb dL_law_1509 hl (k := 0) rfl (by rw [ei2]; rfl) (by decide) rfl (fun ls2 hl2 => ?_)
      refine lv_goto (tgt := 18) hx hb dL_law_1512 (by decide) ?_
      exact ih (n + 1) i2 G H locs cells slots ls2 S hl2 (by omega) (by omega) hB (by omega)
set_option maxRecDepth 100000 in
set_option maxHeartbeats 4000000 in
theorem lw_begin {p : Program} {l : Launch} {e : Env} {s : State} {m : MethodId} {below : List Frame} {meth : Method} {c : Code} {K : KE} {b0 L : Nat} {xs : Nat → Int32} {ls : Array Slot} (D : LC p K s m meth c b0 L xs) (hT0 : TY K (fun _ => none) s.heap) (hl : lv_has ls 4 [(0, .ref b0)]) : W p l e room_1 s m #[Value.ref b0] below meth c s.heap [] 0 0 (lw_Z below #[Value.ref b0] s) (F0 m 0 ls []) := by
  obtain ⟨C, hX, hbl, hL⟩ := id D
  obtain ⟨hx, hb, hml, hown, hts, hKT, hr, hlocks, hnm⟩ := id C
  have hS0 : va_S (fun q => s.heap.size ≤ q) s.heap s.heap [] := va_S.rf
  refine x_new C hT0 hS0 (ci := 9) (ty0 := tyX9) (vs := [.null, .null, .null, .int 0, .null, .null, .null, .null, .null, .null, .null, .null]) rfl inX9 tyX9_ok wC_L_7 wIS_X9 wIN_X9 dfX9 ⟨by decide, by decide⟩ dL_law_0 (fun H1 hR1 hT1 hS1 o1 z1 => ?_)
  obtain ⟨a, ea⟩ : ∃ q, q = s.heap.size := ⟨_, rfl⟩
  have le1 : s.heap.size ≤ a := Nat.le_of_eq ea.symm
  rw [← ea] at hR1
  rw [← ea]
  clear ea
  refine lv_dup hx hb dL_law_3 rfl ?_
  refine x_I (As := []) (rest := [.ref a]) C (k_X9_init_main_x l K (fun _ => none) H1 (a := a) hT1 rfl hR1) yo_X9_init rfl wM_L_9 ⟨⟨by decide, by decide⟩, by decide, by decide⟩ rfl hl.1 rfl (Nat.le_of_ble_eq_true rfl) dL_law_4 hS1 (fun q h => h.elim (fun e => by rw [e]; exact le1) (fun h => Nat.le_trans hS1.1 h)) (fun v2 H2 locs2 p2 z2 k2 hS2 => ?_)
  obtain ⟨hv2, G2, hg2, ga2, hT2, w, gw2, fx2, ow2, oz2⟩ := p2
  subst hv2
  refine W.eq (g2 := F0 m 7 ls [.ref a]) rfl ?_
  have hN2 : ∀ q, q < s.heap.size → G2 q = none := fun q hq => hg2 q (Nat.lt_of_lt_of_le hq hS1.1) (Nat.ne_of_lt (Nat.lt_of_lt_of_le hq le1))
  refine lv_astore_n (lv' := [(1, .ref a), (0, .ref b0)]) hx hb dL_law_7 rfl hl (by decide) rfl (fun ls1 hl1 => ?_)
  refine x_new C hT2 hS2 (ci := 10) (ty0 := tyX10) (vs := [.int 0, .int 0, .int 0, .int 0, .null, .null, .null, .null, .null, .null, .null, .null, .null, .null, .null, .null, .null, .null, .int 0, .int 0, .int 0, .int 0, .int 0, .null, .null, .null, .null, .null, .null, .null, .null, .null, .null, .null, .int 0, .int 0, .int 0, .null, .int 0, .int 0, .int 0, .int 0, .int 0, .null, .null, .null, .null, .null, .null, .null, .null, .null, .null, .null, .null, .null, .int 0, .null, .null, .int 0, .null, .null, .int 0, .null, .null, .int 0, .null, .null, .null, .null, .int 0, .int 0, .int 0, .null]) rfl inX10 tyX10_ok wC_L_10 wIS_X10 wIN_X10 dfX10 ⟨by decide, by decide⟩ dL_law_8 (fun H3 hR3 hT3 hS3 o3 z3 => ?_)
  have hn3 : G2 H2.size = none := hT2.gb _ (Nat.le_refl _)
  have fx3 := fx2.kept (o3 a (hT2.lt ga2)) (o3 w (hT2.lt gw2))
  have hwb : w ≠ H2.size := Nat.ne_of_lt (hT2.lt gw2)
  have hab : a ≠ H2.size := Nat.ne_of_lt (hT2.lt ga2)
  obtain ⟨b, eb⟩ : ∃ q, q = H2.size := ⟨_, rfl⟩
  have le3 : s.heap.size ≤ b := by rw [eb]; exact hS2.1
  rw [← eb] at hR3 hn3 hab hwb
  rw [← eb]
  clear eb
  refine lv_dup hx hb dL_law_11 rfl ?_
  refine x_I (As := []) (rest := [.ref b]) C (k_X10_init_M3 l K G2 H3 (a := b) hT3 hn3 hR3) yo_X10_init rfl wM_L_12 ⟨⟨by decide, by decide⟩, by decide, by decide⟩ rfl hl1.1 rfl (Nat.le_of_ble_eq_true rfl) dL_law_12 hS3 (fun q h => h.elim (fun e => by rw [e]; exact le3) (fun h => Nat.le_trans hS3.1 h)) (fun v4 H4 locs4 p4 z4 k4 hS4 => ?_)
  obtain ⟨hv4, G4, hg4, gb4, hT4, fm4, cg, tu, wd, im, prs4, zl4⟩ := p4
  subst hv4
  refine W.eq (g2 := F0 m 15 ls1 [.ref b]) rfl ?_
  have fx4 := fx3.kept (k4 a (hT3.lt ga2) (fun h => h.elim hab (Nat.not_le.mpr (hT3.lt ga2)))) (k4 w (hT3.lt gw2) (fun h => h.elim hwb (Nat.not_le.mpr (hT3.lt gw2))))
  obtain ⟨f0, f1, f2, f3, f4, f5, f6, f7, f8, f9, f10⟩ := fx4
  obtain ⟨mf1, mf2, mf3, mf4, mf5, mf6, mf7, mf8, mf9, mf10⟩ := fm4
  have ga4 := (hg4 a (hT3.lt ga2) hab).trans ga2
  have hN4 : ∀ q, q < s.heap.size → G4 q = none := fun q hq => (hg4 q (Nat.lt_of_lt_of_le hq hS3.1) (Nat.ne_of_lt (Nat.lt_of_lt_of_le hq le3))).trans (hN2 q hq)
  refine lv_astore_n (lv' := [(2, .ref b), (1, .ref a), (0, .ref b0)]) hx hb dL_law_15 rfl hl1 (by decide) rfl (fun ls2 hl2 => ?_)
  refine lv_iconst (v := 0) hx hb dL_law_16 (by decide) ?_
  refine lv_istore_n (lv' := [(3, .int 0), (2, .ref b), (1, .ref a), (0, .ref b0)]) hx hb dL_law_17 rfl hl2 (by decide) rfl (fun ls3 hl3 => ?_)
  have ow3 := OWN.kept hT2 gw2 (fun q t hq => o3 q (hT2.lt hq)) ow2
  have oz3 := OWZ.kept hT2 gw2 (fun q t hq => o3 q (hT2.lt hq)) oz2
  have ow4 := OWN.kept hT3 gw2 (fun q t hq => k4 q (hT3.lt hq) (fun h => h.elim (g_ne hq hn3) (Nat.not_le.mpr (hT3.lt hq)))) ow3
  have oz4 := OWZ.kept hT3 gw2 (fun q t hq => k4 q (hT3.lt hq) (fun h => h.elim (g_ne hq hn3) (Nat.not_le.mpr (hT3.lt hq)))) oz3
  exact lw_loop D 513 0 0 G4 H4 locs4 _ _ ls3 ⟨hT4, hN4, ga4, gb4, cg, tu, wd, im, ⟨(by rw [f2, mf4]), (by rw [← f0, f3, mf1]), (by rw [← f0, f4, mf2]), (by rw [← f0, f5, mf3]), (by rw [← f0, f8, mf7]), (by rw [← f0, f9, mf8]), (by rw [← f0, f10, mf9])⟩, Or.inl ⟨f1, by rw [mf10]; rfl⟩, (by unfold TB; rw [mf4]; exact TBR.nil), (by unfold RELE; rw [← f0, mf1, f5]; exact ⟨RE.nil ow4 oz4 prs4 zl4, by decide, by decide⟩), hS4⟩ hl3 rfl (by decide) ⟨by decide, by decide, fun _ => ⟨by decide, by decide⟩⟩ (by decide)
theorem whole_start {p : Program} {e : Env} {s : State} {m : MethodId} {below : List Frame} {meth : Method} {c : Code} (l : Launch) {b L : Nat} {xs : Nat → Int32} (hL : L ≤ 3072) (C0 : lw_At p s m meth c b L xs) : W p l e room_1 s m #[Value.ref b] below meth c s.heap [] 0 0 (lw_Z below #[Value.ref b] s) (entryFrame m ([Value.ref b] : List Value).toArray 4) := by
  obtain ⟨hx, hb, hr, hml, hown, hts, hX, hbl, hlocks, hgv⟩ := id C0
  obtain ⟨K, hK, hT0⟩ := lw_KT hts hgv
  have D : LC p K s m meth c b L xs := ⟨⟨hx, hb, hml, hown, fun w hw => hts w (ok_in hw), hK, hr, hlocks, rfl⟩, hX, hbl, hL⟩
  have hl := lv_entry [Value.ref b] (n := 4) (Nat.le_of_ble_eq_true rfl)
  rw [lg_entry_eq]
  exact lw_begin D hT0 hl
set_option maxHeartbeats 4000000 in
theorem lw_walk (l : Launch) (b : Addr) (xs : List Int32) : MetFree l x (headSpec (Jvm.Cond.code x code maxLocals ret :: tables_1) room_1) (lw_P b xs) (fun _ _ _ _ _ => True) lw_Q := by
  refine MetFree.of_bodyS (code := code) (maxLocals := maxLocals) (ret := ret) (by decide) ?_ ?_
  · intro args s m h hn
    obtain ⟨meth, c, h1, h2, h3, h4, h5, h6, -, -⟩ := Cond.code_spec hn (atoms_spec (ws := Jvm.Cond.code x code maxLocals ret :: tables_1) h _ List.mem_cons_self)
    exact ⟨meth, c, h1, h2, h3, h4, h5, h6⟩
  · intro p e s m args below meth c s₁ B hml0 hP _
    obtain ⟨rfl, hx, hbd, hgv⟩ := hP
    obtain ⟨scr, harrAt, hlist, hof, hsmall⟩ := hx
    obtain ⟨hcb, hkn, -, -⟩ := State.arrayAt?_spec harrAt
    have hown : s.vm.findClass R_law = some m.cls := findClass_of_methodNamed B.named
    have hts0 : ∀ c ∈ (Jvm.Cond.code x code maxLocals ret :: tables_1), c.before #[Value.ref b] s = true := atoms_spec (ws := Jvm.Cond.code x code maxLocals ret :: tables_1) B.pre
    have hts : ∀ w ∈ lw_tbl, w.before #[Value.ref b] s = true := k2_hts_sels lw_privs (fun w hw => hts0 w (List.mem_cons_of_mem _ hw)) lw_privs_ok
    have hml : c.maxLocals = 4 := B.maxLocals_eq (hts0 _ List.mem_cons_self)
    have X₀ : Stand p l e room_1 s m #[Value.ref b] below meth c s₁ [] 0 0 := Stand.of_body B
    have hh0 : s₁.heap = s.heap := by rw [B.state]; rfl
    have hsz : scr.slots.size = xs.length := by rw [← Array.length_toList, hlist, List.length_map]
    have hval : ∀ j : Nat, j < xs.length → scr.slots[j]? = some (.int (xs.getD j 0)) := fun j hj => by
      rw [← Array.getElem?_toList, hlist]
      simp [hj]
    have hbl : b < s.heap.size := (Array.getElem?_eq_some_iff.mp hcb).1
    have hX : va_X b xs.length (fun j => xs.getD j 0) s s.heap := ⟨scr, hcb, hof, hkn, hsz, hval⟩
    have K : W p l e room_1 s m #[Value.ref b] below meth c s₁.heap [] 0 0 (lw_Z below #[Value.ref b] s) (entryFrame m ([Value.ref b] : List Value).toArray 4) := by
      rw [hh0]
      exact whole_start l hbd ⟨B.exec, B.bytes, B.returns, hml, hown, hts, hX, hbl, B.notSynchronized, hgv⟩
    obtain ⟨t, a1, o, b1, b2, b3⟩ := K s₁ rfl X₀
    exact ⟨t, o, a1, b1, b2, b3⟩
theorem lw_pre_spec {args : Array Value} {s : State} (h : (Jvm.Cond.and given_1 narrow_1).before args s = true) (hr : rest_1_c.before args s = true) : ∃ (b : Addr) (xs : List Int32), lw_P b xs args s := by
  have hs := flat_of_before _ h
  have hq := flat_of_before _ hr
  have hc : (Cond.count 1).before args s = true := hs _ (by decide +kernel)
  have harr : (Cond.arrayOf (.arg 0) .int).before args s = true := hs _ (by decide +kernel)
  have hle : (Cond.le (.length (.arg 0)) (.int 3072)).before args s = true := hs _ (by decide +kernel)
  have hlen : (Cond.isInt (.length (.arg 0))).before args s = true := hq _ (by decide +kernel)
  have hall : (Cond.all (.arg 0) (.isInt (.elem (.arg 0) (.index 0)))).before args s = true := hq _ (by decide +kernel)
  obtain ⟨b, xs, hb, hx⟩ := State.ints_of_pre rfl harr hlen hall
  have hsm : xs.length < 2 ^ 31 := hx.choose_spec.2.2.2
  have hev : (Term.length (.arg 0)).eval args s none [] s = some (.int xs.length.toInt32) := hx.length_eval hb
  have hv := Cond.le_ints hev (show (Term.int 3072).eval args s none [] s = some (.int 3072) from rfl)
  have hd : xs.length.toInt32 ≤ 3072 := by
    simpa [Cond.before, Cond.holds, hv] using hle
  have hN : xs.length ≤ 3072 := (Int32.ofNat_le_ofNat hsm (by decide)).mp (show Int32.ofNat xs.length ≤ Int32.ofNat 3072 from hd)
  exact ⟨b, xs, Cond.one_arg hc (show args[0]? = some (.ref b) from hb), hx, hN, h⟩
theorem lw_comes (l : Launch) : Comes l x (Jvm.Cond.code x code maxLocals ret :: tables_1) room_1 (fun tb e args s => Calls_1 tb e args s ∧ rest_1 tb e args s ∧ Pre_1 tb e args s)
    (fun _ _ args s o t => lw_Q args s o t) := by
  intro p e ha hc hk s m args below hf hfit hheap happ hpre
  obtain ⟨b, xs, hP⟩ := lw_pre_spec hpre.2.2 hpre.2.1
  obtain ⟨k, o, h1, h2, h3, hQ⟩ := lw_walk l b xs p e ha hc hk s m args below hf ((Spec.applies_iff_loose hf).mp happ).1 hP trivial
  exact ⟨k, o, h1, h2, h3, hQ⟩
theorem lw_frame {s t : State} {o : Outcome} {args : Array Value} (h : Framed s o t [] 60000 8922250) :
    Framed s o t (fieldLocs frame_1_writes args s ++ arrayLocs frame_1_arrays args s ++ staticLocs frame_1_statics s) 60000 8922250 := h
theorem lw_limb (L : Cond) (hL : ∀ (args : Array Value) (s t : State), L.after args s (.returned (some (.int 1))) t = true) :
    ArmFor flags0 classFile x code maxLocals ret World_1 tables_1 room_1 Calls_1 rest_1 Pre_1
      (fun tb e a s o t => postC L tb e a s o t ∧ Framed s o t (fieldLocs frame_1_writes a s ++ arrayLocs frame_1_arrays a s ++ staticLocs frame_1_statics s) 60000 8922250) := by
  intro l _ _ _ p e ha hc hk s m args below hf hfit hheap happ hpre
  obtain ⟨k, o, h1, h2, h3, rfl, hF⟩ := lw_comes l p e ha hc hk s m args below hf hfit hheap happ hpre
  exact ⟨k, _, h1, h2, h3, hL args s _, lw_frame hF⟩
theorem i_vc : Claimed_1_1 ∧ Claimed_1_2 := ⟨lw_limb limb_1_1 (fun args s t => by simp [limb_1_1, Cond.after, Cond.holds, Cond.value]), lw_limb limb_1_2 (fun args s t => Cond.after_iff.mpr (by
  first | (rw [show limb_1_2 = Cond.eq .result (.int 1) from rfl, Cond.eq_ints (x := 1) (y := 1) rfl rfl]; simp; done) | (simp [limb_1_2, Cond.value, Term.eval]; done)))⟩
