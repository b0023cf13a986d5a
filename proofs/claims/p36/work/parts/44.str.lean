/-! ===== String.charAt on the words' String ===== -/
theorem AE_n0 {K : KE} {G : Nat → Option Nat} {H : Heap} {eff : List Nat} (hT : TY K G H) : ∀ q, AE G eff H.size q → n0K K ≤ q := by
  intro q h
  rcases h with ⟨t, h, -⟩ | h
  · exact hT.2.1 q t h
  · exact Nat.le_trans hT.2.2.1 h
section XSTR
variable {p : Program} {l : Launch} {e : Env} {R : Room} {s : State} {m : MethodId} {args : Array Value} {below : List Frame} {meth : Method} {c : Code} {H : Heap} {locs : List Loc} {cells slots : Nat} {Q : State → Prop}
variable {K : KE} {own nm : String} {b : ByteArray} {n : Nat} {r : Option FieldType} {pc : Nat} {ls : Array Slot} {rest st : List Value} {A A0 A1 : Nat → Prop} {H0 : Heap} {G : Nat → Option Nat} {post : Option Value → Heap → Prop} {mc ms : Nat}
theorem x_cret (C : CX p K s m args meth c own b n (some .char) nm) (hQ : Q = MQ below (QX post A) args s mc ms A) {v : Int32} (hn : narrow .char (.int v) = .int v) (hd : decode b pc = .ok (.ireturn, 1)) (hS : va_S A s.heap H locs) (h1 : cells ≤ mc) (h2 : slots ≤ ms) (hp : post (some (.int v)) H) : W p l e R s m args below meth c H locs cells slots Q (F0 m pc ls [.int v]) := by
  obtain ⟨hx, hb, hml, hown, hts, hK, hr, hlocks, hnm⟩ := C
  subst hQ
  exact W.widen h1 h2 (W.zret hx hb hr hn (fun t ht _ => ⟨_, rfl, by rw [ht]; exact hp, hS.F ht⟩) hS.2.2 hd)
end XSTR
set_option maxHeartbeats 4000000 in
theorem c_isLatin1 (l : Launch) (K : KE) (G : Nat → Option Nat) (H : Heap) (hT : TY K G H) : MX l K yJ0_isLatin1_aae02 cJ0_isLatin1_aae02 1 (some .boolean) 0 0 0 0 [.ref (K.2.2.1 0)] H (AE G [] H.size) (fun v H1 => H1 = H ∧ v = some (.int 1)) := by
  refine MX.of (by decide +kernel) (Nat.le_of_ble_eq_true rfl) ?_
  intro p e s m below meth c ls Q C hH hl hQ
  subst hH
  have C : CX p K s m _ meth c RJ0 cJ0_isLatin1_aae02 1 (some .boolean) "isLatin1" := C
  obtain ⟨hx, hb, hml, hown, hts, hKT, hr, hlocks, hnm⟩ := id C
  have hl : lv_has ls 1 [(0, .ref (K.2.2.1 0))] := hl
  have hS : va_S (AE G [] s.heap.size) s.heap s.heap [] := va_S.rf
  have al := hKT.2.2.2.2.2.1
  refine va_gets hx hb ((hT.2.2.2.2.2.2.2.1.moved al).narrow (AE_n0 hT)) hS hown (hts _ wFJ_J0_38) (fun _ h => h) dJ0_isLatin1_aae02_0 ?_
  refine lv_if_eq (tgt := 17) hx hb dJ0_isLatin1_aae02_3 (by decide) (fun h => absurd h (by decide)) (fun h => ?_)
  refine lv_aload_n hx hb dJ0_isLatin1_aae02_6 rfl (lv_at hl 0 rfl) ?_
  refine vk_getf hx hb ((hT.2.2.2.2.1.moved al).narrow (AE_n0 hT)) hS hown (hts _ wFJ_J0_15) (fun _ h => h) dJ0_isLatin1_aae02_7 ?_
  refine lv_if_ne (tgt := 17) hx hb dJ0_isLatin1_aae02_10 (by decide) (fun h => absurd rfl h) (fun _ => ?_)
  refine lv_iconst (v := 1) hx hb dJ0_isLatin1_aae02_13 (by decide) ?_
  refine lv_goto (tgt := 18) hx hb dJ0_isLatin1_aae02_14 (by decide) ?_
  exact x_zret C hQ (Or.inr rfl) dJ0_isLatin1_aae02_18 hS (by decide) (by decide) ⟨rfl, rfl⟩
set_option maxHeartbeats 4000000 in
theorem c_checkIndex3 (l : Launch) (K : KE) (G : Nat → Option Nat) (H : Heap) (x y : Int32) (q : Nat) (h0 : 0 ≤ x.toInt ∧ x.toInt < y.toInt) : MX l K yJ3_checkIndex_8e157 cJ3_checkIndex_8e157 3 (some .int) 0 0 0 0 [.int x, .int y, .ref q] H (AE G [] H.size) (fun v H1 => H1 = H ∧ v = some (.int x)) := by
  refine MX.of (by decide +kernel) (Nat.le_of_ble_eq_true rfl) ?_
  intro p e s m below meth c ls Q C hH hl hQ
  subst hH
  have C : CX p K s m _ meth c RJ3 cJ3_checkIndex_8e157 3 (some .int) "checkIndex" := C
  obtain ⟨hx, hb, hml, hown, hts, hKT, hr, hlocks, hnm⟩ := id C
  have hl : lv_has ls 3 [(0, .int x), (1, .int y), (2, .ref q)] := hl
  have hS : va_S (AE G [] s.heap.size) s.heap s.heap [] := va_S.rf
  have n_0 : (0 : Int32).toInt = 0 := rfl
  refine lv_iload_n hx hb dJ3_checkIndex_8e157_0 rfl (lv_at hl 0 rfl) ?_
  refine lv_if_lt (tgt := 9) hx hb dJ3_checkIndex_8e157_1 (by decide) (fun h => ?_) (fun _ => ?_)
  · have := i_lt h
    exfalso
    omega
  refine lv_iload_n hx hb dJ3_checkIndex_8e157_4 rfl (lv_at hl 0 rfl) ?_
  refine lv_iload_n hx hb dJ3_checkIndex_8e157_5 rfl (lv_at hl 1 rfl) ?_
  refine lv_icmp_lt (tgt := 16) hx hb dJ3_checkIndex_8e157_6 (by decide) (fun _ => ?_) (fun h => ?_)
  · refine lv_iload_n hx hb dJ3_checkIndex_8e157_16 rfl (lv_at hl 0 rfl) ?_
    exact x_iret C hQ dJ3_checkIndex_8e157_17 hS (by decide) (by decide) ⟨rfl, rfl⟩
  · have := i_nlt h
    exfalso
    omega
set_option maxHeartbeats 4000000 in
theorem c_checkIndex3N (l : Launch) (K : KE) (G : Nat → Option Nat) (H : Heap) (x y : Int32) (h0 : 0 ≤ x.toInt ∧ x.toInt < y.toInt) : MX l K yJ3_checkIndex_8e157 cJ3_checkIndex_8e157 3 (some .int) 0 0 0 0 [.int x, .int y, .null] H (AE G [] H.size) (fun v H1 => H1 = H ∧ v = some (.int x)) := by
  refine MX.of (by decide +kernel) (Nat.le_of_ble_eq_true rfl) ?_
  intro p e s m below meth c ls Q C hH hl hQ
  subst hH
  have C : CX p K s m _ meth c RJ3 cJ3_checkIndex_8e157 3 (some .int) "checkIndex" := C
  obtain ⟨hx, hb, hml, hown, hts, hKT, hr, hlocks, hnm⟩ := id C
  have hl : lv_has ls 3 [(0, .int x), (1, .int y), (2, .null)] := hl
  have hS : va_S (AE G [] s.heap.size) s.heap s.heap [] := va_S.rf
  have n_0 : (0 : Int32).toInt = 0 := rfl
  refine lv_iload_n hx hb dJ3_checkIndex_8e157_0 rfl (lv_at hl 0 rfl) ?_
  refine lv_if_lt (tgt := 9) hx hb dJ3_checkIndex_8e157_1 (by decide) (fun h => ?_) (fun _ => ?_)
  · have := i_lt h
    exfalso
    omega
  refine lv_iload_n hx hb dJ3_checkIndex_8e157_4 rfl (lv_at hl 0 rfl) ?_
  refine lv_iload_n hx hb dJ3_checkIndex_8e157_5 rfl (lv_at hl 1 rfl) ?_
  refine lv_icmp_lt (tgt := 16) hx hb dJ3_checkIndex_8e157_6 (by decide) (fun _ => ?_) (fun h => ?_)
  · refine lv_iload_n hx hb dJ3_checkIndex_8e157_16 rfl (lv_at hl 0 rfl) ?_
    exact x_iret C hQ dJ3_checkIndex_8e157_17 hS (by decide) (by decide) ⟨rfl, rfl⟩
  · have := i_nlt h
    exfalso
    omega
set_option maxHeartbeats 4000000 in
theorem c_checkIndex0 (l : Launch) (K : KE) (G : Nat → Option Nat) (H : Heap) (x y : Int32) (hT : TY K G H) (h0 : 0 ≤ x.toInt ∧ x.toInt < y.toInt) : MX l K yJ0_checkIndex_df160 cJ0_checkIndex_df160 2 none 1 30 0 0 [.int x, .int y] H (AE G [] H.size) (fun v H1 => H1 = H ∧ v = none) := by
  refine MX.of (by decide +kernel) (Nat.le_of_ble_eq_true rfl) ?_
  intro p e s m below meth c ls Q C hH hl hQ
  subst hH
  have C : CX p K s m _ meth c RJ0 cJ0_checkIndex_df160 2 none "checkIndex" := C
  obtain ⟨hx, hb, hml, hown, hts, hKT, hr, hlocks, hnm⟩ := id C
  have hl : lv_has ls 2 [(0, .int x), (1, .int y)] := hl
  have hS : va_S (AE G [] s.heap.size) s.heap s.heap [] := va_S.rf
  have al := hKT.2.2.2.2.2.1
  refine lv_iload_n hx hb dJ0_checkIndex_df160_0 rfl (lv_at hl 0 rfl) ?_
  refine lv_iload_n hx hb dJ0_checkIndex_df160_1 rfl (lv_at hl 1 rfl) ?_
  obtain ⟨z, hz, hZ⟩ := hT.2.2.2.2.2.2.2.2
  refine va_gets hx hb ((hZ.moved al).narrow (AE_n0 hT)) hS hown (hts _ wFJ_J0_1053) (fun _ h => h) dJ0_checkIndex_df160_2 ?_
  rcases hz with rfl | ⟨q, rfl⟩
  · refine x_S (As := [.int x, .int y, .null]) (rest := []) C (c_checkIndex3N l K G s.heap x y h0) yo_J3_checkIndex_8e157 wM_J0_1059 ⟨⟨by decide, by decide⟩, by decide, by decide⟩ rfl hl.1 rfl (Nat.le_of_ble_eq_true rfl) dJ0_checkIndex_df160_5 hS (fun _ h => h) (fun v H2 locs2 p2 z2 k2 hS2 => ?_)
    obtain ⟨q1, q2⟩ := p2
    subst q1 q2
    refine W.eq (g2 := F0 m 8 ls [.int x]) rfl ?_
    refine lv_pop hx hb dJ0_checkIndex_df160_8 rfl ?_
    exact x_vret C hQ dJ0_checkIndex_df160_9 hS2 (by decide) (by decide) ⟨rfl, rfl⟩
  · refine x_S (As := [.int x, .int y, .ref q]) (rest := []) C (c_checkIndex3 l K G s.heap x y q h0) yo_J3_checkIndex_8e157 wM_J0_1059 ⟨⟨by decide, by decide⟩, by decide, by decide⟩ rfl hl.1 rfl (Nat.le_of_ble_eq_true rfl) dJ0_checkIndex_df160_5 hS (fun _ h => h) (fun v H2 locs2 p2 z2 k2 hS2 => ?_)
    obtain ⟨q1, q2⟩ := p2
    subst q1 q2
    refine W.eq (g2 := F0 m 8 ls [.int x]) rfl ?_
    refine lv_pop hx hb dJ0_checkIndex_df160_8 rfl ?_
    exact x_vret C hQ dJ0_checkIndex_df160_9 hS2 (by decide) (by decide) ⟨rfl, rfl⟩
set_option maxHeartbeats 4000000 in
theorem c_charAt1 (l : Launch) (K : KE) (G : Nat → Option Nat) (H : Heap) (x : Int32) (hT : TY K G H) (h0 : 0 ≤ x.toInt ∧ x.toInt < 144) : MX l K yJ1_charAt_3b067 cJ1_charAt_3b067 2 (some .char) 2 60 0 0 [.ref (K.2.2.1 1), .int x] H (AE G [] H.size) (fun v H1 => H1 = H ∧ v = some (.int (wdB.getD x.toNatClampNeg 0 &&& 255))) := by
  refine MX.of (by decide +kernel) (Nat.le_of_ble_eq_true rfl) ?_
  intro p e s m below meth c ls Q C hH hl hQ
  subst hH
  have C : CX p K s m _ meth c RJ1 cJ1_charAt_3b067 2 (some .char) "charAt" := C
  obtain ⟨hx, hb, hml, hown, hts, hKT, hr, hlocks, hnm⟩ := id C
  have hl : lv_has ls 2 [(0, .ref (K.2.2.1 1)), (1, .int x)] := hl
  have hS : va_S (AE G [] s.heap.size) s.heap s.heap [] := va_S.rf
  have al := hKT.2.2.2.2.2.1
  have hV := (hT.2.2.2.2.2.2.1.moved al).narrow (AE_n0 (eff := []) hT)
  have n_144 : (144 : Int32).toInt = 144 := rfl
  refine lv_iload_n hx hb dJ1_charAt_3b067_0 rfl (lv_at hl 1 rfl) ?_
  refine lv_aload_n hx hb dJ1_charAt_3b067_1 rfl (lv_at hl 0 rfl) ?_
  refine va_tlen hx hb hV hS (v := 144) rfl dJ1_charAt_3b067_2 ?_
  refine x_S (As := [.int x, .int 144]) (rest := []) C (c_checkIndex0 l K G s.heap x 144 hT (by omega)) yo_J0_checkIndex_df160 wM_J1_9 ⟨⟨by decide, by decide⟩, by decide, by decide⟩ rfl hl.1 rfl (Nat.le_of_ble_eq_true rfl) dJ1_charAt_3b067_3 hS (fun _ h => h) (fun v H2 locs2 p2 z2 k2 hS2 => ?_)
  obtain ⟨q1, q2⟩ := p2
  subst q1 q2
  refine W.eq (g2 := F0 m 6 ls []) rfl ?_
  refine lv_aload_n hx hb dJ1_charAt_3b067_6 rfl (lv_at hl 0 rfl) ?_
  refine lv_iload_n hx hb dJ1_charAt_3b067_7 rfl (lv_at hl 1 rfl) ?_
  refine va_tb hx hb hV hS2 (x_in h0.1 h0.2).1 rfl dJ1_charAt_3b067_8 ?_
  refine lv_sipush (v := 255) hx hb dJ1_charAt_3b067_9 (by decide) ?_
  refine lv_iand hx hb dJ1_charAt_3b067_12 ?_
  refine lv_i2c (v := wdB.getD x.toNatClampNeg 0 &&& 255) hx hb dJ1_charAt_3b067_13 (sc_c2 _) ?_
  exact x_cret C hQ (sc_nar _) dJ1_charAt_3b067_14 hS2 (by decide) (by decide) ⟨rfl, rfl⟩
set_option maxHeartbeats 4000000 in
theorem c_charAt (l : Launch) (K : KE) (G : Nat → Option Nat) (H : Heap) (x : Int32) (hT : TY K G H) (h0 : 0 ≤ x.toInt ∧ x.toInt ≤ 143) : MX l K yJ0_charAt_5068e cJ0_charAt_5068e 2 (some .char) 3 90 0 0 [.ref (K.2.2.1 0), .int x] H (AE G [] H.size) (fun v H1 => H1 = H ∧ v = some (.int (wdB.getD x.toNatClampNeg 0 &&& 255))) := by
  refine MX.of (by decide +kernel) (Nat.le_of_ble_eq_true rfl) ?_
  intro p e s m below meth c ls Q C hH hl hQ
  subst hH
  have C : CX p K s m _ meth c RJ0 cJ0_charAt_5068e 2 (some .char) "charAt" := C
  obtain ⟨hx, hb, hml, hown, hts, hKT, hr, hlocks, hnm⟩ := id C
  have hl : lv_has ls 2 [(0, .ref (K.2.2.1 0)), (1, .int x)] := hl
  have hS : va_S (AE G [] s.heap.size) s.heap s.heap [] := va_S.rf
  have al := hKT.2.2.2.2.2.1
  refine lv_aload_n hx hb dJ0_charAt_5068e_0 rfl (lv_at hl 0 rfl) ?_
  refine x_V (As := []) (rest := []) C (c_isLatin1 l K G s.heap hT) yo_J0_isLatin1_aae02 wM_J0_492 ⟨⟨by decide, by decide⟩, by decide, by decide⟩ (by obtain ⟨cell, h1, h2, h3, -⟩ := hT.2.2.2.1.moved al; exact ⟨cell, h1, h2, h3⟩) rfl hl.1 rfl (Nat.le_of_ble_eq_true rfl) dJ0_charAt_5068e_1 hS (fun _ h => h) (fun v H2 locs2 p2 z2 k2 hS2 => ?_)
  obtain ⟨q1, q2⟩ := p2
  subst q1 q2
  refine W.eq (g2 := F0 m 4 ls [.int 1]) rfl ?_
  refine lv_if_eq (tgt := 16) hx hb dJ0_charAt_5068e_4 (by decide) (fun h => absurd h (by decide)) (fun _ => ?_)
  refine lv_aload_n hx hb dJ0_charAt_5068e_7 rfl (lv_at hl 0 rfl) ?_
  refine vk_getf hx hb ((hT.2.2.2.2.2.1.moved al).narrow (AE_n0 hT)) hS2 hown (hts _ wFJ_J0_9) (fun _ h => h) dJ0_charAt_5068e_8 ?_
  refine lv_iload_n hx hb dJ0_charAt_5068e_11 rfl (lv_at hl 1 rfl) ?_
  refine x_S (As := [.ref (K.2.2.1 1), .int x]) (rest := []) C (c_charAt1 l K G s.heap x hT (by omega)) yo_J1_charAt_3b067 wM_J0_495 ⟨⟨by decide, by decide⟩, by decide, by decide⟩ rfl hl.1 rfl (Nat.le_of_ble_eq_true rfl) dJ0_charAt_5068e_12 hS2 (fun _ h => h) (fun v H2 locs2 p2 z2 k2 hS2 => ?_)
  obtain ⟨q1, q2⟩ := p2
  subst q1 q2
  refine W.eq (g2 := F0 m 15 ls [.int (wdB.getD x.toNatClampNeg 0 &&& 255)]) rfl ?_
  exact x_cret C hQ (sc_nar _) dJ0_charAt_5068e_15 hS2 (by decide) (by decide) ⟨rfl, rfl⟩
