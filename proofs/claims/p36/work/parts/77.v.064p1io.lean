theorem nE_4796_2_120_8876_4 {i j : Nat} (hj : j < 120) : 4796 + 2 * j ≠ 8876 + 4 * i := by omega
theorem nE_4797_2_120_8876_4 {i j : Nat} (hj : j < 120) : 4797 + 2 * j ≠ 8876 + 4 * i := by omega
theorem nE_5036_2_1920_8876_4 {i j : Nat} (hj : j < 1920) : 5036 + 2 * j ≠ 8876 + 4 * i := by omega
theorem nE_5037_2_1920_8876_4 {i j : Nat} (hj : j < 1920) : 5037 + 2 * j ≠ 8876 + 4 * i := by omega
theorem nE_8876_4_i_8876_4 {i j : Nat} (hj : j < i) : 8876 + 4 * j ≠ 8876 + 4 * i := by omega
theorem nE_8877_4_i_8876_4 {i j : Nat} (hj : j < i) : 8877 + 4 * j ≠ 8876 + 4 * i := by omega
theorem nE_8878_4_i_8876_4 {i j : Nat} (hj : j < i) : 8878 + 4 * j ≠ 8876 + 4 * i := by omega
theorem nE_8879_4_i_8876_4 {i j : Nat} (hj : j < i) : 8879 + 4 * j ≠ 8876 + 4 * i := by omega
theorem nE_4796_2_120_8877_4 {i j : Nat} (hj : j < 120) : 4796 + 2 * j ≠ 8877 + 4 * i := by omega
theorem nE_4797_2_120_8877_4 {i j : Nat} (hj : j < 120) : 4797 + 2 * j ≠ 8877 + 4 * i := by omega
theorem nE_5036_2_1920_8877_4 {i j : Nat} (hj : j < 1920) : 5036 + 2 * j ≠ 8877 + 4 * i := by omega
theorem nE_5037_2_1920_8877_4 {i j : Nat} (hj : j < 1920) : 5037 + 2 * j ≠ 8877 + 4 * i := by omega
theorem nE_8876_4_i1_8877_4 {i j : Nat} (hj : j < i + 1) : 8876 + 4 * j ≠ 8877 + 4 * i := by omega
theorem nE_8877_4_i_8877_4 {i j : Nat} (hj : j < i) : 8877 + 4 * j ≠ 8877 + 4 * i := by omega
theorem nE_8878_4_i_8877_4 {i j : Nat} (hj : j < i) : 8878 + 4 * j ≠ 8877 + 4 * i := by omega
theorem nE_8879_4_i_8877_4 {i j : Nat} (hj : j < i) : 8879 + 4 * j ≠ 8877 + 4 * i := by omega
theorem nE_4796_2_120_8878_4 {i j : Nat} (hj : j < 120) : 4796 + 2 * j ≠ 8878 + 4 * i := by omega
theorem nE_4797_2_120_8878_4 {i j : Nat} (hj : j < 120) : 4797 + 2 * j ≠ 8878 + 4 * i := by omega
theorem nE_5036_2_1920_8878_4 {i j : Nat} (hj : j < 1920) : 5036 + 2 * j ≠ 8878 + 4 * i := by omega
theorem nE_5037_2_1920_8878_4 {i j : Nat} (hj : j < 1920) : 5037 + 2 * j ≠ 8878 + 4 * i := by omega
theorem nE_8876_4_i1_8878_4 {i j : Nat} (hj : j < i + 1) : 8876 + 4 * j ≠ 8878 + 4 * i := by omega
theorem nE_8877_4_i1_8878_4 {i j : Nat} (hj : j < i + 1) : 8877 + 4 * j ≠ 8878 + 4 * i := by omega
theorem nE_8878_4_i_8878_4 {i j : Nat} (hj : j < i) : 8878 + 4 * j ≠ 8878 + 4 * i := by omega
theorem nE_8879_4_i_8878_4 {i j : Nat} (hj : j < i) : 8879 + 4 * j ≠ 8878 + 4 * i := by omega
theorem nE_4796_2_120_8879_4 {i j : Nat} (hj : j < 120) : 4796 + 2 * j ≠ 8879 + 4 * i := by omega
theorem nE_4797_2_120_8879_4 {i j : Nat} (hj : j < 120) : 4797 + 2 * j ≠ 8879 + 4 * i := by omega
theorem nE_5036_2_1920_8879_4 {i j : Nat} (hj : j < 1920) : 5036 + 2 * j ≠ 8879 + 4 * i := by omega
theorem nE_5037_2_1920_8879_4 {i j : Nat} (hj : j < 1920) : 5037 + 2 * j ≠ 8879 + 4 * i := by omega
theorem nE_8876_4_i1_8879_4 {i j : Nat} (hj : j < i + 1) : 8876 + 4 * j ≠ 8879 + 4 * i := by omega
theorem nE_8877_4_i1_8879_4 {i j : Nat} (hj : j < i + 1) : 8877 + 4 * j ≠ 8879 + 4 * i := by omega
theorem nE_8878_4_i1_8879_4 {i j : Nat} (hj : j < i + 1) : 8878 + 4 * j ≠ 8879 + 4 * i := by omega
theorem nE_8879_4_i_8879_4 {i j : Nat} (hj : j < i) : 8879 + 4 * j ≠ 8879 + 4 * i := by omega
theorem nE_4796_2_120_5036_2 {i j : Nat} (hj : j < 120) : 4796 + 2 * j ≠ 5036 + 2 * i := by omega
theorem nE_4797_2_120_5036_2 {i j : Nat} (hj : j < 120) : 4797 + 2 * j ≠ 5036 + 2 * i := by omega
theorem nE_5036_2_i_5036_2 {i j : Nat} (hj : j < i) : 5036 + 2 * j ≠ 5036 + 2 * i := by omega
theorem nE_5037_2_i_5036_2 {i j : Nat} (hj : j < i) : 5037 + 2 * j ≠ 5036 + 2 * i := by omega
theorem nE_8876_4_0_5036_2 {i j : Nat} (hj : j < 0) : 8876 + 4 * j ≠ 5036 + 2 * i := by omega
theorem nE_8877_4_0_5036_2 {i j : Nat} (hj : j < 0) : 8877 + 4 * j ≠ 5036 + 2 * i := by omega
theorem nE_8878_4_0_5036_2 {i j : Nat} (hj : j < 0) : 8878 + 4 * j ≠ 5036 + 2 * i := by omega
theorem nE_8879_4_0_5036_2 {i j : Nat} (hj : j < 0) : 8879 + 4 * j ≠ 5036 + 2 * i := by omega
theorem nE_4796_2_120_5037_2 {i j : Nat} (hj : j < 120) : 4796 + 2 * j ≠ 5037 + 2 * i := by omega
theorem nE_4797_2_120_5037_2 {i j : Nat} (hj : j < 120) : 4797 + 2 * j ≠ 5037 + 2 * i := by omega
theorem nE_5036_2_i1_5037_2 {i j : Nat} (hj : j < i + 1) : 5036 + 2 * j ≠ 5037 + 2 * i := by omega
theorem nE_5037_2_i_5037_2 {i j : Nat} (hj : j < i) : 5037 + 2 * j ≠ 5037 + 2 * i := by omega
theorem nE_8876_4_0_5037_2 {i j : Nat} (hj : j < 0) : 8876 + 4 * j ≠ 5037 + 2 * i := by omega
theorem nE_8877_4_0_5037_2 {i j : Nat} (hj : j < 0) : 8877 + 4 * j ≠ 5037 + 2 * i := by omega
theorem nE_8878_4_0_5037_2 {i j : Nat} (hj : j < 0) : 8878 + 4 * j ≠ 5037 + 2 * i := by omega
theorem nE_8879_4_0_5037_2 {i j : Nat} (hj : j < 0) : 8879 + 4 * j ≠ 5037 + 2 * i := by omega
theorem nE_4796_2_i_4796_2 {i j : Nat} (hj : j < i) : 4796 + 2 * j ≠ 4796 + 2 * i := by omega
theorem nE_4797_2_i_4796_2 {i j : Nat} (hj : j < i) : 4797 + 2 * j ≠ 4796 + 2 * i := by omega
theorem nE_5036_2_0_4796_2 {i j : Nat} (hj : j < 0) : 5036 + 2 * j ≠ 4796 + 2 * i := by omega
theorem nE_5037_2_0_4796_2 {i j : Nat} (hj : j < 0) : 5037 + 2 * j ≠ 4796 + 2 * i := by omega
theorem nE_8876_4_0_4796_2 {i j : Nat} (hj : j < 0) : 8876 + 4 * j ≠ 4796 + 2 * i := by omega
theorem nE_8877_4_0_4796_2 {i j : Nat} (hj : j < 0) : 8877 + 4 * j ≠ 4796 + 2 * i := by omega
theorem nE_8878_4_0_4796_2 {i j : Nat} (hj : j < 0) : 8878 + 4 * j ≠ 4796 + 2 * i := by omega
theorem nE_8879_4_0_4796_2 {i j : Nat} (hj : j < 0) : 8879 + 4 * j ≠ 4796 + 2 * i := by omega
theorem nE_4796_2_i1_4797_2 {i j : Nat} (hj : j < i + 1) : 4796 + 2 * j ≠ 4797 + 2 * i := by omega
theorem nE_4797_2_i_4797_2 {i j : Nat} (hj : j < i) : 4797 + 2 * j ≠ 4797 + 2 * i := by omega
theorem nE_5036_2_0_4797_2 {i j : Nat} (hj : j < 0) : 5036 + 2 * j ≠ 4797 + 2 * i := by omega
theorem nE_5037_2_0_4797_2 {i j : Nat} (hj : j < 0) : 5037 + 2 * j ≠ 4797 + 2 * i := by omega
theorem nE_8876_4_0_4797_2 {i j : Nat} (hj : j < 0) : 8876 + 4 * j ≠ 4797 + 2 * i := by omega
theorem nE_8877_4_0_4797_2 {i j : Nat} (hj : j < 0) : 8877 + 4 * j ≠ 4797 + 2 * i := by omega
theorem nE_8878_4_0_4797_2 {i j : Nat} (hj : j < 0) : 8878 + 4 * j ≠ 4797 + 2 * i := by omega
theorem nE_8879_4_0_4797_2 {i j : Nat} (hj : j < 0) : 8879 + 4 * j ≠ 4797 + 2 * i := by omega
set_option maxHeartbeats 4000000 in
set_option maxRecDepth 100000 in
theorem a_X10_keepsTaps_g (l : Launch) (K : KE) (G : Nat → Option Nat) (H : Heap) {a0 : Nat} {iq : Nat} {q51 : Nat} {q52 : Nat} {q53 : Nat} {q54 : Nat} {q63 : Nat} {q64 : Nat} {q66 : Nat} {q67 : Nat} (ia : Int32) (tk : Int32) (hT : TY K G H) (ga0 : G a0 = some 112) (giq : G iq = some 162) (eiq : @Eq Ad iq (fR H a0 (K.1.2 10 73))) (gq51 : G q51 = some 147) (eq51 : @Eq Ad q51 (fR H a0 (K.1.2 10 51))) (gq52 : G q52 = some 148) (eq52 : @Eq Ad q52 (fR H a0 (K.1.2 10 52))) (gq53 : G q53 = some 149) (eq53 : @Eq Ad q53 (fR H a0 (K.1.2 10 53))) (gq54 : G q54 = some 150) (eq54 : @Eq Ad q54 (fR H a0 (K.1.2 10 54))) (gq63 : G q63 = some 156) (eq63 : @Eq Ad q63 (fR H a0 (K.1.2 10 63))) (gq64 : G q64 = some 157) (eq64 : @Eq Ad q64 (fR H a0 (K.1.2 10 64))) (gq66 : G q66 = some 158) (eq66 : @Eq Ad q66 (fR H a0 (K.1.2 10 66))) (gq67 : G q67 = some 159) (eq67 : @Eq Ad q67 (fR H a0 (K.1.2 10 67))) (eia : ia = fI H a0 (K.1.2 10 72)) (etk : tk = fI H a0 (K.1.2 10 71)) (hg_WD : WD (avw K H a0)) (hp0 : ia.toInt = 4796) (hy0 : tk.toInt = 0 → IMw (fun k => fI H iq k)) : MX l K yX10_keepsTaps cX10_keepsTaps 2 none 1 21 0 0 [.ref a0] H (AE G [112, 162, 147, 148, 149, 150, 156, 157, 158, 159] H.size) (fun v H1 => ∃ (t0 : Int32), v = none ∧ t0 = fI H1 a0 (K.1.2 10 72) ∧ (t0.toInt = 8908) ∧ @Eq Ad iq (fR H1 a0 (K.1.2 10 73)) ∧ @Eq Ad q51 (fR H1 a0 (K.1.2 10 51)) ∧ @Eq Ad q52 (fR H1 a0 (K.1.2 10 52)) ∧ @Eq Ad q53 (fR H1 a0 (K.1.2 10 53)) ∧ @Eq Ad q54 (fR H1 a0 (K.1.2 10 54)) ∧ @Eq Ad q63 (fR H1 a0 (K.1.2 10 63)) ∧ @Eq Ad q64 (fR H1 a0 (K.1.2 10 64)) ∧ @Eq Ad q66 (fR H1 a0 (K.1.2 10 66)) ∧ @Eq Ad q67 (fR H1 a0 (K.1.2 10 67)) ∧ (WD (avw K H1 a0)) ∧ MF K H H1 a0 [72] ∧ (UN (tk.toInt = 0) (fun k => fI H1 iq k) (fun k => fI H iq k)) ∧ (FB (fun k => fI H1 iq k) (fun k => fI H iq k) 4796) ∧ (EQ (fun k => fI H1 q51 k) (fun k => fI H1 iq k) 4796 2 120) ∧ (EQ (fun k => fI H1 q52 k) (fun k => fI H1 iq k) 4797 2 120) ∧ (EQ (fun k => fI H1 q53 k) (fun k => fI H1 iq k) 5036 2 1920) ∧ (EQ (fun k => fI H1 q54 k) (fun k => fI H1 iq k) 5037 2 1920) ∧ (EQ (fun k => fI H1 q63 k) (fun k => fI H1 iq k) 8876 4 8) ∧ (EQ (fun k => fI H1 q64 k) (fun k => fI H1 iq k) 8877 4 8) ∧ (EQ (fun k => fI H1 q66 k) (fun k => fI H1 iq k) 8878 4 8) ∧ (EQ (fun k => fI H1 q67 k) (fun k => fI H1 iq k) 8879 4 8) ∧ (UN (tk.toInt ≠ 0) (fun k => fI H1 q51 k) (fun k => fI H q51 k)) ∧ (UN (tk.toInt ≠ 0) (fun k => fI H1 q52 k) (fun k => fI H q52 k)) ∧ (UN (tk.toInt ≠ 0) (fun k => fI H1 q53 k) (fun k => fI H q53 k)) ∧ (UN (tk.toInt ≠ 0) (fun k => fI H1 q54 k) (fun k => fI H q54 k)) ∧ (UN (tk.toInt ≠ 0) (fun k => fI H1 q63 k) (fun k => fI H q63 k)) ∧ (UN (tk.toInt ≠ 0) (fun k => fI H1 q64 k) (fun k => fI H q64 k)) ∧ (UN (tk.toInt ≠ 0) (fun k => fI H1 q66 k) (fun k => fI H q66 k)) ∧ (UN (tk.toInt ≠ 0) (fun k => fI H1 q67 k) (fun k => fI H q67 k)) ∧ TY K G H1) := by
  refine MX.of (by decide +kernel) (Nat.le_of_ble_eq_true rfl) ?_
  intro p e s m below meth c ls Q C hH hl hQ
  subst hH
  have C : CX p K s m _ meth c RX10 cX10_keepsTaps 2 none "keepsTaps" := C
  obtain ⟨hx, hb, hml, hown, hts, hKT, hr, hlocks, hnm⟩ := id C
  have hl : lv_has ls 2 [(0, .ref a0)] := hl
  have hS : va_S (AE G [112, 162, 147, 148, 149, 150, 156, 157, 158, 159] s.heap.size) s.heap s.heap [] := va_S.rf
  have n_0 : (0 : Int32).toInt = 0 := rfl
  have n_1 : (1 : Int32).toInt = 1 := rfl
  have n_8 : (8 : Int32).toInt = 8 := rfl
  have n_120 : (120 : Int32).toInt = 120 := rfl
  have n_1920 : (1920 : Int32).toInt = 1920 := rfl
  have bia := ty_fi (x := ia) (k := 72) eia hT ga0 rg_112 rfl
  have btk := ty_fi (x := tk) (k := 71) etk hT ga0 rg_112 rfl
  have hap : ∀ x y, x < 74 → y < 74 → x ≠ y → K.1.2 10 x ≠ K.1.2 10 y := x_apart hKT hts inX10 tyX10 tyX10_ok nmX10 rfl
  have mf0 : MF K s.heap s.heap a0 [72] := fun _ _ _ => rfl
  replace eiq := EQN.mk eiq
  replace eq51 := EQN.mk eq51
  replace eq52 := EQN.mk eq52
  replace eq53 := EQN.mk eq53
  replace eq54 := EQN.mk eq54
  replace eq63 := EQN.mk eq63
  replace eq64 := EQN.mk eq64
  replace eq66 := EQN.mk eq66
  replace eq67 := EQN.mk eq67
  have J95 : ∀ (nf : Nat) (ls9238 : Array Slot) (H9237 : Heap) (locsH9237 : List Loc) (x9240 : Int32) (x9241 : Int32), lv_has ls9238 2 [(0, .ref a0), (1, .int x9240)] → TY K G H9237 → va_S (AE G [112, 162, 147, 148, 149, 150, 156, 157, 158, 159] s.heap.size) s.heap H9237 locsH9237 → (0 ≤ x9240.toInt ∧ x9240.toInt ≤ 8) → (0 ≤ x9241.toInt ∧ x9241.toInt ≤ 16400) → (x9241 = fI H9237 a0 (K.1.2 10 72)) → (EQN iq (fR H9237 a0 (K.1.2 10 73))) → (EQN q51 (fR H9237 a0 (K.1.2 10 51))) → (EQN q52 (fR H9237 a0 (K.1.2 10 52))) → (EQN q53 (fR H9237 a0 (K.1.2 10 53))) → (EQN q54 (fR H9237 a0 (K.1.2 10 54))) → (EQN q63 (fR H9237 a0 (K.1.2 10 63))) → (EQN q64 (fR H9237 a0 (K.1.2 10 64))) → (EQN q66 (fR H9237 a0 (K.1.2 10 66))) → (EQN q67 (fR H9237 a0 (K.1.2 10 67))) → (tk = fI H9237 a0 (K.1.2 10 71)) → (UN (tk.toInt = 0) (fun k => fI H9237 iq k) (fun k => fI s.heap iq k)) → (FB (fun k => fI H9237 iq k) (fun k => fI s.heap iq k) (4796)) → (EQ (fun k => fI H9237 q51 k) (fun k => fI H9237 iq k) (4796) (2) (120)) → (EQ (fun k => fI H9237 q52 k) (fun k => fI H9237 iq k) (4797) (2) (120)) → (EQ (fun k => fI H9237 q53 k) (fun k => fI H9237 iq k) (5036) (2) (1920)) → (EQ (fun k => fI H9237 q54 k) (fun k => fI H9237 iq k) (5037) (2) (1920)) → (EQ (fun k => fI H9237 q63 k) (fun k => fI H9237 iq k) (8876) (4) (x9240.toNatClampNeg)) → (EQ (fun k => fI H9237 q64 k) (fun k => fI H9237 iq k) (8877) (4) (x9240.toNatClampNeg)) → (EQ (fun k => fI H9237 q66 k) (fun k => fI H9237 iq k) (8878) (4) (x9240.toNatClampNeg)) → (EQ (fun k => fI H9237 q67 k) (fun k => fI H9237 iq k) (8879) (4) (x9240.toNatClampNeg)) → (UN (tk.toInt ≠ 0) (fun k => fI H9237 q51 k) (fun k => fI s.heap q51 k)) → (UN (tk.toInt ≠ 0) (fun k => fI H9237 q52 k) (fun k => fI s.heap q52 k)) → (UN (tk.toInt ≠ 0) (fun k => fI H9237 q53 k) (fun k => fI s.heap q53 k)) → (UN (tk.toInt ≠ 0) (fun k => fI H9237 q54 k) (fun k => fI s.heap q54 k)) → (UN (tk.toInt ≠ 0) (fun k => fI H9237 q63 k) (fun k => fI s.heap q63 k)) → (UN (tk.toInt ≠ 0) (fun k => fI H9237 q64 k) (fun k => fI s.heap q64 k)) → (UN (tk.toInt ≠ 0) (fun k => fI H9237 q66 k) (fun k => fI s.heap q66 k)) → (UN (tk.toInt ≠ 0) (fun k => fI H9237 q67 k) (fun k => fI s.heap q67 k)) → (MF K s.heap H9237 a0 [72]) → (WD (avw K H9237 a0)) → (8 - x9240.toInt < (nf : Int)) → (x9241.toInt = 8876 + 4 * x9240.toInt) → W p l e ({ frames := 1, cells := 0, slots := 0, locals := 21 } : Room) s m (([.ref a0] : List Value).toArray) below meth c H9237 locsH9237 0 0 Q (F0 m 95 ls9238 []) := by
    intro nf
    induction nf with
    | zero =>
      intro ls9238 H9237 locsH9237 x9240 x9241 hl9239 hTH9237 hSH9237 bx9240 bx9241 ex9241 cy9242_0 cy9242_1 cy9242_2 cy9242_3 cy9242_4 cy9242_5 cy9242_6 cy9242_7 cy9242_8 cy9242_9 by9242_ui by9242_fb by9242_e51 by9242_e52 by9242_e53 by9242_e54 by9242_e63 by9242_e64 by9242_e66 by9242_e67 by9242_u51 by9242_u52 by9242_u53 by9242_u54 by9242_u63 by9242_u64 by9242_u66 by9242_u67 mfy9242 gy9242_WD hm95 iv95
      exfalso
      omega
    | succ nf ih95 =>
      intro ls9238 H9237 locsH9237 x9240 x9241 hl9239 hTH9237 hSH9237 bx9240 bx9241 ex9241 cy9242_0 cy9242_1 cy9242_2 cy9242_3 cy9242_4 cy9242_5 cy9242_6 cy9242_7 cy9242_8 cy9242_9 by9242_ui by9242_fb by9242_e51 by9242_e52 by9242_e53 by9242_e54 by9242_e63 by9242_e64 by9242_e66 by9242_e67 by9242_u51 by9242_u52 by9242_u53 by9242_u54 by9242_u63 by9242_u64 by9242_u66 by9242_u67 mfy9242 gy9242_WD hm95 iv95
      refine lv_iload_n hx hb dX10_keepsTaps_95 rfl (lv_at hl9239 1 rfl) ?_
      refine lv_bipush (v := 8) hx hb dX10_keepsTaps_96 (by decide) ?_
      refine lv_icmp_ge (tgt := 171) hx hb dX10_keepsTaps_98 (by decide) (fun c9243 => ?_) (fun c9243 => ?_)
      · have k9244 := i_le c9243
        have ce_x9240 := i_cl (x := x9240) bx9240.1
        exact x_vret C hQ dX10_keepsTaps_171 hSH9237 (by decide) (by decide) (⟨x9241, rfl, ex9241, by omega, cy9242_0, cy9242_1, cy9242_2, cy9242_3, cy9242_4, cy9242_5, cy9242_6, cy9242_7, cy9242_8, gy9242_WD, mfy9242, by9242_ui, by9242_fb, (EQ.cast by9242_e51 (by omega)), (EQ.cast by9242_e52 (by omega)), (EQ.cast by9242_e53 (by omega)), (EQ.cast by9242_e54 (by omega)), (EQ.cast by9242_e63 (by omega)), (EQ.cast by9242_e64 (by omega)), (EQ.cast by9242_e66 (by omega)), (EQ.cast by9242_e67 (by omega)), by9242_u51, by9242_u52, by9242_u53, by9242_u54, by9242_u63, by9242_u64, by9242_u66, by9242_u67, hTH9237⟩)
      · have k9244 := i_nle c9243
        refine lv_aload_n hx hb dX10_keepsTaps_101 rfl (lv_at hl9239 0 rfl) ?_
        refine x_gr C hTH9237 (ci := 10) (k := 63) rfl inX10 (by decide) wF_X10_146 ga0 rg_112 rfl dX10_keepsTaps_102 (fun q9245 eq9245 gq9245 => ?_)
        have uq9245 : q63 = q9245 := (cy9242_5).trans eq9245.symm
        subst uq9245
        clear eq9245
        refine lv_iload_n hx hb dX10_keepsTaps_105 rfl (lv_at hl9239 1 rfl) ?_
        refine lv_aload_n hx hb dX10_keepsTaps_106 rfl (lv_at hl9239 0 rfl) ?_
        refine lv_aload_n hx hb dX10_keepsTaps_107 rfl (lv_at hl9239 0 rfl) ?_
        refine x_gr C hTH9237 (ci := 10) (k := 63) rfl inX10 (by decide) wF_X10_146 ga0 rg_112 rfl dX10_keepsTaps_108 (fun q9246 eq9246 gq9246 => ?_)
        have uq9246 : q63 = q9246 := (cy9242_5).trans eq9246.symm
        subst uq9246
        clear eq9246
        refine lv_iload_n hx hb dX10_keepsTaps_111 rfl (lv_at hl9239 1 rfl) ?_
        refine x_ai C hTH9237 gq63 rg_156 ⟨bx9240.1, by show _ < ((8 : Nat) : Int); omega⟩ dX10_keepsTaps_112 (fun x9247 ex9247 bx9247 => ?_)
        refine x_V (As := [.int x9247]) (rest := [.int x9240, .ref q63]) C (a_X10_kept l K G H9237 (x9247) (x9241) (tk) hTH9237 ga0 giq cy9242_0 ex9241 cy9242_9 gy9242_WD (by and_intros <;> first | assumption | omega)) yo_X10_kept wM_X10_473 ⟨⟨by decide, by decide⟩, by decide, by decide⟩ (x_rv C hTH9237 (ci := 10) rfl ga0 rg_112) rfl hl9239.1 rfl (Nat.le_of_ble_eq_true rfl) dX10_keepsTaps_113 hSH9237 (AE_sub (fun _ _ => rfl) (by decide) hSH9237.1) (fun vH9248 H9248 locsH9248 pH9248 zH9248 kH9248 hSH9248 => ?_)
        obtain ⟨x9249, x9250, hvH9248, ex9250, hrH9248, m9251, g9252, mf9253, m9254, m9255, m9256, m9257, hTH9248⟩ := pH9248
        subst hvH9248
        clear zH9248
        replace m9251 := EQN.mk m9251
        have b9258 : UN (tk.toInt ≠ 0) (fun k => fI H9248 q51 k) (fun k => fI s.heap q51 k) := UN.congr (fun j => fI_kept (x_lt hTH9237 kH9248 gq51 (by decide))) by9242_u51
        have b9259 : UN (tk.toInt ≠ 0) (fun k => fI H9248 q52 k) (fun k => fI s.heap q52 k) := UN.congr (fun j => fI_kept (x_lt hTH9237 kH9248 gq52 (by decide))) by9242_u52
        have b9260 : UN (tk.toInt ≠ 0) (fun k => fI H9248 q53 k) (fun k => fI s.heap q53 k) := UN.congr (fun j => fI_kept (x_lt hTH9237 kH9248 gq53 (by decide))) by9242_u53
        have b9261 : UN (tk.toInt ≠ 0) (fun k => fI H9248 q54 k) (fun k => fI s.heap q54 k) := UN.congr (fun j => fI_kept (x_lt hTH9237 kH9248 gq54 (by decide))) by9242_u54
        have b9262 : UN (tk.toInt ≠ 0) (fun k => fI H9248 q63 k) (fun k => fI s.heap q63 k) := UN.congr (fun j => fI_kept (x_lt hTH9237 kH9248 gq63 (by decide))) by9242_u63
        have b9263 : UN (tk.toInt ≠ 0) (fun k => fI H9248 q64 k) (fun k => fI s.heap q64 k) := UN.congr (fun j => fI_kept (x_lt hTH9237 kH9248 gq64 (by decide))) by9242_u64
        have b9264 : UN (tk.toInt ≠ 0) (fun k => fI H9248 q66 k) (fun k => fI s.heap q66 k) := UN.congr (fun j => fI_kept (x_lt hTH9237 kH9248 gq66 (by decide))) by9242_u66
        have b9265 : UN (tk.toInt ≠ 0) (fun k => fI H9248 q67 k) (fun k => fI s.heap q67 k) := UN.congr (fun j => fI_kept (x_lt hTH9237 kH9248 gq67 (by decide))) by9242_u67
        have m9266 := (ex9247).trans (fI_kept (x_lt hTH9237 kH9248 gq63 (by decide))).symm
        have m9267 := (cy9242_0).trans (MF.r mf9253 (k := 73) (by decide) (by decide)).symm
        have m9268 := (cy9242_1).trans (MF.r mf9253 (k := 51) (by decide) (by decide)).symm
        have m9269 := (cy9242_2).trans (MF.r mf9253 (k := 52) (by decide) (by decide)).symm
        have m9270 := (cy9242_3).trans (MF.r mf9253 (k := 53) (by decide) (by decide)).symm
        have m9271 := (cy9242_4).trans (MF.r mf9253 (k := 54) (by decide) (by decide)).symm
        have m9272 := (cy9242_5).trans (MF.r mf9253 (k := 63) (by decide) (by decide)).symm
        have m9273 := (cy9242_6).trans (MF.r mf9253 (k := 64) (by decide) (by decide)).symm
        have m9274 := (cy9242_7).trans (MF.r mf9253 (k := 66) (by decide) (by decide)).symm
        have m9275 := (cy9242_8).trans (MF.r mf9253 (k := 67) (by decide) (by decide)).symm
        have m9276 := (cy9242_9).trans (MF.i mf9253 (k := 71) (by decide) (by decide)).symm
        have mf9277 : MF K s.heap H9248 a0 [72] := MF.trans mfy9242 mf9253 (by decide)
        have bx9250 := ty_fi (x := x9250) (k := 72) ex9250 hTH9248 ga0 rg_112 rfl
        have ce_x9240 := i_cl (x := x9240) bx9240.1
        have ce_x9241 := i_cl (x := x9241) bx9241.1
        have e_ : x9241.toNatClampNeg = 8876 + 4 * x9240.toNatClampNeg := by omega
        have k3e_ := m9256
        rw [e_] at k3e_
        have b9278 : UN (tk.toInt = 0) (fun k => fI H9248 iq k) (fun k => fI s.heap iq k) := UN.tr m9257 by9242_ui
        have b9279 : FB (fun k => fI H9248 iq k) (fun k => fI s.heap iq k) (4796) := FB.wr by9242_fb k3e_ (fun j hj => Nat.ne_of_lt (Nat.lt_of_lt_of_le hj (Nat.le_trans (by decide : 4796 ≤ 8876) (Nat.le_add_right _ _))))
        have b9280 : EQ (fun k => fI H9248 q51 k) (fun k => fI H9248 iq k) (4796) (2) (120) := EQ.wr (EQ.congr (w1 := fun k => fI H9237 iq k) (fun j => fI_kept (x_lt hTH9237 kH9248 gq51 (by decide))) (fun _ => rfl) by9242_e51) k3e_ (fun j hj => nE_4796_2_120_8876_4 hj)
        have b9281 : EQ (fun k => fI H9248 q52 k) (fun k => fI H9248 iq k) (4797) (2) (120) := EQ.wr (EQ.congr (w1 := fun k => fI H9237 iq k) (fun j => fI_kept (x_lt hTH9237 kH9248 gq52 (by decide))) (fun _ => rfl) by9242_e52) k3e_ (fun j hj => nE_4797_2_120_8876_4 hj)
        have b9282 : EQ (fun k => fI H9248 q53 k) (fun k => fI H9248 iq k) (5036) (2) (1920) := EQ.wr (EQ.congr (w1 := fun k => fI H9237 iq k) (fun j => fI_kept (x_lt hTH9237 kH9248 gq53 (by decide))) (fun _ => rfl) by9242_e53) k3e_ (fun j hj => nE_5036_2_1920_8876_4 hj)
        have b9283 : EQ (fun k => fI H9248 q54 k) (fun k => fI H9248 iq k) (5037) (2) (1920) := EQ.wr (EQ.congr (w1 := fun k => fI H9237 iq k) (fun j => fI_kept (x_lt hTH9237 kH9248 gq54 (by decide))) (fun _ => rfl) by9242_e54) k3e_ (fun j hj => nE_5037_2_1920_8876_4 hj)
        have b9284 : EQ (fun k => fI H9248 q63 k) (fun k => fI H9248 iq k) (8876) (4) (x9240.toNatClampNeg) := EQ.wr (EQ.congr (w1 := fun k => fI H9237 iq k) (fun j => fI_kept (x_lt hTH9237 kH9248 gq63 (by decide))) (fun _ => rfl) by9242_e63) k3e_ (fun j hj => nE_8876_4_i_8876_4 hj)
        have b9285 : EQ (fun k => fI H9248 q64 k) (fun k => fI H9248 iq k) (8877) (4) (x9240.toNatClampNeg) := EQ.wr (EQ.congr (w1 := fun k => fI H9237 iq k) (fun j => fI_kept (x_lt hTH9237 kH9248 gq64 (by decide))) (fun _ => rfl) by9242_e64) k3e_ (fun j hj => nE_8877_4_i_8876_4 hj)
        have b9286 : EQ (fun k => fI H9248 q66 k) (fun k => fI H9248 iq k) (8878) (4) (x9240.toNatClampNeg) := EQ.wr (EQ.congr (w1 := fun k => fI H9237 iq k) (fun j => fI_kept (x_lt hTH9237 kH9248 gq66 (by decide))) (fun _ => rfl) by9242_e66) k3e_ (fun j hj => nE_8878_4_i_8876_4 hj)
        have b9287 : EQ (fun k => fI H9248 q67 k) (fun k => fI H9248 iq k) (8879) (4) (x9240.toNatClampNeg) := EQ.wr (EQ.congr (w1 := fun k => fI H9237 iq k) (fun j => fI_kept (x_lt hTH9237 kH9248 gq67 (by decide))) (fun _ => rfl) by9242_e67) k3e_ (fun j hj => nE_8879_4_i_8876_4 hj)
        clear by9242_e51 by9242_e52 by9242_e53 by9242_e54 by9242_e63 by9242_e64 by9242_e66 by9242_e67 by9242_fb by9242_u51 by9242_u52 by9242_u53 by9242_u54 by9242_u63 by9242_u64 by9242_u66 by9242_u67 by9242_ui cy9242_0 cy9242_1 cy9242_2 cy9242_3 cy9242_4 cy9242_5 cy9242_6 cy9242_7 cy9242_8 cy9242_9 ex9241 ex9247
        clear m9256 m9257 k3e_ e_
        refine W.eq (g2 := F0 m 116 ls9238 [.int x9249, .int x9240, .ref q63]) rfl ?_
        refine x_iast C hTH9248 hSH9248 gq63 rg_156 bx9240.1 (by show _ < ((8 : Nat) : Int); omega) (i_rng x9249) (AE_in gq63 (by decide)) dX10_keepsTaps_116 (fun H9288 locsH9288 hTH9288 hSH9288 wH9288 => ?_)
        have mf9289 : MF K s.heap H9288 a0 [72] := MF.arr wH9288 (G_ne ga0 gq63 (by decide)) mf9277
        have g9290 : WD (avw K H9288 a0) := WD.congr (fun k hk j => av_arr hTH9248 ga0 wH9288 gq63 (by decide) (WD_ok 156 (by decide) k hk)) g9252
        have b9291 : UN (tk.toInt ≠ 0) (fun k => fI H9288 q51 k) (fun k => fI s.heap q51 k) := UN.congr (fun j => Wr.neI wH9288 (Or.inl (G_ne gq51 gq63 (by decide)))) b9258
        have b9292 : UN (tk.toInt ≠ 0) (fun k => fI H9288 q52 k) (fun k => fI s.heap q52 k) := UN.congr (fun j => Wr.neI wH9288 (Or.inl (G_ne gq52 gq63 (by decide)))) b9259
        have b9293 : UN (tk.toInt ≠ 0) (fun k => fI H9288 q53 k) (fun k => fI s.heap q53 k) := UN.congr (fun j => Wr.neI wH9288 (Or.inl (G_ne gq53 gq63 (by decide)))) b9260
        have b9294 : UN (tk.toInt ≠ 0) (fun k => fI H9288 q54 k) (fun k => fI s.heap q54 k) := UN.congr (fun j => Wr.neI wH9288 (Or.inl (G_ne gq54 gq63 (by decide)))) b9261
        have b9295 : UN (tk.toInt ≠ 0) (fun k => fI H9288 q63 k) (fun k => fI s.heap q63 k) := UN.st b9262 (i := x9240.toNatClampNeg) (fun hc => (m9255 hc).trans m9266) (Wr.I wH9288) (fun j hj => Wr.neI wH9288 (Or.inr hj))
        have b9296 : UN (tk.toInt ≠ 0) (fun k => fI H9288 q64 k) (fun k => fI s.heap q64 k) := UN.congr (fun j => Wr.neI wH9288 (Or.inl (G_ne gq64 gq63 (by decide)))) b9263
        have b9297 : UN (tk.toInt ≠ 0) (fun k => fI H9288 q66 k) (fun k => fI s.heap q66 k) := UN.congr (fun j => Wr.neI wH9288 (Or.inl (G_ne gq66 gq63 (by decide)))) b9264
        have b9298 : UN (tk.toInt ≠ 0) (fun k => fI H9288 q67 k) (fun k => fI s.heap q67 k) := UN.congr (fun j => Wr.neI wH9288 (Or.inl (G_ne gq67 gq63 (by decide)))) b9265
        have b9299 : UN (tk.toInt = 0) (fun k => fI H9288 iq k) (fun k => fI s.heap iq k) := UN.congr (fun j => Wr.neI wH9288 (Or.inl (G_ne giq gq63 (by decide)))) b9278
        have b9300 : FB (fun k => fI H9288 iq k) (fun k => fI s.heap iq k) (4796) := FB.congr (fun j => Wr.neI wH9288 (Or.inl (G_ne giq gq63 (by decide)))) b9279
        have b9301 : EQ (fun k => fI H9288 q51 k) (fun k => fI H9288 iq k) (4796) (2) (120) := EQ.congr (fun j => Wr.neI wH9288 (Or.inl (G_ne gq51 gq63 (by decide)))) (fun j => Wr.neI wH9288 (Or.inl (G_ne giq gq63 (by decide)))) b9280
        have b9302 : EQ (fun k => fI H9288 q52 k) (fun k => fI H9288 iq k) (4797) (2) (120) := EQ.congr (fun j => Wr.neI wH9288 (Or.inl (G_ne gq52 gq63 (by decide)))) (fun j => Wr.neI wH9288 (Or.inl (G_ne giq gq63 (by decide)))) b9281
        have b9303 : EQ (fun k => fI H9288 q53 k) (fun k => fI H9288 iq k) (5036) (2) (1920) := EQ.congr (fun j => Wr.neI wH9288 (Or.inl (G_ne gq53 gq63 (by decide)))) (fun j => Wr.neI wH9288 (Or.inl (G_ne giq gq63 (by decide)))) b9282
        have b9304 : EQ (fun k => fI H9288 q54 k) (fun k => fI H9288 iq k) (5037) (2) (1920) := EQ.congr (fun j => Wr.neI wH9288 (Or.inl (G_ne gq54 gq63 (by decide)))) (fun j => Wr.neI wH9288 (Or.inl (G_ne giq gq63 (by decide)))) b9283
        have b9305 : EQ (fun k => fI H9288 q63 k) (fun k => fI H9288 iq k) (8876) (4) (x9240.toNatClampNeg + 1) := EQ.st b9284 (i := x9240.toNatClampNeg) (t := x9241.toNatClampNeg) (by omega) m9254 (by omega) (Wr.I wH9288) (fun j hj => Wr.neI wH9288 (Or.inr hj)) (fun j => Wr.neI wH9288 (Or.inl (G_ne giq gq63 (by decide))))
        have b9306 : EQ (fun k => fI H9288 q64 k) (fun k => fI H9288 iq k) (8877) (4) (x9240.toNatClampNeg) := EQ.congr (fun j => Wr.neI wH9288 (Or.inl (G_ne gq64 gq63 (by decide)))) (fun j => Wr.neI wH9288 (Or.inl (G_ne giq gq63 (by decide)))) b9285
        have b9307 : EQ (fun k => fI H9288 q66 k) (fun k => fI H9288 iq k) (8878) (4) (x9240.toNatClampNeg) := EQ.congr (fun j => Wr.neI wH9288 (Or.inl (G_ne gq66 gq63 (by decide)))) (fun j => Wr.neI wH9288 (Or.inl (G_ne giq gq63 (by decide)))) b9286
        have b9308 : EQ (fun k => fI H9288 q67 k) (fun k => fI H9288 iq k) (8879) (4) (x9240.toNatClampNeg) := EQ.congr (fun j => Wr.neI wH9288 (Or.inl (G_ne gq67 gq63 (by decide)))) (fun j => Wr.neI wH9288 (Or.inl (G_ne giq gq63 (by decide)))) b9287
        have m9310 := m9251.trans (Wr.neR wH9288 (Or.inl (G_ne ga0 gq63 (by decide)))).symm
        have m9311 := m9268.trans (Wr.neR wH9288 (Or.inl (G_ne ga0 gq63 (by decide)))).symm
        have m9312 := m9269.trans (Wr.neR wH9288 (Or.inl (G_ne ga0 gq63 (by decide)))).symm
        have m9313 := m9270.trans (Wr.neR wH9288 (Or.inl (G_ne ga0 gq63 (by decide)))).symm
        have m9314 := m9271.trans (Wr.neR wH9288 (Or.inl (G_ne ga0 gq63 (by decide)))).symm
        have m9315 := m9272.trans (Wr.neR wH9288 (Or.inl (G_ne ga0 gq63 (by decide)))).symm
        have m9316 := m9273.trans (Wr.neR wH9288 (Or.inl (G_ne ga0 gq63 (by decide)))).symm
        have m9317 := m9274.trans (Wr.neR wH9288 (Or.inl (G_ne ga0 gq63 (by decide)))).symm
        have m9318 := m9275.trans (Wr.neR wH9288 (Or.inl (G_ne ga0 gq63 (by decide)))).symm
        have m9319 := m9276.trans (Wr.neI wH9288 (Or.inl (G_ne ga0 gq63 (by decide)))).symm
        have m9320 := ex9250.trans (Wr.neI wH9288 (Or.inl (G_ne ga0 gq63 (by decide)))).symm
        have m9321 := Wr.I wH9288
        have m9321 := m9321.symm
        clear b9258 b9259 b9260 b9261 b9262 b9263 b9264 b9265 b9278 b9279 b9280 b9281 b9282 b9283 b9284 b9285 b9286 b9287 ex9250 g9252 hTH9248 m9251 m9266 m9268 m9269 m9270 m9271 m9272 m9273 m9274 m9275 m9276 mf9277
        refine lv_aload_n hx hb dX10_keepsTaps_117 rfl (lv_at hl9239 0 rfl) ?_
        refine x_gr C hTH9288 (ci := 10) (k := 64) rfl inX10 (by decide) wF_X10_149 ga0 rg_112 rfl dX10_keepsTaps_118 (fun q9322 eq9322 gq9322 => ?_)
        have uq9322 : q64 = q9322 := (m9316).trans eq9322.symm
        subst uq9322
        clear eq9322
        refine lv_iload_n hx hb dX10_keepsTaps_121 rfl (lv_at hl9239 1 rfl) ?_
        refine lv_aload_n hx hb dX10_keepsTaps_122 rfl (lv_at hl9239 0 rfl) ?_
        refine lv_aload_n hx hb dX10_keepsTaps_123 rfl (lv_at hl9239 0 rfl) ?_
        refine x_gr C hTH9288 (ci := 10) (k := 64) rfl inX10 (by decide) wF_X10_149 ga0 rg_112 rfl dX10_keepsTaps_124 (fun q9323 eq9323 gq9323 => ?_)
        have uq9323 : q64 = q9323 := (m9316).trans eq9323.symm
        subst uq9323
        clear eq9323
        refine lv_iload_n hx hb dX10_keepsTaps_127 rfl (lv_at hl9239 1 rfl) ?_
        refine x_ai C hTH9288 gq64 rg_157 ⟨bx9240.1, by show _ < ((8 : Nat) : Int); omega⟩ dX10_keepsTaps_128 (fun x9324 ex9324 bx9324 => ?_)
        refine x_V (As := [.int x9324]) (rest := [.int x9240, .ref q64]) C (a_X10_kept l K G H9288 (x9324) (x9250) (tk) hTH9288 ga0 giq m9310 m9320 m9319 g9290 (by and_intros <;> first | assumption | omega)) yo_X10_kept wM_X10_473 ⟨⟨by decide, by decide⟩, by decide, by decide⟩ (x_rv C hTH9288 (ci := 10) rfl ga0 rg_112) rfl hl9239.1 rfl (Nat.le_of_ble_eq_true rfl) dX10_keepsTaps_129 hSH9288 (AE_sub (fun _ _ => rfl) (by decide) hSH9288.1) (fun vH9325 H9325 locsH9325 pH9325 zH9325 kH9325 hSH9325 => ?_)
        obtain ⟨x9326, x9327, hvH9325, ex9327, hrH9325, m9328, g9329, mf9330, m9331, m9332, m9333, m9334, hTH9325⟩ := pH9325
        subst hvH9325
        clear zH9325
        replace m9328 := EQN.mk m9328
        have b9335 : UN (tk.toInt ≠ 0) (fun k => fI H9325 q51 k) (fun k => fI s.heap q51 k) := UN.congr (fun j => fI_kept (x_lt hTH9288 kH9325 gq51 (by decide))) b9291
        have b9336 : UN (tk.toInt ≠ 0) (fun k => fI H9325 q52 k) (fun k => fI s.heap q52 k) := UN.congr (fun j => fI_kept (x_lt hTH9288 kH9325 gq52 (by decide))) b9292
        have b9337 : UN (tk.toInt ≠ 0) (fun k => fI H9325 q53 k) (fun k => fI s.heap q53 k) := UN.congr (fun j => fI_kept (x_lt hTH9288 kH9325 gq53 (by decide))) b9293
        have b9338 : UN (tk.toInt ≠ 0) (fun k => fI H9325 q54 k) (fun k => fI s.heap q54 k) := UN.congr (fun j => fI_kept (x_lt hTH9288 kH9325 gq54 (by decide))) b9294
        have b9339 : UN (tk.toInt ≠ 0) (fun k => fI H9325 q63 k) (fun k => fI s.heap q63 k) := UN.congr (fun j => fI_kept (x_lt hTH9288 kH9325 gq63 (by decide))) b9295
        have b9340 : UN (tk.toInt ≠ 0) (fun k => fI H9325 q64 k) (fun k => fI s.heap q64 k) := UN.congr (fun j => fI_kept (x_lt hTH9288 kH9325 gq64 (by decide))) b9296
        have b9341 : UN (tk.toInt ≠ 0) (fun k => fI H9325 q66 k) (fun k => fI s.heap q66 k) := UN.congr (fun j => fI_kept (x_lt hTH9288 kH9325 gq66 (by decide))) b9297
        have b9342 : UN (tk.toInt ≠ 0) (fun k => fI H9325 q67 k) (fun k => fI s.heap q67 k) := UN.congr (fun j => fI_kept (x_lt hTH9288 kH9325 gq67 (by decide))) b9298
        have m9343 := (m9321).trans (fI_kept (x_lt hTH9288 kH9325 gq63 (by decide))).symm
        have m9344 := (ex9324).trans (fI_kept (x_lt hTH9288 kH9325 gq64 (by decide))).symm
        have m9345 := (m9310).trans (MF.r mf9330 (k := 73) (by decide) (by decide)).symm
        have m9346 := (m9311).trans (MF.r mf9330 (k := 51) (by decide) (by decide)).symm
        have m9347 := (m9312).trans (MF.r mf9330 (k := 52) (by decide) (by decide)).symm
        have m9348 := (m9313).trans (MF.r mf9330 (k := 53) (by decide) (by decide)).symm
        have m9349 := (m9314).trans (MF.r mf9330 (k := 54) (by decide) (by decide)).symm
        have m9350 := (m9315).trans (MF.r mf9330 (k := 63) (by decide) (by decide)).symm
        have m9351 := (m9316).trans (MF.r mf9330 (k := 64) (by decide) (by decide)).symm
        have m9352 := (m9317).trans (MF.r mf9330 (k := 66) (by decide) (by decide)).symm
        have m9353 := (m9318).trans (MF.r mf9330 (k := 67) (by decide) (by decide)).symm
        have m9354 := (m9319).trans (MF.i mf9330 (k := 71) (by decide) (by decide)).symm
        have mf9355 : MF K s.heap H9325 a0 [72] := MF.trans mf9289 mf9330 (by decide)
        have bx9327 := ty_fi (x := x9327) (k := 72) ex9327 hTH9325 ga0 rg_112 rfl
        have ce_x9250 := i_cl (x := x9250) bx9250.1
        have e_ : x9250.toNatClampNeg = 8877 + 4 * x9240.toNatClampNeg := by omega
        have k3e_ := m9333
        rw [e_] at k3e_
        have b9356 : UN (tk.toInt = 0) (fun k => fI H9325 iq k) (fun k => fI s.heap iq k) := UN.tr m9334 b9299
        have b9357 : FB (fun k => fI H9325 iq k) (fun k => fI s.heap iq k) (4796) := FB.wr b9300 k3e_ (fun j hj => Nat.ne_of_lt (Nat.lt_of_lt_of_le hj (Nat.le_trans (by decide : 4796 ≤ 8877) (Nat.le_add_right _ _))))
        have b9358 : EQ (fun k => fI H9325 q51 k) (fun k => fI H9325 iq k) (4796) (2) (120) := EQ.wr (EQ.congr (w1 := fun k => fI H9288 iq k) (fun j => fI_kept (x_lt hTH9288 kH9325 gq51 (by decide))) (fun _ => rfl) b9301) k3e_ (fun j hj => nE_4796_2_120_8877_4 hj)
        have b9359 : EQ (fun k => fI H9325 q52 k) (fun k => fI H9325 iq k) (4797) (2) (120) := EQ.wr (EQ.congr (w1 := fun k => fI H9288 iq k) (fun j => fI_kept (x_lt hTH9288 kH9325 gq52 (by decide))) (fun _ => rfl) b9302) k3e_ (fun j hj => nE_4797_2_120_8877_4 hj)
        have b9360 : EQ (fun k => fI H9325 q53 k) (fun k => fI H9325 iq k) (5036) (2) (1920) := EQ.wr (EQ.congr (w1 := fun k => fI H9288 iq k) (fun j => fI_kept (x_lt hTH9288 kH9325 gq53 (by decide))) (fun _ => rfl) b9303) k3e_ (fun j hj => nE_5036_2_1920_8877_4 hj)
        have b9361 : EQ (fun k => fI H9325 q54 k) (fun k => fI H9325 iq k) (5037) (2) (1920) := EQ.wr (EQ.congr (w1 := fun k => fI H9288 iq k) (fun j => fI_kept (x_lt hTH9288 kH9325 gq54 (by decide))) (fun _ => rfl) b9304) k3e_ (fun j hj => nE_5037_2_1920_8877_4 hj)
        have b9362 : EQ (fun k => fI H9325 q63 k) (fun k => fI H9325 iq k) (8876) (4) (x9240.toNatClampNeg + 1) := EQ.wr (EQ.congr (w1 := fun k => fI H9288 iq k) (fun j => fI_kept (x_lt hTH9288 kH9325 gq63 (by decide))) (fun _ => rfl) b9305) k3e_ (fun j hj => nE_8876_4_i1_8877_4 hj)
        have b9363 : EQ (fun k => fI H9325 q64 k) (fun k => fI H9325 iq k) (8877) (4) (x9240.toNatClampNeg) := EQ.wr (EQ.congr (w1 := fun k => fI H9288 iq k) (fun j => fI_kept (x_lt hTH9288 kH9325 gq64 (by decide))) (fun _ => rfl) b9306) k3e_ (fun j hj => nE_8877_4_i_8877_4 hj)
        have b9364 : EQ (fun k => fI H9325 q66 k) (fun k => fI H9325 iq k) (8878) (4) (x9240.toNatClampNeg) := EQ.wr (EQ.congr (w1 := fun k => fI H9288 iq k) (fun j => fI_kept (x_lt hTH9288 kH9325 gq66 (by decide))) (fun _ => rfl) b9307) k3e_ (fun j hj => nE_8878_4_i_8877_4 hj)
        have b9365 : EQ (fun k => fI H9325 q67 k) (fun k => fI H9325 iq k) (8879) (4) (x9240.toNatClampNeg) := EQ.wr (EQ.congr (w1 := fun k => fI H9288 iq k) (fun j => fI_kept (x_lt hTH9288 kH9325 gq67 (by decide))) (fun _ => rfl) b9308) k3e_ (fun j hj => nE_8879_4_i_8877_4 hj)
        clear b9291 b9292 b9293 b9294 b9295 b9296 b9297 b9298 b9299 b9300 b9301 b9302 b9303 b9304 b9305 b9306 b9307 b9308 ex9324 m9310 m9311 m9312 m9313 m9314 m9315 m9316 m9317 m9318 m9319 m9320 m9321
        clear m9333 m9334 k3e_ e_
        refine W.eq (g2 := F0 m 132 ls9238 [.int x9326, .int x9240, .ref q64]) rfl ?_
        refine x_iast C hTH9325 hSH9325 gq64 rg_157 bx9240.1 (by show _ < ((8 : Nat) : Int); omega) (i_rng x9326) (AE_in gq64 (by decide)) dX10_keepsTaps_132 (fun H9366 locsH9366 hTH9366 hSH9366 wH9366 => ?_)
        have mf9367 : MF K s.heap H9366 a0 [72] := MF.arr wH9366 (G_ne ga0 gq64 (by decide)) mf9355
        have g9368 : WD (avw K H9366 a0) := WD.congr (fun k hk j => av_arr hTH9325 ga0 wH9366 gq64 (by decide) (WD_ok 157 (by decide) k hk)) g9329
        have b9369 : UN (tk.toInt ≠ 0) (fun k => fI H9366 q51 k) (fun k => fI s.heap q51 k) := UN.congr (fun j => Wr.neI wH9366 (Or.inl (G_ne gq51 gq64 (by decide)))) b9335
        have b9370 : UN (tk.toInt ≠ 0) (fun k => fI H9366 q52 k) (fun k => fI s.heap q52 k) := UN.congr (fun j => Wr.neI wH9366 (Or.inl (G_ne gq52 gq64 (by decide)))) b9336
        have b9371 : UN (tk.toInt ≠ 0) (fun k => fI H9366 q53 k) (fun k => fI s.heap q53 k) := UN.congr (fun j => Wr.neI wH9366 (Or.inl (G_ne gq53 gq64 (by decide)))) b9337
        have b9372 : UN (tk.toInt ≠ 0) (fun k => fI H9366 q54 k) (fun k => fI s.heap q54 k) := UN.congr (fun j => Wr.neI wH9366 (Or.inl (G_ne gq54 gq64 (by decide)))) b9338
        have b9373 : UN (tk.toInt ≠ 0) (fun k => fI H9366 q63 k) (fun k => fI s.heap q63 k) := UN.congr (fun j => Wr.neI wH9366 (Or.inl (G_ne gq63 gq64 (by decide)))) b9339
        have b9374 : UN (tk.toInt ≠ 0) (fun k => fI H9366 q64 k) (fun k => fI s.heap q64 k) := UN.st b9340 (i := x9240.toNatClampNeg) (fun hc => (m9332 hc).trans m9344) (Wr.I wH9366) (fun j hj => Wr.neI wH9366 (Or.inr hj))
        have b9375 : UN (tk.toInt ≠ 0) (fun k => fI H9366 q66 k) (fun k => fI s.heap q66 k) := UN.congr (fun j => Wr.neI wH9366 (Or.inl (G_ne gq66 gq64 (by decide)))) b9341
        have b9376 : UN (tk.toInt ≠ 0) (fun k => fI H9366 q67 k) (fun k => fI s.heap q67 k) := UN.congr (fun j => Wr.neI wH9366 (Or.inl (G_ne gq67 gq64 (by decide)))) b9342
        have b9377 : UN (tk.toInt = 0) (fun k => fI H9366 iq k) (fun k => fI s.heap iq k) := UN.congr (fun j => Wr.neI wH9366 (Or.inl (G_ne giq gq64 (by decide)))) b9356
        have b9378 : FB (fun k => fI H9366 iq k) (fun k => fI s.heap iq k) (4796) := FB.congr (fun j => Wr.neI wH9366 (Or.inl (G_ne giq gq64 (by decide)))) b9357
        have b9379 : EQ (fun k => fI H9366 q51 k) (fun k => fI H9366 iq k) (4796) (2) (120) := EQ.congr (fun j => Wr.neI wH9366 (Or.inl (G_ne gq51 gq64 (by decide)))) (fun j => Wr.neI wH9366 (Or.inl (G_ne giq gq64 (by decide)))) b9358
        have b9380 : EQ (fun k => fI H9366 q52 k) (fun k => fI H9366 iq k) (4797) (2) (120) := EQ.congr (fun j => Wr.neI wH9366 (Or.inl (G_ne gq52 gq64 (by decide)))) (fun j => Wr.neI wH9366 (Or.inl (G_ne giq gq64 (by decide)))) b9359
        have b9381 : EQ (fun k => fI H9366 q53 k) (fun k => fI H9366 iq k) (5036) (2) (1920) := EQ.congr (fun j => Wr.neI wH9366 (Or.inl (G_ne gq53 gq64 (by decide)))) (fun j => Wr.neI wH9366 (Or.inl (G_ne giq gq64 (by decide)))) b9360
        have b9382 : EQ (fun k => fI H9366 q54 k) (fun k => fI H9366 iq k) (5037) (2) (1920) := EQ.congr (fun j => Wr.neI wH9366 (Or.inl (G_ne gq54 gq64 (by decide)))) (fun j => Wr.neI wH9366 (Or.inl (G_ne giq gq64 (by decide)))) b9361
        have b9383 : EQ (fun k => fI H9366 q63 k) (fun k => fI H9366 iq k) (8876) (4) (x9240.toNatClampNeg + 1) := EQ.congr (fun j => Wr.neI wH9366 (Or.inl (G_ne gq63 gq64 (by decide)))) (fun j => Wr.neI wH9366 (Or.inl (G_ne giq gq64 (by decide)))) b9362
        have b9384 : EQ (fun k => fI H9366 q64 k) (fun k => fI H9366 iq k) (8877) (4) (x9240.toNatClampNeg + 1) := EQ.st b9363 (i := x9240.toNatClampNeg) (t := x9250.toNatClampNeg) (by omega) m9331 (by omega) (Wr.I wH9366) (fun j hj => Wr.neI wH9366 (Or.inr hj)) (fun j => Wr.neI wH9366 (Or.inl (G_ne giq gq64 (by decide))))
        have b9385 : EQ (fun k => fI H9366 q66 k) (fun k => fI H9366 iq k) (8878) (4) (x9240.toNatClampNeg) := EQ.congr (fun j => Wr.neI wH9366 (Or.inl (G_ne gq66 gq64 (by decide)))) (fun j => Wr.neI wH9366 (Or.inl (G_ne giq gq64 (by decide)))) b9364
        have b9386 : EQ (fun k => fI H9366 q67 k) (fun k => fI H9366 iq k) (8879) (4) (x9240.toNatClampNeg) := EQ.congr (fun j => Wr.neI wH9366 (Or.inl (G_ne gq67 gq64 (by decide)))) (fun j => Wr.neI wH9366 (Or.inl (G_ne giq gq64 (by decide)))) b9365
        have m9387 := m9343.trans (Wr.neI wH9366 (Or.inl (G_ne gq63 gq64 (by decide)))).symm
        have m9389 := m9328.trans (Wr.neR wH9366 (Or.inl (G_ne ga0 gq64 (by decide)))).symm
        have m9390 := m9346.trans (Wr.neR wH9366 (Or.inl (G_ne ga0 gq64 (by decide)))).symm
        have m9391 := m9347.trans (Wr.neR wH9366 (Or.inl (G_ne ga0 gq64 (by decide)))).symm
        have m9392 := m9348.trans (Wr.neR wH9366 (Or.inl (G_ne ga0 gq64 (by decide)))).symm
        have m9393 := m9349.trans (Wr.neR wH9366 (Or.inl (G_ne ga0 gq64 (by decide)))).symm
        have m9394 := m9350.trans (Wr.neR wH9366 (Or.inl (G_ne ga0 gq64 (by decide)))).symm
        have m9395 := m9351.trans (Wr.neR wH9366 (Or.inl (G_ne ga0 gq64 (by decide)))).symm
        have m9396 := m9352.trans (Wr.neR wH9366 (Or.inl (G_ne ga0 gq64 (by decide)))).symm
        have m9397 := m9353.trans (Wr.neR wH9366 (Or.inl (G_ne ga0 gq64 (by decide)))).symm
        have m9398 := m9354.trans (Wr.neI wH9366 (Or.inl (G_ne ga0 gq64 (by decide)))).symm
        have m9399 := ex9327.trans (Wr.neI wH9366 (Or.inl (G_ne ga0 gq64 (by decide)))).symm
        have m9400 := Wr.I wH9366
        have m9400 := m9400.symm
        clear b9335 b9336 b9337 b9338 b9339 b9340 b9341 b9342 b9356 b9357 b9358 b9359 b9360 b9361 b9362 b9363 b9364 b9365 ex9327 g9329 hTH9325 m9328 m9343 m9344 m9346 m9347 m9348 m9349 m9350 m9351 m9352 m9353 m9354 mf9355
        refine lv_aload_n hx hb dX10_keepsTaps_133 rfl (lv_at hl9239 0 rfl) ?_
        refine x_gr C hTH9366 (ci := 10) (k := 66) rfl inX10 (by decide) wF_X10_152 ga0 rg_112 rfl dX10_keepsTaps_134 (fun q9401 eq9401 gq9401 => ?_)
        have uq9401 : q66 = q9401 := (m9396).trans eq9401.symm
        subst uq9401
        clear eq9401
        refine lv_iload_n hx hb dX10_keepsTaps_137 rfl (lv_at hl9239 1 rfl) ?_
        refine lv_aload_n hx hb dX10_keepsTaps_138 rfl (lv_at hl9239 0 rfl) ?_
        refine lv_aload_n hx hb dX10_keepsTaps_139 rfl (lv_at hl9239 0 rfl) ?_
        refine x_gr C hTH9366 (ci := 10) (k := 66) rfl inX10 (by decide) wF_X10_152 ga0 rg_112 rfl dX10_keepsTaps_140 (fun q9402 eq9402 gq9402 => ?_)
        have uq9402 : q66 = q9402 := (m9396).trans eq9402.symm
        subst uq9402
        clear eq9402
        refine lv_iload_n hx hb dX10_keepsTaps_143 rfl (lv_at hl9239 1 rfl) ?_
        refine x_ai C hTH9366 gq66 rg_158 ⟨bx9240.1, by show _ < ((8 : Nat) : Int); omega⟩ dX10_keepsTaps_144 (fun x9403 ex9403 bx9403 => ?_)
        refine x_V (As := [.int x9403]) (rest := [.int x9240, .ref q66]) C (a_X10_kept l K G H9366 (x9403) (x9327) (tk) hTH9366 ga0 giq m9389 m9399 m9398 g9368 (by and_intros <;> first | assumption | omega)) yo_X10_kept wM_X10_473 ⟨⟨by decide, by decide⟩, by decide, by decide⟩ (x_rv C hTH9366 (ci := 10) rfl ga0 rg_112) rfl hl9239.1 rfl (Nat.le_of_ble_eq_true rfl) dX10_keepsTaps_145 hSH9366 (AE_sub (fun _ _ => rfl) (by decide) hSH9366.1) (fun vH9404 H9404 locsH9404 pH9404 zH9404 kH9404 hSH9404 => ?_)
        obtain ⟨x9405, x9406, hvH9404, ex9406, hrH9404, m9407, g9408, mf9409, m9410, m9411, m9412, m9413, hTH9404⟩ := pH9404
        subst hvH9404
        clear zH9404
        replace m9407 := EQN.mk m9407
        have b9414 : UN (tk.toInt ≠ 0) (fun k => fI H9404 q51 k) (fun k => fI s.heap q51 k) := UN.congr (fun j => fI_kept (x_lt hTH9366 kH9404 gq51 (by decide))) b9369
        have b9415 : UN (tk.toInt ≠ 0) (fun k => fI H9404 q52 k) (fun k => fI s.heap q52 k) := UN.congr (fun j => fI_kept (x_lt hTH9366 kH9404 gq52 (by decide))) b9370
        have b9416 : UN (tk.toInt ≠ 0) (fun k => fI H9404 q53 k) (fun k => fI s.heap q53 k) := UN.congr (fun j => fI_kept (x_lt hTH9366 kH9404 gq53 (by decide))) b9371
        have b9417 : UN (tk.toInt ≠ 0) (fun k => fI H9404 q54 k) (fun k => fI s.heap q54 k) := UN.congr (fun j => fI_kept (x_lt hTH9366 kH9404 gq54 (by decide))) b9372
        have b9418 : UN (tk.toInt ≠ 0) (fun k => fI H9404 q63 k) (fun k => fI s.heap q63 k) := UN.congr (fun j => fI_kept (x_lt hTH9366 kH9404 gq63 (by decide))) b9373
        have b9419 : UN (tk.toInt ≠ 0) (fun k => fI H9404 q64 k) (fun k => fI s.heap q64 k) := UN.congr (fun j => fI_kept (x_lt hTH9366 kH9404 gq64 (by decide))) b9374
        have b9420 : UN (tk.toInt ≠ 0) (fun k => fI H9404 q66 k) (fun k => fI s.heap q66 k) := UN.congr (fun j => fI_kept (x_lt hTH9366 kH9404 gq66 (by decide))) b9375
        have b9421 : UN (tk.toInt ≠ 0) (fun k => fI H9404 q67 k) (fun k => fI s.heap q67 k) := UN.congr (fun j => fI_kept (x_lt hTH9366 kH9404 gq67 (by decide))) b9376
        have m9422 := (m9387).trans (fI_kept (x_lt hTH9366 kH9404 gq63 (by decide))).symm
        have m9423 := (m9400).trans (fI_kept (x_lt hTH9366 kH9404 gq64 (by decide))).symm
        have m9424 := (ex9403).trans (fI_kept (x_lt hTH9366 kH9404 gq66 (by decide))).symm
        have m9425 := (m9389).trans (MF.r mf9409 (k := 73) (by decide) (by decide)).symm
        have m9426 := (m9390).trans (MF.r mf9409 (k := 51) (by decide) (by decide)).symm
        have m9427 := (m9391).trans (MF.r mf9409 (k := 52) (by decide) (by decide)).symm
        have m9428 := (m9392).trans (MF.r mf9409 (k := 53) (by decide) (by decide)).symm
        have m9429 := (m9393).trans (MF.r mf9409 (k := 54) (by decide) (by decide)).symm
        have m9430 := (m9394).trans (MF.r mf9409 (k := 63) (by decide) (by decide)).symm
        have m9431 := (m9395).trans (MF.r mf9409 (k := 64) (by decide) (by decide)).symm
        have m9432 := (m9396).trans (MF.r mf9409 (k := 66) (by decide) (by decide)).symm
        have m9433 := (m9397).trans (MF.r mf9409 (k := 67) (by decide) (by decide)).symm
        have m9434 := (m9398).trans (MF.i mf9409 (k := 71) (by decide) (by decide)).symm
        have mf9435 : MF K s.heap H9404 a0 [72] := MF.trans mf9367 mf9409 (by decide)
        have bx9406 := ty_fi (x := x9406) (k := 72) ex9406 hTH9404 ga0 rg_112 rfl
        have ce_x9327 := i_cl (x := x9327) bx9327.1
        have e_ : x9327.toNatClampNeg = 8878 + 4 * x9240.toNatClampNeg := by omega
        have k3e_ := m9412
        rw [e_] at k3e_
        have b9436 : UN (tk.toInt = 0) (fun k => fI H9404 iq k) (fun k => fI s.heap iq k) := UN.tr m9413 b9377
        have b9437 : FB (fun k => fI H9404 iq k) (fun k => fI s.heap iq k) (4796) := FB.wr b9378 k3e_ (fun j hj => Nat.ne_of_lt (Nat.lt_of_lt_of_le hj (Nat.le_trans (by decide : 4796 ≤ 8878) (Nat.le_add_right _ _))))
        have b9438 : EQ (fun k => fI H9404 q51 k) (fun k => fI H9404 iq k) (4796) (2) (120) := EQ.wr (EQ.congr (w1 := fun k => fI H9366 iq k) (fun j => fI_kept (x_lt hTH9366 kH9404 gq51 (by decide))) (fun _ => rfl) b9379) k3e_ (fun j hj => nE_4796_2_120_8878_4 hj)
        have b9439 : EQ (fun k => fI H9404 q52 k) (fun k => fI H9404 iq k) (4797) (2) (120) := EQ.wr (EQ.congr (w1 := fun k => fI H9366 iq k) (fun j => fI_kept (x_lt hTH9366 kH9404 gq52 (by decide))) (fun _ => rfl) b9380) k3e_ (fun j hj => nE_4797_2_120_8878_4 hj)
        have b9440 : EQ (fun k => fI H9404 q53 k) (fun k => fI H9404 iq k) (5036) (2) (1920) := EQ.wr (EQ.congr (w1 := fun k => fI H9366 iq k) (fun j => fI_kept (x_lt hTH9366 kH9404 gq53 (by decide))) (fun _ => rfl) b9381) k3e_ (fun j hj => nE_5036_2_1920_8878_4 hj)
        have b9441 : EQ (fun k => fI H9404 q54 k) (fun k => fI H9404 iq k) (5037) (2) (1920) := EQ.wr (EQ.congr (w1 := fun k => fI H9366 iq k) (fun j => fI_kept (x_lt hTH9366 kH9404 gq54 (by decide))) (fun _ => rfl) b9382) k3e_ (fun j hj => nE_5037_2_1920_8878_4 hj)
        have b9442 : EQ (fun k => fI H9404 q63 k) (fun k => fI H9404 iq k) (8876) (4) (x9240.toNatClampNeg + 1) := EQ.wr (EQ.congr (w1 := fun k => fI H9366 iq k) (fun j => fI_kept (x_lt hTH9366 kH9404 gq63 (by decide))) (fun _ => rfl) b9383) k3e_ (fun j hj => nE_8876_4_i1_8878_4 hj)
        have b9443 : EQ (fun k => fI H9404 q64 k) (fun k => fI H9404 iq k) (8877) (4) (x9240.toNatClampNeg + 1) := EQ.wr (EQ.congr (w1 := fun k => fI H9366 iq k) (fun j => fI_kept (x_lt hTH9366 kH9404 gq64 (by decide))) (fun _ => rfl) b9384) k3e_ (fun j hj => nE_8877_4_i1_8878_4 hj)
        have b9444 : EQ (fun k => fI H9404 q66 k) (fun k => fI H9404 iq k) (8878) (4) (x9240.toNatClampNeg) := EQ.wr (EQ.congr (w1 := fun k => fI H9366 iq k) (fun j => fI_kept (x_lt hTH9366 kH9404 gq66 (by decide))) (fun _ => rfl) b9385) k3e_ (fun j hj => nE_8878_4_i_8878_4 hj)
        have b9445 : EQ (fun k => fI H9404 q67 k) (fun k => fI H9404 iq k) (8879) (4) (x9240.toNatClampNeg) := EQ.wr (EQ.congr (w1 := fun k => fI H9366 iq k) (fun j => fI_kept (x_lt hTH9366 kH9404 gq67 (by decide))) (fun _ => rfl) b9386) k3e_ (fun j hj => nE_8879_4_i_8878_4 hj)
        clear b9369 b9370 b9371 b9372 b9373 b9374 b9375 b9376 b9377 b9378 b9379 b9380 b9381 b9382 b9383 b9384 b9385 b9386 ex9403 m9387 m9389 m9390 m9391 m9392 m9393 m9394 m9395 m9396 m9397 m9398 m9399 m9400
        clear m9412 m9413 k3e_ e_
        refine W.eq (g2 := F0 m 148 ls9238 [.int x9405, .int x9240, .ref q66]) rfl ?_
        refine x_iast C hTH9404 hSH9404 gq66 rg_158 bx9240.1 (by show _ < ((8 : Nat) : Int); omega) (i_rng x9405) (AE_in gq66 (by decide)) dX10_keepsTaps_148 (fun H9446 locsH9446 hTH9446 hSH9446 wH9446 => ?_)
        have mf9447 : MF K s.heap H9446 a0 [72] := MF.arr wH9446 (G_ne ga0 gq66 (by decide)) mf9435
        have g9448 : WD (avw K H9446 a0) := WD.congr (fun k hk j => av_arr hTH9404 ga0 wH9446 gq66 (by decide) (WD_ok 158 (by decide) k hk)) g9408
        have b9449 : UN (tk.toInt ≠ 0) (fun k => fI H9446 q51 k) (fun k => fI s.heap q51 k) := UN.congr (fun j => Wr.neI wH9446 (Or.inl (G_ne gq51 gq66 (by decide)))) b9414
        have b9450 : UN (tk.toInt ≠ 0) (fun k => fI H9446 q52 k) (fun k => fI s.heap q52 k) := UN.congr (fun j => Wr.neI wH9446 (Or.inl (G_ne gq52 gq66 (by decide)))) b9415
        have b9451 : UN (tk.toInt ≠ 0) (fun k => fI H9446 q53 k) (fun k => fI s.heap q53 k) := UN.congr (fun j => Wr.neI wH9446 (Or.inl (G_ne gq53 gq66 (by decide)))) b9416
        have b9452 : UN (tk.toInt ≠ 0) (fun k => fI H9446 q54 k) (fun k => fI s.heap q54 k) := UN.congr (fun j => Wr.neI wH9446 (Or.inl (G_ne gq54 gq66 (by decide)))) b9417
        have b9453 : UN (tk.toInt ≠ 0) (fun k => fI H9446 q63 k) (fun k => fI s.heap q63 k) := UN.congr (fun j => Wr.neI wH9446 (Or.inl (G_ne gq63 gq66 (by decide)))) b9418
        have b9454 : UN (tk.toInt ≠ 0) (fun k => fI H9446 q64 k) (fun k => fI s.heap q64 k) := UN.congr (fun j => Wr.neI wH9446 (Or.inl (G_ne gq64 gq66 (by decide)))) b9419
        have b9455 : UN (tk.toInt ≠ 0) (fun k => fI H9446 q66 k) (fun k => fI s.heap q66 k) := UN.st b9420 (i := x9240.toNatClampNeg) (fun hc => (m9411 hc).trans m9424) (Wr.I wH9446) (fun j hj => Wr.neI wH9446 (Or.inr hj))
        have b9456 : UN (tk.toInt ≠ 0) (fun k => fI H9446 q67 k) (fun k => fI s.heap q67 k) := UN.congr (fun j => Wr.neI wH9446 (Or.inl (G_ne gq67 gq66 (by decide)))) b9421
        have b9457 : UN (tk.toInt = 0) (fun k => fI H9446 iq k) (fun k => fI s.heap iq k) := UN.congr (fun j => Wr.neI wH9446 (Or.inl (G_ne giq gq66 (by decide)))) b9436
        have b9458 : FB (fun k => fI H9446 iq k) (fun k => fI s.heap iq k) (4796) := FB.congr (fun j => Wr.neI wH9446 (Or.inl (G_ne giq gq66 (by decide)))) b9437
        have b9459 : EQ (fun k => fI H9446 q51 k) (fun k => fI H9446 iq k) (4796) (2) (120) := EQ.congr (fun j => Wr.neI wH9446 (Or.inl (G_ne gq51 gq66 (by decide)))) (fun j => Wr.neI wH9446 (Or.inl (G_ne giq gq66 (by decide)))) b9438
        have b9460 : EQ (fun k => fI H9446 q52 k) (fun k => fI H9446 iq k) (4797) (2) (120) := EQ.congr (fun j => Wr.neI wH9446 (Or.inl (G_ne gq52 gq66 (by decide)))) (fun j => Wr.neI wH9446 (Or.inl (G_ne giq gq66 (by decide)))) b9439
        have b9461 : EQ (fun k => fI H9446 q53 k) (fun k => fI H9446 iq k) (5036) (2) (1920) := EQ.congr (fun j => Wr.neI wH9446 (Or.inl (G_ne gq53 gq66 (by decide)))) (fun j => Wr.neI wH9446 (Or.inl (G_ne giq gq66 (by decide)))) b9440
        have b9462 : EQ (fun k => fI H9446 q54 k) (fun k => fI H9446 iq k) (5037) (2) (1920) := EQ.congr (fun j => Wr.neI wH9446 (Or.inl (G_ne gq54 gq66 (by decide)))) (fun j => Wr.neI wH9446 (Or.inl (G_ne giq gq66 (by decide)))) b9441
        have b9463 : EQ (fun k => fI H9446 q63 k) (fun k => fI H9446 iq k) (8876) (4) (x9240.toNatClampNeg + 1) := EQ.congr (fun j => Wr.neI wH9446 (Or.inl (G_ne gq63 gq66 (by decide)))) (fun j => Wr.neI wH9446 (Or.inl (G_ne giq gq66 (by decide)))) b9442
        have b9464 : EQ (fun k => fI H9446 q64 k) (fun k => fI H9446 iq k) (8877) (4) (x9240.toNatClampNeg + 1) := EQ.congr (fun j => Wr.neI wH9446 (Or.inl (G_ne gq64 gq66 (by decide)))) (fun j => Wr.neI wH9446 (Or.inl (G_ne giq gq66 (by decide)))) b9443
        have b9465 : EQ (fun k => fI H9446 q66 k) (fun k => fI H9446 iq k) (8878) (4) (x9240.toNatClampNeg + 1) := EQ.st b9444 (i := x9240.toNatClampNeg) (t := x9327.toNatClampNeg) (by omega) m9410 (by omega) (Wr.I wH9446) (fun j hj => Wr.neI wH9446 (Or.inr hj)) (fun j => Wr.neI wH9446 (Or.inl (G_ne giq gq66 (by decide))))
        have b9466 : EQ (fun k => fI H9446 q67 k) (fun k => fI H9446 iq k) (8879) (4) (x9240.toNatClampNeg) := EQ.congr (fun j => Wr.neI wH9446 (Or.inl (G_ne gq67 gq66 (by decide)))) (fun j => Wr.neI wH9446 (Or.inl (G_ne giq gq66 (by decide)))) b9445
        have m9467 := m9422.trans (Wr.neI wH9446 (Or.inl (G_ne gq63 gq66 (by decide)))).symm
        have m9468 := m9423.trans (Wr.neI wH9446 (Or.inl (G_ne gq64 gq66 (by decide)))).symm
        have m9470 := m9407.trans (Wr.neR wH9446 (Or.inl (G_ne ga0 gq66 (by decide)))).symm
        have m9471 := m9426.trans (Wr.neR wH9446 (Or.inl (G_ne ga0 gq66 (by decide)))).symm
        have m9472 := m9427.trans (Wr.neR wH9446 (Or.inl (G_ne ga0 gq66 (by decide)))).symm
        have m9473 := m9428.trans (Wr.neR wH9446 (Or.inl (G_ne ga0 gq66 (by decide)))).symm
        have m9474 := m9429.trans (Wr.neR wH9446 (Or.inl (G_ne ga0 gq66 (by decide)))).symm
        have m9475 := m9430.trans (Wr.neR wH9446 (Or.inl (G_ne ga0 gq66 (by decide)))).symm
        have m9476 := m9431.trans (Wr.neR wH9446 (Or.inl (G_ne ga0 gq66 (by decide)))).symm
        have m9477 := m9432.trans (Wr.neR wH9446 (Or.inl (G_ne ga0 gq66 (by decide)))).symm
        have m9478 := m9433.trans (Wr.neR wH9446 (Or.inl (G_ne ga0 gq66 (by decide)))).symm
        have m9479 := m9434.trans (Wr.neI wH9446 (Or.inl (G_ne ga0 gq66 (by decide)))).symm
        have m9480 := ex9406.trans (Wr.neI wH9446 (Or.inl (G_ne ga0 gq66 (by decide)))).symm
        have m9481 := Wr.I wH9446
        have m9481 := m9481.symm
        clear b9414 b9415 b9416 b9417 b9418 b9419 b9420 b9421 b9436 b9437 b9438 b9439 b9440 b9441 b9442 b9443 b9444 b9445 ex9406 g9408 hTH9404 m9407 m9422 m9423 m9424 m9426 m9427 m9428 m9429 m9430 m9431 m9432 m9433 m9434 mf9435
        refine lv_aload_n hx hb dX10_keepsTaps_149 rfl (lv_at hl9239 0 rfl) ?_
        refine x_gr C hTH9446 (ci := 10) (k := 67) rfl inX10 (by decide) wF_X10_155 ga0 rg_112 rfl dX10_keepsTaps_150 (fun q9482 eq9482 gq9482 => ?_)
        have uq9482 : q67 = q9482 := (m9478).trans eq9482.symm
        subst uq9482
        clear eq9482
        refine lv_iload_n hx hb dX10_keepsTaps_153 rfl (lv_at hl9239 1 rfl) ?_
        refine lv_aload_n hx hb dX10_keepsTaps_154 rfl (lv_at hl9239 0 rfl) ?_
        refine lv_aload_n hx hb dX10_keepsTaps_155 rfl (lv_at hl9239 0 rfl) ?_
        refine x_gr C hTH9446 (ci := 10) (k := 67) rfl inX10 (by decide) wF_X10_155 ga0 rg_112 rfl dX10_keepsTaps_156 (fun q9483 eq9483 gq9483 => ?_)
        have uq9483 : q67 = q9483 := (m9478).trans eq9483.symm
        subst uq9483
        clear eq9483
        refine lv_iload_n hx hb dX10_keepsTaps_159 rfl (lv_at hl9239 1 rfl) ?_
        refine x_ai C hTH9446 gq67 rg_159 ⟨bx9240.1, by show _ < ((8 : Nat) : Int); omega⟩ dX10_keepsTaps_160 (fun x9484 ex9484 bx9484 => ?_)
        refine x_V (As := [.int x9484]) (rest := [.int x9240, .ref q67]) C (a_X10_kept l K G H9446 (x9484) (x9406) (tk) hTH9446 ga0 giq m9470 m9480 m9479 g9448 (by and_intros <;> first | assumption | omega)) yo_X10_kept wM_X10_473 ⟨⟨by decide, by decide⟩, by decide, by decide⟩ (x_rv C hTH9446 (ci := 10) rfl ga0 rg_112) rfl hl9239.1 rfl (Nat.le_of_ble_eq_true rfl) dX10_keepsTaps_161 hSH9446 (AE_sub (fun _ _ => rfl) (by decide) hSH9446.1) (fun vH9485 H9485 locsH9485 pH9485 zH9485 kH9485 hSH9485 => ?_)
        obtain ⟨x9486, x9487, hvH9485, ex9487, hrH9485, m9488, g9489, mf9490, m9491, m9492, m9493, m9494, hTH9485⟩ := pH9485
        subst hvH9485
        clear zH9485
        replace m9488 := EQN.mk m9488
        have b9495 : UN (tk.toInt ≠ 0) (fun k => fI H9485 q51 k) (fun k => fI s.heap q51 k) := UN.congr (fun j => fI_kept (x_lt hTH9446 kH9485 gq51 (by decide))) b9449
        have b9496 : UN (tk.toInt ≠ 0) (fun k => fI H9485 q52 k) (fun k => fI s.heap q52 k) := UN.congr (fun j => fI_kept (x_lt hTH9446 kH9485 gq52 (by decide))) b9450
        have b9497 : UN (tk.toInt ≠ 0) (fun k => fI H9485 q53 k) (fun k => fI s.heap q53 k) := UN.congr (fun j => fI_kept (x_lt hTH9446 kH9485 gq53 (by decide))) b9451
        have b9498 : UN (tk.toInt ≠ 0) (fun k => fI H9485 q54 k) (fun k => fI s.heap q54 k) := UN.congr (fun j => fI_kept (x_lt hTH9446 kH9485 gq54 (by decide))) b9452
        have b9499 : UN (tk.toInt ≠ 0) (fun k => fI H9485 q63 k) (fun k => fI s.heap q63 k) := UN.congr (fun j => fI_kept (x_lt hTH9446 kH9485 gq63 (by decide))) b9453
        have b9500 : UN (tk.toInt ≠ 0) (fun k => fI H9485 q64 k) (fun k => fI s.heap q64 k) := UN.congr (fun j => fI_kept (x_lt hTH9446 kH9485 gq64 (by decide))) b9454
        have b9501 : UN (tk.toInt ≠ 0) (fun k => fI H9485 q66 k) (fun k => fI s.heap q66 k) := UN.congr (fun j => fI_kept (x_lt hTH9446 kH9485 gq66 (by decide))) b9455
        have b9502 : UN (tk.toInt ≠ 0) (fun k => fI H9485 q67 k) (fun k => fI s.heap q67 k) := UN.congr (fun j => fI_kept (x_lt hTH9446 kH9485 gq67 (by decide))) b9456
        have m9503 := (m9467).trans (fI_kept (x_lt hTH9446 kH9485 gq63 (by decide))).symm
        have m9504 := (m9468).trans (fI_kept (x_lt hTH9446 kH9485 gq64 (by decide))).symm
        have m9505 := (m9481).trans (fI_kept (x_lt hTH9446 kH9485 gq66 (by decide))).symm
        have m9506 := (ex9484).trans (fI_kept (x_lt hTH9446 kH9485 gq67 (by decide))).symm
        have m9507 := (m9470).trans (MF.r mf9490 (k := 73) (by decide) (by decide)).symm
        have m9508 := (m9471).trans (MF.r mf9490 (k := 51) (by decide) (by decide)).symm
        have m9509 := (m9472).trans (MF.r mf9490 (k := 52) (by decide) (by decide)).symm
        have m9510 := (m9473).trans (MF.r mf9490 (k := 53) (by decide) (by decide)).symm
        have m9511 := (m9474).trans (MF.r mf9490 (k := 54) (by decide) (by decide)).symm
        have m9512 := (m9475).trans (MF.r mf9490 (k := 63) (by decide) (by decide)).symm
        have m9513 := (m9476).trans (MF.r mf9490 (k := 64) (by decide) (by decide)).symm
        have m9514 := (m9477).trans (MF.r mf9490 (k := 66) (by decide) (by decide)).symm
        have m9515 := (m9478).trans (MF.r mf9490 (k := 67) (by decide) (by decide)).symm
        have m9516 := (m9479).trans (MF.i mf9490 (k := 71) (by decide) (by decide)).symm
        have mf9517 : MF K s.heap H9485 a0 [72] := MF.trans mf9447 mf9490 (by decide)
        have bx9487 := ty_fi (x := x9487) (k := 72) ex9487 hTH9485 ga0 rg_112 rfl
        have ce_x9406 := i_cl (x := x9406) bx9406.1
        have e_ : x9406.toNatClampNeg = 8879 + 4 * x9240.toNatClampNeg := by omega
        have k3e_ := m9493
        rw [e_] at k3e_
        have b9518 : UN (tk.toInt = 0) (fun k => fI H9485 iq k) (fun k => fI s.heap iq k) := UN.tr m9494 b9457
        have b9519 : FB (fun k => fI H9485 iq k) (fun k => fI s.heap iq k) (4796) := FB.wr b9458 k3e_ (fun j hj => Nat.ne_of_lt (Nat.lt_of_lt_of_le hj (Nat.le_trans (by decide : 4796 ≤ 8879) (Nat.le_add_right _ _))))
        have b9520 : EQ (fun k => fI H9485 q51 k) (fun k => fI H9485 iq k) (4796) (2) (120) := EQ.wr (EQ.congr (w1 := fun k => fI H9446 iq k) (fun j => fI_kept (x_lt hTH9446 kH9485 gq51 (by decide))) (fun _ => rfl) b9459) k3e_ (fun j hj => nE_4796_2_120_8879_4 hj)
        have b9521 : EQ (fun k => fI H9485 q52 k) (fun k => fI H9485 iq k) (4797) (2) (120) := EQ.wr (EQ.congr (w1 := fun k => fI H9446 iq k) (fun j => fI_kept (x_lt hTH9446 kH9485 gq52 (by decide))) (fun _ => rfl) b9460) k3e_ (fun j hj => nE_4797_2_120_8879_4 hj)
        have b9522 : EQ (fun k => fI H9485 q53 k) (fun k => fI H9485 iq k) (5036) (2) (1920) := EQ.wr (EQ.congr (w1 := fun k => fI H9446 iq k) (fun j => fI_kept (x_lt hTH9446 kH9485 gq53 (by decide))) (fun _ => rfl) b9461) k3e_ (fun j hj => nE_5036_2_1920_8879_4 hj)
        have b9523 : EQ (fun k => fI H9485 q54 k) (fun k => fI H9485 iq k) (5037) (2) (1920) := EQ.wr (EQ.congr (w1 := fun k => fI H9446 iq k) (fun j => fI_kept (x_lt hTH9446 kH9485 gq54 (by decide))) (fun _ => rfl) b9462) k3e_ (fun j hj => nE_5037_2_1920_8879_4 hj)
        have b9524 : EQ (fun k => fI H9485 q63 k) (fun k => fI H9485 iq k) (8876) (4) (x9240.toNatClampNeg + 1) := EQ.wr (EQ.congr (w1 := fun k => fI H9446 iq k) (fun j => fI_kept (x_lt hTH9446 kH9485 gq63 (by decide))) (fun _ => rfl) b9463) k3e_ (fun j hj => nE_8876_4_i1_8879_4 hj)
        have b9525 : EQ (fun k => fI H9485 q64 k) (fun k => fI H9485 iq k) (8877) (4) (x9240.toNatClampNeg + 1) := EQ.wr (EQ.congr (w1 := fun k => fI H9446 iq k) (fun j => fI_kept (x_lt hTH9446 kH9485 gq64 (by decide))) (fun _ => rfl) b9464) k3e_ (fun j hj => nE_8877_4_i1_8879_4 hj)
        have b9526 : EQ (fun k => fI H9485 q66 k) (fun k => fI H9485 iq k) (8878) (4) (x9240.toNatClampNeg + 1) := EQ.wr (EQ.congr (w1 := fun k => fI H9446 iq k) (fun j => fI_kept (x_lt hTH9446 kH9485 gq66 (by decide))) (fun _ => rfl) b9465) k3e_ (fun j hj => nE_8878_4_i1_8879_4 hj)
        have b9527 : EQ (fun k => fI H9485 q67 k) (fun k => fI H9485 iq k) (8879) (4) (x9240.toNatClampNeg) := EQ.wr (EQ.congr (w1 := fun k => fI H9446 iq k) (fun j => fI_kept (x_lt hTH9446 kH9485 gq67 (by decide))) (fun _ => rfl) b9466) k3e_ (fun j hj => nE_8879_4_i_8879_4 hj)
        clear b9449 b9450 b9451 b9452 b9453 b9454 b9455 b9456 b9457 b9458 b9459 b9460 b9461 b9462 b9463 b9464 b9465 b9466 ex9484 m9467 m9468 m9470 m9471 m9472 m9473 m9474 m9475 m9476 m9477 m9478 m9479 m9480 m9481
        clear m9493 m9494 k3e_ e_
        refine W.eq (g2 := F0 m 164 ls9238 [.int x9486, .int x9240, .ref q67]) rfl ?_
        refine x_iast C hTH9485 hSH9485 gq67 rg_159 bx9240.1 (by show _ < ((8 : Nat) : Int); omega) (i_rng x9486) (AE_in gq67 (by decide)) dX10_keepsTaps_164 (fun H9528 locsH9528 hTH9528 hSH9528 wH9528 => ?_)
        have mf9529 : MF K s.heap H9528 a0 [72] := MF.arr wH9528 (G_ne ga0 gq67 (by decide)) mf9517
        have g9530 : WD (avw K H9528 a0) := WD.congr (fun k hk j => av_arr hTH9485 ga0 wH9528 gq67 (by decide) (WD_ok 159 (by decide) k hk)) g9489
        have b9531 : UN (tk.toInt ≠ 0) (fun k => fI H9528 q51 k) (fun k => fI s.heap q51 k) := UN.congr (fun j => Wr.neI wH9528 (Or.inl (G_ne gq51 gq67 (by decide)))) b9495
        have b9532 : UN (tk.toInt ≠ 0) (fun k => fI H9528 q52 k) (fun k => fI s.heap q52 k) := UN.congr (fun j => Wr.neI wH9528 (Or.inl (G_ne gq52 gq67 (by decide)))) b9496
        have b9533 : UN (tk.toInt ≠ 0) (fun k => fI H9528 q53 k) (fun k => fI s.heap q53 k) := UN.congr (fun j => Wr.neI wH9528 (Or.inl (G_ne gq53 gq67 (by decide)))) b9497
        have b9534 : UN (tk.toInt ≠ 0) (fun k => fI H9528 q54 k) (fun k => fI s.heap q54 k) := UN.congr (fun j => Wr.neI wH9528 (Or.inl (G_ne gq54 gq67 (by decide)))) b9498
        have b9535 : UN (tk.toInt ≠ 0) (fun k => fI H9528 q63 k) (fun k => fI s.heap q63 k) := UN.congr (fun j => Wr.neI wH9528 (Or.inl (G_ne gq63 gq67 (by decide)))) b9499
        have b9536 : UN (tk.toInt ≠ 0) (fun k => fI H9528 q64 k) (fun k => fI s.heap q64 k) := UN.congr (fun j => Wr.neI wH9528 (Or.inl (G_ne gq64 gq67 (by decide)))) b9500
        have b9537 : UN (tk.toInt ≠ 0) (fun k => fI H9528 q66 k) (fun k => fI s.heap q66 k) := UN.congr (fun j => Wr.neI wH9528 (Or.inl (G_ne gq66 gq67 (by decide)))) b9501
        have b9538 : UN (tk.toInt ≠ 0) (fun k => fI H9528 q67 k) (fun k => fI s.heap q67 k) := UN.st b9502 (i := x9240.toNatClampNeg) (fun hc => (m9492 hc).trans m9506) (Wr.I wH9528) (fun j hj => Wr.neI wH9528 (Or.inr hj))
        have b9539 : UN (tk.toInt = 0) (fun k => fI H9528 iq k) (fun k => fI s.heap iq k) := UN.congr (fun j => Wr.neI wH9528 (Or.inl (G_ne giq gq67 (by decide)))) b9518
        have b9540 : FB (fun k => fI H9528 iq k) (fun k => fI s.heap iq k) (4796) := FB.congr (fun j => Wr.neI wH9528 (Or.inl (G_ne giq gq67 (by decide)))) b9519
        have b9541 : EQ (fun k => fI H9528 q51 k) (fun k => fI H9528 iq k) (4796) (2) (120) := EQ.congr (fun j => Wr.neI wH9528 (Or.inl (G_ne gq51 gq67 (by decide)))) (fun j => Wr.neI wH9528 (Or.inl (G_ne giq gq67 (by decide)))) b9520
        have b9542 : EQ (fun k => fI H9528 q52 k) (fun k => fI H9528 iq k) (4797) (2) (120) := EQ.congr (fun j => Wr.neI wH9528 (Or.inl (G_ne gq52 gq67 (by decide)))) (fun j => Wr.neI wH9528 (Or.inl (G_ne giq gq67 (by decide)))) b9521
        have b9543 : EQ (fun k => fI H9528 q53 k) (fun k => fI H9528 iq k) (5036) (2) (1920) := EQ.congr (fun j => Wr.neI wH9528 (Or.inl (G_ne gq53 gq67 (by decide)))) (fun j => Wr.neI wH9528 (Or.inl (G_ne giq gq67 (by decide)))) b9522
        have b9544 : EQ (fun k => fI H9528 q54 k) (fun k => fI H9528 iq k) (5037) (2) (1920) := EQ.congr (fun j => Wr.neI wH9528 (Or.inl (G_ne gq54 gq67 (by decide)))) (fun j => Wr.neI wH9528 (Or.inl (G_ne giq gq67 (by decide)))) b9523
        have b9545 : EQ (fun k => fI H9528 q63 k) (fun k => fI H9528 iq k) (8876) (4) (x9240.toNatClampNeg + 1) := EQ.congr (fun j => Wr.neI wH9528 (Or.inl (G_ne gq63 gq67 (by decide)))) (fun j => Wr.neI wH9528 (Or.inl (G_ne giq gq67 (by decide)))) b9524
        have b9546 : EQ (fun k => fI H9528 q64 k) (fun k => fI H9528 iq k) (8877) (4) (x9240.toNatClampNeg + 1) := EQ.congr (fun j => Wr.neI wH9528 (Or.inl (G_ne gq64 gq67 (by decide)))) (fun j => Wr.neI wH9528 (Or.inl (G_ne giq gq67 (by decide)))) b9525
        have b9547 : EQ (fun k => fI H9528 q66 k) (fun k => fI H9528 iq k) (8878) (4) (x9240.toNatClampNeg + 1) := EQ.congr (fun j => Wr.neI wH9528 (Or.inl (G_ne gq66 gq67 (by decide)))) (fun j => Wr.neI wH9528 (Or.inl (G_ne giq gq67 (by decide)))) b9526
        have b9548 : EQ (fun k => fI H9528 q67 k) (fun k => fI H9528 iq k) (8879) (4) (x9240.toNatClampNeg + 1) := EQ.st b9527 (i := x9240.toNatClampNeg) (t := x9406.toNatClampNeg) (by omega) m9491 (by omega) (Wr.I wH9528) (fun j hj => Wr.neI wH9528 (Or.inr hj)) (fun j => Wr.neI wH9528 (Or.inl (G_ne giq gq67 (by decide))))
        have m9549 := m9503.trans (Wr.neI wH9528 (Or.inl (G_ne gq63 gq67 (by decide)))).symm
        have m9550 := m9504.trans (Wr.neI wH9528 (Or.inl (G_ne gq64 gq67 (by decide)))).symm
        have m9551 := m9505.trans (Wr.neI wH9528 (Or.inl (G_ne gq66 gq67 (by decide)))).symm
        have m9553 := m9488.trans (Wr.neR wH9528 (Or.inl (G_ne ga0 gq67 (by decide)))).symm
        have m9554 := m9508.trans (Wr.neR wH9528 (Or.inl (G_ne ga0 gq67 (by decide)))).symm
        have m9555 := m9509.trans (Wr.neR wH9528 (Or.inl (G_ne ga0 gq67 (by decide)))).symm
        have m9556 := m9510.trans (Wr.neR wH9528 (Or.inl (G_ne ga0 gq67 (by decide)))).symm
        have m9557 := m9511.trans (Wr.neR wH9528 (Or.inl (G_ne ga0 gq67 (by decide)))).symm
        have m9558 := m9512.trans (Wr.neR wH9528 (Or.inl (G_ne ga0 gq67 (by decide)))).symm
        have m9559 := m9513.trans (Wr.neR wH9528 (Or.inl (G_ne ga0 gq67 (by decide)))).symm
        have m9560 := m9514.trans (Wr.neR wH9528 (Or.inl (G_ne ga0 gq67 (by decide)))).symm
        have m9561 := m9515.trans (Wr.neR wH9528 (Or.inl (G_ne ga0 gq67 (by decide)))).symm
        have m9562 := m9516.trans (Wr.neI wH9528 (Or.inl (G_ne ga0 gq67 (by decide)))).symm
        have m9563 := ex9487.trans (Wr.neI wH9528 (Or.inl (G_ne ga0 gq67 (by decide)))).symm
        have m9564 := Wr.I wH9528
        have m9564 := m9564.symm
        clear b9495 b9496 b9497 b9498 b9499 b9500 b9501 b9502 b9518 b9519 b9520 b9521 b9522 b9523 b9524 b9525 b9526 b9527 ex9487 g9489 hTH9485 m9488 m9503 m9504 m9505 m9506 m9508 m9509 m9510 m9511 m9512 m9513 m9514 m9515 m9516 mf9517
        obtain ⟨x9565, ex9565⟩ : ∃ y : Int32, y = x9240 + 1 := ⟨_, rfl⟩
        have tx9565 := i_add ex9565 (by omega)
        refine lv_iinc (v := x9565) (lv' := [(1, .int x9565), (0, .ref a0)]) hx hb dX10_keepsTaps_165 hl9239 (k := 1) rfl (by rw [ex9565]; rfl) (by decide) rfl (fun ls9566 hl9567 => ?_)
        refine lv_goto (tgt := 95) hx hb dX10_keepsTaps_168 (by decide) ?_
        have cl_x9565 := i_cl (x := x9565) (by omega)
        exact ih95 ls9566 H9528 locsH9528 (x9565) (x9487) (lv_sub hl9567 [1, 0] rfl) hTH9528 hSH9528 ⟨by have := i_rng x9565; omega, by have := i_rng x9565; omega⟩ bx9487 m9563 m9553 m9554 m9555 m9556 m9557 m9558 m9559 m9560 m9561 m9562 b9539 b9540 (EQ.cast b9541 (by omega)) (EQ.cast b9542 (by omega)) (EQ.cast b9543 (by omega)) (EQ.cast b9544 (by omega)) (EQ.cast b9545 (by omega)) (EQ.cast b9546 (by omega)) (EQ.cast b9547 (by omega)) (EQ.cast b9548 (by omega)) b9531 b9532 b9533 b9534 b9535 b9536 b9537 b9538 mf9529 g9530 (by omega) (by and_intros <;> first | assumption | omega)
  have J48 : ∀ (nf : Nat) (ls9569 : Array Slot) (H9568 : Heap) (locsH9568 : List Loc) (x9571 : Int32) (x9572 : Int32), lv_has ls9569 2 [(0, .ref a0), (1, .int x9571)] → TY K G H9568 → va_S (AE G [112, 162, 147, 148, 149, 150, 156, 157, 158, 159] s.heap.size) s.heap H9568 locsH9568 → (0 ≤ x9571.toInt ∧ x9571.toInt ≤ 1920) → (0 ≤ x9572.toInt ∧ x9572.toInt ≤ 16400) → (x9572 = fI H9568 a0 (K.1.2 10 72)) → (EQN iq (fR H9568 a0 (K.1.2 10 73))) → (EQN q51 (fR H9568 a0 (K.1.2 10 51))) → (EQN q52 (fR H9568 a0 (K.1.2 10 52))) → (EQN q53 (fR H9568 a0 (K.1.2 10 53))) → (EQN q54 (fR H9568 a0 (K.1.2 10 54))) → (EQN q63 (fR H9568 a0 (K.1.2 10 63))) → (EQN q64 (fR H9568 a0 (K.1.2 10 64))) → (EQN q66 (fR H9568 a0 (K.1.2 10 66))) → (EQN q67 (fR H9568 a0 (K.1.2 10 67))) → (tk = fI H9568 a0 (K.1.2 10 71)) → (UN (tk.toInt = 0) (fun k => fI H9568 iq k) (fun k => fI s.heap iq k)) → (FB (fun k => fI H9568 iq k) (fun k => fI s.heap iq k) (4796)) → (EQ (fun k => fI H9568 q51 k) (fun k => fI H9568 iq k) (4796) (2) (120)) → (EQ (fun k => fI H9568 q52 k) (fun k => fI H9568 iq k) (4797) (2) (120)) → (EQ (fun k => fI H9568 q53 k) (fun k => fI H9568 iq k) (5036) (2) (x9571.toNatClampNeg)) → (EQ (fun k => fI H9568 q54 k) (fun k => fI H9568 iq k) (5037) (2) (x9571.toNatClampNeg)) → (EQ (fun k => fI H9568 q63 k) (fun k => fI H9568 iq k) (8876) (4) (0)) → (EQ (fun k => fI H9568 q64 k) (fun k => fI H9568 iq k) (8877) (4) (0)) → (EQ (fun k => fI H9568 q66 k) (fun k => fI H9568 iq k) (8878) (4) (0)) → (EQ (fun k => fI H9568 q67 k) (fun k => fI H9568 iq k) (8879) (4) (0)) → (UN (tk.toInt ≠ 0) (fun k => fI H9568 q51 k) (fun k => fI s.heap q51 k)) → (UN (tk.toInt ≠ 0) (fun k => fI H9568 q52 k) (fun k => fI s.heap q52 k)) → (UN (tk.toInt ≠ 0) (fun k => fI H9568 q53 k) (fun k => fI s.heap q53 k)) → (UN (tk.toInt ≠ 0) (fun k => fI H9568 q54 k) (fun k => fI s.heap q54 k)) → (UN (tk.toInt ≠ 0) (fun k => fI H9568 q63 k) (fun k => fI s.heap q63 k)) → (UN (tk.toInt ≠ 0) (fun k => fI H9568 q64 k) (fun k => fI s.heap q64 k)) → (UN (tk.toInt ≠ 0) (fun k => fI H9568 q66 k) (fun k => fI s.heap q66 k)) → (UN (tk.toInt ≠ 0) (fun k => fI H9568 q67 k) (fun k => fI s.heap q67 k)) → (MF K s.heap H9568 a0 [72]) → (WD (avw K H9568 a0)) → (1920 - x9571.toInt < (nf : Int)) → (x9572.toInt = 5036 + 2 * x9571.toInt) → W p l e ({ frames := 1, cells := 0, slots := 0, locals := 21 } : Room) s m (([.ref a0] : List Value).toArray) below meth c H9568 locsH9568 0 0 Q (F0 m 48 ls9569 []) := by
    intro nf
    induction nf with
    | zero =>
      intro ls9569 H9568 locsH9568 x9571 x9572 hl9570 hTH9568 hSH9568 bx9571 bx9572 ex9572 cy9573_0 cy9573_1 cy9573_2 cy9573_3 cy9573_4 cy9573_5 cy9573_6 cy9573_7 cy9573_8 cy9573_9 by9573_ui by9573_fb by9573_e51 by9573_e52 by9573_e53 by9573_e54 by9573_e63 by9573_e64 by9573_e66 by9573_e67 by9573_u51 by9573_u52 by9573_u53 by9573_u54 by9573_u63 by9573_u64 by9573_u66 by9573_u67 mfy9573 gy9573_WD hm48 iv48
      exfalso
      omega
    | succ nf ih48 =>
      intro ls9569 H9568 locsH9568 x9571 x9572 hl9570 hTH9568 hSH9568 bx9571 bx9572 ex9572 cy9573_0 cy9573_1 cy9573_2 cy9573_3 cy9573_4 cy9573_5 cy9573_6 cy9573_7 cy9573_8 cy9573_9 by9573_ui by9573_fb by9573_e51 by9573_e52 by9573_e53 by9573_e54 by9573_e63 by9573_e64 by9573_e66 by9573_e67 by9573_u51 by9573_u52 by9573_u53 by9573_u54 by9573_u63 by9573_u64 by9573_u66 by9573_u67 mfy9573 gy9573_WD hm48 iv48
      refine lv_iload_n hx hb dX10_keepsTaps_48 rfl (lv_at hl9570 1 rfl) ?_
      refine lv_sipush (v := 1920) hx hb dX10_keepsTaps_49 (by decide) ?_
      refine lv_icmp_ge (tgt := 93) hx hb dX10_keepsTaps_52 (by decide) (fun c9574 => ?_) (fun c9574 => ?_)
      · have k9575 := i_le c9574
        refine lv_iconst (v := 0) hx hb dX10_keepsTaps_93 (by decide) ?_
        refine lv_istore_n (lv' := [(1, .int 0), (0, .ref a0)]) hx hb dX10_keepsTaps_94 rfl hl9570 (by decide) rfl (fun ls9576 hl9577 => ?_)
        have cl00 : (0 : Int32).toNatClampNeg = 0 := rfl
        have cl_x9571 := i_cl (x := x9571) bx9571.1
        exact J95 ((8 - (0 : Int32).toInt).toNat + 1) ls9576 H9568 locsH9568 (0) (x9572) (lv_sub hl9577 [1, 0] rfl) hTH9568 hSH9568 (by decide) bx9572 ex9572 cy9573_0 cy9573_1 cy9573_2 cy9573_3 cy9573_4 cy9573_5 cy9573_6 cy9573_7 cy9573_8 cy9573_9 by9573_ui by9573_fb (EQ.cast by9573_e51 (by omega)) (EQ.cast by9573_e52 (by omega)) (EQ.cast by9573_e53 (by omega)) (EQ.cast by9573_e54 (by omega)) (EQ.cast by9573_e63 (by omega)) (EQ.cast by9573_e64 (by omega)) (EQ.cast by9573_e66 (by omega)) (EQ.cast by9573_e67 (by omega)) by9573_u51 by9573_u52 by9573_u53 by9573_u54 by9573_u63 by9573_u64 by9573_u66 by9573_u67 mfy9573 gy9573_WD (by omega) (by and_intros <;> first | assumption | omega)
      · have k9575 := i_nle c9574
        refine lv_aload_n hx hb dX10_keepsTaps_55 rfl (lv_at hl9570 0 rfl) ?_
        refine x_gr C hTH9568 (ci := 10) (k := 53) rfl inX10 (by decide) wF_X10_125 ga0 rg_112 rfl dX10_keepsTaps_56 (fun q9578 eq9578 gq9578 => ?_)
        have uq9578 : q53 = q9578 := (cy9573_3).trans eq9578.symm
        subst uq9578
        clear eq9578
        refine lv_iload_n hx hb dX10_keepsTaps_59 rfl (lv_at hl9570 1 rfl) ?_
        refine lv_aload_n hx hb dX10_keepsTaps_60 rfl (lv_at hl9570 0 rfl) ?_
        refine lv_aload_n hx hb dX10_keepsTaps_61 rfl (lv_at hl9570 0 rfl) ?_
        refine x_gr C hTH9568 (ci := 10) (k := 53) rfl inX10 (by decide) wF_X10_125 ga0 rg_112 rfl dX10_keepsTaps_62 (fun q9579 eq9579 gq9579 => ?_)
        have uq9579 : q53 = q9579 := (cy9573_3).trans eq9579.symm
        subst uq9579
        clear eq9579
        refine lv_iload_n hx hb dX10_keepsTaps_65 rfl (lv_at hl9570 1 rfl) ?_
        refine x_ai C hTH9568 gq53 rg_149 ⟨bx9571.1, by show _ < ((1920 : Nat) : Int); omega⟩ dX10_keepsTaps_66 (fun x9580 ex9580 bx9580 => ?_)
        refine x_V (As := [.int x9580]) (rest := [.int x9571, .ref q53]) C (a_X10_kept l K G H9568 (x9580) (x9572) (tk) hTH9568 ga0 giq cy9573_0 ex9572 cy9573_9 gy9573_WD (by and_intros <;> first | assumption | omega)) yo_X10_kept wM_X10_473 ⟨⟨by decide, by decide⟩, by decide, by decide⟩ (x_rv C hTH9568 (ci := 10) rfl ga0 rg_112) rfl hl9570.1 rfl (Nat.le_of_ble_eq_true rfl) dX10_keepsTaps_67 hSH9568 (AE_sub (fun _ _ => rfl) (by decide) hSH9568.1) (fun vH9581 H9581 locsH9581 pH9581 zH9581 kH9581 hSH9581 => ?_)
        obtain ⟨x9582, x9583, hvH9581, ex9583, hrH9581, m9584, g9585, mf9586, m9587, m9588, m9589, m9590, hTH9581⟩ := pH9581
        subst hvH9581
        clear zH9581
        replace m9584 := EQN.mk m9584
        have b9591 : UN (tk.toInt ≠ 0) (fun k => fI H9581 q51 k) (fun k => fI s.heap q51 k) := UN.congr (fun j => fI_kept (x_lt hTH9568 kH9581 gq51 (by decide))) by9573_u51
        have b9592 : UN (tk.toInt ≠ 0) (fun k => fI H9581 q52 k) (fun k => fI s.heap q52 k) := UN.congr (fun j => fI_kept (x_lt hTH9568 kH9581 gq52 (by decide))) by9573_u52
        have b9593 : UN (tk.toInt ≠ 0) (fun k => fI H9581 q53 k) (fun k => fI s.heap q53 k) := UN.congr (fun j => fI_kept (x_lt hTH9568 kH9581 gq53 (by decide))) by9573_u53
        have b9594 : UN (tk.toInt ≠ 0) (fun k => fI H9581 q54 k) (fun k => fI s.heap q54 k) := UN.congr (fun j => fI_kept (x_lt hTH9568 kH9581 gq54 (by decide))) by9573_u54
        have b9595 : UN (tk.toInt ≠ 0) (fun k => fI H9581 q63 k) (fun k => fI s.heap q63 k) := UN.congr (fun j => fI_kept (x_lt hTH9568 kH9581 gq63 (by decide))) by9573_u63
        have b9596 : UN (tk.toInt ≠ 0) (fun k => fI H9581 q64 k) (fun k => fI s.heap q64 k) := UN.congr (fun j => fI_kept (x_lt hTH9568 kH9581 gq64 (by decide))) by9573_u64
        have b9597 : UN (tk.toInt ≠ 0) (fun k => fI H9581 q66 k) (fun k => fI s.heap q66 k) := UN.congr (fun j => fI_kept (x_lt hTH9568 kH9581 gq66 (by decide))) by9573_u66
        have b9598 : UN (tk.toInt ≠ 0) (fun k => fI H9581 q67 k) (fun k => fI s.heap q67 k) := UN.congr (fun j => fI_kept (x_lt hTH9568 kH9581 gq67 (by decide))) by9573_u67
        have m9599 := (ex9580).trans (fI_kept (x_lt hTH9568 kH9581 gq53 (by decide))).symm
        have m9600 := (cy9573_0).trans (MF.r mf9586 (k := 73) (by decide) (by decide)).symm
        have m9601 := (cy9573_1).trans (MF.r mf9586 (k := 51) (by decide) (by decide)).symm
        have m9602 := (cy9573_2).trans (MF.r mf9586 (k := 52) (by decide) (by decide)).symm
        have m9603 := (cy9573_3).trans (MF.r mf9586 (k := 53) (by decide) (by decide)).symm
        have m9604 := (cy9573_4).trans (MF.r mf9586 (k := 54) (by decide) (by decide)).symm
        have m9605 := (cy9573_5).trans (MF.r mf9586 (k := 63) (by decide) (by decide)).symm
        have m9606 := (cy9573_6).trans (MF.r mf9586 (k := 64) (by decide) (by decide)).symm
        have m9607 := (cy9573_7).trans (MF.r mf9586 (k := 66) (by decide) (by decide)).symm
        have m9608 := (cy9573_8).trans (MF.r mf9586 (k := 67) (by decide) (by decide)).symm
        have m9609 := (cy9573_9).trans (MF.i mf9586 (k := 71) (by decide) (by decide)).symm
        have mf9610 : MF K s.heap H9581 a0 [72] := MF.trans mfy9573 mf9586 (by decide)
        have bx9583 := ty_fi (x := x9583) (k := 72) ex9583 hTH9581 ga0 rg_112 rfl
        have ce_x9571 := i_cl (x := x9571) bx9571.1
        have ce_x9572 := i_cl (x := x9572) bx9572.1
        have e_ : x9572.toNatClampNeg = 5036 + 2 * x9571.toNatClampNeg := by omega
        have k3e_ := m9589
        rw [e_] at k3e_
        have b9611 : UN (tk.toInt = 0) (fun k => fI H9581 iq k) (fun k => fI s.heap iq k) := UN.tr m9590 by9573_ui
        have b9612 : FB (fun k => fI H9581 iq k) (fun k => fI s.heap iq k) (4796) := FB.wr by9573_fb k3e_ (fun j hj => Nat.ne_of_lt (Nat.lt_of_lt_of_le hj (Nat.le_trans (by decide : 4796 ≤ 5036) (Nat.le_add_right _ _))))
        have b9613 : EQ (fun k => fI H9581 q51 k) (fun k => fI H9581 iq k) (4796) (2) (120) := EQ.wr (EQ.congr (w1 := fun k => fI H9568 iq k) (fun j => fI_kept (x_lt hTH9568 kH9581 gq51 (by decide))) (fun _ => rfl) by9573_e51) k3e_ (fun j hj => nE_4796_2_120_5036_2 hj)
        have b9614 : EQ (fun k => fI H9581 q52 k) (fun k => fI H9581 iq k) (4797) (2) (120) := EQ.wr (EQ.congr (w1 := fun k => fI H9568 iq k) (fun j => fI_kept (x_lt hTH9568 kH9581 gq52 (by decide))) (fun _ => rfl) by9573_e52) k3e_ (fun j hj => nE_4797_2_120_5036_2 hj)
        have b9615 : EQ (fun k => fI H9581 q53 k) (fun k => fI H9581 iq k) (5036) (2) (x9571.toNatClampNeg) := EQ.wr (EQ.congr (w1 := fun k => fI H9568 iq k) (fun j => fI_kept (x_lt hTH9568 kH9581 gq53 (by decide))) (fun _ => rfl) by9573_e53) k3e_ (fun j hj => nE_5036_2_i_5036_2 hj)
        have b9616 : EQ (fun k => fI H9581 q54 k) (fun k => fI H9581 iq k) (5037) (2) (x9571.toNatClampNeg) := EQ.wr (EQ.congr (w1 := fun k => fI H9568 iq k) (fun j => fI_kept (x_lt hTH9568 kH9581 gq54 (by decide))) (fun _ => rfl) by9573_e54) k3e_ (fun j hj => nE_5037_2_i_5036_2 hj)
        have b9617 : EQ (fun k => fI H9581 q63 k) (fun k => fI H9581 iq k) (8876) (4) (0) := EQ.wr (EQ.congr (w1 := fun k => fI H9568 iq k) (fun j => fI_kept (x_lt hTH9568 kH9581 gq63 (by decide))) (fun _ => rfl) by9573_e63) k3e_ (fun j hj => nE_8876_4_0_5036_2 hj)
        have b9618 : EQ (fun k => fI H9581 q64 k) (fun k => fI H9581 iq k) (8877) (4) (0) := EQ.wr (EQ.congr (w1 := fun k => fI H9568 iq k) (fun j => fI_kept (x_lt hTH9568 kH9581 gq64 (by decide))) (fun _ => rfl) by9573_e64) k3e_ (fun j hj => nE_8877_4_0_5036_2 hj)
        have b9619 : EQ (fun k => fI H9581 q66 k) (fun k => fI H9581 iq k) (8878) (4) (0) := EQ.wr (EQ.congr (w1 := fun k => fI H9568 iq k) (fun j => fI_kept (x_lt hTH9568 kH9581 gq66 (by decide))) (fun _ => rfl) by9573_e66) k3e_ (fun j hj => nE_8878_4_0_5036_2 hj)
        have b9620 : EQ (fun k => fI H9581 q67 k) (fun k => fI H9581 iq k) (8879) (4) (0) := EQ.wr (EQ.congr (w1 := fun k => fI H9568 iq k) (fun j => fI_kept (x_lt hTH9568 kH9581 gq67 (by decide))) (fun _ => rfl) by9573_e67) k3e_ (fun j hj => nE_8879_4_0_5036_2 hj)
        clear by9573_e51 by9573_e52 by9573_e53 by9573_e54 by9573_e63 by9573_e64 by9573_e66 by9573_e67 by9573_fb by9573_u51 by9573_u52 by9573_u53 by9573_u54 by9573_u63 by9573_u64 by9573_u66 by9573_u67 by9573_ui cy9573_0 cy9573_1 cy9573_2 cy9573_3 cy9573_4 cy9573_5 cy9573_6 cy9573_7 cy9573_8 cy9573_9 ex9572 ex9580
        clear m9589 m9590 k3e_ e_
        refine W.eq (g2 := F0 m 70 ls9569 [.int x9582, .int x9571, .ref q53]) rfl ?_
        refine x_iast C hTH9581 hSH9581 gq53 rg_149 bx9571.1 (by show _ < ((1920 : Nat) : Int); omega) (i_rng x9582) (AE_in gq53 (by decide)) dX10_keepsTaps_70 (fun H9621 locsH9621 hTH9621 hSH9621 wH9621 => ?_)
        have mf9622 : MF K s.heap H9621 a0 [72] := MF.arr wH9621 (G_ne ga0 gq53 (by decide)) mf9610
        have g9623 : WD (avw K H9621 a0) := WD.congr (fun k hk j => av_arr hTH9581 ga0 wH9621 gq53 (by decide) (WD_ok 149 (by decide) k hk)) g9585
        have b9624 : UN (tk.toInt ≠ 0) (fun k => fI H9621 q51 k) (fun k => fI s.heap q51 k) := UN.congr (fun j => Wr.neI wH9621 (Or.inl (G_ne gq51 gq53 (by decide)))) b9591
        have b9625 : UN (tk.toInt ≠ 0) (fun k => fI H9621 q52 k) (fun k => fI s.heap q52 k) := UN.congr (fun j => Wr.neI wH9621 (Or.inl (G_ne gq52 gq53 (by decide)))) b9592
        have b9626 : UN (tk.toInt ≠ 0) (fun k => fI H9621 q53 k) (fun k => fI s.heap q53 k) := UN.st b9593 (i := x9571.toNatClampNeg) (fun hc => (m9588 hc).trans m9599) (Wr.I wH9621) (fun j hj => Wr.neI wH9621 (Or.inr hj))
        have b9627 : UN (tk.toInt ≠ 0) (fun k => fI H9621 q54 k) (fun k => fI s.heap q54 k) := UN.congr (fun j => Wr.neI wH9621 (Or.inl (G_ne gq54 gq53 (by decide)))) b9594
        have b9628 : UN (tk.toInt ≠ 0) (fun k => fI H9621 q63 k) (fun k => fI s.heap q63 k) := UN.congr (fun j => Wr.neI wH9621 (Or.inl (G_ne gq63 gq53 (by decide)))) b9595
        have b9629 : UN (tk.toInt ≠ 0) (fun k => fI H9621 q64 k) (fun k => fI s.heap q64 k) := UN.congr (fun j => Wr.neI wH9621 (Or.inl (G_ne gq64 gq53 (by decide)))) b9596
        have b9630 : UN (tk.toInt ≠ 0) (fun k => fI H9621 q66 k) (fun k => fI s.heap q66 k) := UN.congr (fun j => Wr.neI wH9621 (Or.inl (G_ne gq66 gq53 (by decide)))) b9597
        have b9631 : UN (tk.toInt ≠ 0) (fun k => fI H9621 q67 k) (fun k => fI s.heap q67 k) := UN.congr (fun j => Wr.neI wH9621 (Or.inl (G_ne gq67 gq53 (by decide)))) b9598
        have b9632 : UN (tk.toInt = 0) (fun k => fI H9621 iq k) (fun k => fI s.heap iq k) := UN.congr (fun j => Wr.neI wH9621 (Or.inl (G_ne giq gq53 (by decide)))) b9611
        have b9633 : FB (fun k => fI H9621 iq k) (fun k => fI s.heap iq k) (4796) := FB.congr (fun j => Wr.neI wH9621 (Or.inl (G_ne giq gq53 (by decide)))) b9612
        have b9634 : EQ (fun k => fI H9621 q51 k) (fun k => fI H9621 iq k) (4796) (2) (120) := EQ.congr (fun j => Wr.neI wH9621 (Or.inl (G_ne gq51 gq53 (by decide)))) (fun j => Wr.neI wH9621 (Or.inl (G_ne giq gq53 (by decide)))) b9613
        have b9635 : EQ (fun k => fI H9621 q52 k) (fun k => fI H9621 iq k) (4797) (2) (120) := EQ.congr (fun j => Wr.neI wH9621 (Or.inl (G_ne gq52 gq53 (by decide)))) (fun j => Wr.neI wH9621 (Or.inl (G_ne giq gq53 (by decide)))) b9614
        have b9636 : EQ (fun k => fI H9621 q53 k) (fun k => fI H9621 iq k) (5036) (2) (x9571.toNatClampNeg + 1) := EQ.st b9615 (i := x9571.toNatClampNeg) (t := x9572.toNatClampNeg) (by omega) m9587 (by omega) (Wr.I wH9621) (fun j hj => Wr.neI wH9621 (Or.inr hj)) (fun j => Wr.neI wH9621 (Or.inl (G_ne giq gq53 (by decide))))
        have b9637 : EQ (fun k => fI H9621 q54 k) (fun k => fI H9621 iq k) (5037) (2) (x9571.toNatClampNeg) := EQ.congr (fun j => Wr.neI wH9621 (Or.inl (G_ne gq54 gq53 (by decide)))) (fun j => Wr.neI wH9621 (Or.inl (G_ne giq gq53 (by decide)))) b9616
        have b9638 : EQ (fun k => fI H9621 q63 k) (fun k => fI H9621 iq k) (8876) (4) (0) := EQ.congr (fun j => Wr.neI wH9621 (Or.inl (G_ne gq63 gq53 (by decide)))) (fun j => Wr.neI wH9621 (Or.inl (G_ne giq gq53 (by decide)))) b9617
        have b9639 : EQ (fun k => fI H9621 q64 k) (fun k => fI H9621 iq k) (8877) (4) (0) := EQ.congr (fun j => Wr.neI wH9621 (Or.inl (G_ne gq64 gq53 (by decide)))) (fun j => Wr.neI wH9621 (Or.inl (G_ne giq gq53 (by decide)))) b9618
        have b9640 : EQ (fun k => fI H9621 q66 k) (fun k => fI H9621 iq k) (8878) (4) (0) := EQ.congr (fun j => Wr.neI wH9621 (Or.inl (G_ne gq66 gq53 (by decide)))) (fun j => Wr.neI wH9621 (Or.inl (G_ne giq gq53 (by decide)))) b9619
        have b9641 : EQ (fun k => fI H9621 q67 k) (fun k => fI H9621 iq k) (8879) (4) (0) := EQ.congr (fun j => Wr.neI wH9621 (Or.inl (G_ne gq67 gq53 (by decide)))) (fun j => Wr.neI wH9621 (Or.inl (G_ne giq gq53 (by decide)))) b9620
        have m9643 := m9584.trans (Wr.neR wH9621 (Or.inl (G_ne ga0 gq53 (by decide)))).symm
        have m9644 := m9601.trans (Wr.neR wH9621 (Or.inl (G_ne ga0 gq53 (by decide)))).symm
        have m9645 := m9602.trans (Wr.neR wH9621 (Or.inl (G_ne ga0 gq53 (by decide)))).symm
        have m9646 := m9603.trans (Wr.neR wH9621 (Or.inl (G_ne ga0 gq53 (by decide)))).symm
        have m9647 := m9604.trans (Wr.neR wH9621 (Or.inl (G_ne ga0 gq53 (by decide)))).symm
        have m9648 := m9605.trans (Wr.neR wH9621 (Or.inl (G_ne ga0 gq53 (by decide)))).symm
        have m9649 := m9606.trans (Wr.neR wH9621 (Or.inl (G_ne ga0 gq53 (by decide)))).symm
        have m9650 := m9607.trans (Wr.neR wH9621 (Or.inl (G_ne ga0 gq53 (by decide)))).symm
        have m9651 := m9608.trans (Wr.neR wH9621 (Or.inl (G_ne ga0 gq53 (by decide)))).symm
        have m9652 := m9609.trans (Wr.neI wH9621 (Or.inl (G_ne ga0 gq53 (by decide)))).symm
        have m9653 := ex9583.trans (Wr.neI wH9621 (Or.inl (G_ne ga0 gq53 (by decide)))).symm
        have m9654 := Wr.I wH9621
        have m9654 := m9654.symm
        clear b9591 b9592 b9593 b9594 b9595 b9596 b9597 b9598 b9611 b9612 b9613 b9614 b9615 b9616 b9617 b9618 b9619 b9620 ex9583 g9585 hTH9581 m9584 m9599 m9601 m9602 m9603 m9604 m9605 m9606 m9607 m9608 m9609 mf9610
        refine lv_aload_n hx hb dX10_keepsTaps_71 rfl (lv_at hl9570 0 rfl) ?_
        refine x_gr C hTH9621 (ci := 10) (k := 54) rfl inX10 (by decide) wF_X10_128 ga0 rg_112 rfl dX10_keepsTaps_72 (fun q9655 eq9655 gq9655 => ?_)
        have uq9655 : q54 = q9655 := (m9647).trans eq9655.symm
        subst uq9655
        clear eq9655
        refine lv_iload_n hx hb dX10_keepsTaps_75 rfl (lv_at hl9570 1 rfl) ?_
        refine lv_aload_n hx hb dX10_keepsTaps_76 rfl (lv_at hl9570 0 rfl) ?_
        refine lv_aload_n hx hb dX10_keepsTaps_77 rfl (lv_at hl9570 0 rfl) ?_
        refine x_gr C hTH9621 (ci := 10) (k := 54) rfl inX10 (by decide) wF_X10_128 ga0 rg_112 rfl dX10_keepsTaps_78 (fun q9656 eq9656 gq9656 => ?_)
        have uq9656 : q54 = q9656 := (m9647).trans eq9656.symm
        subst uq9656
        clear eq9656
        refine lv_iload_n hx hb dX10_keepsTaps_81 rfl (lv_at hl9570 1 rfl) ?_
        refine x_ai C hTH9621 gq54 rg_150 ⟨bx9571.1, by show _ < ((1920 : Nat) : Int); omega⟩ dX10_keepsTaps_82 (fun x9657 ex9657 bx9657 => ?_)
        refine x_V (As := [.int x9657]) (rest := [.int x9571, .ref q54]) C (a_X10_kept l K G H9621 (x9657) (x9583) (tk) hTH9621 ga0 giq m9643 m9653 m9652 g9623 (by and_intros <;> first | assumption | omega)) yo_X10_kept wM_X10_473 ⟨⟨by decide, by decide⟩, by decide, by decide⟩ (x_rv C hTH9621 (ci := 10) rfl ga0 rg_112) rfl hl9570.1 rfl (Nat.le_of_ble_eq_true rfl) dX10_keepsTaps_83 hSH9621 (AE_sub (fun _ _ => rfl) (by decide) hSH9621.1) (fun vH9658 H9658 locsH9658 pH9658 zH9658 kH9658 hSH9658 => ?_)
        obtain ⟨x9659, x9660, hvH9658, ex9660, hrH9658, m9661, g9662, mf9663, m9664, m9665, m9666, m9667, hTH9658⟩ := pH9658
        subst hvH9658
        clear zH9658
        replace m9661 := EQN.mk m9661
        have b9668 : UN (tk.toInt ≠ 0) (fun k => fI H9658 q51 k) (fun k => fI s.heap q51 k) := UN.congr (fun j => fI_kept (x_lt hTH9621 kH9658 gq51 (by decide))) b9624
        have b9669 : UN (tk.toInt ≠ 0) (fun k => fI H9658 q52 k) (fun k => fI s.heap q52 k) := UN.congr (fun j => fI_kept (x_lt hTH9621 kH9658 gq52 (by decide))) b9625
        have b9670 : UN (tk.toInt ≠ 0) (fun k => fI H9658 q53 k) (fun k => fI s.heap q53 k) := UN.congr (fun j => fI_kept (x_lt hTH9621 kH9658 gq53 (by decide))) b9626
        have b9671 : UN (tk.toInt ≠ 0) (fun k => fI H9658 q54 k) (fun k => fI s.heap q54 k) := UN.congr (fun j => fI_kept (x_lt hTH9621 kH9658 gq54 (by decide))) b9627
        have b9672 : UN (tk.toInt ≠ 0) (fun k => fI H9658 q63 k) (fun k => fI s.heap q63 k) := UN.congr (fun j => fI_kept (x_lt hTH9621 kH9658 gq63 (by decide))) b9628
        have b9673 : UN (tk.toInt ≠ 0) (fun k => fI H9658 q64 k) (fun k => fI s.heap q64 k) := UN.congr (fun j => fI_kept (x_lt hTH9621 kH9658 gq64 (by decide))) b9629
        have b9674 : UN (tk.toInt ≠ 0) (fun k => fI H9658 q66 k) (fun k => fI s.heap q66 k) := UN.congr (fun j => fI_kept (x_lt hTH9621 kH9658 gq66 (by decide))) b9630
        have b9675 : UN (tk.toInt ≠ 0) (fun k => fI H9658 q67 k) (fun k => fI s.heap q67 k) := UN.congr (fun j => fI_kept (x_lt hTH9621 kH9658 gq67 (by decide))) b9631
        have m9676 := (m9654).trans (fI_kept (x_lt hTH9621 kH9658 gq53 (by decide))).symm
        have m9677 := (ex9657).trans (fI_kept (x_lt hTH9621 kH9658 gq54 (by decide))).symm
        have m9678 := (m9643).trans (MF.r mf9663 (k := 73) (by decide) (by decide)).symm
        have m9679 := (m9644).trans (MF.r mf9663 (k := 51) (by decide) (by decide)).symm
        have m9680 := (m9645).trans (MF.r mf9663 (k := 52) (by decide) (by decide)).symm
        have m9681 := (m9646).trans (MF.r mf9663 (k := 53) (by decide) (by decide)).symm
        have m9682 := (m9647).trans (MF.r mf9663 (k := 54) (by decide) (by decide)).symm
        have m9683 := (m9648).trans (MF.r mf9663 (k := 63) (by decide) (by decide)).symm
        have m9684 := (m9649).trans (MF.r mf9663 (k := 64) (by decide) (by decide)).symm
        have m9685 := (m9650).trans (MF.r mf9663 (k := 66) (by decide) (by decide)).symm
        have m9686 := (m9651).trans (MF.r mf9663 (k := 67) (by decide) (by decide)).symm
        have m9687 := (m9652).trans (MF.i mf9663 (k := 71) (by decide) (by decide)).symm
        have mf9688 : MF K s.heap H9658 a0 [72] := MF.trans mf9622 mf9663 (by decide)
        have bx9660 := ty_fi (x := x9660) (k := 72) ex9660 hTH9658 ga0 rg_112 rfl
        have ce_x9583 := i_cl (x := x9583) bx9583.1
        have e_ : x9583.toNatClampNeg = 5037 + 2 * x9571.toNatClampNeg := by omega
        have k3e_ := m9666
        rw [e_] at k3e_
        have b9689 : UN (tk.toInt = 0) (fun k => fI H9658 iq k) (fun k => fI s.heap iq k) := UN.tr m9667 b9632
        have b9690 : FB (fun k => fI H9658 iq k) (fun k => fI s.heap iq k) (4796) := FB.wr b9633 k3e_ (fun j hj => Nat.ne_of_lt (Nat.lt_of_lt_of_le hj (Nat.le_trans (by decide : 4796 ≤ 5037) (Nat.le_add_right _ _))))
        have b9691 : EQ (fun k => fI H9658 q51 k) (fun k => fI H9658 iq k) (4796) (2) (120) := EQ.wr (EQ.congr (w1 := fun k => fI H9621 iq k) (fun j => fI_kept (x_lt hTH9621 kH9658 gq51 (by decide))) (fun _ => rfl) b9634) k3e_ (fun j hj => nE_4796_2_120_5037_2 hj)
        have b9692 : EQ (fun k => fI H9658 q52 k) (fun k => fI H9658 iq k) (4797) (2) (120) := EQ.wr (EQ.congr (w1 := fun k => fI H9621 iq k) (fun j => fI_kept (x_lt hTH9621 kH9658 gq52 (by decide))) (fun _ => rfl) b9635) k3e_ (fun j hj => nE_4797_2_120_5037_2 hj)
        have b9693 : EQ (fun k => fI H9658 q53 k) (fun k => fI H9658 iq k) (5036) (2) (x9571.toNatClampNeg + 1) := EQ.wr (EQ.congr (w1 := fun k => fI H9621 iq k) (fun j => fI_kept (x_lt hTH9621 kH9658 gq53 (by decide))) (fun _ => rfl) b9636) k3e_ (fun j hj => nE_5036_2_i1_5037_2 hj)
        have b9694 : EQ (fun k => fI H9658 q54 k) (fun k => fI H9658 iq k) (5037) (2) (x9571.toNatClampNeg) := EQ.wr (EQ.congr (w1 := fun k => fI H9621 iq k) (fun j => fI_kept (x_lt hTH9621 kH9658 gq54 (by decide))) (fun _ => rfl) b9637) k3e_ (fun j hj => nE_5037_2_i_5037_2 hj)
        have b9695 : EQ (fun k => fI H9658 q63 k) (fun k => fI H9658 iq k) (8876) (4) (0) := EQ.wr (EQ.congr (w1 := fun k => fI H9621 iq k) (fun j => fI_kept (x_lt hTH9621 kH9658 gq63 (by decide))) (fun _ => rfl) b9638) k3e_ (fun j hj => nE_8876_4_0_5037_2 hj)
        have b9696 : EQ (fun k => fI H9658 q64 k) (fun k => fI H9658 iq k) (8877) (4) (0) := EQ.wr (EQ.congr (w1 := fun k => fI H9621 iq k) (fun j => fI_kept (x_lt hTH9621 kH9658 gq64 (by decide))) (fun _ => rfl) b9639) k3e_ (fun j hj => nE_8877_4_0_5037_2 hj)
        have b9697 : EQ (fun k => fI H9658 q66 k) (fun k => fI H9658 iq k) (8878) (4) (0) := EQ.wr (EQ.congr (w1 := fun k => fI H9621 iq k) (fun j => fI_kept (x_lt hTH9621 kH9658 gq66 (by decide))) (fun _ => rfl) b9640) k3e_ (fun j hj => nE_8878_4_0_5037_2 hj)
        have b9698 : EQ (fun k => fI H9658 q67 k) (fun k => fI H9658 iq k) (8879) (4) (0) := EQ.wr (EQ.congr (w1 := fun k => fI H9621 iq k) (fun j => fI_kept (x_lt hTH9621 kH9658 gq67 (by decide))) (fun _ => rfl) b9641) k3e_ (fun j hj => nE_8879_4_0_5037_2 hj)
        clear b9624 b9625 b9626 b9627 b9628 b9629 b9630 b9631 b9632 b9633 b9634 b9635 b9636 b9637 b9638 b9639 b9640 b9641 ex9657 m9643 m9644 m9645 m9646 m9647 m9648 m9649 m9650 m9651 m9652 m9653 m9654
        clear m9666 m9667 k3e_ e_
        refine W.eq (g2 := F0 m 86 ls9569 [.int x9659, .int x9571, .ref q54]) rfl ?_
        refine x_iast C hTH9658 hSH9658 gq54 rg_150 bx9571.1 (by show _ < ((1920 : Nat) : Int); omega) (i_rng x9659) (AE_in gq54 (by decide)) dX10_keepsTaps_86 (fun H9699 locsH9699 hTH9699 hSH9699 wH9699 => ?_)
        have mf9700 : MF K s.heap H9699 a0 [72] := MF.arr wH9699 (G_ne ga0 gq54 (by decide)) mf9688
        have g9701 : WD (avw K H9699 a0) := WD.congr (fun k hk j => av_arr hTH9658 ga0 wH9699 gq54 (by decide) (WD_ok 150 (by decide) k hk)) g9662
        have b9702 : UN (tk.toInt ≠ 0) (fun k => fI H9699 q51 k) (fun k => fI s.heap q51 k) := UN.congr (fun j => Wr.neI wH9699 (Or.inl (G_ne gq51 gq54 (by decide)))) b9668
        have b9703 : UN (tk.toInt ≠ 0) (fun k => fI H9699 q52 k) (fun k => fI s.heap q52 k) := UN.congr (fun j => Wr.neI wH9699 (Or.inl (G_ne gq52 gq54 (by decide)))) b9669
        have b9704 : UN (tk.toInt ≠ 0) (fun k => fI H9699 q53 k) (fun k => fI s.heap q53 k) := UN.congr (fun j => Wr.neI wH9699 (Or.inl (G_ne gq53 gq54 (by decide)))) b9670
        have b9705 : UN (tk.toInt ≠ 0) (fun k => fI H9699 q54 k) (fun k => fI s.heap q54 k) := UN.st b9671 (i := x9571.toNatClampNeg) (fun hc => (m9665 hc).trans m9677) (Wr.I wH9699) (fun j hj => Wr.neI wH9699 (Or.inr hj))
        have b9706 : UN (tk.toInt ≠ 0) (fun k => fI H9699 q63 k) (fun k => fI s.heap q63 k) := UN.congr (fun j => Wr.neI wH9699 (Or.inl (G_ne gq63 gq54 (by decide)))) b9672
        have b9707 : UN (tk.toInt ≠ 0) (fun k => fI H9699 q64 k) (fun k => fI s.heap q64 k) := UN.congr (fun j => Wr.neI wH9699 (Or.inl (G_ne gq64 gq54 (by decide)))) b9673
        have b9708 : UN (tk.toInt ≠ 0) (fun k => fI H9699 q66 k) (fun k => fI s.heap q66 k) := UN.congr (fun j => Wr.neI wH9699 (Or.inl (G_ne gq66 gq54 (by decide)))) b9674
        have b9709 : UN (tk.toInt ≠ 0) (fun k => fI H9699 q67 k) (fun k => fI s.heap q67 k) := UN.congr (fun j => Wr.neI wH9699 (Or.inl (G_ne gq67 gq54 (by decide)))) b9675
        have b9710 : UN (tk.toInt = 0) (fun k => fI H9699 iq k) (fun k => fI s.heap iq k) := UN.congr (fun j => Wr.neI wH9699 (Or.inl (G_ne giq gq54 (by decide)))) b9689
        have b9711 : FB (fun k => fI H9699 iq k) (fun k => fI s.heap iq k) (4796) := FB.congr (fun j => Wr.neI wH9699 (Or.inl (G_ne giq gq54 (by decide)))) b9690
        have b9712 : EQ (fun k => fI H9699 q51 k) (fun k => fI H9699 iq k) (4796) (2) (120) := EQ.congr (fun j => Wr.neI wH9699 (Or.inl (G_ne gq51 gq54 (by decide)))) (fun j => Wr.neI wH9699 (Or.inl (G_ne giq gq54 (by decide)))) b9691
        have b9713 : EQ (fun k => fI H9699 q52 k) (fun k => fI H9699 iq k) (4797) (2) (120) := EQ.congr (fun j => Wr.neI wH9699 (Or.inl (G_ne gq52 gq54 (by decide)))) (fun j => Wr.neI wH9699 (Or.inl (G_ne giq gq54 (by decide)))) b9692
        have b9714 : EQ (fun k => fI H9699 q53 k) (fun k => fI H9699 iq k) (5036) (2) (x9571.toNatClampNeg + 1) := EQ.congr (fun j => Wr.neI wH9699 (Or.inl (G_ne gq53 gq54 (by decide)))) (fun j => Wr.neI wH9699 (Or.inl (G_ne giq gq54 (by decide)))) b9693
        have b9715 : EQ (fun k => fI H9699 q54 k) (fun k => fI H9699 iq k) (5037) (2) (x9571.toNatClampNeg + 1) := EQ.st b9694 (i := x9571.toNatClampNeg) (t := x9583.toNatClampNeg) (by omega) m9664 (by omega) (Wr.I wH9699) (fun j hj => Wr.neI wH9699 (Or.inr hj)) (fun j => Wr.neI wH9699 (Or.inl (G_ne giq gq54 (by decide))))
        have b9716 : EQ (fun k => fI H9699 q63 k) (fun k => fI H9699 iq k) (8876) (4) (0) := EQ.congr (fun j => Wr.neI wH9699 (Or.inl (G_ne gq63 gq54 (by decide)))) (fun j => Wr.neI wH9699 (Or.inl (G_ne giq gq54 (by decide)))) b9695
        have b9717 : EQ (fun k => fI H9699 q64 k) (fun k => fI H9699 iq k) (8877) (4) (0) := EQ.congr (fun j => Wr.neI wH9699 (Or.inl (G_ne gq64 gq54 (by decide)))) (fun j => Wr.neI wH9699 (Or.inl (G_ne giq gq54 (by decide)))) b9696
        have b9718 : EQ (fun k => fI H9699 q66 k) (fun k => fI H9699 iq k) (8878) (4) (0) := EQ.congr (fun j => Wr.neI wH9699 (Or.inl (G_ne gq66 gq54 (by decide)))) (fun j => Wr.neI wH9699 (Or.inl (G_ne giq gq54 (by decide)))) b9697
        have b9719 : EQ (fun k => fI H9699 q67 k) (fun k => fI H9699 iq k) (8879) (4) (0) := EQ.congr (fun j => Wr.neI wH9699 (Or.inl (G_ne gq67 gq54 (by decide)))) (fun j => Wr.neI wH9699 (Or.inl (G_ne giq gq54 (by decide)))) b9698
        have m9720 := m9676.trans (Wr.neI wH9699 (Or.inl (G_ne gq53 gq54 (by decide)))).symm
        have m9722 := m9661.trans (Wr.neR wH9699 (Or.inl (G_ne ga0 gq54 (by decide)))).symm
        have m9723 := m9679.trans (Wr.neR wH9699 (Or.inl (G_ne ga0 gq54 (by decide)))).symm
        have m9724 := m9680.trans (Wr.neR wH9699 (Or.inl (G_ne ga0 gq54 (by decide)))).symm
        have m9725 := m9681.trans (Wr.neR wH9699 (Or.inl (G_ne ga0 gq54 (by decide)))).symm
        have m9726 := m9682.trans (Wr.neR wH9699 (Or.inl (G_ne ga0 gq54 (by decide)))).symm
        have m9727 := m9683.trans (Wr.neR wH9699 (Or.inl (G_ne ga0 gq54 (by decide)))).symm
        have m9728 := m9684.trans (Wr.neR wH9699 (Or.inl (G_ne ga0 gq54 (by decide)))).symm
        have m9729 := m9685.trans (Wr.neR wH9699 (Or.inl (G_ne ga0 gq54 (by decide)))).symm
        have m9730 := m9686.trans (Wr.neR wH9699 (Or.inl (G_ne ga0 gq54 (by decide)))).symm
        have m9731 := m9687.trans (Wr.neI wH9699 (Or.inl (G_ne ga0 gq54 (by decide)))).symm
        have m9732 := ex9660.trans (Wr.neI wH9699 (Or.inl (G_ne ga0 gq54 (by decide)))).symm
        have m9733 := Wr.I wH9699
        have m9733 := m9733.symm
        clear b9668 b9669 b9670 b9671 b9672 b9673 b9674 b9675 b9689 b9690 b9691 b9692 b9693 b9694 b9695 b9696 b9697 b9698 ex9660 g9662 hTH9658 m9661 m9676 m9677 m9679 m9680 m9681 m9682 m9683 m9684 m9685 m9686 m9687 mf9688
        obtain ⟨x9734, ex9734⟩ : ∃ y : Int32, y = x9571 + 1 := ⟨_, rfl⟩
        have tx9734 := i_add ex9734 (by omega)
        refine lv_iinc (v := x9734) (lv' := [(1, .int x9734), (0, .ref a0)]) hx hb dX10_keepsTaps_87 hl9570 (k := 1) rfl (by rw [ex9734]; rfl) (by decide) rfl (fun ls9735 hl9736 => ?_)
        refine lv_goto (tgt := 48) hx hb dX10_keepsTaps_90 (by decide) ?_
        have cl_x9734 := i_cl (x := x9734) (by omega)
        exact ih48 ls9735 H9699 locsH9699 (x9734) (x9660) (lv_sub hl9736 [1, 0] rfl) hTH9699 hSH9699 ⟨by have := i_rng x9734; omega, by have := i_rng x9734; omega⟩ bx9660 m9732 m9722 m9723 m9724 m9725 m9726 m9727 m9728 m9729 m9730 m9731 b9710 b9711 (EQ.cast b9712 (by omega)) (EQ.cast b9713 (by omega)) (EQ.cast b9714 (by omega)) (EQ.cast b9715 (by omega)) (EQ.cast b9716 (by omega)) (EQ.cast b9717 (by omega)) (EQ.cast b9718 (by omega)) (EQ.cast b9719 (by omega)) b9702 b9703 b9704 b9705 b9706 b9707 b9708 b9709 mf9700 g9701 (by omega) (by and_intros <;> first | assumption | omega)
  have J2 : ∀ (nf : Nat) (ls9738 : Array Slot) (H9737 : Heap) (locsH9737 : List Loc) (x9740 : Int32) (x9741 : Int32), lv_has ls9738 2 [(0, .ref a0), (1, .int x9740)] → TY K G H9737 → va_S (AE G [112, 162, 147, 148, 149, 150, 156, 157, 158, 159] s.heap.size) s.heap H9737 locsH9737 → (0 ≤ x9740.toInt ∧ x9740.toInt ≤ 120) → (0 ≤ x9741.toInt ∧ x9741.toInt ≤ 16400) → (x9741 = fI H9737 a0 (K.1.2 10 72)) → (EQN iq (fR H9737 a0 (K.1.2 10 73))) → (EQN q51 (fR H9737 a0 (K.1.2 10 51))) → (EQN q52 (fR H9737 a0 (K.1.2 10 52))) → (EQN q53 (fR H9737 a0 (K.1.2 10 53))) → (EQN q54 (fR H9737 a0 (K.1.2 10 54))) → (EQN q63 (fR H9737 a0 (K.1.2 10 63))) → (EQN q64 (fR H9737 a0 (K.1.2 10 64))) → (EQN q66 (fR H9737 a0 (K.1.2 10 66))) → (EQN q67 (fR H9737 a0 (K.1.2 10 67))) → (tk = fI H9737 a0 (K.1.2 10 71)) → (UN (tk.toInt = 0) (fun k => fI H9737 iq k) (fun k => fI s.heap iq k)) → (FB (fun k => fI H9737 iq k) (fun k => fI s.heap iq k) (4796)) → (EQ (fun k => fI H9737 q51 k) (fun k => fI H9737 iq k) (4796) (2) (x9740.toNatClampNeg)) → (EQ (fun k => fI H9737 q52 k) (fun k => fI H9737 iq k) (4797) (2) (x9740.toNatClampNeg)) → (EQ (fun k => fI H9737 q53 k) (fun k => fI H9737 iq k) (5036) (2) (0)) → (EQ (fun k => fI H9737 q54 k) (fun k => fI H9737 iq k) (5037) (2) (0)) → (EQ (fun k => fI H9737 q63 k) (fun k => fI H9737 iq k) (8876) (4) (0)) → (EQ (fun k => fI H9737 q64 k) (fun k => fI H9737 iq k) (8877) (4) (0)) → (EQ (fun k => fI H9737 q66 k) (fun k => fI H9737 iq k) (8878) (4) (0)) → (EQ (fun k => fI H9737 q67 k) (fun k => fI H9737 iq k) (8879) (4) (0)) → (UN (tk.toInt ≠ 0) (fun k => fI H9737 q51 k) (fun k => fI s.heap q51 k)) → (UN (tk.toInt ≠ 0) (fun k => fI H9737 q52 k) (fun k => fI s.heap q52 k)) → (UN (tk.toInt ≠ 0) (fun k => fI H9737 q53 k) (fun k => fI s.heap q53 k)) → (UN (tk.toInt ≠ 0) (fun k => fI H9737 q54 k) (fun k => fI s.heap q54 k)) → (UN (tk.toInt ≠ 0) (fun k => fI H9737 q63 k) (fun k => fI s.heap q63 k)) → (UN (tk.toInt ≠ 0) (fun k => fI H9737 q64 k) (fun k => fI s.heap q64 k)) → (UN (tk.toInt ≠ 0) (fun k => fI H9737 q66 k) (fun k => fI s.heap q66 k)) → (UN (tk.toInt ≠ 0) (fun k => fI H9737 q67 k) (fun k => fI s.heap q67 k)) → (MF K s.heap H9737 a0 [72]) → (WD (avw K H9737 a0)) → (120 - x9740.toInt < (nf : Int)) → (x9741.toInt = 4796 + 2 * x9740.toInt) → W p l e ({ frames := 1, cells := 0, slots := 0, locals := 21 } : Room) s m (([.ref a0] : List Value).toArray) below meth c H9737 locsH9737 0 0 Q (F0 m 2 ls9738 []) := by
    intro nf
    induction nf with
    | zero =>
      intro ls9738 H9737 locsH9737 x9740 x9741 hl9739 hTH9737 hSH9737 bx9740 bx9741 ex9741 cy9742_0 cy9742_1 cy9742_2 cy9742_3 cy9742_4 cy9742_5 cy9742_6 cy9742_7 cy9742_8 cy9742_9 by9742_ui by9742_fb by9742_e51 by9742_e52 by9742_e53 by9742_e54 by9742_e63 by9742_e64 by9742_e66 by9742_e67 by9742_u51 by9742_u52 by9742_u53 by9742_u54 by9742_u63 by9742_u64 by9742_u66 by9742_u67 mfy9742 gy9742_WD hm2 iv2
      exfalso
      omega
    | succ nf ih2 =>
      intro ls9738 H9737 locsH9737 x9740 x9741 hl9739 hTH9737 hSH9737 bx9740 bx9741 ex9741 cy9742_0 cy9742_1 cy9742_2 cy9742_3 cy9742_4 cy9742_5 cy9742_6 cy9742_7 cy9742_8 cy9742_9 by9742_ui by9742_fb by9742_e51 by9742_e52 by9742_e53 by9742_e54 by9742_e63 by9742_e64 by9742_e66 by9742_e67 by9742_u51 by9742_u52 by9742_u53 by9742_u54 by9742_u63 by9742_u64 by9742_u66 by9742_u67 mfy9742 gy9742_WD hm2 iv2
      refine lv_iload_n hx hb dX10_keepsTaps_2 rfl (lv_at hl9739 1 rfl) ?_
      refine lv_bipush (v := 120) hx hb dX10_keepsTaps_3 (by decide) ?_
      refine lv_icmp_ge (tgt := 46) hx hb dX10_keepsTaps_5 (by decide) (fun c9743 => ?_) (fun c9743 => ?_)
      · have k9744 := i_le c9743
        refine lv_iconst (v := 0) hx hb dX10_keepsTaps_46 (by decide) ?_
        refine lv_istore_n (lv' := [(1, .int 0), (0, .ref a0)]) hx hb dX10_keepsTaps_47 rfl hl9739 (by decide) rfl (fun ls9745 hl9746 => ?_)
        have cl00 : (0 : Int32).toNatClampNeg = 0 := rfl
        have cl_x9740 := i_cl (x := x9740) bx9740.1
        exact J48 ((1920 - (0 : Int32).toInt).toNat + 1) ls9745 H9737 locsH9737 (0) (x9741) (lv_sub hl9746 [1, 0] rfl) hTH9737 hSH9737 (by decide) bx9741 ex9741 cy9742_0 cy9742_1 cy9742_2 cy9742_3 cy9742_4 cy9742_5 cy9742_6 cy9742_7 cy9742_8 cy9742_9 by9742_ui by9742_fb (EQ.cast by9742_e51 (by omega)) (EQ.cast by9742_e52 (by omega)) (EQ.cast by9742_e53 (by omega)) (EQ.cast by9742_e54 (by omega)) (EQ.cast by9742_e63 (by omega)) (EQ.cast by9742_e64 (by omega)) (EQ.cast by9742_e66 (by omega)) (EQ.cast by9742_e67 (by omega)) by9742_u51 by9742_u52 by9742_u53 by9742_u54 by9742_u63 by9742_u64 by9742_u66 by9742_u67 mfy9742 gy9742_WD (by omega) (by and_intros <;> first | assumption | omega)
      · have k9744 := i_nle c9743
        refine lv_aload_n hx hb dX10_keepsTaps_8 rfl (lv_at hl9739 0 rfl) ?_
        refine x_gr C hTH9737 (ci := 10) (k := 51) rfl inX10 (by decide) wF_X10_119 ga0 rg_112 rfl dX10_keepsTaps_9 (fun q9747 eq9747 gq9747 => ?_)
        have uq9747 : q51 = q9747 := (cy9742_1).trans eq9747.symm
        subst uq9747
        clear eq9747
        refine lv_iload_n hx hb dX10_keepsTaps_12 rfl (lv_at hl9739 1 rfl) ?_
        refine lv_aload_n hx hb dX10_keepsTaps_13 rfl (lv_at hl9739 0 rfl) ?_
        refine lv_aload_n hx hb dX10_keepsTaps_14 rfl (lv_at hl9739 0 rfl) ?_
        refine x_gr C hTH9737 (ci := 10) (k := 51) rfl inX10 (by decide) wF_X10_119 ga0 rg_112 rfl dX10_keepsTaps_15 (fun q9748 eq9748 gq9748 => ?_)
        have uq9748 : q51 = q9748 := (cy9742_1).trans eq9748.symm
        subst uq9748
        clear eq9748
        refine lv_iload_n hx hb dX10_keepsTaps_18 rfl (lv_at hl9739 1 rfl) ?_
        refine x_ai C hTH9737 gq51 rg_147 ⟨bx9740.1, by show _ < ((120 : Nat) : Int); omega⟩ dX10_keepsTaps_19 (fun x9749 ex9749 bx9749 => ?_)
        refine x_V (As := [.int x9749]) (rest := [.int x9740, .ref q51]) C (a_X10_kept l K G H9737 (x9749) (x9741) (tk) hTH9737 ga0 giq cy9742_0 ex9741 cy9742_9 gy9742_WD (by and_intros <;> first | assumption | omega)) yo_X10_kept wM_X10_473 ⟨⟨by decide, by decide⟩, by decide, by decide⟩ (x_rv C hTH9737 (ci := 10) rfl ga0 rg_112) rfl hl9739.1 rfl (Nat.le_of_ble_eq_true rfl) dX10_keepsTaps_20 hSH9737 (AE_sub (fun _ _ => rfl) (by decide) hSH9737.1) (fun vH9750 H9750 locsH9750 pH9750 zH9750 kH9750 hSH9750 => ?_)
        obtain ⟨x9751, x9752, hvH9750, ex9752, hrH9750, m9753, g9754, mf9755, m9756, m9757, m9758, m9759, hTH9750⟩ := pH9750
        subst hvH9750
        clear zH9750
        replace m9753 := EQN.mk m9753
        have b9760 : UN (tk.toInt ≠ 0) (fun k => fI H9750 q51 k) (fun k => fI s.heap q51 k) := UN.congr (fun j => fI_kept (x_lt hTH9737 kH9750 gq51 (by decide))) by9742_u51
        have b9761 : UN (tk.toInt ≠ 0) (fun k => fI H9750 q52 k) (fun k => fI s.heap q52 k) := UN.congr (fun j => fI_kept (x_lt hTH9737 kH9750 gq52 (by decide))) by9742_u52
        have b9762 : UN (tk.toInt ≠ 0) (fun k => fI H9750 q53 k) (fun k => fI s.heap q53 k) := UN.congr (fun j => fI_kept (x_lt hTH9737 kH9750 gq53 (by decide))) by9742_u53
        have b9763 : UN (tk.toInt ≠ 0) (fun k => fI H9750 q54 k) (fun k => fI s.heap q54 k) := UN.congr (fun j => fI_kept (x_lt hTH9737 kH9750 gq54 (by decide))) by9742_u54
        have b9764 : UN (tk.toInt ≠ 0) (fun k => fI H9750 q63 k) (fun k => fI s.heap q63 k) := UN.congr (fun j => fI_kept (x_lt hTH9737 kH9750 gq63 (by decide))) by9742_u63
        have b9765 : UN (tk.toInt ≠ 0) (fun k => fI H9750 q64 k) (fun k => fI s.heap q64 k) := UN.congr (fun j => fI_kept (x_lt hTH9737 kH9750 gq64 (by decide))) by9742_u64
        have b9766 : UN (tk.toInt ≠ 0) (fun k => fI H9750 q66 k) (fun k => fI s.heap q66 k) := UN.congr (fun j => fI_kept (x_lt hTH9737 kH9750 gq66 (by decide))) by9742_u66
        have b9767 : UN (tk.toInt ≠ 0) (fun k => fI H9750 q67 k) (fun k => fI s.heap q67 k) := UN.congr (fun j => fI_kept (x_lt hTH9737 kH9750 gq67 (by decide))) by9742_u67
        have m9768 := (ex9749).trans (fI_kept (x_lt hTH9737 kH9750 gq51 (by decide))).symm
        have m9769 := (cy9742_0).trans (MF.r mf9755 (k := 73) (by decide) (by decide)).symm
        have m9770 := (cy9742_1).trans (MF.r mf9755 (k := 51) (by decide) (by decide)).symm
        have m9771 := (cy9742_2).trans (MF.r mf9755 (k := 52) (by decide) (by decide)).symm
        have m9772 := (cy9742_3).trans (MF.r mf9755 (k := 53) (by decide) (by decide)).symm
        have m9773 := (cy9742_4).trans (MF.r mf9755 (k := 54) (by decide) (by decide)).symm
        have m9774 := (cy9742_5).trans (MF.r mf9755 (k := 63) (by decide) (by decide)).symm
        have m9775 := (cy9742_6).trans (MF.r mf9755 (k := 64) (by decide) (by decide)).symm
        have m9776 := (cy9742_7).trans (MF.r mf9755 (k := 66) (by decide) (by decide)).symm
        have m9777 := (cy9742_8).trans (MF.r mf9755 (k := 67) (by decide) (by decide)).symm
        have m9778 := (cy9742_9).trans (MF.i mf9755 (k := 71) (by decide) (by decide)).symm
        have mf9779 : MF K s.heap H9750 a0 [72] := MF.trans mfy9742 mf9755 (by decide)
        have bx9752 := ty_fi (x := x9752) (k := 72) ex9752 hTH9750 ga0 rg_112 rfl
        have ce_x9740 := i_cl (x := x9740) bx9740.1
        have ce_x9741 := i_cl (x := x9741) bx9741.1
        have e_ : x9741.toNatClampNeg = 4796 + 2 * x9740.toNatClampNeg := by omega
        have k3e_ := m9758
        rw [e_] at k3e_
        have b9780 : UN (tk.toInt = 0) (fun k => fI H9750 iq k) (fun k => fI s.heap iq k) := UN.tr m9759 by9742_ui
        have b9781 : FB (fun k => fI H9750 iq k) (fun k => fI s.heap iq k) (4796) := FB.wr by9742_fb k3e_ (fun j hj => Nat.ne_of_lt (Nat.lt_of_lt_of_le hj (Nat.le_trans (by decide : 4796 ≤ 4796) (Nat.le_add_right _ _))))
        have b9782 : EQ (fun k => fI H9750 q51 k) (fun k => fI H9750 iq k) (4796) (2) (x9740.toNatClampNeg) := EQ.wr (EQ.congr (w1 := fun k => fI H9737 iq k) (fun j => fI_kept (x_lt hTH9737 kH9750 gq51 (by decide))) (fun _ => rfl) by9742_e51) k3e_ (fun j hj => nE_4796_2_i_4796_2 hj)
        have b9783 : EQ (fun k => fI H9750 q52 k) (fun k => fI H9750 iq k) (4797) (2) (x9740.toNatClampNeg) := EQ.wr (EQ.congr (w1 := fun k => fI H9737 iq k) (fun j => fI_kept (x_lt hTH9737 kH9750 gq52 (by decide))) (fun _ => rfl) by9742_e52) k3e_ (fun j hj => nE_4797_2_i_4796_2 hj)
        have b9784 : EQ (fun k => fI H9750 q53 k) (fun k => fI H9750 iq k) (5036) (2) (0) := EQ.wr (EQ.congr (w1 := fun k => fI H9737 iq k) (fun j => fI_kept (x_lt hTH9737 kH9750 gq53 (by decide))) (fun _ => rfl) by9742_e53) k3e_ (fun j hj => nE_5036_2_0_4796_2 hj)
        have b9785 : EQ (fun k => fI H9750 q54 k) (fun k => fI H9750 iq k) (5037) (2) (0) := EQ.wr (EQ.congr (w1 := fun k => fI H9737 iq k) (fun j => fI_kept (x_lt hTH9737 kH9750 gq54 (by decide))) (fun _ => rfl) by9742_e54) k3e_ (fun j hj => nE_5037_2_0_4796_2 hj)
        have b9786 : EQ (fun k => fI H9750 q63 k) (fun k => fI H9750 iq k) (8876) (4) (0) := EQ.wr (EQ.congr (w1 := fun k => fI H9737 iq k) (fun j => fI_kept (x_lt hTH9737 kH9750 gq63 (by decide))) (fun _ => rfl) by9742_e63) k3e_ (fun j hj => nE_8876_4_0_4796_2 hj)
        have b9787 : EQ (fun k => fI H9750 q64 k) (fun k => fI H9750 iq k) (8877) (4) (0) := EQ.wr (EQ.congr (w1 := fun k => fI H9737 iq k) (fun j => fI_kept (x_lt hTH9737 kH9750 gq64 (by decide))) (fun _ => rfl) by9742_e64) k3e_ (fun j hj => nE_8877_4_0_4796_2 hj)
        have b9788 : EQ (fun k => fI H9750 q66 k) (fun k => fI H9750 iq k) (8878) (4) (0) := EQ.wr (EQ.congr (w1 := fun k => fI H9737 iq k) (fun j => fI_kept (x_lt hTH9737 kH9750 gq66 (by decide))) (fun _ => rfl) by9742_e66) k3e_ (fun j hj => nE_8878_4_0_4796_2 hj)
        have b9789 : EQ (fun k => fI H9750 q67 k) (fun k => fI H9750 iq k) (8879) (4) (0) := EQ.wr (EQ.congr (w1 := fun k => fI H9737 iq k) (fun j => fI_kept (x_lt hTH9737 kH9750 gq67 (by decide))) (fun _ => rfl) by9742_e67) k3e_ (fun j hj => nE_8879_4_0_4796_2 hj)
        clear by9742_e51 by9742_e52 by9742_e53 by9742_e54 by9742_e63 by9742_e64 by9742_e66 by9742_e67 by9742_fb by9742_u51 by9742_u52 by9742_u53 by9742_u54 by9742_u63 by9742_u64 by9742_u66 by9742_u67 by9742_ui cy9742_0 cy9742_1 cy9742_2 cy9742_3 cy9742_4 cy9742_5 cy9742_6 cy9742_7 cy9742_8 cy9742_9 ex9741 ex9749
        clear m9758 m9759 k3e_ e_
        refine W.eq (g2 := F0 m 23 ls9738 [.int x9751, .int x9740, .ref q51]) rfl ?_
        refine x_iast C hTH9750 hSH9750 gq51 rg_147 bx9740.1 (by show _ < ((120 : Nat) : Int); omega) (i_rng x9751) (AE_in gq51 (by decide)) dX10_keepsTaps_23 (fun H9790 locsH9790 hTH9790 hSH9790 wH9790 => ?_)
        have mf9791 : MF K s.heap H9790 a0 [72] := MF.arr wH9790 (G_ne ga0 gq51 (by decide)) mf9779
        have g9792 : WD (avw K H9790 a0) := WD.congr (fun k hk j => av_arr hTH9750 ga0 wH9790 gq51 (by decide) (WD_ok 147 (by decide) k hk)) g9754
        have b9793 : UN (tk.toInt ≠ 0) (fun k => fI H9790 q51 k) (fun k => fI s.heap q51 k) := UN.st b9760 (i := x9740.toNatClampNeg) (fun hc => (m9757 hc).trans m9768) (Wr.I wH9790) (fun j hj => Wr.neI wH9790 (Or.inr hj))
        have b9794 : UN (tk.toInt ≠ 0) (fun k => fI H9790 q52 k) (fun k => fI s.heap q52 k) := UN.congr (fun j => Wr.neI wH9790 (Or.inl (G_ne gq52 gq51 (by decide)))) b9761
        have b9795 : UN (tk.toInt ≠ 0) (fun k => fI H9790 q53 k) (fun k => fI s.heap q53 k) := UN.congr (fun j => Wr.neI wH9790 (Or.inl (G_ne gq53 gq51 (by decide)))) b9762
        have b9796 : UN (tk.toInt ≠ 0) (fun k => fI H9790 q54 k) (fun k => fI s.heap q54 k) := UN.congr (fun j => Wr.neI wH9790 (Or.inl (G_ne gq54 gq51 (by decide)))) b9763
        have b9797 : UN (tk.toInt ≠ 0) (fun k => fI H9790 q63 k) (fun k => fI s.heap q63 k) := UN.congr (fun j => Wr.neI wH9790 (Or.inl (G_ne gq63 gq51 (by decide)))) b9764
        have b9798 : UN (tk.toInt ≠ 0) (fun k => fI H9790 q64 k) (fun k => fI s.heap q64 k) := UN.congr (fun j => Wr.neI wH9790 (Or.inl (G_ne gq64 gq51 (by decide)))) b9765
        have b9799 : UN (tk.toInt ≠ 0) (fun k => fI H9790 q66 k) (fun k => fI s.heap q66 k) := UN.congr (fun j => Wr.neI wH9790 (Or.inl (G_ne gq66 gq51 (by decide)))) b9766
        have b9800 : UN (tk.toInt ≠ 0) (fun k => fI H9790 q67 k) (fun k => fI s.heap q67 k) := UN.congr (fun j => Wr.neI wH9790 (Or.inl (G_ne gq67 gq51 (by decide)))) b9767
        have b9801 : UN (tk.toInt = 0) (fun k => fI H9790 iq k) (fun k => fI s.heap iq k) := UN.congr (fun j => Wr.neI wH9790 (Or.inl (G_ne giq gq51 (by decide)))) b9780
        have b9802 : FB (fun k => fI H9790 iq k) (fun k => fI s.heap iq k) (4796) := FB.congr (fun j => Wr.neI wH9790 (Or.inl (G_ne giq gq51 (by decide)))) b9781
        have b9803 : EQ (fun k => fI H9790 q51 k) (fun k => fI H9790 iq k) (4796) (2) (x9740.toNatClampNeg + 1) := EQ.st b9782 (i := x9740.toNatClampNeg) (t := x9741.toNatClampNeg) (by omega) m9756 (by omega) (Wr.I wH9790) (fun j hj => Wr.neI wH9790 (Or.inr hj)) (fun j => Wr.neI wH9790 (Or.inl (G_ne giq gq51 (by decide))))
        have b9804 : EQ (fun k => fI H9790 q52 k) (fun k => fI H9790 iq k) (4797) (2) (x9740.toNatClampNeg) := EQ.congr (fun j => Wr.neI wH9790 (Or.inl (G_ne gq52 gq51 (by decide)))) (fun j => Wr.neI wH9790 (Or.inl (G_ne giq gq51 (by decide)))) b9783
        have b9805 : EQ (fun k => fI H9790 q53 k) (fun k => fI H9790 iq k) (5036) (2) (0) := EQ.congr (fun j => Wr.neI wH9790 (Or.inl (G_ne gq53 gq51 (by decide)))) (fun j => Wr.neI wH9790 (Or.inl (G_ne giq gq51 (by decide)))) b9784
        have b9806 : EQ (fun k => fI H9790 q54 k) (fun k => fI H9790 iq k) (5037) (2) (0) := EQ.congr (fun j => Wr.neI wH9790 (Or.inl (G_ne gq54 gq51 (by decide)))) (fun j => Wr.neI wH9790 (Or.inl (G_ne giq gq51 (by decide)))) b9785
        have b9807 : EQ (fun k => fI H9790 q63 k) (fun k => fI H9790 iq k) (8876) (4) (0) := EQ.congr (fun j => Wr.neI wH9790 (Or.inl (G_ne gq63 gq51 (by decide)))) (fun j => Wr.neI wH9790 (Or.inl (G_ne giq gq51 (by decide)))) b9786
        have b9808 : EQ (fun k => fI H9790 q64 k) (fun k => fI H9790 iq k) (8877) (4) (0) := EQ.congr (fun j => Wr.neI wH9790 (Or.inl (G_ne gq64 gq51 (by decide)))) (fun j => Wr.neI wH9790 (Or.inl (G_ne giq gq51 (by decide)))) b9787
        have b9809 : EQ (fun k => fI H9790 q66 k) (fun k => fI H9790 iq k) (8878) (4) (0) := EQ.congr (fun j => Wr.neI wH9790 (Or.inl (G_ne gq66 gq51 (by decide)))) (fun j => Wr.neI wH9790 (Or.inl (G_ne giq gq51 (by decide)))) b9788
        have b9810 : EQ (fun k => fI H9790 q67 k) (fun k => fI H9790 iq k) (8879) (4) (0) := EQ.congr (fun j => Wr.neI wH9790 (Or.inl (G_ne gq67 gq51 (by decide)))) (fun j => Wr.neI wH9790 (Or.inl (G_ne giq gq51 (by decide)))) b9789
        have m9812 := m9753.trans (Wr.neR wH9790 (Or.inl (G_ne ga0 gq51 (by decide)))).symm
        have m9813 := m9770.trans (Wr.neR wH9790 (Or.inl (G_ne ga0 gq51 (by decide)))).symm
        have m9814 := m9771.trans (Wr.neR wH9790 (Or.inl (G_ne ga0 gq51 (by decide)))).symm
        have m9815 := m9772.trans (Wr.neR wH9790 (Or.inl (G_ne ga0 gq51 (by decide)))).symm
        have m9816 := m9773.trans (Wr.neR wH9790 (Or.inl (G_ne ga0 gq51 (by decide)))).symm
        have m9817 := m9774.trans (Wr.neR wH9790 (Or.inl (G_ne ga0 gq51 (by decide)))).symm
        have m9818 := m9775.trans (Wr.neR wH9790 (Or.inl (G_ne ga0 gq51 (by decide)))).symm
        have m9819 := m9776.trans (Wr.neR wH9790 (Or.inl (G_ne ga0 gq51 (by decide)))).symm
        have m9820 := m9777.trans (Wr.neR wH9790 (Or.inl (G_ne ga0 gq51 (by decide)))).symm
        have m9821 := m9778.trans (Wr.neI wH9790 (Or.inl (G_ne ga0 gq51 (by decide)))).symm
        have m9822 := ex9752.trans (Wr.neI wH9790 (Or.inl (G_ne ga0 gq51 (by decide)))).symm
        have m9823 := Wr.I wH9790
        have m9823 := m9823.symm
        clear b9760 b9761 b9762 b9763 b9764 b9765 b9766 b9767 b9780 b9781 b9782 b9783 b9784 b9785 b9786 b9787 b9788 b9789 ex9752 g9754 hTH9750 m9753 m9768 m9770 m9771 m9772 m9773 m9774 m9775 m9776 m9777 m9778 mf9779
        refine lv_aload_n hx hb dX10_keepsTaps_24 rfl (lv_at hl9739 0 rfl) ?_
        refine x_gr C hTH9790 (ci := 10) (k := 52) rfl inX10 (by decide) wF_X10_122 ga0 rg_112 rfl dX10_keepsTaps_25 (fun q9824 eq9824 gq9824 => ?_)
        have uq9824 : q52 = q9824 := (m9814).trans eq9824.symm
        subst uq9824
        clear eq9824
        refine lv_iload_n hx hb dX10_keepsTaps_28 rfl (lv_at hl9739 1 rfl) ?_
        refine lv_aload_n hx hb dX10_keepsTaps_29 rfl (lv_at hl9739 0 rfl) ?_
        refine lv_aload_n hx hb dX10_keepsTaps_30 rfl (lv_at hl9739 0 rfl) ?_
        refine x_gr C hTH9790 (ci := 10) (k := 52) rfl inX10 (by decide) wF_X10_122 ga0 rg_112 rfl dX10_keepsTaps_31 (fun q9825 eq9825 gq9825 => ?_)
        have uq9825 : q52 = q9825 := (m9814).trans eq9825.symm
        subst uq9825
        clear eq9825
        refine lv_iload_n hx hb dX10_keepsTaps_34 rfl (lv_at hl9739 1 rfl) ?_
        refine x_ai C hTH9790 gq52 rg_148 ⟨bx9740.1, by show _ < ((120 : Nat) : Int); omega⟩ dX10_keepsTaps_35 (fun x9826 ex9826 bx9826 => ?_)
        refine x_V (As := [.int x9826]) (rest := [.int x9740, .ref q52]) C (a_X10_kept l K G H9790 (x9826) (x9752) (tk) hTH9790 ga0 giq m9812 m9822 m9821 g9792 (by and_intros <;> first | assumption | omega)) yo_X10_kept wM_X10_473 ⟨⟨by decide, by decide⟩, by decide, by decide⟩ (x_rv C hTH9790 (ci := 10) rfl ga0 rg_112) rfl hl9739.1 rfl (Nat.le_of_ble_eq_true rfl) dX10_keepsTaps_36 hSH9790 (AE_sub (fun _ _ => rfl) (by decide) hSH9790.1) (fun vH9827 H9827 locsH9827 pH9827 zH9827 kH9827 hSH9827 => ?_)
        obtain ⟨x9828, x9829, hvH9827, ex9829, hrH9827, m9830, g9831, mf9832, m9833, m9834, m9835, m9836, hTH9827⟩ := pH9827
        subst hvH9827
        clear zH9827
        replace m9830 := EQN.mk m9830
        have b9837 : UN (tk.toInt ≠ 0) (fun k => fI H9827 q51 k) (fun k => fI s.heap q51 k) := UN.congr (fun j => fI_kept (x_lt hTH9790 kH9827 gq51 (by decide))) b9793
        have b9838 : UN (tk.toInt ≠ 0) (fun k => fI H9827 q52 k) (fun k => fI s.heap q52 k) := UN.congr (fun j => fI_kept (x_lt hTH9790 kH9827 gq52 (by decide))) b9794
        have b9839 : UN (tk.toInt ≠ 0) (fun k => fI H9827 q53 k) (fun k => fI s.heap q53 k) := UN.congr (fun j => fI_kept (x_lt hTH9790 kH9827 gq53 (by decide))) b9795
        have b9840 : UN (tk.toInt ≠ 0) (fun k => fI H9827 q54 k) (fun k => fI s.heap q54 k) := UN.congr (fun j => fI_kept (x_lt hTH9790 kH9827 gq54 (by decide))) b9796
        have b9841 : UN (tk.toInt ≠ 0) (fun k => fI H9827 q63 k) (fun k => fI s.heap q63 k) := UN.congr (fun j => fI_kept (x_lt hTH9790 kH9827 gq63 (by decide))) b9797
        have b9842 : UN (tk.toInt ≠ 0) (fun k => fI H9827 q64 k) (fun k => fI s.heap q64 k) := UN.congr (fun j => fI_kept (x_lt hTH9790 kH9827 gq64 (by decide))) b9798
        have b9843 : UN (tk.toInt ≠ 0) (fun k => fI H9827 q66 k) (fun k => fI s.heap q66 k) := UN.congr (fun j => fI_kept (x_lt hTH9790 kH9827 gq66 (by decide))) b9799
        have b9844 : UN (tk.toInt ≠ 0) (fun k => fI H9827 q67 k) (fun k => fI s.heap q67 k) := UN.congr (fun j => fI_kept (x_lt hTH9790 kH9827 gq67 (by decide))) b9800
        have m9845 := (m9823).trans (fI_kept (x_lt hTH9790 kH9827 gq51 (by decide))).symm
        have m9846 := (ex9826).trans (fI_kept (x_lt hTH9790 kH9827 gq52 (by decide))).symm
        have m9847 := (m9812).trans (MF.r mf9832 (k := 73) (by decide) (by decide)).symm
        have m9848 := (m9813).trans (MF.r mf9832 (k := 51) (by decide) (by decide)).symm
        have m9849 := (m9814).trans (MF.r mf9832 (k := 52) (by decide) (by decide)).symm
        have m9850 := (m9815).trans (MF.r mf9832 (k := 53) (by decide) (by decide)).symm
        have m9851 := (m9816).trans (MF.r mf9832 (k := 54) (by decide) (by decide)).symm
        have m9852 := (m9817).trans (MF.r mf9832 (k := 63) (by decide) (by decide)).symm
        have m9853 := (m9818).trans (MF.r mf9832 (k := 64) (by decide) (by decide)).symm
        have m9854 := (m9819).trans (MF.r mf9832 (k := 66) (by decide) (by decide)).symm
        have m9855 := (m9820).trans (MF.r mf9832 (k := 67) (by decide) (by decide)).symm
        have m9856 := (m9821).trans (MF.i mf9832 (k := 71) (by decide) (by decide)).symm
        have mf9857 : MF K s.heap H9827 a0 [72] := MF.trans mf9791 mf9832 (by decide)
        have bx9829 := ty_fi (x := x9829) (k := 72) ex9829 hTH9827 ga0 rg_112 rfl
        have ce_x9752 := i_cl (x := x9752) bx9752.1
        have e_ : x9752.toNatClampNeg = 4797 + 2 * x9740.toNatClampNeg := by omega
        have k3e_ := m9835
        rw [e_] at k3e_
        have b9858 : UN (tk.toInt = 0) (fun k => fI H9827 iq k) (fun k => fI s.heap iq k) := UN.tr m9836 b9801
        have b9859 : FB (fun k => fI H9827 iq k) (fun k => fI s.heap iq k) (4796) := FB.wr b9802 k3e_ (fun j hj => Nat.ne_of_lt (Nat.lt_of_lt_of_le hj (Nat.le_trans (by decide : 4796 ≤ 4797) (Nat.le_add_right _ _))))
        have b9860 : EQ (fun k => fI H9827 q51 k) (fun k => fI H9827 iq k) (4796) (2) (x9740.toNatClampNeg + 1) := EQ.wr (EQ.congr (w1 := fun k => fI H9790 iq k) (fun j => fI_kept (x_lt hTH9790 kH9827 gq51 (by decide))) (fun _ => rfl) b9803) k3e_ (fun j hj => nE_4796_2_i1_4797_2 hj)
        have b9861 : EQ (fun k => fI H9827 q52 k) (fun k => fI H9827 iq k) (4797) (2) (x9740.toNatClampNeg) := EQ.wr (EQ.congr (w1 := fun k => fI H9790 iq k) (fun j => fI_kept (x_lt hTH9790 kH9827 gq52 (by decide))) (fun _ => rfl) b9804) k3e_ (fun j hj => nE_4797_2_i_4797_2 hj)
        have b9862 : EQ (fun k => fI H9827 q53 k) (fun k => fI H9827 iq k) (5036) (2) (0) := EQ.wr (EQ.congr (w1 := fun k => fI H9790 iq k) (fun j => fI_kept (x_lt hTH9790 kH9827 gq53 (by decide))) (fun _ => rfl) b9805) k3e_ (fun j hj => nE_5036_2_0_4797_2 hj)
        have b9863 : EQ (fun k => fI H9827 q54 k) (fun k => fI H9827 iq k) (5037) (2) (0) := EQ.wr (EQ.congr (w1 := fun k => fI H9790 iq k) (fun j => fI_kept (x_lt hTH9790 kH9827 gq54 (by decide))) (fun _ => rfl) b9806) k3e_ (fun j hj => nE_5037_2_0_4797_2 hj)
        have b9864 : EQ (fun k => fI H9827 q63 k) (fun k => fI H9827 iq k) (8876) (4) (0) := EQ.wr (EQ.congr (w1 := fun k => fI H9790 iq k) (fun j => fI_kept (x_lt hTH9790 kH9827 gq63 (by decide))) (fun _ => rfl) b9807) k3e_ (fun j hj => nE_8876_4_0_4797_2 hj)
        have b9865 : EQ (fun k => fI H9827 q64 k) (fun k => fI H9827 iq k) (8877) (4) (0) := EQ.wr (EQ.congr (w1 := fun k => fI H9790 iq k) (fun j => fI_kept (x_lt hTH9790 kH9827 gq64 (by decide))) (fun _ => rfl) b9808) k3e_ (fun j hj => nE_8877_4_0_4797_2 hj)
        have b9866 : EQ (fun k => fI H9827 q66 k) (fun k => fI H9827 iq k) (8878) (4) (0) := EQ.wr (EQ.congr (w1 := fun k => fI H9790 iq k) (fun j => fI_kept (x_lt hTH9790 kH9827 gq66 (by decide))) (fun _ => rfl) b9809) k3e_ (fun j hj => nE_8878_4_0_4797_2 hj)
        have b9867 : EQ (fun k => fI H9827 q67 k) (fun k => fI H9827 iq k) (8879) (4) (0) := EQ.wr (EQ.congr (w1 := fun k => fI H9790 iq k) (fun j => fI_kept (x_lt hTH9790 kH9827 gq67 (by decide))) (fun _ => rfl) b9810) k3e_ (fun j hj => nE_8879_4_0_4797_2 hj)
        clear b9793 b9794 b9795 b9796 b9797 b9798 b9799 b9800 b9801 b9802 b9803 b9804 b9805 b9806 b9807 b9808 b9809 b9810 ex9826 m9812 m9813 m9814 m9815 m9816 m9817 m9818 m9819 m9820 m9821 m9822 m9823
        clear m9835 m9836 k3e_ e_
        refine W.eq (g2 := F0 m 39 ls9738 [.int x9828, .int x9740, .ref q52]) rfl ?_
        refine x_iast C hTH9827 hSH9827 gq52 rg_148 bx9740.1 (by show _ < ((120 : Nat) : Int); omega) (i_rng x9828) (AE_in gq52 (by decide)) dX10_keepsTaps_39 (fun H9868 locsH9868 hTH9868 hSH9868 wH9868 => ?_)
        have mf9869 : MF K s.heap H9868 a0 [72] := MF.arr wH9868 (G_ne ga0 gq52 (by decide)) mf9857
        have g9870 : WD (avw K H9868 a0) := WD.congr (fun k hk j => av_arr hTH9827 ga0 wH9868 gq52 (by decide) (WD_ok 148 (by decide) k hk)) g9831
        have b9871 : UN (tk.toInt ≠ 0) (fun k => fI H9868 q51 k) (fun k => fI s.heap q51 k) := UN.congr (fun j => Wr.neI wH9868 (Or.inl (G_ne gq51 gq52 (by decide)))) b9837
        have b9872 : UN (tk.toInt ≠ 0) (fun k => fI H9868 q52 k) (fun k => fI s.heap q52 k) := UN.st b9838 (i := x9740.toNatClampNeg) (fun hc => (m9834 hc).trans m9846) (Wr.I wH9868) (fun j hj => Wr.neI wH9868 (Or.inr hj))
        have b9873 : UN (tk.toInt ≠ 0) (fun k => fI H9868 q53 k) (fun k => fI s.heap q53 k) := UN.congr (fun j => Wr.neI wH9868 (Or.inl (G_ne gq53 gq52 (by decide)))) b9839
        have b9874 : UN (tk.toInt ≠ 0) (fun k => fI H9868 q54 k) (fun k => fI s.heap q54 k) := UN.congr (fun j => Wr.neI wH9868 (Or.inl (G_ne gq54 gq52 (by decide)))) b9840
        have b9875 : UN (tk.toInt ≠ 0) (fun k => fI H9868 q63 k) (fun k => fI s.heap q63 k) := UN.congr (fun j => Wr.neI wH9868 (Or.inl (G_ne gq63 gq52 (by decide)))) b9841
        have b9876 : UN (tk.toInt ≠ 0) (fun k => fI H9868 q64 k) (fun k => fI s.heap q64 k) := UN.congr (fun j => Wr.neI wH9868 (Or.inl (G_ne gq64 gq52 (by decide)))) b9842
        have b9877 : UN (tk.toInt ≠ 0) (fun k => fI H9868 q66 k) (fun k => fI s.heap q66 k) := UN.congr (fun j => Wr.neI wH9868 (Or.inl (G_ne gq66 gq52 (by decide)))) b9843
        have b9878 : UN (tk.toInt ≠ 0) (fun k => fI H9868 q67 k) (fun k => fI s.heap q67 k) := UN.congr (fun j => Wr.neI wH9868 (Or.inl (G_ne gq67 gq52 (by decide)))) b9844
        have b9879 : UN (tk.toInt = 0) (fun k => fI H9868 iq k) (fun k => fI s.heap iq k) := UN.congr (fun j => Wr.neI wH9868 (Or.inl (G_ne giq gq52 (by decide)))) b9858
        have b9880 : FB (fun k => fI H9868 iq k) (fun k => fI s.heap iq k) (4796) := FB.congr (fun j => Wr.neI wH9868 (Or.inl (G_ne giq gq52 (by decide)))) b9859
        have b9881 : EQ (fun k => fI H9868 q51 k) (fun k => fI H9868 iq k) (4796) (2) (x9740.toNatClampNeg + 1) := EQ.congr (fun j => Wr.neI wH9868 (Or.inl (G_ne gq51 gq52 (by decide)))) (fun j => Wr.neI wH9868 (Or.inl (G_ne giq gq52 (by decide)))) b9860
        have b9882 : EQ (fun k => fI H9868 q52 k) (fun k => fI H9868 iq k) (4797) (2) (x9740.toNatClampNeg + 1) := EQ.st b9861 (i := x9740.toNatClampNeg) (t := x9752.toNatClampNeg) (by omega) m9833 (by omega) (Wr.I wH9868) (fun j hj => Wr.neI wH9868 (Or.inr hj)) (fun j => Wr.neI wH9868 (Or.inl (G_ne giq gq52 (by decide))))
        have b9883 : EQ (fun k => fI H9868 q53 k) (fun k => fI H9868 iq k) (5036) (2) (0) := EQ.congr (fun j => Wr.neI wH9868 (Or.inl (G_ne gq53 gq52 (by decide)))) (fun j => Wr.neI wH9868 (Or.inl (G_ne giq gq52 (by decide)))) b9862
        have b9884 : EQ (fun k => fI H9868 q54 k) (fun k => fI H9868 iq k) (5037) (2) (0) := EQ.congr (fun j => Wr.neI wH9868 (Or.inl (G_ne gq54 gq52 (by decide)))) (fun j => Wr.neI wH9868 (Or.inl (G_ne giq gq52 (by decide)))) b9863
        have b9885 : EQ (fun k => fI H9868 q63 k) (fun k => fI H9868 iq k) (8876) (4) (0) := EQ.congr (fun j => Wr.neI wH9868 (Or.inl (G_ne gq63 gq52 (by decide)))) (fun j => Wr.neI wH9868 (Or.inl (G_ne giq gq52 (by decide)))) b9864
        have b9886 : EQ (fun k => fI H9868 q64 k) (fun k => fI H9868 iq k) (8877) (4) (0) := EQ.congr (fun j => Wr.neI wH9868 (Or.inl (G_ne gq64 gq52 (by decide)))) (fun j => Wr.neI wH9868 (Or.inl (G_ne giq gq52 (by decide)))) b9865
        have b9887 : EQ (fun k => fI H9868 q66 k) (fun k => fI H9868 iq k) (8878) (4) (0) := EQ.congr (fun j => Wr.neI wH9868 (Or.inl (G_ne gq66 gq52 (by decide)))) (fun j => Wr.neI wH9868 (Or.inl (G_ne giq gq52 (by decide)))) b9866
        have b9888 : EQ (fun k => fI H9868 q67 k) (fun k => fI H9868 iq k) (8879) (4) (0) := EQ.congr (fun j => Wr.neI wH9868 (Or.inl (G_ne gq67 gq52 (by decide)))) (fun j => Wr.neI wH9868 (Or.inl (G_ne giq gq52 (by decide)))) b9867
        have m9889 := m9845.trans (Wr.neI wH9868 (Or.inl (G_ne gq51 gq52 (by decide)))).symm
        have m9891 := m9830.trans (Wr.neR wH9868 (Or.inl (G_ne ga0 gq52 (by decide)))).symm
        have m9892 := m9848.trans (Wr.neR wH9868 (Or.inl (G_ne ga0 gq52 (by decide)))).symm
        have m9893 := m9849.trans (Wr.neR wH9868 (Or.inl (G_ne ga0 gq52 (by decide)))).symm
        have m9894 := m9850.trans (Wr.neR wH9868 (Or.inl (G_ne ga0 gq52 (by decide)))).symm
        have m9895 := m9851.trans (Wr.neR wH9868 (Or.inl (G_ne ga0 gq52 (by decide)))).symm
        have m9896 := m9852.trans (Wr.neR wH9868 (Or.inl (G_ne ga0 gq52 (by decide)))).symm
        have m9897 := m9853.trans (Wr.neR wH9868 (Or.inl (G_ne ga0 gq52 (by decide)))).symm
        have m9898 := m9854.trans (Wr.neR wH9868 (Or.inl (G_ne ga0 gq52 (by decide)))).symm
        have m9899 := m9855.trans (Wr.neR wH9868 (Or.inl (G_ne ga0 gq52 (by decide)))).symm
        have m9900 := m9856.trans (Wr.neI wH9868 (Or.inl (G_ne ga0 gq52 (by decide)))).symm
        have m9901 := ex9829.trans (Wr.neI wH9868 (Or.inl (G_ne ga0 gq52 (by decide)))).symm
        have m9902 := Wr.I wH9868
        have m9902 := m9902.symm
        clear b9837 b9838 b9839 b9840 b9841 b9842 b9843 b9844 b9858 b9859 b9860 b9861 b9862 b9863 b9864 b9865 b9866 b9867 ex9829 g9831 hTH9827 m9830 m9845 m9846 m9848 m9849 m9850 m9851 m9852 m9853 m9854 m9855 m9856 mf9857
        obtain ⟨x9903, ex9903⟩ : ∃ y : Int32, y = x9740 + 1 := ⟨_, rfl⟩
        have tx9903 := i_add ex9903 (by omega)
        refine lv_iinc (v := x9903) (lv' := [(1, .int x9903), (0, .ref a0)]) hx hb dX10_keepsTaps_40 hl9739 (k := 1) rfl (by rw [ex9903]; rfl) (by decide) rfl (fun ls9904 hl9905 => ?_)
        refine lv_goto (tgt := 2) hx hb dX10_keepsTaps_43 (by decide) ?_
        have cl_x9903 := i_cl (x := x9903) (by omega)
        exact ih2 ls9904 H9868 locsH9868 (x9903) (x9829) (lv_sub hl9905 [1, 0] rfl) hTH9868 hSH9868 ⟨by have := i_rng x9903; omega, by have := i_rng x9903; omega⟩ bx9829 m9901 m9891 m9892 m9893 m9894 m9895 m9896 m9897 m9898 m9899 m9900 b9879 b9880 (EQ.cast b9881 (by omega)) (EQ.cast b9882 (by omega)) (EQ.cast b9883 (by omega)) (EQ.cast b9884 (by omega)) (EQ.cast b9885 (by omega)) (EQ.cast b9886 (by omega)) (EQ.cast b9887 (by omega)) (EQ.cast b9888 (by omega)) b9871 b9872 b9873 b9874 b9875 b9876 b9877 b9878 mf9869 g9870 (by omega) (by and_intros <;> first | assumption | omega)
  have ui00 : UN (tk.toInt = 0) (fun k => fI s.heap iq k) (fun k => fI s.heap iq k) := UN.rf
  have fb00 : FB (fun k => fI s.heap iq k) (fun k => fI s.heap iq k) (4796) := FB.rf
  have e5100 : EQ (fun k => fI s.heap q51 k) (fun k => fI s.heap iq k) (4796) (2) (0) := EQ.nil rfl
  have e5200 : EQ (fun k => fI s.heap q52 k) (fun k => fI s.heap iq k) (4797) (2) (0) := EQ.nil rfl
  have e5300 : EQ (fun k => fI s.heap q53 k) (fun k => fI s.heap iq k) (5036) (2) (0) := EQ.nil rfl
  have e5400 : EQ (fun k => fI s.heap q54 k) (fun k => fI s.heap iq k) (5037) (2) (0) := EQ.nil rfl
  have e6300 : EQ (fun k => fI s.heap q63 k) (fun k => fI s.heap iq k) (8876) (4) (0) := EQ.nil rfl
  have e6400 : EQ (fun k => fI s.heap q64 k) (fun k => fI s.heap iq k) (8877) (4) (0) := EQ.nil rfl
  have e6600 : EQ (fun k => fI s.heap q66 k) (fun k => fI s.heap iq k) (8878) (4) (0) := EQ.nil rfl
  have e6700 : EQ (fun k => fI s.heap q67 k) (fun k => fI s.heap iq k) (8879) (4) (0) := EQ.nil rfl
  have u5100 : UN (tk.toInt ≠ 0) (fun k => fI s.heap q51 k) (fun k => fI s.heap q51 k) := UN.rf
  have u5200 : UN (tk.toInt ≠ 0) (fun k => fI s.heap q52 k) (fun k => fI s.heap q52 k) := UN.rf
  have u5300 : UN (tk.toInt ≠ 0) (fun k => fI s.heap q53 k) (fun k => fI s.heap q53 k) := UN.rf
  have u5400 : UN (tk.toInt ≠ 0) (fun k => fI s.heap q54 k) (fun k => fI s.heap q54 k) := UN.rf
  have u6300 : UN (tk.toInt ≠ 0) (fun k => fI s.heap q63 k) (fun k => fI s.heap q63 k) := UN.rf
  have u6400 : UN (tk.toInt ≠ 0) (fun k => fI s.heap q64 k) (fun k => fI s.heap q64 k) := UN.rf
  have u6600 : UN (tk.toInt ≠ 0) (fun k => fI s.heap q66 k) (fun k => fI s.heap q66 k) := UN.rf
  have u6700 : UN (tk.toInt ≠ 0) (fun k => fI s.heap q67 k) (fun k => fI s.heap q67 k) := UN.rf
  refine lv_iconst (v := 0) hx hb dX10_keepsTaps_0 (by decide) ?_
  refine lv_istore_n (lv' := [(1, .int 0), (0, .ref a0)]) hx hb dX10_keepsTaps_1 rfl hl (by decide) rfl (fun ls9906 hl9907 => ?_)
  have cl00 : (0 : Int32).toNatClampNeg = 0 := rfl
  exact J2 ((120 - (0 : Int32).toInt).toNat + 1) ls9906 s.heap [] (0) (ia) (lv_sub hl9907 [1, 0] rfl) hT hS (by decide) ⟨by have := i_rng ia; omega, by have := i_rng ia; omega⟩ eia eiq eq51 eq52 eq53 eq54 eq63 eq64 eq66 eq67 etk ui00 fb00 (EQ.cast e5100 (by omega)) (EQ.cast e5200 (by omega)) (EQ.cast e5300 (by omega)) (EQ.cast e5400 (by omega)) (EQ.cast e6300 (by omega)) (EQ.cast e6400 (by omega)) (EQ.cast e6600 (by omega)) (EQ.cast e6700 (by omega)) u5100 u5200 u5300 u5400 u6300 u6400 u6600 u6700 mf0 hg_WD (by omega) (by and_intros <;> first | assumption | omega)
